/-! statics, final fields, copying -/
section ZMo
variable {G : zG} {M : zM} {K : zK} {R : Room} {kc ks sz pc : Nat} {lo : List (Nat × Value)} {st : List Value} {w : zW}
def zGs (own : String) (idx : Nat) (n d : String) : Prop := zin (.fieldLink own idx "RingCipher" n d) ∨ ∃ host, zin (.fieldLinkNest own idx "RingCipher" n d host)
theorem V_getSz {idx : Nat} (d : decode M.2.1 pc = .ok (.getstatic idx, 3)) (hg : zGs M.1.cls idx "SIZES" "[I") (k : V G M K R kc ks sz (pc + 3) lo (.ref (G.2.2.2 0) :: st) w) : V G M K R kc ks sz pc lo st w :=
  fun p l e s m args below meth c F ls H locs hl hw hS => by
    rcases hg with hg | ⟨host, hg⟩
    · exact va_gets F.1 F.2.1 F.kn.2.1.1 hS F.own (F.wd.use hg _) (fun _ h => h) d (k p l e s m args below meth c F ls H locs hl hw hS)
    · exact va_getsN F.1 F.2.1 F.kn.2.1.1 hS F.own (F.wd.use hg _) (fun _ h => h) d (k p l e s m args below meth c F ls H locs hl hw hS)
theorem V_getMo {idx : Nat} (d : decode M.2.1 pc = .ok (.getstatic idx, 3)) (hg : zGs M.1.cls idx "MODULI" "[I") (k : V G M K R kc ks sz (pc + 3) lo (.ref (G.2.2.2 1) :: st) w) : V G M K R kc ks sz pc lo st w :=
  fun p l e s m args below meth c F ls H locs hl hw hS => by
    rcases hg with hg | ⟨host, hg⟩
    · exact va_gets F.1 F.2.1 F.kn.2.2.1.1 hS F.own (F.wd.use hg _) (fun _ h => h) d (k p l e s m args below meth c F ls H locs hl hw hS)
    · exact va_getsN F.1 F.2.1 F.kn.2.2.1.1 hS F.own (F.wd.use hg _) (fun _ h => h) d (k p l e s m args below meth c F ls H locs hl hw hS)
theorem V_ldSz {i : Int32} {v : Value} (d : decode M.2.1 pc = .ok (.iaload, 1)) (hin : vp_in i 3) (hv : zSz i.toNatClampNeg = v) (k : V G M K R kc ks sz (pc + 1) lo (v :: st) w) : V G M K R kc ks sz pc lo (.int i :: .ref (G.2.2.2 0) :: st) w :=
  fun p l e s m args below meth c F ls H locs hl hw hS => va_ti F.1 F.2.1 F.kn.2.1.2 hS hin hv d (k p l e s m args below meth c F ls H locs hl hw hS)
theorem V_ldMo {i : Int32} {v : Value} (d : decode M.2.1 pc = .ok (.iaload, 1)) (hin : vp_in i 3) (hv : zMo i.toNatClampNeg = v) (k : V G M K R kc ks sz (pc + 1) lo (v :: st) w) : V G M K R kc ks sz pc lo (.int i :: .ref (G.2.2.2 1) :: st) w :=
  fun p l e s m args below meth c F ls H locs hl hw hS => va_ti F.1 F.2.1 F.kn.2.2.1.2 hS hin hv d (k p l e s m args below meth c F ls H locs hl hw hS)
theorem V_lenSz (d : decode M.2.1 pc = .ok (.arraylength, 1)) (k : V G M K R kc ks sz (pc + 1) lo (.int (Int32.ofInt 3) :: st) w) : V G M K R kc ks sz pc lo (.ref (G.2.2.2 0) :: st) w :=
  fun p l e s m args below meth c F ls H locs hl hw hS => va_tlen F.1 F.2.1 F.kn.2.1.2 hS rfl d (k p l e s m args below meth c F ls H locs hl hw hS)
/-- a final field, in the constructor of its own class -/
theorem V_putF {a ci k idx : Nat} {fs : List Value} {v : Value} {C : String} {T : u_T} {N : Nat} {ty : FieldType} (d : decode M.2.1 pc = .ok (.putfield idx, 3)) (hf : zFF M.1.cls idx ci k) (h : w a = some (.inr (ci, fs))) (hi0 : M.1.name = "<init>") (hc0 : vwCl[ci]? = some (C, T, N)) (hdc : (T k).1 = M.1.cls) (g2 : parseFieldDescriptor (T k).2.2.1 = some ty) (g3 : narrow ty v = v) (g4 : fits ty v = true) (g5 : (T k).2.2.2 = true) (hlen : k < fs.length)
    (kk : V G M K R kc ks sz (pc + 3) lo st (zset w a (.inr (ci, fs.set k v)))) : V G M K R kc ks sz pc lo (v :: .ref a :: st) w :=
  fun p l e s m args below meth c F ls H locs hl hw hS => by
    obtain ⟨C', T', N', ty0, h1, h2, h3, h4, h5, h6⟩ := hf
    cases h1.symm.trans hc0
    have hts : ∀ q ∈ u_ws C T N, q.before args s = true := fun q hq => F.wd.use (h3 q hq) args
    have hap := va_apart (own := M.1.cls) hts (fun _ hq => hq) ty0 h4 h5 F.kk h1
    obtain ⟨r, r1, cell, q1, q2, q3, q4⟩ := hw.at h
    have hr : r = (C, T, N) := Option.some.inj (r1.symm.trans h1)
    subst hr
    obtain ⟨hSl, hfc, kC, hkC, hkind⟩ := F.kk.1 ci _ h1
    obtain ⟨cf, kf, fi, f, hi, hsl⟩ := hSl k h2
    have hlay := hts _ (u_in_lay h2)
    unfold u_lay at hlay
    rw [if_pos g5] at hlay
    have hst := (u_facts hfc hkC (u_lays hts (fun _ hq => hq) h2) hi).1
    have hcf : m.cls = cf := by
      obtain ⟨_, _, c', _, _, _, -, -, hf', -, -, -, hown2, -⟩ := Cond.laysFinal_spec hlay
      have e1 : c' = cf := by have := hi.symm.trans hf'; simp at this; exact this.1.symm
      rw [hdc] at hown2
      rw [← e1]
      exact Option.some.inj (F.own.symm.trans hown2)
    have h8 := u_fits hfc hkC hkind (Or.inr hlay) hi g2 g3 g4
    rcases h6 with h6 | ⟨host, h6⟩
    · refine W.putFinK F.1 F.2.1 F.own (F.wd.use h6 args) hi hst hcf (F.nm.trans hi0) (by rw [q2]; exact h8) q1 q3 (by rw [hsl]; exact k2_hasslot (q4 k h2)) rfl rfl d fun H' e1 e2 e3 => ?_
      exact kk p l e s m args below meth c F ls H' _ hl (hw.put h (zob_set (D := G.1) h1 h2 hlen hap q2 q3 q4 (by rw [← hsl]; exact e1)) e2 e3) (hS.put e2 e3 (hw.2.2 _ _ h).1)
    · have ha : a < H.size := (Array.getElem?_eq_some_iff.mp q1).1
      refine va_Wputf F.1 F.2.1 F.own (F.wd.use h6 args) hi hst (Or.inr ⟨hcf, F.nm.trans hi0⟩) q1 (by rw [q3]; exact fun q => by cases q) (by rw [hsl]; exact k2_hasslot (q4 k h2)) h8.1 (by rw [q2, q3]; exact h8.2) rfl rfl d ?_
      have e2 : (H.setIfInBounds a (cell.setSlot f.slot v)).size = H.size := by simp
      have e3 : ∀ q, q ≠ a → (H.setIfInBounds a (cell.setSlot f.slot v))[q]? = H[q]? := fun q hq => by simp [Array.getElem?_setIfInBounds, Ne.symm hq]
      exact kk p l e s m args below meth c F ls _ _ hl (hw.put h (zob_set (D := G.1) h1 h2 hlen hap q2 q3 q4 (by rw [← hsl]; simp [Array.getElem?_setIfInBounds, ha])) e2 e3) (hS.put e2 e3 (hw.2.2 _ _ h).1)
/-- System.arraycopy of the first longs of a row into another row -/
theorem J_copy {a a0 n0 n1 idx : Nat} {f g : Int → Int} {n : Int} (d : decode M.2.1 pc = .ok (.invokestatic idx, 3)) (h1 : zin (.methodLink M.1.cls idx arraycopyName)) (h2 : zin (.native arraycopyName)) (h3 : zin (.static arraycopyName)) (h4 : zin (.initialized "java/lang/System")) (hf : w a0 = some (zro G n0 f)) (hg : w a = some (zro G n1 g)) (hn : 0 ≤ n ∧ n ≤ n0 ∧ n ≤ n1 ∧ n < 2147483648) (hfr : 1 ≤ R.frames) (hlo : (st.map fun v => v.category).sum + 18 ≤ R.locals)
    (k : V G M K R kc ks sz (pc + 3) lo st (zset w a (zro G n1 (zif n f g)))) : V G M K R kc ks sz pc lo (.int (Int32.ofInt n) :: .int (Int32.ofInt 0) :: .ref a :: .int (Int32.ofInt 0) :: .ref a0 :: st) w :=
  fun p l e s m args below meth c F ls H locs hl hw hS => by
    have hc : (Int32.ofInt n).toNatClampNeg = n.toNat := z32_clamp hn.1 (by omega)
    have hz : (Int32.ofInt 0).toNatClampNeg = 0 := by decide
    have hnn : ¬ Int32.ofInt n < 0 := by
      rw [← z32_0, z32_lt (by omega) (by omega)]
      omega
    intro T hT X
    have hc0 : H[a0]? = some (vp_cell (G.2.1 0) (n0, .inr (.inl (fun j => Int64.ofInt (f j))))) := hw.at hf
    have hc1 : H[a]? = some (vp_cell (G.2.1 0) (n1, .inr (.inl (fun j => Int64.ofInt (g j))))) := hw.at hg
    obtain ⟨-, k0, hk0, cm0, hkk0⟩ := (F.kk.2 0 _ rfl).1 n0 (fun j => .long (Int64.ofInt (f j)))
    obtain ⟨vm', X', step⟩ := X.arraycopy F.1 F.own (F.wd.use h1 _) (F.wd.use h2 _) (F.wd.use h3 _) (F.wd.use h4 _) (src := a0) (dst := a) (cs := vp_cell (G.2.1 0) (n0, .inr (.inl (fun j => Int64.ofInt (f j))))) (cd := vp_cell (G.2.1 0) (n1, .inr (.inl (fun j => Int64.ofInt (g j))))) (srcPos := Int32.ofInt 0) (destPos := Int32.ofInt 0) (n := Int32.ofInt n) (by rw [hT]; exact hc0) (by rw [hT]; exact hc1)
      (fun _ h => by cases h) (fun _ h => by cases h) (fun h => by cases h) (fun h => by cases h) hk0 hk0 hkk0 hkk0 rfl (by decide) (by decide) hnn
      (by rw [z32 (z := n) (by omega), show (Int32.ofInt 0).toInt = 0 by decide]; show ¬ _ > ((arrV (G.2.1 0) n0 (fun j => .long (Int64.ofInt (f j)))).slots.size : Int); rw [arrV_size]; omega)
      (by rw [z32 (z := n) (by omega), show (Int32.ofInt 0).toInt = 0 by decide]; show ¬ _ > ((arrV (G.2.1 0) n1 (fun j => .long (Int64.ofInt (g j)))).slots.size : Int); rw [arrV_size]; omega)
      (fun vm₁ _ i hi => by
        have e : (vp_cell (G.2.1 0) (n0, .inr (.inl (fun j => Int64.ofInt (f j))))).slots.getD ((Int32.ofInt 0).toNatClampNeg + i) .null = .long (Int64.ofInt (f ((0 + i : Nat) : Int))) := by
          show (arrV (G.2.1 0) n0 (fun j => .long (Int64.ofInt (f j)))).slots.getD _ _ = _
          rw [hz, Array.getD_eq_getD_getElem?, arrV_read _ _ (by rw [hc] at hi; omega)]
          rfl
        rw [e]
        exact ⟨rfl, trivial⟩)
      (g := F0 m pc ls (.int (Int32.ofInt n) :: .int (Int32.ofInt 0) :: .ref a :: .int (Int32.ofInt 0) :: .ref a0 :: st)) rfl (by rw [F.ml]; exact hl.1) (rest := st) rfl (by rw [F.2.1]; exact d) hfr (by show 2 * 0 + _ + (7 + 11) ≤ _; omega)
    have e1 : copied (vp_cell (G.2.1 0) (n0, .inr (.inl (fun j => Int64.ofInt (f j))))) (vp_cell (G.2.1 0) (n1, .inr (.inl (fun j => Int64.ofInt (g j))))) (Int32.ofInt 0) (Int32.ofInt 0) (Int32.ofInt n) = vp_cell (G.2.1 0) (n1, .inr (.inl (fun j => Int64.ofInt (zif n f g j)))) := by
      refine (va_copied (fun z => .long z) (G.2.1 0) (G.2.1 0) (fun j => Int64.ofInt (f j)) (fun j => Int64.ofInt (g j)) (by rw [hz, hc]; omega)).trans ?_
      rw [hz, hc, vp_cell_l]
      congr 1
      funext j
      unfold va_cpy zif
      by_cases hj : j < n.toNat
      · rw [if_pos (by omega), if_pos (by omega)]
        congr 3
        omega
      · rw [if_neg (by omega), if_neg (by omega)]
    rw [e1] at X' step
    have hlt : a < H.size := (Array.getElem?_eq_some_iff.mp hc1).1
    have oq : ∀ (y : Cell) (q : Nat), q ≠ a → (H.setIfInBounds a y)[q]? = H[q]? := fun y q hq => by simp [Array.getElem?_setIfInBounds, Ne.symm hq]
    obtain ⟨t, a1, b1⟩ := k p l e s m args below meth c F ls (H.setIfInBounds a (vp_cell (G.2.1 0) (n1, .inr (.inl (fun j => Int64.ofInt (zif n f g j)))))) _ hl
      (hw.put hg (show (H.setIfInBounds a _)[a]? = some _ by simp [Array.getElem?_setIfInBounds, hlt]) (by simp) (oq _))
      ⟨by simp; exact hS.1, fun q g1 g2 => by
        rw [oq _ q (fun e => g2 (by rw [e]; exact (hw.2.2 _ _ hg).1))]
        exact hS.2.1 q g1 g2, fun q hq => by
        rcases List.mem_append.mp hq with h | h
        · exact hS.2.2 q h
        · obtain ⟨z, -, hz⟩ := List.mem_map.mp h
          rw [← hz]
          exact (hw.2.2 _ _ hg).1⟩ _ (by rw [← hT]; rfl) X'
    exact ⟨t, step t a1, b1⟩
end ZMo
