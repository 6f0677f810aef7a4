/-! making cells, statics, copying -/
theorem zouter (c : ClassId) (N h0 : Nat) : ∀ i : Nat, Jvm.Free.Multi.outerC c N h0 i = arrV c N (fun j => va_rf (if j < i then some (h0 + 1 + j) else none))
  | 0 => by
    show ({ cls := c, slots := Array.replicate N .null, vm := .none } : Cell) = _
    rw [arrV_new]
    exact congrArg (arrV c N) (funext fun j => by simp [va_rf])
  | i + 1 => by
    show (Jvm.Free.Multi.outerC c N h0 i).setSlot i (.ref (h0 + 1 + i)) = _
    rw [zouter c N h0 i, arrV_store]
    refine congrArg (arrV c N) (funext fun j => ?_)
    unfold updV
    by_cases h : j = i
    · subst h
      rw [if_pos rfl, if_pos (Nat.lt_succ_self j)]
      rfl
    · rw [if_neg h]
      show va_rf (if j < i then some (h0 + 1 + j) else none) = _
      by_cases h2 : j < i
      · rw [if_pos h2, if_pos (by omega)]
      · rw [if_neg h2, if_neg (by omega)]
section ZMk
variable {G : zG} {M : zM} {K : zK} {R : Room} {kc ks sz pc : Nat} {lo : List (Nat × Value)} {st : List Value} {w : zW}
theorem zS_new {G : zG} {s : State} {H H1 : Heap} {locs : List Loc} (hS : va_S (zA G) s.heap H locs) (h1 : H.size ≤ H1.size) (ho : ∀ q, q < H.size → H1[q]? = H[q]?) : va_S (zA G) s.heap H1 locs :=
  ⟨Nat.le_trans hS.1 h1, fun q a b => (ho q (Nat.lt_of_lt_of_le a hS.1)).trans (hS.2.1 q a b), hS.2.2⟩
theorem V_objInit {idx a : Nat} (d : decode M.2.1 pc = .ok (.invokespecial idx, 3)) (h1 : zin (.methodLink M.1.cls idx Lib.objectInit)) (h2 : zin (.instanceMethod Lib.objectInit)) (h3 : zin (.code Lib.objectInit ⟨#[0xb1]⟩ 1 none)) (hf : 1 ≤ R.frames) (hlo : (st.map fun v => v.category).sum + 12 ≤ R.locals)
    (k : V G M K R kc ks sz (pc + 3) lo st w) : V G M K R kc ks sz pc lo (.ref a :: st) w :=
  fun p l e s m args below meth c F ls H locs hl hw hS => W.objInit F.1 F.2.1 F.own (F.wd.use h1 _) (F.wd.use h2 _) (F.wd.use h3 _) rfl (by rw [F.ml]; exact hl.1) rfl d hf (by show 2 * 0 + _ + 12 ≤ _; omega) (k p l e s m args below meth c F ls H locs hl hw hS)
theorem V_new {ci idx N : Nat} {C : String} {T : u_T} {ty : Nat → FieldType} (fs : List Value) (d : decode M.2.1 pc = .ok (.new idx, 3)) (hcl : vwCl[ci]? = some (C, T, N)) (hk : zin (.classLink M.1.cls idx C)) (hi : zin (.instantiable C N)) (hini : zin (.initialized C)) (hts : ∀ q ∈ u_ws C T N, zin q)
    (hty : ∀ k, k < N → parseFieldDescriptor (T k).2.2.1 = some (ty k)) (hfs : ∀ j, j < N → defaultValue (ty j) = vp_V fs j) (hc : kc + 1 ≤ R.cells) (hs : ks + N ≤ R.slots)
    (k : V G M K R (kc + 1) (ks + N) (sz + 1) (pc + 3) lo (.ref sz :: st) (zset w sz (.inr (ci, fs)))) : V G M K R kc ks sz pc lo st w :=
  fun p l e s m args below meth c F ls H locs hl hw hS => by
    have hKn := F.kk.1 ci _ hcl
    refine W.newcK F.1 F.2.1 F.own (F.wd.use hk _) (F.wd.use hi _) (F.wd.use hini _) rfl d hc hs hKn.2.1 hw.1 fun H1 kC hkC e1 z1 o1 => ?_
    exact k p l e s m args below meth c F ls H1 locs hl (hw.new ⟨_, hcl, (u_born ty (fun q hq => F.wd.use (hts q hq) args) (fun _ hq => hq) hKn hkC e1 hty).to hfs⟩ z1 o1) (zS_new hS (by rw [z1, hw.1]; omega) (fun q hq => o1 q (by rw [← hw.1]; exact hq)))
theorem V_newl {n : Int32} {n' : Nat} (d : decode M.2.1 pc = .ok (.newarray .long, 2)) (ha : zin (.arrayClass .long)) (hn : ¬ n < 0) (hN : n.toNatClampNeg = n') (hb : n' * 8 ≤ 536870912) (hc : kc + 1 ≤ R.cells) (hs : ks + n' ≤ R.slots)
    (k : V G M K R (kc + 1) (ks + n') (sz + 1) (pc + 2) lo (.ref sz :: st) (zset w sz (zro G n' (fun _ => 0)))) : V G M K R kc ks sz pc lo (.int n :: st) w :=
  fun p l e s m args below meth c F ls H locs hl hw hS => by
    refine va_newaK (atype := .long) F.1 F.2.1 (F.wd.use ha _) rfl d rfl hn hN hb hc hs hw.1 fun H1 cA e1 z1 o1 hAr hNm => ?_
    have hRA : s.vm.findClass ("[" ++ FieldType.long.toString) = some (G.2.1 0) := (F.kk.2 0 _ rfl).2
    cases hNm.symm.trans hRA
    exact k p l e s m args below meth c F ls H1 locs hl (hw.new e1 z1 o1) (zS_new hS (by rw [z1, hw.1]; omega) (fun q hq => o1 q (by rw [← hw.1]; exact hq)))
theorem V_newi {n : Int32} {n' : Nat} (d : decode M.2.1 pc = .ok (.newarray .int, 2)) (ha : zin (.arrayClass .int)) (hn : ¬ n < 0) (hN : n.toNatClampNeg = n') (hb : n' * 4 ≤ 536870912) (hc : kc + 1 ≤ R.cells) (hs : ks + n' ≤ R.slots)
    (k : V G M K R (kc + 1) (ks + n') (sz + 1) (pc + 2) lo (.ref sz :: st) (zset w sz (zio G n' (fun _ => 0)))) : V G M K R kc ks sz pc lo (.int n :: st) w :=
  fun p l e s m args below meth c F ls H locs hl hw hS => by
    refine va_newaK (atype := .int) F.1 F.2.1 (F.wd.use ha _) rfl d rfl hn hN hb hc hs hw.1 fun H1 cA e1 z1 o1 hAr hNm => ?_
    have hRA : s.vm.findClass ("[" ++ FieldType.int.toString) = some (G.2.1 2) := (F.kk.2 2 _ rfl).2
    cases hNm.symm.trans hRA
    exact k p l e s m args below meth c F ls H1 locs hl (hw.new e1 z1 o1) (zS_new hS (by rw [z1, hw.1]; omega) (fun q hq => o1 q (by rw [← hw.1]; exact hq)))
theorem V_newr {n : Int32} {n' ka idx : Nat} {C : String} (d : decode M.2.1 pc = .ok (.anewarray idx, 3)) (ht : (zty G)[ka]? = some (G.2.1 ka, .object C)) (hk : zin (.classLink M.1.cls idx C)) (ho : zin (.arrayOver (.object C))) (hn : ¬ n < 0) (hN : n.toNatClampNeg = n') (hb : n' * 4 ≤ 536870912) (hc : kc + 1 ≤ R.cells) (hs : ks + n' ≤ R.slots)
    (k : V G M K R (kc + 1) (ks + n') (sz + 1) (pc + 3) lo (.ref sz :: st) (zset w sz (zrefs G ka n' (fun _ => none)))) : V G M K R kc ks sz pc lo (.int n :: st) w :=
  fun p l e s m args below meth c F ls H locs hl hw hS => by
    subst hN
    refine W.anew F.1 F.2.1 F.own (F.wd.use hk _) (F.wd.use ho _) rfl d rfl hn hb hc hs fun cA kA comp h1 h2 h3 h4 => ?_
    obtain ⟨kA', comp', -, -, -, hRA⟩ := (F.kk.2 ka _ ht).2
    cases h1.symm.trans hRA
    have hz := hw.1
    subst hz
    refine k p l e s m args below meth c F ls _ locs hl (hw.new (e := zrefs G ka n.toNatClampNeg (fun _ => none)) ?_ (by simp) (fun q hq => by rw [Array.getElem?_push_lt hq, Array.getElem?_eq_getElem hq])) (zS_new hS (by simp) (fun q hq => by rw [Array.getElem?_push_lt hq, Array.getElem?_eq_getElem hq]))
    show (H.push _)[H.size]? = some (vp_cell _ _)
    rw [Array.getElem?_push_size, vp_cell_q, ← arrV_new]
    rfl
theorem V_aastore {a n v ci ka : Nat} {C : String} {T : u_T} {N : Nat} {f : Nat → Option Nat} {i : Int32} {fs : List Value} (d : decode M.2.1 pc = .ok (.aastore, 1)) (h : w a = some (zrefs G ka n f)) (ht : (zty G)[ka]? = some (G.2.1 ka, .object C)) (hv : w v = some (.inr (ci, fs))) (hcl : vwCl[ci]? = some (C, T, N)) (hin : vp_in i n)
    (k : V G M K R kc ks sz (pc + 1) lo st (zset w a (zrefs G ka n (va_up f i.toNatClampNeg (some v))))) : V G M K R kc ks sz pc lo (.ref v :: .int i :: .ref a :: st) w :=
  fun p l e s m args below meth c F ls H locs hl hw hS => by
    have hlt : i.toNatClampNeg < n := Nat.not_le.mp fun q => hin (Or.inr q)
    have h0 : ¬ i < 0 := fun q => hin (Or.inl q)
    obtain ⟨r', hr', cellV, g1, g2, g3, -⟩ := hw.at hv
    have hcls := (F.kk.1 ci _ hcl).2
    obtain ⟨kA, comp, k1, k2, k3, -⟩ := (F.kk.2 ka _ ht).2
    have hcomp : comp = G.1.1 ci := Option.some.inj (k3.symm.trans hcls.1)
    subst hcomp
    obtain ⟨kC, hkC, -⟩ := hcls.2
    refine W.aast F.1 F.2.1 (hw.at h) (fun q h => by cases h) (fun h => by cases h) k1 k2 rfl hkC ⟨h0, by show _ < (arrV _ _ _).slots.size; rw [arrV_size]; exact hlt⟩ g1 (fun q h => by rw [g3] at h; cases h) (by rw [g2]; exact hkC) (by rw [g2]; exact va_assign hcls) rfl rfl d fun H1 e1 z oq => ?_
    refine k p l e s m args below meth c F ls H1 _ hl (hw.put h ?_ z oq) (hS.put z oq (hw.2.2 _ _ h).1)
    show H1[a]? = some (vp_cell _ _)
    rw [e1, vp_cell_q, vp_cell_q, arrV_store]
    congr 2
    funext q
    by_cases hq : q = i.toNatClampNeg
    · subst hq
      simp [updV, va_up, va_rf]
    · simp [updV, va_up, hq]
/-- the rows of a new array of rows -/
def zrws (G : zG) (w : zW) (a n k : Nat) : zW := fun q => if a ≤ q ∧ q < a + n then some (zro G k (fun _ => 0)) else w q
theorem V_mna {n k : Int32} {n' k' idx : Nat} (d : decode M.2.1 pc = .ok (.multianewarray idx 2, 4)) (hk : zin (.classLink M.1.cls idx "[[J")) (ho : zin (.arrayOver (.array .long))) (ha : zin (.arrayClass .long)) (hn : ¬ n < 0) (hk0 : ¬ k < 0) (hN : n.toNatClampNeg = n') (hK : k.toNatClampNeg = k') (hb1 : n' * 4 ≤ 536870912) (hb2 : k' * 8 ≤ 536870912)
    (hc : kc + (1 + n') ≤ R.cells) (hs : ks + (n' + n' * k') ≤ R.slots)
    (kk : V G M K R (kc + 1 + n') (ks + n' + n' * k') (sz + 1 + n') (pc + 4) lo (.ref sz :: st) (zset (zrws G w (sz + 1) n' k') sz (zrefs G 1 n' (fun i => if i < n' then some (sz + 1 + i) else none)))) : V G M K R kc ks sz pc lo (.int k :: .int n :: st) w :=
  fun p l e s m args below meth c F ls H locs hl hw hS => by
    subst hN
    subst hK
    have hz := hw.1
    subst hz
    intro T hT X
    obtain ⟨vm₁, cA, comp, -, fA, fC, hO, -, X', step⟩ := X.multianewarray2F F.1 (ty := .long) F.own (F.wd.use hk _) (F.wd.use ho _) (F.wd.use ha _) (g := F0 m pc ls (.int k :: .int n :: st)) rfl (by rw [F.2.1]; exact d) rfl hn hk0 hb1 hb2 (by omega) rfl rfl hc hs
    have hRA : s.vm.findClass ("[" ++ FieldType.long.toString) = some (G.2.1 0) := (F.kk.2 0 _ rfl).2
    have hRB : s.vm.findClass ("[" ++ (FieldType.array .long).toString) = some (G.2.1 1) := (F.kk.2 1 _ rfl).2
    cases fC.symm.trans hRA
    cases fA.symm.trans hRB
    have hTh : (T.setVm vm₁).heap = H := hT
    obtain ⟨f1, f2, -, -⟩ := Jvm.Free.Multi.fill_facts (T.setVm vm₁) (G.2.1 1) (G.2.1 0) n.toNatClampNeg k.toNatClampNeg (defaultValue .long) n.toNatClampNeg
    have hold : ∀ x : Nat, x < H.size → (Jvm.Free.Multi.fill (T.setVm vm₁) (G.2.1 1) (G.2.1 0) n.toNatClampNeg k.toNatClampNeg (defaultValue .long) n.toNatClampNeg).heap[x]? = H[x]? := fun x hx => by
      rw [Jvm.Free.Multi.fill_old (T.setVm vm₁) (G.2.1 1) (G.2.1 0) n.toNatClampNeg k.toNatClampNeg (defaultValue .long) (a := x) (by rw [hTh]; exact hx) n.toNatClampNeg, hTh]
    have hrow := Jvm.Free.Multi.fill_inner (T.setVm vm₁) (G.2.1 1) (G.2.1 0) n.toNatClampNeg k.toNatClampNeg (defaultValue .long) n.toNatClampNeg
    generalize Jvm.Free.Multi.fill (T.setVm vm₁) (G.2.1 1) (G.2.1 0) n.toNatClampNeg k.toNatClampNeg (defaultValue .long) n.toNatClampNeg = U at X' step f1 f2 hold hrow
    rw [hTh] at f1 f2 hrow
    have hB : G.2.2.1 ≤ H.size := hw.2.1
    have hH : zH G (zset (zrws G w (H.size + 1) n.toNatClampNeg k.toNatClampNeg) H.size (zrefs G 1 n.toNatClampNeg (fun i => if i < n.toNatClampNeg then some (H.size + 1 + i) else none))) (H.size + 1 + n.toNatClampNeg) U.heap := by
      refine ⟨f1, by omega, fun q x hx => ?_⟩
      unfold zset at hx
      by_cases h1 : q = H.size
      · rw [if_pos h1] at hx
        cases hx
        subst h1
        refine ⟨hB, ?_⟩
        show U.heap[H.size]? = some (vp_cell _ _)
        rw [f2, vp_cell_q]
        exact congrArg some (zouter _ _ _ _)
      · rw [if_neg h1] at hx
        unfold zrws at hx
        by_cases h2 : H.size + 1 ≤ q ∧ q < H.size + 1 + n.toNatClampNeg
        · rw [if_pos h2] at hx
          cases hx
          refine ⟨by show G.2.2.1 ≤ q; omega, ?_⟩
          have h3 := hrow (q - (H.size + 1)) (by omega)
          rw [show H.size + 1 + (q - (H.size + 1)) = q by omega] at h3
          show U.heap[q]? = some (vp_cell _ _)
          rw [h3, vp_cell_l, ← arrV_new]
          rfl
        · rw [if_neg h2] at hx
          have h3 := hw.2.2 q x hx
          exact ⟨h3.1, h3.2.kept (hold q h3.2.lt)⟩
    obtain ⟨t, a1, b1⟩ := kk p l e s m args below meth c F ls U.heap locs hl hH (zS_new hS (by rw [f1]; omega) hold) U rfl X'
    refine ⟨t, step t ?_, b1⟩
    rw [show T.heap.size = H.size by rw [hT]]
    exact a1
end ZMk
