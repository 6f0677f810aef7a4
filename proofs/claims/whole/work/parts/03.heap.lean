/-! reading and writing cells, making them, ends and calls -/
theorem zF.wd {G : zG} {M : zM} {p : Program} {l : Launch} {s : State} {m : MethodId} {meth : Method} {c : Code} (F : zF G M p l s m meth c) : zWd s := F.2.2.2.2.1
theorem zF.ml {G : zG} {M : zM} {p : Program} {l : Launch} {s : State} {m : MethodId} {meth : Method} {c : Code} (F : zF G M p l s m meth c) : c.maxLocals = M.2.2.1 := F.2.2.1
theorem zF.own {G : zG} {M : zM} {p : Program} {l : Launch} {s : State} {m : MethodId} {meth : Method} {c : Code} (F : zF G M p l s m meth c) : s.vm.findClass M.1.cls = some m.cls := F.2.2.2.1
theorem zF.ret {G : zG} {M : zM} {p : Program} {l : Launch} {s : State} {m : MethodId} {meth : Method} {c : Code} (F : zF G M p l s m meth c) : meth.sig.returnType = M.2.2.2.1 := F.2.2.2.2.2.1
theorem zF.lk {G : zG} {M : zM} {p : Program} {l : Launch} {s : State} {m : MethodId} {meth : Method} {c : Code} (F : zF G M p l s m meth c) : meth.locks = false := F.2.2.2.2.2.2.1
theorem zF.nm {G : zG} {M : zM} {p : Program} {l : Launch} {s : State} {m : MethodId} {meth : Method} {c : Code} (F : zF G M p l s m meth c) : meth.name = M.1.name := F.2.2.2.2.2.2.2.1
theorem zF.ex {G : zG} {M : zM} {p : Program} {l : Launch} {s : State} {m : MethodId} {meth : Method} {c : Code} (F : zF G M p l s m meth c) : c.exceptionTable.toList.map (fun h => (h.startPc, h.endPc, h.handlerPc, h.catchType)) = M.2.2.2.2 := F.2.2.2.2.2.2.2.2.1
theorem zF.kn {G : zG} {M : zM} {p : Program} {l : Launch} {s : State} {m : MethodId} {meth : Method} {c : Code} (F : zF G M p l s m meth c) : zKn G s := F.2.2.2.2.2.2.2.2.2.1
theorem zF.kk {G : zG} {M : zM} {p : Program} {l : Launch} {s : State} {m : MethodId} {meth : Method} {c : Code} (F : zF G M p l s m meth c) : va_K G.1 vwCl (zty G) s := F.kn.1
def zset (w : zW) (a : Nat) (e : va_E) : zW := fun q => if q = a then some e else w q
theorem zset_s {w : zW} {a : Nat} {e : va_E} : zset w a e a = some e := if_pos rfl
theorem zset_n {w : zW} {a q : Nat} {e : va_E} (h : q ≠ a) : zset w a e q = w q := if_neg h
theorem zH.at {G : zG} {w : zW} {sz a : Nat} {H : Heap} {e : va_E} (h : zH G w sz H) (he : w a = some e) : va_at G.1 vwCl (a, e) H := (h.2.2 _ _ he).2
theorem zH.put {G : zG} {w : zW} {sz a : Nat} {H H1 : Heap} {e0 e : va_E} (h : zH G w sz H) (ha : w a = some e0) (h1 : va_at G.1 vwCl (a, e) H1) (z : H1.size = H.size) (oq : ∀ q, q ≠ a → H1[q]? = H[q]?) : zH G (zset w a e) sz H1 := by
  refine ⟨z.trans h.1, h.2.1, fun q x hx => ?_⟩
  by_cases hq : q = a
  · subst hq
    rw [zset_s] at hx
    cases hx
    exact ⟨(h.2.2 _ _ ha).1, h1⟩
  · rw [zset_n hq] at hx
    exact ⟨(h.2.2 q x hx).1, (h.2.2 q x hx).2.kept (oq q hq)⟩
theorem zH.new {G : zG} {w : zW} {sz : Nat} {H H1 : Heap} {e : va_E} (h : zH G w sz H) (h1 : va_at G.1 vwCl (sz, e) H1) (z : H1.size = sz + 1) (oq : ∀ q, q < sz → H1[q]? = H[q]?) : zH G (zset w sz e) (sz + 1) H1 := by
  refine ⟨z, Nat.le_succ_of_le h.2.1, fun q x hx => ?_⟩
  by_cases hq : q = sz
  · subst hq
    rw [zset_s] at hx
    cases hx
    exact ⟨h.2.1, h1⟩
  · rw [zset_n hq] at hx
    have h2 := h.2.2 q x hx
    exact ⟨h2.1, h2.2.kept (oq q (by have := h2.2.lt; rw [h.1] at this; exact this))⟩
theorem zP1 {G : zG} {w : zW} {sz a : Nat} {H : Heap} {e : va_E} (h : zH G w sz H) (he : w a = some e) : va_P G.1 vwCl [(a, e)] H := by
  intro k q hq
  have hz : k < 1 := (List.getElem?_eq_some_iff.mp hq).1
  rw [show k = 0 by omega] at hq
  cases hq
  exact h.at he
abbrev zrow (G : zG) (n : Nat) (f : Nat → Int64) : va_E := .inl (G.2.1 0, (n, .inr (.inl f)))
abbrev zints (G : zG) (n : Nat) (f : Nat → Int32) : va_E := .inl (G.2.1 2, (n, .inl f))
abbrev zrefs (G : zG) (k n : Nat) (f : Nat → Option Nat) : va_E := .inl (G.2.1 k, (n, .inr (.inr (.inr (.inr f)))))
abbrev zobj (ci : Nat) (fs : List Value) : va_E := .inr (ci, fs)
def zFF (own : String) (idx ci k : Nat) : Prop := ∃ (C : String) (T : u_T) (N : Nat) (ty0 : Nat → FieldType), vwCl[ci]? = some (C, T, N) ∧ k < N ∧ (∀ w ∈ u_ws C T N, zin w) ∧ (∀ j, j < N → parseFieldDescriptor (T j).2.2.1 = some (ty0 j)) ∧
  (∀ a, a < N → ∀ b, b < N → a ≠ b → (T a).2.1 ≠ (T b).2.1) ∧ (zin (.fieldLink own idx (T k).1 (T k).2.1 (T k).2.2.1) ∨ ∃ host, zin (.fieldLinkNest own idx (T k).1 (T k).2.1 (T k).2.2.1 host))
/-- what may be stored in a field that isn't final -/
def zfit (ci k : Nat) (v : Value) : Prop := ∃ (C : String) (T : u_T) (N : Nat) (ty : FieldType), vwCl[ci]? = some (C, T, N) ∧ parseFieldDescriptor (T k).2.2.1 = some ty ∧ narrow ty v = v ∧ fits ty v = true ∧ (T k).2.2.2 = false
section ZH
variable {G : zG} {M : zM} {K : zK} {R : Room} {kc ks sz pc : Nat} {lo : List (Nat × Value)} {st : List Value} {w : zW}
theorem V_getf {a ci k idx : Nat} {fs : List Value} {v : Value} (d : decode M.2.1 pc = .ok (.getfield idx, 3)) (hf : zFF M.1.cls idx ci k) (h : w a = some (.inr (ci, fs))) (hv : fs[k]? = some v) (kk : V G M K R kc ks sz (pc + 3) lo (v :: st) w) : V G M K R kc ks sz pc lo (.ref a :: st) w :=
  fun p l e s m args below meth c F ls H locs hl hw hS => by
    obtain ⟨C, T, N, ty0, h1, h2, h3, h4, h5, h6⟩ := hf
    rcases h6 with h6 | ⟨host, h6⟩
    · exact va_get (D := G.1) (Ts := u_ws C T N) F.1 F.2.1 (fun q hq => F.wd.use (h3 q hq) args) (fun _ hq => hq) F.own F.kk (zP1 hw h) 0 rfl h1 k h2 (F.wd.use h6 args) (fun _ hq => hq) hv d (kk p l e s m args below meth c F ls H locs hl hw hS)
    · exact va_getN (D := G.1) (Ts := u_ws C T N) F.1 F.2.1 (fun q hq => F.wd.use (h3 q hq) args) (fun _ hq => hq) F.own F.kk (zP1 hw h) 0 rfl h1 k h2 (F.wd.use h6 args) (fun _ hq => hq) hv d (kk p l e s m args below meth c F ls H locs hl hw hS)
theorem zob_set {C : String} {T : u_T} {N ci k : Nat} {fs : List Value} {v : Value} {cell : Cell} {a : Nat} {H1 : Heap} {D : va_G} (hc : vwCl[ci]? = some (C, T, N)) (hk : k < N) (hl : k < fs.length) (hap : ∀ x y, x < N → y < N → x ≠ y → D.2 ci x ≠ D.2 ci y)
    (q2 : cell.cls = D.1 ci) (q3 : cell.vm = .none) (q4 : ∀ j, j < N → cell.slots[D.2 ci j]? = some (vp_V fs j)) (e1 : H1[a]? = some (cell.setSlot (D.2 ci k) v)) : va_at D vwCl (a, .inr (ci, fs.set k v)) H1 := by
  refine ⟨_, hc, cell.setSlot (D.2 ci k) v, e1, q2, q3, fun j hj => ?_⟩
  rw [t_set q4 hap hk v j hj, vp_updV_set hl]
theorem V_putf {a ci k idx : Nat} {fs : List Value} {v : Value} (d : decode M.2.1 pc = .ok (.putfield idx, 3)) (hf : zFF M.1.cls idx ci k) (h : w a = some (.inr (ci, fs))) (hft : zfit ci k v) (hlen : k < fs.length) (kk : V G M K R kc ks sz (pc + 3) lo st (zset w a (.inr (ci, fs.set k v)))) : V G M K R kc ks sz pc lo (v :: .ref a :: st) w :=
  fun p l e s m args below meth c F ls H locs hl hw hS => by
    obtain ⟨C, T, N, ty0, h1, h2, h3, h4, h5, h6⟩ := hf
    obtain ⟨C', T', N', ty, g1, g2, g3, g4, g5⟩ := hft
    cases h1.symm.trans g1
    have hts : ∀ q ∈ u_ws C T N, q.before args s = true := fun q hq => F.wd.use (h3 q hq) args
    have hap := va_apart (own := M.1.cls) hts (fun _ hq => hq) ty0 h4 h5 F.kk h1
    obtain ⟨r, r1, cell, q1, q2, q3, q4⟩ := hw.at h
    have hr : r = (C, T, N) := Option.some.inj (r1.symm.trans h1)
    subst hr
    obtain ⟨hSl, hfc, kC, hkC, hkind⟩ := F.kk.1 ci _ h1
    obtain ⟨cf, kf, fi, f, hi, hsl⟩ := hSl k h2
    have hlay := hts _ (u_in_lay h2)
    unfold u_lay at hlay
    rw [if_neg (by rw [g5]; decide)] at hlay
    have hst := (u_facts hfc hkC (u_lays hts (fun _ hq => hq) h2) hi).1
    have h8 := u_store hfc hkC hkind hlay hi g2 g3 g4
    have fin : ∀ H' : Heap, H'[a]? = some (cell.setSlot f.slot v) → H'.size = H.size → (∀ q, q ≠ a → H'[q]? = H[q]?) → W p l e R s m args below meth c H' (locs ++ [⟨a, f.slot⟩]) kc ks (zQ G K below s) (F0 m (pc + 3) ls st) := fun H' e1 e2 e3 =>
      kk p l e s m args below meth c F ls H' _ hl (hw.put h (zob_set (D := G.1) h1 h2 hlen hap q2 q3 q4 (by rw [← hsl]; exact e1)) e2 e3) (hS.put e2 e3 (hw.2.2 _ _ h).1)
    rcases h6 with h6 | ⟨host, h6⟩
    · exact W.putK F.1 F.2.1 (f := f) ⟨F.own, F.wd.use h6 args, ⟨_, _, _, hi⟩, hst⟩ (by rw [q2]; exact h8) q1 q3 (by rw [hsl]; exact k2_hasslot (q4 k h2)) rfl rfl d fin
    · exact va_WputK F.1 F.2.1 (f := f) F.own (F.wd.use h6 args) hi hst (by rw [q2]; exact h8) q1 q3 (by rw [hsl]; exact k2_hasslot (q4 k h2)) rfl rfl d fin
theorem V_laload {a n : Nat} {f : Nat → Int64} {i : Int32} (d : decode M.2.1 pc = .ok (.laload, 1)) (h : w a = some (zrow G n f)) (hin : vp_in i n) (k : V G M K R kc ks sz (pc + 1) lo (.long (f i.toNatClampNeg) :: st) w) : V G M K R kc ks sz pc lo (.int i :: .ref a :: st) w :=
  fun p l e s m args below meth c F ls H locs hl hw hS => va_lald F.1 F.2.1 F.kk (zP1 hw h) 0 0 rfl rfl hin d (k p l e s m args below meth c F ls H locs hl hw hS)
theorem V_iaload {a n : Nat} {f : Nat → Int32} {i : Int32} (d : decode M.2.1 pc = .ok (.iaload, 1)) (h : w a = some (zints G n f)) (hin : vp_in i n) (k : V G M K R kc ks sz (pc + 1) lo (.int (f i.toNatClampNeg) :: st) w) : V G M K R kc ks sz pc lo (.int i :: .ref a :: st) w :=
  fun p l e s m args below meth c F ls H locs hl hw hS => va_iald F.1 F.2.1 F.kk (zP1 hw h) 0 2 rfl rfl hin d (k p l e s m args below meth c F ls H locs hl hw hS)
theorem V_aaload {a n b ka : Nat} {f : Nat → Option Nat} {i : Int32} {ty : FieldType} (d : decode M.2.1 pc = .ok (.aaload, 1)) (h : w a = some (zrefs G ka n f)) (ht : (zty G)[ka]? = some (G.2.1 ka, ty)) (href : ty.isReference = true) (hin : vp_in i n) (hb : f i.toNatClampNeg = some b) (k : V G M K R kc ks sz (pc + 1) lo (.ref b :: st) w) : V G M K R kc ks sz pc lo (.int i :: .ref a :: st) w :=
  fun p l e s m args below meth c F ls H locs hl hw hS => by
    have hlt : i.toNatClampNeg < n := Nat.not_le.mp fun q => hin (Or.inr q)
    exact W.aald (v := .ref b) (ty := ty) F.1 F.2.1 (hw.at h) ((F.kk.2 ka _ ht).1 n (fun j => va_rf (f j))) href (fun q => by cases q) (by show ¬ (i < 0 ∨ (arrV _ _ _).slots.size ≤ _); rw [arrV_size]; exact hin) (by show (arrV _ _ _).slots[_]? = _; rw [arrV_read _ _ hlt, hb]; rfl) rfl rfl d (k p l e s m args below meth c F ls H locs hl hw hS)
theorem V_lastore {a n : Nat} {f : Nat → Int64} {i : Int32} {x : Int64} (d : decode M.2.1 pc = .ok (.lastore, 1)) (h : w a = some (zrow G n f)) (hin : vp_in i n) (k : V G M K R kc ks sz (pc + 1) lo st (zset w a (zrow G n (vp_updL f i.toNatClampNeg x)))) : V G M K R kc ks sz pc lo (.long x :: .int i :: .ref a :: st) w :=
  fun p l e s m args below meth c F ls H locs hl hw hS => by
    refine W.last F.1 F.2.1 (hw.at h) ((F.kk.2 0 _ rfl).1 n (fun j => .long (f j))) (fun q => by cases q) (by show ¬ (i < 0 ∨ (arrV _ _ _).slots.size ≤ _); rw [arrV_size]; exact hin) rfl rfl d fun H1 e1 z oq => ?_
    refine k p l e s m args below meth c F ls H1 _ hl (hw.put h ?_ z oq) (hS.put z oq (hw.2.2 _ _ h).1)
    show H1[a]? = some (vp_cell _ _)
    rw [e1, vp_cell_l, vp_cell_l, arrV_store]
    congr 2
    funext q
    by_cases hq : q = i.toNatClampNeg
    · subst hq
      simp [updV, vp_updL]
    · simp [updV, vp_updL, hq]
theorem V_iastore {a n : Nat} {f : Nat → Int32} {i x : Int32} (d : decode M.2.1 pc = .ok (.iastore, 1)) (h : w a = some (zints G n f)) (hin : vp_in i n) (k : V G M K R kc ks sz (pc + 1) lo st (zset w a (zints G n (va_up f i.toNatClampNeg x)))) : V G M K R kc ks sz pc lo (.int x :: .int i :: .ref a :: st) w :=
  fun p l e s m args below meth c F ls H locs hl hw hS => by
    refine W.iast F.1 F.2.1 (hw.at h) ((F.kk.2 2 _ rfl).1 n (fun j => .int (f j))) (fun q => by cases q) (by show ¬ (i < 0 ∨ (arrV _ _ _).slots.size ≤ _); rw [arrV_size]; exact hin) rfl rfl d fun H1 e1 z oq => ?_
    refine k p l e s m args below meth c F ls H1 _ hl (hw.put h ?_ z oq) (hS.put z oq (hw.2.2 _ _ h).1)
    show H1[a]? = some (vp_cell _ _)
    rw [e1, vp_cell_i, vp_cell_i, arrV_store]
    congr 2
    funext q
    by_cases hq : q = i.toNatClampNeg
    · subst hq
      simp [updV, va_up]
    · simp [updV, va_up, hq]
theorem V_alen {a ka : Nat} {x : vp_A} {ty : FieldType} (d : decode M.2.1 pc = .ok (.arraylength, 1)) (h : w a = some (.inl (G.2.1 ka, x))) (ht : (zty G)[ka]? = some (G.2.1 ka, ty)) (k : V G M K R kc ks sz (pc + 1) lo (.int (Int32.ofNat x.1) :: st) w) : V G M K R kc ks sz pc lo (.ref a :: st) w :=
  fun p l e s m args below meth c F ls H locs hl hw hS => va_alen F.1 F.2.1 F.kk (zP1 hw h) 0 ka rfl ht rfl d (k p l e s m args below meth c F ls H locs hl hw hS)
/-! ends -/
theorem zW_mono {p : Program} {l : Launch} {e : Env} {s : State} {m : MethodId} {args : Array Value} {below : List Frame} {meth : Method} {c : Code} {H : Heap} {locs : List Loc} {Q Q' : State → Prop} {g : JFrame} (h : ∀ t, Q t → Q' t) (k : W p l e R s m args below meth c H locs kc ks Q g) : W p l e R s m args below meth c H locs kc ks Q' g :=
  fun T hT X => by
    obtain ⟨t, a, b⟩ := k T hT X
    exact ⟨t, a, h t b⟩
theorem zQ_of {s : State} {args : Array Value} {below : List Frame} {H : Heap} {locs : List Loc} {v : Option Value} (hk : kc ≤ K.2.1 ∧ ks ≤ K.2.2) (h : K.1 (.inl v) w sz) (hw : zH G w sz H) (hS : va_S (zA G) s.heap H locs) :
    ∀ t, MQ below (fun _ _ o t => o = .returned v ∧ t.heap = H) args s kc ks (zA G) t → zQ G K below s t := by
  rintro t ⟨o, h1, h2, ⟨h3, h4⟩, L, ⟨-, h5, h6⟩, h7⟩
  exact ⟨o, h1, h2, h5, ⟨L, h6.mono hk.1 hk.2, h7⟩, hS.F h4, w, sz, by rw [h4]; exact hw, Or.inl ⟨v, h3, h⟩⟩
theorem V_ireturn {v : Int32} (d : decode M.2.1 pc = .ok (.ireturn, 1)) (hr : M.2.2.2.1 = some .int) (hk : kc ≤ K.2.1 ∧ ks ≤ K.2.2) (h : K.1 (.inl (some (.int v))) w sz) : V G M K R kc ks sz pc lo [.int v] w :=
  fun p l e s m args below meth c F ls H locs hl hw hS => zW_mono (zQ_of hk h hw hS) (W.iret F.1 F.2.1 (F.ret.trans hr) (fun t ht _ => ⟨rfl, ht⟩) hS.2.2 d F.lk)
theorem V_zreturn {v : Int32} (d : decode M.2.1 pc = .ok (.ireturn, 1)) (hr : M.2.2.2.1 = some .boolean) (hv : narrow .boolean (.int v) = .int v) (hk : kc ≤ K.2.1 ∧ ks ≤ K.2.2) (h : K.1 (.inl (some (.int v))) w sz) : V G M K R kc ks sz pc lo [.int v] w :=
  fun p l e s m args below meth c F ls H locs hl hw hS => zW_mono (zQ_of hk h hw hS) (W.zret F.1 F.2.1 (F.ret.trans hr) hv (fun t ht _ => ⟨rfl, ht⟩) hS.2.2 d F.lk)
theorem V_lreturn {v : Int64} (d : decode M.2.1 pc = .ok (.lreturn, 1)) (hr : M.2.2.2.1 = some .long) (hk : kc ≤ K.2.1 ∧ ks ≤ K.2.2) (h : K.1 (.inl (some (.long v))) w sz) : V G M K R kc ks sz pc lo [.long v] w :=
  fun p l e s m args below meth c F ls H locs hl hw hS => zW_mono (zQ_of hk h hw hS) (W.lret F.1 F.2.1 (F.ret.trans hr) (fun t ht _ => ⟨rfl, ht⟩) hS.2.2 d F.lk)
theorem V_areturn {a : Nat} {rt : FieldType} (d : decode M.2.1 pc = .ok (.areturn, 1)) (hr : M.2.2.2.1 = some rt) (hrt : (∃ n, rt = .object n) ∨ ∃ t, rt = .array t) (hk : kc ≤ K.2.1 ∧ ks ≤ K.2.2) (h : K.1 (.inl (some (.ref a))) w sz) : V G M K R kc ks sz pc lo [.ref a] w :=
  fun p l e s m args below meth c F ls H locs hl hw hS => zW_mono (zQ_of hk h hw hS) (W.aret F.1 F.2.1 (F.ret.trans hr) hrt (Or.inr ⟨a, rfl⟩) (fun t ht _ => ⟨rfl, ht⟩) hS.2.2 d F.lk)
theorem V_return (d : decode M.2.1 pc = .ok (.return_, 1)) (hr : M.2.2.2.1 = none) (hk : kc ≤ K.2.1 ∧ ks ≤ K.2.2) (h : K.1 (.inl none) w sz) : V G M K R kc ks sz pc lo [] w :=
  fun p l e s m args below meth c F ls H locs hl hw hS => zW_mono (zQ_of hk h hw hS) (W.vret F.1 F.2.1 (F.ret.trans hr) (fun t ht _ => ⟨rfl, ht⟩) hS.2.2 d F.lk)
end ZH
