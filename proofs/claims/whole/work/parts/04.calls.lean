/-! calls: the callee's walk is entered and left; it may answer or throw -/
theorem zweaken {tb : Tables} {e : Env} {mid below : List Frame} {a b : State} (h : Steps tb e (mid ++ below) a b) : Steps tb e below a b := by
  obtain ⟨n, hn, w⟩ := h
  exact ⟨n, hn, fun k hk => (w k hk).weaken⟩
def zpop : Nat → List Value → List Value → Option (List Value × List Value)
  | 0, st, acc => some (acc, st)
  | n + 1, v :: st, acc => zpop n st (v :: acc)
  | _ + 1, [], _ => none
theorem zpop_eq {n : Nat} {st acc As rest : List Value} (h : zpop n st acc = some (As, rest)) : ∃ Bs, As = Bs ++ acc ∧ st = Bs.reverse ++ rest ∧ Bs.length = n := by
  induction n generalizing st acc with
  | zero =>
    simp only [zpop] at h
    cases h
    exact ⟨[], rfl, rfl, rfl⟩
  | succ n ih =>
    cases st with
    | nil => simp [zpop] at h
    | cons v st =>
      obtain ⟨Bs, h1, h2, h3⟩ := ih (by simpa [zpop] using h)
      exact ⟨Bs ++ [v], by simp [h1], by simp [h2], by simp [h3]⟩
def zGo (p : Program) (l : Launch) (e : Env) (R : Room) (s : State) (m : MethodId) (args : Array Value) (below : List Frame) (meth : Method) (c : Code) (H : Heap) (locs : List Loc) (kc ks : Nat) (y : MethodName) (as : List Value) (g : JFrame) (rest : List Value) : Prop :=
  ∀ T : State, T.heap = H → Stand p l e R s m args below meth c T locs kc ks → ∃ (vm₁ : Vm) (mk : MethodId), Stand p l e R s m args below meth c (T.setVm vm₁) locs kc ks ∧ s.methodNamed? y = some mk ∧
    ∀ target, (∀ acts, Steps p.tables e below (doInvoke e ((T.setVm vm₁).setTop { g with stack := rest }) acts mk as.toArray).1 target) → Steps p.tables e below (T.setTop g) target
section ZC
variable {G : zG} {M : zM} {K : zK} {R : Room} {kc ks sz pc : Nat} {lo : List (Nat × Value)} {st : List Value} {w : zW}
abbrev zCt (G : zG) (M : zM) (R : Room) (as : List Value) (sz : Nat) (w : zW) (K : zK) : Prop := V G M K R 0 0 sz 0 (lv_args 0 as) [] w
/-- the room of a callee in its caller's -/
abbrev zRm (M' : zM) (R' : Room) (R : Room) (kc ks : Nat) : Prop := R'.frames + 1 ≤ R.frames ∧ 8 + (M'.2.2.1 + 11) + R'.locals ≤ R.locals ∧ kc + R'.cells ≤ R.cells ∧ ks + R'.slots ≤ R.slots
/-- the callee's code stands in the tables -/
def zCo (M' : zM) : Prop := (zin (.code M'.1 M'.2.1 M'.2.2.1 M'.2.2.2.1) ∧ M'.2.2.2.2 = []) ∨ zin (.codeWith M'.1 M'.2.1 M'.2.2.1 M'.2.2.2.1 M'.2.2.2.2)
abbrev zCd (M' : zM) (as : List Value) : Prop := zCo M' ∧ plainFor M'.1 = true ∧ (lg_sl as).length ≤ M'.2.2.1
theorem zCo.spec {M' : zM} {s : State} (h : zCo M') (hw : zWd s) : ∃ mk meth c, s.methodNamed? M'.1 = some mk ∧ s.vm.method? mk = some meth ∧ meth.code = some c ∧ c.code = M'.2.1 ∧ c.maxLocals = M'.2.2.1 ∧ meth.sig.returnType = M'.2.2.2.1 ∧ meth.locks = false ∧
    c.exceptionTable.toList.map (fun h => (h.startPc, h.endPc, h.handlerPc, h.catchType)) = M'.2.2.2.2 ∧ parseMethodDescriptor M'.1.desc = some meth.sig := by
  rcases h with ⟨h, h0⟩ | h
  · have hc := hw.use h #[]
    obtain ⟨mk, hn⟩ := Cond.code_named hc
    obtain ⟨meth, c, h1, h2, h3, h4, h5, h6, h7, h8⟩ := Cond.code_spec hn hc
    refine ⟨mk, meth, c, hn, h1, h2, h3, h4, h5, h6, ?_, h8⟩
    rw [Array.isEmpty_iff] at h7
    rw [h7, h0]
    rfl
  · obtain ⟨mk, meth, c, hn, h1, h2, h3, h4, h5, h6, h7, h8⟩ := Cond.codeWith_spec (hw.use h #[])
    exact ⟨mk, meth, c, hn, h1, h2, h3, h4, h6, h7, h5, h8⟩
set_option maxHeartbeats 1000000 in
theorem zrun {p : Program} {l : Launch} {e : Env} {s : State} {m : MethodId} {args : Array Value} {below : List Frame} {meth : Method} {c : Code} {H : Heap} {locs : List Loc} {ls : Array Slot} {M' : zM} {K' : zK} {R' : Room} {as rest st0 : List Value} {ig : Instr}
    (hM : zCt G M' R' as sz w K') (hc : zCd M' as) (hR : zRm M' R' R kc ks)
    (F : zF G M p l s m meth c) (hl : lv_has ls M.2.2.1 lo) (hw : zH G w sz H) (hS : va_S (zA G) s.heap H locs)
    (hgo : zGo p l e R s m args below meth c H locs kc ks M'.1 as (F0 m pc ls st0) rest) (hWt : (rest.map fun v => v.category).sum ≤ 8) (hdg : decode M.2.1 pc = .ok (ig, 3))
    (kr : ∀ v w' sz', K'.1 (.inl v) w' sz' → V G M K R (kc + K'.2.1) (ks + K'.2.2) sz' (pc + 3) lo (v.toList ++ rest) w')
    (kt : ∀ C w' sz' x (T' : State) (L : List Loc), K'.1 (.inr C) w' sz' → Stand p l e R s m args below meth c T' (locs ++ L) (kc + K'.2.1) (ks + K'.2.2) → zH G w' sz' T'.heap → va_S (zA G) s.heap T'.heap (locs ++ L) → zEx C x T' →
      ∃ t2, Steps p.tables e below ((T'.setTop (F0 m pc ls rest)).pushFrame (.throwing x)) t2 ∧ zQ G K below s t2) :
    W p l e R s m args below meth c H locs kc ks (zQ G K below s) (F0 m pc ls st0) := by
  intro T hT X
  obtain ⟨vm₁, mk, X₁, hn, hstep⟩ := hgo T hT X
  have hW₁ : s.WarmedH vm₁ := X₁.warmed
  obtain ⟨mk', methk, ck, hn', hmk, hck, hbk, hlk, hrk, hlock, hex, hsig⟩ := hc.1.spec F.wd
  cases hn.symm.trans hn'
  have hmk₁ : (T.setVm vm₁).vm.method? mk = some methk := by
    show vm₁.method? mk = some methk
    rw [hW₁.alike.method?]; exact hmk
  have hn₁ : (T.setVm vm₁).methodNamed? M'.1 = some mk := X₁.named hn
  have hpk : (T.setVm vm₁).plainMethod mk := State.plainMethod.of_named hc.2.1 hn₁ hmk₁
  have hsize : (F0 m pc ls rest).locals.size = c.maxLocals := hl.1.trans F.ml.symm
  have hdg' : decode c.code (F0 m pc ls rest).pc = .ok (ig, 3) := by rw [F.2.1]; exact hdg
  obtain ⟨Y, hin⟩ := X₁.into (g := F0 m pc ls rest) rfl hsize hdg' as.toArray (R' := R') hmk₁ hck hlock hpk hR.1
    (by rw [hlk]; show 2 * 0 + (rest.map fun v => v.category).sum + _ + _ ≤ _; have := hR.2.1; omega) hR.2.2.1 hR.2.2.2
  have hheap : ((T.setVm vm₁).calling (F0 m pc ls rest) mk as.toArray).heap = H := hT
  have hSc : ∀ q : Nat, q < s.heap.size → ¬ zA G q → H[q]? = s.heap[q]? := hS.2.1
  have F' : zF G M' p l ((T.setVm vm₁).calling (F0 m pc ls rest) mk as.toArray) mk methk ck :=
    ⟨F.1, hbk, hlk, findClass_of_methodNamed (s := T.setVm vm₁) hn₁, F.wd.moved hW₁, hrk, hlock, (name_of_methodNamed hn hmk).1, hex, F.kn.moved hW₁ (fun a h1 h2 => by rw [hheap]; exact hSc a h1 h2), F.2.2.2.2.2.2.2.2.2.2⟩
  rw [hlk] at Y hin
  rw [lg_entry_eq] at Y hin
  obtain ⟨t, a1, o, b1, b2, b3, ⟨L, b4, b5⟩, b6, w', sz', b7, b8⟩ := hM p l e ((T.setVm vm₁).calling (F0 m pc ls rest) mk as.toArray) mk as.toArray (.java (F0 m pc ls rest) :: below) methk ck F' _ H [] (lv_entry as hc.2.2) hw
    (by rw [hheap]; exact va_S.rf) (((T.setVm vm₁).setTop (F0 m pc ls rest)).pushFrame (.java (F0 mk 0 ((lg_sl as ++ List.replicate (M'.2.2.1 - (lg_sl as).length) Slot.unset).toArray) []))) hT Y
  have hsz : H.size ≤ t.heap.size := by have := b6.1; rw [hheap] at this; exact this
  have hk6 : ∀ q : Nat, q < H.size → ¬ zA G q → t.heap[q]? = H[q]? := fun q h1 h2 => by have := b6.2 q (by rw [hheap]; exact h1) h2; rw [hheap] at this; exact this
  have hS2 : va_S (zA G) s.heap t.heap (locs ++ L) := ⟨Nat.le_trans hS.1 hsz, fun q h1 h2 => (hk6 q (Nat.lt_of_lt_of_le h1 hS.1) h2).trans (hS.2.1 q h1 h2), fun q hq => by
    rcases List.mem_append.mp hq with h | h
    · exact hS.2.2 q h
    · exact b5 q h⟩
  rcases b8 with ⟨v, rfl, hk⟩ | ⟨x, C, rfl, hx, hk⟩
  · obtain ⟨T', X', hW', hB', ht⟩ := X₁.outOf (g := F0 m pc ls rest) rfl hdg' b2 b3 b4
    have hT' : T'.heap = t.heap := by rw [ht]; rfl
    obtain ⟨t2, c1, c2⟩ := kr v w' sz' hk p l e s m args below meth c F ls t.heap (locs ++ L) hl b7 hS2 T' hT' X'
    refine ⟨t2, hstep _ fun acts => ?_, c2⟩
    rw [hin acts]
    refine (zweaken (mid := [.java (F0 m pc ls rest)]) a1).trans ?_
    rw [ht]
    exact c1
  · obtain ⟨T', X', hW', hB', ht⟩ := X₁.outOfThrown (g := F0 m pc ls rest) rfl b2 b3 b4
    have hT' : T'.heap = t.heap := by rw [ht]; exact (Stand.throwing_heap T' _ x).symm
    have hV' : T'.vm = t.vm := by rw [ht]; exact (Stand.throwing_vm T' _ x).symm
    obtain ⟨t2, c1, c2⟩ := kt C w' sz' x T' L hk X' (by rw [hT']; exact b7) (by rw [hT']; exact hS2) (by
      obtain ⟨cell, g1, g2, g3⟩ := hx
      exact ⟨cell, by rw [hT']; exact g1, g2, by rw [hV']; exact g3⟩)
    refine ⟨t2, hstep _ fun acts => ?_, c2⟩
    rw [hin acts]
    refine (zweaken (mid := [.java (F0 m pc ls rest)]) a1).trans ?_
    rw [ht]
    exact c1
/-- no handler of the method covers the place: what the callee throws leaves it -/
theorem zleave {p : Program} {l : Launch} {e : Env} {s : State} {m : MethodId} {args : Array Value} {below : List Frame} {meth : Method} {c : Code} {locs : List Loc} {ls : Array Slot} {rest : List Value} {C : String} {x : Addr} {T' : State} {kc1 ks1 sz1 : Nat} {w1 : zW}
    (F : zF G M p l s m meth c) (hh : M.2.2.2.2 = []) (X' : Stand p l e R s m args below meth c T' locs kc1 ks1) (hw : zH G w1 sz1 T'.heap) (hS : va_S (zA G) s.heap T'.heap locs) (hx : zEx C x T') (hk : kc1 ≤ K.2.1 ∧ ks1 ≤ K.2.2) (hK : K.1 (.inr C) w1 sz1) :
    ∃ t2, Steps p.tables e below ((T'.setTop (F0 m pc ls rest)).pushFrame (.throwing x)) t2 ∧ zQ G K below s t2 := by
  have hem : c.exceptionTable.toList = [] := by
    have h := F.ex
    rw [hh] at h
    exact List.map_eq_nil_iff.mp h
  obtain ⟨d1, d2, d3, d4, d5⟩ := X'.leaveThrown x (g := F0 m pc ls rest) rfl rfl rfl (fun q hq => by rw [hem] at hq; cases hq) F.lk
  exact ⟨T'.setFrames (.throwing x :: below), d1, .threw x, d2, d3, d4, ⟨locs, d5.mono hk.1 hk.2, hS.2.2⟩, hS.F (t := T'.setFrames (.throwing x :: below)) rfl, w1, sz1, hw, Or.inr ⟨x, C, rfl, hx, hK⟩⟩
abbrev zNo (y : MethodName) : Prop := y.cls ≠ "java/lang/invoke/MethodHandle" ∧ y.cls ≠ "java/lang/invoke/VarHandle"
/-- what an instruction that calls needs of the tables -/
def zGV (own : String) (idx : Nat) (M' : zM) (n : Nat) : Prop := (zin (.methodLink own idx M'.1) ∨ ∃ host, zin (.methodLinkNest own idx M'.1 host)) ∧ zin (.instanceMethod M'.1) ∧ zin (.selects M'.1.cls M'.1 M'.1) ∧ zNo M'.1 ∧ (parseMethodDescriptor M'.1.desc).map (fun d => d.parameters.length) = some n
def zGS (own : String) (idx : Nat) (M' : zM) (n : Nat) : Prop := (zin (.methodLink own idx M'.1) ∨ ∃ host, zin (.methodLinkNest own idx M'.1 host)) ∧ zin (.static M'.1) ∧ zin (.initialized M'.1.cls) ∧ zNo M'.1 ∧ (parseMethodDescriptor M'.1.desc).map (fun d => d.parameters.length) = some n
def zGI (own : String) (idx : Nat) (M' : zM) (n : Nat) : Prop := (zin (.methodLink own idx M'.1) ∨ ∃ host, zin (.methodLinkNest own idx M'.1 host)) ∧ zin (.instanceMethod M'.1) ∧ M'.1.name = "<init>" ∧ M'.2.2.2.1 = none ∧ zin (.code M'.1 M'.2.1 M'.2.2.1 M'.2.2.2.1) ∧ zNo M'.1 ∧ (parseMethodDescriptor M'.1.desc).map (fun d => d.parameters.length) = some n
theorem znum {desc : String} {n k : Nat} (h : (parseMethodDescriptor desc).map (fun d => d.parameters.length) = some n) (hk : k = n) : ∀ sig, parseMethodDescriptor desc = some sig → k = sig.parameters.length := by
  intro sig hs
  rw [hs] at h
  exact hk.trans (Option.some.inj h).symm
theorem V_callV {M' : zM} {K' : zK} {R' : Room} {n idx b ci : Nat} {As rest fs : List Value} {T : u_T} {N : Nat} (d : decode M.2.1 pc = .ok (.invokevirtual idx, 3)) (hg : zGV M.1.cls idx M' n) (hst : zpop n st [] = some (As, .ref b :: rest)) (ho : w b = some (.inr (ci, fs))) (hcl : vwCl[ci]? = some (M'.1.cls, T, N))
    (hM : zCt G M' R' (.ref b :: As) sz w K') (hc : zCd M' (.ref b :: As)) (hR : zRm M' R' R kc ks) (hWt : (rest.map fun v => v.category).sum ≤ 8)
    (kr : ∀ v w' sz', K'.1 (.inl v) w' sz' → V G M K R (kc + K'.2.1) (ks + K'.2.2) sz' (pc + 3) lo (v.toList ++ rest) w')
    (kt : ∀ C w' sz', K'.1 (.inr C) w' sz' → (kc + K'.2.1 ≤ K.2.1 ∧ ks + K'.2.2 ≤ K.2.2) ∧ K.1 (.inr C) w' sz') (hh : M.2.2.2.2 = [] := by rfl) : V G M K R kc ks sz pc lo st w :=
  fun p l e s m args below meth c F ls H locs hl hw hS => by
    refine zrun hM hc hR F hl hw hS (fun T hT X => ?_) hWt d kr (fun C w' sz' x T' L hk X' hw' hS' hx => zleave F hh X' hw' hS' hx (kt C w' sz' hk).1 (kt C w' sz' hk).2)
    obtain ⟨Bs, e1, e2, e3⟩ := zpop_eq hst
    rw [List.append_nil] at e1
    subst e1
    obtain ⟨hlink, hinst, hsel, hy, hnp⟩ := hg
    obtain ⟨mk, methM, hnamed, hmethM, hstM, habM⟩ := Cond.instanceMethod_spec (F.wd.use hinst args)
    obtain ⟨mk', methM', cM, hn', hmethM', -, -, -, -, -, -, hsigM⟩ := hc.1.spec F.wd
    cases hnamed.symm.trans hn'
    cases hmethM.symm.trans hmethM'
    obtain ⟨r, r1, cell, q1, q2, q3, q4⟩ := hw.at ho
    obtain ⟨-, hfc, -⟩ := F.kk.1 ci _ hcl
    obtain ⟨c2, r2, m2, z1, z2, z3, z4, kP, hkP, hkPi⟩ := Cond.selects_spec (F.wd.use hsel args)
    cases hfc.symm.trans z1
    cases (State.methodFound?_of_named hnamed hy).symm.trans z2
    cases hnamed.symm.trans z3
    have hselP : selectMethod e.platform s.vm cell.cls mk = .method mk := by rw [Launch.admits_selectMethod X.admits, q2]; exact z4
    have hob : ∀ z, cell.vm ≠ .statics z := fun z h => by rw [q3] at h; cases h
    rcases hlink with hlink | ⟨host, hlink⟩
    · obtain ⟨vm₁, X₁, hstep₁⟩ := X.invokevirtual F.1 F.own (F.wd.use hlink args) hnamed hmethM hstM hkP hkPi hy (a := b) (cell := cell) (by rw [hT]; exact q1) hob hselP hmethM habM hkP hkPi (g := F0 m pc ls st) rfl (argsL := As) (rest := rest) (znum hnp e3 _ hsigM) e2 (by rw [F.2.1]; exact d)
      exact ⟨vm₁, mk, X₁, hnamed, hstep₁⟩
    · obtain ⟨vm₁, X₁, hstep₁⟩ := X.invokevirtualNest F.1 F.own (F.wd.use hlink args) hnamed hmethM hstM hkP hkPi hy (a := b) (cell := cell) (by rw [hT]; exact q1) hob hselP hmethM habM hkP hkPi (g := F0 m pc ls st) rfl (argsL := As) (rest := rest) (znum hnp e3 _ hsigM) e2 (by rw [F.2.1]; exact d)
      exact ⟨vm₁, mk, X₁, hnamed, hstep₁⟩
theorem V_callS {M' : zM} {K' : zK} {R' : Room} {n idx : Nat} {As rest : List Value} (d : decode M.2.1 pc = .ok (.invokestatic idx, 3)) (hg : zGS M.1.cls idx M' n) (hst : zpop n st [] = some (As, rest))
    (hM : zCt G M' R' As sz w K') (hc : zCd M' As) (hR : zRm M' R' R kc ks) (hWt : (rest.map fun v => v.category).sum ≤ 8)
    (kr : ∀ v w' sz', K'.1 (.inl v) w' sz' → V G M K R (kc + K'.2.1) (ks + K'.2.2) sz' (pc + 3) lo (v.toList ++ rest) w')
    (kt : ∀ C w' sz', K'.1 (.inr C) w' sz' → (kc + K'.2.1 ≤ K.2.1 ∧ ks + K'.2.2 ≤ K.2.2) ∧ K.1 (.inr C) w' sz') (hh : M.2.2.2.2 = [] := by rfl) : V G M K R kc ks sz pc lo st w :=
  fun p l e s m args below meth c F ls H locs hl hw hS => by
    refine zrun hM hc hR F hl hw hS (fun T hT X => ?_) hWt d kr (fun C w' sz' x T' L hk X' hw' hS' hx => zleave F hh X' hw' hS' hx (kt C w' sz' hk).1 (kt C w' sz' hk).2)
    obtain ⟨Bs, e1, e2, e3⟩ := zpop_eq hst
    rw [List.append_nil] at e1
    subst e1
    obtain ⟨hlink, hstat, hini, hy, hnp⟩ := hg
    obtain ⟨mk, methM, cM, hnamed, hmethM, -, -, -, -, -, -, hsigM⟩ := hc.1.spec F.wd
    have hstatic : methM.isStatic = true := Cond.static_spec hnamed hmethM (F.wd.use hstat args)
    obtain ⟨kP, hkP, -⟩ := className_of_methodNamed hnamed
    have hinitP : kP.init = .initialized := Cond.initialized_spec (findClass_of_methodNamed hnamed) hkP (F.wd.use hini args)
    rcases hlink with hlink | ⟨host, hlink⟩
    · obtain ⟨vm₁, X₁, hstep₁⟩ := X.invokestatic F.1 F.own (F.wd.use hlink args) hnamed hmethM hstatic hkP hinitP hy (g := F0 m pc ls st) rfl (argsL := As) (rest := rest) (znum hnp e3 _ hsigM) e2 (by rw [F.2.1]; exact d)
      exact ⟨vm₁, mk, X₁, hnamed, hstep₁⟩
    · obtain ⟨vm₁, X₁, hstep₁⟩ := X.invokestaticNest F.1 F.own (F.wd.use hlink args) hnamed hmethM hstatic hkP hinitP hy (g := F0 m pc ls st) rfl (argsL := As) (rest := rest) (znum hnp e3 _ hsigM) e2 (by rw [F.2.1]; exact d)
      exact ⟨vm₁, mk, X₁, hnamed, hstep₁⟩
theorem V_callI {M' : zM} {K' : zK} {R' : Room} {n idx b : Nat} {As rest : List Value} (d : decode M.2.1 pc = .ok (.invokespecial idx, 3)) (hg : zGI M.1.cls idx M' n) (hst : zpop n st [] = some (As, .ref b :: rest))
    (hM : zCt G M' R' (.ref b :: As) sz w K') (hc : zCd M' (.ref b :: As)) (hR : zRm M' R' R kc ks) (hWt : (rest.map fun v => v.category).sum ≤ 8)
    (kr : ∀ v w' sz', K'.1 (.inl v) w' sz' → V G M K R (kc + K'.2.1) (ks + K'.2.2) sz' (pc + 3) lo (v.toList ++ rest) w')
    (kt : ∀ C w' sz', K'.1 (.inr C) w' sz' → (kc + K'.2.1 ≤ K.2.1 ∧ ks + K'.2.2 ≤ K.2.2) ∧ K.1 (.inr C) w' sz') (hh : M.2.2.2.2 = [] := by rfl) : V G M K R kc ks sz pc lo st w :=
  fun p l e s m args below meth c F ls H locs hl hw hS => by
    refine zrun hM hc hR F hl hw hS (fun T hT X => ?_) hWt d kr (fun C w' sz' x T' L hk X' hw' hS' hx => zleave F hh X' hw' hS' hx (kt C w' sz' hk).1 (kt C w' sz' hk).2)
    obtain ⟨Bs, e1, e2, e3⟩ := zpop_eq hst
    rw [List.append_nil] at e1
    subst e1
    obtain ⟨hlink, hinst, hy1, hno, hco, hy, hnp⟩ := hg
    have hcode := F.wd.use hco args
    rw [hno] at hcode
    have hpl : e.platform.magicAccessors = ({} : Platform).magicAccessors := by rw [X.admits.platform]
    rcases hlink with hlink | ⟨host, hlink⟩
    · obtain ⟨mk, methM, cM, kP, vm₁, hnamed, hmethM, hcodeM, -, hlocalsM, -, hkP, -, hW₁, hstep₁⟩ := Steps.initColdArgs (e := e) X.here F.1 X.warmed hpl F.own hy1 hy (F.wd.use hlink args) (F.wd.use hinst args) hcode (f := F0 m pc ls st) rfl (znum hnp e3) e2 (by rw [F.2.1]; exact d)
      exact ⟨vm₁, mk, X.noted hW₁, hnamed, hstep₁⟩
    · obtain ⟨mk, methM, cM, kP, vm₁, hnamed, hmethM, hcodeM, -, hlocalsM, -, hkP, -, hW₁, hstep₁⟩ := Steps.initColdArgsNest (e := e) X.here F.1 X.warmed hpl F.own hy1 hy (F.wd.use hlink args) (F.wd.use hinst args) hcode (f := F0 m pc ls st) rfl (znum hnp e3) e2 (by rw [F.2.1]; exact d)
      exact ⟨vm₁, mk, X.noted hW₁, hnamed, hstep₁⟩
end ZC
