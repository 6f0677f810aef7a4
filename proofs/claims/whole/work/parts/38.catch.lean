/-! catching: the handlers' classes may not be resolved yet -/
theorem zgo_cold {e : Env} {s : State} {f : JFrame} {a : Addr} {x : ExceptionTableEntry} {t : List ExceptionTableEntry} {cc : ClassId} {cell : Cell} {vm' : Vm} {Q : Handler → Pre} {E : CtlPost} {d : Bool} {acts : List Action}
    (hx : covers x f.pc = true) (h0 : x.catchType ≠ 0) (hg : (Jvm.resolveClass f.method.cls x.catchType).Gives e.toSetting s.vm (.ok cc) vm') (hsz : vm'.classes.size ≤ s.vm.classes.size)
    (hcell : s.heap[a]? = some cell) (hobj : ∀ k, cell.vm ≠ .statics k) (hk : ∃ k, vm'.classes[cell.cls]? = some k) (hc : ∃ k, vm'.classes[cc]? = some k) :
    wp (findHandler.go f a (x :: t)) Q E e d acts s ↔ if vm'.assignable cell.cls cc = true then Q (.found x.handlerPc) d acts (s.setVm vm') else wp (findHandler.go f a t) Q E e d acts (s.setVm vm') := by
  simp only [covers] at hx
  obtain ⟨ha, ht⟩ := hg.op (op := VmOp.resolveClass f.method.cls x.catchType) rfl
  cases hfit : vm'.assignable cell.cls cc <;> simp [findHandler.go, hx, h0, ha, ht, hsz, hcell, hobj, hk, hc, hfit, VmOp.dirties, VmOp.acts]
theorem zcaught {tb : Tables} {e : Env} {s target : State} {g : JFrame} {c : Code} {below : List Frame} {a : Addr} {pc : Nat} {vm' : Vm} (h : At s g.method c below)
    (hf : ∀ (Q : Handler → Pre) (E : CtlPost) (d : Bool) (acts : List Action), wp (findHandler g a) Q E e d acts ((s.setTop g).pushFrame (.throwing a)) ↔ Q (.found pc) d acts (((s.setTop g).pushFrame (.throwing a)).setVm vm'))
    (hrest : Steps tb e below ((s.setVm vm').setTop { g with pc := pc, stack := [.ref a] }) target) : Steps tb e below ((s.setTop g).pushFrame (.throwing a)) target := by
  obtain ⟨hgo, hw⟩ := h.throwing a
  refine Steps.head hgo hw ?_
  have key : ∀ (S : State) (r : List Frame), (∀ (Q : Handler → Pre) (E : CtlPost) (d : Bool) (acts : List Action), wp (findHandler g a) Q E e d acts S ↔ Q (.found pc) d acts (S.setVm vm')) →
      (stepThrowing e S a (.java g :: r)).Is ((S.setVm vm').setFrames (.java { g with pc := pc, stack := [.ref a] } :: r)) [] := by
    intro S r hS
    simp only [stepThrowing, searchFrame, vmDo]
    generalize hr : Sem.go _ e false [] S = res
    obtain ⟨as, rfl, ha⟩ := Sem.eq_ok_of hr (a := Handler.found pc) (s' := S.setVm vm') (acts' := []) (by simp [hS _ _ _ _])
    exact ⟨rfl, ha⟩
  rw [stepThread_throwing (frames_entered h.top _), (key _ _ hf).1]
  obtain ⟨g₀, hg⟩ := Option.isSome_iff_exists.mp h.top
  obtain ⟨r, hr⟩ := State.topJava?_eq_some.mp hg
  have hr' : (s.setVm vm').frames = .java g₀ :: r := hr
  rw [State.setTop_of_frames _ hr'] at hrest
  rw [hr]
  have e1 : (((s.setTop g).pushFrame (.throwing a)).setVm vm').setFrames (.java { g with pc := pc, stack := [.ref a] } :: r) = (s.setVm vm').setFrames (.java { g with pc := pc, stack := [.ref a] } :: r) := by
    rw [State.pushFrame, State.setTop_of_frames _ hr, State.setFrames_setFrames]
    exact State.setFrames_setFrames (s.setVm vm') _ _
  exact e1 ▸ hrest
def zhit (nm : Nat → String) (pc : Nat) (C : String) : List (Nat × Nat × Nat × Nat) → Option Nat
  | [] => none
  | q :: r => if q.1 ≤ pc ∧ pc < q.2.1 then (if nm q.2.2.2 = C then some q.2.2.1 else zhit nm pc C r) else zhit nm pc C r
theorem zfind {e : Env} {s : State} {f : JFrame} {a : Addr} {C own : String} {cell : Cell} {nm : Nat → String} {hpc : Nat} (hwd : zWd s) (hnc : zNc s) (hpl : e.platform.magicAccessors = ({} : Platform).magicAccessors) (hown : s.vm.findClass own = some f.method.cls)
    (hC : s.vm.findClass C = some cell.cls) (hself : zin (.castable C C)) (hobj : ∀ k, cell.vm ≠ .statics k) (S : State) (hcell : S.heap[a]? = some cell) :
    ∀ (es : List ExceptionTableEntry), (∀ x ∈ es, zin (.classLink own x.catchType (nm x.catchType)) ∧ x.catchType ≠ 0 ∧ (nm x.catchType = C ∨ (C, nm x.catchType) ∈ zNcs)) →
      zhit nm f.pc C (es.map (fun h => (h.startPc, h.endPc, h.handlerPc, h.catchType))) = some hpc → ∀ vm, s.WarmedH vm →
      ∃ vm', s.WarmedH vm' ∧ ∀ (Q : Handler → Pre) (E : CtlPost) (d : Bool) (acts : List Action), wp (findHandler.go f a es) Q E e d acts (S.setVm vm) ↔ Q (.found hpc) d acts (S.setVm vm') := by
  intro es
  induction es with
  | nil =>
    intro _ h
    cases h
  | cons x t ih =>
    intro hes hh vm hW
    obtain ⟨hx1, hx2, hx3⟩ := hes x List.mem_cons_self
    rw [List.map_cons] at hh
    unfold zhit at hh
    dsimp only at hh
    by_cases hcov : x.startPc ≤ f.pc ∧ f.pc < x.endPc
    · rw [if_pos hcov] at hh
      have hcv : covers x f.pc = true := by simp [covers, hcov.1, hcov.2]
      obtain ⟨cc, hfc, hcl⟩ := Cond.classLink_spec (args := #[]) hown (hwd.use hx1 #[]) e.platform hpl
      obtain ⟨hg, hw1, -⟩ := State.classEntry (e := e) hW hcl
      have hsz : (vm.noted f.method.cls x.catchType (.cls cc)).classes.size ≤ vm.classes.size := by rw [Vm.size_noted]; exact Nat.le_refl _
      generalize vm.noted f.method.cls x.catchType (.cls cc) = vm1 at hg hw1 hsz
      have hrec : ∀ (N : String) (k : ClassId), s.vm.findClass N = some k → ∃ r, vm1.classes[k]? = some r := fun N k hk => by
        obtain ⟨r, hr, -⟩ := Vm.findClass_spec hk
        obtain ⟨r', hr', -⟩ := hw1.alike.2.2 _ _ hr
        exact ⟨r', hr'⟩
      by_cases hn : nm x.catchType = C
      · rw [if_pos hn] at hh
        cases hh
        rw [hn] at hfc
        cases hC.symm.trans hfc
        obtain ⟨c1, c2, q1, q2, q3⟩ := Cond.castable_spec (hwd.use hself #[])
        cases hC.symm.trans q1
        cases hC.symm.trans q2
        refine ⟨vm1, hw1, fun Q E d acts => ?_⟩
        rw [zgo_cold (s := S.setVm vm) hcv hx2 hg hsz hcell hobj (hrec _ _ hC) (hrec _ _ hC), if_pos (by rw [hw1.alike.assignable]; exact q3)]
        exact Iff.rfl
      · rw [if_neg hn] at hh
        obtain ⟨vm', hw', hq⟩ := ih (fun y hy => hes y (List.mem_cons_of_mem _ hy)) hh vm1 hw1
        have hno : vm1.assignable cell.cls cc = false := by
          rw [hw1.alike.assignable]
          rcases hx3 with h | h
          · exact absurd h hn
          · exact hnc _ h _ _ hC hfc
        refine ⟨vm', hw', fun Q E d acts => ?_⟩
        rw [zgo_cold (s := S.setVm vm) hcv hx2 hg hsz hcell hobj (hrec _ _ hC) (hrec _ _ hfc), if_neg (by rw [hno]; decide)]
        exact hq Q E d acts
    · rw [if_neg hcov] at hh
      have hcv : covers x f.pc = false := by
        simp only [covers]
        by_cases h1 : x.startPc ≤ f.pc
        · have h2 : ¬ f.pc < x.endPc := fun h => hcov ⟨h1, h⟩
          simp [h2]
        · simp [h1]
      obtain ⟨vm', hw', hq⟩ := ih (fun y hy => hes y (List.mem_cons_of_mem _ hy)) hh vm hW
      refine ⟨vm', hw', fun Q E d acts => ?_⟩
      rw [W.findHandler_go_skip hcv]
      exact hq Q E d acts
section ZCt
variable {G : zG} {M : zM} {K : zK} {R : Room} {kc ks sz pc : Nat} {lo : List (Nat × Value)} {st : List Value} {w : zW}
/-- a virtual call under handlers: what the callee throws is caught -/
theorem V_callVc {M' : zM} {K' : zK} {R' : Room} {n idx b ci : Nat} {As rest fs : List Value} {T : u_T} {N : Nat} (nm : Nat → String) (d : decode M.2.1 pc = .ok (.invokevirtual idx, 3)) (hg : zGV M.1.cls idx M' n) (hst : zpop n st [] = some (As, .ref b :: rest)) (ho : w b = some (.inr (ci, fs))) (hcl : vwCl[ci]? = some (M'.1.cls, T, N))
    (hM : zCt G M' R' (.ref b :: As) sz w K') (hc : zCd M' (.ref b :: As)) (hR : zRm M' R' R kc ks) (hWt : (rest.map fun v => v.category).sum ≤ 8)
    (kr : ∀ v w' sz', K'.1 (.inl v) w' sz' → V G M K R (kc + K'.2.1) (ks + K'.2.2) sz' (pc + 3) lo (v.toList ++ rest) w')
    (kt : ∀ C w' sz', K'.1 (.inr C) w' sz' → zin (.castable C C) ∧ (∀ q ∈ M.2.2.2.2, zin (.classLink M.1.cls q.2.2.2 (nm q.2.2.2)) ∧ q.2.2.2 ≠ 0 ∧ (nm q.2.2.2 = C ∨ (C, nm q.2.2.2) ∈ zNcs)) ∧
      ∃ hpc, zhit nm pc C M.2.2.2.2 = some hpc ∧ ∀ x, V G M K R (kc + K'.2.1) (ks + K'.2.2) sz' hpc lo [.ref x] w') : V G M K R kc ks sz pc lo st w :=
  fun p l e s m args below meth c F ls H locs hl hw hS => by
    refine zrun hM hc hR F hl hw hS (fun T hT X => ?_) hWt d kr (fun C w' sz' x T' L hk X' hw' hS' hx => ?_)
    · obtain ⟨Bs, e1, e2, e3⟩ := zpop_eq hst
      rw [List.append_nil] at e1
      subst e1
      obtain ⟨hlink, hinst, hsel, hy, hnp⟩ := hg
      obtain ⟨mk, methM, hnamed, hmethM, hstM, habM⟩ := Cond.instanceMethod_spec (F.wd.use hinst args)
      obtain ⟨mk', methM', cM, hn', hmethM', -, -, -, -, -, -, hsigM⟩ := hc.1.spec F.wd
      cases hnamed.symm.trans hn'
      cases hmethM.symm.trans hmethM'
      obtain ⟨r, r1, cell, q1, q2, q3, q4⟩ := hw.at ho
      obtain ⟨-, hfc, -⟩ := F.kk.1 ci _ hcl
      obtain ⟨c2, r2, m2, z1, z2, z3, z4, kP, hkP, hkPi⟩ := Cond.selects_spec (F.wd.use hsel args)
      cases hfc.symm.trans z1
      cases (State.methodFound?_of_named hnamed hy).symm.trans z2
      cases hnamed.symm.trans z3
      have hselP : selectMethod e.platform s.vm cell.cls mk = .method mk := by rw [Launch.admits_selectMethod X.admits, q2]; exact z4
      have hob : ∀ z, cell.vm ≠ .statics z := fun z h => by rw [q3] at h; cases h
      rcases hlink with hlink | ⟨host, hlink⟩
      · obtain ⟨vm₁, X₁, hstep₁⟩ := X.invokevirtual F.1 F.own (F.wd.use hlink args) hnamed hmethM hstM hkP hkPi hy (a := b) (cell := cell) (by rw [hT]; exact q1) hob hselP hmethM habM hkP hkPi (g := F0 m pc ls st) rfl (argsL := As) (rest := rest) (znum hnp e3 _ hsigM) e2 (by rw [F.2.1]; exact d)
        exact ⟨vm₁, mk, X₁, hnamed, hstep₁⟩
      · obtain ⟨vm₁, X₁, hstep₁⟩ := X.invokevirtualNest F.1 F.own (F.wd.use hlink args) hnamed hmethM hstM hkP hkPi hy (a := b) (cell := cell) (by rw [hT]; exact q1) hob hselP hmethM habM hkP hkPi (g := F0 m pc ls st) rfl (argsL := As) (rest := rest) (znum hnp e3 _ hsigM) e2 (by rw [F.2.1]; exact d)
        exact ⟨vm₁, mk, X₁, hnamed, hstep₁⟩
    · obtain ⟨hself, hall, hpc, hhit, kk⟩ := kt C w' sz' hk
      obtain ⟨cell, g1, g2, g3⟩ := hx
      have hpl : e.platform.magicAccessors = ({} : Platform).magicAccessors := by rw [X'.admits.platform]
      have hC : s.vm.findClass C = some cell.cls := by rw [← X'.warmed.alike.findClass]; exact g3
      have hex := F.ex
      rw [← hex] at hall hhit
      obtain ⟨vm', hw1, hq⟩ := zfind (e := e) (f := F0 m pc ls rest) (a := x) F.wd F.kn.2.2.2.2.2.1 hpl F.own hC hself g2 ((T'.setTop (F0 m pc ls rest)).pushFrame (.throwing x)) (by rw [Stand.throwing_heap]; exact g1) c.exceptionTable.toList
        (fun y hy => hall _ (List.mem_map_of_mem hy)) hhit T'.vm X'.warmed
      have hvm : ((T'.setTop (F0 m pc ls rest)).pushFrame (.throwing x)).setVm T'.vm = (T'.setTop (F0 m pc ls rest)).pushFrame (.throwing x) := by
        conv => { lhs; rw [← Stand.throwing_vm T' (F0 m pc ls rest) x] }
        rfl
      rw [hvm] at hq
      obtain ⟨t2, c1, c2⟩ := kk x p l e s m args below meth c F ls T'.heap (locs ++ L) hl hw' hS' (T'.setVm vm') rfl (X'.noted hw1)
      refine ⟨t2, zcaught (g := F0 m pc ls rest) X'.here (fun Q E d acts => ?_) c1, c2⟩
      rw [W.findHandler_eq (meth := meth) (code := c) (by rw [Stand.throwing_vm]; exact X'.method') X'.code]
      exact hq Q E d acts
end ZCt
