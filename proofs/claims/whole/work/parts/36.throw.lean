/-! new, dup, a text, <init>(String), athrow: the method ends with what was made -/
def zIsR (a : Cond) : Prop := a = .isRef (.static Bundle.tN "UNASSIGNED_STACK" Bundle.steD) ∨ a = .isRef (.static Bundle.tN "SUPPRESSED_SENTINEL" Bundle.listD) ∨ a = .laysStatic Bundle.tN "UNASSIGNED_STACK" Bundle.steD ∨ a = .laysStatic Bundle.tN "SUPPRESSED_SENTINEL" Bundle.listD
theorem zrefw {C n d : String} {A : Nat → Prop} {s : State} {args : Array Value} (h : va_Zq C n d A s s.heap) : (Cond.isRef (.static C n d)).before args s = true := by
  rcases h with h | ⟨t, h⟩ <;> obtain ⟨cf, kf, fi, f, a, cell, h1, h2, h3, h4, h5, h6, h7, h8⟩ := h <;>
    simp [Cond.before, Cond.holds, Cond.value, Term.eval, State.fieldNamed?, h1, h2, h4, h5, h6, h7]
section ZT
variable {G : zG} {M : zM} {K : zK} {R : Room} {kc ks sz pc : Nat} {lo : List (Nat × Value)} {st : List Value} {w : zW}
set_option maxHeartbeats 2000000 in
theorem zctor {p : Program} {l : Launch} {e : Env} {s : State} {m : MethodId} {args : Array Value} {below : List Frame} {meth : Method} {c : Code} {T : State} {locs : List Loc} {own cls : String} {ic ix : Nat} {rx : ByteArray} {names : List String}
    (X : Stand p l e R s m args below meth c T locs kc ks) (hexec : p.tables.exec = Jvm.exec) (htr : e.platform.stackTraces = false) (hlk : meth.locks = false)
    (x0 : decode rx 0 = .ok (.aload_n 0, 1)) (x1 : decode rx 1 = .ok (.aload_n 1, 1)) (x2 : decode rx 2 = .ok (.invokespecial ix, 3)) (x5 : decode rx 5 = .ok (.return_, 1))
    (hown : s.vm.findClass own = some m.cls) (hcls : Bundle.fit cls = true) (hnames : ∀ n ∈ names, Bundle.fit n = true) (h : ∀ a ∈ Bundle.ownAtomsX own ic cls ix rx names, a.before args s = true)
    (hz : va_Zq Bundle.tN "UNASSIGNED_STACK" Bundle.steD (zA G) s s.heap) (hL0 : ∀ q ∈ locs, zA G q.base)
    {a : Addr} {cX : ClassId} {kX : Class} (hfX : s.vm.findClass cls = some cX) (hkX : s.vm.classes[cX]? = some kX) (hcell : T.heap[a]? = some (freshCell cX kX)) (hnew : s.heap.size ≤ a) {msg : Value} (hmsg : msg.isRef = true)
    {ls : Array Slot} (hls : ls.size = c.maxLocals) {rest : List Value} (hd6 : decode c.code pc = .ok (.invokespecial ic, 3)) (hd9 : decode c.code (pc + 3) = .ok (.athrow, 1)) (hem : c.exceptionTable.toList = [])
    (hf : names.length + 3 < R.frames) (hlo : (rest.map fun v => v.category).sum + (13 * (names.length + 1) + 43) ≤ R.locals) :
    ∃ U : State, Steps p.tables e below (T.setTop (F0 m pc ls (msg :: .ref a :: .ref a :: rest))) U ∧ U.status = .running ∧ Ended U below (.threw a) ∧ s.WarmedH U.vm ∧ s.sameButNew ({ U with vm := s.vm } : State) locs kc ks ∧
      (∃ ce : Cell, U.heap[a]? = some ce ∧ ce.cls = cX ∧ ce.vm = .none) ∧ U.heap.size = T.heap.size ∧ ∀ q, q ≠ a → U.heap[q]? = T.heap[q]? := by
  have hpl : e.platform.magicAccessors = ({} : Platform).magicAccessors := by rw [X.admits.platform]
  obtain ⟨TT, Z0, L, -, Y⟩ := ThrowableC.of_atoms (args := args) (pl := e.platform) (by rw [X.admits.platform]) (by rw [X.admits.platform]) hpl (fun x hx => h x (by simp [Bundle.ownAtomsX, hx]))
  obtain ⟨Z, MM, LZ, LM, hnZ⟩ := Init0T.ofS_atoms (args := args) hpl L Y (fun x hx => h x (by simp [Bundle.ownAtomsX, hx]))
  obtain ⟨P1, Ps, hlen, L1, hLp, hP1, hk1, hk2⟩ := Bundle.chainSX (args := args) hpl hnZ x0 x1 x2 x5 names cls hcls hnames (fun x hx => h x (by simp [Bundle.ownAtomsX, hx]))
  have hfd : s.vm.findClass cls = some P1.m.cls := findClass_of_methodNamed hP1
  cases hfX.symm.trans hfd
  obtain ⟨c1, k1, hc1, hk, hord, -, -, -⟩ := Cond.instantiable_spec (h (.instantiable cls 6) (by simp [Bundle.ownAtomsX]))
  cases hc1.symm.trans hfd
  cases hkX.symm.trans hk
  have sel : ∀ (y : MethodName) (my : MethodId), s.methodNamed? y = some my → (y.cls ≠ "java/lang/invoke/MethodHandle" ∧ y.cls ≠ "java/lang/invoke/VarHandle") → (Cond.selects cls y y).before args s = true → selectMethod e.platform s.vm P1.m.cls my = .method my := by
    intro y my hy hn hs
    obtain ⟨c2, r2, m2, q1, q2, q3, q4, -⟩ := Cond.selects_spec hs
    cases q1.symm.trans hfd
    cases q2.symm.trans (State.methodFound?_of_named hy hn)
    cases q3.symm.trans hy
    rw [Launch.admits_selectMethod X.admits]
    exact q4
  obtain ⟨cS, hcS, his⟩ := Y.statics
  obtain ⟨u0, hu0⟩ := Cond.staticRefV Y.unassigned L.unassignedStatic L.statics hcS his (h (.isRef (.static Bundle.tN "UNASSIGNED_STACK" Bundle.steD)) (by simp [Bundle.ownAtomsX]))
  obtain ⟨sen, hsen⟩ := Cond.staticRefV Y.sentinel L.sentinelStatic L.statics hcS his (h (.isRef (.static Bundle.tN "SUPPRESSED_SENTINEL" Bundle.listD)) (by simp [Bundle.ownAtomsX]))
  obtain ⟨ci, ib, fB, b1, b2, b3, b4, -, hnB, htB, hffB⟩ := Cond.ownField (t := .object "java/lang/Object") Y.found L.cls (by decide +kernel) (h (.fieldLink Bundle.tN 198 Bundle.tN "backtrace" "Ljava/lang/Object;") (by simp [Bundle.ownAtomsX])) (h (.lays Bundle.tN Bundle.tN "backtrace" "Ljava/lang/Object;") (by simp [Bundle.ownAtomsX])) e.platform hpl
  have hA : ¬ zA G TT.aS := by
    have key : ∀ v, va_Z Bundle.tN "UNASSIGNED_STACK" Bundle.steD v (zA G) s s.heap → ¬ zA G TT.aS := by
      rintro v ⟨cf, kf, fi, f, a', cell, h1, h2, h3, h4, h5, h6, h7, h8⟩
      cases Y.unassigned.symm.trans h1
      cases L.statics.symm.trans h4
      exact h8
    rcases hz with hz | ⟨t, hz⟩
    · exact key _ hz
    · exact key _ hz
  have hout : ∀ i, (⟨TT.aS, i⟩ : Loc) ∉ locs := fun i hm => hA (hL0 _ hm)
  obtain ⟨cT, hcT, heT, -, hkeep⟩ := X.same.2.2.2.2.2 TT.aS cS hcS
  have hneS : TT.aS ≠ a := Nat.ne_of_lt (Nat.lt_of_lt_of_le (Array.getElem?_eq_some_iff.mp hcS).1 hnew)
  obtain ⟨iM, hffM⟩ := Y.msg
  obtain ⟨tyC, dC, hdC, hnC⟩ := Cond.laysAt hfd hk Y.cause (h (.lays cls Bundle.tN "cause" "Ljava/lang/Throwable;") (by simp [Bundle.ownAtomsX]))
  obtain ⟨tyS, dS, hdS, hnS⟩ := Cond.laysAt hfd hk Y.stack (h (.lays cls Bundle.tN "stackTrace" Bundle.steD) (by simp [Bundle.ownAtomsX]))
  obtain ⟨tyP, dP, hdP, hnP⟩ := Cond.laysAt hfd hk Y.supp (h (.lays cls Bundle.tN "suppressedExceptions" Bundle.listD) (by simp [Bundle.ownAtomsX]))
  obtain ⟨tyM, -, -, -⟩ := Cond.laysAt hfd hk hffM (h (.lays cls Bundle.tN "detailMessage" "Ljava/lang/String;") (by simp [Bundle.ownAtomsX]))
  obtain ⟨tyB, dB, hdB, hnB2⟩ := Cond.laysAt hfd hk hffB (h (.lays cls Bundle.tN "backtrace" "Ljava/lang/Object;") (by simp [Bundle.ownAtomsX]))
  have nC := Cond.laysApart hdB hdC hnB2 hnC (by rw [hnB, Y.causeName]; decide)
  have nS := Cond.laysApart hdB hdS hnB2 hnS (by rw [hnB, Y.stackName]; decide)
  have nP := Cond.laysApart hdB hdP hnB2 hnP (by rw [hnB, Y.suppName]; decide)
  have hskip : SkipFacts TT e.platform s (fun u => u) u0 ((preparedCellV TT.toThrowableT (freshCell P1.m.cls kX) a u0 sen).withEntry T.cur) :=
    ⟨{ ci198 := ci, i198 := ib, fBack := fB }, ⟨b1, b2, b3, b4⟩, by
      have q := fresh_default (c := P1.m.cls) tyB
      rw [htB] at q
      simpa [preparedCellV, Cell.setSlot, Cell.withEntry, Array.getElem?_setIfInBounds, nC, nS, nP, nC.symm, nS.symm, nP.symm, defaultValue] using q, fun _ _ => rfl⟩
  obtain ⟨tm, -, -, -, vm1, hn1, -, -, -, -, -, -, -, hW1, st1⟩ := Steps.initColdS (tb := p.tables) (e := e) (below := below) X.here hexec X.warmed hpl hown (t := Bundle.initS cls) rfl rfl (Bundle.fit_spec hcls).2
    (h (.methodLink own ic (Bundle.initS cls)) (by simp [Bundle.ownAtomsX])) (h (.instanceMethod (Bundle.initS cls)) (by cases names <;> simp [Bundle.ownAtomsX, Bundle.chainSAtomsX, Bundle.passSAtoms])) (bytes := rx) (maxL := 2) (h (.code (Bundle.initS cls) rx 2 none) (by cases names <;> simp [Bundle.ownAtomsX, Bundle.chainSAtomsX, Bundle.passSAtoms]))
    (f := F0 m pc ls (msg :: .ref a :: .ref a :: rest)) rfl (a := a) (msg := msg) (rest := .ref a :: rest) rfl hd6
  cases hn1.symm.trans hP1
  obtain ⟨vm2, X2, st2⟩ := (X.noted hW1).ctorMessageOffV hexec (g := F0 m pc ls (.ref a :: rest)) rfl hls TT L Z LZ MM LM (P1 :: Ps)
    (fun P hP => by rcases List.mem_cons.mp hP with rfl | hP; exact L1; exact hLp P hP) ⟨hk1, hk2⟩ (u0 := u0) (sen := sen) (self := a) hmsg (cell := freshCell P1.m.cls kX) (cellS := cT)
    hcell (fun _ => by simp) (by simp) rfl rfl (sel _ _ Y.fill0 (by decide) (h (.selects cls Bundle.tFill0 Bundle.tFill0) (by simp [Bundle.ownAtomsX]))) (sel _ _ Y.fill (by decide) (h (.selects cls Bundle.tFill Bundle.tFill) (by simp [Bundle.ownAtomsX])))
    hcT hneS (by rw [heT]; intro hu; rw [show cS.vm = .unknown from hu] at his; cases his) (by rw [hkeep _ (hout _)]; exact hu0) (by rw [hkeep _ (hout _)]; exact hsen)
    (Takes.of_laid hk hord tyC (by rw [Y.causeType]; rfl)) (Takes.of_laid hk hord tyS (by rw [Y.stackType]; exact fits_refV_array _ u0)) (Takes.of_laid hk hord tyP (by rw [Y.suppType]; exact fits_refV_object _ sen))
    (Takes.of_laid hk hord tyM (by rw [Y.msgType]; exact fits_refV_object _ ⟨msg, hmsg⟩)) Y.objLocals hskip htr [] hd6
    (by simp only [List.length_cons, hlen]; omega) (by simp only [List.length_cons, hlen]; show 2 * 0 + (1 + (rest.map fun v => v.category).sum) + _ ≤ _; omega)
  obtain ⟨e1, e2, e3, e4, e5⟩ := X2.athrowLeaves hexec (g := F0 m (pc + 3) ls (.ref a :: rest)) rfl rfl rfl (fun x hx => by rw [hem] at hx; cases hx) (a := a) (rest := rest) rfl hd9 hlk
  have hlt : a < ((T.setVm vm1).setVm vm2).heap.size := (Array.getElem?_eq_some_iff.mp hcell).1
  have hU := heapAt_setCell_self (s := (T.setVm vm1).setVm vm2) (plainBareV TT.toThrowableT (freshCell P1.m.cls kX) a u0 sen msg) hlt
  refine ⟨_, st1 _ (fun acts => ?_), e2, e3, e4, e5.weaken (fun y hy hy2 => ?_) (Nat.le_refl _) (Nat.le_refl _), ⟨_, hU, rfl, rfl⟩, ?_, fun q hq => ?_⟩
  · rw [doInvoke_state]
    exact st2 _ e1
  · rcases List.mem_append.mp hy with h1 | h1
    · exact h1
    · exfalso
      have hb : y.base = a := by
        simp only [List.mem_cons, List.not_mem_nil, or_false] at h1
        rcases h1 with rfl | rfl | rfl | rfl | rfl <;> rfl
      rw [hb] at hy2
      exact Nat.not_lt.mpr hnew hy2
  · show (((T.setVm vm1).setVm vm2).heap.setIfInBounds a _).size = _
    rw [Array.size_setIfInBounds]
    rfl
  · exact State.heap_setCell_other (Ne.symm hq)
end ZT
section ZT2
variable {G : zG} {M : zM} {K : zK} {R : Room} {kc ks sz pc : Nat} {lo : List (Nat × Value)} {st : List Value} {w : zW}
/-- the ldc of a text that stands in the pool, short or wide -/
theorem zldcS {p : Program} {l : Launch} {e : Env} {s : State} {m : MethodId} {args : Array Value} {below : List Frame} {meth : Method} {c : Code} {T : State} {locs : List Loc} {own tx : String} {si n a : Nat} {ls : Array Slot} {rest : List Value}
    (X : Stand p l e R s m args below meth c T locs kc ks) (hexec : p.tables.exec = Jvm.exec) (hown : s.vm.findClass own = some m.cls) (hr : vk_R own si tx a s)
    (hd : (decode c.code pc = .ok (.ldc si, 2) ∧ n = 2) ∨ (decode c.code pc = .ok (.ldc_w si, 3) ∧ n = 3)) :
    ∀ target, Steps p.tables e below (T.setTop (F0 m (pc + n) ls (.ref a :: rest))) target → Steps p.tables e below (T.setTop (F0 m pc ls rest)) target := by
  rcases hd with ⟨hd, rfl⟩ | ⟨hd, rfl⟩
  · exact X.ldcString hexec hown hr.1 hr.2 (g := F0 m pc ls rest) rfl hd
  · obtain ⟨k, cf, i, a', hk, hcf, hcp, -, hres, hev⟩ := Cond.stringRef_spec hown hr.1
    cases hr.2.symm.trans hev
    obtain ⟨k', hk', he⟩ := X.warmed.alike.2.2 _ _ hk
    have hr' : k'.resolved[si]? = some (some (.string a)) := by
      rcases X.warmed.entry hk hk' si with h | ⟨h, -⟩
      · rw [h]; exact hres
      · rw [hres] at h; cases h
    intro target hrest
    jvm_step X.here [hexec, hd, Op.ldc_w.wp_string (e := e) (s := T) (f := F0 m pc ls rest) X.here.top hk' (by rw [he]; exact hcf) hcp hr']
    exact hrest
set_option maxHeartbeats 2000000 in
theorem V_throw {cls tx : String} {ni si ic ix n : Nat} {rx : ByteArray} {names : List String} (d0 : decode M.2.1 pc = .ok (.new ni, 3)) (d3 : decode M.2.1 (pc + 3) = .ok (.dup, 1)) (d4 : (decode M.2.1 (pc + 4) = .ok (.ldc si, 2) ∧ n = 2) ∨ (decode M.2.1 (pc + 4) = .ok (.ldc_w si, 3) ∧ n = 3))
    (d6 : decode M.2.1 (pc + 4 + n) = .ok (.invokespecial ic, 3)) (d9 : decode M.2.1 (pc + 4 + n + 3) = .ok (.athrow, 1)) (hown : M.1.cls = "RingCipher") (hs : (si, tx) ∈ zStr) (x0 : decode rx 0 = .ok (.aload_n 0, 1)) (x1 : decode rx 1 = .ok (.aload_n 1, 1)) (x2 : decode rx 2 = .ok (.invokespecial ix, 3)) (x5 : decode rx 5 = .ok (.return_, 1))
    (hcls : Bundle.fit cls = true) (hnames : ∀ n ∈ names, Bundle.fit n = true) (hw1 : zin (.classLink M.1.cls ni cls)) (hw2 : zin (.initialized cls)) (hws : ∀ a ∈ Bundle.ownAtomsX M.1.cls ic cls ix rx names, zin a ∨ zIsR a) (hh : M.2.2.2.2 = [])
    (hf : names.length + 3 < R.frames) (hlo : (st.map fun v => v.category).sum + (13 * (names.length + 1) + 43) ≤ R.locals) (hc : kc + 1 ≤ R.cells) (hsl : ks + 6 ≤ R.slots) (hk : kc + 1 ≤ K.2.1 ∧ ks + 6 ≤ K.2.2) (hK : K.1 (.inr cls) w (sz + 1)) : V G M K R kc ks sz pc lo st w :=
  fun p l e s m args below meth c F ls H locs hl hw hS => by
    intro T hT X
    have hat : ∀ a ∈ Bundle.ownAtomsX M.1.cls ic cls ix rx names, a.before args s = true := fun a ha => by
      rcases hws a ha with h | rfl | rfl | rfl | rfl
      · exact F.wd.use h _
      · exact zrefw F.kn.2.2.2.1.1
      · exact zrefw F.kn.2.2.2.1.2
      · exact F.kn.2.2.2.2.1.1.word
      · exact F.kn.2.2.2.2.1.2.word
    have htr : e.platform.stackTraces = false := by rw [X.admits.platform]; exact F.2.2.2.2.2.2.2.2.2.2
    obtain ⟨vm1, cX, kX, hfX, hkX, -, -, X1, st1⟩ := X.newCold F.1 (own := M.1.cls) (C := cls) (index := ni) (n := 6) F.own (F.wd.use hw1 _) (hat (.instantiable cls 6) (by simp [Bundle.ownAtomsX])) (F.wd.use hw2 _) (g := F0 m pc ls st) rfl (by rw [F.2.1]; exact d0) hc hsl
    have hz := hw.1
    subst hT
    generalize hT1 : (T.setVm vm1).pushCell { cls := cX, slots := kX.instanceTypes.map defaultValue, vm := .none } = T1 at X1 st1
    have hcell : T1.heap[T.heap.size]? = some (freshCell cX kX) := by rw [← hT1]; exact State.heap_pushCell_size _ _
    have hT1h : T1.heap = T.heap.push (freshCell cX kX) := by rw [← hT1]; rfl
    have hls : ls.size = c.maxLocals := by rw [F.ml]; exact hl.1
    have hem : c.exceptionTable.toList = [] := by
      have h := F.ex
      rw [hh] at h
      exact List.map_eq_nil_iff.mp h
    obtain ⟨U, u1, u2, u3, u4, u5, ⟨ce, u6, u7, u8⟩, u9, u10⟩ := zctor (G := G) (pc := pc + 4 + n) (ls := ls) (rest := st) (msg := .ref (G.2.2.2 si)) X1 F.1 htr F.lk x0 x1 x2 x5 F.own hcls hnames hat F.kn.2.2.2.1.1 hS.2.2 hfX hkX hcell hS.1 rfl hls (by rw [F.2.1]; exact d6) (by rw [F.2.1]; exact d9) hem hf hlo
    have hW : zH G w (sz + 1) U.heap := by
      refine ⟨by rw [u9, hT1h, Array.size_push, hz], by have := hw.2.1; omega, fun q x hx => ?_⟩
      have h3 := hw.2.2 q x hx
      have hq : q < T.heap.size := h3.2.lt
      refine ⟨h3.1, h3.2.kept ?_⟩
      rw [u10 q (Nat.ne_of_lt hq), hT1h, Array.getElem?_push_lt hq, Array.getElem?_eq_getElem hq]
    have hS2 : va_S (zA G) s.heap U.heap locs := by
      refine zS_new hS (by rw [u9, hT1h, Array.size_push]; omega) (fun q hq => ?_)
      rw [u10 q (Nat.ne_of_lt hq), hT1h, Array.getElem?_push_lt hq, Array.getElem?_eq_getElem hq]
    refine ⟨U, st1 _ ?_, .threw T.heap.size, u2, u3, u4, ⟨locs, u5.mono hk.1 hk.2, hS.2.2⟩, hS2.F rfl, w, sz + 1, hW, Or.inr ⟨T.heap.size, cls, rfl, ⟨ce, u6, (fun k h => by rw [u8] at h; cases h), (by rw [u4.alike.findClass, u7]; exact hfX)⟩, hK⟩⟩
    show Steps p.tables e below (T1.setTop (F0 m (pc + 3) ls (.ref T.heap.size :: st))) _
    jvm_step X1.here [X1.here.top, F.1, F.2.1, d3, Value.category]
    have hr : vk_R M.1.cls si tx (G.2.2.2 si) s := by rw [hown]; exact F.kn.2.2.2.2.2.2.1 _ hs
    exact zldcS (pc := pc + 4) X1 F.1 F.own hr (by rw [F.2.1]; exact d4) _ u1
end ZT2
