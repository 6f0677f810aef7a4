/-! the flat world: which cell lies at which address; V: a walk of a method over it, goal first -/
abbrev zW : Type := Nat → Option va_E
abbrev zG : Type := va_G × (Nat → ClassId) × Nat × (Nat → Nat)
abbrev zM : Type := MethodName × ByteArray × Nat × Option FieldType × List (Nat × Nat × Nat × Nat)
abbrev zK : Type := ((Option Value ⊕ String) → zW → Nat → Prop) × Nat × Nat
def zA (G : zG) : Nat → Prop := fun q => G.2.2.1 ≤ q
def zgw : Cond → Bool
  | .fieldLinkNest .. => true
  | .methodLinkNest .. => true
  | .declares .. => true
  | .castable .. => true
  | .arrayOver .. => true
  | w => goodWord w
def zWd (s : State) : Prop := ∀ w ∈ lw_tbl, zgw w = true → va_Nw w s
abbrev zin (w : Cond) : Prop := w ∈ lw_tbl ∧ zgw w = true
theorem zgw_cases {w : Cond} (h : zgw w = true) : (∃ a i b n d t, w = .fieldLinkNest a i b n d t) ∨ (∃ a i x t, w = .methodLinkNest a i x t) ∨ (∃ x, w = .declares x) ∨ (∃ a b, w = .castable a b) ∨ (∃ a, w = .arrayOver a) ∨ goodWord w = true := by
  unfold zgw at h
  split at h
  · exact Or.inl ⟨_, _, _, _, _, _, rfl⟩
  · exact Or.inr (Or.inl ⟨_, _, _, _, rfl⟩)
  · exact Or.inr (Or.inr (Or.inl ⟨_, rfl⟩))
  · exact Or.inr (Or.inr (Or.inr (Or.inl ⟨_, _, rfl⟩)))
  · exact Or.inr (Or.inr (Or.inr (Or.inr (Or.inl ⟨_, rfl⟩))))
  · exact Or.inr (Or.inr (Or.inr (Or.inr (Or.inr h))))
theorem zao {ty : FieldType} {a a' : Array Value} {s U : State} (h : s.vm = U.vm) (h1 : (Cond.arrayOver ty).before a s = true) : (Cond.arrayOver ty).before a' U = true := by
  simp only [Cond.before, Cond.holds, Cond.value] at *
  rw [← h]
  exact h1
theorem zWd.moved {s U : State} (hW : s.WarmedH U.vm) (h : zWd s) : zWd U := by
  intro w hw hg
  have h1 := h w hw hg
  rcases zgw_cases hg with ⟨_, _, _, _, _, _, rfl⟩ | ⟨_, _, _, _, rfl⟩ | ⟨_, rfl⟩ | ⟨_, _, rfl⟩ | ⟨_, rfl⟩ | hg
  · exact va_Nw.warmF hW h1
  · exact va_Nw.warmM hW h1
  · exact va_tabs rfl (rfl : (s.setVm U.vm).vm = U.vm) ((Cond.declares_setVm (args := #[]) hW.alike _).trans h1)
  · exact va_tabs rfl (rfl : (s.setVm U.vm).vm = U.vm) ((Cond.castable_setVm (args := #[]) hW.alike _ _).trans h1)
  · exact zao (rfl : (s.setVm U.vm).vm = U.vm) ((Cond.arrayOver_setVmC (args := #[]) hW.alike _).trans h1)
  · exact word_at hW (good_of_word hg) h1
theorem zWd.use {s : State} (h : zWd s) {w : Cond} (hin : zin w) (args : Array Value) : w.before args s = true := by
  have h1 := h w hin.1 hin.2
  rcases zgw_cases hin.2 with ⟨_, _, _, _, _, _, rfl⟩ | ⟨_, _, _, _, rfl⟩ | ⟨_, rfl⟩ | ⟨_, _, rfl⟩ | ⟨_, rfl⟩ | hg
  · exact va_Nw.use rfl h1
  · exact va_Nw.use rfl h1
  · exact va_Nw.use rfl h1
  · exact va_Nw.use rfl h1
  · exact zao rfl h1
  · exact word_at (State.WarmedH.refl s) (good_of_word hg) h1
def zty (G : zG) : List (ClassId × FieldType) := [(G.2.1 0, .long), (G.2.1 1, .array .long), (G.2.1 2, .int), (G.2.1 3, .object "RingCipher$Cipher"), (G.2.1 4, .object "RingCipher$SwitchKey")]
def zStr : List (Nat × String) := [(54, "no such kind"), (86, "no such turn"), (94, "no keys"), (101, "four other turns"), (263, "no such plain"), (269, "no such coefficient"), (265, "no such cipher"), (267, "an empty cipher"), (195, "no such operation"), (200, "a product of three parts"), (219, "nothing to shrink"), (233, "a turn of three parts"), (245, "no such part"), (248, "nothing to tell")]
def zSz (k : Nat) : Value := match k with
  | 0 => .int (Int32.ofInt 8)
  | 1 => .int (Int32.ofInt 16)
  | _ => .int (Int32.ofInt 32)
def zMo (k : Nat) : Value := match k with
  | 0 => .int (Int32.ofInt 17)
  | 1 => .int (Int32.ofInt 97)
  | _ => .int (Int32.ofInt 193)
/-- a static of a class: where it lies -/
def zLs (C n d : String) (A : Nat → Prop) (U : State) (H : Heap) : Prop := ∃ (c : ClassId) (k : Class) (i : Nat) (f : Field) (a : Nat) (cell : Cell), U.vm.findClass C = some c ∧ U.fieldFound? C n d = some (c, k, i, f) ∧ f.isStatic = true ∧ k.statics = some a ∧ H[a]? = some cell ∧ cell.vm.isStatics = true ∧ cell.cls = c ∧ f.slot < cell.slots.size ∧ k.staticTypes[f.slot]? = some f.type ∧ ¬ A a
theorem zLs.moved {C n d : String} {A : Nat → Prop} {u U : State} {H : Heap} (hvm : u.vm.Alike U.vm) (h : zLs C n d A u H) : zLs C n d A U H := by
  obtain ⟨c, k, i, f, a, cell, h0, h1, h2, h3, h4, h5, h6, h7, h8, h9⟩ := h
  obtain ⟨k', hi', he⟩ := State.fieldFound?_setVm hvm h1
  exact ⟨c, k', i, f, a, cell, by rw [hvm.findClass]; exact h0, hi', h2, by rw [he]; exact h3, h4, h5, h6, h7, by rw [he]; exact h8, h9⟩
theorem zLs.kept {C n d : String} {A : Nat → Prop} {U : State} {H H1 : Heap} (h : zLs C n d A U H) (hq : ∀ a : Nat, a < H.size → ¬ A a → H1[a]? = H[a]?) : zLs C n d A U H1 := by
  obtain ⟨c, k, i, f, a, cell, h0, h1, h2, h3, h4, h5, h6, h7, h8, h9⟩ := h
  exact ⟨c, k, i, f, a, cell, h0, h1, h2, h3, by rw [hq a (Array.getElem?_eq_some_iff.mp h4).1 h9]; exact h4, h5, h6, h7, h8, h9⟩
theorem zLs.word {C n d : String} {A : Nat → Prop} {U : State} {args : Array Value} (h : zLs C n d A U U.heap) : (Cond.laysStatic C n d).before args U = true := by
  obtain ⟨c, k, i, f, a, cell, h0, h1, h2, h3, h4, h5, h6, h7, h8, h9⟩ := h
  simp [Cond.before, Cond.holds, Cond.value, h0, h1, h2, h3, h4, h5, h6, h7, h8]
def zNcs : List (String × String) := [("java/lang/IllegalStateException", "java/lang/IllegalArgumentException"), ("java/util/NoSuchElementException", "java/lang/IllegalArgumentException"), ("java/lang/IllegalArgumentException", "java/lang/IllegalStateException"), ("java/util/NoSuchElementException", "java/lang/IllegalStateException"), ("java/lang/IllegalArgumentException", "java/util/NoSuchElementException"), ("java/lang/IllegalStateException", "java/util/NoSuchElementException")]
/-- no object of the one class is one of the other -/
def zNc (U : State) : Prop := ∀ q ∈ zNcs, ∀ c t, U.vm.findClass q.1 = some c → U.vm.findClass q.2 = some t → U.vm.assignable c t = false
theorem zNc.moved {u U : State} (hvm : u.vm.Alike U.vm) (h : zNc u) : zNc U := fun q hq c t h1 h2 => by
  rw [hvm.assignable]
  exact h q hq c t (by rw [← hvm.findClass]; exact h1) (by rw [← hvm.findClass]; exact h2)
/-- the script: its cell, its length, its numbers stand in the last part of G -/
def zsx (G : zG) (i : Nat) : Int := (Int32.ofNat (G.2.2.2 (100002 + i))).toInt
def zKn (G : zG) (U : State) : Prop := va_K G.1 vwCl (zty G) U ∧ (va_Z "RingCipher" "SIZES" "[I" (.ref (G.2.2.2 0)) (zA G) U U.heap ∧ va_T .int (G.2.2.2 0) 3 zSz (zA G) U U.heap) ∧
  (va_Z "RingCipher" "MODULI" "[I" (.ref (G.2.2.2 1)) (zA G) U U.heap ∧ va_T .int (G.2.2.2 1) 3 zMo (zA G) U U.heap) ∧
  (va_Zq "java/lang/Throwable" "UNASSIGNED_STACK" "[Ljava/lang/StackTraceElement;" (zA G) U U.heap ∧ va_Zq "java/lang/Throwable" "SUPPRESSED_SENTINEL" "Ljava/util/List;" (zA G) U U.heap) ∧
  (zLs "java/lang/Throwable" "UNASSIGNED_STACK" "[Ljava/lang/StackTraceElement;" (zA G) U U.heap ∧ zLs "java/lang/Throwable" "SUPPRESSED_SENTINEL" "Ljava/util/List;" (zA G) U U.heap) ∧ zNc U ∧
  (∀ q ∈ zStr, vk_R "RingCipher" q.1 q.2 (G.2.2.2 q.1) U) ∧ va_T .int (G.2.2.2 100000) (G.2.2.2 100001) (fun i => .int (Int32.ofInt (zsx G i))) (zA G) U U.heap
theorem zKn.moved {G : zG} {u U : State} (hW : u.WarmedH U.vm) (hh : ∀ a : Nat, a < u.heap.size → ¬ zA G a → U.heap[a]? = u.heap[a]?) (h : zKn G u) : zKn G U :=
  ⟨h.1.moved hW.alike, ⟨(h.2.1.1.moved hW.alike).kept hh, (h.2.1.2.moved hW.alike).kept hh⟩, ⟨(h.2.2.1.1.moved hW.alike).kept hh, (h.2.2.1.2.moved hW.alike).kept hh⟩,
    ⟨(h.2.2.2.1.1.moved hW.alike).kept hh, (h.2.2.2.1.2.moved hW.alike).kept hh⟩, ⟨(h.2.2.2.2.1.1.moved hW.alike).kept hh, (h.2.2.2.2.1.2.moved hW.alike).kept hh⟩, h.2.2.2.2.2.1.moved hW.alike, fun q hq => (h.2.2.2.2.2.2.1 q hq).warm hW, (h.2.2.2.2.2.2.2.moved hW.alike).kept hh⟩
def zH (G : zG) (w : zW) (sz : Nat) (H : Heap) : Prop := H.size = sz ∧ G.2.2.1 ≤ sz ∧ ∀ a e, w a = some e → zA G a ∧ va_at G.1 vwCl (a, e) H
def zF (G : zG) (M : zM) (p : Program) (l : Launch) (s : State) (m : MethodId) (meth : Method) (c : Code) : Prop :=
  p.tables.exec = Jvm.exec ∧ c.code = M.2.1 ∧ c.maxLocals = M.2.2.1 ∧ s.vm.findClass M.1.cls = some m.cls ∧ zWd s ∧ meth.sig.returnType = M.2.2.2.1 ∧ meth.locks = false ∧ meth.name = M.1.name ∧ c.exceptionTable.toList.map (fun h => (h.startPc, h.endPc, h.handlerPc, h.catchType)) = M.2.2.2.2 ∧ zKn G s ∧ l.stackTraces = false
def zEx (C : String) (x : Addr) (t : State) : Prop := ∃ cell : Cell, t.heap[x]? = some cell ∧ (∀ k, cell.vm ≠ .statics k) ∧ t.vm.findClass C = some cell.cls
def zQ (G : zG) (K : zK) (below : List Frame) (s : State) : State → Prop := fun t => ∃ o, t.status = .running ∧ Ended t below o ∧ s.WarmedH t.vm ∧
  (∃ L, s.sameButNew ({ t with vm := s.vm } : State) L K.2.1 K.2.2 ∧ ∀ q ∈ L, zA G q.base) ∧ va_F (zA G) s t ∧ ∃ (w : zW) (sz : Nat), zH G w sz t.heap ∧
  ((∃ v, o = .returned v ∧ K.1 (.inl v) w sz) ∨ ∃ x C, o = .threw x ∧ zEx C x t ∧ K.1 (.inr C) w sz)
def V (G : zG) (M : zM) (K : zK) (R : Room) (kc ks sz pc : Nat) (lo : List (Nat × Value)) (st : List Value) (w : zW) : Prop :=
  ∀ (p : Program) (l : Launch) (e : Env) (s : State) (m : MethodId) (args : Array Value) (below : List Frame) (meth : Method) (c : Code), zF G M p l s m meth c →
    ∀ (ls : Array Slot) (H : Heap) (locs : List Loc), lv_has ls M.2.2.1 lo → zH G w sz H → va_S (zA G) s.heap H locs → W p l e R s m args below meth c H locs kc ks (zQ G K below s) (F0 m pc ls st)
/-! locals -/
def zl2 : Value → Bool
  | .long _ => true
  | .double _ => true
  | _ => false
theorem zl2_cat (v : Value) : (v.category = 2) ↔ zl2 v = true := by cases v <;> simp [Value.category, zl2]
def zlk : List (Nat × Value) → Nat → Option Value
  | [], _ => none
  | q :: r, i => bif Nat.beq q.1 i then some q.2 else zlk r i
def zrm : List (Nat × Value) → Nat → List (Nat × Value)
  | [], _ => []
  | q :: r, i => bif (Nat.beq q.1 i || (Nat.beq (q.1 + 1) i && zl2 q.2)) then zrm r i else q :: zrm r i
def zins : List (Nat × Value) → Nat → Value → List (Nat × Value)
  | [], i, v => [(i, v)]
  | q :: r, i, v => bif Nat.ble i q.1 then (i, v) :: q :: r else q :: zins r i v
def zst1 (lo : List (Nat × Value)) (i : Nat) (v : Value) : List (Nat × Value) := zins (zrm lo i) i v
def zst2 (lo : List (Nat × Value)) (i : Nat) (v : Value) : List (Nat × Value) := zins (zrm (zrm lo (i + 1)) i) i v
def zpk (lo : List (Nat × Value)) : List Nat → List (Nat × Value)
  | [] => []
  | k :: r => match zlk lo k with
    | some v => (k, v) :: zpk lo r
    | none => zpk lo r
theorem zlk_mem {lo : List (Nat × Value)} {i : Nat} {v : Value} (h : zlk lo i = some v) : (i, v) ∈ lo := by
  induction lo with
  | nil => cases h
  | cons q r ih =>
    unfold zlk at h
    cases hb : Nat.beq q.1 i with
    | true =>
      rw [hb] at h
      have e1 : q.1 = i := Nat.eq_of_beq_eq_true hb
      have e2 : q.2 = v := Option.some.inj h
      subst e1; subst e2
      exact List.mem_cons_self
    | false =>
      rw [hb] at h
      exact List.mem_cons_of_mem _ (ih h)
theorem zrm_mem {lo : List (Nat × Value)} {i : Nat} {q : Nat × Value} (h : q ∈ zrm lo i) : q ∈ lo ∧ ¬ q.1 = i ∧ ¬ (q.1 + 1 = i ∧ q.2.category = 2) := by
  induction lo with
  | nil => cases h
  | cons x r ih =>
    unfold zrm at h
    cases hb : (Nat.beq x.1 i || (Nat.beq (x.1 + 1) i && zl2 x.2)) with
    | true =>
      rw [hb] at h
      obtain ⟨h1, h2⟩ := ih h
      exact ⟨List.mem_cons_of_mem _ h1, h2⟩
    | false =>
      rw [hb] at h
      rcases List.mem_cons.mp h with rfl | h
      · simp only [Bool.or_eq_false_iff, Bool.and_eq_false_iff] at hb
        refine ⟨List.mem_cons_self, fun e => ?_, fun e => ?_⟩
        · have := hb.1
          rw [e, Nat.beq_refl] at this
          cases this
        · rcases hb.2 with z | z
          · rw [e.1, Nat.beq_refl] at z
            cases z
          · rw [(zl2_cat _).mp e.2] at z
            cases z
      · obtain ⟨h1, h2⟩ := ih h
        exact ⟨List.mem_cons_of_mem _ h1, h2⟩
theorem zins_mem {lo : List (Nat × Value)} {i : Nat} {v : Value} {q : Nat × Value} (h : q ∈ zins lo i v) : q = (i, v) ∨ q ∈ lo := by
  induction lo with
  | nil => exact Or.inl (List.mem_singleton.mp h)
  | cons x r ih =>
    unfold zins at h
    cases hb : Nat.ble i x.1 with
    | true =>
      rw [hb] at h
      exact List.mem_cons.mp h
    | false =>
      rw [hb] at h
      rcases List.mem_cons.mp h with rfl | h
      · exact Or.inr List.mem_cons_self
      · rcases ih h with h | h
        · exact Or.inl h
        · exact Or.inr (List.mem_cons_of_mem _ h)
theorem zpk_mem {lo : List (Nat × Value)} {ks : List Nat} {q : Nat × Value} (h : q ∈ zpk lo ks) : q ∈ lo := by
  induction ks with
  | nil => cases h
  | cons k r ih =>
    unfold zpk at h
    cases hk : zlk lo k with
    | none =>
      rw [hk] at h
      exact ih h
    | some v =>
      rw [hk] at h
      rcases List.mem_cons.mp h with rfl | h
      · exact zlk_mem hk
      · exact ih h
theorem zhas1 {ls : Array Slot} {nL i : Nat} {v : Value} {lo : List (Nat × Value)} (h : lv_has ls nL ((i, v) :: lo.filter (fun q => !(q.1 == i) && !(q.1 + 1 == i && q.2.category == 2)))) : lv_has ls nL (zst1 lo i v) := by
  refine ⟨h.1, h.2.1, fun q hq => h.2.2 q ?_⟩
  rcases zins_mem hq with rfl | hq
  · exact List.mem_cons_self
  · obtain ⟨h1, h2, h3⟩ := zrm_mem hq
    refine List.mem_cons_of_mem _ (List.mem_filter.mpr ⟨h1, ?_⟩)
    simp only [Bool.and_eq_true, Bool.not_eq_true', beq_eq_false_iff_ne, ne_eq, Bool.and_eq_false_iff]
    exact ⟨h2, by by_cases e : q.1 + 1 = i; exact Or.inr (fun z => h3 ⟨e, z⟩); exact Or.inl e⟩
theorem zhas2 {ls : Array Slot} {nL i : Nat} {v : Value} {lo : List (Nat × Value)} (h : lv_has ls nL ((i, v) :: lo.filter (fun q => !(q.1 == i) && (!(q.1 == i + 1) && !(q.1 + 1 == i && q.2.category == 2))))) : lv_has ls nL (zst2 lo i v) := by
  refine ⟨h.1, h.2.1, fun q hq => h.2.2 q ?_⟩
  rcases zins_mem hq with rfl | hq
  · exact List.mem_cons_self
  · obtain ⟨h1, h2, h3⟩ := zrm_mem hq
    obtain ⟨h4, h5, -⟩ := zrm_mem h1
    refine List.mem_cons_of_mem _ (List.mem_filter.mpr ⟨h4, ?_⟩)
    simp only [Bool.and_eq_true, Bool.not_eq_true', beq_eq_false_iff_ne, ne_eq, Bool.and_eq_false_iff]
    exact ⟨h2, h5, by by_cases e : q.1 + 1 = i; exact Or.inr (fun z => h3 ⟨e, z⟩); exact Or.inl e⟩
theorem zgl {ls : Array Slot} {nL i : Nat} {v : Value} {lo : List (Nat × Value)} (hl : lv_has ls nL lo) (h : zlk lo i = some v) : ls[i]? = some (.val v) := hl.2.2 _ (zlk_mem h)
section ZV
variable {G : zG} {M : zM} {K : zK} {R : Room} {kc ks sz pc : Nat} {lo : List (Nat × Value)} {st : List Value} {w : zW}
/-- fewer known locals -/
theorem V_lo {lo' : List (Nat × Value)} (ns : List Nat) (h : zpk lo ns = lo') (k : V G M K R kc ks sz pc lo' st w) : V G M K R kc ks sz pc lo st w :=
  fun p l e s m args below meth c F ls H locs hl hw hS => k p l e s m args below meth c F ls H locs ⟨hl.1, hl.2.1, fun q hq => hl.2.2 q (zpk_mem (by rw [h]; exact hq))⟩ hw hS
/-- a place's name -/
theorem V_pc {pc' : Nat} (h : pc = pc') (k : V G M K R kc ks sz pc' lo st w) : V G M K R kc ks sz pc lo st w := h ▸ k
theorem V_w {w' : zW} (h : w = w') (k : V G M K R kc ks sz pc lo st w') : V G M K R kc ks sz pc lo st w := h ▸ k
theorem V_widen {kc' ks' : Nat} (h1 : kc ≤ kc') (h2 : ks ≤ ks') (k : V G M K R kc' ks' sz pc lo st w) : V G M K R kc ks sz pc lo st w :=
  fun p l e s m args below meth c F ls H locs hl hw hS => W.widen h1 h2 (k p l e s m args below meth c F ls H locs hl hw hS)
theorem V_iconst {n : Int} (d : decode M.2.1 pc = .ok (.iconst n, 1)) (k : V G M K R kc ks sz (pc + 1) lo (.int (Int32.ofInt n) :: st) w) : V G M K R kc ks sz pc lo (st) w :=
  fun p l e s m args below meth c F ls H locs hl hw hS => lv_iconst F.1 F.2.1 d rfl (k p l e s m args below meth c F ls H locs hl hw hS)
theorem V_bipush {n : Int} (d : decode M.2.1 pc = .ok (.bipush n, 2)) (k : V G M K R kc ks sz (pc + 2) lo (.int ((Int8.ofInt n).toInt32) :: st) w) : V G M K R kc ks sz pc lo (st) w :=
  fun p l e s m args below meth c F ls H locs hl hw hS => lv_bipush F.1 F.2.1 d rfl (k p l e s m args below meth c F ls H locs hl hw hS)
theorem V_sipush {n : Int} (d : decode M.2.1 pc = .ok (.sipush n, 3)) (k : V G M K R kc ks sz (pc + 3) lo (.int ((Int16.ofInt n).toInt32) :: st) w) : V G M K R kc ks sz pc lo (st) w :=
  fun p l e s m args below meth c F ls H locs hl hw hS => lv_sipush F.1 F.2.1 d rfl (k p l e s m args below meth c F ls H locs hl hw hS)
theorem V_lconst {n : Fin 2} (d : decode M.2.1 pc = .ok (.lconst n, 1)) (k : V G M K R kc ks sz (pc + 1) lo (.long (Int64.ofNat (n : Nat)) :: st) w) : V G M K R kc ks sz pc lo (st) w :=
  fun p l e s m args below meth c F ls H locs hl hw hS => lv_lconst F.1 F.2.1 d rfl (k p l e s m args below meth c F ls H locs hl hw hS)
theorem V_iload_n {n : Fin 4} {x : Int32} (d : decode M.2.1 pc = .ok (.iload_n n, 1)) (h : zlk lo (n : Nat) = some (.int x)) (k : V G M K R kc ks sz (pc + 1) lo (.int x :: st) w) : V G M K R kc ks sz pc lo (st) w :=
  fun p l e s m args below meth c F ls H locs hl hw hS => lv_iload_n F.1 F.2.1 d rfl (zgl hl h) (k p l e s m args below meth c F ls H locs hl hw hS)
theorem V_iload {n : Nat} {x : Int32} (d : decode M.2.1 pc = .ok (.iload n, 2)) (h : zlk lo n = some (.int x)) (k : V G M K R kc ks sz (pc + 2) lo (.int x :: st) w) : V G M K R kc ks sz pc lo (st) w :=
  fun p l e s m args below meth c F ls H locs hl hw hS => lv_iload F.1 F.2.1 d (zgl hl h) (k p l e s m args below meth c F ls H locs hl hw hS)
theorem V_lload_n {n : Fin 4} {x : Int64} (d : decode M.2.1 pc = .ok (.lload_n n, 1)) (h : zlk lo (n : Nat) = some (.long x)) (k : V G M K R kc ks sz (pc + 1) lo (.long x :: st) w) : V G M K R kc ks sz pc lo (st) w :=
  fun p l e s m args below meth c F ls H locs hl hw hS => lv_lload_n F.1 F.2.1 d rfl (zgl hl h) (k p l e s m args below meth c F ls H locs hl hw hS)
theorem V_lload {n : Nat} {x : Int64} (d : decode M.2.1 pc = .ok (.lload n, 2)) (h : zlk lo n = some (.long x)) (k : V G M K R kc ks sz (pc + 2) lo (.long x :: st) w) : V G M K R kc ks sz pc lo (st) w :=
  fun p l e s m args below meth c F ls H locs hl hw hS => lv_lload F.1 F.2.1 d (zgl hl h) (k p l e s m args below meth c F ls H locs hl hw hS)
theorem V_aload_n {n : Fin 4} {x : Nat} (d : decode M.2.1 pc = .ok (.aload_n n, 1)) (h : zlk lo (n : Nat) = some (.ref x)) (k : V G M K R kc ks sz (pc + 1) lo (.ref x :: st) w) : V G M K R kc ks sz pc lo (st) w :=
  fun p l e s m args below meth c F ls H locs hl hw hS => lv_aload_n F.1 F.2.1 d rfl (zgl hl h) (k p l e s m args below meth c F ls H locs hl hw hS)
theorem V_aload {n : Nat} {x : Nat} (d : decode M.2.1 pc = .ok (.aload n, 2)) (h : zlk lo n = some (.ref x)) (k : V G M K R kc ks sz (pc + 2) lo (.ref x :: st) w) : V G M K R kc ks sz pc lo (st) w :=
  fun p l e s m args below meth c F ls H locs hl hw hS => lv_aload F.1 F.2.1 d (zgl hl h) (k p l e s m args below meth c F ls H locs hl hw hS)
theorem V_istore_n {n : Fin 4} {x : Int32} (d : decode M.2.1 pc = .ok (.istore_n n, 1)) (hn : (n : Nat) < M.2.2.1) (k : V G M K R kc ks sz (pc + 1) (zst1 lo (n : Nat) (.int x)) st w) : V G M K R kc ks sz pc lo (.int x :: st) w :=
  fun p l e s m args below meth c F ls H locs hl hw hS => lv_istore_n F.1 F.2.1 d rfl hl hn rfl (fun ls1 hl1 => k p l e s m args below meth c F ls1 H locs (zhas1 hl1) hw hS)
theorem V_istore {n : Nat} {x : Int32} (d : decode M.2.1 pc = .ok (.istore n, 2)) (hn : n < M.2.2.1) (k : V G M K R kc ks sz (pc + 2) (zst1 lo n (.int x)) st w) : V G M K R kc ks sz pc lo (.int x :: st) w :=
  fun p l e s m args below meth c F ls H locs hl hw hS => lv_istore F.1 F.2.1 d hl hn rfl (fun ls1 hl1 => k p l e s m args below meth c F ls1 H locs (zhas1 hl1) hw hS)
theorem V_lstore_n {n : Fin 4} {x : Int64} (d : decode M.2.1 pc = .ok (.lstore_n n, 1)) (hn : (n : Nat) + 1 < M.2.2.1) (k : V G M K R kc ks sz (pc + 1) (zst2 lo (n : Nat) (.long x)) st w) : V G M K R kc ks sz pc lo (.long x :: st) w :=
  fun p l e s m args below meth c F ls H locs hl hw hS => lv_lstore_n F.1 F.2.1 d rfl hl hn rfl (fun ls1 hl1 => k p l e s m args below meth c F ls1 H locs (zhas2 hl1) hw hS)
theorem V_lstore {n : Nat} {x : Int64} (d : decode M.2.1 pc = .ok (.lstore n, 2)) (hn : n + 1 < M.2.2.1) (k : V G M K R kc ks sz (pc + 2) (zst2 lo n (.long x)) st w) : V G M K R kc ks sz pc lo (.long x :: st) w :=
  fun p l e s m args below meth c F ls H locs hl hw hS => lv_lstore F.1 F.2.1 d hl hn rfl (fun ls1 hl1 => k p l e s m args below meth c F ls1 H locs (zhas2 hl1) hw hS)
theorem V_astore_n {n : Fin 4} {x : Nat} (d : decode M.2.1 pc = .ok (.astore_n n, 1)) (hn : (n : Nat) < M.2.2.1) (k : V G M K R kc ks sz (pc + 1) (zst1 lo (n : Nat) (.ref x)) st w) : V G M K R kc ks sz pc lo (.ref x :: st) w :=
  fun p l e s m args below meth c F ls H locs hl hw hS => lv_astore_n F.1 F.2.1 d rfl hl hn rfl (fun ls1 hl1 => k p l e s m args below meth c F ls1 H locs (zhas1 hl1) hw hS)
theorem V_astore {n : Nat} {x : Nat} (d : decode M.2.1 pc = .ok (.astore n, 2)) (hn : n < M.2.2.1) (k : V G M K R kc ks sz (pc + 2) (zst1 lo n (.ref x)) st w) : V G M K R kc ks sz pc lo (.ref x :: st) w :=
  fun p l e s m args below meth c F ls H locs hl hw hS => lv_astore F.1 F.2.1 d hl hn rfl (fun ls1 hl1 => k p l e s m args below meth c F ls1 H locs (zhas1 hl1) hw hS)
theorem zlk_at {lo : List (Nat × Value)} {i : Nat} {v : Value} (h : zlk lo i = some v) : ∃ k : Nat, lo[k]? = some (i, v) := by
  obtain ⟨k, hk⟩ := List.getElem?_of_mem (zlk_mem h)
  exact ⟨k, hk⟩
theorem V_iinc {i : Nat} {n : Int} {x : Int32} (d : decode M.2.1 pc = .ok (.iinc i n, 3)) (h : zlk lo i = some (.int x)) (hn : i < M.2.2.1) (k : V G M K R kc ks sz (pc + 3) (zst1 lo i (.int (x + Int32.ofInt n))) st w) : V G M K R kc ks sz pc lo st w :=
  fun p l e s m args below meth c F ls H locs hl hw hS => by
    obtain ⟨k0, hk0⟩ := zlk_at h
    exact lv_iinc F.1 F.2.1 d hl hk0 rfl hn rfl (fun ls1 hl1 => k p l e s m args below meth c F ls1 H locs (zhas1 hl1) hw hS)
theorem V_iadd {x y : Int32} (d : decode M.2.1 pc = .ok (.iadd, 1)) (k : V G M K R kc ks sz (pc + 1) lo (.int (x + y) :: st) w) : V G M K R kc ks sz pc lo (.int y :: .int x :: st) w :=
  fun p l e s m args below meth c F ls H locs hl hw hS => lv_iadd F.1 F.2.1 d (k p l e s m args below meth c F ls H locs hl hw hS)
theorem V_isub {x y : Int32} (d : decode M.2.1 pc = .ok (.isub, 1)) (k : V G M K R kc ks sz (pc + 1) lo (.int (x - y) :: st) w) : V G M K R kc ks sz pc lo (.int y :: .int x :: st) w :=
  fun p l e s m args below meth c F ls H locs hl hw hS => lv_isub F.1 F.2.1 d (k p l e s m args below meth c F ls H locs hl hw hS)
theorem V_imul {x y : Int32} (d : decode M.2.1 pc = .ok (.imul, 1)) (k : V G M K R kc ks sz (pc + 1) lo (.int (x * y) :: st) w) : V G M K R kc ks sz pc lo (.int y :: .int x :: st) w :=
  fun p l e s m args below meth c F ls H locs hl hw hS => lv_imul F.1 F.2.1 d (k p l e s m args below meth c F ls H locs hl hw hS)
theorem V_iand {x y : Int32} (d : decode M.2.1 pc = .ok (.iand, 1)) (k : V G M K R kc ks sz (pc + 1) lo (.int (x &&& y) :: st) w) : V G M K R kc ks sz pc lo (.int y :: .int x :: st) w :=
  fun p l e s m args below meth c F ls H locs hl hw hS => lv_iand F.1 F.2.1 d (k p l e s m args below meth c F ls H locs hl hw hS)
theorem V_ior {x y : Int32} (d : decode M.2.1 pc = .ok (.ior, 1)) (k : V G M K R kc ks sz (pc + 1) lo (.int (x ||| y) :: st) w) : V G M K R kc ks sz pc lo (.int y :: .int x :: st) w :=
  fun p l e s m args below meth c F ls H locs hl hw hS => lv_ior F.1 F.2.1 d (k p l e s m args below meth c F ls H locs hl hw hS)
theorem V_ixor {x y : Int32} (d : decode M.2.1 pc = .ok (.ixor, 1)) (k : V G M K R kc ks sz (pc + 1) lo (.int (x ^^^ y) :: st) w) : V G M K R kc ks sz pc lo (.int y :: .int x :: st) w :=
  fun p l e s m args below meth c F ls H locs hl hw hS => lv_ixor F.1 F.2.1 d (k p l e s m args below meth c F ls H locs hl hw hS)
theorem V_idiv {x y : Int32} (d : decode M.2.1 pc = .ok (.idiv, 1)) (hne : ¬ y = 0) (k : V G M K R kc ks sz (pc + 1) lo (.int (x / y) :: st) w) : V G M K R kc ks sz pc lo (.int y :: .int x :: st) w :=
  fun p l e s m args below meth c F ls H locs hl hw hS => lv_idiv F.1 F.2.1 d hne (k p l e s m args below meth c F ls H locs hl hw hS)
theorem V_irem {x y : Int32} (d : decode M.2.1 pc = .ok (.irem, 1)) (hne : ¬ y = 0) (k : V G M K R kc ks sz (pc + 1) lo (.int (x - x / y * y) :: st) w) : V G M K R kc ks sz pc lo (.int y :: .int x :: st) w :=
  fun p l e s m args below meth c F ls H locs hl hw hS => lv_irem F.1 F.2.1 d hne (k p l e s m args below meth c F ls H locs hl hw hS)
theorem V_ineg {x : Int32} (d : decode M.2.1 pc = .ok (.ineg, 1)) (k : V G M K R kc ks sz (pc + 1) lo (.int (-x) :: st) w) : V G M K R kc ks sz pc lo (.int x :: st) w :=
  fun p l e s m args below meth c F ls H locs hl hw hS => lv_ineg F.1 F.2.1 d (k p l e s m args below meth c F ls H locs hl hw hS)
theorem V_ladd {x y : Int64} (d : decode M.2.1 pc = .ok (.ladd, 1)) (k : V G M K R kc ks sz (pc + 1) lo (.long (x + y) :: st) w) : V G M K R kc ks sz pc lo (.long y :: .long x :: st) w :=
  fun p l e s m args below meth c F ls H locs hl hw hS => lv_ladd F.1 F.2.1 d (k p l e s m args below meth c F ls H locs hl hw hS)
theorem V_lsub {x y : Int64} (d : decode M.2.1 pc = .ok (.lsub, 1)) (k : V G M K R kc ks sz (pc + 1) lo (.long (x - y) :: st) w) : V G M K R kc ks sz pc lo (.long y :: .long x :: st) w :=
  fun p l e s m args below meth c F ls H locs hl hw hS => lv_lsub F.1 F.2.1 d (k p l e s m args below meth c F ls H locs hl hw hS)
theorem V_lmul {x y : Int64} (d : decode M.2.1 pc = .ok (.lmul, 1)) (k : V G M K R kc ks sz (pc + 1) lo (.long (x * y) :: st) w) : V G M K R kc ks sz pc lo (.long y :: .long x :: st) w :=
  fun p l e s m args below meth c F ls H locs hl hw hS => lv_lmul F.1 F.2.1 d (k p l e s m args below meth c F ls H locs hl hw hS)
theorem V_land {x y : Int64} (d : decode M.2.1 pc = .ok (.land, 1)) (k : V G M K R kc ks sz (pc + 1) lo (.long (x &&& y) :: st) w) : V G M K R kc ks sz pc lo (.long y :: .long x :: st) w :=
  fun p l e s m args below meth c F ls H locs hl hw hS => lv_land F.1 F.2.1 d (k p l e s m args below meth c F ls H locs hl hw hS)
theorem V_lor {x y : Int64} (d : decode M.2.1 pc = .ok (.lor, 1)) (k : V G M K R kc ks sz (pc + 1) lo (.long (x ||| y) :: st) w) : V G M K R kc ks sz pc lo (.long y :: .long x :: st) w :=
  fun p l e s m args below meth c F ls H locs hl hw hS => lv_lor F.1 F.2.1 d (k p l e s m args below meth c F ls H locs hl hw hS)
theorem V_lxor {x y : Int64} (d : decode M.2.1 pc = .ok (.lxor, 1)) (k : V G M K R kc ks sz (pc + 1) lo (.long (x ^^^ y) :: st) w) : V G M K R kc ks sz pc lo (.long y :: .long x :: st) w :=
  fun p l e s m args below meth c F ls H locs hl hw hS => lv_lxor F.1 F.2.1 d (k p l e s m args below meth c F ls H locs hl hw hS)
theorem V_ldiv {x y : Int64} (d : decode M.2.1 pc = .ok (.ldiv, 1)) (hne : ¬ y = 0) (k : V G M K R kc ks sz (pc + 1) lo (.long (x / y) :: st) w) : V G M K R kc ks sz pc lo (.long y :: .long x :: st) w :=
  fun p l e s m args below meth c F ls H locs hl hw hS => lv_ldiv F.1 F.2.1 d hne (k p l e s m args below meth c F ls H locs hl hw hS)
theorem V_lrem {x y : Int64} (d : decode M.2.1 pc = .ok (.lrem, 1)) (hne : ¬ y = 0) (k : V G M K R kc ks sz (pc + 1) lo (.long (x - x / y * y) :: st) w) : V G M K R kc ks sz pc lo (.long y :: .long x :: st) w :=
  fun p l e s m args below meth c F ls H locs hl hw hS => lv_lrem F.1 F.2.1 d hne (k p l e s m args below meth c F ls H locs hl hw hS)
theorem V_lneg {x : Int64} (d : decode M.2.1 pc = .ok (.lneg, 1)) (k : V G M K R kc ks sz (pc + 1) lo (.long (-x) :: st) w) : V G M K R kc ks sz pc lo (.long x :: st) w :=
  fun p l e s m args below meth c F ls H locs hl hw hS => lv_lneg F.1 F.2.1 d (k p l e s m args below meth c F ls H locs hl hw hS)
theorem V_ishl {x y : Int32} (d : decode M.2.1 pc = .ok (.ishl, 1)) (k : V G M K R kc ks sz (pc + 1) lo (.int (x <<< (y &&& 31)) :: st) w) : V G M K R kc ks sz pc lo (.int y :: .int x :: st) w :=
  fun p l e s m args below meth c F ls H locs hl hw hS => lv_ishl F.1 F.2.1 d (k p l e s m args below meth c F ls H locs hl hw hS)
theorem V_ishr {x y : Int32} (d : decode M.2.1 pc = .ok (.ishr, 1)) (k : V G M K R kc ks sz (pc + 1) lo (.int (x >>> (y &&& 31)) :: st) w) : V G M K R kc ks sz pc lo (.int y :: .int x :: st) w :=
  fun p l e s m args below meth c F ls H locs hl hw hS => lv_ishr F.1 F.2.1 d (k p l e s m args below meth c F ls H locs hl hw hS)
theorem V_iushr {x y : Int32} (d : decode M.2.1 pc = .ok (.iushr, 1)) (k : V G M K R kc ks sz (pc + 1) lo (.int ((x.toUInt32 >>> (y.toUInt32 &&& Int32.toUInt32 31)).toInt32) :: st) w) : V G M K R kc ks sz pc lo (.int y :: .int x :: st) w :=
  fun p l e s m args below meth c F ls H locs hl hw hS => lv_iushr F.1 F.2.1 d rfl (k p l e s m args below meth c F ls H locs hl hw hS)
theorem V_lshl {x : Int64} {y : Int32} (d : decode M.2.1 pc = .ok (.lshl, 1)) (k : V G M K R kc ks sz (pc + 1) lo (.long (x <<< (y.toInt64 &&& 63)) :: st) w) : V G M K R kc ks sz pc lo (.int y :: .long x :: st) w :=
  fun p l e s m args below meth c F ls H locs hl hw hS => lv_lshl F.1 F.2.1 d rfl (k p l e s m args below meth c F ls H locs hl hw hS)
theorem V_lshr {x : Int64} {y : Int32} (d : decode M.2.1 pc = .ok (.lshr, 1)) (k : V G M K R kc ks sz (pc + 1) lo (.long (x >>> (y.toInt64 &&& 63)) :: st) w) : V G M K R kc ks sz pc lo (.int y :: .long x :: st) w :=
  fun p l e s m args below meth c F ls H locs hl hw hS => lv_lshr F.1 F.2.1 d rfl (k p l e s m args below meth c F ls H locs hl hw hS)
theorem V_i2l {x : Int32} (d : decode M.2.1 pc = .ok (.i2l, 1)) (k : V G M K R kc ks sz (pc + 1) lo (.long x.toInt64 :: st) w) : V G M K R kc ks sz pc lo (.int x :: st) w :=
  fun p l e s m args below meth c F ls H locs hl hw hS => lv_i2l F.1 F.2.1 d rfl (k p l e s m args below meth c F ls H locs hl hw hS)
theorem V_l2i {x : Int64} (d : decode M.2.1 pc = .ok (.l2i, 1)) (k : V G M K R kc ks sz (pc + 1) lo (.int x.toInt32 :: st) w) : V G M K R kc ks sz pc lo (.long x :: st) w :=
  fun p l e s m args below meth c F ls H locs hl hw hS => lv_l2i F.1 F.2.1 d rfl (k p l e s m args below meth c F ls H locs hl hw hS)
theorem V_dup {va : Value} (d : decode M.2.1 pc = .ok (.dup, 1)) (h1 : va.category = 1) (k : V G M K R kc ks sz (pc + 1) lo (va :: va :: st) w) : V G M K R kc ks sz pc lo (va :: st) w :=
  fun p l e s m args below meth c F ls H locs hl hw hS => lv_dup F.1 F.2.1 d h1 (k p l e s m args below meth c F ls H locs hl hw hS)
theorem V_pop {va : Value} (d : decode M.2.1 pc = .ok (.pop, 1)) (h1 : va.category = 1) (k : V G M K R kc ks sz (pc + 1) lo (st) w) : V G M K R kc ks sz pc lo (va :: st) w :=
  fun p l e s m args below meth c F ls H locs hl hw hS => lv_pop F.1 F.2.1 d h1 (k p l e s m args below meth c F ls H locs hl hw hS)
theorem V_dup_x1 {va vb : Value} (d : decode M.2.1 pc = .ok (.dup_x1, 1)) (h1 : va.category = 1) (h2 : vb.category = 1) (k : V G M K R kc ks sz (pc + 1) lo (va :: vb :: va :: st) w) : V G M K R kc ks sz pc lo (va :: vb :: st) w :=
  fun p l e s m args below meth c F ls H locs hl hw hS => lv_dup_x1 F.1 F.2.1 d h1 h2 (k p l e s m args below meth c F ls H locs hl hw hS)
theorem V_dup_x2 {va vb vd : Value} (d : decode M.2.1 pc = .ok (.dup_x2, 1)) (h1 : va.category = 1) (h2 : vb.category = 1) (h3 : vd.category = 1) (k : V G M K R kc ks sz (pc + 1) lo (va :: vb :: vd :: va :: st) w) : V G M K R kc ks sz pc lo (va :: vb :: vd :: st) w :=
  fun p l e s m args below meth c F ls H locs hl hw hS => lv_dup_x2 F.1 F.2.1 d h1 h2 h3 (k p l e s m args below meth c F ls H locs hl hw hS)
theorem V_dup2 {va vb : Value} (d : decode M.2.1 pc = .ok (.dup2, 1)) (h1 : va.category = 1) (h2 : vb.category = 1) (k : V G M K R kc ks sz (pc + 1) lo (va :: vb :: va :: vb :: st) w) : V G M K R kc ks sz pc lo (va :: vb :: st) w :=
  fun p l e s m args below meth c F ls H locs hl hw hS => lv_dup2_11 F.1 F.2.1 d h1 h2 (k p l e s m args below meth c F ls H locs hl hw hS)
theorem V_dup2L {va : Value} (d : decode M.2.1 pc = .ok (.dup2, 1)) (h1 : va.category = 2) (k : V G M K R kc ks sz (pc + 1) lo (va :: va :: st) w) : V G M K R kc ks sz pc lo (va :: st) w :=
  fun p l e s m args below meth c F ls H locs hl hw hS => lv_dup2_2 F.1 F.2.1 d h1 (k p l e s m args below meth c F ls H locs hl hw hS)
theorem V_dup2_x1L {va vb : Value} (d : decode M.2.1 pc = .ok (.dup2_x1, 1)) (h1 : va.category = 2) (h2 : vb.category = 1) (k : V G M K R kc ks sz (pc + 1) lo (va :: vb :: va :: st) w) : V G M K R kc ks sz pc lo (va :: vb :: st) w :=
  fun p l e s m args below meth c F ls H locs hl hw hS => lv_dup2_x1_2 F.1 F.2.1 d h1 h2 (k p l e s m args below meth c F ls H locs hl hw hS)
theorem V_lcmp {x y : Int64} (d : decode M.2.1 pc = .ok (.lcmp, 1)) (k : V G M K R kc ks sz (pc + 1) lo (.int (lg_cmp x y) :: st) w) : V G M K R kc ks sz pc lo (.long y :: .long x :: st) w :=
  fun p l e s m args below meth c F ls H locs hl hw hS => W.lcmp F.1 F.2.1 d (k p l e s m args below meth c F ls H locs hl hw hS)
theorem V_if_eq {x : Int32} {off : Int} (tgt : Nat) (d : decode M.2.1 pc = .ok (.ifCond .eq off, 3)) (ht : (pc : Int) + off = (tgt : Int)) (kt : x = 0 → V G M K R kc ks sz tgt lo st w) (kf : ¬ x = 0 → V G M K R kc ks sz (pc + 3) lo st w) : V G M K R kc ks sz pc lo (.int x :: st) w :=
  fun p l e s m args below meth c F ls H locs hl hw hS => lv_if_eq F.1 F.2.1 d ht (fun q => kt q p l e s m args below meth c F ls H locs hl hw hS) (fun q => kf q p l e s m args below meth c F ls H locs hl hw hS)
theorem V_if_ne {x : Int32} {off : Int} (tgt : Nat) (d : decode M.2.1 pc = .ok (.ifCond .ne off, 3)) (ht : (pc : Int) + off = (tgt : Int)) (kt : ¬ x = 0 → V G M K R kc ks sz tgt lo st w) (kf : x = 0 → V G M K R kc ks sz (pc + 3) lo st w) : V G M K R kc ks sz pc lo (.int x :: st) w :=
  fun p l e s m args below meth c F ls H locs hl hw hS => lv_if_ne F.1 F.2.1 d ht (fun q => kt q p l e s m args below meth c F ls H locs hl hw hS) (fun q => kf q p l e s m args below meth c F ls H locs hl hw hS)
theorem V_if_lt {x : Int32} {off : Int} (tgt : Nat) (d : decode M.2.1 pc = .ok (.ifCond .lt off, 3)) (ht : (pc : Int) + off = (tgt : Int)) (kt : x < 0 → V G M K R kc ks sz tgt lo st w) (kf : ¬ x < 0 → V G M K R kc ks sz (pc + 3) lo st w) : V G M K R kc ks sz pc lo (.int x :: st) w :=
  fun p l e s m args below meth c F ls H locs hl hw hS => lv_if_lt F.1 F.2.1 d ht (fun q => kt q p l e s m args below meth c F ls H locs hl hw hS) (fun q => kf q p l e s m args below meth c F ls H locs hl hw hS)
theorem V_if_ge {x : Int32} {off : Int} (tgt : Nat) (d : decode M.2.1 pc = .ok (.ifCond .ge off, 3)) (ht : (pc : Int) + off = (tgt : Int)) (kt : 0 ≤ x → V G M K R kc ks sz tgt lo st w) (kf : ¬ 0 ≤ x → V G M K R kc ks sz (pc + 3) lo st w) : V G M K R kc ks sz pc lo (.int x :: st) w :=
  fun p l e s m args below meth c F ls H locs hl hw hS => lv_if_ge F.1 F.2.1 d ht (fun q => kt q p l e s m args below meth c F ls H locs hl hw hS) (fun q => kf q p l e s m args below meth c F ls H locs hl hw hS)
theorem V_if_gt {x : Int32} {off : Int} (tgt : Nat) (d : decode M.2.1 pc = .ok (.ifCond .gt off, 3)) (ht : (pc : Int) + off = (tgt : Int)) (kt : 0 < x → V G M K R kc ks sz tgt lo st w) (kf : ¬ 0 < x → V G M K R kc ks sz (pc + 3) lo st w) : V G M K R kc ks sz pc lo (.int x :: st) w :=
  fun p l e s m args below meth c F ls H locs hl hw hS => lv_if_gt F.1 F.2.1 d ht (fun q => kt q p l e s m args below meth c F ls H locs hl hw hS) (fun q => kf q p l e s m args below meth c F ls H locs hl hw hS)
theorem V_if_le {x : Int32} {off : Int} (tgt : Nat) (d : decode M.2.1 pc = .ok (.ifCond .le off, 3)) (ht : (pc : Int) + off = (tgt : Int)) (kt : x ≤ 0 → V G M K R kc ks sz tgt lo st w) (kf : ¬ x ≤ 0 → V G M K R kc ks sz (pc + 3) lo st w) : V G M K R kc ks sz pc lo (.int x :: st) w :=
  fun p l e s m args below meth c F ls H locs hl hw hS => lv_if_le F.1 F.2.1 d ht (fun q => kt q p l e s m args below meth c F ls H locs hl hw hS) (fun q => kf q p l e s m args below meth c F ls H locs hl hw hS)
theorem V_icmp_eq {x y : Int32} {off : Int} (tgt : Nat) (d : decode M.2.1 pc = .ok (.if_icmp .eq off, 3)) (ht : (pc : Int) + off = (tgt : Int)) (kt : x = y → V G M K R kc ks sz tgt lo st w) (kf : ¬ x = y → V G M K R kc ks sz (pc + 3) lo st w) : V G M K R kc ks sz pc lo (.int y :: .int x :: st) w :=
  fun p l e s m args below meth c F ls H locs hl hw hS => lv_icmp_eq F.1 F.2.1 d ht (fun q => kt q p l e s m args below meth c F ls H locs hl hw hS) (fun q => kf q p l e s m args below meth c F ls H locs hl hw hS)
theorem V_icmp_ne {x y : Int32} {off : Int} (tgt : Nat) (d : decode M.2.1 pc = .ok (.if_icmp .ne off, 3)) (ht : (pc : Int) + off = (tgt : Int)) (kt : ¬ x = y → V G M K R kc ks sz tgt lo st w) (kf : x = y → V G M K R kc ks sz (pc + 3) lo st w) : V G M K R kc ks sz pc lo (.int y :: .int x :: st) w :=
  fun p l e s m args below meth c F ls H locs hl hw hS => lv_icmp_ne F.1 F.2.1 d ht (fun q => kt q p l e s m args below meth c F ls H locs hl hw hS) (fun q => kf q p l e s m args below meth c F ls H locs hl hw hS)
theorem V_icmp_lt {x y : Int32} {off : Int} (tgt : Nat) (d : decode M.2.1 pc = .ok (.if_icmp .lt off, 3)) (ht : (pc : Int) + off = (tgt : Int)) (kt : x < y → V G M K R kc ks sz tgt lo st w) (kf : ¬ x < y → V G M K R kc ks sz (pc + 3) lo st w) : V G M K R kc ks sz pc lo (.int y :: .int x :: st) w :=
  fun p l e s m args below meth c F ls H locs hl hw hS => lv_icmp_lt F.1 F.2.1 d ht (fun q => kt q p l e s m args below meth c F ls H locs hl hw hS) (fun q => kf q p l e s m args below meth c F ls H locs hl hw hS)
theorem V_icmp_ge {x y : Int32} {off : Int} (tgt : Nat) (d : decode M.2.1 pc = .ok (.if_icmp .ge off, 3)) (ht : (pc : Int) + off = (tgt : Int)) (kt : y ≤ x → V G M K R kc ks sz tgt lo st w) (kf : ¬ y ≤ x → V G M K R kc ks sz (pc + 3) lo st w) : V G M K R kc ks sz pc lo (.int y :: .int x :: st) w :=
  fun p l e s m args below meth c F ls H locs hl hw hS => lv_icmp_ge F.1 F.2.1 d ht (fun q => kt q p l e s m args below meth c F ls H locs hl hw hS) (fun q => kf q p l e s m args below meth c F ls H locs hl hw hS)
theorem V_icmp_gt {x y : Int32} {off : Int} (tgt : Nat) (d : decode M.2.1 pc = .ok (.if_icmp .gt off, 3)) (ht : (pc : Int) + off = (tgt : Int)) (kt : y < x → V G M K R kc ks sz tgt lo st w) (kf : ¬ y < x → V G M K R kc ks sz (pc + 3) lo st w) : V G M K R kc ks sz pc lo (.int y :: .int x :: st) w :=
  fun p l e s m args below meth c F ls H locs hl hw hS => lv_icmp_gt F.1 F.2.1 d ht (fun q => kt q p l e s m args below meth c F ls H locs hl hw hS) (fun q => kf q p l e s m args below meth c F ls H locs hl hw hS)
theorem V_icmp_le {x y : Int32} {off : Int} (tgt : Nat) (d : decode M.2.1 pc = .ok (.if_icmp .le off, 3)) (ht : (pc : Int) + off = (tgt : Int)) (kt : x ≤ y → V G M K R kc ks sz tgt lo st w) (kf : ¬ x ≤ y → V G M K R kc ks sz (pc + 3) lo st w) : V G M K R kc ks sz pc lo (.int y :: .int x :: st) w :=
  fun p l e s m args below meth c F ls H locs hl hw hS => lv_icmp_le F.1 F.2.1 d ht (fun q => kt q p l e s m args below meth c F ls H locs hl hw hS) (fun q => kf q p l e s m args below meth c F ls H locs hl hw hS)
theorem V_goto {off : Int} (tgt : Nat) (d : decode M.2.1 pc = .ok (.goto off, 3)) (ht : (pc : Int) + off = (tgt : Int)) (k : V G M K R kc ks sz tgt lo st w) : V G M K R kc ks sz pc lo st w :=
  fun p l e s m args below meth c F ls H locs hl hw hS => lv_goto F.1 F.2.1 d ht (k p l e s m args below meth c F ls H locs hl hw hS)
theorem V_tableIn {x : Int32} {dflt tl th : Int} {offs : Array Int} {len : Nat} {off : Int} (tgt : Nat) (d : decode M.2.1 pc = .ok (.tableswitch dflt tl th offs, len)) (h1 : ¬ x.toInt < tl) (h2 : ¬ th < x.toInt) (ho : offs[(x.toInt - tl).toNat]? = some off) (ht : (pc : Int) + off = (tgt : Int)) (k : V G M K R kc ks sz tgt lo st w) : V G M K R kc ks sz pc lo (.int x :: st) w :=
  fun p l e s m args below meth c F ls H locs hl hw hS => lv_tableIn F.1 F.2.1 d h1 h2 ho ht (k p l e s m args below meth c F ls H locs hl hw hS)
theorem V_tableOut {x : Int32} {dflt tl th : Int} {offs : Array Int} {len : Nat} (tgt : Nat) (d : decode M.2.1 pc = .ok (.tableswitch dflt tl th offs, len)) (h : x.toInt < tl ∨ th < x.toInt) (ht : (pc : Int) + dflt = (tgt : Int)) (k : V G M K R kc ks sz tgt lo st w) : V G M K R kc ks sz pc lo (.int x :: st) w :=
  fun p l e s m args below meth c F ls H locs hl hw hS => lv_tableOut F.1 F.2.1 d h ht (k p l e s m args below meth c F ls H locs hl hw hS)
theorem V_ldc {idx : Nat} {v : Int32} (d : decode M.2.1 pc = .ok (.ldc idx, 2)) (hc : zin (.constant M.1.cls idx v)) (k : V G M K R kc ks sz (pc + 2) lo (.int v :: st) w) : V G M K R kc ks sz pc lo st w :=
  fun p l e s m args below meth c F ls H locs hl hw hS => lv_ldc F.1 F.2.1 F.2.2.2.1 (F.2.2.2.2.1.use hc _) d (k p l e s m args below meth c F ls H locs hl hw hS)
theorem V_ldc2 {idx : Nat} {v : Int64} (d : decode M.2.1 pc = .ok (.ldc2_w idx, 3)) (hc : zin (.constantLong M.1.cls idx v)) (k : V G M K R kc ks sz (pc + 3) lo (.long v :: st) w) : V G M K R kc ks sz pc lo st w :=
  fun p l e s m args below meth c F ls H locs hl hw hS => lv_ldc2 F.1 F.2.1 F.2.2.2.1 (F.2.2.2.2.1.use hc _) d (k p l e s m args below meth c F ls H locs hl hw hS)
end ZV
