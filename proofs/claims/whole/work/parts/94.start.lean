/-! what holds at the law's entry -/
theorem zWd_of {s : State} {args : Array Value} (hts : ∀ w ∈ lw_tbl, w.before args s = true) : zWd s := by
  intro w hw hg
  have h1 := hts w hw
  rcases zgw_cases hg with ⟨_, _, _, _, _, _, rfl⟩ | ⟨_, _, _, _, rfl⟩ | ⟨_, rfl⟩ | ⟨_, _, rfl⟩ | ⟨_, rfl⟩ | hg
  · exact va_tabs rfl rfl h1
  · exact va_tabs rfl rfl h1
  · exact va_tabs rfl rfl h1
  · exact va_tabs rfl rfl h1
  · exact zao rfl h1
  · exact word_at (State.WarmedH.refl s) (good_of_word hg) h1
theorem zst_in : ∀ q ∈ zStr, Cond.stringRef "RingCipher" q.1 q.2 ∈ lw_tbl := by decide +kernel
theorem zst_k : ∀ q ∈ zStr, q.1 ≠ 0 ∧ q.1 ≠ 1 ∧ q.1 < 100000 := by decide +kernel
theorem zstr_of {s : State} {args : Array Value} (hts : ∀ w ∈ lw_tbl, w.before args s = true) (hex : ∀ q ∈ zStr, (Cond.exactly (.string "RingCipher" q.1) "java/lang/String").before args s = true) : ∃ st : Nat → Nat, ∀ q ∈ zStr, vk_R "RingCipher" q.1 q.2 (st q.1) s := by
  have key : ∀ k : Nat, ∃ a : Nat, ∀ q ∈ zStr, q.1 = k → vk_R "RingCipher" q.1 q.2 a s := by
    intro k
    by_cases h : ∃ q ∈ zStr, q.1 = k
    · obtain ⟨q, hq, rfl⟩ := h
      obtain ⟨a, -, -, -, ha, -⟩ := Cond.exactly_spec (hex q hq)
      refine ⟨a, fun q' hq' e => ?_⟩
      exact vk_R.of (hts _ (zst_in q' hq')) (by rw [e]; exact ha)
    · exact ⟨0, fun q hq e => absurd ⟨q, hq, e⟩ h⟩
  exact ⟨fun k => Classical.choose (key k), fun q hq => Classical.choose_spec (key q.1) q hq rfl⟩
theorem znc_of {s : State} {args : Array Value} {C T : String} (h : (Cond.not (Cond.castable C T)).before args s = true) {c t : ClassId} (h1 : s.vm.findClass C = some c) (h2 : s.vm.findClass T = some t) : s.vm.assignable c t = false := by
  simp [Cond.before, Cond.holds, Cond.value, h1, h2] at h
  exact h
theorem zls_of {s : State} {args : Array Value} {C n d : String} {A : Nat → Prop} (h : (Cond.laysStatic C n d).before args s = true) (hA : ∀ a : Nat, a < s.heap.size → ¬ A a) : zLs C n d A s s.heap := by
  obtain ⟨c, k, i, f, a, cell, hc, hi, hst, ha, hcell, hs, hcls, hlt, hty⟩ := Cond.laysStatic_spec h
  exact ⟨c, k, i, f, a, cell, hc, hi, hst, ha, hcell, hs, hcls, hlt, hty, hA a (Array.getElem?_eq_some_iff.mp hcell).1⟩
theorem zarr_p {s : State} {args : Array Value} {ty : FieldType} (h : (Cond.arrayClass ty).before args s = true) (hr : ∀ cA, va_RA s cA ty ↔ s.vm.findClass ("[" ++ ty.toString) = some cA) : ∃ cA, ArrOfT s cA ty ∧ va_RA s cA ty := by
  obtain ⟨c, k, comp, h1, h2, h3⟩ := Cond.arrayClass_spec h
  exact ⟨c, fun N z => ⟨(fun k h => by cases h), k, h2, comp, h3⟩, (hr c).mpr h1⟩
theorem zarr_o {s : State} {args : Array Value} {C : String} (h : (Cond.arrayOver (.object C)).before args s = true) : ∃ cA, ArrOfT s cA (.object C) ∧ va_RA s cA (.object C) := by
  obtain ⟨comp, c, k, h1, -, h2, h3, h4⟩ := Cond.arrayOver_spec h
  exact ⟨c, fun N z => ⟨(fun k h => by cases h), k, h2, comp, h3⟩, k, comp, h2, h3, h1, h4⟩
theorem zarr_a {s : State} {args : Array Value} (h : (Cond.arrayOver (.array .long)).before args s = true) : ∃ cA, ArrOfT s cA (.array .long) ∧ va_RA s cA (.array .long) := by
  obtain ⟨comp, c, k, h1, h2, h3, h4⟩ := Cond.arrayOver_specA h
  exact ⟨c, fun N z => ⟨(fun k h => by cases h), k, h2, comp, h3⟩, h4⟩
theorem zenc (x : Int32) : Int32.ofInt ((Int32.ofNat x.toBitVec.toNat).toInt) = x := by
  rw [Int32.ofInt_toInt]
  apply Int32.toBitVec_inj.mp
  show BitVec.ofNat 32 x.toBitVec.toNat = x.toBitVec
  simp
set_option maxHeartbeats 4000000 in
theorem zstart {s : State} {args : Array Value} (hts : ∀ w ∈ lw_tbl, w.before args s = true) (hgv : (Jvm.Cond.and given_1 narrow_1).before args s = true) {b L : Nat} {xs : Nat → Int32} (hX : va_X b L xs s s.heap) (hbl : b < s.heap.size) (hL : L ≤ 2560) : ∃ G : zG, zKn G s ∧ G.2.2.1 = s.heap.size ∧ G.2.2.2 100000 = b ∧ G.2.2.2 100001 = L := by
  have hs := flat_of_before _ hgv
  have hA : ∀ a : Nat, a < s.heap.size → ¬ (fun q : Nat => s.heap.size ≤ q) a := fun a h => Nat.not_le.mpr h
  obtain ⟨st, hst⟩ := zstr_of hts (fun q hq => hs _ ((by decide +kernel : ∀ q ∈ zStr, Cond.exactly (.string "RingCipher" q.1) "java/lang/String" ∈ flatC (Jvm.Cond.and given_1 narrow_1)) q hq))
  obtain ⟨c0, i0, k0⟩ := u_known (C := R_Chance) (T := F_Chance) (N := 1) (n := 1) hts (fun w hw => (i_Chance w hw).1) (hts (.instantiable R_Chance 1) (by decide +kernel))
  obtain ⟨c1, i1, k1⟩ := u_known (C := R_Cipher) (T := F_Cipher) (N := 2) (n := 2) hts (fun w hw => (i_Cipher w hw).1) (hts (.instantiable R_Cipher 2) (by decide +kernel))
  obtain ⟨c2, i2, k2⟩ := u_known (C := R_KeyRing) (T := F_KeyRing) (N := 10) (n := 10) hts (fun w hw => (i_KeyRing w hw).1) (hts (.instantiable R_KeyRing 10) (by decide +kernel))
  obtain ⟨c3, i3, k3⟩ := u_known (C := R_Ring) (T := F_Ring) (N := 5) (n := 5) hts (fun w hw => (i_Ring w hw).1) (hts (.instantiable R_Ring 5) (by decide +kernel))
  obtain ⟨c4, i4, k4⟩ := u_known (C := R_SwitchKey) (T := F_SwitchKey) (N := 3) (n := 3) hts (fun w hw => (i_SwitchKey w hw).1) (hts (.instantiable R_SwitchKey 3) (by decide +kernel))
  obtain ⟨c5, i5, k5⟩ := u_known (C := R_X) (T := F_X) (N := 7) (n := 7) hts (fun w hw => (i_X w hw).1) (hts (.instantiable R_X 7) (by decide +kernel))
  obtain ⟨c6, i6, k6⟩ := u_known (C := R_Ref) (T := F_Ref) (N := 24) (n := 24) hts (fun w hw => (i_Ref w hw).1) (hts (.instantiable R_Ref 24) (by decide +kernel))
  obtain ⟨a0, a01, a02⟩ := zarr_p (ty := .long) (hts _ (by decide +kernel)) (fun _ => Iff.rfl)
  obtain ⟨a1, a11, a12⟩ := zarr_a (hts _ (by decide +kernel))
  obtain ⟨a2, a21, a22⟩ := zarr_p (ty := .int) (hts _ (by decide +kernel)) (fun _ => Iff.rfl)
  obtain ⟨a3, a31, a32⟩ := zarr_o (C := "RingCipher$Cipher") (hts _ (by decide +kernel))
  obtain ⟨a4, a41, a42⟩ := zarr_o (C := "RingCipher$SwitchKey") (hts _ (by decide +kernel))
  obtain ⟨tS, hS1, hS2⟩ := va_Tof (A := fun q : Nat => s.heap.size ≤ q) (N := 3) (f := zSz) (tm := .static "RingCipher" "SIZES" "[I") (ty := .int) (by decide) (hs _ (by decide +kernel)) (va_eqt (hs _ (by decide +kernel))) (fun j hj => by
    rcases (show j = 0 ∨ j = 1 ∨ j = 2 by omega) with rfl | rfl | rfl
    · exact va_eqt (z := 8) (hs _ (by decide +kernel))
    · exact va_eqt (z := 16) (hs _ (by decide +kernel))
    · exact va_eqt (z := 32) (hs _ (by decide +kernel))) hA
  obtain ⟨tM, hM1, hM2⟩ := va_Tof (A := fun q : Nat => s.heap.size ≤ q) (N := 3) (f := zMo) (tm := .static "RingCipher" "MODULI" "[I") (ty := .int) (by decide) (hs _ (by decide +kernel)) (va_eqt (hs _ (by decide +kernel))) (fun j hj => by
    rcases (show j = 0 ∨ j = 1 ∨ j = 2 by omega) with rfl | rfl | rfl
    · exact va_eqt (z := 17) (hs _ (by decide +kernel))
    · exact va_eqt (z := 97) (hs _ (by decide +kernel))
    · exact va_eqt (z := 193) (hs _ (by decide +kernel))) hA
  obtain ⟨scr, x1, x2, x3, x4, x5⟩ := hX
  refine ⟨((fun k => if k = 0 then c0 else if k = 1 then c1 else if k = 2 then c2 else if k = 3 then c3 else if k = 4 then c4 else if k = 5 then c5 else c6, fun k => if k = 0 then i0 else if k = 1 then i1 else if k = 2 then i2 else if k = 3 then i3 else if k = 4 then i4 else if k = 5 then i5 else i6),
    fun k => if k = 0 then a0 else if k = 1 then a1 else if k = 2 then a2 else if k = 3 then a3 else a4, s.heap.size,
    fun k => if k = 0 then tS else if k = 1 then tM else if k = 100000 then b else if k = 100001 then L else if 100002 ≤ k then (xs (k - 100002)).toBitVec.toNat else st k), ⟨⟨?_, ?_⟩, ⟨va_Zof (hts _ (by decide +kernel)) (hts _ (by decide +kernel)) hS1 hA, hS2⟩, ⟨va_Zof (hts _ (by decide +kernel)) (hts _ (by decide +kernel)) hM1 hA, hM2⟩, ⟨va_Zqof (hts _ (by decide +kernel)) (hts _ (by decide +kernel)) (hs _ (by decide +kernel)) hA, va_Zqof (hts _ (by decide +kernel)) (hts _ (by decide +kernel)) (hs _ (by decide +kernel)) hA⟩, ⟨zls_of (hts _ (by decide +kernel)) hA, zls_of (hts _ (by decide +kernel)) hA⟩, ?_, ?_, ?_⟩, rfl, rfl, rfl⟩
  · intro k q hq
    match k, hq with
    | 0, hq => cases hq; exact k0
    | 1, hq => cases hq; exact k1
    | 2, hq => cases hq; exact k2
    | 3, hq => cases hq; exact k3
    | 4, hq => cases hq; exact k4
    | 5, hq => cases hq; exact k5
    | 6, hq => cases hq; exact k6
    | k + 7, hq => simp [vwCl] at hq
  · intro k q hq
    match k, hq with
    | 0, hq => cases hq; exact ⟨a01, a02⟩
    | 1, hq => cases hq; exact ⟨a11, a12⟩
    | 2, hq => cases hq; exact ⟨a21, a22⟩
    | 3, hq => cases hq; exact ⟨a31, a32⟩
    | 4, hq => cases hq; exact ⟨a41, a42⟩
    | k + 5, hq => simp [zty] at hq
  · intro q hq c t h1 h2
    exact znc_of (hs _ ((by decide +kernel : ∀ q ∈ zNcs, Cond.not (Cond.castable q.1 q.2) ∈ flatC (Jvm.Cond.and given_1 narrow_1)) q hq)) h1 h2
  · intro q hq
    obtain ⟨h0, h1, h2⟩ := zst_k q hq
    show vk_R "RingCipher" q.1 q.2 (if q.1 = 0 then tS else if q.1 = 1 then tM else if q.1 = 100000 then b else if q.1 = 100001 then L else if 100002 ≤ q.1 then (xs (q.1 - 100002)).toBitVec.toNat else st q.1) s
    rw [if_neg h0, if_neg h1, if_neg (by omega), if_neg (by omega), if_neg (by omega)]
    exact hst q hq
  · refine ⟨scr, x1, x2, x3, by show L ≤ _; omega, ?_, fun j hj => ?_, hA b hbl⟩
    · show scr.slots.size.toInt32 = Int32.ofNat L
      rw [x4]
    · rw [x5 j hj]
      have e : (if 100002 + j = 0 then tS else if 100002 + j = 1 then tM else if 100002 + j = 100000 then b else if 100002 + j = 100001 then L else if 100002 ≤ 100002 + j then (xs (100002 + j - 100002)).toBitVec.toNat else st (100002 + j)) = (xs j).toBitVec.toNat := by
        rw [if_neg (by omega), if_neg (by omega), if_neg (by omega), if_neg (by omega), if_pos (by omega), show 100002 + j - 100002 = j by omega]
      show some (Value.int (xs j)) = some (Value.int (Int32.ofInt ((Int32.ofNat (if 100002 + j = 0 then tS else if 100002 + j = 1 then tM else if 100002 + j = 100000 then b else if 100002 + j = 100001 then L else if 100002 ≤ 100002 + j then (xs (100002 + j - 100002)).toBitVec.toNat else st (100002 + j))).toInt)))
      rw [e, zenc]
