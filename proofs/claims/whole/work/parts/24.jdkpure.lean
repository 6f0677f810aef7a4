/-! pure words for the JDK's members -/
theorem zfm {a b : Int} (hb : 0 < b) : a % b = a.tmod b + if 0 ≤ a ∨ a.tmod b = 0 then 0 else b := by
  rw [Int.emod_eq_tmod]
  by_cases h0 : 0 ≤ a
  · rw [if_pos (Or.inl h0), if_pos (Or.inl h0)]
    rfl
  · by_cases h1 : a.tmod b = 0
    · rw [if_pos (Or.inr (Int.dvd_of_tmod_eq_zero h1)), if_pos (Or.inr h1)]
      rfl
    · rw [if_neg (fun q => q.elim h0 (fun q => h1 (Int.tmod_eq_zero_of_dvd q))), if_neg (fun q => q.elim h0 h1)]
      omega
theorem zfd {a b : Int} (hb : 0 < b) : a / b = a.tdiv b - if 0 ≤ a ∨ a.tmod b = 0 then 0 else 1 := by
  rw [Int.ediv_eq_tdiv]
  by_cases h0 : 0 ≤ a
  · rw [if_pos (Or.inl h0), if_pos (Or.inl h0)]
  · by_cases h1 : a.tmod b = 0
    · rw [if_pos (Or.inr (Int.dvd_of_tmod_eq_zero h1)), if_pos (Or.inr h1)]
    · rw [if_neg (fun q => q.elim h0 (fun q => h1 (Int.tmod_eq_zero_of_dvd q))), if_neg (fun q => q.elim h0 h1), Int.sign_eq_one_of_pos hb]
theorem ztq {a b : Int} : a.tdiv b * b = a ↔ a.tmod b = 0 := by
  have h := Int.tmod_add_mul_tdiv a b
  rw [Int.mul_comm b] at h
  omega
theorem zneg64 (x : Int64) : x.toInt < 0 ↔ x.toBitVec.msb = true := by
  rw [BitVec.msb_eq_toInt, decide_eq_true_iff]
  rfl
theorem zneg32 (x : Int32) : x.toInt < 0 ↔ x.toBitVec.msb = true := by
  rw [BitVec.msb_eq_toInt, decide_eq_true_iff]
  rfl
theorem zxor64 {a b : Int} (ha : -9223372036854775808 ≤ a ∧ a < 9223372036854775808) (hb : 0 < b ∧ b < 9223372036854775808) : ∃ x : Int, Int64.ofInt a ^^^ Int64.ofInt b = Int64.ofInt x ∧ (-9223372036854775808 ≤ x ∧ x < 9223372036854775808) ∧ (x < 0 ↔ a < 0) := by
  refine ⟨(Int64.ofInt a ^^^ Int64.ofInt b).toInt, (Int64.ofInt_toInt _).symm, ⟨by have := Int64.le_toInt (Int64.ofInt a ^^^ Int64.ofInt b); omega, by have := Int64.toInt_lt (Int64.ofInt a ^^^ Int64.ofInt b); omega⟩, ?_⟩
  have h1 : ¬ (Int64.ofInt b).toInt < 0 := by rw [z64 (by omega)]; omega
  have h2 : (Int64.ofInt a).toInt < 0 ↔ a < 0 := by rw [z64 ha]
  rw [← h2]
  rw [zneg64] at h1 ⊢
  rw [zneg64, Int64.toBitVec_xor, BitVec.msb_xor]
  cases h3 : (Int64.ofInt b).toBitVec.msb
  · simp
  · exact absurd h3 h1
theorem zxor32 {a b : Int} (ha : -2147483648 ≤ a ∧ a < 2147483648) (hb : 0 < b ∧ b < 2147483648) : ∃ x : Int, Int32.ofInt a ^^^ Int32.ofInt b = Int32.ofInt x ∧ (-2147483648 ≤ x ∧ x < 2147483648) ∧ (x < 0 ↔ a < 0) := by
  refine ⟨(Int32.ofInt a ^^^ Int32.ofInt b).toInt, (Int32.ofInt_toInt _).symm, ⟨by have := Int32.le_toInt (Int32.ofInt a ^^^ Int32.ofInt b); omega, by have := Int32.toInt_lt (Int32.ofInt a ^^^ Int32.ofInt b); omega⟩, ?_⟩
  have h1 : ¬ (Int32.ofInt b).toInt < 0 := by rw [z32 (by omega)]; omega
  have h2 : (Int32.ofInt a).toInt < 0 ↔ a < 0 := by rw [z32 ha]
  rw [← h2]
  rw [zneg32] at h1 ⊢
  rw [zneg32, Int32.toBitVec_xor, BitVec.msb_xor]
  cases h3 : (Int32.ofInt b).toBitVec.msb
  · simp
  · exact absurd h3 h1
theorem ztm_np {a : Int} (b : Int) (h : a ≤ 0) : a.tmod b ≤ 0 := by
  have := Int.tmod_nonneg b (show 0 ≤ -a by omega)
  rw [Int.neg_tmod] at this
  omega
theorem ztd_b {a b : Int} (hb : 0 < b) (h : -9223372036854775808 ≤ a ∧ a < 9223372036854775808) : -9223372036854775808 ≤ a.tdiv b ∧ a.tdiv b < 9223372036854775808 := by
  have h1 := Int.tmod_add_mul_tdiv a b
  have h2 := ztmod_b (a := a) hb
  rcases Int.le_total 0 a with h0 | h0
  · have h3 := Int.tdiv_nonneg h0 (Int.le_of_lt hb)
    have h4 : a.tdiv b ≤ b * a.tdiv b := by
      have := Int.mul_le_mul_of_nonneg_right (show (1 : Int) ≤ b by omega) h3
      omega
    have h5 := Int.tmod_nonneg b h0
    omega
  · have h3 : a.tdiv b ≤ 0 := by
      have := Int.tdiv_nonneg (show 0 ≤ -a by omega) (Int.le_of_lt hb)
      rw [Int.neg_tdiv] at this
      omega
    have h4 : b * a.tdiv b ≤ a.tdiv b := by
      have := Int.mul_le_mul_of_nonneg_right (show (1 : Int) ≤ b by omega) (show 0 ≤ -(a.tdiv b) by omega)
      rw [Int.mul_neg, Int.mul_neg] at this
      omega
    have h5 : a.tmod b ≤ 0 := by
      have := Int.tmod_nonneg b (show 0 ≤ -a by omega)
      rw [Int.neg_tmod] at this
      omega
    omega
section ZJL
variable {G : zG} {M : zM} {K : zK} {R : Room} {kc ks sz pc : Nat} {lo : List (Nat × Value)} {st : List Value} {w : zW}
theorem zcm_r (a b : Int) : -2147483648 ≤ zcm a b ∧ zcm a b < 2147483648 := by
  unfold zcm
  split
  · decide
  · split <;> decide
theorem JL_eq {a b off : Int} (tgt : Nat) (d1 : decode M.2.1 pc = .ok (.lcmp, 1)) (d2 : decode M.2.1 (pc + 1) = .ok (.ifCond .eq off, 3)) (ht : ((pc + 1 : Nat) : Int) + off = (tgt : Int)) (ha : -9223372036854775808 ≤ a ∧ a < 9223372036854775808) (hb : -9223372036854775808 ≤ b ∧ b < 9223372036854775808) (kt : a = b → V G M K R kc ks sz tgt lo st w) (kf : ¬ a = b → V G M K R kc ks sz (pc + 4) lo st w) : V G M K R kc ks sz pc lo (.long (Int64.ofInt b) :: .long (Int64.ofInt a) :: st) w := by
  refine J_lcmp d1 ha hb (J_if_eq tgt d2 ht (zcm_r a b) (fun q => kt ?_) (fun q => kf ?_))
  · unfold zcm at q
    split at q <;> (try split at q) <;> omega
  · unfold zcm at q
    split at q <;> (try split at q) <;> omega
theorem JL_ne {a b off : Int} (tgt : Nat) (d1 : decode M.2.1 pc = .ok (.lcmp, 1)) (d2 : decode M.2.1 (pc + 1) = .ok (.ifCond .ne off, 3)) (ht : ((pc + 1 : Nat) : Int) + off = (tgt : Int)) (ha : -9223372036854775808 ≤ a ∧ a < 9223372036854775808) (hb : -9223372036854775808 ≤ b ∧ b < 9223372036854775808) (kt : ¬ a = b → V G M K R kc ks sz tgt lo st w) (kf : a = b → V G M K R kc ks sz (pc + 4) lo st w) : V G M K R kc ks sz pc lo (.long (Int64.ofInt b) :: .long (Int64.ofInt a) :: st) w := by
  refine J_lcmp d1 ha hb (J_if_ne tgt d2 ht (zcm_r a b) (fun q => kt ?_) (fun q => kf ?_))
  · unfold zcm at q
    split at q <;> (try split at q) <;> omega
  · unfold zcm at q
    split at q <;> (try split at q) <;> omega
theorem JL_lt {a b off : Int} (tgt : Nat) (d1 : decode M.2.1 pc = .ok (.lcmp, 1)) (d2 : decode M.2.1 (pc + 1) = .ok (.ifCond .lt off, 3)) (ht : ((pc + 1 : Nat) : Int) + off = (tgt : Int)) (ha : -9223372036854775808 ≤ a ∧ a < 9223372036854775808) (hb : -9223372036854775808 ≤ b ∧ b < 9223372036854775808) (kt : a < b → V G M K R kc ks sz tgt lo st w) (kf : b ≤ a → V G M K R kc ks sz (pc + 4) lo st w) : V G M K R kc ks sz pc lo (.long (Int64.ofInt b) :: .long (Int64.ofInt a) :: st) w := by
  refine J_lcmp d1 ha hb (J_if_lt tgt d2 ht (zcm_r a b) (fun q => kt ?_) (fun q => kf ?_))
  · unfold zcm at q
    split at q <;> (try split at q) <;> omega
  · unfold zcm at q
    split at q <;> (try split at q) <;> omega
theorem JL_ge {a b off : Int} (tgt : Nat) (d1 : decode M.2.1 pc = .ok (.lcmp, 1)) (d2 : decode M.2.1 (pc + 1) = .ok (.ifCond .ge off, 3)) (ht : ((pc + 1 : Nat) : Int) + off = (tgt : Int)) (ha : -9223372036854775808 ≤ a ∧ a < 9223372036854775808) (hb : -9223372036854775808 ≤ b ∧ b < 9223372036854775808) (kt : b ≤ a → V G M K R kc ks sz tgt lo st w) (kf : a < b → V G M K R kc ks sz (pc + 4) lo st w) : V G M K R kc ks sz pc lo (.long (Int64.ofInt b) :: .long (Int64.ofInt a) :: st) w := by
  refine J_lcmp d1 ha hb (J_if_ge tgt d2 ht (zcm_r a b) (fun q => kt ?_) (fun q => kf ?_))
  · unfold zcm at q
    split at q <;> (try split at q) <;> omega
  · unfold zcm at q
    split at q <;> (try split at q) <;> omega
theorem JL_gt {a b off : Int} (tgt : Nat) (d1 : decode M.2.1 pc = .ok (.lcmp, 1)) (d2 : decode M.2.1 (pc + 1) = .ok (.ifCond .gt off, 3)) (ht : ((pc + 1 : Nat) : Int) + off = (tgt : Int)) (ha : -9223372036854775808 ≤ a ∧ a < 9223372036854775808) (hb : -9223372036854775808 ≤ b ∧ b < 9223372036854775808) (kt : b < a → V G M K R kc ks sz tgt lo st w) (kf : a ≤ b → V G M K R kc ks sz (pc + 4) lo st w) : V G M K R kc ks sz pc lo (.long (Int64.ofInt b) :: .long (Int64.ofInt a) :: st) w := by
  refine J_lcmp d1 ha hb (J_if_gt tgt d2 ht (zcm_r a b) (fun q => kt ?_) (fun q => kf ?_))
  · unfold zcm at q
    split at q <;> (try split at q) <;> omega
  · unfold zcm at q
    split at q <;> (try split at q) <;> omega
theorem JL_le {a b off : Int} (tgt : Nat) (d1 : decode M.2.1 pc = .ok (.lcmp, 1)) (d2 : decode M.2.1 (pc + 1) = .ok (.ifCond .le off, 3)) (ht : ((pc + 1 : Nat) : Int) + off = (tgt : Int)) (ha : -9223372036854775808 ≤ a ∧ a < 9223372036854775808) (hb : -9223372036854775808 ≤ b ∧ b < 9223372036854775808) (kt : a ≤ b → V G M K R kc ks sz tgt lo st w) (kf : b < a → V G M K R kc ks sz (pc + 4) lo st w) : V G M K R kc ks sz pc lo (.long (Int64.ofInt b) :: .long (Int64.ofInt a) :: st) w := by
  refine J_lcmp d1 ha hb (J_if_le tgt d2 ht (zcm_r a b) (fun q => kt ?_) (fun q => kf ?_))
  · unfold zcm at q
    split at q <;> (try split at q) <;> omega
  · unfold zcm at q
    split at q <;> (try split at q) <;> omega
theorem V_ldc_w {idx : Nat} {v : Int32} (d : decode M.2.1 pc = .ok (.ldc_w idx, 3)) (hc : zin (.constant M.1.cls idx v)) (k : V G M K R kc ks sz (pc + 3) lo (.int v :: st) w) : V G M K R kc ks sz pc lo st w :=
  fun p l e s m args below meth c F ls H locs hl hw hS => lv_ldcw F.1 F.2.1 F.2.2.2.1 (F.2.2.2.2.1.use hc _) d (k p l e s m args below meth c F ls H locs hl hw hS)
end ZJL
