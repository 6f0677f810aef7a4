/-! the keys, on both sides -/
theorem zMk_s {nn j : Nat} {c : Int32} {L : Nat → Int → Int} (_hj : j ≠ 85) {i : Int} (h0 : 0 ≤ i) (h1 : i < nn) : zMk nn c j L 85 i = zrE (zlcN c (2 * nn)) i + zMl nn (L 5) (zrU c) i := by
  unfold zMk zap
  rw [zlu_s, if_pos ⟨h0, h1⟩, zif_l ⟨h0, h1⟩, zcp_M ⟨h0, h1⟩, zM_c (g' := zrU c) (fun j _ _ => rfl) (fun j a b => zif_l ⟨a, b⟩)]
theorem zMk_m {nn j : Nat} {c : Int32} {L : Nat → Int → Int} (hj : j ≠ 85) : zMk nn c j L j = zif nn (zrU c) (L j) := by
  unfold zMk
  rw [zlu_n hj, zlu_n hj, zlu_s]
theorem zMk_o {nn j q : Nat} {c : Int32} {L : Nat → Int → Int} (h : q ≠ j) (h2 : q ≠ 85) : zMk nn c j L q = L q := by
  unfold zMk
  rw [zlu_n h2, zlu_n h2, zlu_n h]
theorem zHb_o {nn j q : Nat} {L : Nat → Int → Int} (h : q ≠ j) : zHb nn j L q = L q := zlu_n h
theorem zSwL_o {nn j a q : Nat} {ch : Int32} {L : Nat → Int → Int} (h : q ≠ 85) (h2 : q < j + 2 ∨ j + 15 ≤ q) : ∀ k : Nat, k ≤ 6 → zSwL nn ch j a L k q = L q
  | 0, _ => rfl
  | k + 1, hk => by
    show zHb nn (j + 1 + 1 + k) (zAs nn 85 a (-(32 ^ k)) (zMk nn (zSwc nn ch k) (j + 8 + 1 + k) (zSwL nn ch j a L k))) q = _
    rw [zHb_o (by omega), zAs_o h, zMk_o (by omega) h]
    exact zSwL_o h h2 k (by omega)
/-- one pair more -/
theorem zSwL_1 {nn j a k : Nat} {ch : Int32} {L : Nat → Int → Int} (hj : j + 15 ≤ 85) (hk : k < 6) (h5 : 5 < j) (ha : a ≠ 85 ∧ (a < j + 2 ∨ j + 15 ≤ a)) {i : Int} (h0 : 0 ≤ i) (h1 : i < nn) : zAs nn 85 a (-(32 ^ k)) (zMk nn (zSwc nn ch k) (j + 8 + 1 + k) (zSwL nn ch j a L k)) 85 i = zrE (zlcN (zSwc nn ch k) (2 * nn)) i + zMl nn (L 5) (zrU (zSwc nn ch k)) i + -(32 ^ k) * L a i := by
  rw [zAs_at h0 h1, zMk_s (by omega) h0 h1, zMk_o (by omega) ha.1, zSwL_o (by decide) (by omega) k (by omega), zSwL_o ha.1 ha.2 k (by omega)]
theorem zqR_16 {nn : Nat} {c : Int32} {X : Nat → Int → Int} : zqR nn c X 16 = zif nn (zrU c) (X 16) := rfl
theorem zqR_17 {nn : Nat} {c : Int32} {X : Nat → Int → Int} : zqR nn c X 17 = zif nn (zrE (zlcN c (2 * nn))) (X 17) := rfl
theorem zqR_14 {nn : Nat} {c : Int32} {X : Nat → Int → Int} {i : Int} : zqR nn c X 14 i = zif nn (fun i => zrd nn (zif nn (zrU c) (X 16)) (X 1) i nn % 268435399) (X 14) i := rfl
theorem zqR_13 {nn : Nat} {c : Int32} {X : Nat → Int → Int} : zqR nn c X 13 = X 13 := rfl
theorem zqR_4 {nn : Nat} {c : Int32} {X : Nat → Int → Int} : zqR nn c X 4 = X 4 := rfl
theorem zqR_5 {nn : Nat} {c : Int32} {X : Nat → Int → Int} : zqR nn c X 5 = X 5 := rfl
theorem zqW_4 {nn a k : Nat} {X : Nat → Int → Int} : zqW nn a k nn X 4 = zsf (((a : Int) * 6 + k) * 32) nn (zqF k X) (X 4) := rfl
theorem zqW_5 {nn a k : Nat} {X : Nat → Int → Int} : zqW nn a k nn X 5 = zsf (((a : Int) * 6 + k) * 32) nn (X 16) (X 5) := rfl
theorem zcF {e M m r u P : Int} (h1 : zc m M) (h2 : zc r u) : -(e + M + -P * r) % 268435399 = (-(m + e) + (P % 268435399 * (u % 268435399)) % 268435399) % 268435399 := by
  have h3 : zc (P * r) ((P % 268435399 * (u % 268435399)) % 268435399) := zc_t (zc_mul (zc_s (zc_m P)) (zc_t h2 (zc_s (zc_m u)))) (zc_s (zc_m _))
  have h4 : zc (-(e + M + -P * r)) (-(m + e) + (P % 268435399 * (u % 268435399)) % 268435399) := by
    rw [show -(e + M + -P * r) = -(M + e) + P * r from by rw [Int.neg_mul]; omega]
    exact zc_add (zc_neg (zc_add (zc_s h1) zc_r)) h3
  exact h4
theorem zSw_k {nn a a' : Nat} {ch : Int32} {L R : Nat → Int → Int} (hn : nn ≤ 32) (ha' : a' < 5) (ha : a ≠ 85 ∧ (a < 9 ∨ 85 ≤ a)) (hI : zIk L R) (hs : ∀ i : Int, 0 ≤ i → i < nn → L 5 i = R 1 i) (hu : ∀ i : Int, 0 ≤ i → i < nn → zc (L a i) (R 13 i)) : ∀ k : Nat, k ≤ 6 → zIk (zSwL nn ch (zkj a') a L k) (zqP nn ch a' R k)
  | 0, _ => hI
  | k + 1, hk => by
    have ih := zSw_k (ch := ch) hn ha' ha hI hs hu k (by omega)
    have hj := zkj_b ha'
    have p1 : zqP nn ch a' R k 1 = R 1 := zqP_o (by decide) k
    have p13 : zqP nn ch a' R k 13 = R 13 := zqP_o (by decide) k
    have so : ∀ i : Int, 0 ≤ i → i < nn → zAs nn 85 a (-(32 ^ k)) (zMk nn (zSwc nn ch k) (zkj a' + 8 + 1 + k) (zSwL nn ch (zkj a') a L k)) 85 i = zrE (zlcN (zSwc nn ch k) (2 * nn)) i + zMl nn (L 5) (zrU (zSwc nn ch k)) i + -(32 ^ k) * L a i := fun i h0 h1 => zSwL_1 (by omega) (by omega) (by omega) ⟨ha.1, by omega⟩ h0 h1
    have e1 : zSwL nn ch (zkj a') a L (k + 1) = zHb nn (zkj a' + 1 + 1 + k) (zAs nn 85 a (-(32 ^ k)) (zMk nn (zSwc nn ch k) (zkj a' + 8 + 1 + k) (zSwL nn ch (zkj a') a L k))) := rfl
    have e2 : zqP nn ch a' R (k + 1) = zqW nn a' k nn (zqR nn (zSwc nn ch k) (zqP nn ch a' R k)) := rfl
    rw [e1, e2]
    generalize zSwL nn ch (zkj a') a L k = X at *
    generalize zqP nn ch a' R k = Y at *
    generalize zSwc nn ch k = c at *
    obtain ⟨i1, i2, i3⟩ := ih
    have body : ∀ i : Int, 0 ≤ i → i < nn → zHb nn (zkj a' + 1 + 1 + k) (zAs nn 85 a (-(32 ^ k)) (zMk nn c (zkj a' + 8 + 1 + k) X)) (zkj a' + 1 + 1 + k) i = zqF k (zqR nn c Y) i := fun i h0 h1 => by
      unfold zHb
      rw [zlu_s, zif_l ⟨h0, h1⟩, so i h0 h1]
      unfold zqF
      rw [zqR_14, zqR_17, zqR_13, zif_l ⟨h0, h1⟩, zif_l ⟨h0, h1⟩, p1, p13]
      refine zcF ?_ (hu i h0 h1)
      refine zc_t (zrd_M ⟨h0, h1⟩) ?_
      rw [zM_comm h0, zM_c (f' := L 5) (g' := zrU c) (fun j a b => (hs j a b).symm) (fun j a b => zif_l ⟨a, b⟩)]
      exact zc_r
    refine ⟨fun b m hb hm i h0 h1 => ?_, fun q q0 q1 => ?_, fun q q0 q1 => ?_⟩
    · have hb' := zkj_b hb
      have hd : b = a' ∨ zkj b + 15 ≤ zkj a' ∨ zkj a' + 15 ≤ zkj b := by
        have : ∀ b a' : Fin 5, b = a' ∨ zkj b + 15 ≤ zkj a' ∨ zkj a' + 15 ≤ zkj b := by decide
        have := this ⟨b, hb⟩ ⟨a', ha'⟩
        rcases this with h | h | h
        · exact Or.inl (congrArg Fin.val h)
        · exact Or.inr (Or.inl h)
        · exact Or.inr (Or.inr h)
      rw [zqW_4, zqW_5, zqR_4, zqR_5, zqR_16]
      by_cases hbm : b = a' ∧ m = k
      · obtain ⟨rfl, rfl⟩ := hbm
        by_cases hi : i < nn
        · rw [zsf_l (by omega), zsf_l (by omega), show ((b : Int) * 6 + m) * 32 + i - ((b : Int) * 6 + m) * 32 = i by omega, body i h0 hi]
          refine ⟨rfl, ?_⟩
          rw [zHb_o (by omega), zAs_o (by omega), zMk_m (by omega), zif_l ⟨h0, hi⟩, zif_l ⟨h0, hi⟩]
        · rw [zsf_r (by omega), zsf_r (by omega), zHb_o (q := zkj b + 8 + 1 + m) (by omega), zAs_o (by omega), zMk_m (by omega), zif_r (by omega)]
          refine ⟨?_, (i1 b m hb hm i h0 h1).2⟩
          unfold zHb
          rw [zlu_s, zif_r (by omega), zAs_o (by omega), zMk_o (by omega) (by omega)]
          exact (i1 b m hb hm i h0 h1).1
      · have hne : ((b : Int) * 6 + m) ≠ ((a' : Int) * 6 + k) := by omega
        rw [zsf_r (by omega), zsf_r (by omega), zHb_o (by omega), zHb_o (by omega), zAs_o (by omega), zAs_o (by omega), zMk_o (by omega) (by omega), zMk_o (by omega) (by omega)]
        exact i1 b m hb hm i h0 h1
    · rw [zqW_4, zqR_4]
      unfold zsf
      split
      · exact zqm _
      · exact i2 q q0 q1
    · rw [zqW_5, zqR_5, zqR_16]
      unfold zsf
      split
      · rw [zif_l (by omega)]
        exact zrU_b _ _
      · exact i3 q q0 q1
/-- the sums of a switch stay small -/
theorem zpw32 {k : Nat} (hk : k < 6) : 0 ≤ (32 : Int) ^ k ∧ (32 : Int) ^ k ≤ 33554432 := by
  have : k = 0 ∨ k = 1 ∨ k = 2 ∨ k = 3 ∨ k = 4 ∨ k = 5 := by omega
  rcases this with rfl | rfl | rfl | rfl | rfl | rfl <;> decide
theorem zSw_b {nn j a k : Nat} {ch : Int32} {L : Nat → Int → Int} (hn : nn ≤ 32) (hj : j + 15 ≤ 85) (hk : k < 6) (h5 : 5 < j) (ha : a ≠ 85 ∧ (a < j + 2 ∨ j + 15 ≤ a)) (hs : ∀ i : Int, 0 ≤ i → i < nn → -1 ≤ L 5 i ∧ L 5 i ≤ 1) (hu : ∀ i : Int, 0 ≤ i → i < nn → -268435399 ≤ L a i ∧ L a i ≤ 268435399) (i : Nat) (hi : i < nn) : -9223372036854775808 < zAs nn 85 a (-(32 ^ k)) (zMk nn (zSwc nn ch k) (j + 8 + 1 + k) (zSwL nn ch j a L k)) 85 i ∧ zAs nn 85 a (-(32 ^ k)) (zMk nn (zSwc nn ch k) (j + 8 + 1 + k) (zSwL nn ch j a L k)) 85 i < 9223372036854775808 := by
  rw [zSwL_1 hj hk h5 ha (by omega) (by omega)]
  have b1 := zrE_b (zlcN (zSwc nn ch k) (2 * nn)) i
  have b2 := zM_b (A := 1) (B := 268435399) (i := i) hn (by omega) (by omega) hs (fun m _ _ => by have := zrU_b (zSwc nn ch k) m; exact ⟨by omega, by omega⟩ : ∀ m : Int, 0 ≤ m → m < nn → -268435399 ≤ zrU (zSwc nn ch k) m ∧ zrU (zSwc nn ch k) m ≤ 268435399)
  have b3 := zbb (x := -(32 ^ k)) (y := L a i) (A := 33554432) (B := 268435399) (by have := zpw32 hk; omega) (hu i (by omega) (by omega))
  generalize -(32 ^ k) * L a i = z at *
  generalize zMl nn (L 5) (zrU (zSwc nn ch k)) i = y at *
  generalize zrE (zlcN (zSwc nn ch k) (2 * nn)) i = x at *
  omega
