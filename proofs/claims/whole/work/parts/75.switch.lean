/-! the switch, on both sides -/
theorem zAw_c {nn j a a' : Nat} {X Y : Nat → Int → Int} (hn : nn ≤ 32) (ha : a ≠ 178 ∧ a ≠ 179 ∧ a ≠ 183) (hj : j + 16 < 178)
    (h1 : ∀ k : Nat, k < 6 → ∀ i : Int, 0 ≤ i → i < nn → X (j + 1 + 1 + k) i = Y 4 (((a' : Int) * 6 + k) * 32 + i) ∧ X (j + 8 + 1 + k) i = Y 5 (((a' : Int) * 6 + k) * 32 + i)) (h2 : ∀ i : Int, 0 ≤ i → i < nn → X a i = Y 10 i) :
    ∀ k : Nat, k ≤ 6 → ∀ i : Int, 0 ≤ i → i < nn → zc (zAw nn j a X k (178 + 0) i) (X (178 + 0) i + zqAp nn a' Y k 13 i) ∧ zc (zAw nn j a X k (178 + 1) i) (X (178 + 1) i + zqAp nn a' Y k 14 i)
  | 0, _, i, i0, i1 => by
    have e1 : zqAp nn a' Y 0 13 i = 0 := by
      show zif nn (fun _ => 0) (Y 13) i = 0
      rw [zif_l ⟨i0, i1⟩]
    have e2 : zqAp nn a' Y 0 14 i = 0 := by
      show zif nn (fun _ => 0) (Y 14) i = 0
      rw [zif_l ⟨i0, i1⟩]
    rw [e1, e2, Int.add_zero, Int.add_zero]
    exact ⟨zc_r, zc_r⟩
  | k + 1, hk, i, i0, i1 => by
    obtain ⟨g1, g2⟩ := zAw_c hn ha hj h1 h2 k (by omega) i i0 i1
    have d1 : ∀ m : Int, 0 ≤ m → m < nn → zDg nn a k (zAw nn j a X k) (182 + 1) m = X a m / 32 ^ k % 32 := fun m m0 m1 => by
      unfold zDg
      rw [zlu_s, zif_l ⟨m0, m1⟩, zAw_o ha]
    have d2 : ∀ m : Int, 0 ≤ m → m < nn → zqX nn k (zqAp nn a' Y k) 16 m = Y 10 m / 32 ^ k % 32 := fun m m0 m1 => by
      unfold zqX
      rw [zlu_s, zif_l ⟨m0, m1⟩, zqAp_o (by decide)]
    have c1 : zAw nn j a X (k + 1) (178 + 0) i = zAw nn j a X k (178 + 0) i + zMl nn (zDg nn a k (zAw nn j a X k) (182 + 1)) (X (j + 1 + 1 + k)) i := by
      show zAp nn (178 + 1) (182 + 1) (j + 8 + 1 + k) (zAp nn (178 + 0) (182 + 1) (j + 1 + 1 + k) (zDg nn a k (zAw nn j a X k))) (178 + 0) i = _
      rw [zAp_o (by decide), zAp_at i0 i1]
      unfold zDg
      rw [zlu_n (show 178 + 0 ≠ 182 + 1 by decide), zlu_n (show j + 1 + 1 + k ≠ 182 + 1 by omega), zAw_o (q := j + 1 + 1 + k) (by omega)]
    have c2 : zAw nn j a X (k + 1) (178 + 1) i = zAw nn j a X k (178 + 1) i + zMl nn (zDg nn a k (zAw nn j a X k) (182 + 1)) (X (j + 8 + 1 + k)) i := by
      show zAp nn (178 + 1) (182 + 1) (j + 8 + 1 + k) (zAp nn (178 + 0) (182 + 1) (j + 1 + 1 + k) (zDg nn a k (zAw nn j a X k))) (178 + 1) i = _
      rw [zAp_at i0 i1, zAp_o (show 178 + 1 ≠ 178 + 0 by decide), zAp_o (show 182 + 1 ≠ 178 + 0 by decide), zAp_o (show j + 8 + 1 + k ≠ 178 + 0 by omega)]
      unfold zDg
      rw [zlu_n (show 178 + 1 ≠ 182 + 1 by decide), zlu_n (show j + 8 + 1 + k ≠ 182 + 1 by omega), zAw_o (q := j + 8 + 1 + k) (by omega)]
    have q1 : zc (zqAp nn a' Y (k + 1) 13 i) (zqAp nn a' Y k 13 i + zMl nn (zif nn (fun m => Y 4 (((a' : Int) * 6 + k) * 32 + m)) (zqAp nn a' Y k 11)) (zqX nn k (zqAp nn a' Y k) 16) i) := by
      show zc (zqA nn a' k 4 13 (zqX nn k (zqAp nn a' Y k)) 13 i) _
      unfold zqA
      rw [zlu_s, zif_l ⟨i0, i1⟩]
      refine zc_t (zc_m _) (zc_add zc_r ?_)
      have e : zqRd nn 11 16 17 (zqSl nn a' k 4 (zqX nn k (zqAp nn a' Y k))) 17 i = zrd nn (zif nn (fun m => Y 4 (((a' : Int) * 6 + k) * 32 + m)) (zqAp nn a' Y k 11)) (zqX nn k (zqAp nn a' Y k) 16) i nn % 268435399 := by
        unfold zqRd
        rw [zlu_s, zif_l ⟨i0, i1⟩]
        show zrd nn (zif nn (fun m => zqAp nn a' Y k 4 (((a' : Int) * 6 + k) * 32 + m)) (zqAp nn a' Y k 11)) _ i nn % 268435399 = _
        rw [zqAp_o (j := 4) (by decide)]
        rfl
      rw [e]
      exact zrd_M ⟨i0, i1⟩
    have q2 : ∃ r11 : Int → Int, (∀ m : Int, 0 ≤ m → m < nn → r11 m = Y 5 (((a' : Int) * 6 + k) * 32 + m)) ∧ zc (zqAp nn a' Y (k + 1) 14 i) (zqAp nn a' Y k 14 i + zMl nn r11 (zqX nn k (zqAp nn a' Y k) 16) i) := by
      refine ⟨zqSl nn a' k 5 (zqA nn a' k 4 13 (zqX nn k (zqAp nn a' Y k))) 11, fun m m0 m1 => ?_, ?_⟩
      · show zif nn (fun m => zqAp nn a' Y k 5 (((a' : Int) * 6 + k) * 32 + m)) _ m = _
        rw [zif_l ⟨m0, m1⟩, zqAp_o (by decide)]
      · show zc (zqA nn a' k 5 14 (zqA nn a' k 4 13 (zqX nn k (zqAp nn a' Y k))) 14 i) _
        generalize hW : zqA nn a' k 4 13 (zqX nn k (zqAp nn a' Y k)) = W
        have w16 : W 16 = zqX nn k (zqAp nn a' Y k) 16 := by
          rw [← hW]
          rfl
        have w14 : W 14 = zqAp nn a' Y k 14 := by
          rw [← hW]
          rfl
        unfold zqA
        rw [zlu_s, zif_l ⟨i0, i1⟩]
        refine zc_t (zc_m _) (zc_add ?_ ?_)
        · show zc (W 14 i) _
          rw [w14]
          exact zc_r
        · unfold zqRd
          rw [zlu_s, zif_l ⟨i0, i1⟩]
          show zc (zrd nn (zqSl nn a' k 5 W 11) (W 16) i nn % 268435399) _
          rw [w16]
          exact zrd_M ⟨i0, i1⟩
    obtain ⟨r11, hr, q2⟩ := q2
    rw [c1, c2]
    have m1 : zMl nn (zDg nn a k (zAw nn j a X k) (182 + 1)) (X (j + 1 + 1 + k)) i = zMl nn (zif nn (fun m => Y 4 (((a' : Int) * 6 + k) * 32 + m)) (zqAp nn a' Y k 11)) (zqX nn k (zqAp nn a' Y k) 16) i := by
      rw [zM_comm i0]
      exact zM_c (fun m m0 m1 => by rw [zif_l ⟨m0, m1⟩]; exact (h1 k (by omega) m m0 m1).1) (fun m m0 m1 => by rw [d1 m m0 m1, d2 m m0 m1, h2 m m0 m1])
    have m2 : zMl nn (zDg nn a k (zAw nn j a X k) (182 + 1)) (X (j + 8 + 1 + k)) i = zMl nn r11 (zqX nn k (zqAp nn a' Y k) 16) i := by
      rw [zM_comm i0]
      exact zM_c (fun m m0 m1 => by rw [hr m m0 m1]; exact (h1 k (by omega) m m0 m1).2) (fun m m0 m1 => by rw [d1 m m0 m1, d2 m m0 m1, h2 m m0 m1])
    rw [m1, m2]
    constructor
    · refine zc_t (zc_add g1 zc_r) (zc_t ?_ (zc_add zc_r (zc_s q1)))
      rw [Int.add_assoc]
      exact zc_r
    · refine zc_t (zc_add g2 zc_r) (zc_t ?_ (zc_add zc_r (zc_s q2)))
      rw [Int.add_assoc]
      exact zc_r
theorem zAw_b {nn j a : Nat} {X : Nat → Int → Int} (hn : nn ≤ 32) (ha : a ≠ 178 ∧ a ≠ 179 ∧ a ≠ 183) (hj : j + 16 < 178) (h1 : ∀ k : Nat, k < 6 → ∀ i : Int, 0 ≤ i → i < nn → (0 ≤ X (j + 1 + 1 + k) i ∧ X (j + 1 + 1 + k) i < 268435399) ∧ (0 ≤ X (j + 8 + 1 + k) i ∧ X (j + 8 + 1 + k) i < 268435399))
    (hX : ∀ i : Int, 0 ≤ i → i < nn → (-1000000000 ≤ X (178 + 0) i ∧ X (178 + 0) i ≤ 1000000000) ∧ (-1000000000 ≤ X (178 + 1) i ∧ X (178 + 1) i ≤ 1000000000)) :
    ∀ k : Nat, k ≤ 6 → ∀ i : Int, 0 ≤ i → i < nn → (-(1000000000 + 300000000000 * (k : Int)) ≤ zAw nn j a X k (178 + 0) i ∧ zAw nn j a X k (178 + 0) i ≤ 1000000000 + 300000000000 * (k : Int)) ∧ (-(1000000000 + 300000000000 * (k : Int)) ≤ zAw nn j a X k (178 + 1) i ∧ zAw nn j a X k (178 + 1) i ≤ 1000000000 + 300000000000 * (k : Int))
  | 0, _, i, i0, i1 => by
    have := hX i i0 i1
    show (_ ≤ X (178 + 0) i ∧ X (178 + 0) i ≤ _) ∧ (_ ≤ X (178 + 1) i ∧ X (178 + 1) i ≤ _)
    omega
  | k + 1, hk, i, i0, i1 => by
    obtain ⟨g1, g2⟩ := zAw_b hn ha hj h1 hX k (by omega) i i0 i1
    have d1 : ∀ m : Int, 0 ≤ m → m < nn → -31 ≤ zDg nn a k (zAw nn j a X k) (182 + 1) m ∧ zDg nn a k (zAw nn j a X k) (182 + 1) m ≤ 31 := fun m m0 m1 => by
      unfold zDg
      rw [zlu_s, zif_l ⟨m0, m1⟩]
      generalize zAw nn j a X k a m / 32 ^ k = y
      omega
    have c1 : zAw nn j a X (k + 1) (178 + 0) i = zAw nn j a X k (178 + 0) i + zMl nn (zDg nn a k (zAw nn j a X k) (182 + 1)) (X (j + 1 + 1 + k)) i := by
      show zAp nn (178 + 1) (182 + 1) (j + 8 + 1 + k) (zAp nn (178 + 0) (182 + 1) (j + 1 + 1 + k) (zDg nn a k (zAw nn j a X k))) (178 + 0) i = _
      rw [zAp_o (by decide), zAp_at i0 i1]
      unfold zDg
      rw [zlu_n (show 178 + 0 ≠ 182 + 1 by decide), zlu_n (show j + 1 + 1 + k ≠ 182 + 1 by omega), zAw_o (q := j + 1 + 1 + k) (by omega)]
    have c2 : zAw nn j a X (k + 1) (178 + 1) i = zAw nn j a X k (178 + 1) i + zMl nn (zDg nn a k (zAw nn j a X k) (182 + 1)) (X (j + 8 + 1 + k)) i := by
      show zAp nn (178 + 1) (182 + 1) (j + 8 + 1 + k) (zAp nn (178 + 0) (182 + 1) (j + 1 + 1 + k) (zDg nn a k (zAw nn j a X k))) (178 + 1) i = _
      rw [zAp_at i0 i1, zAp_o (show 178 + 1 ≠ 178 + 0 by decide), zAp_o (show 182 + 1 ≠ 178 + 0 by decide), zAp_o (show j + 8 + 1 + k ≠ 178 + 0 by omega)]
      unfold zDg
      rw [zlu_n (show 178 + 1 ≠ 182 + 1 by decide), zlu_n (show j + 8 + 1 + k ≠ 182 + 1 by omega), zAw_o (q := j + 8 + 1 + k) (by omega)]
    have b1 := zM_b (A := 31) (B := 268435399) (i := i) hn i0 i1 d1 (fun m m0 m1 => by have := (h1 k (by omega) m m0 m1).1; exact ⟨by omega, by omega⟩ : ∀ m : Int, 0 ≤ m → m < nn → -268435399 ≤ X (j + 1 + 1 + k) m ∧ X (j + 1 + 1 + k) m ≤ 268435399)
    have b2 := zM_b (A := 31) (B := 268435399) (i := i) hn i0 i1 d1 (fun m m0 m1 => by have := (h1 k (by omega) m m0 m1).2; exact ⟨by omega, by omega⟩ : ∀ m : Int, 0 ≤ m → m < nn → -268435399 ≤ X (j + 8 + 1 + k) m ∧ X (j + 8 + 1 + k) m ≤ 268435399)
    rw [c1, c2]
    omega
