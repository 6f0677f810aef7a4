/-! bounds of products of small rows; pairs' two rows written side by side -/
theorem zbb {x y A B : Int} (hx : -A ≤ x ∧ x ≤ A) (hy : -B ≤ y ∧ y ≤ B) : -(A * B) ≤ x * y ∧ x * y ≤ A * B := by
  have hA : 0 ≤ A := by omega
  have hB : 0 ≤ B := by omega
  have key : ∀ x y : Int, 0 ≤ x → x ≤ A → 0 ≤ y → y ≤ B → 0 ≤ x * y ∧ x * y ≤ A * B := fun x y a b c d => ⟨Int.mul_nonneg a c, Int.mul_le_mul b d c hA⟩
  by_cases h1 : 0 ≤ x
  · by_cases h2 : 0 ≤ y
    · have := key x y h1 hx.2 h2 hy.2; omega
    · have := key x (-y) h1 hx.2 (by omega) (by omega); rw [Int.mul_neg] at this; omega
  · by_cases h2 : 0 ≤ y
    · have := key (-x) y (by omega) (by omega) h2 hy.2; rw [Int.neg_mul] at this; omega
    · have := key (-x) (-y) (by omega) (by omega) (by omega) (by omega); rw [Int.neg_mul_neg] at this; omega
theorem zcp_b {n : Nat} {a b : Int → Int} {A B k : Int} (hk : 0 ≤ k ∧ k < n) (ha : ∀ j : Int, 0 ≤ j → j < n → -A ≤ a j ∧ a j ≤ A) (hb : ∀ j : Int, 0 ≤ j → j < n → -B ≤ b j ∧ b j ≤ B) :
    ∀ m : Nat, m ≤ n → -(A * B * (m : Int)) ≤ zcp n a b k m ∧ zcp n a b k m ≤ A * B * (m : Int)
  | 0, _ => by
    show _ ≤ (0 : Int) ∧ (0 : Int) ≤ _
    simp
  | m + 1, h => by
    have h1 := zcp_b hk ha hb m (by omega)
    have e : A * B * ((m + 1 : Nat) : Int) = A * B * (m : Int) + A * B := by
      rw [show ((m + 1 : Nat) : Int) = (m : Int) + 1 from rfl, Int.mul_add, Int.mul_one]
    rw [e]
    show _ ≤ zcp n a b k m + _ ∧ zcp n a b k m + _ ≤ _
    split
    · have := zbb (ha m (by omega) (by omega)) (hb (k - m) (by omega) (by omega))
      omega
    · have := zbb (ha m (by omega) (by omega)) (hb (n + k - m) (by omega) (by omega))
      omega
theorem zqW_0 {nn a k : Nat} {X : Nat → Int → Int} : zqW nn a k 0 X = X := by
  unfold zqW
  rw [show ((0 : Nat) : Int) = 0 from rfl, zsf_0, zsf_0, zlu_self]
  exact zlu_self
theorem zqW_s {nn a k i : Nat} {X : Nat → Int → Int} : zlu (zlu (zqW nn a k i X) 4 (zu (zqW nn a k i X 4) (((a : Int) * 6 + k) * 32 + i) (zqF k X i))) 5 (zu (zqW nn a k i X 5) (((a : Int) * 6 + k) * 32 + i) (X 16 i)) = zqW nn a k (i + 1) X := by
  have e4 : zqW nn a k i X 4 = zsf (((a : Int) * 6 + k) * 32) i (zqF k X) (X 4) := rfl
  have e5 : zqW nn a k i X 5 = zsf (((a : Int) * 6 + k) * 32) i (X 16) (X 5) := rfl
  rw [e4, e5, zsf_s (by omega) rfl, zsf_s (by omega) rfl]
  funext j
  by_cases h5 : j = 5
  · subst h5
    rfl
  · by_cases h4 : j = 4
    · subst h4
      rfl
    · show zlu _ 5 _ j = zlu _ 5 _ j
      rw [zlu_n h5, zlu_n h4, zlu_n h5, zlu_n h4]
      show zlu _ 5 _ j = _
      rw [zlu_n h5, zlu_n h4]
