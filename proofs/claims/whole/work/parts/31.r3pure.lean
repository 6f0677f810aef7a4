def zszI (k : Int) : Int := if k = 0 then 8 else if k = 1 then 16 else 32
def zmoI (k : Int) : Int := if k = 0 then 17 else if k = 1 then 97 else 193
theorem zki {k : Int} (h : 0 ≤ k ∧ k ≤ 2) : (8 ≤ zszI k ∧ zszI k ≤ 32) ∧ (17 ≤ zmoI k ∧ zmoI k ≤ 193) := by
  have : k = 0 ∨ k = 1 ∨ k = 2 := by omega
  rcases this with rfl | rfl | rfl <;> decide
theorem zSz_of {k : Int} (h : 0 ≤ k ∧ k ≤ 2) : zSz (Int32.ofInt k).toNatClampNeg = .int (Int32.ofInt (zszI k)) := by
  have : k = 0 ∨ k = 1 ∨ k = 2 := by omega
  rcases this with rfl | rfl | rfl <;> rfl
theorem zMo_of {k : Int} (h : 0 ≤ k ∧ k ≤ 2) : zMo (Int32.ofInt k).toNatClampNeg = .int (Int32.ofInt (zmoI k)) := by
  have : k = 0 ∨ k = 1 ∨ k = 2 := by omega
  rcases this with rfl | rfl | rfl <;> rfl
theorem zlr_b {k : Int} (h : 0 ≤ k ∧ k ≤ 2) : 2 ≤ zlr (zmoI k) (zszI k).toNat 1000 2 ∧ zlr (zmoI k) (zszI k).toNat 1000 2 ≤ 193 := by
  have : k = 0 ∨ k = 1 ∨ k = 2 := by omega
  rcases this with rfl | rfl | rfl <;> decide +kernel
