/-! bounds of what is centred -/
theorem zpu_s {f : Nat → Int} {k : Nat} {v : Int} : zpu f k v k = v := if_pos rfl
theorem zCe_b {nn s a : Nat} {L : Nat → Int → Int} {i : Nat} (hi : i < nn) : -134217699 ≤ zCe nn s a L s i ∧ zCe nn s a L s i ≤ 134217699 := by
  unfold zCe
  rw [zlu_s, zif_l (by omega)]
  exact zct_b _
theorem zPL_b {nn c : Nat} {p : Int} {L : Nat → Int → Int} {i : Nat} (hi : i < nn) : -134217699 ≤ zPL nn c p L (182 + 0) i ∧ zPL nn c p L (182 + 0) i ≤ 134217699 := zCe_b hi
theorem zmul_b {t x : Int} (ht : 0 < t ∧ t ≤ 1000) (hx : -134217699 ≤ x ∧ x ≤ 134217699) : -9223372036854775808 ≤ t * x ∧ t * x < 9223372036854775808 := by
  have h1 : t * x ≤ 1000 * 134217699 := by
    have h2 : t * x ≤ t * 134217699 := Int.mul_le_mul_of_nonneg_left hx.2 (by omega)
    omega
  have h3 : t * (-134217699) ≤ t * x := Int.mul_le_mul_of_nonneg_left hx.1 (by omega)
  omega
theorem zts_b {t x : Int} (ht : 0 < t ∧ t ≤ 1000) (hx : -134217699 ≤ x ∧ x ≤ 134217699) : -9223372036854775808 ≤ zts t x ∧ zts t x < 9223372036854775808 := by
  unfold zts
  have hq : x / 268435399 = 0 ∨ x / 268435399 = -1 := by omega
  have h0 : 0 ≤ x % 268435399 ∧ x % 268435399 ≤ 268435398 := by omega
  have h1 : 0 ≤ 2 * t * (x % 268435399) := Int.mul_nonneg (by omega) h0.1
  have h2 : 2 * t * (x % 268435399) ≤ 2 * t * 268435398 := Int.mul_le_mul_of_nonneg_left h0.2 (by omega)
  have h3 : 2 * t * 268435398 ≤ 2 * 1000 * 268435398 := by omega
  generalize 2 * t * (x % 268435399) = y at *
  rcases hq with h | h <;> rw [h] <;> omega
/-- seal's sums -/
def zSe (nn : Nat) (ch : Int32) (p : Nat) (t : Int) (L : Nat → Int → Int) : Nat → Int → Int :=
  zAp nn (178 + 1) 8 (182 + 0) (zAs nn (178 + 0) (88 + p) (268435399 / t) (zAp nn (178 + 0) 7 (182 + 0) (zlu (zlu (zlu L (182 + 0) (zif nn (zrT ch) (L (182 + 0)))) (178 + 0) (zif nn (zrE (zlcN ch nn)) (L (178 + 0)))) (178 + 1) (zif nn (zrE (zlcN (zlcN ch nn) nn)) (L (178 + 1))))))
/-- open's row -/
def zOp (nn c p : Nat) (q t : Int) (L : Nat → Int → Int) : Nat → Int → Int := zlu (zPL nn c q L) (88 + p) (zif nn (fun i => zts t (zPL nn c q L (182 + 0) i) % t) (zPL nn c q L (88 + p)))
