/-! bits of small numbers; CHANCE's rows -/
theorem znat32 {d : Int} (h : 0 ≤ d ∧ d < 2147483648) : (Int32.ofInt d).toBitVec.toNat = d.toNat := by
  have h1 : (Int32.ofInt d).toInt = d := z32 (by omega)
  have h2 : (Int32.ofInt d).toBitVec.toInt = d := h1
  rw [BitVec.toInt_eq_toNat_cond] at h2
  split at h2
  · omega
  · have := (Int32.ofInt d).toBitVec.isLt
    omega
theorem zof32 {x : Int32} {d : Int} (h : 0 ≤ d ∧ d < 2147483648) (hx : x.toBitVec.toNat = d.toNat) : x = Int32.ofInt d := by
  apply Int32.toBitVec_inj.mp
  apply BitVec.eq_of_toNat_eq
  rw [hx, znat32 h]
theorem zand32 {d e r : Int} (hd : 0 ≤ d ∧ d < 2147483648) (he : 0 ≤ e ∧ e < 2147483648) (hr : 0 ≤ r ∧ r < 2147483648) (h : d.toNat &&& e.toNat = r.toNat) : Int32.ofInt d &&& Int32.ofInt e = Int32.ofInt r := by
  apply zof32 hr
  rw [Int32.toBitVec_and, BitVec.toNat_and, znat32 hd, znat32 he, h]
theorem zand_7 {d : Int} (hd : 0 ≤ d ∧ d < 2147483648) : Int32.ofInt d &&& Int32.ofInt 7 = Int32.ofInt (d % 8) := by
  refine zand32 hd (by decide) (by omega) ?_
  have h := Nat.and_two_pow_sub_one_eq_mod d.toNat 3
  have e : (2 ^ 3 - 1 : Nat) = 7 := by decide
  rw [e] at h
  show d.toNat &&& 7 = _
  rw [h]
  omega
theorem zand_1 {d : Int} (hd : 0 ≤ d ∧ d < 2147483648) : Int32.ofInt d &&& Int32.ofInt 1 = Int32.ofInt (d % 2) := by
  refine zand32 hd (by decide) (by omega) ?_
  have h := Nat.and_two_pow_sub_one_eq_mod d.toNat 1
  have e : (2 ^ 1 - 1 : Nat) = 1 := by decide
  rw [e] at h
  show d.toNat &&& 1 = _
  rw [h]
  omega
theorem zand_56 {d : Int} (hd : 0 ≤ d ∧ d < 2147483648) : Int32.ofInt d &&& Int32.ofInt 56 = Int32.ofInt (d / 8 % 8 * 8) := by
  refine zand32 hd (by decide) (by omega) ?_
  show d.toNat &&& 56 = _
  have key : ∀ n : Nat, n &&& 56 = n / 8 % 8 * 8 := by
    intro n
    apply Nat.eq_of_testBit_eq
    intro i
    have e1 : (n / 8 % 8 * 8).testBit i = (decide (3 ≤ i) && (decide (i - 3 < 3) && n.testBit (i - 3 + 3))) := by
      rw [show n / 8 % 8 * 8 = (n / 2 ^ 3 % 2 ^ 3) * 2 ^ 3 by omega, Nat.testBit_mul_two_pow, Nat.testBit_mod_two_pow, Nat.testBit_div_two_pow]
    have e2 : (56 : Nat).testBit i = (decide (3 ≤ i) && decide (i - 3 < 3)) := by
      rw [show (56 : Nat) = (7 % 2 ^ 3) * 2 ^ 3 by decide, Nat.testBit_mul_two_pow, Nat.testBit_mod_two_pow]
      by_cases h1 : 3 ≤ i
      · by_cases h2 : i - 3 < 3
        · have : i = 3 ∨ i = 4 ∨ i = 5 := by omega
          rcases this with rfl | rfl | rfl <;> decide
        · simp [h2]
      · simp [h1]
    rw [Nat.testBit_and, e1, e2]
    by_cases h1 : 3 ≤ i
    · rw [show i - 3 + 3 = i by omega]
      cases n.testBit i <;> simp
    · simp [h1]
  rw [key]
  omega
def zus (x y : Int32) : Int32 := (x.toUInt32 >>> (y.toUInt32 &&& Int32.toUInt32 31)).toInt32
/-- Integer.bitCount as it reckons -/
def zbc (i : Int32) : Int32 :=
  let a := i - (zus i (Int32.ofInt 1) &&& 1431655765)
  let b := (a &&& 858993459) + (zus a (Int32.ofInt 2) &&& 858993459)
  let c := (b + zus b (Int32.ofInt 4)) &&& 252645135
  let d := c + zus c (Int32.ofInt 8)
  let e := d + zus d (Int32.ofInt 16)
  e &&& Int32.ofInt 63
theorem zbc_low : ∀ k : Fin 8, zbc (Int32.ofInt ((k : Nat) : Int)) = Int32.ofInt (((k : Nat) : Int) % 2 + ((k : Nat) : Int) / 2 % 2 + ((k : Nat) : Int) / 4 % 2) := by decide +kernel
theorem zbc_high : ∀ k : Fin 8, zbc (Int32.ofInt (((k : Nat) : Int) * 8)) = Int32.ofInt (((k : Nat) : Int) % 2 + ((k : Nat) : Int) / 2 % 2 + ((k : Nat) : Int) / 4 % 2) := by decide +kernel
def zlo (d : Int) : Int := d % 2 + d / 2 % 2 + d / 4 % 2
def zhi (d : Int) : Int := d / 8 % 2 + d / 16 % 2 + d / 32 % 2
theorem zbit (d : Int) : 0 ≤ d % 2 ∧ d % 2 ≤ 1 := by omega
theorem zlo_b (d : Int) : 0 ≤ zlo d ∧ zlo d ≤ 3 := by
  have h1 := zbit d
  have h2 := zbit (d / 2)
  have h3 := zbit (d / 4)
  unfold zlo
  generalize d % 2 = x at *
  generalize d / 2 % 2 = y at *
  generalize d / 4 % 2 = z at *
  omega
theorem zhi_b (d : Int) : 0 ≤ zhi d ∧ zhi d ≤ 3 := by
  have h1 := zbit (d / 8)
  have h2 := zbit (d / 16)
  have h3 := zbit (d / 32)
  unfold zhi
  generalize d / 8 % 2 = x at *
  generalize d / 16 % 2 = y at *
  generalize d / 32 % 2 = z at *
  omega
theorem zbc_l {d : Int} (h : 0 ≤ d) : zbc (Int32.ofInt (d % 8)) = Int32.ofInt (zlo d) := by
  unfold zlo
  have e := zbc_low ⟨(d % 8).toNat, by omega⟩
  have e2 : (((d % 8).toNat : Nat) : Int) = d % 8 := by omega
  dsimp only at e
  rw [e2] at e
  rw [e]
  congr 1
  omega
theorem zbc_h {d : Int} (h : 0 ≤ d) : zbc (Int32.ofInt (d / 8 % 8 * 8)) = Int32.ofInt (zhi d) := by
  unfold zhi
  have e := zbc_high ⟨(d / 8 % 8).toNat, by omega⟩
  have e2 : (((d / 8 % 8).toNat : Nat) : Int) = d / 8 % 8 := by omega
  dsimp only at e
  rw [e2] at e
  rw [e]
  congr 1
  omega
/-- an error out of a draw -/
def zer (d : Int) : Int := zlo d - zhi d
def zrT (c : Int32) (j : Int) : Int := zup (zlcN c (j.toNat + 1)) % 3 - 1
def zrE (c : Int32) (j : Int) : Int := zer (zup (zlcN c (j.toNat + 1)))
def zrU (c : Int32) (j : Int) : Int := (65536 * zup (zlcN c (2 * j.toNat + 1)) + zup (zlcN c (2 * j.toNat + 2))) % 268435399
theorem zset_3 {w : zW} {a b : Nat} {e e' f : va_E} (h : a ≠ b) : zset (zset (zset w a e) b f) a e' = zset (zset w a e') b f := by
  rw [zset_comm (w := zset w a e) (Ne.symm h), zset_zset]
