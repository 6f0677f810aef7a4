/-! pure words -/
abbrev zR (f c s n : Nat) : Room := { frames := f, cells := c, slots := s, locals := n }
abbrev zR0 : Room := zR 0 0 0 0
theorem zfor (n : Nat) (P : Nat → Prop) (done : P n) (body : ∀ i, i < n → P (i + 1) → P i) (i : Nat) (hi : i ≤ n) : P i := by
  obtain ⟨k, hk⟩ : ∃ k, n = i + k := ⟨n - i, by omega⟩
  induction k generalizing i with
  | zero =>
    have e : i = n := by omega
    rw [e]
    exact done
  | succ k ih => exact body i (by omega) (ih (i + 1) (by omega) (by omega))
/-- the first n numbers by f, the rest as they were -/
def zif (n : Int) (f g : Int → Int) : Int → Int := fun j => if 0 ≤ j ∧ j < n then f j else g j
theorem zif_0 {f g : Int → Int} : zif 0 f g = g := by
  funext j
  exact if_neg (by omega)
theorem zif_l {n j : Int} {f g : Int → Int} (h : 0 ≤ j ∧ j < n) : zif n f g j = f j := if_pos h
theorem zif_r {n j : Int} {f g : Int → Int} (h : ¬ (0 ≤ j ∧ j < n)) : zif n f g j = g j := if_neg h
theorem zif_s {i v : Int} {f g : Int → Int} (h : 0 ≤ i) (hv : v = f i) : zu (zif i f g) i v = zif (i + 1) f g := by
  funext j
  unfold zu zif
  by_cases hj : j = i
  · rw [if_pos hj, if_pos (by omega), hv, hj]
  · rw [if_neg hj]
    by_cases h2 : 0 ≤ j ∧ j < i
    · rw [if_pos h2, if_pos (by omega)]
    · rw [if_neg h2, if_neg (by omega)]
theorem zro_eq {G : zG} {n : Nat} {g g' : Int → Int} (h : g = g') : zro G n g = zro G n g' := by rw [h]
/-- an answer and a world, nothing made -/
def zdet (v : Option Value) (w' : zW) (sz' : Nat) : zK := (fun o w1 s1 => match o with
  | .inl v1 => v = v1 ∧ w' = w1 ∧ sz' = s1
  | .inr _ => False, 0, 0)
/-- as zfor, from a start on -/
theorem zforF (m n : Nat) (P : Nat → Prop) (done : P n) (body : ∀ i, m ≤ i → i < n → P (i + 1) → P i) (i : Nat) (hm : m ≤ i) (hi : i ≤ n) : P i := by
  obtain ⟨k, hk⟩ : ∃ k, n = i + k := ⟨n - i, by omega⟩
  induction k generalizing i with
  | zero =>
    have e : i = n := by omega
    rw [e]
    exact done
  | succ k ih => exact body i hm (by omega) (ih (i + 1) (by omega) (by omega) (by omega))
/-! the product of two rows modulo x^n + 1, as the class sums it up -/
def zcp (n : Int) (a b : Int → Int) (k : Int) : Nat → Int
  | 0 => 0
  | m + 1 => zcp n a b k m + (if (m : Int) ≤ k then a m * b (k - m) else -(a m * b (n + k - m)))
def zap (n : Int) (a b g : Int → Int) (i : Nat) : Int → Int := fun k => if 0 ≤ k ∧ k < n then g k + zcp n a b k i else g k
def zap1 (n : Int) (a b g : Int → Int) (i j : Nat) : Int → Int := fun k => if (i : Int) ≤ k ∧ k < i + j then zap n a b g i k + a i * b (k - i) else zap n a b g i k
def zap2 (n : Int) (a b g : Int → Int) (i j : Nat) : Int → Int := fun k => if (i : Int) ≤ k ∧ k < n then zap n a b g i k + a i * b (k - i) else if 0 ≤ k ∧ k < i + j - n then zap n a b g i k - a i * b (n + k - i) else zap n a b g i k
theorem zap_0 {n : Int} {a b g : Int → Int} : zap n a b g 0 = g := by
  funext k
  unfold zap
  split
  · show g k + 0 = g k
    omega
  · rfl
theorem zap1_0 {n : Int} {a b g : Int → Int} {i : Nat} : zap1 n a b g i 0 = zap n a b g i := by
  funext k
  exact if_neg (by omega)
theorem zap1_s {n : Int} {a b g : Int → Int} {i j : Nat} (h : (i : Int) + j < n) : zu (zap1 n a b g i j) (i + j) (zap1 n a b g i j (i + j) + a i * b j) = zap1 n a b g i (j + 1) := by
  funext k
  unfold zu
  by_cases hk : k = i + j
  · rw [if_pos hk, hk]
    unfold zap1
    rw [if_neg (by omega), if_pos (by omega), show (i : Int) + j - i = j by omega]
  · rw [if_neg hk]
    unfold zap1
    by_cases h2 : (i : Int) ≤ k ∧ k < i + j
    · rw [if_pos h2, if_pos (by omega)]
    · rw [if_neg h2, if_neg (by omega)]
theorem zap2_0 {n : Nat} {a b g : Int → Int} {i : Nat} (h : i ≤ n) : zap2 n a b g i (n - i) = zap1 n a b g i (n - i) := by
  funext k
  unfold zap2 zap1
  by_cases h2 : (i : Int) ≤ k ∧ k < n
  · rw [if_pos h2, if_pos (by omega)]
  · rw [if_neg h2, if_neg (by omega), if_neg (by omega)]
theorem zap2_s {n : Nat} {a b g : Int → Int} {i j : Nat} (h1 : n - i ≤ j) (h2 : j < n) (h3 : i < n) : zu (zap2 n a b g i j) (i + j - n) (zap2 n a b g i j (i + j - n) - a i * b j) = zap2 n a b g i (j + 1) := by
  funext k
  unfold zu
  by_cases hk : k = (i : Int) + j - n
  · rw [if_pos hk, hk]
    unfold zap2
    rw [if_neg (by omega), if_neg (by omega), if_neg (by omega), if_pos (by omega), show (n : Int) + ((i : Int) + j - n) - i = j by omega]
  · rw [if_neg hk]
    unfold zap2
    by_cases h4 : (i : Int) ≤ k ∧ k < n
    · rw [if_pos h4, if_pos h4]
    · rw [if_neg h4, if_neg h4]
      by_cases h5 : 0 ≤ k ∧ k < (i : Int) + j - n
      · rw [if_pos h5, if_pos (by omega)]
      · rw [if_neg h5, if_neg (by omega)]
theorem zap2_n {n : Nat} {a b g : Int → Int} {i : Nat} (h : i < n) : zap2 n a b g i n = zap n a b g (i + 1) := by
  funext k
  unfold zap2 zap
  by_cases h1 : 0 ≤ k ∧ k < (n : Int)
  · rw [if_pos h1, if_pos h1]
    show _ = g k + (zcp n a b k i + _)
    by_cases h2 : (i : Int) ≤ k
    · rw [if_pos ⟨h2, h1.2⟩, if_pos h2]
      omega
    · rw [if_neg (by omega), if_pos (by omega), if_neg h2]
      omega
  · rw [if_neg h1, if_neg h1, if_neg (by omega), if_neg (by omega)]
/-! CHANCE -/
def zlc (c : Int32) : Int32 := 1664525 * c + 1013904223
def zlcN (c : Int32) : Nat → Int32
  | 0 => c
  | n + 1 => zlc (zlcN c n)
def zup (c : Int32) : Int := ((c.toUInt32 >>> 16).toInt32).toInt
theorem zup_b (c : Int32) : 0 ≤ zup c ∧ zup c < 65536 := by
  unfold zup
  have h : (c.toUInt32 >>> 16).toNat < 65536 := by
    rw [UInt32.toNat_shiftRight]
    have := c.toUInt32.toNat_lt
    simp [Nat.shiftRight_eq_div_pow]
    omega
  have h2 : ((c.toUInt32 >>> 16).toInt32).toInt = ((c.toUInt32 >>> 16).toNat : Int) := by
    show (c.toUInt32 >>> 16).toBitVec.toInt = _
    rw [BitVec.toInt_eq_toNat_of_lt]
    · rfl
    · show 2 * (c.toUInt32 >>> 16).toNat < _
      omega
  rw [h2]
  omega
theorem zup_of (c : Int32) : (c.toUInt32 >>> 16).toInt32 = Int32.ofInt (zup c) := (Int32.ofInt_toInt _).symm
