/-! what RingCipher's own methods do to the numbers -/
theorem z64_bv (d : Int) : (Int64.ofInt d).toBitVec = BitVec.ofInt 64 d := rfl
theorem zshl2 {d : Int} {b : Nat} (h : b ≤ 28) : Int64.ofInt d <<< ((Int32.ofInt (b : Int)).toInt64 &&& 63) = Int64.ofInt (d * 2 ^ b) := by
  have key : ∀ b : Nat, b < 29 → ((((Int32.ofInt (b : Int)).toInt64 &&& 63).toBitVec.smod 64).toNat = b ∧ BitVec.twoPow 64 b = BitVec.ofInt 64 (2 ^ b)) := by decide +kernel
  obtain ⟨h1, h2⟩ := key b (by omega)
  apply Int64.toBitVec_inj.mp
  rw [Int64.toBitVec_shiftLeft, BitVec.shiftLeft_eq', h1, BitVec.shiftLeft_eq_mul_twoPow, h2, z64_bv, z64_bv, BitVec.ofInt_mul]
theorem zdig {a : Int} {k : Nat} (ha : 0 ≤ a ∧ a < 268435456) (hk : k < 6) : Int64.ofInt a >>> ((Int32.ofInt (5 * (k : Int))).toInt64 &&& 63) &&& Int64.ofInt 31 = Int64.ofInt (a / 32 ^ k % 32) := by
  have key : ∀ k : Nat, k < 6 → (((Int32.ofInt (5 * (k : Int))).toInt64 &&& 63).toBitVec.smod 64).toNat = 5 * k := by decide +kernel
  obtain ⟨n, rfl⟩ : ∃ n : Nat, a = n := ⟨a.toNat, by omega⟩
  have hn : n < 268435456 := by omega
  have e1 : (Int64.ofInt (n : Int)).toBitVec = BitVec.ofNat 64 n := by rw [z64_bv, BitVec.ofInt_natCast]
  have e2 : ((n : Int) / 32 ^ k % 32) = ((n / 2 ^ (5 * k) % 32 : Nat) : Int) := by
    rw [show (2 : Nat) ^ (5 * k) = 32 ^ k from by rw [Nat.pow_mul]]
    push_cast
    rfl
  apply Int64.toBitVec_inj.mp
  rw [Int64.toBitVec_and, Int64.toBitVec_shiftRight, e1, e2, z64_bv, z64_bv, BitVec.ofInt_natCast]
  have hm : (BitVec.ofNat 64 n).msb = false := by
    rw [BitVec.msb_eq_decide]
    have : (BitVec.ofNat 64 n).toNat = n := by
      rw [BitVec.toNat_ofNat]
      exact Nat.mod_eq_of_lt (by omega)
    rw [this]
    simp
    omega
  apply BitVec.eq_of_toNat_eq
  rw [BitVec.toNat_and, BitVec.sshiftRight_eq', key k hk, BitVec.sshiftRight_eq_of_msb_false hm, BitVec.toNat_ushiftRight, BitVec.toNat_ofNat, BitVec.toNat_ofNat, Nat.mod_eq_of_lt (show n < 2 ^ 64 by omega), Nat.shiftRight_eq_div_pow]
  have e3 : (BitVec.ofInt 64 31).toNat = 2 ^ 5 - 1 := by decide
  rw [e3, Nat.and_two_pow_sub_one_eq_mod, Nat.mod_eq_of_lt (show n / 2 ^ (5 * k) % 32 < 2 ^ 64 by omega)]
def zpe (pt : Nat → Int) : Nat → Nat → Int
  | 0 => pt
  | i + 1 => zpu (zpe pt i) (97 + 5 * i) 0
def zfc (pt : Nat → Int) : Nat → Int
  | 0 => 0
  | i + 1 => zfc pt i + if 0 < pt (97 + 5 * i) then 1 else 0
theorem zfc_s {pt : Nat → Int} {i : Nat} (h : 0 < pt (97 + 5 * i)) : zfc pt (i + 1) = zfc pt i + 1 := by
  show _ + _ = _
  rw [if_pos h]
theorem zfc_n {pt : Nat → Int} {i : Nat} (h : pt (97 + 5 * i) ≤ 0) : zfc pt (i + 1) = zfc pt i := by
  show _ + _ = _
  rw [if_neg (by omega)]
  omega
/-- the cipher's rows out of the sums -/
def zSt (nn c : Nat) (L : Nat → Int → Int) : Nat → Nat → Int → Int
  | 0 => L
  | i + 1 => zRd nn (97 + 5 * c + 1 + 1 + i) (178 + i) (zSt nn c L i)
theorem zSt_o {nn c : Nat} {L : Nat → Int → Int} {q : Nat} (hc : c < 16) : ∀ i, (∀ k, k < i → q ≠ 97 + 5 * c + 1 + 1 + k) → zSt nn c L i q = L q
  | 0, _ => rfl
  | i + 1, h => by
    show zlu _ _ _ q = _
    rw [zlu_n (h i (Nat.lt_succ_self i))]
    exact zSt_o hc i (fun k hk => h k (by omega))
/-- the phase, before and behind the centring -/
def zPs (nn c : Nat) (p : Int) (L : Nat → Int → Int) : Nat → Int → Int :=
  if p = 3 then zAp nn 85 6 (97 + 5 * c + 1 + 1 + 2) (zAp nn 85 5 (97 + 5 * c + 1 + 1 + 1) (zCy nn 85 (97 + 5 * c + 1 + 1 + 0) L)) else zAp nn 85 5 (97 + 5 * c + 1 + 1 + 1) (zCy nn 85 (97 + 5 * c + 1 + 1 + 0) L)
def zPL (nn c : Nat) (p : Int) (L : Nat → Int → Int) : Nat → Int → Int := zCe nn (182 + 0) 85 (zPs nn c p L)
def zab (x : Int) : Int := if x < 0 then -x else x
def zmx (a b : Int) : Int := if a < b then b else a
def zNz (t : Int) (f : Int → Int) : Nat → Int
  | 0 => 0
  | i + 1 => zmx (zNz t f i) (zab (zct (t * f i)))
theorem zNz_b (t : Int) (f : Int → Int) : ∀ i, 0 ≤ zNz t f i ∧ zNz t f i ≤ 134217699
  | 0 => ⟨Int.le_refl _, by show (0 : Int) ≤ _; decide⟩
  | i + 1 => by
    have h1 := zNz_b t f i
    have h2 := zct_b (t * f i)
    show 0 ≤ zmx _ _ ∧ zmx _ _ ≤ _
    unfold zmx zab
    split <;> split at * <;> omega
/-- the budget of a noise -/
def zBu (d : Int) : Nat → Nat
  | 0 => 0
  | b + 1 => if d * 2 ^ (b + 2) < 268435399 then b + 1 else zBu d b
def zDg (nn a k : Nat) (L : Nat → Int → Int) : Nat → Int → Int := zlu L (182 + 1) (zif nn (fun i => L a i / 32 ^ k % 32) (L (182 + 1)))
def zAw (nn j a : Nat) (L : Nat → Int → Int) : Nat → Nat → Int → Int
  | 0 => L
  | k + 1 => zAp nn (178 + 1) (182 + 1) (j + 8 + 1 + k) (zAp nn (178 + 0) (182 + 1) (j + 1 + 1 + k) (zDg nn a k (zAw nn j a L k)))
theorem zAw_o {nn j a q : Nat} {L : Nat → Int → Int} (h : q ≠ 178 ∧ q ≠ 179 ∧ q ≠ 183) : ∀ k, zAw nn j a L k q = L q
  | 0 => rfl
  | k + 1 => by
    show zlu (zlu (zlu _ _ _) _ _) _ _ q = _
    rw [zlu_n (by omega), zlu_n (by omega), zlu_n (by omega)]
    exact zAw_o h k
/-- one row of the sum or difference of two ciphers -/
def zCm (nn l r : Nat) (pl pr f : Int) (L : Nat → Int → Int) : Nat → Nat → Int → Int
  | 0 => L
  | k + 1 =>
    (fun X => if (k : Int) < pr then zAs nn (178 + k) (97 + 5 * r + 1 + 1 + k) f X else X)
      ((fun X => if (k : Int) < pl then zAs nn (178 + k) (97 + 5 * l + 1 + 1 + k) 1 X else X) (zFl (178 + k) 0 (zCm nn l r pl pr f L k)))
def zFs (L : Nat → Int → Int) : Nat → Nat → Int → Int
  | 0 => L
  | k + 1 => zFl (178 + k) 0 (zFs L k)
def zTq (nn s : Nat) (t : Int) (L : Nat → Int → Int) : Nat → Int → Int := zlu L s (zif nn (fun i => zts t (L s i)) (L s))
def zTs (nn : Nat) (t : Int) (L : Nat → Int → Int) : Nat → Nat → Int → Int
  | 0 => L
  | k + 1 => zTq nn (178 + k) t (zTs nn t L k)
theorem zTs_o {nn : Nat} {t : Int} {L : Nat → Int → Int} {q : Nat} : ∀ k, (∀ i, i < k → q ≠ 178 + i) → zTs nn t L k q = L q
  | 0, _ => rfl
  | k + 1, h => by
    show zlu _ _ _ q = _
    rw [zlu_n (h k (Nat.lt_succ_self k))]
    exact zTs_o k (fun i hi => h i (by omega))
/-- multiply: the four rows centred -/
def zMc (nn l r : Nat) (L : Nat → Int → Int) : Nat → Int → Int :=
  zCe nn (182 + 3) (97 + 5 * r + 1 + 1 + 1) (zCe nn (182 + 2) (97 + 5 * r + 1 + 1 + 0) (zCe nn (182 + 1) (97 + 5 * l + 1 + 1 + 1) (zCe nn (182 + 0) (97 + 5 * l + 1 + 1 + 0) L)))
/-- multiply: the three sums of products -/
def zMp (nn l r : Nat) (L : Nat → Int → Int) : Nat → Int → Int :=
  zAp nn (178 + 2) (182 + 1) (182 + 3) (zAp nn (178 + 1) (182 + 1) (182 + 2) (zAp nn (178 + 1) (182 + 0) (182 + 3) (zAp nn (178 + 0) (182 + 0) (182 + 2) (zFs (zMc nn l r L) 3))))
def zPc (nn c : Nat) (L : Nat → Int → Int) : Nat → Nat → Int → Int
  | 0 => L
  | k + 1 => zCy nn (178 + k) (97 + 5 * c + 1 + 1 + k) (zPc nn c L k)
def zPm (nn c a : Nat) (L : Nat → Int → Int) : Nat → Nat → Int → Int
  | 0 => L
  | k + 1 => zAp nn (178 + k) a (97 + 5 * c + 1 + 1 + k) (zFl (178 + k) 0 (zPm nn c a L k))
