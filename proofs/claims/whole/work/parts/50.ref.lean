/-! the reference's cells from C on -/
def zqarr (G : zG) (j : Nat) (g : Int → Int) : va_E := if j = 4 ∨ j = 5 then zro G 960 g else if j = 6 then zio G 5 g else if j = 7 then zio G 256 g else if j = 8 then zio G 16 g else if j = 9 then zro G 1536 g else if j = 15 then zro G 96 g else zro G 32 g
def zqobj (C : Nat) (th kd n t tu : Int) (ch : Int32) (ke : Int) : va_E := zobj cRef [.int (Int32.ofInt th), .int (Int32.ofInt kd), .int (Int32.ofInt n), .int (Int32.ofInt t), .int (Int32.ofInt tu), .int ch, .int (Int32.ofInt ke), .ref (C + 1), .ref (C + 2), .ref (C + 3), .ref (C + 4), .ref (C + 5), .ref (C + 6), .ref (C + 7), .ref (C + 8), .ref (C + 9), .ref (C + 10), .ref (C + 11), .ref (C + 12), .ref (C + 13), .ref (C + 14), .ref (C + 15), .ref (C + 16), .ref (C + 17)]
def zqs (G : zG) (C : Nat) (th kd n t tu : Int) (ch : Int32) (ke : Int) (L : Nat → Int → Int) (w0 : zW) : zW :=
  fun q => if q = C then some (zqobj C th kd n t tu ch ke) else if C < q ∧ q < C + 18 then some (zqarr G (q - C) (L (q - C))) else w0 q
/-- a row of 32 of the reference -/
def zqi (j : Nat) : Prop := j = 1 ∨ j = 2 ∨ j = 3 ∨ j = 10 ∨ j = 11 ∨ j = 12 ∨ j = 13 ∨ j = 14 ∨ j = 16 ∨ j = 17
section ZQ
variable {G : zG} {C : Nat} {th kd n t tu : Int} {ch : Int32} {ke : Int} {L : Nat → Int → Int} {w0 : zW}
theorem zqs_o : zqs G C th kd n t tu ch ke L w0 C = some (zqobj C th kd n t tu ch ke) := if_pos rfl
theorem zqs_at {j : Nat} (h : 0 < j ∧ j < 18) : zqs G C th kd n t tu ch ke L w0 (C + j) = some (zqarr G j (L j)) := by
  unfold zqs
  rw [if_neg (by omega), if_pos (by omega), show C + j - C = j by omega]
theorem zqarr_r {j : Nat} {g : Int → Int} (h : zqi j) : zqarr G j g = zro G 32 g := by
  unfold zqi at h
  unfold zqarr
  rw [if_neg (by omega), if_neg (by omega), if_neg (by omega), if_neg (by omega), if_neg (by omega), if_neg (by omega)]
theorem zqs_r {j : Nat} (h : zqi j) : zqs G C th kd n t tu ch ke L w0 (C + j) = some (zro G 32 (L j)) := by
  rw [zqs_at (by unfold zqi at h; omega), zqarr_r h]
theorem zqs_u {j : Nat} {g : Int → Int} {e : va_E} (h : 0 < j ∧ j < 18) (he : e = zqarr G j g) : zset (zqs G C th kd n t tu ch ke L w0) (C + j) e = zqs G C th kd n t tu ch ke (zlu L j g) w0 := by
  subst he
  funext q
  unfold zset zqs
  by_cases h1 : q = C + j
  · rw [if_pos h1, if_neg (by omega), if_pos (by omega), show q - C = j by omega, zlu_s]
  · rw [if_neg h1]
    by_cases h2 : q = C
    · rw [if_pos h2, if_pos h2]
    · rw [if_neg h2, if_neg h2]
      by_cases h3 : C < q ∧ q < C + 18
      · rw [if_pos h3, if_pos h3, zlu_n (by omega)]
      · rw [if_neg h3, if_neg h3]
theorem zqs_lu {j : Nat} {g : Int → Int} (h : zqi j) : zset (zqs G C th kd n t tu ch ke L w0) (C + j) (zro G 32 g) = zqs G C th kd n t tu ch ke (zlu L j g) w0 := zqs_u (by unfold zqi at h; omega) (zqarr_r h).symm
theorem zqs_f {th' kd' n' t' tu' : Int} {ch' : Int32} {ke' : Int} {e : va_E} (he : e = zqobj C th' kd' n' t' tu' ch' ke') : zset (zqs G C th kd n t tu ch ke L w0) C e = zqs G C th' kd' n' t' tu' ch' ke' L w0 := by
  subst he
  funext q
  unfold zset zqs
  by_cases h1 : q = C
  · rw [if_pos h1, if_pos h1]
  · rw [if_neg h1, if_neg h1, if_neg h1]
end ZQ
/-! the reference's sums -/
theorem zof1 {v : Int} (h : 0 ≤ v.tmod 268435399) : v.tmod 268435399 = v % 268435399 := by
  rw [zfm (a := v) (by decide)]
  by_cases h1 : 0 ≤ v ∨ v.tmod 268435399 = 0
  · rw [if_pos h1]; omega
  · have := ztm_np (a := v) 268435399 (by omega)
    omega
theorem zof2 {v : Int} (h : v.tmod 268435399 < 0) : v.tmod 268435399 + 268435399 = v % 268435399 := by
  rw [zfm (a := v) (by decide), if_neg]
  rintro (h1 | h1)
  · have := Int.tmod_nonneg 268435399 h1
    omega
  · omega
/-- n numbers from b on by f, the rest as they were -/
def zsf (b n : Int) (f g : Int → Int) : Int → Int := fun j => if b ≤ j ∧ j < b + n then f (j - b) else g j
theorem zsf_0 {b : Int} {f g : Int → Int} : zsf b 0 f g = g := by
  funext j
  exact if_neg (by omega)
theorem zsf_l {b n j : Int} {f g : Int → Int} (h : b ≤ j ∧ j < b + n) : zsf b n f g j = f (j - b) := if_pos h
theorem zsf_r {b n j : Int} {f g : Int → Int} (h : ¬ (b ≤ j ∧ j < b + n)) : zsf b n f g j = g j := if_neg h
theorem zsf_s {b i v : Int} {f g : Int → Int} (h : 0 ≤ i) (hv : v = f i) : zu (zsf b i f g) (b + i) v = zsf b (i + 1) f g := by
  funext j
  unfold zu zsf
  by_cases hj : j = b + i
  · rw [if_pos hj, if_pos (by omega), hv, hj, show b + i - b = i by omega]
  · rw [if_neg hj]
    by_cases h2 : b ≤ j ∧ j < b + i
    · rw [if_pos h2, if_pos (by omega)]
    · rw [if_neg h2, if_neg (by omega)]
/-- one product of 'reduced' -/
def zrt (a b : Int) : Int := (a.tmod 268435399 * b.tmod 268435399).tmod 268435399
def zrd (n : Int) (f g : Int → Int) (i : Int) : Nat → Int
  | 0 => 0
  | j + 1 => zrd n f g i j + if i - j < 0 then -(zrt (f j) (g (i - j + n))) else zrt (f j) (g (i - j))
theorem ztmQ (a : Int) : -268435399 < a.tmod 268435399 ∧ a.tmod 268435399 < 268435399 := tmod_bounds (by decide)
theorem zprd (a b : Int) : -9223372036854775808 ≤ a.tmod 268435399 * b.tmod 268435399 ∧ a.tmod 268435399 * b.tmod 268435399 < 9223372036854775808 := by
  have h1 := ztmQ a
  have h2 := ztmQ b
  generalize a.tmod 268435399 = x at *
  generalize b.tmod 268435399 = y at *
  have key : ∀ x y : Int, 0 ≤ x → x ≤ 268435398 → 0 ≤ y → y ≤ 268435398 → 0 ≤ x * y ∧ x * y ≤ 268435398 * 268435398 := fun x y a b c d => ⟨Int.mul_nonneg a c, Int.mul_le_mul b d c (by decide)⟩
  by_cases hx : 0 ≤ x
  · by_cases hy : 0 ≤ y
    · have := key x y hx (by omega) hy (by omega); omega
    · have := key x (-y) hx (by omega) (by omega) (by omega); rw [Int.mul_neg] at this; omega
  · by_cases hy : 0 ≤ y
    · have := key (-x) y (by omega) (by omega) hy (by omega); rw [Int.neg_mul] at this; omega
    · have := key (-x) (-y) (by omega) (by omega) (by omega) (by omega); rw [Int.neg_mul_neg] at this; omega
theorem zrt_b (a b : Int) : -268435399 < zrt a b ∧ zrt a b < 268435399 := ztmQ _
theorem zrd_b {n : Int} {f g : Int → Int} {i : Int} : ∀ j : Nat, -(268435399 * (j : Int)) ≤ zrd n f g i j ∧ zrd n f g i j ≤ 268435399 * (j : Int)
  | 0 => ⟨by show _ ≤ (0 : Int); omega, by show (0 : Int) ≤ _; omega⟩
  | j + 1 => by
    have h := zrd_b (n := n) (f := f) (g := g) (i := i) j
    have h1 := zrt_b (f j) (g (i - j + n))
    have h2 := zrt_b (f j) (g (i - j))
    show _ ≤ zrd n f g i j + _ ∧ zrd n f g i j + _ ≤ _
    split <;> omega
/-- a bit of a draw -/
theorem zbi {a : Int} {k : Nat} (ha : 0 ≤ a ∧ a < 65536) (hk : k < 6) : Int32.ofInt a >>> (Int32.ofInt (k : Int) &&& 31) &&& Int32.ofInt 1 = Int32.ofInt (a / 2 ^ k % 2) := by
  have key : ∀ k : Nat, k < 6 → (((Int32.ofInt (k : Int) &&& 31)).toBitVec.smod 32).toNat = k := by decide +kernel
  obtain ⟨n, rfl⟩ : ∃ n : Nat, a = n := ⟨a.toNat, by omega⟩
  have hn : n < 65536 := by omega
  have e0 : ∀ z : Int, (Int32.ofInt z).toBitVec = BitVec.ofInt 32 z := fun _ => rfl
  have e1 : (Int32.ofInt (n : Int)).toBitVec = BitVec.ofNat 32 n := by rw [e0, BitVec.ofInt_natCast]
  have e2 : ((n : Int) / 2 ^ k % 2) = ((n / 2 ^ k % 2 : Nat) : Int) := by push_cast; rfl
  apply Int32.toBitVec_inj.mp
  rw [Int32.toBitVec_and, Int32.toBitVec_shiftRight, e1, e2, e0, e0, BitVec.ofInt_natCast]
  have hm : (BitVec.ofNat 32 n).msb = false := by
    rw [BitVec.msb_eq_decide]
    have : (BitVec.ofNat 32 n).toNat = n := by
      rw [BitVec.toNat_ofNat]
      exact Nat.mod_eq_of_lt (by omega)
    rw [this]
    simp
    omega
  apply BitVec.eq_of_toNat_eq
  rw [BitVec.toNat_and, BitVec.sshiftRight_eq', key k hk, BitVec.sshiftRight_eq_of_msb_false hm, BitVec.toNat_ushiftRight, BitVec.toNat_ofNat, BitVec.toNat_ofNat, Nat.mod_eq_of_lt (show n < 2 ^ 32 by omega), Nat.shiftRight_eq_div_pow]
  have e3 : (BitVec.ofInt 32 1).toNat = 2 ^ 1 - 1 := by decide
  rw [e3, Nat.and_two_pow_sub_one_eq_mod, Nat.mod_eq_of_lt (show n / 2 ^ k % 2 < 2 ^ 32 by omega)]
theorem zbi0 {a : Int} (ha : 0 ≤ a ∧ a < 65536) : Int32.ofInt a &&& Int32.ofInt 1 = Int32.ofInt (a % 2) := by
  have h := zbi (k := 0) ha (by decide)
  have e : Int32.ofInt a >>> (Int32.ofInt ((0 : Nat) : Int) &&& 31) = Int32.ofInt a := by
    apply Int32.toBitVec_inj.mp
    rw [Int32.toBitVec_shiftRight, BitVec.sshiftRight_eq', show (((Int32.ofInt ((0 : Nat) : Int) &&& 31)).toBitVec.smod 32).toNat = 0 by decide +kernel]
    simp
  rw [e] at h
  rw [h]
  simp
def zr4 (g : Int → Int) (k : Int) : Int → Int := fun j => g (k + j)
theorem zer_r (d : Int) : -2147483648 ≤ d % 2 + d / 2 % 2 + d / 4 % 2 - d / 8 % 2 - d / 16 % 2 - d / 32 % 2 ∧ d % 2 + d / 2 % 2 + d / 4 % 2 - d / 8 % 2 - d / 16 % 2 - d / 32 % 2 < 2147483648 := by
  have h1 := zbit d
  have h2 := zbit (d / 2)
  have h3 := zbit (d / 4)
  have h4 := zbit (d / 8)
  have h5 := zbit (d / 16)
  have h6 := zbit (d / 32)
  generalize d % 2 = a at *
  generalize d / 2 % 2 = b at *
  generalize d / 4 % 2 = c at *
  generalize d / 8 % 2 = x at *
  generalize d / 16 % 2 = y at *
  generalize d / 32 % 2 = z at *
  omega
theorem zer_e (d : Int) : d % 2 + d / 2 % 2 + d / 4 % 2 - d / 8 % 2 - d / 16 % 2 - d / 32 % 2 = zer d := by
  unfold zer zlo zhi
  generalize d % 2 = a
  generalize d / 2 % 2 = b
  generalize d / 4 % 2 = c
  generalize d / 8 % 2 = x
  generalize d / 16 % 2 = y
  generalize d / 32 % 2 = z
  omega
