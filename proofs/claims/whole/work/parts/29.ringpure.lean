theorem cp_nat : zin (.native arraycopyName) := ⟨List.mem_append_right _ (List.mem_of_getElem? (i := 454) (by decide +kernel)), by decide +kernel⟩
theorem cp_st : zin (.static arraycopyName) := ⟨List.mem_append_right _ (List.mem_of_getElem? (i := 453) (by decide +kernel)), by decide +kernel⟩
theorem cp_ini : zin (.initialized "java/lang/System") := ⟨List.mem_append_right _ (List.mem_of_getElem? (i := 17) (by decide +kernel)), by decide +kernel⟩
theorem gs_Ring_23 : zGs "RingCipher$Ring" 23 "SIZES" "[I" := Or.inr ⟨"RingCipher", List.mem_append_right _ (List.mem_of_getElem? (i := 36) (by decide +kernel)), by decide +kernel⟩
theorem gs_Ring_30 : zGs "RingCipher$Ring" 30 "MODULI" "[I" := Or.inr ⟨"RingCipher", List.mem_append_right _ (List.mem_of_getElem? (i := 38) (by decide +kernel)), by decide +kernel⟩
theorem gs_X_48 : zGs "RingCipher" 48 "SIZES" "[I" := Or.inl ⟨List.mem_append_right _ (List.mem_of_getElem? (i := 272) (by decide +kernel)), by decide +kernel⟩
theorem cp_X_133 : zin (.methodLink "RingCipher" 133 arraycopyName) := ⟨List.mem_append_right _ (List.mem_of_getElem? (i := 452) (by decide +kernel)), by decide +kernel⟩
theorem cp_Ring_60 : zin (.methodLink "RingCipher$Ring" 60 arraycopyName) := ⟨List.mem_append_right _ (List.mem_of_getElem? (i := 499) (by decide +kernel)), by decide +kernel⟩
/-! Ring's numbers -/
def zQ0 : Int := 268435399
def zpm (t b : Int) : Nat → Int
  | 0 => 1
  | e + 1 => zpm t b e * b % t
theorem zpm_b {t b : Int} (ht : 1 < t) (e : Nat) : 0 ≤ zpm t b e ∧ zpm t b e < t := by
  cases e with
  | zero => exact ⟨by show (0 : Int) ≤ 1; omega, ht⟩
  | succ e => exact ⟨Int.emod_nonneg _ (by omega), Int.emod_lt_of_pos _ (by omega)⟩
theorem zmulb {a b A B : Int} (ha : 0 ≤ a ∧ a ≤ A) (hb : 0 ≤ b ∧ b ≤ B) : 0 ≤ a * b ∧ a * b ≤ A * B :=
  ⟨Int.mul_nonneg ha.1 hb.1, Int.mul_le_mul ha.2 hb.2 hb.1 (by omega)⟩
def zts (t x : Int) : Int := t * (x / 268435399) + (2 * t * (x % 268435399) + 268435399) / 536870798
def zct (x : Int) : Int := if 134217699 < x % 268435399 then x % 268435399 - 268435399 else x % 268435399
theorem zct_b (x : Int) : -134217699 ≤ zct x ∧ zct x ≤ 134217699 := by
  unfold zct
  split <;> omega
/-- the places and values of x^g for x, one after the other -/
def zsp (n g : Int) (i : Nat) : Int := if g * i % (2 * n) < n then g * i % (2 * n) else g * i % (2 * n) - n
def zsv (n g : Int) (f : Int → Int) (i : Nat) : Int := if g * i % (2 * n) < n then f i % 268435399 else -f i % 268435399
def zsb (n g : Int) (f b : Int → Int) : Nat → Int → Int
  | 0 => b
  | i + 1 => zu (zsb n g f b i) (zsp n g i) (zsv n g f i)
/-- the sums of evaluate and interpolate -/
def zes (f pw : Int → Int) (ix : Nat → Int) : Nat → Int
  | 0 => 0
  | j + 1 => zes f pw ix j + f j * pw (ix j)
theorem zes_b {f pw : Int → Int} {ix : Nat → Int} {n : Nat} (hf : ∀ j : Nat, j < n → 0 ≤ f j ∧ f j ≤ 1000) (hp : ∀ j : Nat, j < n → 0 ≤ pw (ix j) ∧ pw (ix j) ≤ 1000) : ∀ j, j ≤ n → 0 ≤ zes f pw ix j ∧ zes f pw ix j ≤ j * 1000000
  | 0, _ => by constructor <;> simp [zes]
  | j + 1, h => by
    have ih := zes_b hf hp j (by omega)
    have h2 := zmulb (hf j (by omega)) (hp j (by omega))
    show 0 ≤ zes f pw ix j + f j * pw (ix j) ∧ zes f pw ix j + f j * pw (ix j) ≤ ((j + 1 : Nat) : Int) * 1000000
    omega
/-- the least root, searched from c on -/
def zlr (t : Int) (n : Nat) : Nat → Int → Int
  | 0, c => c
  | f + 1, c => if c < t ∧ ¬ zpm t c n = t - 1 then zlr t n f (c + 1) else c
