/-! applied: a row's digits against a switch -/
def zqX (nn k : Nat) (X : Nat → Int → Int) : Nat → Int → Int := zlu X 16 (zif nn (fun i => X 10 i / 32 ^ k % 32) (X 16))
def zqSl (nn a k j : Nat) (X : Nat → Int → Int) : Nat → Int → Int := zlu X 11 (zif nn (fun i => X j (((a : Int) * 6 + k) * 32 + i)) (X 11))
def zqA (nn a k j d : Nat) (X : Nat → Int → Int) : Nat → Int → Int :=
  zlu (zqRd nn 11 16 17 (zqSl nn a k j X)) d (zif nn (fun i => (zqRd nn 11 16 17 (zqSl nn a k j X) d i + zqRd nn 11 16 17 (zqSl nn a k j X) 17 i) % 268435399) (zqRd nn 11 16 17 (zqSl nn a k j X) d))
def zqA0 (nn : Nat) (L : Nat → Int → Int) : Nat → Int → Int := zlu (zlu L 13 (zif nn (fun _ => 0) (L 13))) 14 (zif nn (fun _ => 0) (L 14))
def zqAp (nn a : Nat) (L : Nat → Int → Int) : Nat → Nat → Int → Int
  | 0 => zqA0 nn L
  | k + 1 => zqA nn a k 5 14 (zqA nn a k 4 13 (zqX nn k (zqAp nn a L k)))
theorem zqAp_o {nn a j : Nat} {L : Nat → Int → Int} (h : j ≠ 11 ∧ j ≠ 13 ∧ j ≠ 14 ∧ j ≠ 16 ∧ j ≠ 17) : ∀ k, zqAp nn a L k j = L j
  | 0 => by
    show zqA0 nn L j = _
    unfold zqA0
    rw [zlu_n (by omega), zlu_n (by omega)]
  | k + 1 => by
    show zqA nn a k 5 14 (zqA nn a k 4 13 (zqX nn k (zqAp nn a L k))) j = _
    unfold zqA zqRd zqSl zqX
    rw [zlu_n (by omega), zlu_n (by omega), zlu_n (by omega), zlu_n (by omega), zlu_n (by omega), zlu_n (by omega), zlu_n (by omega)]
    exact zqAp_o h k
theorem zqA_b {nn a k j d : Nat} {X : Nat → Int → Int} {i : Nat} (hi : i < nn) : 0 ≤ zqA nn a k j d X d i ∧ zqA nn a k j d X d i < 268435399 := by
  unfold zqA
  rw [zlu_s, zif_l (by omega)]
  exact zqm _
theorem zqAp_u {nn a : Nat} {L : Nat → Int → Int} {i : Nat} (hi : i < nn) : ∀ k, 0 ≤ zqAp nn a L k 13 i ∧ zqAp nn a L k 13 i < 268435399
  | 0 => by
    show 0 ≤ zif nn (fun _ => 0) (L 13) i ∧ zif nn (fun _ => 0) (L 13) i < 268435399
    rw [zif_l (by omega)]
    decide
  | k + 1 => (zqA_b hi : 0 ≤ zqA nn a k 4 13 (zqX nn k (zqAp nn a L k)) 13 i ∧ zqA nn a k 4 13 (zqX nn k (zqAp nn a L k)) 13 i < 268435399)
theorem zqAp_v {nn a : Nat} {L : Nat → Int → Int} {i : Nat} (hi : i < nn) : ∀ k, 0 ≤ zqAp nn a L k 14 i ∧ zqAp nn a L k 14 i < 268435399
  | 0 => by
    show 0 ≤ zif nn (fun _ => 0) (L 14) i ∧ zif nn (fun _ => 0) (L 14) i < 268435399
    rw [zif_l (by omega)]
    decide
  | k + 1 => zqA_b hi
theorem zqSl_b {nn a k j : Nat} {X : Nat → Int → Int} (ha : a < 5) (hk : k < 6) (hn : nn ≤ 32) (hX : ∀ q : Int, 0 ≤ q → q < 960 → 0 ≤ X j q ∧ X j q < 268435399) {i : Nat} (hi : i < nn) : 0 ≤ zqSl nn a k j X 11 i ∧ zqSl nn a k j X 11 i < 268435399 := by
  unfold zqSl
  rw [zlu_s, zif_l (by omega)]
  exact hX _ (by omega) (by omega)
/-- two rows filled side by side -/
def zq2 (nn i d e : Nat) (f g : Int → Int) (X : Nat → Int → Int) : Nat → Int → Int := zlu (zlu X d (zif i f (X d))) e (zif i g (X e))
theorem zq2_0 {nn d e : Nat} {f g : Int → Int} {X : Nat → Int → Int} : zq2 nn 0 d e f g X = X := by
  unfold zq2
  rw [show ((0 : Nat) : Int) = 0 from rfl, zif_0, zif_0, zlu_self]
  exact zlu_self
theorem zq2_s {nn i d e : Nat} {f g : Int → Int} {X : Nat → Int → Int} {v v' : Int} (h : d ≠ e) (hv : v = f i) (hv' : v' = g i) : zlu (zlu (zq2 nn i d e f g X) d (zu (zq2 nn i d e f g X d) i v)) e (zu (zq2 nn i d e f g X e) i v') = zq2 nn (i + 1) d e f g X := by
  have e4 : zq2 nn i d e f g X d = zif i f (X d) := by unfold zq2; rw [zlu_n h, zlu_s]
  have e5 : zq2 nn i d e f g X e = zif i g (X e) := by unfold zq2; rw [zlu_s]
  rw [e4, e5, zif_s (by omega) hv, zif_s (by omega) hv']
  funext j
  unfold zq2
  by_cases h5 : j = e
  · subst h5
    rw [zlu_s, zlu_s]
    rfl
  · rw [zlu_n h5, zlu_n h5]
    by_cases h4 : j = d
    · subst h4
      rw [zlu_s, zlu_s]
      rfl
    · rw [zlu_n h4, zlu_n h5, zlu_n h4, zlu_n h4]
