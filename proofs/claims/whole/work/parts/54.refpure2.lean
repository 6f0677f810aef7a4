/-! bounds in the reference -/
theorem zqTk_b {nn c k d : Nat} {L : Nat → Int → Int} (hc : c < 16) (hk : k < 3) (hn : nn ≤ 32) (hP : ∀ j : Int, 0 ≤ j → j < 1536 → 0 ≤ L 9 j ∧ L 9 j < 268435399) {i : Nat} (hi : i < nn) : 0 ≤ zqTk nn c k d L d i ∧ zqTk nn c k d L d i < 268435399 := by
  unfold zqTk
  rw [zlu_s, zif_l (by omega)]
  unfold zqT
  split
  · exact hP _ (by omega) (by omega)
  · omega
theorem zqRd_b {nn a b d : Nat} {L : Nat → Int → Int} {i : Nat} (hi : i < nn) : 0 ≤ zqRd nn a b d L d i ∧ zqRd nn a b d L d i < 268435399 := by
  unfold zqRd
  rw [zlu_s, zif_l (by omega)]
  exact zqm _
/-- row d, the sum of itself and row a -/
def zqAd (nn d a : Nat) (L : Nat → Int → Int) : Nat → Int → Int := zlu L d (zif nn (fun i => L d i + L a i) (L d))
/-- phase, step by step -/
def zqh1 (nn c : Nat) (L : Nat → Int → Int) : Nat → Int → Int := zqRd nn 10 1 11 (zqTk nn c 1 10 (zqTk nn c 0 12 L))
def zqh2 (nn c : Nat) (L : Nat → Int → Int) : Nat → Int → Int := zqAd nn 12 11 (zqh1 nn c L)
def zqh3 (nn c : Nat) (L : Nat → Int → Int) : Nat → Int → Int := zqRd nn 10 1 11 (zqTk nn c 2 10 (zqh2 nn c L))
def zqh4 (nn c : Nat) (L : Nat → Int → Int) : Nat → Int → Int := zqRd nn 10 1 11 (zCy nn 10 11 (zqh3 nn c L))
def zqPh (nn c : Nat) (L : Nat → Int → Int) : Nat → Int → Int := zlu (zqh4 nn c L) 12 (zif nn (fun i => zct (zqh4 nn c L 12 i + zqh4 nn c L 11 i)) (zqh4 nn c L 12))
theorem zqh4_b {nn c : Nat} {L : Nat → Int → Int} (hc : c < 16) (hn : nn ≤ 32) (hP : ∀ j : Int, 0 ≤ j → j < 1536 → 0 ≤ L 9 j ∧ L 9 j < 268435399) {i : Nat} (hi : i < nn) : 0 ≤ zqh4 nn c L 12 i + zqh4 nn c L 11 i ∧ zqh4 nn c L 12 i + zqh4 nn c L 11 i < 1000000000 := by
  have h1 : 0 ≤ zqh4 nn c L 11 i ∧ zqh4 nn c L 11 i < 268435399 := zqRd_b hi
  have h2 : 0 ≤ zqh1 nn c L 11 i ∧ zqh1 nn c L 11 i < 268435399 := zqRd_b hi
  have h3 : 0 ≤ zqTk nn c 0 12 L 12 i ∧ zqTk nn c 0 12 L 12 i < 268435399 := zqTk_b hc (by decide) hn hP hi
  have h4 : zqh4 nn c L 12 i = zqTk nn c 0 12 L 12 i + zqh1 nn c L 11 i := by
    show zqh2 nn c L 12 i = _
    unfold zqh2 zqAd
    rw [zlu_s, zif_l (by omega)]
    rfl
  omega
theorem zqPh_b {nn c : Nat} {L : Nat → Int → Int} {i : Nat} (hi : i < nn) : -134217699 ≤ zqPh nn c L 12 i ∧ zqPh nn c L 12 i ≤ 134217699 := by
  unfold zqPh
  rw [zlu_s, zif_l (by omega)]
  exact zct_b _
theorem zlu_self {L : Nat → Int → Int} {k : Nat} : zlu L k (L k) = L := by
  funext j
  unfold zlu
  split
  · rename_i h
    rw [h]
  · rfl
