/-! plain of the reference -/
def zqp1 (nn l p k : Nat) (X : Nat → Int → Int) : Nat → Int → Int := zlu (zqTk nn l k 10 X) 11 (zif nn (fun i => X 7 (32 * (p : Int) + i)) (X 11))
def zqpF (t : Int) (k : Nat) (X : Nat → Int → Int) (i : Int) : Int := X 10 i + if (k : Int) = 0 then 268435399 / t * X 11 i else 0
def zqp2 (nn : Nat) (t : Int) (o k : Nat) (X : Nat → Int → Int) : Nat → Int → Int := if o = 1 then zqRd nn 10 11 12 X else zlu X 12 (zif nn (zqpF t k X) (X 12))
def zqw (nn k : Nat) (X : Nat → Int → Int) : Nat → Int → Int := zlu X 15 (zsf (32 * (k : Int)) nn (X 12) (X 15))
def zqPl (nn l p : Nat) (t : Int) (o : Nat) (L : Nat → Int → Int) : Nat → Nat → Int → Int
  | 0 => L
  | k + 1 => zqw nn k (zqp2 nn t o k (zqp1 nn l p k (zqPl nn l p t o L k)))
theorem zqPl_o {nn l p o j : Nat} {t : Int} {L : Nat → Int → Int} (h : j ≠ 10 ∧ j ≠ 11 ∧ j ≠ 12 ∧ j ≠ 15) : ∀ k, zqPl nn l p t o L k j = L j
  | 0 => rfl
  | k + 1 => by
    show zqw nn k (zqp2 nn t o k (zqp1 nn l p k (zqPl nn l p t o L k))) j = _
    unfold zqw
    rw [zlu_n (by omega)]
    have e : zqp2 nn t o k (zqp1 nn l p k (zqPl nn l p t o L k)) j = zqp1 nn l p k (zqPl nn l p t o L k) j := by
      unfold zqp2 zqRd
      split
      · rw [zlu_n (by omega)]
      · rw [zlu_n (by omega)]
    rw [e]
    unfold zqp1 zqTk
    rw [zlu_n (by omega), zlu_n (by omega)]
    exact zqPl_o h k
/-- the three rows put back -/
def zqb (nn c : Nat) (Y : Nat → Int → Int) : Nat → Nat → Int → Int
  | 0 => Y
  | k + 1 => zqPu nn c k 12 (zlu (zqb nn c Y k) 12 (zif nn (fun i => zqb nn c Y k 15 (32 * (k : Int) + i)) (zqb nn c Y k 12)))
theorem zqb_o {nn c j : Nat} {Y : Nat → Int → Int} (h : j ≠ 9 ∧ j ≠ 12) : ∀ k, zqb nn c Y k j = Y j
  | 0 => rfl
  | k + 1 => by
    show zqPu nn c k 12 _ j = _
    unfold zqPu
    rw [zlu_n (by omega), zlu_n (by omega)]
    exact zqb_o h k
