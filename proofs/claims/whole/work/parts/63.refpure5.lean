/-! seal, open, shrink, turn of the reference -/
theorem zqPu_b {nn c k a : Nat} {L : Nat → Int → Int} (hP : ∀ j : Int, 0 ≤ j → j < 1536 → 0 ≤ L 9 j ∧ L 9 j < 268435399) : ∀ j : Int, 0 ≤ j → j < 1536 → 0 ≤ zqPu nn c k a L 9 j ∧ zqPu nn c k a L 9 j < 268435399 := fun j h1 h2 => by
  unfold zqPu zsf
  rw [zlu_s]
  split
  · exact zqm _
  · exact hP j h1 h2
theorem zdt_b {t y : Int} (ht : 0 < t) (hy : 0 ≤ y ∧ y ≤ 1000) : 0 ≤ 268435399 / t * y ∧ 268435399 / t * y ≤ 268435399000 := by
  have h1 : 0 ≤ 268435399 / t := Int.ediv_nonneg (by decide) (by omega)
  have h2 : 268435399 / t ≤ 268435399 := Int.ediv_le_self _ (by decide)
  have h3 := Int.mul_nonneg h1 hy.1
  have h4 : 268435399 / t * y ≤ 268435399 * 1000 := Int.mul_le_mul h2 hy.2 hy.1 (by decide)
  omega
/-- both parts put, parts 2 -/
def zqP2 (nn c a b : Nat) (X : Nat → Int → Int) : Nat → Int → Int := zqPu nn c 1 b (zqPu nn c 0 a (zlu X 8 (zu (X 8) c 2)))
def zqSf (p : Nat) (t : Int) (X : Nat → Int → Int) (i : Int) : Int := X 10 i + (X 16 i + 268435399 / t * X 7 (32 * (p : Int) + i))
def zqSg (X : Nat → Int → Int) (i : Int) : Int := X 11 i + X 17 i
def zqS1 (nn : Nat) (ch : Int32) (L : Nat → Int → Int) : Nat → Int → Int :=
  zqRd nn 3 13 11 (zqRd nn 2 13 10 (zlu (zlu (zlu L 13 (zif nn (zrT ch) (L 13))) 16 (zif nn (zrE (zlcN ch nn)) (L 16))) 17 (zif nn (zrE (zlcN (zlcN ch nn) nn)) (L 17))))
def zqSe (nn : Nat) (ch : Int32) (c p : Nat) (t : Int) (L : Nat → Int → Int) : Nat → Int → Int :=
  zqP2 nn c 10 11 (zq2 nn nn 10 11 (zqSf p t (zqS1 nn ch L)) (zqSg (zqS1 nn ch L)) (zqS1 nn ch L))
def zqOp (nn c p : Nat) (t : Int) (L : Nat → Int → Int) : Nat → Int → Int :=
  zlu (zqPh nn c (zqPh nn c L)) 7 (zsf (32 * (p : Int)) nn (fun i => zts t (zqPh nn c (zqPh nn c L) 12 i) % t) (zqPh nn c (zqPh nn c L) 7))
def zqH1 (nn l : Nat) (L : Nat → Int → Int) : Nat → Int → Int := zqTk nn l 1 11 (zqTk nn l 0 10 (zqAp nn 0 (zqTk nn l 2 10 L) 6))
def zqHf (X : Nat → Int → Int) (i : Int) : Int := X 10 i + X 13 i
def zqHg (X : Nat → Int → Int) (i : Int) : Int := X 11 i + X 14 i
def zqSh (nn c l : Nat) (L : Nat → Int → Int) : Nat → Int → Int := zqP2 nn c 10 11 (zq2 nn nn 10 11 (zqHf (zqH1 nn l L)) (zqHg (zqH1 nn l L)) (zqH1 nn l L))
def zqTu (nn a d : Nat) (g : Int) (X : Nat → Int → Int) : Nat → Int → Int := zlu X d (zqt nn g (X a) (X d) nn)
def zqT1 (nn l : Nat) (g : Int) (L : Nat → Int → Int) : Nat → Int → Int := (fun X => zlu X 10 (zif nn (fun i => X 10 i % 268435399) (X 10))) (zqTu nn 11 10 g (zqTk nn l 1 11 L))
def zqT2 (nn l p : Nat) (g : Int) (L : Nat → Int → Int) : Nat → Int → Int := zqTu nn 11 10 g (zqTk nn l 0 11 (zqAp nn p (zqT1 nn l g L) 6))
def zqTn (nn c l p : Nat) (g : Int) (L : Nat → Int → Int) : Nat → Int → Int := zqP2 nn c 10 14 (zqAd nn 10 13 (zqT2 nn l p g L))
