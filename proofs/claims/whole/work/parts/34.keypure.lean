/-! what KeyRing does to the rows -/
theorem zel {n : Nat} {a : Nat → Nat} {i : Nat} (h : i < n) : (fun k => if k < n then some (a k) else none) ((i : Int).toNat) = some (a i) := by
  show (if ((i : Int)).toNat < n then some (a ((i : Int)).toNat) else none) = _
  rw [show ((i : Int)).toNat = i by omega, if_pos h]
theorem zshl {i : Nat} (h : i < 6) : Int64.ofInt 1 <<< ((Int32.ofInt (5 * (i : Int))).toInt64 &&& 63) = Int64.ofInt (32 ^ i) := by
  have : i = 0 ∨ i = 1 ∨ i = 2 ∨ i = 3 ∨ i = 4 ∨ i = 5 := by omega
  rcases this with rfl | rfl | rfl | rfl | rfl | rfl <;> decide +kernel
def zMkc (nn : Nat) (ch : Int32) : Int32 := zlcN (zlcN ch (2 * nn)) nn
def zMk (nn : Nat) (ch : Int32) (j : Nat) (L : Nat → Int → Int) : Nat → Int → Int :=
  zlu (zlu (zlu L j (zif nn (zrU ch) (L j))) 85 (zif nn (zrE (zlcN ch (2 * nn))) (L 85))) 85 (zap nn (L 5) (zif nn (zrU ch) (L j)) (zif nn (zrE (zlcN ch (2 * nn))) (L 85)) nn)
def zAs (nn s a : Nat) (f : Int) (L : Nat → Int → Int) : Nat → Int → Int := zlu L s (zif nn (fun i => L s i + f * L a i) (L s))
def zAp (nn s a b : Nat) (L : Nat → Int → Int) : Nat → Int → Int := zlu L s (zap nn (L a) (L b) (L s) nn)
def zHb (nn j : Nat) (L : Nat → Int → Int) : Nat → Int → Int := zlu L j (zif nn (fun i => -(L 85 i) % 268435399) (L j))
def zCe (nn s a : Nat) (L : Nat → Int → Int) : Nat → Int → Int := zlu L s (zif nn (fun i => zct (L a i)) (L s))
def zRd (nn s a : Nat) (L : Nat → Int → Int) : Nat → Int → Int := zlu L s (zif nn (fun i => L a i % 268435399) (L s))
def zCy (nn s a : Nat) (L : Nat → Int → Int) : Nat → Int → Int := zlu L s (zif nn (L a) (L s))
def zSs (nn s a : Nat) (g : Int) (L : Nat → Int → Int) : Nat → Int → Int := zlu L s (zsb nn g (L a) (L s) nn)
def zFl (s : Nat) (v : Int) (L : Nat → Int → Int) : Nat → Int → Int := zlu L s (zif 32 (fun _ => v) (L s))
/-- makeSwitch, key at j, the row at a, k pairs made -/
def zSwc (nn : Nat) (ch : Int32) : Nat → Int32
  | 0 => ch
  | k + 1 => zMkc nn (zSwc nn ch k)
def zSwL (nn : Nat) (ch : Int32) (j a : Nat) (L : Nat → Int → Int) : Nat → Nat → Int → Int
  | 0 => L
  | k + 1 => zHb nn (j + 1 + 1 + k) (zAs nn 85 a (-(32 ^ k)) (zMk nn (zSwc nn ch k) (j + 8 + 1 + k) (zSwL nn ch j a L k)))
/-- the place of a TURN -/
def zplc (tg : Nat → Int) (tc g : Int) : Nat → Nat → Nat
  | 0, p => p
  | f + 1, p => if (p : Int) < tc ∧ ¬ tg (25 + 15 * p) = g then zplc tg tc g f (p + 1) else p
/-- findPhase: the phase into row s, of the cipher whose rows begin at q -/
def zPh (nn s q : Nat) (three : Bool) (L : Nat → Int → Int) : Nat → Int → Int :=
  zCe nn s 85 ((if three then zAp nn 85 6 (q + 2) else fun x => x) (zAp nn 85 5 (q + 1) (zCy nn 85 q L)))
