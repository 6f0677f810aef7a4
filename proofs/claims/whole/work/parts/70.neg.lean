/-! the negacyclic product: commutative, associative, the same modulo Q as 'reduced' -/
def zS (F : Int → Int) : Nat → Int
  | 0 => 0
  | m + 1 => zS F m + F m
theorem zS_c {F H : Int → Int} : ∀ m : Nat, (∀ j : Nat, j < m → F j = H j) → zS F m = zS H m
  | 0, _ => rfl
  | m + 1, h => by
    show zS F m + F m = zS H m + H m
    rw [zS_c m (fun j hj => h j (by omega)), h m (by omega)]
theorem zS_add {F H : Int → Int} : ∀ m : Nat, zS (fun j => F j + H j) m = zS F m + zS H m
  | 0 => rfl
  | m + 1 => by
    show zS (fun j => F j + H j) m + (F m + H m) = (zS F m + F m) + (zS H m + H m)
    rw [zS_add m]
    omega
theorem zS_mul {F : Int → Int} {c : Int} : ∀ m : Nat, zS (fun j => c * F j) m = c * zS F m
  | 0 => by
    show (0 : Int) = c * 0
    omega
  | m + 1 => by
    show zS (fun j => c * F j) m + c * F m = c * (zS F m + F m)
    rw [zS_mul m, Int.mul_add]
theorem zS_zero : ∀ m : Nat, zS (fun _ => 0) m = 0
  | 0 => rfl
  | m + 1 => by
    show zS (fun _ => 0) m + 0 = 0
    rw [zS_zero m]
    rfl
theorem zS_swap {F : Int → Int → Int} {p : Nat} : ∀ m : Nat, zS (fun i => zS (fun j => F i j) p) m = zS (fun j => zS (fun i => F i j) m) p
  | 0 => (zS_zero p).symm
  | m + 1 => by
    show zS (fun i => zS (fun j => F i j) p) m + zS (fun j => F m j) p = zS (fun j => zS (fun i => F i j) m + F m j) p
    rw [zS_swap m, zS_add p]
theorem zS_head {F : Int → Int} : ∀ m : Nat, zS F (m + 1) = F 0 + zS (fun j => F (j + 1)) m
  | 0 => by
    show (0 : Int) + F 0 = F 0 + 0
    omega
  | m + 1 => by
    show zS F (m + 1) + F ((m + 1 : Nat) : Int) = F 0 + (zS (fun j => F (j + 1)) m + F ((m : Int) + 1))
    rw [zS_head m]
    show _ + F ((m : Int) + 1) = _
    omega
theorem zS_rev {F : Int → Int} : ∀ m : Nat, zS F m = zS (fun j => F ((m : Int) - 1 - j)) m
  | 0 => rfl
  | m + 1 => by
    rw [zS_head m]
    show F 0 + _ = zS (fun j => F (((m + 1 : Nat) : Int) - 1 - j)) m + F (((m + 1 : Nat) : Int) - 1 - m)
    rw [show (((m + 1 : Nat) : Int) - 1 - m) = 0 by omega, zS_rev (F := fun j => F (j + 1)) m, zS_c (F := fun j => F ((m : Int) - 1 - j + 1)) (H := fun j => F (((m + 1 : Nat) : Int) - 1 - j)) m (fun j _ => by
      show F _ = F _
      rw [show (m : Int) - 1 - j + 1 = ((m + 1 : Nat) : Int) - 1 - j by omega])]
    omega
theorem zS_sh {F : Int → Int} {n : Nat} (hp : ∀ x, F (x + n) = F x) : ∀ c : Nat, zS (fun j => F (j + c)) n = zS F n
  | 0 => zS_c n (fun j _ => by show F ((j : Int) + 0) = _; rw [Int.add_zero])
  | c + 1 => by
    have h := zS_head (F := fun j => F (j + (c : Int))) n
    have h2 : zS (fun j => F (j + (c : Int))) (n + 1) = zS (fun j => F (j + (c : Int))) n + F ((n : Int) + c) := rfl
    have h3 : F ((n : Int) + c) = F (0 + (c : Int)) := by
      rw [show (n : Int) + c = 0 + (c : Int) + n by omega, hp]
    have h4 : zS (fun j => F (j + ((c + 1 : Nat) : Int))) n = zS (fun j => F (j + 1 + (c : Int))) n := zS_c n (fun j _ => by
      show F _ = F _
      rw [show (j : Int) + ((c + 1 : Nat) : Int) = j + 1 + c by omega])
    have h5 := zS_sh hp c
    rw [h4]
    try dsimp only at h
    omega
/-- a row, carried on beyond its ends: n places on with the other sign -/
def zE (n : Int) (f : Int → Int) (j : Int) : Int := if j / n % 2 = 0 then f (j % n) else -(f (j % n))
theorem zE_n {n : Int} {f : Int → Int} {j : Int} (hn : 0 < n) : zE n f (j + n) = -(zE n f j) := by
  unfold zE
  rw [Int.add_emod_right, show (j + n) / n = j / n + 1 from by rw [Int.add_ediv_of_dvd_right (Int.dvd_refl n), Int.ediv_self (by omega)]]
  by_cases h : j / n % 2 = 0
  · rw [if_neg (by omega), if_pos h]
  · rw [if_pos (by omega), if_neg h, Int.neg_neg]
theorem zE_in {n : Int} {f : Int → Int} {j : Int} (h : 0 ≤ j ∧ j < n) : zE n f j = f j := by
  unfold zE
  rw [Int.ediv_eq_zero_of_lt h.1 h.2, Int.emod_eq_of_lt h.1 h.2]
  exact if_pos (by decide)
theorem zE_lo {n : Int} {f : Int → Int} {j : Int} (h : -n ≤ j ∧ j < 0) : zE n f j = -(f (n + j)) := by
  have h1 := zE_n (n := n) (f := f) (j := j) (by omega)
  rw [zE_in (by omega), show j + n = n + j by omega] at h1
  omega
/-- the product at any place -/
def zMl (n : Nat) (f g : Int → Int) (k : Int) : Int := zS (fun j => f j * zE n g (k - j)) n
theorem zcp_S {n : Nat} {a b : Int → Int} {k : Int} (hk : 0 ≤ k ∧ k < n) : ∀ m : Nat, m ≤ n → zcp n a b k m = zS (fun j => a j * zE n b (k - j)) m
  | 0, _ => rfl
  | m + 1, h => by
    show zcp n a b k m + _ = zS _ m + a m * zE n b (k - m)
    rw [zcp_S hk m (by omega)]
    by_cases h1 : (m : Int) ≤ k
    · rw [if_pos h1, zE_in (by omega)]
    · rw [if_neg h1, zE_lo (by omega), Int.mul_neg, show (n : Int) + (k - m) = n + k - m by omega]
theorem zcp_M {n : Nat} {a b : Int → Int} {k : Int} (hk : 0 ≤ k ∧ k < n) : zcp n a b k n = zMl n a b k := zcp_S hk n (Nat.le_refl n)
theorem zM_n {n : Nat} {f g : Int → Int} {k : Int} (hn : 0 < n) : zMl n f g (k + n) = -(zMl n f g k) := by
  unfold zMl
  rw [zS_c (H := fun j => -1 * (f j * zE n g (k - j))) n (fun j _ => by
    try dsimp only
    rw [show k + n - (j : Int) = k - j + n by omega, zE_n (by omega), Int.mul_neg]
    omega), zS_mul]
  omega
theorem zM_E {n : Nat} {f g h : Int → Int} (hn : 0 < n) (he : ∀ j : Int, 0 ≤ j → j < n → h j = zMl n f g j) (k : Int) : zE n h k = zMl n f g k := by
  have key : ∀ d : Nat, ∀ k : Int, 0 ≤ k → k < n → zE n h (k + n * (d : Int)) = zMl n f g (k + n * (d : Int)) ∧ zE n h (k - n * (d : Int)) = zMl n f g (k - n * (d : Int)) := by
    intro d
    induction d with
    | zero =>
      intro k h0 h1
      rw [show ((0 : Nat) : Int) = 0 from rfl, Int.mul_zero, Int.add_zero, Int.sub_zero, zE_in ⟨h0, h1⟩]
      exact ⟨he k h0 h1, he k h0 h1⟩
    | succ d ih =>
      intro k h0 h1
      obtain ⟨i1, i2⟩ := ih k h0 h1
      have e : (n : Int) * ((d + 1 : Nat) : Int) = n * (d : Int) + n := by
        rw [show ((d + 1 : Nat) : Int) = (d : Int) + 1 from rfl, Int.mul_add, Int.mul_one]
      rw [e]
      constructor
      · rw [show k + (n * (d : Int) + n) = k + n * (d : Int) + n by omega, zE_n (by omega), zM_n hn, i1]
      · have e1 := zE_n (n := n) (f := h) (j := k - (n * (d : Int) + n)) (by omega)
        have e2 := zM_n (f := f) (g := g) (k := k - (n * (d : Int) + n)) hn
        rw [show k - (n * (d : Int) + n) + n = k - n * (d : Int) by omega] at e1 e2
        omega
  have hp : 0 ≤ k % n := Int.emod_nonneg _ (by omega)
  have hl : k % n < n := Int.emod_lt_of_pos _ (by omega)
  have hd := Int.emod_add_mul_ediv k n
  by_cases hs : 0 ≤ k / n
  · have := (key (k / n).toNat (k % n) hp hl).1
    rw [show (((k / n).toNat : Nat) : Int) = k / n by omega, hd] at this
    exact this
  · have := (key (-(k / n)).toNat (k % n) hp hl).2
    rw [show (((-(k / n)).toNat : Nat) : Int) = -(k / n) by omega, show k % n - n * -(k / n) = k from by rw [Int.mul_neg]; omega] at this
    exact this
theorem zM_self {n : Nat} {f g : Int → Int} {k : Int} (_hn : 0 < n) : zMl n f g k = zS (fun j => zE n f j * zE n g (k - j)) n :=
  zS_c n (fun j hj => by rw [zE_in (f := f) (by omega)])
theorem zM_per {n : Nat} {f g : Int → Int} {k a : Int} (hn : 0 < n) (x : Int) : zE n f (x + n - a) * zE n g (k - (x + n)) = zE n f (x - a) * zE n g (k - x) := by
  have h1 := zE_n (n := n) (f := f) (j := x - a) (by omega)
  have h2 := zE_n (n := n) (f := g) (j := k - (x + n)) (by omega)
  rw [show x - a + n = x + n - a by omega] at h1
  rw [show k - (x + n) + n = k - x by omega] at h2
  rw [h1, h2, Int.neg_mul, Int.mul_neg]
theorem zM_comm {n : Nat} {f g : Int → Int} {k : Int} (hk : 0 ≤ k) : zMl n f g k = zMl n g f k := by
  by_cases hn : n = 0
  · subst hn
    rfl
  have hn' : 0 < n := by omega
  rw [zM_self hn', zM_self hn']
  have h1 := zS_rev (F := fun j => zE n f j * zE n g (k - j)) n
  have h2 := zS_sh (F := fun i => zE n g i * zE n f (k - i)) (n := n) (fun x => by
    have := zM_per (f := g) (g := f) (k := k) (a := 0) hn' x
    rw [Int.sub_zero, Int.sub_zero] at this
    exact this) (k.toNat + 1)
  rw [h1, ← h2]
  refine zS_c n (fun j _ => ?_)
  have e1 := zE_n (n := n) (f := f) (j := -1 - j) (by omega)
  have e2 := zE_n (n := n) (f := g) (j := k - (n - 1 - j)) (by omega)
  try dsimp only
  rw [show (j : Int) + ((k.toNat + 1 : Nat) : Int) = k - (n - 1 - j) + n by omega, e2, show k - (k - (n - 1 - (j : Int)) + n) = -1 - j by omega, show (n : Int) - 1 - j = -1 - j + n by omega, e1, Int.neg_mul, Int.neg_mul, Int.mul_comm]
theorem zM_assoc {n : Nat} {f g h p q : Int → Int} {k : Int} (hp : ∀ j : Int, 0 ≤ j → j < n → p j = zMl n f g j) (hq : ∀ j : Int, 0 ≤ j → j < n → q j = zMl n g h j) : zMl n p h k = zMl n f q k := by
  by_cases hn : n = 0
  · subst hn
    rfl
  have hn' : 0 < n := by omega
  have e1 : zMl n p h k = zS (fun m => zS (fun j => f j * (zE n g (m - j) * zE n h (k - m))) n) n := by
    refine zS_c n (fun m hm => ?_)
    try dsimp only
    rw [hp m (by omega) (by omega)]
    unfold zMl
    rw [Int.mul_comm, ← zS_mul]
    refine zS_c n (fun j _ => ?_)
    try dsimp only
    rw [Int.mul_comm, Int.mul_assoc]
  have e2 : zMl n f q k = zS (fun j => zS (fun m => f j * (zE n g (m - j) * zE n h (k - m))) n) n := by
    refine zS_c n (fun j hj => ?_)
    try dsimp only
    rw [zM_E hn' hq, zS_mul]
    congr 1
    rw [zM_self hn']
    have h2 := zS_sh (F := fun m => zE n g (m - j) * zE n h (k - m)) (n := n) (fun x => zM_per hn' x) j
    rw [← h2]
    refine zS_c n (fun i _ => ?_)
    try dsimp only
    rw [show (i : Int) + j - j = i by omega, show k - ((i : Int) + j) = k - j - i by omega]
  rw [e1, e2]
  exact zS_swap n
/-! the same modulo Q -/
def zc (a b : Int) : Prop := a % 268435399 = b % 268435399
theorem zc_r {a : Int} : zc a a := rfl
theorem zc_s {a b : Int} (h : zc a b) : zc b a := Eq.symm h
theorem zc_t {a b c : Int} (h : zc a b) (h2 : zc b c) : zc a c := Eq.trans h h2
theorem zc_m (a : Int) : zc (a % 268435399) a := by
  unfold zc
  omega
theorem zc_add {a b c d : Int} (h : zc a b) (h2 : zc c d) : zc (a + c) (b + d) := by
  unfold zc at *
  omega
theorem zc_neg {a b : Int} (h : zc a b) : zc (-a) (-b) := by
  unfold zc at *
  omega
theorem zc_sub {a b c d : Int} (h : zc a b) (h2 : zc c d) : zc (a - c) (b - d) := by
  unfold zc at *
  omega
theorem zc_mul {a b c d : Int} (h : zc a b) (h2 : zc c d) : zc (a * c) (b * d) := by
  unfold zc at *
  rw [Int.mul_emod, h, h2, ← Int.mul_emod]
theorem zc_tm (a : Int) : zc (a.tmod 268435399) a := by
  unfold zc
  have := Int.tmod_add_mul_tdiv a 268435399
  omega
theorem zc_rt (a b : Int) : zc (zrt a b) (a * b) := zc_t (zc_tm _) (zc_mul (zc_tm a) (zc_tm b))
theorem zc_S {F H : Int → Int} : ∀ m : Nat, (∀ j : Nat, j < m → zc (F j) (H j)) → zc (zS F m) (zS H m)
  | 0, _ => zc_r
  | m + 1, h => zc_add (zc_S m (fun j hj => h j (by omega))) (h m (by omega))
theorem zc_E {n : Nat} {f g : Int → Int} (hn : 0 < n) (h : ∀ j : Int, 0 ≤ j → j < n → zc (f j) (g j)) (k : Int) : zc (zE n f k) (zE n g k) := by
  have hp : 0 ≤ k % n := Int.emod_nonneg _ (by omega)
  have hl : k % n < n := Int.emod_lt_of_pos _ (by omega)
  unfold zE
  split
  · exact h _ hp hl
  · exact zc_neg (h _ hp hl)
theorem zc_M {n : Nat} {f g f' g' : Int → Int} {k : Int} (h : ∀ j : Int, 0 ≤ j → j < n → zc (f j) (f' j)) (h2 : ∀ j : Int, 0 ≤ j → j < n → zc (g j) (g' j)) : zc (zMl n f g k) (zMl n f' g' k) := by
  refine zc_S n (fun j hj => ?_)
  exact zc_mul (h j (by omega) (by omega)) (zc_E (by omega) h2 _)
theorem zrd_c {n : Nat} {f g : Int → Int} {i : Int} (hi : 0 ≤ i ∧ i < n) : ∀ m : Nat, m ≤ n → zc (zrd n f g i m) (zS (fun j => f j * zE n g (i - j)) m)
  | 0, _ => zc_r
  | m + 1, h => by
    show zc (zrd n f g i m + _) (zS _ m + f m * zE n g (i - m))
    refine zc_add (zrd_c hi m (by omega)) ?_
    by_cases h1 : i - (m : Int) < 0
    · rw [if_pos h1, zE_lo (by omega), Int.mul_neg, show (n : Int) + (i - m) = i - m + n by omega]
      exact zc_neg (zc_rt _ _)
    · rw [if_neg h1, zE_in (by omega)]
      exact zc_rt _ _
theorem zrd_M {n : Nat} {f g : Int → Int} {i : Int} (hi : 0 ≤ i ∧ i < n) : zc (zrd n f g i n % 268435399) (zMl n f g i) := zc_t (zc_m _) (zrd_c hi n (Nat.le_refl n))
theorem zc_ct {a b : Int} (h : zc a b) : zct a = zct b := by
  unfold zct
  rw [show a % 268435399 = b % 268435399 from h]
