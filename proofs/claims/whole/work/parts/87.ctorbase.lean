/-! worlds while they are made -/
section ZCT
variable {G : zG} {M : zM} {K : zK} {R : Room} {kc ks sz pc : Nat} {lo : List (Nat × Value)} {st : List Value} {w : zW}
/-- what is not said of the world may be forgotten -/
theorem V_sub {w' : zW} (h : ∀ q e, w' q = some e → w q = some e) (k : V G M K R kc ks sz pc lo st w') : V G M K R kc ks sz pc lo st w :=
  fun p l e s m args below meth c F ls H locs hl hw hS => k p l e s m args below meth c F ls H locs hl ⟨hw.1, hw.2.1, fun a x hx => hw.2.2 a x (h a x hx)⟩ hS
theorem V_k {kc' ks' sz' : Nat} (h1 : kc = kc') (h2 : ks = ks') (h3 : sz = sz') (k : V G M K R kc' ks' sz' pc lo st w) : V G M K R kc ks sz pc lo st w := by
  subst h1
  subst h2
  subst h3
  exact k
end ZCT
/-- an answer, a world that holds at least this, a size, what was made -/
def zsup (v : Option Value) (W : zW) (sz' mc ms : Nat) : zK := (fun o w1 s1 => match o with
  | .inl v1 => v = v1 ∧ sz' = s1 ∧ ∀ q e, W q = some e → w1 q = some e
  | .inr _ => False, mc, ms)
/-- the block of n cells from hi on -/
def zbk (f : Nat → va_E) (B hi n : Nat) (w : zW) : zW := fun q => if B + hi ≤ q ∧ q < B + hi + n then some (f (q - B)) else w q
/-- the object a with what it holds, an array t that is being filled, the cells from lo to hi -/
def zc2 (f : Nat → va_E) (B a : Nat) (ca : va_E) (t : Nat) (ct : va_E) (lo hi : Nat) (w : zW) : zW := fun q => if q = B + a then some ca else if q = B + t then some ct else if B + lo ≤ q ∧ q < B + hi then some (f (q - B)) else w q
section ZCU
variable {G : zG} {f : Nat → va_E} {B a t lo hi n : Nat} {ca ca' ct ct' e0 : va_E} {w w1 : zW}
theorem zc2_a : zc2 f B a ca t ct lo hi w (B + a) = some ca := if_pos rfl
theorem zc2_t (h : t ≠ a) : zc2 f B a ca t ct lo hi w (B + t) = some ct := by
  unfold zc2
  rw [if_neg (by omega), if_pos rfl]
theorem zbk_o {q : Nat} (h : q < B + hi) : zbk f B hi n w q = w q := if_neg (by omega)
theorem zbk_i {j : Nat} (h : hi ≤ j ∧ j < hi + n) : zbk f B hi n w (B + j) = some (f j) := by
  unfold zbk
  rw [if_pos (by omega), show B + j - B = j by omega]
/-- the first view of the object -/
theorem zc2_0 (h : w (B + a) = some ca) : ∀ q e, zc2 f B a ca a ct lo lo w q = some e → w q = some e := by
  intro q e hq
  unfold zc2 at hq
  by_cases h1 : q = B + a
  · rw [if_pos h1] at hq
    rw [h1, h]
    exact hq
  · rw [if_neg h1, if_neg h1, if_neg (by omega)] at hq
    exact hq
theorem zbk_1 (h : f hi = e0) : ∀ q e, zbk f B hi 1 w q = some e → zset w (B + hi) e0 q = some e := by
  intro q e hq
  unfold zbk at hq
  unfold zset
  by_cases h1 : q = B + hi
  · rw [if_pos (by omega), show q - B = hi by omega, h] at hq
    rw [if_pos h1]
    exact hq
  · rw [if_neg (by omega)] at hq
    rw [if_neg h1]
    exact hq
/-- an object and then its own cells -/
theorem zbk_2 (h0 : f hi = e0) (hw : ∀ q e, zbk f B (hi + 1) n (zset w (B + hi) e0) q = some e → w1 q = some e) : ∀ q e, zbk f B hi (n + 1) w q = some e → w1 q = some e := by
  intro q e hq
  apply hw
  unfold zbk at hq ⊢
  unfold zset
  by_cases h1 : q = B + hi
  · rw [if_pos (by omega), show q - B = hi by omega, h0] at hq
    rw [if_neg (by omega), if_pos h1]
    exact hq
  · by_cases h2 : B + hi ≤ q ∧ q < B + hi + (n + 1)
    · rw [if_pos h2] at hq
      rw [if_pos (by omega)]
      exact hq
    · rw [if_neg h2] at hq
      rw [if_neg (by omega), if_neg h1]
      exact hq
/-- an array of n rows -/
theorem zbk_m {k : Nat} (h0 : f hi = e0) (h1 : ∀ i, i < n → f (hi + 1 + i) = zro G k (fun _ => 0)) : ∀ q e, zbk f B hi (n + 1) w q = some e → zset (zrws G w (B + hi + 1) n k) (B + hi) e0 q = some e := by
  intro q e hq
  unfold zbk at hq
  unfold zset zrws
  by_cases h2 : q = B + hi
  · rw [if_pos (by omega), show q - B = hi by omega, h0] at hq
    rw [if_pos h2]
    exact hq
  · rw [if_neg h2]
    by_cases h3 : B + hi ≤ q ∧ q < B + hi + (n + 1)
    · rw [if_pos h3] at hq
      rw [if_pos (by omega), ← h1 (q - B - hi - 1) (by omega), show hi + 1 + (q - B - hi - 1) = q - B by omega]
      exact hq
    · rw [if_neg h3] at hq
      rw [if_neg (by omega)]
      exact hq
/-- the object's field is put behind a block -/
theorem zc2_put (hlo : lo ≤ hi) (ha : a < lo) (ht : t = a ∨ t < hi) : ∀ q e, zc2 f B a ca' t ct lo (hi + n) w q = some e → zset (zbk f B hi n (zc2 f B a ca t ct lo hi w)) (B + a) ca' q = some e := by
  intro q e hq
  unfold zset zbk
  unfold zc2 at *
  by_cases h1 : q = B + a
  · rw [if_pos h1] at hq ⊢
    exact hq
  · rw [if_neg h1] at hq ⊢
    by_cases h2 : q = B + t
    · rw [if_pos h2] at hq
      rw [if_neg (by omega), if_neg h1, if_pos h2]
      exact hq
    · rw [if_neg h2] at hq
      by_cases h3 : B + hi ≤ q ∧ q < B + hi + n
      · rw [if_pos (by omega)] at hq
        rw [if_pos h3]
        exact hq
      · rw [if_neg h3, if_neg h1, if_neg h2]
        by_cases h4 : B + lo ≤ q ∧ q < B + hi
        · rw [if_pos (by omega)] at hq
          rw [if_pos h4]
          exact hq
        · rw [if_neg (by omega)] at hq
          rw [if_neg h4]
          exact hq
/-- the array t is made: it begins to be filled -/
theorem zc2_arr (hlo : lo ≤ hi) (ha : a < lo) : ∀ q e, zc2 f B a ca' hi e0 lo (hi + 1) w q = some e → zset (zset (zc2 f B a ca a ct lo hi w) (B + hi) e0) (B + a) ca' q = some e := by
  intro q e hq
  unfold zset
  unfold zc2 at *
  by_cases h1 : q = B + a
  · rw [if_pos h1] at hq ⊢
    exact hq
  · rw [if_neg h1] at hq ⊢
    by_cases h2 : q = B + hi
    · rw [if_pos h2] at hq ⊢
      exact hq
    · rw [if_neg h2] at hq ⊢
      rw [if_neg h1, if_neg h1]
      by_cases h4 : B + lo ≤ q ∧ q < B + hi
      · rw [if_pos (by omega)] at hq
        rw [if_pos h4]
        exact hq
      · rw [if_neg (by omega)] at hq
        rw [if_neg h4]
        exact hq
/-- an element of the array t is stored behind a block -/
theorem zc2_st (hlo : lo ≤ hi) (ha : a < lo) (ht : lo ≤ t ∧ t < hi) : ∀ q e, zc2 f B a ca t ct' lo (hi + n) w q = some e → zset (zbk f B hi n (zc2 f B a ca t ct lo hi w)) (B + t) ct' q = some e := by
  intro q e hq
  unfold zset zbk
  unfold zc2 at *
  by_cases h2 : q = B + t
  · rw [if_neg (by omega), if_pos h2] at hq
    rw [if_pos h2]
    exact hq
  · rw [if_neg h2]
    by_cases h1 : q = B + a
    · rw [if_pos h1] at hq
      rw [if_neg (by omega), if_pos h1]
      exact hq
    · rw [if_neg h1, if_neg h2] at hq
      by_cases h3 : B + hi ≤ q ∧ q < B + hi + n
      · rw [if_pos (by omega)] at hq
        rw [if_pos h3]
        exact hq
      · rw [if_neg h3, if_neg h1, if_neg h2]
        by_cases h4 : B + lo ≤ q ∧ q < B + hi
        · rw [if_pos (by omega)] at hq
          rw [if_pos h4]
          exact hq
        · rw [if_neg (by omega)] at hq
          rw [if_neg h4]
          exact hq
/-- all is made -/
theorem zc2_end (ha : a + 1 = lo) (h0 : f a = ca) (ht : t = a ∨ (lo ≤ t ∧ t < hi ∧ f t = ct)) (hlo : lo ≤ hi) : ∀ q e, zbk f B a (hi - a) w q = some e → zc2 f B a ca t ct lo hi w q = some e := by
  intro q e hq
  unfold zbk at hq
  unfold zc2
  by_cases h1 : q = B + a
  · rw [if_pos (by omega), show q - B = a by omega, h0] at hq
    rw [if_pos h1]
    exact hq
  · rw [if_neg h1]
    by_cases h2 : q = B + t
    · rcases ht with ht | ht
      · omega
      · rw [if_pos (by omega), show q - B = t by omega, ht.2.2] at hq
        rw [if_pos h2]
        exact hq
    · rw [if_neg h2]
      by_cases h4 : B + lo ≤ q ∧ q < B + hi
      · rw [if_pos (by omega)] at hq
        rw [if_pos h4]
        exact hq
      · rw [if_neg (by omega)] at hq
        rw [if_neg h4]
        exact hq
end ZCU
theorem zbk_z {f : Nat → va_E} {B hi n : Nat} {e0 : va_E} {w w1 : zW} (hn : 0 < n) (hw : ∀ q e, zbk f B hi n (zset w (B + hi) e0) q = some e → w1 q = some e) : ∀ q e, zbk f B hi n w q = some e → w1 q = some e := by
  intro q e hq
  apply hw
  unfold zbk at hq ⊢
  by_cases h1 : B + hi ≤ q ∧ q < B + hi + n
  · rw [if_pos h1] at hq ⊢
    exact hq
  · rw [if_neg h1] at hq ⊢
    unfold zset
    rw [if_neg (by omega)]
    exact hq
theorem zaa {i : Nat} {a : Nat → Nat} (hi : i < 2147483648) : va_up (fun k => if k < i then some (a k) else none) (Int32.ofInt (i : Int)).toNatClampNeg (some (a i)) = fun k => if k < i + 1 then some (a k) else none := by
  rw [z32_clamp (by omega) (by omega)]
  funext k
  unfold va_up
  by_cases h : k = i
  · subst h
    simp
  · simp [h]
    by_cases h2 : k < i
    · rw [if_pos h2, if_pos (by omega)]
    · rw [if_neg h2, if_neg (by omega)]
/-! the cells of a new object of the class -/
def zL0 (P : Int → Int) (j : Nat) : Int → Int := if j = 2 then P else fun _ => 0
def zf0 (G : zG) (B : Nat) (zz : Int) (P : Int → Int) : Nat → va_E := zlay G B 0 8 17 zz (Int32.ofInt 0) 0 0 (fun _ => 0) (fun _ => 0) (zL0 P)
theorem zf_row {G : zG} {B : Nat} {zz : Int} {P : Int → Int} {j : Nat} (h : zir j) : zf0 G B zz P j = zro G 32 (fun _ => 0) := by
  unfold zf0
  rw [zlay_row h]
  unfold zL0
  rw [if_neg (by unfold zir at h; omega)]
theorem zf_swk {G : zG} {B : Nat} {zz : Int} {P : Int → Int} {j : Nat} (h : j = 9 ∨ j = 25 ∨ j = 40 ∨ j = 55 ∨ j = 70) : zf0 G B zz P j = zobj cSwitchKey [.int (Int32.ofInt 0), .ref (B + (j + 1)), .ref (B + (j + 8))] := zlay_swk h
theorem zf_swr {G : zG} {B : Nat} {zz : Int} {P : Int → Int} {j : Nat} (h : j = 10 ∨ j = 26 ∨ j = 41 ∨ j = 56 ∨ j = 71 ∨ j = 17 ∨ j = 33 ∨ j = 48 ∨ j = 63 ∨ j = 78) : zf0 G B zz P j = zrefs G 1 6 (fun k => if k < 6 then some (B + (j + 1 + k)) else none) := zlay_swr h
theorem zf_cip {G : zG} {B : Nat} {zz : Int} {P : Int → Int} {c : Nat} (h : c < 16) : zf0 G B zz P (97 + 5 * c) = zobj cCipher [.int (Int32.ofInt 0), .ref (B + (97 + 5 * c + 1))] := zlay_cip h
theorem zf_cir {G : zG} {B : Nat} {zz : Int} {P : Int → Int} {c : Nat} (h : c < 16) : zf0 G B zz P (97 + 5 * c + 1) = zrefs G 1 3 (fun k => if k < 3 then some (B + (97 + 5 * c + 1 + 1 + k)) else none) := zlay_cir h
theorem zrf {G : zG} {ka n : Nat} {a b : Nat → Nat} (h : ∀ k, a k = b k) : zrefs G ka n (fun k => if k < n then some (a k) else none) = zrefs G ka n (fun k => if k < n then some (b k) else none) := by rw [funext h]
theorem zc2_set {f : Nat → va_E} {B a t lo hi : Nat} {ca ca' ct : va_E} {w : zW} : ∀ q e, zc2 f B a ca' t ct lo hi w q = some e → zset (zc2 f B a ca t ct lo hi w) (B + a) ca' q = some e := by
  intro q e hq
  unfold zset
  unfold zc2 at *
  by_cases h1 : q = B + a
  · rw [if_pos h1] at hq ⊢
    exact hq
  · rw [if_neg h1] at hq ⊢
    rw [if_neg h1]
    exact hq
