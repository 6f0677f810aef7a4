/-! x^g for x: every place is written; a TURN's place; what is full -/
def zcovB (n : Nat) : Bool := (List.range (2 * n)).all fun g => (g % 2 == 0) || (List.range n).all fun x => (List.range n).any fun i => decide (zsp (n : Int) (g : Int) i = (x : Int))
theorem zcov8 : zcovB 8 = true := by decide +kernel
theorem zcov16 : zcovB 16 = true := by decide +kernel
theorem zcov32 : zcovB 32 = true := by decide +kernel
theorem zcov {n : Nat} (hn : n = 8 ∨ n = 16 ∨ n = 32) {g : Int} (hg : 3 ≤ g ∧ g < 2 * n) (ho : g % 2 = 1) {x : Int} (hx : 0 ≤ x ∧ x < n) : ∃ i : Nat, i < n ∧ zsp n g i = x := by
  have h : zcovB n = true := by
    rcases hn with rfl | rfl | rfl
    · exact zcov8
    · exact zcov16
    · exact zcov32
  unfold zcovB at h
  rw [List.all_eq_true] at h
  have h1 := h g.toNat (List.mem_range.mpr (by omega))
  rw [Bool.or_eq_true] at h1
  rcases h1 with h1 | h1
  · have := of_decide_eq_true h1
    omega
  rw [List.all_eq_true] at h1
  have h2 := h1 x.toNat (List.mem_range.mpr (by omega))
  rw [List.any_eq_true] at h2
  obtain ⟨i, hi, h3⟩ := h2
  have h4 := of_decide_eq_true h3
  rw [show ((g.toNat : Nat) : Int) = g by omega, show ((x.toNat : Nat) : Int) = x by omega] at h4
  exact ⟨i, List.mem_range.mp hi, h4⟩
theorem zsb_w {n g x : Int} {f b b' : Int → Int} : ∀ m : Nat, (∃ i : Nat, i < m ∧ zsp n g i = x) → ∃ i : Nat, i < m ∧ zsb n g f b m x = zsv n g f i ∧ zqt n g f b' m x = zqv n g f i
  | 0, ⟨_, h, _⟩ => absurd h (Nat.not_lt_zero _)
  | m + 1, ⟨i, hi, he⟩ => by
    by_cases hx : x = zsp n g m
    · refine ⟨m, Nat.lt_succ_self m, ?_, ?_⟩
      · show zu _ _ _ x = _
        rw [hx, zu_s]
      · show zu _ _ _ x = _
        rw [hx, zu_s]
    · have hm : i < m := by
        by_cases h : i = m
        · subst h
          exact absurd he.symm hx
        · omega
      obtain ⟨j, hj, h1, h2⟩ := zsb_w (f := f) (b := b) (b' := b') m ⟨i, hm, he⟩
      refine ⟨j, by omega, ?_, ?_⟩
      · show zu _ _ _ x = _
        rw [zu_n hx, h1]
      · show zu _ _ _ x = _
        rw [zu_n hx, h2]
/-- what the two do to a place, of one row -/
theorem zsb_q {n : Nat} (hn : n = 8 ∨ n = 16 ∨ n = 32) {g : Int} (hg : 3 ≤ g ∧ g < 2 * n) (ho : g % 2 = 1) {f b b' : Int → Int} {x : Int} (hx : 0 ≤ x ∧ x < n) :
    ∃ i : Nat, i < n ∧ (zqt n g f b' n x = f i ∨ zqt n g f b' n x = -(f i)) ∧ zsb n g f b n x = zqt n g f b' n x % 268435399 := by
  obtain ⟨i, hi, h1, h2⟩ := zsb_w (f := f) (b := b) (b' := b') n (zcov hn hg ho hx)
  refine ⟨i, hi, ?_, ?_⟩
  · rw [h2]
    unfold zqv
    split
    · exact Or.inl rfl
    · exact Or.inr rfl
  · rw [h1, h2]
    unfold zsv zqv
    split <;> rfl
/-- rows that are the same below n give the same -/
theorem zqt_c {n : Nat} (hn : n = 8 ∨ n = 16 ∨ n = 32) {g : Int} (hg : 3 ≤ g ∧ g < 2 * n) (ho : g % 2 = 1) {f f' b b' : Int → Int} (hf : ∀ i : Nat, i < n → f i = f' i) {x : Int} (hx : 0 ≤ x ∧ x < n) : zsb n g f b n x = zqt n g f' b' n x % 268435399 := by
  have key : ∀ m : Nat, m ≤ n → zsb n g f b m = zsb n g f' b m := by
    intro m
    induction m with
    | zero => intro _; rfl
    | succ m ih =>
      intro hm
      show zu _ _ _ = zu _ _ _
      rw [ih (by omega)]
      unfold zsv
      rw [hf m (by omega)]
  obtain ⟨i, _, _, h⟩ := zsb_q hn hg ho (f := f') (b := b) (b' := b') hx
  rw [key n (Nat.le_refl n), h]
theorem zqf_plc {tr : Int → Int} {tg : Nat → Int} {tc g : Int} (ht : tc ≤ 4) (he : ∀ p : Nat, p < 4 → tg (25 + 15 * p) = tr (p + 1)) : ∀ f p : Nat, 5 ≤ f + p → zqf tr tc g f (p + 1) = if (zplc tg tc g f p : Int) < tc then zplc tg tc g f p + 1 else 0
  | 0, p, h => by
    show (0 : Nat) = if (p : Int) < tc then p + 1 else 0
    rw [if_neg (by omega)]
  | f + 1, p, h => by
    have e0 : zplc tg tc g (f + 1) p = if (p : Int) < tc ∧ ¬ tg (25 + 15 * p) = g then zplc tg tc g f (p + 1) else p := rfl
    have e1 : zqf tr tc g (f + 1) (p + 1) = if ((p + 1 : Nat) : Int) ≤ tc then (if tr ((p + 1 : Nat) : Int) = g then p + 1 else zqf tr tc g f (p + 1 + 1)) else 0 := rfl
    by_cases h1 : (p : Int) < tc
    · rw [if_pos (by omega), show tr ((p + 1 : Nat) : Int) = tg (25 + 15 * p) from (he p (by omega)).symm] at e1
      by_cases h2 : tg (25 + 15 * p) = g
      · rw [if_pos h2] at e1
        rw [if_neg (fun h => h.2 h2)] at e0
        rw [e0, e1, if_pos h1]
      · rw [if_neg h2] at e1
        rw [if_pos ⟨h1, h2⟩] at e0
        rw [e0, e1]
        exact zqf_plc ht he f (p + 1) (by omega)
    · rw [if_neg (by omega)] at e1
      rw [if_neg (fun h => h1 h.1)] at e0
      rw [e0, e1, if_neg h1]
theorem zplc_le {tg : Nat → Int} {tc g : Int} : ∀ f p : Nat, 5 ≤ f + p → tc ≤ 4 → (p : Int) ≤ tc → (zplc tg tc g f p : Int) ≤ tc ∧ p ≤ zplc tg tc g f p
  | 0, p, _, _, h2 => ⟨h2, Nat.le_refl p⟩
  | f + 1, p, h, ht, h2 => by
    show ((if (p : Int) < tc ∧ ¬ tg (25 + 15 * p) = g then zplc tg tc g f (p + 1) else p : Nat) : Int) ≤ tc ∧ p ≤ (if (p : Int) < tc ∧ ¬ tg (25 + 15 * p) = g then zplc tg tc g f (p + 1) else p)
    split
    · rename_i h3
      have := zplc_le (tg := tg) (g := g) f (p + 1) (by omega) ht (by omega)
      omega
    · omega
theorem zplc_at {tg : Nat → Int} {tc g : Int} : ∀ f p : Nat, 5 ≤ f + p → tc ≤ 4 → (zplc tg tc g f p : Int) < tc → tg (25 + 15 * zplc tg tc g f p) = g
  | 0, p, h, ht, h2 => by
    have : (p : Int) < tc := h2
    omega
  | f + 1, p, h, ht, h2 => by
    show tg (25 + 15 * (if (p : Int) < tc ∧ ¬ tg (25 + 15 * p) = g then zplc tg tc g f (p + 1) else p)) = g
    have h4 : ((if (p : Int) < tc ∧ ¬ tg (25 + 15 * p) = g then zplc tg tc g f (p + 1) else p : Nat) : Int) < tc := h2
    by_cases h3 : (p : Int) < tc ∧ ¬ tg (25 + 15 * p) = g
    · rw [if_pos h3] at h4 ⊢
      exact zplc_at f (p + 1) (by omega) ht h4
    · rw [if_neg h3] at h4 ⊢
      by_cases h5 : tg (25 + 15 * p) = g
      · exact h5
      · exact absurd ⟨h4, h5⟩ h3
theorem zNz_c {t : Int} {f f' : Int → Int} : ∀ i : Nat, (∀ j : Nat, j < i → f j = f' j) → zNz t f i = zNz t f' i
  | 0, _ => rfl
  | i + 1, h => by
    show zmx _ _ = zmx _ _
    rw [zNz_c i (fun j hj => h j (by omega)), h i (by omega)]
/-! batch, root, count -/
def zqbs (t z : Int) (f : Int → Int) (e : Nat → Nat) : Nat → Int
  | 0 => 0
  | j + 1 => (zqbs t z f e j + f j * zpm t z (e j)) % t
theorem zqbs_e {t z : Int} {f f' pw : Int → Int} {e : Nat → Nat} {ix : Nat → Int} : ∀ m : Nat, (∀ j : Nat, j < m → f j = f' j ∧ pw (ix j) = zpm t z (e j)) → zqbs t z f' e m = zes f pw ix m % t
  | 0, _ => by
    show (0 : Int) = 0 % t
    rw [Int.zero_emod]
  | m + 1, h => by
    show (zqbs t z f' e m + f' m * zpm t z (e m)) % t = (zes f pw ix m + f m * pw (ix m)) % t
    rw [zqbs_e m (fun j hj => h j (by omega)), (h m (by omega)).1, (h m (by omega)).2, Int.emod_add_emod]
theorem zqbs_b {t z : Int} {f : Int → Int} {e : Nat → Nat} (ht : 0 < t) : ∀ m : Nat, 0 ≤ zqbs t z f e m ∧ zqbs t z f e m < t
  | 0 => ⟨Int.le_refl 0, ht⟩
  | m + 1 => ⟨Int.emod_nonneg _ (by omega), Int.emod_lt_of_pos _ ht⟩
theorem zkd {k : Int} (h : 0 ≤ k ∧ k ≤ 2) : k = 0 ∨ k = 1 ∨ k = 2 := by omega
def zrtB (t : Int) (n z : Nat) : Bool := decide (zpm t z n = t - 1) && (List.range z).all fun c => decide (c < 2) || !decide (zpm t c n = t - 1)
theorem zroot {k : Int} (h : 0 ≤ k ∧ k ≤ 2) : zpm (zmoI k) (zlr (zmoI k) (zszI k).toNat 1000 2) (zszI k).toNat = zmoI k - 1 ∧ ∀ c : Int, 2 ≤ c → c < zlr (zmoI k) (zszI k).toNat 1000 2 → ¬ zpm (zmoI k) c (zszI k).toNat = zmoI k - 1 := by
  have key : zrtB (zmoI k) (zszI k).toNat (zlr (zmoI k) (zszI k).toNat 1000 2).toNat = true := by
    rcases zkd h with rfl | rfl | rfl <;> decide +kernel
  have hb := zlr_b h
  unfold zrtB at key
  rw [Bool.and_eq_true, List.all_eq_true] at key
  obtain ⟨h1, h2⟩ := key
  rw [decide_eq_true_eq, show (((zlr (zmoI k) (zszI k).toNat 1000 2).toNat : Nat) : Int) = zlr (zmoI k) (zszI k).toNat 1000 2 by omega] at h1
  refine ⟨h1, fun c hc1 hc2 hc3 => ?_⟩
  have h3 := h2 c.toNat (List.mem_range.mpr (by omega))
  rw [show ((c.toNat : Nat) : Int) = c by omega, decide_eq_true hc3, decide_eq_false (by omega)] at h3
  exact Bool.noConfusion h3
def zinB (t n : Int) (v : Nat) : Bool := decide ((v : Int) * n % t = 1) && (List.range v).all fun c => decide (c < 1) || !decide ((c : Int) * n % t = 1)
theorem zinv {k : Int} (h : 0 ≤ k ∧ k ≤ 2) : (1 ≤ zpm (zmoI k) (zszI k) (zmoI k - 2).toNat ∧ zpm (zmoI k) (zszI k) (zmoI k - 2).toNat < 1000) ∧ zpm (zmoI k) (zszI k) (zmoI k - 2).toNat * zszI k % zmoI k = 1 ∧ ∀ c : Int, 1 ≤ c → c < zpm (zmoI k) (zszI k) (zmoI k - 2).toNat → ¬ c * zszI k % zmoI k = 1 := by
  have hb : 1 ≤ zpm (zmoI k) (zszI k) (zmoI k - 2).toNat ∧ zpm (zmoI k) (zszI k) (zmoI k - 2).toNat < 1000 := by
    rcases zkd h with rfl | rfl | rfl <;> decide +kernel
  have key : zinB (zmoI k) (zszI k) (zpm (zmoI k) (zszI k) (zmoI k - 2).toNat).toNat = true := by
    rcases zkd h with rfl | rfl | rfl <;> decide +kernel
  unfold zinB at key
  rw [Bool.and_eq_true, List.all_eq_true] at key
  obtain ⟨h1, h2⟩ := key
  rw [decide_eq_true_eq, show (((zpm (zmoI k) (zszI k) (zmoI k - 2).toNat).toNat : Nat) : Int) = zpm (zmoI k) (zszI k) (zmoI k - 2).toNat by omega] at h1
  refine ⟨hb, h1, fun c hc1 hc2 hc3 => ?_⟩
  have h3 := h2 c.toNat (List.mem_range.mpr (by omega))
  rw [show ((c.toNat : Nat) : Int) = c by omega, decide_eq_true hc3, decide_eq_false (by omega)] at h3
  exact Bool.noConfusion h3
theorem zfc_qc {pt : Nat → Int} {f : Int → Int} : ∀ m : Nat, (∀ c : Nat, c < m → pt (97 + 5 * c) = f c) → zfc pt m = zqc f m
  | 0, _ => rfl
  | m + 1, h => by
    show zfc pt m + _ = zqc f m + _
    rw [zfc_qc m (fun c hc => h c (by omega)), h m (by omega)]
