/-! join of the reference: what it does to the rows -/
def zqZ (nn : Nat) (X : Nat → Int → Int) : Nat → Int → Int := zlu X 12 (zif nn (fun _ => 0) (X 12))
def zqj1 (nn l r k : Nat) (X : Nat → Int → Int) : Nat → Int → Int := zqTk nn r k 11 (zqTk nn l k 10 (zqZ nn X))
def zqjF (o : Nat) (X : Nat → Int → Int) (i : Int) : Int := if o = 0 then X 10 i + X 11 i else X 10 i - X 11 i
def zqj2 (nn o : Nat) (X : Nat → Int → Int) : Nat → Int → Int := zlu X 12 (zif nn (zqjF o X) (X 12))
def zqJ (nn l r o : Nat) (L : Nat → Int → Int) : Nat → Nat → Int → Int
  | 0 => L
  | k + 1 => zqw nn k (zqj2 nn o (zqj1 nn l r k (zqJ nn l r o L k)))
def zqjc (nn c k d : Nat) (X : Nat → Int → Int) : Nat → Int → Int := zqCe nn d (zqTk nn c k d X)
def zqjp (nn : Nat) (X : Nat → Int → Int) : Nat → Int → Int := zlu X 13 (zif nn (fun i => zcp nn (X 10) (X 11) i nn) (X 13))
def zqjP (nn l a r b : Nat) (X : Nat → Int → Int) : Nat → Int → Int := zqAd nn 12 13 (zqjp nn (zqjc nn r b 11 (zqjc nn l a 10 X)))
def zqjS (nn : Nat) (t : Int) (X : Nat → Int → Int) : Nat → Int → Int := zlu X 12 (zif nn (fun i => zts t (X 12 i)) (X 12))
def zqM0 (nn l r : Nat) (t : Int) (L : Nat → Int → Int) : Nat → Int → Int := zqw nn 0 (zqjS nn t (zqjP nn l 0 r 0 (zqZ nn L)))
def zqM1 (nn l r : Nat) (t : Int) (L : Nat → Int → Int) : Nat → Int → Int := zqw nn 1 (zqjS nn t (zqjP nn l 1 r 0 (zqjP nn l 0 r 1 (zqZ nn L))))
def zqM2 (nn l r : Nat) (t : Int) (L : Nat → Int → Int) : Nat → Int → Int := zqw nn 2 (zqjS nn t (zqjP nn l 1 r 1 (zqZ nn L)))
theorem zqj_o {nn l r k o j : Nat} {X : Nat → Int → Int} (h : j ≠ 10 ∧ j ≠ 11 ∧ j ≠ 12) : zqj2 nn o (zqj1 nn l r k X) j = X j := by
  unfold zqj2 zqj1 zqTk zqZ
  rw [zlu_n (by omega), zlu_n (by omega), zlu_n (by omega), zlu_n (by omega)]
theorem zqw_o {nn k j : Nat} {X : Nat → Int → Int} (h : j ≠ 15) : zqw nn k X j = X j := zlu_n h
theorem zqJ_o {nn l r o j : Nat} {L : Nat → Int → Int} (h : j ≠ 10 ∧ j ≠ 11 ∧ j ≠ 12 ∧ j ≠ 15) : ∀ k, zqJ nn l r o L k j = L j
  | 0 => rfl
  | k + 1 => by
    show zqw nn k (zqj2 nn o (zqj1 nn l r k (zqJ nn l r o L k))) j = _
    rw [zqw_o (by omega), zqj_o (by omega)]
    exact zqJ_o h k
theorem zqjP_o {nn l a r b j : Nat} {X : Nat → Int → Int} (h : j ≠ 10 ∧ j ≠ 11 ∧ j ≠ 12 ∧ j ≠ 13) : zqjP nn l a r b X j = X j := by
  unfold zqjP zqAd zqjp zqjc zqCe zqTk
  rw [zlu_n (by omega), zlu_n (by omega), zlu_n (by omega), zlu_n (by omega), zlu_n (by omega), zlu_n (by omega)]
theorem zqjS_o {nn j : Nat} {t : Int} {X : Nat → Int → Int} (h : j ≠ 12) : zqjS nn t X j = X j := zlu_n h
theorem zqZ_o {nn j : Nat} {X : Nat → Int → Int} (h : j ≠ 12) : zqZ nn X j = X j := zlu_n h
theorem zqM0_o {nn l r j : Nat} {t : Int} {L : Nat → Int → Int} (h : j ≠ 10 ∧ j ≠ 11 ∧ j ≠ 12 ∧ j ≠ 13 ∧ j ≠ 15) : zqM0 nn l r t L j = L j := by
  unfold zqM0
  rw [zqw_o (by omega), zqjS_o (by omega), zqjP_o (by omega), zqZ_o (by omega)]
theorem zqM1_o {nn l r j : Nat} {t : Int} {L : Nat → Int → Int} (h : j ≠ 10 ∧ j ≠ 11 ∧ j ≠ 12 ∧ j ≠ 13 ∧ j ≠ 15) : zqM1 nn l r t L j = L j := by
  unfold zqM1
  rw [zqw_o (by omega), zqjS_o (by omega), zqjP_o (by omega), zqjP_o (by omega), zqZ_o (by omega)]
theorem zqM2_o {nn l r j : Nat} {t : Int} {L : Nat → Int → Int} (h : j ≠ 10 ∧ j ≠ 11 ∧ j ≠ 12 ∧ j ≠ 13 ∧ j ≠ 15) : zqM2 nn l r t L j = L j := by
  unfold zqM2
  rw [zqw_o (by omega), zqjS_o (by omega), zqjP_o (by omega), zqZ_o (by omega)]
/-! join, on both sides -/
theorem zqj2_12 {nn l r k o : Nat} {X : Nat → Int → Int} {i : Int} (h : 0 ≤ i ∧ i < nn) : zqj2 nn o (zqj1 nn l r k X) 12 i = if o = 0 then zqT l k X i + zqT r k X i else zqT l k X i - zqT r k X i := by
  unfold zqj2
  rw [zlu_s, zif_l h]
  unfold zqjF
  have e1 : zqj1 nn l r k X 10 i = zif nn (zqT l k X) (X 10) i := rfl
  have e2 : zqj1 nn l r k X 11 i = zif nn (zqT r k X) (X 11) i := rfl
  rw [e1, e2, zif_l h, zif_l h]
theorem zqJ_15 {nn l r o : Nat} {R : Nat → Int → Int} (hn : nn ≤ 32) {i : Int} (h0 : 0 ≤ i) (h1 : i < nn) : ∀ m : Nat, m ≤ 3 → ∀ k : Nat, k < m → zqJ nn l r o R m 15 (32 * (k : Int) + i) = if o = 0 then zqT l k R i + zqT r k R i else zqT l k R i - zqT r k R i
  | 0, _, k, hk => absurd hk (Nat.not_lt_zero k)
  | m + 1, hm, k, hk => by
    show zqw nn m (zqj2 nn o (zqj1 nn l r m (zqJ nn l r o R m))) 15 (32 * (k : Int) + i) = _
    rw [zqw_15]
    by_cases e : k = m
    · subst e
      rw [zsf_l (by omega), show 32 * (k : Int) + i - 32 * (k : Int) = i by omega, zqj2_12 ⟨h0, h1⟩, zqT_c (Y := R) (zqJ_o (by decide) k) (zqJ_o (by decide) k), zqT_c (c := r) (Y := R) (zqJ_o (by decide) k) (zqJ_o (by decide) k)]
    · rw [zsf_r (by omega), zqj_o (by decide)]
      exact zqJ_15 hn h0 h1 m (by omega) k (by omega)
theorem zCm_o {nn l r j : Nat} {pl pr f : Int} {L : Nat → Int → Int} : ∀ m : Nat, (∀ k, k < m → j ≠ 178 + k) → zCm nn l r pl pr f L m j = L j
  | 0, _ => rfl
  | m + 1, h => by
    have hm := h m (Nat.lt_succ_self m)
    show (fun X => if (m : Int) < pr then zAs nn (178 + m) (97 + 5 * r + 1 + 1 + m) f X else X) ((fun X => if (m : Int) < pl then zAs nn (178 + m) (97 + 5 * l + 1 + 1 + m) 1 X else X) (zFl (178 + m) 0 (zCm nn l r pl pr f L m))) j = _
    have e : (fun X => if (m : Int) < pl then zAs nn (178 + m) (97 + 5 * l + 1 + 1 + m) 1 X else X) (zFl (178 + m) 0 (zCm nn l r pl pr f L m)) j = L j := by
      dsimp only
      split
      · rw [zAs_o hm, zFl_o hm]
        exact zCm_o m (fun k hk => h k (by omega))
      · rw [zFl_o hm]
        exact zCm_o m (fun k hk => h k (by omega))
    generalize (fun X => if (m : Int) < pl then zAs nn (178 + m) (97 + 5 * l + 1 + 1 + m) 1 X else X) (zFl (178 + m) 0 (zCm nn l r pl pr f L m)) = Y at e ⊢
    dsimp only
    split
    · rw [zAs_o hm]
      exact e
    · exact e
theorem zCm_at {nn l r : Nat} {pl pr f : Int} {L : Nat → Int → Int} (hn : nn ≤ 32) (hl : l < 16) (hr : r < 16) {i : Int} (h0 : 0 ≤ i) (h1 : i < nn) : ∀ m : Nat, m ≤ 3 → ∀ k : Nat, k < m → zCm nn l r pl pr f L m (178 + k) i = (if (k : Int) < pl then L (97 + 5 * l + 1 + 1 + k) i else 0) + f * (if (k : Int) < pr then L (97 + 5 * r + 1 + 1 + k) i else 0)
  | 0, _, k, hk => absurd hk (Nat.not_lt_zero k)
  | m + 1, hm3, k, hk => by
    show (fun X => if (m : Int) < pr then zAs nn (178 + m) (97 + 5 * r + 1 + 1 + m) f X else X) ((fun X => if (m : Int) < pl then zAs nn (178 + m) (97 + 5 * l + 1 + 1 + m) 1 X else X) (zFl (178 + m) 0 (zCm nn l r pl pr f L m))) (178 + k) i = _
    by_cases e : k = m
    · subst e
      have a0 : zFl (178 + k) 0 (zCm nn l r pl pr f L k) (178 + k) i = 0 := zFl_at (by omega)
      have al : zFl (178 + k) 0 (zCm nn l r pl pr f L k) (97 + 5 * l + 1 + 1 + k) = L (97 + 5 * l + 1 + 1 + k) := by
        rw [zFl_o (by omega), zCm_o k (fun m hm => by omega)]
      have ar : zFl (178 + k) 0 (zCm nn l r pl pr f L k) (97 + 5 * r + 1 + 1 + k) = L (97 + 5 * r + 1 + 1 + k) := by
        rw [zFl_o (by omega), zCm_o k (fun m hm => by omega)]
      generalize zFl (178 + k) 0 (zCm nn l r pl pr f L k) = Y at *
      have b0 : (fun X => if (k : Int) < pl then zAs nn (178 + k) (97 + 5 * l + 1 + 1 + k) 1 X else X) Y (178 + k) i = if (k : Int) < pl then L (97 + 5 * l + 1 + 1 + k) i else 0 := by
        dsimp only
        split
        · rw [zAs_at h0 h1, a0, al]
          omega
        · exact a0
      have br : (fun X => if (k : Int) < pl then zAs nn (178 + k) (97 + 5 * l + 1 + 1 + k) 1 X else X) Y (97 + 5 * r + 1 + 1 + k) = L (97 + 5 * r + 1 + 1 + k) := by
        dsimp only
        split
        · rw [zAs_o (by omega), ar]
        · exact ar
      generalize (fun X => if (k : Int) < pl then zAs nn (178 + k) (97 + 5 * l + 1 + 1 + k) 1 X else X) Y = Z at *
      dsimp only
      split
      · rw [zAs_at h0 h1, b0, br]
      · rw [b0, Int.mul_zero, Int.add_zero]
    · have b0 : (fun X => if (m : Int) < pl then zAs nn (178 + m) (97 + 5 * l + 1 + 1 + m) 1 X else X) (zFl (178 + m) 0 (zCm nn l r pl pr f L m)) (178 + k) = zCm nn l r pl pr f L m (178 + k) := by
        dsimp only
        split
        · rw [zAs_o (by omega), zFl_o (by omega)]
        · rw [zFl_o (by omega)]
      have ih := zCm_at (f := f) (pl := pl) (pr := pr) (L := L) hn hl hr h0 h1 m (by omega) k (by omega)
      generalize (fun X => if (m : Int) < pl then zAs nn (178 + m) (97 + 5 * l + 1 + 1 + m) 1 X else X) (zFl (178 + m) 0 (zCm nn l r pl pr f L m)) = Z at *
      dsimp only
      split
      · rw [zAs_o (by omega), b0]
        exact ih
      · rw [b0]
        exact ih
section ZJN
variable {kd n t zz md tc : Int} {tg pt : Nat → Int} {L R : Nat → Int → Int} {nn : Nat}
theorem zI_join01 (h : zI kd n t zz md tc tg pt L R nn) {c l r m o : Nat} {f : Int} (hf : o = 0 ∧ f = 1 ∨ o = 1 ∧ f = -1) (hc : c < 16) (hl : l < 16) (hr : r < 16) (h1 : ¬ R 8 l = 0) (h2 : ¬ R 8 r = 0) (hm : (if R 8 l < R 8 r then R 8 r else R 8 l) = (m : Int)) :
    (m = 2 ∨ m = 3) ∧
    (∀ k : Nat, k < m → ∀ i : Nat, i < nn → -9223372036854775808 ≤ zCm nn l r (R 8 l) (R 8 r) f L m (178 + k) i ∧ zCm nn l r (R 8 l) (R 8 r) f L m (178 + k) i < 9223372036854775808) ∧
    (∀ k : Nat, k < 3 → ∀ i : Nat, i < nn → -9223372036854775808 ≤ zqJ nn l r o R 3 15 (32 * (k : Int) + i) ∧ zqJ nn l r o R 3 15 (32 * (k : Int) + i) < 9223372036854775808) ∧
    zI kd n t zz md tc tg (zpu pt (97 + 5 * c) m) (zSt nn c (zCm nn l r (R 8 l) (R 8 r) f L m) m) (zqb nn c (zlu (zqJ nn l r o R 3) 8 (zu (zqJ nn l r o R 3 8) c m)) 3) nn := by
  have hn := zI_n32 h
  have p1 := zI_p3 h l hl
  have p2 := zI_p3 h r hr
  have hmd := zI_full h hl h1
  have hm23 : m = 2 ∨ m = 3 := by
    split at hm <;> omega
  have tk : ∀ d : Nat, d < 16 → ∀ k : Nat, k < 3 → ∀ i : Int, 0 ≤ i → i < nn → (if (k : Int) < R 8 d then L (97 + 5 * d + 1 + 1 + k) i else 0) = zqT d k R i := fun d hd k hk i a b => by
    by_cases e : (k : Int) < R 8 d
    · rw [if_pos e, zI_take h hd hk e a b]
    · unfold zqT
      rw [if_neg e, if_neg e]
  have tb : ∀ d : Nat, d < 16 → ∀ k : Nat, k < 3 → ∀ i : Int, 0 ≤ i → i < nn → 0 ≤ zqT d k R i ∧ zqT d k R i < 268435399 := fun d hd k hk i a b => by
    unfold zqT
    split
    · exact zI_pa h _ (by omega) (by omega)
    · decide
  have eqs : ∀ x y : Int, x + f * y = if o = 0 then x + y else x - y := fun x y => by
    rcases hf with ⟨rfl, rfl⟩ | ⟨rfl, rfl⟩
    · rw [if_pos rfl]
      omega
    · rw [if_neg (by decide)]
      omega
  have bd : ∀ k : Nat, k < 3 → ∀ i : Nat, i < nn → -9223372036854775808 ≤ (if o = 0 then zqT l k R i + zqT r k R i else zqT l k R i - zqT r k R i) ∧ (if o = 0 then zqT l k R i + zqT r k R i else zqT l k R i - zqT r k R i) < 9223372036854775808 := fun k hk i hi => by
    have b1 := tb l hl k hk i (by omega) (by omega)
    have b2 := tb r hr k hk i (by omega) (by omega)
    generalize zqT l k R i = x at *
    generalize zqT r k R i = y at *
    split <;> omega
  refine ⟨hm23, fun k hk i hi => ?_, fun k hk i hi => ?_, zI_stb h hmd hc hm23 ⟨by omega, by omega⟩ (fun j hj => ?_) (fun j hj => zqJ_o (by omega) 3) (fun k hk i a b => ?_)⟩
  · rw [zCm_at hn hl hr (by omega) (by omega) m (by omega) k hk, tk l hl k (by omega) i (by omega) (by omega), tk r hr k (by omega) i (by omega) (by omega), eqs]
    exact bd k (by omega) i hi
  · rw [zqJ_15 hn (by omega) (by omega) 3 (by omega) k hk]
    exact bd k hk i hi
  · unfold zsc at hj
    rw [zCm_o m (fun k hk => by omega)]
  · rw [zCm_at hn hl hr a b m (by omega) k hk, tk l hl k (by omega) i a b, tk r hr k (by omega) i a b, eqs, zqJ_15 hn a b 3 (by omega) k (by omega)]
    exact zc_r
end ZJN
