/-! a cipher is written, on both sides -/
theorem zSt_at {nn c : Nat} {L : Nat → Int → Int} (hc : c < 16) {i : Int} (h0 : 0 ≤ i) (h1 : i < nn) : ∀ q : Nat, q ≤ 3 → ∀ k : Nat, k < q → zSt nn c L q (97 + 5 * c + 1 + 1 + k) i = L (178 + k) i % 268435399
  | 0, _, k, hk => absurd hk (Nat.not_lt_zero k)
  | q + 1, hq, k, hk => by
    show zRd nn (97 + 5 * c + 1 + 1 + q) (178 + q) (zSt nn c L q) (97 + 5 * c + 1 + 1 + k) i = _
    unfold zRd
    by_cases h : k = q
    · subst h
      rw [zlu_s, zif_l ⟨h0, h1⟩, zSt_o hc k (fun m hm => by omega)]
    · rw [zlu_n (by omega)]
      exact zSt_at hc h0 h1 q (by omega) k (by omega)
theorem zpu_n {f : Nat → Int} {k j : Nat} {v : Int} (h : j ≠ k) : zpu f k v j = f j := if_neg h
section ZST
variable {kd n t zz md tc : Int} {tg pt : Nat → Int} {L R : Nat → Int → Int} {nn : Nat}
theorem zI_st (h : zI kd n t zz md tc tg pt L R nn) (hm : md = 1) {c : Nat} (hc : c < 16) {q : Nat} (hq : q = 2 ∨ q = 3) {X R' : Nat → Int → Int} (e : ∀ j, ¬ zsc j → X j = L j)
    (r : ∀ j, j < 8 → R' j = R j) (r8 : R' 8 = zu (R 8) c q) (r9 : ∀ d k : Nat, d < 16 → k < 3 → d ≠ c → ∀ i : Int, 0 ≤ i → i < 32 → R' 9 ((3 * (d : Int) + k) * 32 + i) = R 9 ((3 * (d : Int) + k) * 32 + i))
    (rb : ∀ j : Int, 0 ≤ j → j < 1536 → 0 ≤ R' 9 j ∧ R' 9 j < 268435399) (rc : ∀ k : Nat, k < q → ∀ i : Int, 0 ≤ i → i < nn → R' 9 ((3 * (c : Int) + k) * 32 + i) = X (178 + k) i % 268435399) :
    zI kd n t zz md tc tg (zpu pt (97 + 5 * c) q) (zSt nn c X q) R' nn := by
  have hn := zI_n32 h
  have hs : ∀ j, j ≤ 95 → j ≠ 85 → j ≠ 86 → zSt nn c X q j = L j := fun j a b d => by
    rw [zSt_o hc q (fun k hk => by omega)]
    exact e j (by unfold zsc; omega)
  obtain ⟨h0, h1, h2, h3, h4, h5, h6⟩ := id h
  refine ⟨h0, zIa_c h1 (hs 2 (by decide) (by decide) (by decide)), zIt_c h2 (r 6 (by decide)), zIs_c h3 (hs 5 (by decide) (by decide) (by decide)) (hs 6 (by decide) (by decide) (by decide)) (hs 7 (by decide) (by decide) (by decide)) (hs 8 (by decide) (by decide) (by decide)) (r 1 (by decide)) (r 2 (by decide)) (r 3 (by decide)), zIk_c h4 (fun j a b => hs j (by omega) (by omega) (by omega)) (r 4 (by decide)) (r 5 (by decide)), zIp_c h5 (fun j a b => hs j (by omega) (by omega) (by omega)) (r 7 (by decide)), ?_⟩
  refine ⟨fun a => absurd (hm.symm.trans a) (by decide), fun d hd => ?_, rb, fun d k hd hk h3 i i0 i1 => ?_⟩
  · rw [r8]
    by_cases hdc : d = c
    · subst hdc
      rw [zpu_s, zu_s]
      exact ⟨rfl, by omega⟩
    · rw [zpu_n (by omega), zu_n (by omega)]
      exact ⟨zI_pt h d hd, zI_p3 h d hd⟩
  · rw [r8] at h3
    by_cases hdc : d = c
    · subst hdc
      rw [zu_s] at h3
      rw [zSt_at hc i0 i1 q (by omega) k (by omega), rc k (by omega) i i0 i1]
    · rw [zu_n (by omega)] at h3
      rw [zSt_o hc q (fun m hm => by omega), e _ (by unfold zsc; omega), r9 d k hd hk hdc i i0 (by omega)]
      exact zI_c h d k hd hk h3 i i0 i1
/-- two parts put -/
theorem zI_st2 (h : zI kd n t zz md tc tg pt L R nn) (hm : md = 1) {c : Nat} (hc : c < 16) {X Y : Nat → Int → Int} {a b : Nat} (ha : 10 ≤ a) (hb : 10 ≤ b) (e : ∀ j, ¬ zsc j → X j = L j) (r : ∀ j, j < 10 → Y j = R j)
    (hA : ∀ i : Int, 0 ≤ i → i < nn → zc (X (178 + 0) i) (Y a i)) (hB : ∀ i : Int, 0 ≤ i → i < nn → zc (X (178 + 1) i) (Y b i)) :
    zI kd n t zz md tc tg (zpu pt (97 + 5 * c) 2) (zSt nn c X 2) (zqP2 nn c a b Y) nn := by
  have hn := zI_n32 h
  have e9 : zqP2 nn c a b Y 9 = zsf ((3 * (c : Int) + 1) * 32) nn (fun i => Y b i % 268435399) (zsf ((3 * (c : Int) + 0) * 32) nn (fun i => Y a i % 268435399) (R 9)) := by
    unfold zqP2 zqPu
    rw [zlu_s, zlu_s, zlu_n (show b ≠ 9 by omega), zlu_n (show b ≠ 8 by omega), zlu_n (show a ≠ 8 by omega), zlu_n (show 9 ≠ 8 by decide), r 9 (by decide)]
    rfl
  refine zI_st (q := 2) h hm hc (Or.inl rfl) e (fun j hj => ?_) ?_ (fun d k hd hk hdc i i0 i1 => ?_) (fun j j0 j1 => ?_) (fun k hk i i0 i1 => ?_)
  · unfold zqP2 zqPu
    rw [zlu_n (by omega), zlu_n (by omega), zlu_n (by omega)]
    exact r j (by omega)
  · unfold zqP2 zqPu
    rw [zlu_n (by decide), zlu_n (by decide), zlu_s, r 8 (by decide)]
    rfl
  · rw [e9, zsf_r (by omega), zsf_r (by omega)]
  · rw [e9]
    unfold zsf
    split
    · exact zqm _
    · split
      · exact zqm _
      · exact zI_pa h j j0 j1
  · rw [e9]
    have : k = 0 ∨ k = 1 := by omega
    rcases this with rfl | rfl
    · rw [zsf_r (by omega), zsf_l (by omega), show (3 * (c : Int) + ((0 : Nat) : Int)) * 32 + i - (3 * (c : Int) + 0) * 32 = i by omega]
      exact (hA i i0 i1).symm
    · rw [zsf_l (by omega), show (3 * (c : Int) + ((1 : Nat) : Int)) * 32 + i - (3 * (c : Int) + 1) * 32 = i by omega]
      exact (hB i i0 i1).symm
theorem zqb_9 {c : Nat} {Y : Nat → Int → Int} (hn : nn ≤ 32) : ∀ m : Nat, m ≤ 3 → (∀ k : Nat, k < m → ∀ i : Int, 0 ≤ i → i < nn → zqb nn c Y m 9 ((3 * (c : Int) + k) * 32 + i) = Y 15 (32 * (k : Int) + i) % 268435399) ∧ (∀ j : Int, j < (3 * (c : Int)) * 32 ∨ (3 * (c : Int) + 3) * 32 ≤ j → zqb nn c Y m 9 j = Y 9 j) ∧ ((∀ j : Int, 0 ≤ j → j < 1536 → 0 ≤ Y 9 j ∧ Y 9 j < 268435399) → ∀ j : Int, 0 ≤ j → j < 1536 → 0 ≤ zqb nn c Y m 9 j ∧ zqb nn c Y m 9 j < 268435399)
  | 0, _ => ⟨fun k hk => absurd hk (Nat.not_lt_zero k), fun _ _ => rfl, fun h => h⟩
  | m + 1, hm => by
    obtain ⟨i1, i2, i3⟩ := zqb_9 (c := c) (Y := Y) hn m (by omega)
    have e9 : zqb nn c Y (m + 1) 9 = zsf ((3 * (c : Int) + m) * 32) nn (fun i => zif nn (fun i => zqb nn c Y m 15 (32 * (m : Int) + i)) (zqb nn c Y m 12) i % 268435399) (zqb nn c Y m 9) := rfl
    rw [e9]
    refine ⟨fun k hk i a b => ?_, fun j hj => ?_, fun h j a b => ?_⟩
    · by_cases hkm : k = m
      · subst hkm
        rw [zsf_l (by omega), show (3 * (c : Int) + (k : Int)) * 32 + i - (3 * (c : Int) + k) * 32 = i by omega, zif_l ⟨a, b⟩, zqb_o (by decide)]
      · rw [zsf_r (by omega)]
        exact i1 k (by omega) i a b
    · rw [zsf_r (by omega)]
      exact i2 j hj
    · unfold zsf
      split
      · exact zqm _
      · exact i3 h j a b
/-- the rows of w put -/
theorem zI_stb (h : zI kd n t zz md tc tg pt L R nn) (hm : md = 1) {c : Nat} (hc : c < 16) {q m : Nat} (hq : q = 2 ∨ q = 3) (hqm : q ≤ m ∧ m ≤ 3) {X Y : Nat → Int → Int} (e : ∀ j, ¬ zsc j → X j = L j) (r : ∀ j, j < 10 → Y j = R j)
    (hA : ∀ k : Nat, k < q → ∀ i : Int, 0 ≤ i → i < nn → zc (X (178 + k) i) (Y 15 (32 * (k : Int) + i))) :
    zI kd n t zz md tc tg (zpu pt (97 + 5 * c) q) (zSt nn c X q) (zqb nn c (zlu Y 8 (zu (Y 8) c q)) m) nn := by
  have hn := zI_n32 h
  obtain ⟨i1, i2, i3⟩ := zqb_9 (c := c) (Y := zlu Y 8 (zu (Y 8) c q)) hn m hqm.2
  have e9 : zlu Y 8 (zu (Y 8) c q) 9 = R 9 := (zlu_n (by decide)).trans (r 9 (by decide))
  rw [e9] at i2 i3
  refine zI_st h hm hc hq e (fun j hj => ?_) ?_ (fun d k hd hk hdc i i0 i1 => ?_) (i3 (zI_pa h)) (fun k hk i i0 j1 => ?_)
  · rw [zqb_o (by omega), zlu_n (by omega)]
    exact r j (by omega)
  · rw [zqb_o (by decide), zlu_s, r 8 (by decide)]
  · exact i2 _ (by omega)
  · rw [i1 k (by omega) i i0 j1]
    exact (hA k hk i i0 j1).symm
end ZST
