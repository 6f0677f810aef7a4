/-! the small calls, on both sides -/
section ZSM
variable {kd n t zz md tc : Int} {tg pt : Nat → Int} {L R L' R' : Nat → Int → Int} {nn : Nat}
/-- one plain is another -/
theorem zI_plain (h : zI kd n t zz md tc tg pt L R nn) {p : Nat} (hp : p < 8) (e : ∀ j, ¬ zsc j → j ≠ 88 + p → L' j = L j) (r : ∀ j, j < 10 → j ≠ 7 → R' j = R j) (e1 : ∀ i : Int, 0 ≤ i → i < 32 → L' (88 + p) i = R' 7 (32 * (p : Int) + i)) (e2 : ∀ j : Int, j < 32 * (p : Int) ∨ 32 * (p : Int) + 32 ≤ j → R' 7 j = R 7 j) (e3 : ∀ i : Int, 0 ≤ i → i < 32 → 0 ≤ R' 7 (32 * (p : Int) + i) ∧ R' 7 (32 * (p : Int) + i) < t) : zI kd n t zz md tc tg pt L' R' nn := by
  have hn : ∀ j, j ≤ 84 ∨ (87 ≤ j ∧ j ≤ 177) → ¬ zsc j := by
    unfold zsc
    intro j
    omega
  obtain ⟨h0, h1, h2, h3, h4, h5, h6⟩ := h
  refine ⟨h0, zIa_c h1 (e 2 (hn 2 (by decide)) (by omega)), zIt_c h2 (r 6 (by decide) (by decide)), zIs_c h3 (e 5 (hn 5 (by decide)) (by omega)) (e 6 (hn 6 (by decide)) (by omega)) (e 7 (hn 7 (by decide)) (by omega)) (e 8 (hn 8 (by decide)) (by omega)) (r 1 (by decide) (by decide)) (r 2 (by decide) (by decide)) (r 3 (by decide) (by decide)), zIk_c h4 (fun j a b => e j (hn j (by omega)) (by omega)) (r 4 (by decide) (by decide)) (r 5 (by decide) (by decide)), ?_, zIc_c h6 (fun j a b => e j (hn j (by omega)) (by omega)) (r 8 (by decide) (by decide)) (r 9 (by decide) (by decide))⟩
  refine ⟨fun q hq i i0 i1 => ?_, fun j j0 j1 => ?_⟩
  · by_cases hpq : q = p
    · subst hpq
      exact e1 i i0 i1
    · rw [e _ (hn _ (by omega)) (by omega), e2 _ (by omega)]
      exact h5.1 q hq i i0 i1
  · by_cases hj : 32 * (p : Int) ≤ j ∧ j < 32 * (p : Int) + 32
    · have := e3 (j - 32 * (p : Int)) (by omega) (by omega)
      rw [show 32 * (p : Int) + (j - 32 * (p : Int)) = j by omega] at this
      exact this
    · rw [e2 j (by omega)]
      exact h5.2 j j0 j1
theorem zI_set (h : zI kd n t zz md tc tg pt L R nn) {p : Nat} (hp : p < 8) {i v : Int} (hi : 0 ≤ i ∧ i < n) : zI kd n t zz md tc tg pt (zlu L (88 + p) (zu (L (88 + p)) i (v % t))) (zlu R 7 (zu (R 7) (32 * (p : Int) + i) (v % t))) nn := by
  have ht := zI_tb h
  refine zI_plain h hp (fun j _ hj => zlu_n hj) (fun j _ hj => zlu_n hj) (fun m m0 m1 => ?_) (fun j hj => ?_) (fun m m0 m1 => ?_)
  · rw [zlu_s, zlu_s]
    by_cases hm : m = i
    · rw [hm, zu_s, zu_s]
    · rw [zu_n hm, zu_n (by omega)]
      exact zI_pl h p hp m m0 m1
  · have := zI_n32 h
    have := zI_n h
    rw [zlu_s, zu_n (by omega)]
  · rw [zlu_s]
    by_cases hm : m = i
    · rw [hm, zu_s]
      exact ⟨Int.emod_nonneg _ (by omega), Int.emod_lt_of_pos _ (by omega)⟩
    · rw [zu_n (by omega)]
      exact zI_pb h _ (by omega) (by omega)
theorem zI_open (h : zI kd n t zz md tc tg pt L R nn) {p c : Nat} (hp : p < 8) (hc : c < 16) {q : Int} (hq : R 8 c = q) (hf : q = 2 ∨ q = 3) : zNz t (zOp nn c p q t L (182 + 0)) nn = zNz t (zqPh nn c R 12) nn ∧ zI kd n t zz md tc tg pt (zOp nn c p q t L) (zqOp nn c p t R) nn := by
  have ht := zI_tb h
  have hn := zI_n32 h
  have h' : zI kd n t zz md tc tg pt L (zqPh nn c R) nn := zI_scr h (fun j _ => rfl) (fun j hj => zqPh_o hj)
  have hq' : zqPh nn c R 8 c = q := by
    rw [zqPh_o (by decide)]
    exact hq
  have e7 : zqPh nn c (zqPh nn c R) 7 = R 7 := by
    rw [zqPh_o (by decide), zqPh_o (by decide)]
  refine ⟨?_, zI_plain h hp (fun j hj hp => ?_) (fun j hj hp => ?_) (fun m m0 m1 => ?_) (fun j hj => ?_) (fun m m0 m1 => ?_)⟩
  · unfold zOp
    rw [zlu_n (by omega)]
    exact zph_n h hc hq hf
  · unfold zsc at hj
    unfold zOp
    rw [zlu_n hp, zPL_o (by omega) (by omega)]
  · unfold zqOp
    rw [zlu_n hp, zqPh_o hj, zqPh_o hj]
  · unfold zOp zqOp
    rw [zlu_s, zlu_s, e7, zPL_o (j := 88 + p) (by omega) (by omega)]
    by_cases hm : m < nn
    · rw [zif_l ⟨m0, hm⟩, zsf_l (by omega), show 32 * (p : Int) + m - 32 * (p : Int) = m by omega, zph_e h' hc hq' hf m0 hm]
    · rw [zif_r (by omega), zsf_r (by omega)]
      exact zI_pl h p hp m m0 m1
  · unfold zqOp
    rw [zlu_s, e7, zsf_r (by omega)]
  · unfold zqOp
    rw [zlu_s, e7]
    by_cases hm : m < nn
    · rw [zsf_l (by omega)]
      exact ⟨Int.emod_nonneg _ (by omega), Int.emod_lt_of_pos _ (by omega)⟩
    · rw [zsf_r (by omega)]
      exact zI_pb h _ (by omega) (by omega)
theorem zI_drop (h : zI kd n t zz md tc tg pt L R nn) {c : Nat} (_hc : c < 16) : zI kd n t zz md tc tg (zpu pt (97 + 5 * c) 0) L (zlu R 8 (zu (R 8) c 0)) nn := by
  obtain ⟨h0, h1, h2, h3, h4, h5, h6⟩ := id h
  refine ⟨h0, h1, zIt_c h2 rfl, zIs_c h3 rfl rfl rfl rfl rfl rfl rfl, zIk_c h4 (fun _ _ _ => rfl) rfl rfl, zIp_c h5 (fun _ _ _ => rfl) rfl, ?_⟩
  refine ⟨fun a d hd => ?_, fun d hd => ?_, h6.2.2.1, fun d k hd hk h3 i i0 i1 => ?_⟩
  · rw [zlu_s]
    by_cases hdc : d = c
    · rw [hdc, zu_s]
    · rw [zu_n (by omega)]
      exact zI_em h a d hd
  · rw [zlu_s]
    by_cases hdc : d = c
    · rw [hdc, zu_s, zpu_s]
      exact ⟨rfl, Or.inl rfl⟩
    · rw [zu_n (by omega), zpu_n (by omega)]
      exact ⟨zI_pt h d hd, zI_p3 h d hd⟩
  · rw [zlu_s] at h3
    by_cases hdc : d = c
    · rw [hdc, zu_s] at h3
      omega
    · rw [zu_n (by omega)] at h3
      exact zI_c h d k hd hk h3 i i0 i1
theorem zpe_at {f : Nat → Int} {c : Nat} : ∀ m : Nat, c < m → zpe f m (97 + 5 * c) = 0
  | 0, h => absurd h (Nat.not_lt_zero c)
  | m + 1, h => by
    show zpu (zpe f m) (97 + 5 * m) 0 (97 + 5 * c) = 0
    by_cases e : c = m
    · rw [e, zpu_s]
    · rw [zpu_n (by omega)]
      exact zpe_at m (by omega)
theorem zIc_0 {md' : Int} {pt' : Nat → Int} (hp : ∀ c : Nat, c < 16 → pt' (97 + 5 * c) = 0) (h8 : ∀ c : Nat, c < 16 → R' 8 c = 0) (h9 : ∀ j : Int, 0 ≤ j → j < 1536 → 0 ≤ R' 9 j ∧ R' 9 j < 268435399) : zIc md' nn pt' L' R' := by
  refine ⟨fun _ => h8, fun c hc => ⟨(hp c hc).trans (h8 c hc).symm, Or.inl (h8 c hc)⟩, h9, fun c k hc hk h3 => ?_⟩
  rw [h8 c hc] at h3
  omega
theorem zPf_o {L : Nat → Int → Int} {j : Nat} : ∀ m : Nat, (∀ k, k < m → j ≠ 88 + k) → zPf L m j = L j
  | 0, _ => rfl
  | m + 1, h => by
    show zFl (88 + m) 0 (zPf L m) j = _
    unfold zFl
    rw [zlu_n (h m (Nat.lt_succ_self m))]
    exact zPf_o m (fun k hk => h k (by omega))
theorem zPf_at {L : Nat → Int → Int} {p : Nat} {i : Int} (hi : 0 ≤ i ∧ i < 32) : ∀ m : Nat, p < m → zPf L m (88 + p) i = 0
  | 0, h => absurd h (Nat.not_lt_zero p)
  | m + 1, h => by
    show zFl (88 + m) 0 (zPf L m) (88 + p) i = 0
    unfold zFl
    by_cases e : p = m
    · rw [e, zlu_s, zif_l hi]
    · rw [zlu_n (by omega)]
      exact zPf_at hi m (by omega)
theorem zI_begin (h : zI kd n t zz md tc tg pt L R nn) {k : Int} (hk : 0 ≤ k ∧ k ≤ 2) : zI k (zszI k) (zmoI k) (zlr (zmoI k) (zszI k).toNat 1000 2) 0 0 tg (zpe pt 16) (zPf (zlu L 2 (zPw k L)) 8) (zlu (zlu R 8 (zif 16 (fun _ => 0) (R 8))) 7 (zif ((256 : Nat) : Int) (fun _ => 0) (R 7))) (zszI k).toNat := by
  have hki := zki hk
  obtain ⟨h0, h1, h2, h3, h4, h5, h6⟩ := id h
  have lo : ∀ j, j ≠ 2 → j < 88 ∨ 96 ≤ j → zPf (zlu L 2 (zPw k L)) 8 j = L j := fun j h2 hj => by
    rw [zPf_o 8 (fun k hk => by omega), zlu_n h2]
  refine ⟨Or.inl rfl, ⟨hk, by omega, rfl, rfl, rfl, fun j j0 j1 => ?_⟩, ⟨by decide, h2.2.1, h2.2.2.1, fun p hp => ?_⟩, ⟨?_, ?_, ?_, ?_⟩, zIk_c h4 (fun j a b => lo j (by omega) (by omega)) rfl rfl, ⟨fun p hp i i0 i1 => ?_, fun j j0 j1 => ?_⟩, zIc_0 (fun c hc => zpe_at 16 hc) (fun c hc => ?_) h6.2.2.1⟩
  · rw [zPf_o 8 (fun k hk => by omega), zlu_s]
    unfold zPw
    rw [zif_l ⟨j0, j1⟩]
  · omega
  · rw [lo 5 (by decide) (by decide)]
    exact h3.1
  · intro a
    exact absurd a (by decide)
  · rw [lo 7 (by decide) (by decide)]
    exact h3.2.2.1
  · rw [lo 8 (by decide) (by decide)]
    exact h3.2.2.2
  · rw [zPf_at ⟨i0, i1⟩ 8 hp, zlu_s, zif_l (by omega)]
  · rw [zlu_s, zif_l (by omega)]
    omega
  · rw [zlu_n (by decide), zlu_s, zif_l (by omega)]
end ZSM
