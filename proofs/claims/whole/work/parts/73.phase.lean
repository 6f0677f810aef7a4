/-! the phase, on both sides -/
theorem zAp_at {nn s a b : Nat} {L : Nat → Int → Int} {i : Int} (h0 : 0 ≤ i) (h1 : i < nn) : zAp nn s a b L s i = L s i + zMl nn (L a) (L b) i := by
  unfold zAp zap
  rw [zlu_s, if_pos ⟨h0, h1⟩, zcp_M ⟨h0, h1⟩]
theorem zAp_o {nn s a b j : Nat} {L : Nat → Int → Int} (h : j ≠ s) : zAp nn s a b L j = L j := zlu_n h
theorem zCy_at {nn s a : Nat} {L : Nat → Int → Int} {i : Int} (h0 : 0 ≤ i) (h1 : i < nn) : zCy nn s a L s i = L a i := by
  unfold zCy
  rw [zlu_s, zif_l ⟨h0, h1⟩]
theorem zCy_o {nn s a j : Nat} {L : Nat → Int → Int} (h : j ≠ s) : zCy nn s a L j = L j := zlu_n h
theorem zPs_2 {nn c : Nat} {p : Int} {L : Nat → Int → Int} {i : Int} (hp : ¬ p = 3) (h0 : 0 ≤ i) (h1 : i < nn) : zPs nn c p L 85 i = L (97 + 5 * c + 1 + 1 + 0) i + zMl nn (L 5) (L (97 + 5 * c + 1 + 1 + 1)) i := by
  unfold zPs
  rw [if_neg hp, zAp_at h0 h1, zCy_at h0 h1, zCy_o (by omega), zCy_o (by omega)]
theorem zPs_3 {nn c : Nat} {L : Nat → Int → Int} {i : Int} (h0 : 0 ≤ i) (h1 : i < nn) : zPs nn c 3 L 85 i = L (97 + 5 * c + 1 + 1 + 0) i + zMl nn (L 5) (L (97 + 5 * c + 1 + 1 + 1)) i + zMl nn (L 6) (L (97 + 5 * c + 1 + 1 + 2)) i := by
  unfold zPs
  rw [if_pos rfl, zAp_at h0 h1, zAp_at h0 h1, zCy_at h0 h1, zCy_o (by omega), zCy_o (by omega), zAp_o (by omega), zAp_o (by omega), zCy_o (by omega), zCy_o (by omega)]
theorem zPL_o {nn c j : Nat} {p : Int} {L : Nat → Int → Int} (h : j ≠ 85) (h2 : j ≠ 182) : zPL nn c p L j = L j := by
  unfold zPL zCe
  rw [zlu_n (by omega)]
  unfold zPs
  split
  · rw [zAp_o h, zAp_o h, zCy_o h]
  · rw [zAp_o h, zCy_o h]
theorem zM_z {n : Nat} {f g : Int → Int} {k : Int} (h : ∀ j : Nat, j < n → f j = 0) : zMl n f g k = 0 := by
  unfold zMl
  rw [zS_c (H := fun _ => 0) n (fun j hj => by show f j * _ = 0; rw [h j hj, Int.zero_mul]), zS_zero]
theorem zM_c {n : Nat} {f g f' g' : Int → Int} {k : Int} (h : ∀ j : Int, 0 ≤ j → j < n → f j = f' j) (h2 : ∀ j : Int, 0 ≤ j → j < n → g j = g' j) : zMl n f g k = zMl n f' g' k := by
  refine zS_c n (fun j hj => ?_)
  show f j * zE n g (k - j) = f' j * zE n g' (k - j)
  rw [h j (by omega) (by omega)]
  unfold zE
  rw [h2 _ (Int.emod_nonneg _ (by omega)) (Int.emod_lt_of_pos _ (by omega))]
/-- the reference's phase, modulo Q -/
theorem zqh_c {nn c : Nat} {R : Nat → Int → Int} {i : Int} (h0 : 0 ≤ i) (h1 : i < nn) : zc (zqh4 nn c R 12 i + zqh4 nn c R 11 i) (zqT c 0 R i + zMl nn (zqT c 1 R) (R 1) i + zMl nn (zMl nn (zqT c 2 R) (R 1)) (R 1) i) := by
  have e1 : zqh4 nn c R 12 i = zqT c 0 R i + zrd nn (zif nn (zqT c 1 R) (R 10)) (R 1) i nn % 268435399 := by
    show zqh2 nn c R 12 i = _
    unfold zqh2 zqAd
    rw [zlu_s, zif_l ⟨h0, h1⟩]
    have a1 : zqh1 nn c R 12 i = zif nn (zqT c 0 R) (R 12) i := rfl
    have a2 : zqh1 nn c R 11 i = zif nn (fun i => zrd nn (zif nn (zqT c 1 R) (R 10)) (R 1) i nn % 268435399) (R 11) i := rfl
    rw [a1, a2, zif_l ⟨h0, h1⟩, zif_l ⟨h0, h1⟩]
  have e2 : ∀ j : Int, 0 ≤ j → j < nn → zqh3 nn c R 11 j = zrd nn (zif nn (zqT c 2 R) (zqh2 nn c R 10)) (R 1) j nn % 268435399 := fun j a b => by
    show zif nn (fun i => zrd nn (zif nn (zqT c 2 R) (zqh2 nn c R 10)) (R 1) i nn % 268435399) (zqh2 nn c R 11) j = _
    rw [zif_l ⟨a, b⟩]
  have e3 : zqh4 nn c R 11 i = zrd nn (zif nn (zqh3 nn c R 11) (zqh3 nn c R 10)) (R 1) i nn % 268435399 := by
    show zif nn (fun i => zrd nn (zif nn (zqh3 nn c R 11) (zqh3 nn c R 10)) (R 1) i nn % 268435399) (zqh3 nn c R 11) i = _
    rw [zif_l ⟨h0, h1⟩]
  rw [e1, e3]
  refine zc_add (zc_add zc_r ?_) ?_
  · refine zc_t (zrd_M ⟨h0, h1⟩) (zc_M (fun j a b => ?_) (fun j _ _ => zc_r))
    rw [zif_l ⟨a, b⟩]
    exact zc_r
  · refine zc_t (zrd_M ⟨h0, h1⟩) (zc_M (fun j a b => ?_) (fun j _ _ => zc_r))
    rw [zif_l ⟨a, b⟩, e2 j a b]
    refine zc_t (zrd_M ⟨a, b⟩) (zc_M (fun j a b => ?_) (fun j _ _ => zc_r))
    rw [zif_l ⟨a, b⟩]
    exact zc_r
section ZPH
variable {kd n t zz md tc : Int} {tg pt : Nat → Int} {L R : Nat → Int → Int} {nn : Nat}
theorem zph_c (h : zI kd n t zz md tc tg pt L R nn) {c : Nat} (hc : c < 16) {q : Int} (hq : R 8 c = q) (hf : q = 2 ∨ q = 3) {i : Int} (h0 : 0 ≤ i) (h1 : i < nn) : zc (zPs nn c q L 85 i) (zqh4 nn c R 12 i + zqh4 nn c R 11 i) := by
  have hn := zI_n32 h
  refine zc_t ?_ (zc_s (zqh_c h0 h1))
  have t0 : zqT c 0 R i = L (97 + 5 * c + 1 + 1 + 0) i := zI_take h hc (by decide) (by omega) h0 h1
  have t1 : ∀ k : Int, 0 ≤ k → zMl nn (zqT c 1 R) (R 1) k = zMl nn (L 5) (L (97 + 5 * c + 1 + 1 + 1)) k := fun k hk => by
    rw [zM_comm hk]
    exact zM_c (fun j a b => (zI_s h j a (by omega)).symm) (fun j a b => zI_take h hc (by decide) (by omega) a b)
  rcases hf with e | e
  · rw [zPs_2 (by omega) h0 h1, t0, t1 i h0, zM_z (f := zMl nn (zqT c 2 R) (R 1)), Int.add_zero]
    · exact zc_r
    · intro j hj
      refine zM_z (fun k _ => ?_)
      unfold zqT
      exact if_neg (by omega)
  · subst e
    have t2 : zMl nn (zMl nn (zqT c 2 R) (R 1)) (R 1) i = zMl nn (L 6) (L (97 + 5 * c + 1 + 1 + 2)) i := by
      have hm : md = 1 := zI_full h hc (by omega)
      rw [zM_assoc (f := zqT c 2 R) (g := R 1) (h := R 1) (q := L 6) (fun j _ _ => rfl) (fun j a b => by
        rw [zI_sq h hm j a b]
        exact zM_c (fun j a b => zI_s h j a (by omega)) (fun j a b => zI_s h j a (by omega))), zM_comm h0]
      exact zM_c (fun j _ _ => rfl) (fun j a b => zI_take h hc (by decide) (by omega) a b)
    rw [zPs_3 h0 h1, t0, t1 i h0, t2]
    exact zc_r
theorem zph_e (h : zI kd n t zz md tc tg pt L R nn) {c : Nat} (hc : c < 16) {q : Int} (hq : R 8 c = q) (hf : q = 2 ∨ q = 3) {i : Int} (h0 : 0 ≤ i) (h1 : i < nn) : zPL nn c q L (182 + 0) i = zqPh nn c R 12 i := by
  unfold zPL zCe zqPh
  rw [zlu_s, zlu_s, zif_l ⟨h0, h1⟩, zif_l ⟨h0, h1⟩]
  exact zc_ct (zph_c h hc hq hf h0 h1)
theorem zM_b {f g : Int → Int} {A B i : Int} (hn : nn ≤ 32) (h0 : 0 ≤ i) (h1 : i < nn) (ha : ∀ j : Int, 0 ≤ j → j < nn → -A ≤ f j ∧ f j ≤ A) (hb : ∀ j : Int, 0 ≤ j → j < nn → -B ≤ g j ∧ g j ≤ B) : -(A * B * 32) ≤ zMl nn f g i ∧ zMl nn f g i ≤ A * B * 32 := by
  rw [← zcp_M ⟨h0, h1⟩]
  have h := zcp_b (n := nn) ⟨h0, h1⟩ ha hb nn (Nat.le_refl nn)
  have hA : 0 ≤ A := by have := ha i h0 h1; omega
  have hB : 0 ≤ B := by have := hb i h0 h1; omega
  have h2 : A * B * (nn : Int) ≤ A * B * 32 := Int.mul_le_mul_of_nonneg_left (by omega) (Int.mul_nonneg hA hB)
  omega
theorem zI_s1 (h : zI kd n t zz md tc tg pt L R nn) : ∀ j : Int, 0 ≤ j → j < nn → -1 ≤ L 5 j ∧ L 5 j ≤ 1 := fun j a b => by
  have hn := zI_n32 h
  rw [zI_s h j a (by omega)]
  exact zI_sb h j a (by omega)
theorem zI_s2 (h : zI kd n t zz md tc tg pt L R nn) (hm : md = 1) : ∀ j : Int, 0 ≤ j → j < nn → -32 ≤ L 6 j ∧ L 6 j ≤ 32 := fun j a b => by
  rw [zI_sq h hm j a b]
  exact zM_b (A := 1) (B := 1) (zI_n32 h) a b (zI_s1 h) (zI_s1 h)
theorem zph_b (h : zI kd n t zz md tc tg pt L R nn) {c : Nat} (hc : c < 16) {q : Int} (hq : R 8 c = q) (hf : q = 2 ∨ q = 3) (i : Nat) (h1 : i < nn) : -9223372036854775808 ≤ zPs nn c q L 85 i ∧ zPs nn c q L 85 i < 9223372036854775808 := by
  have hb : ∀ k : Nat, k < 3 → (k : Int) < R 8 c → ∀ j : Int, 0 ≤ j → j < nn → -268435399 ≤ L (97 + 5 * c + 1 + 1 + k) j ∧ L (97 + 5 * c + 1 + 1 + k) j ≤ 268435399 := fun k hk h3 j a b => by
    have := zI_cb h hc hk h3 a b
    omega
  have b0 := hb 0 (by decide) (by omega) i (by omega) (by omega)
  have b1 := zM_b (A := 1) (B := 268435399) (i := i) (zI_n32 h) (by omega) (by omega) (zI_s1 h) (hb 1 (by decide) (by omega))
  rcases hf with e | e
  · rw [zPs_2 (by omega) (by omega) (by omega)]
    omega
  · subst e
    have b2 := zM_b (A := 32) (B := 268435399) (i := i) (zI_n32 h) (by omega) (by omega) (zI_s2 h (zI_full h hc (by omega))) (hb 2 (by decide) (by omega))
    rw [zPs_3 (by omega) (by omega)]
    omega
/-- noise, on both sides -/
theorem zph_n (h : zI kd n t zz md tc tg pt L R nn) {c : Nat} (hc : c < 16) {q : Int} (hq : R 8 c = q) (hf : q = 2 ∨ q = 3) : zNz t (zPL nn c q L (182 + 0)) nn = zNz t (zqPh nn c R 12) nn := zNz_c nn (fun j hj => zph_e h hc hq hf (by omega) (by omega))
theorem zqPh_o {nn c j : Nat} {R : Nat → Int → Int} (h : j < 10) : zqPh nn c R j = R j := by
  unfold zqPh zqh4 zqh3 zqh2 zqh1 zqRd zqTk zqAd zCy
  repeat rw [zlu_n (by omega)]
theorem zI_ph (h : zI kd n t zz md tc tg pt L R nn) (c : Nat) (q : Int) : zI kd n t zz md tc tg pt (zPL nn c q L) (zqPh nn c R) nn :=
  zI_scr h (fun j hj => zPL_o (by unfold zsc at hj; omega) (by unfold zsc at hj; omega)) (fun j hj => zqPh_o hj)
end ZPH
