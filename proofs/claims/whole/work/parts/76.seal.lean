/-! seal, shrink, turn: both sides do the same -/
theorem zc_l1 {m s e : Int} (h : zc s m) : zc (e + m) (s + e) := by
  unfold zc at *
  omega
theorem zc_l2 {m s e y : Int} (h : zc s m) : zc (e + m + y) (s + (e + y)) := by
  unfold zc at *
  omega
theorem zb64 {x : Int} (h : -(1000000000 + 300000000000 * ((6 : Nat) : Int)) ≤ x ∧ x ≤ 1000000000 + 300000000000 * ((6 : Nat) : Int)) : -9223372036854775808 ≤ x ∧ x < 9223372036854775808 := by
  omega
theorem zAs_at {nn s a : Nat} {f : Int} {L : Nat → Int → Int} {i : Int} (h0 : 0 ≤ i) (h1 : i < nn) : zAs nn s a f L s i = L s i + f * L a i := by
  unfold zAs
  rw [zlu_s, zif_l ⟨h0, h1⟩]
theorem zAs_o {nn s a j : Nat} {f : Int} {L : Nat → Int → Int} (h : j ≠ s) : zAs nn s a f L j = L j := zlu_n h
section ZSE
variable {nn : Nat} {L R : Nat → Int → Int} {t : Int} {ch : Int32} {p : Nat}
theorem zSe_0 {i : Int} (hp : p < 8) (h0 : 0 ≤ i) (h1 : i < nn) : zSe nn ch p t L (178 + 0) i = zrE (zlcN ch nn) i + zMl nn (L 7) (zrT ch) i + 268435399 / t * L (88 + p) i := by
  unfold zSe
  rw [zAp_o (by decide), zAs_at h0 h1, zAp_at h0 h1, zAp_o (show 88 + p ≠ 178 + 0 by omega), zlu_n (show 178 + 0 ≠ 178 + 1 by decide), zlu_s, zif_l ⟨h0, h1⟩, zlu_n (show 7 ≠ 178 + 1 by decide), zlu_n (show 7 ≠ 178 + 0 by decide), zlu_n (show 7 ≠ 182 + 0 by decide), zlu_n (show 182 + 0 ≠ 178 + 1 by decide), zlu_n (show 182 + 0 ≠ 178 + 0 by decide), zlu_s, zlu_n (show 88 + p ≠ 178 + 1 by omega), zlu_n (show 88 + p ≠ 178 + 0 by omega), zlu_n (show 88 + p ≠ 182 + 0 by omega), zM_c (g' := zrT ch) (fun j _ _ => rfl) (fun j a b => zif_l ⟨a, b⟩)]
theorem zSe_1 {i : Int} (h0 : 0 ≤ i) (h1 : i < nn) : zSe nn ch p t L (178 + 1) i = zrE (zlcN (zlcN ch nn) nn) i + zMl nn (L 8) (zrT ch) i := by
  unfold zSe
  rw [zAp_at h0 h1, zAs_o (by decide), zAs_o (by decide), zAs_o (by decide), zAp_o (by decide), zAp_o (by decide), zAp_o (by decide), zlu_s, zif_l ⟨h0, h1⟩, zlu_n (show 8 ≠ 178 + 1 by decide), zlu_n (show 8 ≠ 178 + 0 by decide), zlu_n (show 8 ≠ 182 + 0 by decide), zlu_n (show 182 + 0 ≠ 178 + 1 by decide), zlu_n (show 182 + 0 ≠ 178 + 0 by decide), zlu_s, zM_c (g' := zrT ch) (fun j _ _ => rfl) (fun j a b => zif_l ⟨a, b⟩)]
theorem zSe_o {j : Nat} (h : ¬ zsc j) : zSe nn ch p t L j = L j := by
  unfold zsc at h
  unfold zSe
  rw [zAp_o (by omega), zAs_o (by omega), zAp_o (by omega), zlu_n (by omega), zlu_n (by omega), zlu_n (by omega)]
theorem zqS1_10 {i : Int} (h0 : 0 ≤ i) (h1 : i < nn) : zc (zqS1 nn ch R 10 i) (zMl nn (R 2) (zrT ch) i) := by
  have e : zqS1 nn ch R 10 i = zif nn (fun i => zrd nn (R 2) (zif nn (zrT ch) (R 13)) i nn % 268435399) (R 10) i := rfl
  rw [e, zif_l ⟨h0, h1⟩]
  refine zc_t (zrd_M ⟨h0, h1⟩) ?_
  rw [zM_c (g' := zrT ch) (fun j _ _ => rfl) (fun j a b => zif_l ⟨a, b⟩)]
  exact zc_r
theorem zqS1_11 {i : Int} (h0 : 0 ≤ i) (h1 : i < nn) : zc (zqS1 nn ch R 11 i) (zMl nn (R 3) (zrT ch) i) := by
  have e : zqS1 nn ch R 11 i = zif nn (fun i => zrd nn (R 3) (zif nn (zrT ch) (R 13)) i nn % 268435399) (R 11) i := rfl
  rw [e, zif_l ⟨h0, h1⟩]
  refine zc_t (zrd_M ⟨h0, h1⟩) ?_
  rw [zM_c (g' := zrT ch) (fun j _ _ => rfl) (fun j a b => zif_l ⟨a, b⟩)]
  exact zc_r
end ZSE
theorem zq2_o {nn i d e j : Nat} {f g : Int → Int} {X : Nat → Int → Int} (h1 : j ≠ d) (h2 : j ≠ e) : zq2 nn i d e f g X j = X j := by
  unfold zq2
  rw [zlu_n h2, zlu_n h1]
theorem zqS1_o {nn j : Nat} {ch : Int32} {R : Nat → Int → Int} (h : j < 10) : zqS1 nn ch R j = R j := by
  unfold zqS1 zqRd
  rw [zlu_n (by omega), zlu_n (by omega), zlu_n (by omega), zlu_n (by omega), zlu_n (by omega)]
theorem zqHA_10 {nn l : Nat} {A : Nat → Int → Int} {i : Int} : zqHA nn l A 10 i = zif nn (zqT l 0 A) (A 10) i := rfl
theorem zqHA_11 {nn l : Nat} {A : Nat → Int → Int} {i : Int} : zqHA nn l A 11 i = zif nn (zqT l 1 A) (A 11) i := rfl
theorem zqHA_13 {nn l : Nat} {A : Nat → Int → Int} : zqHA nn l A 13 = A 13 := rfl
theorem zqHA_14 {nn l : Nat} {A : Nat → Int → Int} : zqHA nn l A 14 = A 14 := rfl
section ZSL
variable {kd n t zz md tc : Int} {tg pt : Nat → Int} {L R : Nat → Int → Int} {nn : Nat} {ch : Int32}
/-- the budget behind a store of two parts -/
theorem zI_bud {c : Nat} (hc : c < 16) {L' R' : Nat → Int → Int} (h : zI kd n t zz md tc tg (zpu pt (97 + 5 * c) 2) L' R' nn) : (∀ i : Nat, i < nn → -9223372036854775808 ≤ zPs nn c 2 L' 85 i ∧ zPs nn c 2 L' 85 i < 9223372036854775808) ∧ zNz t (zPL nn c 2 L' (182 + 0)) nn = zNz t (zqPh nn c R' 12) nn ∧ zI kd n t zz md tc tg (zpu pt (97 + 5 * c) 2) (zPL nn c 2 L') (zqPh nn c R') nn := by
  have e : R' 8 c = 2 := by
    rw [← zI_pt h c hc, zpu_s]
  exact ⟨fun i hi => zph_b h hc e (Or.inl rfl) i hi, zph_n h hc e (Or.inl rfl), zI_ph h c 2⟩
theorem zI_seal (h : zI kd n t zz md tc tg pt L R nn) (hm : md = 1) {c p : Nat} (hc : c < 16) (hp : p < 8) : (∀ k : Nat, k < 2 → ∀ i : Nat, i < nn → -9223372036854775808 ≤ zSe nn ch p t L (178 + k) i ∧ zSe nn ch p t L (178 + k) i < 9223372036854775808) ∧ zI kd n t zz md tc tg (zpu pt (97 + 5 * c) 2) (zSt nn c (zSe nn ch p t L) 2) (zqSe nn ch c p t R) nn := by
  have hn := zI_n32 h
  have ht := zI_tb h
  have hT : ∀ j : Int, 0 ≤ j → j < nn → -1 ≤ zrT ch j ∧ zrT ch j ≤ 1 := fun j _ _ => zrT_b ch j
  refine ⟨fun k hk i hi => ?_, ?_⟩
  · have : k = 0 ∨ k = 1 := by omega
    rcases this with rfl | rfl
    · rw [zSe_0 hp (by omega) (by omega)]
      have b1 := zrE_b (zlcN ch nn) i
      have b2 := zM_b (A := 268435399) (B := 1) (i := i) hn (by omega) (by omega) (fun j a b => by have := zI_b h j a (by omega); exact ⟨by omega, by omega⟩ : ∀ j : Int, 0 ≤ j → j < nn → -268435399 ≤ L 7 j ∧ L 7 j ≤ 268435399) hT
      have b3 := zdt_b (t := t) (y := L (88 + p) i) (by omega) (by rw [zI_pl h p hp i (by omega) (by omega)]; exact zI_pb' h _ (by omega) (by omega))
      omega
    · rw [zSe_1 (by omega) (by omega)]
      have b1 := zrE_b (zlcN (zlcN ch nn) nn) i
      have b2 := zM_b (A := 268435399) (B := 1) (i := i) hn (by omega) (by omega) (fun j a b => by have := zI_a h j a (by omega); exact ⟨by omega, by omega⟩ : ∀ j : Int, 0 ≤ j → j < nn → -268435399 ≤ L 8 j ∧ L 8 j ≤ 268435399) hT
      omega
  · refine zI_st2 h hm hc (by decide) (by decide) (fun j hj => zSe_o hj) (fun j hj => ?_) (fun i i0 i1 => ?_) (fun i i0 i1 => ?_)
    · rw [zq2_o (by omega) (by omega), zqS1_o hj]
    · rw [zSe_0 hp i0 i1]
      have e : zq2 nn nn 10 11 (zqSf p t (zqS1 nn ch R)) (zqSg (zqS1 nn ch R)) (zqS1 nn ch R) 10 i = zqSf p t (zqS1 nn ch R) i := by
        unfold zq2
        rw [zlu_n (by decide), zlu_s, zif_l ⟨i0, i1⟩]
      rw [e]
      unfold zqSf
      have e16 : zqS1 nn ch R 16 i = zif nn (zrE (zlcN ch nn)) (R 16) i := rfl
      have e7 : zqS1 nn ch R 7 = R 7 := rfl
      rw [e16, zif_l ⟨i0, i1⟩, e7, zI_pl h p hp i i0 (by omega)]
      have k1 := zqS1_10 (nn := nn) (ch := ch) (R := R) i0 i1
      rw [zM_c (f := L 7) (f' := R 2) (g' := zrT ch) (fun j a b => (zI_b h j a (by omega)).1) (fun j _ _ => rfl)]
      exact zc_l2 k1
    · rw [zSe_1 i0 i1]
      have e : zq2 nn nn 10 11 (zqSf p t (zqS1 nn ch R)) (zqSg (zqS1 nn ch R)) (zqS1 nn ch R) 11 i = zqSg (zqS1 nn ch R) i := by
        unfold zq2
        rw [zlu_s, zif_l ⟨i0, i1⟩]
      rw [e]
      unfold zqSg
      have e17 : zqS1 nn ch R 17 i = zif nn (zrE (zlcN (zlcN ch nn) nn)) (R 17) i := rfl
      rw [e17, zif_l ⟨i0, i1⟩]
      have k1 := zqS1_11 (nn := nn) (ch := ch) (R := R) i0 i1
      rw [zM_c (f := L 8) (f' := R 3) (g' := zrT ch) (fun j a b => (zI_a h j a (by omega)).1) (fun j _ _ => rfl)]
      exact zc_l1 k1
/-- shrink -/
theorem zI_shrink (h : zI kd n t zz md tc tg pt L R nn) {c l : Nat} (hc : c < 16) (hl : l < 16) (h3 : R 8 l = 3) :
    (∀ i : Nat, i < nn → 0 ≤ L (97 + 5 * l + 1 + 1 + 2) i ∧ L (97 + 5 * l + 1 + 1 + 2) i < 268435456) ∧
    (∀ k : Nat, k < 2 → ∀ i : Nat, i < nn → -9223372036854775808 ≤ zAw nn 9 (97 + 5 * l + 1 + 1 + 2) (zCy nn (178 + 1) (97 + 5 * l + 1 + 1 + 1) (zCy nn (178 + 0) (97 + 5 * l + 1 + 1 + 0) L)) 6 (178 + k) i ∧ zAw nn 9 (97 + 5 * l + 1 + 1 + 2) (zCy nn (178 + 1) (97 + 5 * l + 1 + 1 + 1) (zCy nn (178 + 0) (97 + 5 * l + 1 + 1 + 0) L)) 6 (178 + k) i < 9223372036854775808) ∧
    zI kd n t zz md tc tg (zpu pt (97 + 5 * c) 2) (zSt nn c (zAw nn 9 (97 + 5 * l + 1 + 1 + 2) (zCy nn (178 + 1) (97 + 5 * l + 1 + 1 + 1) (zCy nn (178 + 0) (97 + 5 * l + 1 + 1 + 0) L)) 6) 2) (zqShA nn c l (zqAp nn 0 (zqTk nn l 2 10 R) 6)) nn := by
  have hn := zI_n32 h
  have hm := zI_full h hl (by omega)
  have x0 : ∀ i : Int, 0 ≤ i → i < nn → zCy nn (178 + 1) (97 + 5 * l + 1 + 1 + 1) (zCy nn (178 + 0) (97 + 5 * l + 1 + 1 + 0) L) (178 + 0) i = L (97 + 5 * l + 1 + 1 + 0) i := fun i a b => by
    rw [zCy_o (by decide), zCy_at a b]
  have x1 : ∀ i : Int, 0 ≤ i → i < nn → zCy nn (178 + 1) (97 + 5 * l + 1 + 1 + 1) (zCy nn (178 + 0) (97 + 5 * l + 1 + 1 + 0) L) (178 + 1) i = L (97 + 5 * l + 1 + 1 + 1) i := fun i a b => by
    rw [zCy_at a b, zCy_o (by omega)]
  have xo : ∀ j, j ≠ 178 → j ≠ 179 → zCy nn (178 + 1) (97 + 5 * l + 1 + 1 + 1) (zCy nn (178 + 0) (97 + 5 * l + 1 + 1 + 0) L) j = L j := fun j a b => by
    rw [zCy_o (by omega), zCy_o (by omega)]
  generalize zCy nn (178 + 1) (97 + 5 * l + 1 + 1 + 1) (zCy nn (178 + 0) (97 + 5 * l + 1 + 1 + 0) L) = X at x0 x1 xo ⊢
  have hk : ∀ k : Nat, k < 6 → ∀ i : Int, 0 ≤ i → i < nn → X (9 + 1 + 1 + k) i = zqTk nn l 2 10 R 4 ((((0 : Nat) : Int) * 6 + k) * 32 + i) ∧ X (9 + 8 + 1 + k) i = zqTk nn l 2 10 R 5 ((((0 : Nat) : Int) * 6 + k) * 32 + i) := fun k hk i a b => by
    rw [xo _ (by omega) (by omega), xo _ (by omega) (by omega)]
    exact zI_k h 0 k (by decide) hk i a (by omega)
  have hb : ∀ k : Nat, k < 3 → ∀ i : Int, 0 ≤ i → i < nn → 0 ≤ L (97 + 5 * l + 1 + 1 + k) i ∧ L (97 + 5 * l + 1 + 1 + k) i < 268435399 := fun k hk i a b => zI_cb h hl hk (by omega) a b
  refine ⟨fun i hi => ?_, fun k hk2 i hi => ?_, ?_⟩
  · have := hb 2 (by decide) i (by omega) (by omega)
    omega
  · have := zAw_b (j := 9) (a := 97 + 5 * l + 1 + 1 + 2) (X := X) hn ⟨by omega, by omega, by omega⟩ (by decide) (fun k hk6 i a b => by
      have e := hk k hk6 i a b
      rw [e.1, e.2]
      exact ⟨zI_fi h _ (by omega) (by omega), zI_se h _ (by omega) (by omega)⟩) (fun i a b => by
      rw [x0 i a b, x1 i a b]
      have b0 := hb 0 (by decide) i a b
      have b1 := hb 1 (by decide) i a b
      exact ⟨⟨by omega, by omega⟩, ⟨by omega, by omega⟩⟩) 6 (Nat.le_refl 6) i (by omega) (by omega)
    have hk3 : k = 0 ∨ k = 1 := by omega
    rcases hk3 with rfl | rfl
    · exact zb64 this.1
    · exact zb64 this.2
  · have key := zAw_c (j := 9) (a := 97 + 5 * l + 1 + 1 + 2) (a' := 0) (X := X) (Y := zqTk nn l 2 10 R) hn ⟨by omega, by omega, by omega⟩ (by decide) hk (fun i a b => by
      rw [xo _ (by omega) (by omega)]
      show _ = zif nn (zqT l 2 R) (R 10) i
      rw [zif_l ⟨a, b⟩, zI_take h hl (by decide) (by omega) a b]) 6 (Nat.le_refl 6)
    have ao : ∀ j, j < 10 → zqAp nn 0 (zqTk nn l 2 10 R) 6 j = R j := fun j hj => by
      rw [zqAp_o (by omega)]
      exact zlu_n (by omega)
    generalize zqAp nn 0 (zqTk nn l 2 10 R) 6 = A at key ao ⊢
    have a8 := ao 8 (by decide)
    have a9 := ao 9 (by decide)
    have tk : ∀ k : Nat, k < 3 → ∀ i : Int, 0 ≤ i → i < nn → zqT l k A i = L (97 + 5 * l + 1 + 1 + k) i := fun k hk3 i a b => by
      unfold zqT
      rw [a8, a9]
      exact zI_take h hl hk3 (by omega) a b
    unfold zqShA
    refine zI_st2 h hm hc (by decide) (by decide) (fun j hj => ?_) (fun j hj => ?_) (fun i i0 i1 => ?_) (fun i i0 i1 => ?_)
    · unfold zsc at hj
      rw [zAw_o (by omega)]
      exact xo j (by omega) (by omega)
    · rw [zq2_o (by omega) (by omega)]
      unfold zqHA zqTk
      rw [zlu_n (by omega), zlu_n (by omega)]
      exact ao j hj
    · refine zc_t (key i i0 i1).1 ?_
      rw [x0 i i0 i1]
      have e : zq2 nn nn 10 11 (zqHf (zqHA nn l A)) (zqHg (zqHA nn l A)) (zqHA nn l A) 10 i = zqHf (zqHA nn l A) i := by
        unfold zq2
        rw [zlu_n (by decide), zlu_s, zif_l ⟨i0, i1⟩]
      rw [e]
      unfold zqHf
      rw [zqHA_10, zqHA_13, zif_l ⟨i0, i1⟩, tk 0 (by decide) i i0 i1]
      exact zc_r
    · refine zc_t (key i i0 i1).2 ?_
      rw [x1 i i0 i1]
      have e : zq2 nn nn 10 11 (zqHf (zqHA nn l A)) (zqHg (zqHA nn l A)) (zqHA nn l A) 11 i = zqHg (zqHA nn l A) i := by
        unfold zq2
        rw [zlu_s, zif_l ⟨i0, i1⟩]
      rw [e]
      unfold zqHg
      rw [zqHA_11, zqHA_14, zif_l ⟨i0, i1⟩, tk 1 (by decide) i i0 i1]
      exact zc_r
end ZSL
