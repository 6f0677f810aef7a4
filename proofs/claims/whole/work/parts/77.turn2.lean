/-! turn, on both sides -/
theorem zSs_at {nn s a : Nat} {g : Int} {L : Nat → Int → Int} : zSs nn s a g L s = zsb nn g (L a) (L s) nn := zlu_s
theorem zSs_o {nn s a j : Nat} {g : Int} {L : Nat → Int → Int} (h : j ≠ s) : zSs nn s a g L j = L j := zlu_n h
theorem zqT1_10 {nn l : Nat} {g : Int} {R : Nat → Int → Int} {i : Int} : zqT1 nn l g R 10 i = zif nn (fun i => zqt nn g (zif nn (zqT l 1 R) (R 11)) (R 10) nn i % 268435399) (zqt nn g (zif nn (zqT l 1 R) (R 11)) (R 10) nn) i := rfl
theorem zqTu_10 {nn l : Nat} {g : Int} {R : Nat → Int → Int} : zqTu nn 11 10 g (zqTk nn l 1 11 R) 10 = zqt nn g (zif nn (zqT l 1 R) (R 11)) (R 10) nn := rfl
theorem zqT1_o {nn l j : Nat} {g : Int} {R : Nat → Int → Int} (h : j < 10) : zqT1 nn l g R j = R j := by
  unfold zqT1 zqTu zqTk
  show zlu _ 10 _ j = _
  rw [zlu_n (by omega), zlu_n (by omega), zlu_n (by omega)]
theorem zqT2A_10 {nn l : Nat} {g : Int} {A : Nat → Int → Int} : zqT2A nn l g A 10 = zqt nn g (zif nn (zqT l 0 A) (A 11)) (A 10) nn := rfl
theorem zqT2A_13 {nn l : Nat} {g : Int} {A : Nat → Int → Int} : zqT2A nn l g A 13 = A 13 := rfl
theorem zqT2A_14 {nn l : Nat} {g : Int} {A : Nat → Int → Int} : zqT2A nn l g A 14 = A 14 := rfl
theorem zqT2A_o {nn l j : Nat} {g : Int} {A : Nat → Int → Int} (h : j < 10) : zqT2A nn l g A j = A j := by
  unfold zqT2A zqTu zqTk
  rw [zlu_n (by omega), zlu_n (by omega)]
theorem zqAd_10 {nn : Nat} {X : Nat → Int → Int} {i : Int} : zqAd nn 10 13 X 10 i = zif nn (fun i => X 10 i + X 13 i) (X 10) i := rfl
theorem zqAd_14 {nn : Nat} {X : Nat → Int → Int} : zqAd nn 10 13 X 14 = X 14 := rfl
theorem zqt_b {n : Nat} (hn : n = 8 ∨ n = 16 ∨ n = 32) {g : Int} (hg : 3 ≤ g ∧ g < 2 * n) (ho : g % 2 = 1) {f b : Int → Int} {B : Int} (hf : ∀ i : Nat, i < n → -B ≤ f i ∧ f i ≤ B) {x : Int} (hx : 0 ≤ x ∧ x < n) : -B ≤ zqt n g f b n x ∧ zqt n g f b n x ≤ B := by
  obtain ⟨i, hi, h1, _⟩ := zsb_q hn hg ho (f := f) (b := b) (b' := b) hx
  have := hf i hi
  rcases h1 with e | e <;> rw [e] <;> omega
theorem zb63 {x : Int} (h : -268435399 ≤ x ∧ x ≤ 268435399) : -9223372036854775808 ≤ x ∧ x < 9223372036854775808 := by
  omega
theorem zb9 {x : Int} (h : -268435399 ≤ x ∧ x ≤ 268435399) : -1000000000 ≤ x ∧ x ≤ 1000000000 := by
  omega
section ZTN
variable {kd n t zz md tc : Int} {tg pt : Nat → Int} {L R : Nat → Int → Int} {nn : Nat}
/-- what turn and shrink take to the switch -/
def zTX (nn l : Nat) (g : Int) (L : Nat → Int → Int) : Nat → Int → Int := zFl (178 + 1) 0 (zSs nn (182 + 0) (97 + 5 * l + 1 + 1 + 1) g (zSs nn (178 + 0) (97 + 5 * l + 1 + 1 + 0) g L))
theorem zTX_0 {l : Nat} {g : Int} : zTX nn l g L (178 + 0) = zsb nn g (L (97 + 5 * l + 1 + 1 + 0)) (L (178 + 0)) nn := by
  unfold zTX zFl
  rw [zlu_n (by decide), zSs_o (by decide), zSs_at]
theorem zTX_1 {l : Nat} {g i : Int} (h : 0 ≤ i ∧ i < 32) : zTX nn l g L (178 + 1) i = 0 := by
  unfold zTX zFl
  rw [zlu_s, zif_l h]
theorem zTX_w {l : Nat} {g : Int} (_hl : l < 16) : zTX nn l g L (182 + 0) = zsb nn g (L (97 + 5 * l + 1 + 1 + 1)) (L (182 + 0)) nn := by
  unfold zTX zFl
  rw [zlu_n (by decide), zSs_at, zSs_o (by omega), zSs_o (by decide)]
theorem zTX_o {l j : Nat} {g : Int} (h : j ≠ 178 ∧ j ≠ 179 ∧ j ≠ 182) : zTX nn l g L j = L j := by
  unfold zTX zFl
  rw [zlu_n (by omega), zSs_o (by omega), zSs_o (by omega)]
theorem zI_turn (h : zI kd n t zz md tc tg pt L R nn) {c l p : Nat} {g : Int} (hc : c < 16) (hl : l < 16) (h2 : R 8 l = 2) (hp : (p : Int) < tc) (hg : tg (25 + 15 * p) = g) :
    (0 ≤ g ∧ g ≤ 64) ∧
    (∀ q : Nat, q < 2 → ∀ i : Nat, i < nn → -9223372036854775808 < L (97 + 5 * l + 1 + 1 + q) i ∧ L (97 + 5 * l + 1 + 1 + q) i < 9223372036854775808) ∧
    (∀ i : Nat, i < nn → 0 ≤ zTX nn l g L (182 + 0) i ∧ zTX nn l g L (182 + 0) i < 268435456) ∧
    (∀ k : Nat, k < 2 → ∀ i : Nat, i < nn → -9223372036854775808 ≤ zAw nn (25 + 15 * p) (182 + 0) (zTX nn l g L) 6 (178 + k) i ∧ zAw nn (25 + 15 * p) (182 + 0) (zTX nn l g L) 6 (178 + k) i < 9223372036854775808) ∧
    (∀ i : Nat, i < nn → -9223372036854775808 ≤ zqTu nn 11 10 g (zqTk nn l 1 11 R) 10 i ∧ zqTu nn 11 10 g (zqTk nn l 1 11 R) 10 i < 9223372036854775808) ∧
    (∀ i : Nat, i < nn → -1000000000 ≤ zqT2A nn l g (zqAp nn (p + 1) (zqT1 nn l g R) 6) 10 i ∧ zqT2A nn l g (zqAp nn (p + 1) (zqT1 nn l g R) 6) 10 i ≤ 1000000000) ∧
    zI kd n t zz md tc tg (zpu pt (97 + 5 * c) 2) (zSt nn c (zAw nn (25 + 15 * p) (182 + 0) (zTX nn l g L) 6) 2) (zqTnA nn c l g (zqAp nn (p + 1) (zqT1 nn l g R) 6)) nn := by
  have hn := zI_n32 h
  have h8 := zI_nn h
  have hm := zI_full h hl (by omega)
  have hto := zI_to h p hp
  rw [hg, zI_n h] at hto
  obtain ⟨hg3, hgo⟩ := hto
  have htc := zI_tc h
  have hp4 : p < 4 := by omega
  have hb : ∀ k : Nat, k < 2 → ∀ i : Int, 0 ≤ i → i < nn → 0 ≤ L (97 + 5 * l + 1 + 1 + k) i ∧ L (97 + 5 * l + 1 + 1 + k) i < 268435399 := fun k hk i a b => zI_cb h hl (by omega) (by omega) a b
  have tk : ∀ k : Nat, k < 2 → ∀ i : Int, 0 ≤ i → i < nn → zqT l k R i = L (97 + 5 * l + 1 + 1 + k) i := fun k hk i a b => zI_take h hl (by omega) (by omega) a b
  have w1 : ∀ i : Int, 0 ≤ i → i < nn → zTX nn l g L (182 + 0) i = zqT1 nn l g R 10 i := fun i a b => by
    rw [zTX_w hl, zqT1_10, zif_l ⟨a, b⟩]
    exact zqt_c h8 hg3 hgo (fun j hj => by rw [zif_l (by omega)]; exact (tk 1 (by decide) j (by omega) (by omega)).symm) ⟨a, b⟩
  have hk : ∀ k : Nat, k < 6 → ∀ i : Int, 0 ≤ i → i < nn → zTX nn l g L (25 + 15 * p + 1 + 1 + k) i = zqT1 nn l g R 4 ((((p + 1 : Nat) : Int) * 6 + k) * 32 + i) ∧ zTX nn l g L (25 + 15 * p + 8 + 1 + k) i = zqT1 nn l g R 5 ((((p + 1 : Nat) : Int) * 6 + k) * 32 + i) := fun k hk i a b => by
    rw [zTX_o (by omega), zTX_o (by omega), zqT1_o (by decide), zqT1_o (by decide)]
    exact zI_k h (p + 1) k (by omega) hk i a (by omega)
  have f1 : ∀ i : Nat, i < nn → -268435399 ≤ zif nn (zqT l 1 R) (R 11) i ∧ zif nn (zqT l 1 R) (R 11) i ≤ 268435399 := fun i hi => by
    rw [zif_l (by omega), tk 1 (by decide) i (by omega) (by omega)]
    have := hb 1 (by decide) i (by omega) (by omega)
    exact ⟨by omega, by omega⟩
  have key := zAw_c (j := 25 + 15 * p) (a := 182 + 0) (a' := p + 1) (X := zTX nn l g L) (Y := zqT1 nn l g R) hn (by decide) (by omega) hk w1 6 (Nat.le_refl 6)
  have ao : ∀ j, j < 10 → zqAp nn (p + 1) (zqT1 nn l g R) 6 j = R j := fun j hj => by
    rw [zqAp_o (by omega)]
    exact zqT1_o hj
  generalize zqAp nn (p + 1) (zqT1 nn l g R) 6 = A at key ao ⊢
  have a8 := ao 8 (by decide)
  have a9 := ao 9 (by decide)
  have tk0 : ∀ i : Int, 0 ≤ i → i < nn → zif nn (zqT l 0 A) (A 11) i = L (97 + 5 * l + 1 + 1 + 0) i := fun i a b => by
    rw [zif_l ⟨a, b⟩]
    have e : zqT l 0 A i = zqT l 0 R i := by
      unfold zqT
      rw [a8, a9]
    rw [e]
    exact tk 0 (by decide) i a b
  have x0 : ∀ i : Int, 0 ≤ i → i < nn → zTX nn l g L (178 + 0) i = zqT2A nn l g A 10 i % 268435399 := fun i a b => by
    rw [zTX_0, zqT2A_10]
    exact zqt_c h8 hg3 hgo (fun j hj => (tk0 j (by omega) (by omega)).symm) ⟨a, b⟩
  refine ⟨⟨by omega, by omega⟩, fun q hq i hi => ?_, fun i hi => ?_, fun k hk2 i hi => ?_, fun i hi => ?_, fun i hi => ?_, ?_⟩
  · have := hb q hq i (by omega) (by omega)
    exact ⟨by omega, by omega⟩
  · rw [w1 i (by omega) (by omega), zqT1_10, zif_l (by omega)]
    have := zqm (zqt nn g (zif nn (zqT l 1 R) (R 11)) (R 10) nn i)
    exact ⟨this.1, by omega⟩
  · have := zAw_b (j := 25 + 15 * p) (a := 182 + 0) (X := zTX nn l g L) hn (by decide) (by omega) (fun k hk6 i a b => by
      have e := hk k hk6 i a b
      rw [e.1, e.2, zqT1_o (by decide), zqT1_o (by decide)]
      exact ⟨zI_fi h _ (by omega) (by omega), zI_se h _ (by omega) (by omega)⟩) (fun i a b => by
      rw [x0 i a b, zTX_1 (by omega)]
      have b0 := zqm (zqT2A nn l g A 10 i)
      exact ⟨⟨by omega, by omega⟩, ⟨by decide, by decide⟩⟩) 6 (Nat.le_refl 6) i (by omega) (by omega)
    have hk3 : k = 0 ∨ k = 1 := by omega
    rcases hk3 with rfl | rfl
    · exact zb64 this.1
    · exact zb64 this.2
  · rw [zqTu_10]
    exact zb63 (zqt_b h8 hg3 hgo f1 ⟨by omega, by omega⟩)
  · rw [zqT2A_10]
    exact zb9 (zqt_b h8 hg3 hgo (fun j hj => by
      rw [tk0 j (by omega) (by omega)]
      have := hb 0 (by decide) j (by omega) (by omega)
      exact ⟨by omega, by omega⟩) ⟨by omega, by omega⟩)
  · unfold zqTnA
    refine zI_st2 h hm hc (by decide) (by decide) (fun j hj => ?_) (fun j hj => ?_) (fun i i0 i1 => ?_) (fun i i0 i1 => ?_)
    · unfold zsc at hj
      rw [zAw_o (by omega)]
      exact zTX_o (by omega)
    · unfold zqAd
      rw [zlu_n (by omega), zqT2A_o hj]
      exact ao j hj
    · refine zc_t (key i i0 i1).1 ?_
      rw [x0 i i0 i1, zqAd_10, zif_l ⟨i0, i1⟩, zqT2A_13]
      exact zc_add (zc_m _) zc_r
    · refine zc_t (key i i0 i1).2 ?_
      rw [zTX_1 (by omega), zqAd_14, zqT2A_14, Int.zero_add]
      exact zc_r
end ZTN
