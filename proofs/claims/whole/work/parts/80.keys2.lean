/-! keys, turnKey, on both sides -/
section ZKY
variable {nn : Nat} {ch : Int32} {L R : Nat → Int → Int}
def zKs (nn : Nat) (ch : Int32) (L : Nat → Int → Int) : Nat → Int → Int := zMk nn (zlcN ch nn) 8 (zAp nn 6 5 5 (zFl 6 0 (zlu L 5 (zif nn (zrT ch) (L 5)))))
theorem zKs_5 : zKs nn ch L 5 = zif nn (zrT ch) (L 5) := by
  unfold zKs zFl
  rw [zMk_o (by decide) (by decide), zAp_o (by decide), zlu_n (by decide), zlu_s]
theorem zKs_6 {i : Int} (hn : nn ≤ 32) (h0 : 0 ≤ i) (h1 : i < nn) : zKs nn ch L 6 i = zMl nn (zif nn (zrT ch) (L 5)) (zif nn (zrT ch) (L 5)) i := by
  unfold zKs zFl
  rw [zMk_o (by decide) (by decide), zAp_at h0 h1, zlu_s, zif_l (by omega), zlu_n (show 5 ≠ 6 by decide), zlu_s, Int.zero_add]
theorem zKs_8 : zKs nn ch L 8 = zif nn (zrU (zlcN ch nn)) (L 8) := by
  unfold zKs zFl
  rw [zMk_m (by decide), zAp_o (by decide), zlu_n (by decide), zlu_n (by decide)]
theorem zKs_85 {i : Int} (h0 : 0 ≤ i) (h1 : i < nn) : zKs nn ch L 85 i = zrE (zlcN (zlcN ch nn) (2 * nn)) i + zMl nn (zif nn (zrT ch) (L 5)) (zrU (zlcN ch nn)) i := by
  unfold zKs zFl
  rw [zMk_s (by decide) h0 h1, zAp_o (show 5 ≠ 6 by decide), zlu_n (show 5 ≠ 6 by decide), zlu_s]
theorem zKs_o {q : Nat} (h : q ≠ 5 ∧ q ≠ 6 ∧ q ≠ 8 ∧ q ≠ 85) : zKs nn ch L q = L q := by
  unfold zKs zFl
  rw [zMk_o (by omega) (by omega), zAp_o (by omega), zlu_n (by omega), zlu_n (by omega)]
theorem zqK_1 : zqK nn ch R 1 = zif nn (zrT ch) (R 1) := rfl
theorem zqK_3 : zqK nn ch R 3 = zif nn (zrU (zlcN ch nn)) (R 3) := rfl
theorem zqK_2 {i : Int} : zqK nn ch R 2 i = zif nn (fun i => -(zif nn (fun i => zrd nn (zif nn (zrU (zlcN ch nn)) (R 3)) (zif nn (zrT ch) (R 1)) i nn % 268435399) (R 14) i + zif nn (zrE (zlcN (zlcN ch nn) (2 * nn))) (R 17) i) % 268435399) (R 2) i := rfl
theorem zqK_13 {i : Int} : zqK nn ch R 13 i = zif nn (fun i => zcp nn (zif nn (zrT ch) (R 1)) (zif nn (zrT ch) (R 1)) i nn) (R 13) i := rfl
theorem zqK_o {j : Nat} (h : j = 4 ∨ j = 5 ∨ j = 6 ∨ j = 7 ∨ j = 8 ∨ j = 9) : zqK nn ch R j = R j := by
  rcases h with rfl | rfl | rfl | rfl | rfl | rfl <;> rfl
end ZKY
section ZKZ
variable {kd n t zz md tc : Int} {tg pt : Nat → Int} {L R : Nat → Int → Int} {nn : Nat} {ch : Int32}
theorem zKs_b1 : ∀ j : Int, 0 ≤ j → j < nn → -1 ≤ zif nn (zrT ch) (L 5) j ∧ zif nn (zrT ch) (L 5) j ≤ 1 := fun j a b => by
  rw [zif_l ⟨a, b⟩]
  exact zrT_b ch j
theorem zI_keys (h : zI kd n t zz md tc tg pt L R nn) :
    (∀ i : Nat, i < nn → -9223372036854775808 < zKs nn ch L 85 i ∧ zKs nn ch L 85 i < 9223372036854775808) ∧
    (∀ k : Nat, k < 6 → ∀ i : Nat, i < nn → -9223372036854775808 < zAs nn 85 6 (-(32 ^ k)) (zMk nn (zSwc nn (zMkc nn (zlcN ch nn)) k) (9 + 8 + 1 + k) (zSwL nn (zMkc nn (zlcN ch nn)) 9 6 (zHb nn 7 (zKs nn ch L)) k)) 85 i ∧ zAs nn 85 6 (-(32 ^ k)) (zMk nn (zSwc nn (zMkc nn (zlcN ch nn)) k) (9 + 8 + 1 + k) (zSwL nn (zMkc nn (zlcN ch nn)) 9 6 (zHb nn 7 (zKs nn ch L)) k)) 85 i < 9223372036854775808) ∧
    zI kd n t zz 1 0 tg (zpe pt 16) (zRnL nn ch L) (zqKy nn ch R) nn := by
  have hn := zI_n32 h
  have s5 : zHb nn 7 (zKs nn ch L) 5 = zif nn (zrT ch) (L 5) := by
    rw [zHb_o (by decide), zKs_5]
  have s6 : ∀ i : Int, 0 ≤ i → i < nn → zHb nn 7 (zKs nn ch L) 6 i = zMl nn (zif nn (zrT ch) (L 5)) (zif nn (zrT ch) (L 5)) i := fun i a b => by
    rw [zHb_o (by decide), zKs_6 hn a b]
  have ss : ∀ i : Int, 0 ≤ i → i < nn → zif nn (zrT ch) (L 5) i = zif nn (zrT ch) (R 1) i := fun i a b => by
    rw [zif_l ⟨a, b⟩, zif_l ⟨a, b⟩]
  obtain ⟨h0, h1, h2, h3, h4, h5, h6⟩ := id h
  refine ⟨fun i hi => ?_, fun k hk i hi => ?_, ?_⟩
  · rw [zKs_85 (by omega) (by omega)]
    have b1 := zrE_b (zlcN (zlcN ch nn) (2 * nn)) i
    have b2 := zM_b (A := 1) (B := 268435399) (i := i) hn (by omega) (by omega) (zKs_b1 (ch := ch) (L := L)) (fun m _ _ => by have := zrU_b (zlcN ch nn) m; exact ⟨by omega, by omega⟩ : ∀ m : Int, 0 ≤ m → m < nn → -268435399 ≤ zrU (zlcN ch nn) m ∧ zrU (zlcN ch nn) m ≤ 268435399)
    generalize zMl nn (zif nn (zrT ch) (L 5)) (zrU (zlcN ch nn)) i = y at *
    generalize zrE (zlcN (zlcN ch nn) (2 * nn)) i = x at *
    omega
  · refine zSw_b hn (by decide) hk (by decide) (by decide) (fun m a b => ?_) (fun m a b => ?_) i hi
    · rw [s5]
      exact zKs_b1 m a b
    · rw [s6 m a b]
      have := zM_b (A := 1) (B := 1) hn a b (zKs_b1 (ch := ch) (L := L)) (zKs_b1 (ch := ch) (L := L))
      generalize zMl nn (zif nn (zrT ch) (L 5)) (zif nn (zrT ch) (L 5)) m = y at *
      omega
  · have eL : zRnL nn ch L = zSwL nn (zMkc nn (zlcN ch nn)) 9 6 (zHb nn 7 (zKs nn ch L)) 6 := rfl
    have eR : zqKy nn ch R = zlu (zqP nn (zMkc nn (zlcN ch nn)) 0 (zqK nn ch R) 6) 8 (zif 16 (fun _ => 0) (zqP nn (zMkc nn (zlcN ch nn)) 0 (zqK nn ch R) 6 8)) := rfl
    have lo : ∀ q, q ≠ 85 → q < 11 ∨ 24 ≤ q → zRnL nn ch L q = zHb nn 7 (zKs nn ch L) q := fun q a b => by
      rw [eL]
      exact zSwL_o a (by omega) 6 (Nat.le_refl 6)
    have lo2 : ∀ q, q ≠ 85 → q < 5 ∨ 24 ≤ q → zRnL nn ch L q = L q := fun q a b => by
      rw [lo q a (by omega), zHb_o (by omega), zKs_o (by omega)]
    have ro : ∀ j, j = 1 ∨ j = 2 ∨ j = 3 ∨ j = 6 ∨ j = 7 ∨ j = 9 → zqKy nn ch R j = zqK nn ch R j := fun j hj => by
      rw [eR, zlu_n (by omega), zqP_o (by omega)]
    have key := zSw_k (a := 6) (a' := 0) (ch := zMkc nn (zlcN ch nn)) (L := zHb nn 7 (zKs nn ch L)) (R := zqK nn ch R) hn (by decide) (by decide) (zIk_c h4 (fun j a b => by
        by_cases hj : j = 85
        · omega
        · rw [zHb_o (by omega), zKs_o (by omega)]) (zqK_o (by decide)) (zqK_o (by decide))) (fun i a b => by
        rw [s5, zqK_1]
        exact ss i a b) (fun i a b => by
        rw [s6 i a b, zqK_13, zif_l ⟨a, b⟩, zcp_M ⟨a, b⟩, zM_c ss ss]
        exact zc_r) 6 (Nat.le_refl 6)
    refine ⟨Or.inr rfl, zIa_c h1 (lo2 2 (by decide) (by decide)), ⟨by decide, ?_, ?_, fun p hp => by omega⟩, ⟨fun i a b => ?_, fun _ i a b => ?_, fun i a b => ?_, fun i a b => ?_⟩, ?_, zIp_c h5 (fun j a b => lo2 j (by omega) (by omega)) (by rw [ro 7 (by decide), zqK_o (by decide)]), zIc_0 (fun c hc => zpe_at 16 hc) (fun c hc => ?_) ?_⟩
    · rw [ro 6 (by decide), zqK_o (by decide)]
      exact h2.2.1
    · rw [ro 6 (by decide), zqK_o (by decide)]
      exact h2.2.2.1
    · rw [lo 5 (by decide) (by decide), s5, ro 1 (by decide), zqK_1]
      by_cases hi : i < nn
      · rw [zif_l ⟨a, hi⟩, zif_l ⟨a, hi⟩]
        exact ⟨rfl, zrT_b ch i⟩
      · rw [zif_r (by omega), zif_r (by omega)]
        exact h3.1 i a b
    · rw [lo 5 (by decide) (by decide), lo 6 (by decide) (by decide), s5, s6 i a b]
    · rw [lo 7 (by decide) (by decide), ro 2 (by decide), zqK_2]
      unfold zHb
      rw [zlu_s]
      by_cases hi : i < nn
      · rw [zif_l ⟨a, hi⟩, zif_l ⟨a, hi⟩, zif_l ⟨a, hi⟩, zif_l ⟨a, hi⟩, zKs_85 a hi]
        refine ⟨?_, zqm _⟩
        refine zc_neg (zc_l1 (zc_t (zrd_M ⟨a, hi⟩) ?_))
        rw [zM_comm a, zM_c (f' := zif nn (zrT ch) (L 5)) (g' := zrU (zlcN ch nn)) (fun j a b => (ss j a b).symm) (fun j a b => zif_l ⟨a, b⟩)]
        exact zc_r
      · rw [zif_r (by omega), zif_r (by omega), zKs_o (by decide)]
        exact h3.2.2.1 i a b
    · rw [lo 8 (by decide) (by decide), zHb_o (by decide), ro 3 (by decide), zqK_3, zKs_8]
      by_cases hi : i < nn
      · rw [zif_l ⟨a, hi⟩, zif_l ⟨a, hi⟩]
        exact ⟨rfl, zrU_b _ i⟩
      · rw [zif_r (by omega), zif_r (by omega)]
        exact h3.2.2.2 i a b
    · rw [eL, eR]
      exact zIk_c key (fun _ _ _ => rfl) (zlu_n (by decide)) (zlu_n (by decide))
    · rw [eR, zlu_s, zif_l (by omega)]
    · rw [ro 9 (by decide), zqK_o (by decide)]
      exact h6.2.2.1
/-- turnKey: the place, the row, the pairs -/
theorem zI_turnKey (h : zI kd n t zz md tc tg pt L R nn) {p : Nat} {g : Int} (hp : p < 4) (hg : 3 ≤ g ∧ g < 2 * n) (ho : g % 2 = 1) (hpt : (p : Int) ≤ tc) {R1 : Nat → Int → Int} (r6 : R1 6 = zu (R 6) ((p : Int) + 1) g) (ro : ∀ j, j < 10 → j ≠ 6 → R1 j = R j) (r13 : R1 13 = zqt nn g (R 1) (R 13) nn) :
    (∀ i : Nat, i < nn → -9223372036854775808 < L 5 i ∧ L 5 i < 9223372036854775808) ∧
    (∀ k : Nat, k < 6 → ∀ i : Nat, i < nn → -9223372036854775808 < zAs nn 85 86 (-(32 ^ k)) (zMk nn (zSwc nn ch k) (25 + 15 * p + 8 + 1 + k) (zSwL nn ch (25 + 15 * p) 86 (zSs nn 86 5 g L) k)) 85 i ∧ zAs nn 85 86 (-(32 ^ k)) (zMk nn (zSwc nn ch k) (25 + 15 * p + 8 + 1 + k) (zSwL nn ch (25 + 15 * p) 86 (zSs nn 86 5 g L) k)) 85 i < 9223372036854775808) ∧
    (∀ i : Nat, i < nn → -9223372036854775808 ≤ zqt (nn : Int) g (R 1) (R 13) nn i ∧ zqt (nn : Int) g (R 1) (R 13) nn i < 9223372036854775808) ∧
    zI kd n t zz md (if tc < (p : Int) + 1 then (p : Int) + 1 else tc) (zpu tg (25 + 15 * p) g) pt (zSwL nn ch (25 + 15 * p) 86 (zSs nn 86 5 g L) 6) (zqP nn ch (p + 1) R1 6) nn := by
  have hn := zI_n32 h
  have h8 := zI_nn h
  have hnn := zI_n h
  have htc := zI_tc h
  have hg' : 3 ≤ g ∧ g < 2 * (nn : Int) := by omega
  have hs1 : ∀ i : Nat, i < nn → L 5 i = R 1 i := fun i hi => zI_s h i (by omega) (by omega)
  have w : ∀ i : Int, 0 ≤ i → i < nn → zSs nn 86 5 g L 86 i = zqt nn g (R 1) (R 13) nn i % 268435399 := fun i a b => by
    rw [zSs_at]
    exact zqt_c h8 hg' ho hs1 ⟨a, b⟩
  have so : ∀ q, q ≠ 86 → zSs nn 86 5 g L q = L q := fun q hq => zSs_o hq
  have hzk : zkj (p + 1) = 25 + 15 * p := rfl
  have lo : ∀ q, q ≠ 85 → q ≠ 86 → q < 27 + 15 * p ∨ 40 + 15 * p ≤ q → zSwL nn ch (25 + 15 * p) 86 (zSs nn 86 5 g L) 6 q = L q := fun q a b c => by
    rw [zSwL_o a (by omega) 6 (Nat.le_refl 6), so q b]
  have rp : ∀ j, j < 10 → j ≠ 4 → j ≠ 5 → zqP nn ch (p + 1) R1 6 j = R1 j := fun j a b c => zqP_o (by omega) 6
  obtain ⟨h0, h1, h2, h3, h4, h5, h6⟩ := id h
  refine ⟨fun i hi => ?_, fun k hk i hi => ?_, fun i hi => ?_, ?_⟩
  · have := zI_s1 h i (by omega) (by omega)
    exact ⟨by omega, by omega⟩
  · refine zSw_b hn (by omega) hk (by omega) ⟨by decide, by omega⟩ (fun m a b => ?_) (fun m a b => ?_) i hi
    · rw [so 5 (by decide)]
      exact zI_s1 h m a b
    · rw [w m a b]
      have := zqm (zqt nn g (R 1) (R 13) nn m)
      exact ⟨by omega, by omega⟩
  · exact zb63 (zqt_b h8 hg' ho (fun j hj => by have := zI_sb h j (by omega) (by omega); exact ⟨by omega, by omega⟩) ⟨by omega, by omega⟩)
  · have key := zSw_k (a := 86) (a' := p + 1) (ch := ch) (L := zSs nn 86 5 g L) (R := R1) hn (by omega) (by decide) (zIk_c h4 (fun j a b => so j (by omega)) (ro 4 (by decide) (by decide)) (ro 5 (by decide) (by decide))) (fun i a b => by
        rw [so 5 (by decide), ro 1 (by decide) (by decide)]
        exact zI_s h i a (by omega)) (fun i a b => by
        rw [w i a b, r13]
        exact zc_m _) 6 (Nat.le_refl 6)
    rw [hzk] at key
    refine ⟨h0, zIa_c h1 (lo 2 (by decide) (by decide) (by omega)), ?_, zIs_c h3 (lo 5 (by decide) (by decide) (by omega)) (lo 6 (by decide) (by decide) (by omega)) (lo 7 (by decide) (by decide) (by omega)) (lo 8 (by decide) (by decide) (by omega)) ?_ ?_ ?_, key, zIp_c h5 (fun j a b => lo j (by omega) (by omega) (by omega)) ?_, zIc_c h6 (fun j a b => lo j (by omega) (by omega) (by omega)) ?_ ?_⟩
    · unfold zIt
      rw [rp 6 (by decide) (by decide) (by decide), r6]
      refine ⟨?_, fun q hq => ?_, fun q hq => ?_, fun q hq => ?_⟩
      · split <;> omega
      · by_cases e : q = p
        · subst e
          rw [zpu_s, zu_s]
        · rw [zpu_n (by omega), zu_n (by omega)]
          exact h2.2.1 q hq
      · by_cases e : (q : Int) = (p : Int) + 1
        · rw [e, zu_s]
          omega
        · rw [zu_n e]
          exact h2.2.2.1 q hq
      · by_cases e : q = p
        · subst e
          rw [zpu_s]
          exact ⟨hg, ho⟩
        · rw [zpu_n (by omega)]
          exact h2.2.2.2 q (by split at hq <;> omega)
    · rw [rp 1 (by decide) (by decide) (by decide), ro 1 (by decide) (by decide)]
    · rw [rp 2 (by decide) (by decide) (by decide), ro 2 (by decide) (by decide)]
    · rw [rp 3 (by decide) (by decide) (by decide), ro 3 (by decide) (by decide)]
    · rw [rp 7 (by decide) (by decide) (by decide), ro 7 (by decide) (by decide)]
    · rw [rp 8 (by decide) (by decide) (by decide), ro 8 (by decide) (by decide)]
    · rw [rp 9 (by decide) (by decide) (by decide), ro 9 (by decide) (by decide)]
end ZKZ
