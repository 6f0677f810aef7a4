/-! plain and join, on both sides -/
theorem zPc_o {nn c j : Nat} {L : Nat → Int → Int} : ∀ q : Nat, (∀ k, k < q → j ≠ 178 + k) → zPc nn c L q j = L j
  | 0, _ => rfl
  | q + 1, h => by
    show zCy nn (178 + q) (97 + 5 * c + 1 + 1 + q) (zPc nn c L q) j = _
    rw [zCy_o (h q (Nat.lt_succ_self q))]
    exact zPc_o q (fun k hk => h k (by omega))
theorem zPc_at {nn c : Nat} {L : Nat → Int → Int} (hc : c < 16) {i : Int} (h0 : 0 ≤ i) (h1 : i < nn) : ∀ q : Nat, q ≤ 3 → ∀ k : Nat, k < q → zPc nn c L q (178 + k) i = L (97 + 5 * c + 1 + 1 + k) i
  | 0, _, k, hk => absurd hk (Nat.not_lt_zero k)
  | q + 1, hq, k, hk => by
    show zCy nn (178 + q) (97 + 5 * c + 1 + 1 + q) (zPc nn c L q) (178 + k) i = _
    by_cases e : k = q
    · subst e
      rw [zCy_at h0 h1, zPc_o k (fun m hm => by omega)]
    · rw [zCy_o (by omega)]
      exact zPc_at hc h0 h1 q (by omega) k (by omega)
theorem zFl_o {s j : Nat} {v : Int} {L : Nat → Int → Int} (h : j ≠ s) : zFl s v L j = L j := zlu_n h
theorem zFl_at {s : Nat} {v i : Int} {L : Nat → Int → Int} (h : 0 ≤ i ∧ i < 32) : zFl s v L s i = v := by
  unfold zFl
  rw [zlu_s, zif_l h]
theorem zPm_o {nn c a j : Nat} {L : Nat → Int → Int} : ∀ q : Nat, (∀ k, k < q → j ≠ 178 + k) → zPm nn c a L q j = L j
  | 0, _ => rfl
  | q + 1, h => by
    show zAp nn (178 + q) a (97 + 5 * c + 1 + 1 + q) (zFl (178 + q) 0 (zPm nn c a L q)) j = _
    rw [zAp_o (h q (Nat.lt_succ_self q)), zFl_o (h q (Nat.lt_succ_self q))]
    exact zPm_o q (fun k hk => h k (by omega))
theorem zPm_at {nn c a : Nat} {L : Nat → Int → Int} (hn : nn ≤ 32) (hc : c < 16) (ha : a < 178) {i : Int} (h0 : 0 ≤ i) (h1 : i < nn) : ∀ q : Nat, q ≤ 3 → ∀ k : Nat, k < q → zPm nn c a L q (178 + k) i = zMl nn (L a) (L (97 + 5 * c + 1 + 1 + k)) i
  | 0, _, k, hk => absurd hk (Nat.not_lt_zero k)
  | q + 1, hq, k, hk => by
    show zAp nn (178 + q) a (97 + 5 * c + 1 + 1 + q) (zFl (178 + q) 0 (zPm nn c a L q)) (178 + k) i = _
    by_cases e : k = q
    · subst e
      rw [zAp_at h0 h1, zFl_at (by omega), zFl_o (by omega), zFl_o (by omega), zPm_o k (fun m hm => by omega), zPm_o k (fun m hm => by omega), Int.zero_add]
    · rw [zAp_o (by omega), zFl_o (by omega)]
      exact zPm_at hn hc ha h0 h1 q (by omega) k (by omega)
theorem zqp1_10 {nn l p k : Nat} {X : Nat → Int → Int} : zqp1 nn l p k X 10 = zif nn (zqT l k X) (X 10) := rfl
theorem zqp1_11 {nn l p k : Nat} {X : Nat → Int → Int} : zqp1 nn l p k X 11 = zif nn (fun i => X 7 (32 * (p : Int) + i)) (X 11) := rfl
theorem zqp2_0 {nn k : Nat} {t i : Int} {X : Nat → Int → Int} (h : 0 ≤ i ∧ i < nn) : zqp2 nn t 0 k X 12 i = zqpF t k X i := by
  unfold zqp2
  rw [if_neg (by decide), zlu_s, zif_l h]
theorem zqp2_1 {nn k : Nat} {t i : Int} {X : Nat → Int → Int} (h : 0 ≤ i ∧ i < nn) : zqp2 nn t 1 k X 12 i = zrd nn (X 10) (X 11) i nn % 268435399 := by
  unfold zqp2 zqRd
  rw [if_pos rfl, zlu_s, zif_l h]
theorem zqp2_o {nn o k j : Nat} {t : Int} {X : Nat → Int → Int} (h : j ≠ 12) : zqp2 nn t o k X j = X j := by
  unfold zqp2 zqRd
  split <;> rw [zlu_n h]
theorem zqp1_o {nn l p k j : Nat} {X : Nat → Int → Int} (h : j ≠ 10 ∧ j ≠ 11) : zqp1 nn l p k X j = X j := by
  unfold zqp1 zqTk
  rw [zlu_n h.2, zlu_n h.1]
theorem zqw_15 {nn k : Nat} {X : Nat → Int → Int} : zqw nn k X 15 = zsf (32 * (k : Int)) nn (X 12) (X 15) := rfl
theorem zqT_c {c k : Nat} {X Y : Nat → Int → Int} (h8 : X 8 = Y 8) (h9 : X 9 = Y 9) : zqT c k X = zqT c k Y := by
  funext i
  unfold zqT
  rw [h8, h9]
theorem zqPl_15 {nn l p : Nat} {t : Int} {o : Nat} {R : Nat → Int → Int} (hn : nn ≤ 32) {i : Int} (h0 : 0 ≤ i) (h1 : i < nn) : ∀ m : Nat, m ≤ 3 → ∀ k : Nat, k < m → zqPl nn l p t o R m 15 (32 * (k : Int) + i) = zqp2 nn t o k (zqp1 nn l p k (zqPl nn l p t o R k)) 12 i
  | 0, _, k, hk => absurd hk (Nat.not_lt_zero k)
  | m + 1, hm, k, hk => by
    show zqw nn m (zqp2 nn t o m (zqp1 nn l p m (zqPl nn l p t o R m))) 15 (32 * (k : Int) + i) = _
    rw [zqw_15]
    by_cases e : k = m
    · subst e
      rw [zsf_l (by omega), show 32 * (k : Int) + i - 32 * (k : Int) = i by omega]
    · rw [zsf_r (by omega), zqp2_o (by decide), zqp1_o (by decide)]
      exact zqPl_15 hn h0 h1 m (by omega) k (by omega)
section ZPN
variable {kd n t zz md tc : Int} {tg pt : Nat → Int} {L R : Nat → Int → Int} {nn : Nat}
theorem zI_plain0 (h : zI kd n t zz md tc tg pt L R nn) {c l p q : Nat} (hc : c < 16) (hl : l < 16) (hp : p < 8) (hq : R 8 l = (q : Int)) (hf : q = 2 ∨ q = 3) :
    (∀ k : Nat, k < q → ∀ i : Nat, i < nn → -9223372036854775808 ≤ zAs nn (178 + 0) (88 + p) (268435399 / t) (zPc nn l L q) (178 + k) i ∧ zAs nn (178 + 0) (88 + p) (268435399 / t) (zPc nn l L q) (178 + k) i < 9223372036854775808) ∧
    (∀ k : Nat, k < q → ∀ i : Nat, i < nn → -9223372036854775808 ≤ zqPl nn l p t 0 R q 15 (32 * (k : Int) + i) ∧ zqPl nn l p t 0 R q 15 (32 * (k : Int) + i) < 9223372036854775808) ∧
    zI kd n t zz md tc tg (zpu pt (97 + 5 * c) q) (zSt nn c (zAs nn (178 + 0) (88 + p) (268435399 / t) (zPc nn l L q)) q) (zqb nn c (zlu (zqPl nn l p t 0 R q) 8 (zu (zqPl nn l p t 0 R q 8) c q)) q) nn := by
  have hn := zI_n32 h
  have ht := zI_tb h
  have hm := zI_full h hl (by omega)
  have eq : ∀ k : Nat, k < q → ∀ i : Int, 0 ≤ i → i < nn → zAs nn (178 + 0) (88 + p) (268435399 / t) (zPc nn l L q) (178 + k) i = L (97 + 5 * l + 1 + 1 + k) i + if (k : Int) = 0 then 268435399 / t * R 7 (32 * (p : Int) + i) else 0 := fun k hk i a b => by
    by_cases e : k = 0
    · subst e
      rw [zAs_at a b, zPc_at hl a b q (by omega) 0 hk, zPc_o q (fun m hm => by omega), if_pos (show ((0 : Nat) : Int) = 0 from rfl), zI_pl h p hp i a (by omega)]
    · rw [zAs_o (by omega), zPc_at hl a b q (by omega) k hk, if_neg (by omega), Int.add_zero]
  have er : ∀ k : Nat, k < q → ∀ i : Int, 0 ≤ i → i < nn → zqPl nn l p t 0 R q 15 (32 * (k : Int) + i) = L (97 + 5 * l + 1 + 1 + k) i + if (k : Int) = 0 then 268435399 / t * R 7 (32 * (p : Int) + i) else 0 := fun k hk i a b => by
    rw [zqPl_15 hn a b q (by omega) k hk, zqp2_0 ⟨a, b⟩]
    unfold zqpF
    rw [zqp1_10, zqp1_11, zif_l ⟨a, b⟩, zif_l ⟨a, b⟩, zqT_c (Y := R) (zqPl_o (by decide) k) (zqPl_o (by decide) k), zI_take h hl (by omega) (by omega) a b, zqPl_o (j := 7) (by decide) k]
  have bd : ∀ k : Nat, k < q → ∀ i : Nat, i < nn → -9223372036854775808 ≤ L (97 + 5 * l + 1 + 1 + k) i + (if (k : Int) = 0 then 268435399 / t * R 7 (32 * (p : Int) + i) else 0) ∧ L (97 + 5 * l + 1 + 1 + k) i + (if (k : Int) = 0 then 268435399 / t * R 7 (32 * (p : Int) + i) else 0) < 9223372036854775808 := fun k hk i hi => by
    have b1 := zI_cb h hl (k := k) (by omega) (by omega) (show (0 : Int) ≤ i by omega) (by omega)
    have b2 := zdt_b (t := t) (y := R 7 (32 * (p : Int) + i)) (by omega) (zI_pb' h _ (by omega) (by omega))
    generalize 268435399 / t * R 7 (32 * (p : Int) + i) = y at *
    generalize L (97 + 5 * l + 1 + 1 + k) i = x at *
    split <;> omega
  refine ⟨fun k hk i hi => ?_, fun k hk i hi => ?_, ?_⟩
  · rw [eq k hk i (by omega) (by omega)]
    exact bd k hk i hi
  · rw [er k hk i (by omega) (by omega)]
    exact bd k hk i hi
  · refine zI_stb h hm hc hf ⟨Nat.le_refl q, by omega⟩ (fun j hj => ?_) (fun j hj => zqPl_o (by omega) q) (fun k hk i a b => ?_)
    · unfold zsc at hj
      rw [zAs_o (by omega), zPc_o q (fun m hm => by omega)]
    · rw [eq k hk i a b, er k hk i a b]
      exact zc_r
theorem zI_plain1 (h : zI kd n t zz md tc tg pt L R nn) {c l p q : Nat} (hc : c < 16) (hl : l < 16) (hp : p < 8) (hq : R 8 l = (q : Int)) (hf : q = 2 ∨ q = 3) :
    (∀ k : Nat, k < q → ∀ i : Nat, i < nn → -9223372036854775808 ≤ zPm nn l (88 + p) L q (178 + k) i ∧ zPm nn l (88 + p) L q (178 + k) i < 9223372036854775808) ∧
    (∀ k : Nat, k < q → ∀ i : Nat, i < nn → -9223372036854775808 ≤ zqPl nn l p t 1 R q 15 (32 * (k : Int) + i) ∧ zqPl nn l p t 1 R q 15 (32 * (k : Int) + i) < 9223372036854775808) ∧
    zI kd n t zz md tc tg (zpu pt (97 + 5 * c) q) (zSt nn c (zPm nn l (88 + p) L q) q) (zqb nn c (zlu (zqPl nn l p t 1 R q) 8 (zu (zqPl nn l p t 1 R q 8) c q)) q) nn := by
  have hn := zI_n32 h
  have ht := zI_tb h
  have hm := zI_full h hl (by omega)
  have er : ∀ k : Nat, k < q → ∀ i : Int, 0 ≤ i → i < nn → zqPl nn l p t 1 R q 15 (32 * (k : Int) + i) = zrd nn (zif nn (zqT l k (zqPl nn l p t 1 R k)) (zqPl nn l p t 1 R k 10)) (zif nn (fun i => zqPl nn l p t 1 R k 7 (32 * (p : Int) + i)) (zqPl nn l p t 1 R k 11)) i nn % 268435399 := fun k hk i a b => by
    rw [zqPl_15 hn a b q (by omega) k hk, zqp2_1 ⟨a, b⟩, zqp1_10, zqp1_11]
  refine ⟨fun k hk i hi => ?_, fun k hk i hi => ?_, ?_⟩
  · rw [zPm_at hn hl (by omega) (by omega) (by omega) q (by omega) k hk]
    have b2 := zM_b (A := 1000) (B := 268435399) (f := L (88 + p)) (g := L (97 + 5 * l + 1 + 1 + k)) (i := i) hn (by omega) (by omega) (fun j a b => by
      rw [zI_pl h p hp j a (by omega)]
      have := zI_pb' h (32 * (p : Int) + j) (by omega) (by omega)
      exact ⟨by omega, by omega⟩) (fun j a b => by
      have := zI_cb h hl (k := k) (by omega) (by omega) a b
      exact ⟨by omega, by omega⟩)
    generalize zMl nn (L (88 + p)) (L (97 + 5 * l + 1 + 1 + k)) i = x at *
    omega
  · rw [er k hk i (by omega) (by omega)]
    have := zqm (zrd nn (zif nn (zqT l k (zqPl nn l p t 1 R k)) (zqPl nn l p t 1 R k 10)) (zif nn (fun i => zqPl nn l p t 1 R k 7 (32 * (p : Int) + i)) (zqPl nn l p t 1 R k 11)) i nn)
    exact zb63 ⟨by omega, by omega⟩
  · refine zI_stb h hm hc hf ⟨Nat.le_refl q, by omega⟩ (fun j hj => ?_) (fun j hj => zqPl_o (by omega) q) (fun k hk i a b => ?_)
    · unfold zsc at hj
      rw [zPm_o q (fun m hm => by omega)]
    · rw [zPm_at hn hl (by omega) a b q (by omega) k hk, er k hk i a b]
      refine zc_s (zc_t (zrd_M ⟨a, b⟩) ?_)
      rw [zM_comm a, zM_c (f' := L (88 + p)) (g' := L (97 + 5 * l + 1 + 1 + k)) (fun j a b => by
        rw [zif_l ⟨a, b⟩, zqPl_o (j := 7) (by decide) k, zI_pl h p hp j a (by omega)]) (fun j a b => by
        rw [zif_l ⟨a, b⟩, zqT_c (Y := R) (zqPl_o (by decide) k) (zqPl_o (by decide) k), zI_take h hl (by omega) (by omega) a b])]
      exact zc_r
end ZPN
