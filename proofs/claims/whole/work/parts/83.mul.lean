/-! the product of two ciphers, on both sides -/
theorem zCe_at {nn s a : Nat} {L : Nat → Int → Int} {i : Int} (h : 0 ≤ i ∧ i < nn) : zCe nn s a L s i = zct (L a i) := by
  unfold zCe
  rw [zlu_s, zif_l h]
theorem zCe_o {nn s a j : Nat} {L : Nat → Int → Int} (h : j ≠ s) : zCe nn s a L j = L j := zlu_n h
theorem zFs_o {L : Nat → Int → Int} {j : Nat} : ∀ m : Nat, (∀ k, k < m → j ≠ 178 + k) → zFs L m j = L j
  | 0, _ => rfl
  | m + 1, h => by
    show zFl (178 + m) 0 (zFs L m) j = _
    rw [zFl_o (h m (Nat.lt_succ_self m))]
    exact zFs_o m (fun k hk => h k (by omega))
theorem zFs_at {L : Nat → Int → Int} {k : Nat} {i : Int} (hi : 0 ≤ i ∧ i < 32) : ∀ m : Nat, k < m → zFs L m (178 + k) i = 0
  | 0, h => absurd h (Nat.not_lt_zero k)
  | m + 1, h => by
    show zFl (178 + m) 0 (zFs L m) (178 + k) i = 0
    by_cases e : k = m
    · subst e
      exact zFl_at hi
    · rw [zFl_o (by omega)]
      exact zFs_at hi m (by omega)
theorem zTs_at {nn : Nat} {t : Int} {L : Nat → Int → Int} {k : Nat} {i : Int} (hi : 0 ≤ i ∧ i < nn) : ∀ m : Nat, k < m → zTs nn t L m (178 + k) i = zts t (L (178 + k) i)
  | 0, h => absurd h (Nat.not_lt_zero k)
  | m + 1, h => by
    show zTq nn (178 + m) t (zTs nn t L m) (178 + k) i = _
    unfold zTq
    by_cases e : k = m
    · subst e
      rw [zlu_s, zif_l hi, zTs_o k (fun j hj => by omega)]
    · rw [zlu_n (by omega)]
      exact zTs_at hi m (by omega)
section ZMP
variable {nn l r : Nat} {L : Nat → Int → Int}
theorem zMc_o {j : Nat} (h : j < 182) : zMc nn l r L j = L j := by
  unfold zMc
  rw [zCe_o (by omega), zCe_o (by omega), zCe_o (by omega), zCe_o (by omega)]
theorem zMc_0 {i : Int} (_hl : l < 16) (h : 0 ≤ i ∧ i < nn) : zMc nn l r L (182 + 0) i = zct (L (97 + 5 * l + 1 + 1 + 0) i) := by
  unfold zMc
  rw [zCe_o (by omega), zCe_o (by omega), zCe_o (by omega), zCe_at h]
theorem zMc_1 {i : Int} (hl : l < 16) (h : 0 ≤ i ∧ i < nn) : zMc nn l r L (182 + 1) i = zct (L (97 + 5 * l + 1 + 1 + 1) i) := by
  unfold zMc
  rw [zCe_o (by omega), zCe_o (by omega), zCe_at h, zCe_o (by omega)]
theorem zMc_2 {i : Int} (hr : r < 16) (h : 0 ≤ i ∧ i < nn) : zMc nn l r L (182 + 2) i = zct (L (97 + 5 * r + 1 + 1 + 0) i) := by
  unfold zMc
  rw [zCe_o (by omega), zCe_at h, zCe_o (by omega), zCe_o (by omega)]
theorem zMc_3 {i : Int} (hr : r < 16) (h : 0 ≤ i ∧ i < nn) : zMc nn l r L (182 + 3) i = zct (L (97 + 5 * r + 1 + 1 + 1) i) := by
  unfold zMc
  rw [zCe_at h, zCe_o (by omega), zCe_o (by omega), zCe_o (by omega)]
theorem zMp_w {k : Nat} (hk : k < 4) {X : Nat → Int → Int} (hX : ∀ j, 182 ≤ j → X j = zMc nn l r L j) : X (182 + k) = zMc nn l r L (182 + k) := hX _ (by omega)
theorem zMp_0 {i : Int} (hn : nn ≤ 32) (h0 : 0 ≤ i) (h1 : i < nn) : zMp nn l r L (178 + 0) i = zMl nn (zMc nn l r L (182 + 0)) (zMc nn l r L (182 + 2)) i := by
  unfold zMp
  rw [zAp_o (by decide), zAp_o (by decide), zAp_o (by decide), zAp_at h0 h1, zFs_at (by omega) 3 (by decide), zFs_o 3 (fun k hk => by omega), zFs_o 3 (fun k hk => by omega), Int.zero_add]
theorem zMp_1 {i : Int} (hn : nn ≤ 32) (h0 : 0 ≤ i) (h1 : i < nn) : zMp nn l r L (178 + 1) i = zMl nn (zMc nn l r L (182 + 0)) (zMc nn l r L (182 + 3)) i + zMl nn (zMc nn l r L (182 + 1)) (zMc nn l r L (182 + 2)) i := by
  unfold zMp
  rw [zAp_o (by decide), zAp_at h0 h1, zAp_at h0 h1, zAp_o (show 178 + 1 ≠ 178 + 0 by decide), zFs_at (by omega) 3 (by decide), zAp_o (show 182 + 1 ≠ 178 + 1 by decide), zAp_o (show 182 + 1 ≠ 178 + 0 by decide), zAp_o (show 182 + 2 ≠ 178 + 1 by decide), zAp_o (show 182 + 2 ≠ 178 + 0 by decide), zAp_o (show 182 + 0 ≠ 178 + 0 by decide), zAp_o (show 182 + 3 ≠ 178 + 0 by decide), zFs_o 3 (fun k hk => by omega), zFs_o 3 (fun k hk => by omega), zFs_o 3 (fun k hk => by omega), zFs_o 3 (fun k hk => by omega), Int.zero_add]
theorem zMp_2 {i : Int} (hn : nn ≤ 32) (h0 : 0 ≤ i) (h1 : i < nn) : zMp nn l r L (178 + 2) i = zMl nn (zMc nn l r L (182 + 1)) (zMc nn l r L (182 + 3)) i := by
  unfold zMp
  rw [zAp_at h0 h1, zAp_o (show 178 + 2 ≠ 178 + 1 by decide), zAp_o (show 178 + 2 ≠ 178 + 1 by decide), zAp_o (show 178 + 2 ≠ 178 + 0 by decide), zFs_at (by omega) 3 (by decide), zAp_o (show 182 + 1 ≠ 178 + 1 by decide), zAp_o (show 182 + 1 ≠ 178 + 1 by decide), zAp_o (show 182 + 1 ≠ 178 + 0 by decide), zAp_o (show 182 + 3 ≠ 178 + 1 by decide), zAp_o (show 182 + 3 ≠ 178 + 1 by decide), zAp_o (show 182 + 3 ≠ 178 + 0 by decide), zFs_o 3 (fun k hk => by omega), zFs_o 3 (fun k hk => by omega), Int.zero_add]
theorem zMp_o {j : Nat} (h : ¬ zsc j) : zMp nn l r L j = L j := by
  unfold zsc at h
  unfold zMp
  rw [zAp_o (by omega), zAp_o (by omega), zAp_o (by omega), zAp_o (by omega), zFs_o 3 (fun k hk => by omega)]
  unfold zMc
  rw [zCe_o (by omega), zCe_o (by omega), zCe_o (by omega), zCe_o (by omega)]
end ZMP
/-- the reference's side -/
theorem zqjP_12 {nn l a r b : Nat} {X : Nat → Int → Int} {i : Int} (h0 : 0 ≤ i) (h1 : i < nn) : zqjP nn l a r b X 12 i = X 12 i + zMl nn (fun j => zct (zqT l a X j)) (fun j => zct (zqT r b X j)) i := by
  have e1 : zqjP nn l a r b X 12 i = zif nn (fun i => zqjp nn (zqjc nn r b 11 (zqjc nn l a 10 X)) 12 i + zqjp nn (zqjc nn r b 11 (zqjc nn l a 10 X)) 13 i) (zqjp nn (zqjc nn r b 11 (zqjc nn l a 10 X)) 12) i := rfl
  have e2 : zqjp nn (zqjc nn r b 11 (zqjc nn l a 10 X)) 12 i = X 12 i := rfl
  have e3 : zqjp nn (zqjc nn r b 11 (zqjc nn l a 10 X)) 13 i = zif nn (fun i => zcp nn (zqjc nn l a 10 X 10) (zqjc nn r b 11 (zqjc nn l a 10 X) 11) i nn) (zqjc nn r b 11 (zqjc nn l a 10 X) 13) i := rfl
  have e4 : ∀ j : Int, zqjc nn l a 10 X 10 j = zif nn (fun i => zct (zif nn (zqT l a X) (X 10) i)) (zif nn (zqT l a X) (X 10)) j := fun j => rfl
  have e5 : ∀ j : Int, zqjc nn r b 11 (zqjc nn l a 10 X) 11 j = zif nn (fun i => zct (zif nn (zqT r b X) (X 11) i)) (zif nn (zqT r b X) (X 11)) j := fun j => rfl
  rw [e1, zif_l ⟨h0, h1⟩, e2, e3, zif_l ⟨h0, h1⟩, zcp_M ⟨h0, h1⟩, zM_c (f' := fun j => zct (zqT l a X j)) (g' := fun j => zct (zqT r b X j)) (fun j u v => by rw [e4, zif_l ⟨u, v⟩, zif_l ⟨u, v⟩]) (fun j u v => by rw [e5, zif_l ⟨u, v⟩, zif_l ⟨u, v⟩])]
theorem zqjS_12 {nn : Nat} {t : Int} {X : Nat → Int → Int} {i : Int} (h : 0 ≤ i ∧ i < nn) : zqjS nn t X 12 i = zts t (X 12 i) := by
  unfold zqjS
  rw [zlu_s, zif_l h]
theorem zqZ_12 {nn : Nat} {X : Nat → Int → Int} {i : Int} (h : 0 ≤ i ∧ i < nn) : zqZ nn X 12 i = 0 := by
  unfold zqZ
  rw [zlu_s, zif_l h]
/-- bounds -/
theorem zts_b2 {t v : Int} (ht : 0 < t ∧ t ≤ 1000) (hv : -4611686018427387904 ≤ v ∧ v ≤ 4611686018427387904) : -9223372036854775808 ≤ zts t v ∧ zts t v < 9223372036854775808 := by
  unfold zts
  have h1 := zbb (x := t) (y := v / 268435399) (A := 1000) (B := 20000000000) (by omega) (by omega)
  have h2 := zbb (x := 2 * t) (y := v % 268435399) (A := 2000) (B := 268435399) (by omega) (by omega)
  generalize t * (v / 268435399) = x at *
  generalize 2 * t * (v % 268435399) = y at *
  omega
section ZMU
variable {kd n t zz md tc : Int} {tg pt : Nat → Int} {L R : Nat → Int → Int} {nn : Nat}
set_option maxHeartbeats 4000000 in
theorem zI_join2 (h : zI kd n t zz md tc tg pt L R nn) {c l r : Nat} (hc : c < 16) (hl : l < 16) (hr : r < 16) (hl2 : R 8 l = 2) (hr2 : R 8 r = 2) :
    (∀ q : Nat, q < 2 → ∀ i : Nat, i < nn → -9223372036854775808 ≤ L (97 + 5 * l + 1 + 1 + q) i ∧ L (97 + 5 * l + 1 + 1 + q) i < 9223372036854775808) ∧
    (∀ q : Nat, q < 2 → ∀ i : Nat, i < nn → -9223372036854775808 ≤ L (97 + 5 * r + 1 + 1 + q) i ∧ L (97 + 5 * r + 1 + 1 + q) i < 9223372036854775808) ∧
    (∀ k : Nat, k < 3 → ∀ i : Nat, i < nn → -4611686018427387904 ≤ zMp nn l r L (178 + k) i ∧ zMp nn l r L (178 + k) i ≤ 4611686018427387904) ∧
    (∀ k : Nat, k < 3 → ∀ i : Nat, i < nn → -9223372036854775808 ≤ zTs nn t (zMp nn l r L) 3 (178 + k) i ∧ zTs nn t (zMp nn l r L) 3 (178 + k) i < 9223372036854775808) ∧
    (∀ X : Nat → Int → Int, X 8 = R 8 → X 9 = R 9 → ∀ i : Nat, i < nn → (-9223372036854775808 < zqjP nn l 0 r 0 (zqZ nn X) 12 i ∧ zqjP nn l 0 r 0 (zqZ nn X) 12 i < 9223372036854775808) ∧ (-9223372036854775808 < zqjP nn l 1 r 0 (zqjP nn l 0 r 1 (zqZ nn X)) 12 i ∧ zqjP nn l 1 r 0 (zqjP nn l 0 r 1 (zqZ nn X)) 12 i < 9223372036854775808) ∧ (-9223372036854775808 < zqjP nn l 1 r 1 (zqZ nn X) 12 i ∧ zqjP nn l 1 r 1 (zqZ nn X) 12 i < 9223372036854775808)) ∧
    (∀ k : Nat, k < 3 → ∀ i : Nat, i < nn → -9223372036854775808 ≤ zqM2 nn l r t (zqM1 nn l r t (zqM0 nn l r t R)) 15 (32 * (k : Int) + i) ∧ zqM2 nn l r t (zqM1 nn l r t (zqM0 nn l r t R)) 15 (32 * (k : Int) + i) < 9223372036854775808) ∧
    zI kd n t zz md tc tg (zpu pt (97 + 5 * c) (3 : Nat)) (zSt nn c (zTs nn t (zMp nn l r L) 3) 3) (zqb nn c (zlu (zqM2 nn l r t (zqM1 nn l r t (zqM0 nn l r t R))) 8 (zu (zqM2 nn l r t (zqM1 nn l r t (zqM0 nn l r t R)) 8) c (3 : Nat))) 3) nn := by
  have hn := zI_n32 h
  have ht := zI_tb h
  have hm := zI_full h hl (by omega)
  -- the four centred rows
  have cl : ∀ k : Nat, k < 2 → ∀ X : Nat → Int → Int, X 8 = R 8 → X 9 = R 9 → ∀ j : Int, 0 ≤ j → j < nn → zct (zqT l k X j) = zct (L (97 + 5 * l + 1 + 1 + k) j) := fun k hk X x8 x9 j a b => by
    rw [zqT_c x8 x9, zI_take h hl (by omega) (by omega) a b]
  have cr : ∀ k : Nat, k < 2 → ∀ X : Nat → Int → Int, X 8 = R 8 → X 9 = R 9 → ∀ j : Int, 0 ≤ j → j < nn → zct (zqT r k X j) = zct (L (97 + 5 * r + 1 + 1 + k) j) := fun k hk X x8 x9 j a b => by
    rw [zqT_c x8 x9, zI_take h hr (by omega) (by omega) a b]
  have bb : ∀ f g : Int → Int, (∀ j : Int, 0 ≤ j → j < nn → -134217699 ≤ f j ∧ f j ≤ 134217699) → (∀ j : Int, 0 ≤ j → j < nn → -134217699 ≤ g j ∧ g j ≤ 134217699) → ∀ i : Int, 0 ≤ i → i < nn → -(134217699 * 134217699 * 32) ≤ zMl nn f g i ∧ zMl nn f g i ≤ 134217699 * 134217699 * 32 := fun f g hf hg i a b => zM_b hn a b hf hg
  have r0 : ∀ j : Int, 0 ≤ j → j < nn → zMc nn l r L (182 + 0) j = zct (L (97 + 5 * l + 1 + 1 + 0) j) := fun j a b => zMc_0 hl ⟨a, b⟩
  have r1 : ∀ j : Int, 0 ≤ j → j < nn → zMc nn l r L (182 + 1) j = zct (L (97 + 5 * l + 1 + 1 + 1) j) := fun j a b => zMc_1 hl ⟨a, b⟩
  have r2 : ∀ j : Int, 0 ≤ j → j < nn → zMc nn l r L (182 + 2) j = zct (L (97 + 5 * r + 1 + 1 + 0) j) := fun j a b => zMc_2 hr ⟨a, b⟩
  have r3 : ∀ j : Int, 0 ≤ j → j < nn → zMc nn l r L (182 + 3) j = zct (L (97 + 5 * r + 1 + 1 + 1) j) := fun j a b => zMc_3 hr ⟨a, b⟩
  have q0 : ∀ i : Int, 0 ≤ i → i < nn → zMp nn l r L (178 + 0) i = zMl nn (zMc nn l r L (182 + 0)) (zMc nn l r L (182 + 2)) i := fun i a b => zMp_0 hn a b
  have q1 : ∀ i : Int, 0 ≤ i → i < nn → zMp nn l r L (178 + 1) i = zMl nn (zMc nn l r L (182 + 0)) (zMc nn l r L (182 + 3)) i + zMl nn (zMc nn l r L (182 + 1)) (zMc nn l r L (182 + 2)) i := fun i a b => zMp_1 hn a b
  have q2 : ∀ i : Int, 0 ≤ i → i < nn → zMp nn l r L (178 + 2) i = zMl nn (zMc nn l r L (182 + 1)) (zMc nn l r L (182 + 3)) i := fun i a b => zMp_2 hn a b
  have qo : ∀ j, ¬ zsc j → zMp nn l r L j = L j := fun j hj => zMp_o hj
  generalize zMc nn l r L (182 + 0) = f0 at *
  generalize zMc nn l r L (182 + 1) = f1 at *
  generalize zMc nn l r L (182 + 2) = f2 at *
  generalize zMc nn l r L (182 + 3) = f3 at *
  have b0 : ∀ j : Int, 0 ≤ j → j < nn → -134217699 ≤ f0 j ∧ f0 j ≤ 134217699 := fun j a b => by rw [r0 j a b]; exact zct_b _
  have b1 : ∀ j : Int, 0 ≤ j → j < nn → -134217699 ≤ f1 j ∧ f1 j ≤ 134217699 := fun j a b => by rw [r1 j a b]; exact zct_b _
  have b2 : ∀ j : Int, 0 ≤ j → j < nn → -134217699 ≤ f2 j ∧ f2 j ≤ 134217699 := fun j a b => by rw [r2 j a b]; exact zct_b _
  have b3 : ∀ j : Int, 0 ≤ j → j < nn → -134217699 ≤ f3 j ∧ f3 j ≤ 134217699 := fun j a b => by rw [r3 j a b]; exact zct_b _
  have mb : ∀ k : Nat, k < 3 → ∀ i : Int, 0 ≤ i → i < nn → -4611686018427387904 ≤ zMp nn l r L (178 + k) i ∧ zMp nn l r L (178 + k) i ≤ 4611686018427387904 := fun k hk i a b => by
    have u1 := bb f0 f2 b0 b2 i a b
    have u2 := bb f0 f3 b0 b3 i a b
    have u3 := bb f1 f2 b1 b2 i a b
    have u4 := bb f1 f3 b1 b3 i a b
    have hk3 : k = 0 ∨ k = 1 ∨ k = 2 := by omega
    rcases hk3 with rfl | rfl | rfl
    · rw [q0 i a b]
      generalize zMl nn f0 f2 i = x at *
      omega
    · rw [q1 i a b]
      generalize zMl nn f0 f3 i = x at *
      generalize zMl nn f1 f2 i = y at *
      omega
    · rw [q2 i a b]
      generalize zMl nn f1 f3 i = x at *
      omega
  -- the reference's three sums
  have s0 : ∀ X : Nat → Int → Int, X 8 = R 8 → X 9 = R 9 → ∀ i : Int, 0 ≤ i → i < nn → zqjP nn l 0 r 0 (zqZ nn X) 12 i = zMp nn l r L (178 + 0) i := fun X x8 x9 i a b => by
    have z8 : zqZ nn X 8 = R 8 := (zqZ_o (by decide)).trans x8
    have z9 : zqZ nn X 9 = R 9 := (zqZ_o (by decide)).trans x9
    rw [zqjP_12 a b, zqZ_12 ⟨a, b⟩, q0 i a b, Int.zero_add]
    exact zM_c (fun j u v => (cl 0 (by decide) (zqZ nn X) z8 z9 j u v).trans (r0 j u v).symm) (fun j u v => (cr 0 (by decide) (zqZ nn X) z8 z9 j u v).trans (r2 j u v).symm)
  have s1 : ∀ X : Nat → Int → Int, X 8 = R 8 → X 9 = R 9 → ∀ i : Int, 0 ≤ i → i < nn → zqjP nn l 1 r 0 (zqjP nn l 0 r 1 (zqZ nn X)) 12 i = zMp nn l r L (178 + 1) i := fun X x8 x9 i a b => by
    have z8 : zqZ nn X 8 = R 8 := (zqZ_o (by decide)).trans x8
    have z9 : zqZ nn X 9 = R 9 := (zqZ_o (by decide)).trans x9
    have y8 : zqjP nn l 0 r 1 (zqZ nn X) 8 = R 8 := (zqjP_o (by decide)).trans z8
    have y9 : zqjP nn l 0 r 1 (zqZ nn X) 9 = R 9 := (zqjP_o (by decide)).trans z9
    rw [zqjP_12 a b, zqjP_12 a b, zqZ_12 ⟨a, b⟩, q1 i a b, Int.zero_add]
    congr 1
    · exact zM_c (fun j u v => (cl 0 (by decide) (zqZ nn X) z8 z9 j u v).trans (r0 j u v).symm) (fun j u v => (cr 1 (by decide) (zqZ nn X) z8 z9 j u v).trans (r3 j u v).symm)
    · exact zM_c (fun j u v => (cl 1 (by decide) (zqjP nn l 0 r 1 (zqZ nn X)) y8 y9 j u v).trans (r1 j u v).symm) (fun j u v => (cr 0 (by decide) (zqjP nn l 0 r 1 (zqZ nn X)) y8 y9 j u v).trans (r2 j u v).symm)
  have s2 : ∀ X : Nat → Int → Int, X 8 = R 8 → X 9 = R 9 → ∀ i : Int, 0 ≤ i → i < nn → zqjP nn l 1 r 1 (zqZ nn X) 12 i = zMp nn l r L (178 + 2) i := fun X x8 x9 i a b => by
    have z8 : zqZ nn X 8 = R 8 := (zqZ_o (by decide)).trans x8
    have z9 : zqZ nn X 9 = R 9 := (zqZ_o (by decide)).trans x9
    rw [zqjP_12 a b, zqZ_12 ⟨a, b⟩, q2 i a b, Int.zero_add]
    exact zM_c (fun j u v => (cl 1 (by decide) (zqZ nn X) z8 z9 j u v).trans (r1 j u v).symm) (fun j u v => (cr 1 (by decide) (zqZ nn X) z8 z9 j u v).trans (r3 j u v).symm)
  have m8 : zqM0 nn l r t R 8 = R 8 := zqM0_o (by decide)
  have m9 : zqM0 nn l r t R 9 = R 9 := zqM0_o (by decide)
  have n8 : zqM1 nn l r t (zqM0 nn l r t R) 8 = R 8 := (zqM1_o (by decide)).trans m8
  have n9 : zqM1 nn l r t (zqM0 nn l r t R) 9 = R 9 := (zqM1_o (by decide)).trans m9
  have w : ∀ k : Nat, k < 3 → ∀ i : Int, 0 ≤ i → i < nn → zqM2 nn l r t (zqM1 nn l r t (zqM0 nn l r t R)) 15 (32 * (k : Int) + i) = zts t (zMp nn l r L (178 + k) i) := fun k hk i a b => by
    have hk3 : k = 0 ∨ k = 1 ∨ k = 2 := by omega
    rcases hk3 with rfl | rfl | rfl
    · unfold zqM2
      rw [zqw_15, zsf_r (by omega), zqjS_o (by decide), zqjP_o (by decide), zqZ_o (by decide)]
      unfold zqM1
      rw [zqw_15, zsf_r (by omega), zqjS_o (by decide), zqjP_o (by decide), zqjP_o (by decide), zqZ_o (by decide)]
      unfold zqM0
      rw [zqw_15, zsf_l (by omega), show 32 * ((0 : Nat) : Int) + i - 32 * ((0 : Nat) : Int) = i by omega, zqjS_12 ⟨a, b⟩, s0 R rfl rfl i a b]
    · unfold zqM2
      rw [zqw_15, zsf_r (by omega), zqjS_o (by decide), zqjP_o (by decide), zqZ_o (by decide)]
      unfold zqM1
      rw [zqw_15, zsf_l (by omega), show 32 * ((1 : Nat) : Int) + i - 32 * ((1 : Nat) : Int) = i by omega, zqjS_12 ⟨a, b⟩, s1 _ m8 m9 i a b]
    · unfold zqM2
      rw [zqw_15, zsf_l (by omega), show 32 * ((2 : Nat) : Int) + i - 32 * ((2 : Nat) : Int) = i by omega, zqjS_12 ⟨a, b⟩, s2 _ n8 n9 i a b]
  have tb : ∀ k : Nat, k < 3 → ∀ i : Int, 0 ≤ i → i < nn → -9223372036854775808 ≤ zts t (zMp nn l r L (178 + k) i) ∧ zts t (zMp nn l r L (178 + k) i) < 9223372036854775808 := fun k hk i a b => zts_b2 (by omega) (mb k hk i a b)
  have z62 : ∀ x : Int, -4611686018427387904 ≤ x ∧ x ≤ 4611686018427387904 → -9223372036854775808 < x ∧ x < 9223372036854775808 := fun x hx => ⟨by omega, by omega⟩
  refine ⟨fun q hq i hi => ?_, fun q hq i hi => ?_, fun k hk i hi => mb k hk i (by omega) (by omega), fun k hk i hi => ?_, fun X x8 x9 i hi => ?_, fun k hk i hi => ?_, zI_stb h hm hc (Or.inr rfl) ⟨Nat.le_refl 3, Nat.le_refl 3⟩ (fun j hj => ?_) (fun j hj => ?_) (fun k hk i a b => ?_)⟩
  · have := zI_cb h hl (k := q) (by omega) (by omega) (show (0 : Int) ≤ i by omega) (by omega)
    exact zb63 ⟨by omega, by omega⟩
  · have := zI_cb h hr (k := q) (by omega) (by omega) (show (0 : Int) ≤ i by omega) (by omega)
    exact zb63 ⟨by omega, by omega⟩
  · rw [zTs_at (by omega) 3 hk]
    exact tb k hk i (by omega) (by omega)
  · rw [s0 X x8 x9 i (by omega) (by omega), s1 X x8 x9 i (by omega) (by omega), s2 X x8 x9 i (by omega) (by omega)]
    exact ⟨z62 _ (mb 0 (by decide) i (by omega) (by omega)), z62 _ (mb 1 (by decide) i (by omega) (by omega)), z62 _ (mb 2 (by decide) i (by omega) (by omega))⟩
  · rw [w k hk i (by omega) (by omega)]
    exact tb k hk i (by omega) (by omega)
  · unfold zsc at hj
    rw [zTs_o 3 (fun k hk => by omega)]
    exact qo j (by unfold zsc; omega)
  · rw [zqM2_o (by omega), zqM1_o (by omega), zqM0_o (by omega)]
  · rw [zTs_at ⟨a, b⟩ 3 hk, w k hk i a b]
    exact zc_r
end ZMU
