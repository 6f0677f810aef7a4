set_option maxRecDepth 100000 in
set_option maxHeartbeats 4000000 in
theorem c_emptyCiphers (G : zG) (sz B : Nat) (kd n t zz : Int) (ch : Int32) (md tc : Int) (tg pt : Nat → Int) (L : Nat → Int → Int) (w0 : zW) : zCt G M_X_emptyCiphers (zR 0 0 0 0) [.ref B] sz (zsys G B kd n t zz ch md tc tg pt L w0) (zdet none (zsys G B kd n t zz ch md tc tg (zpe pt 16) L w0) sz) := by
  refine V_iconst d_X_emptyCiphers_0 ?_
  refine V_istore_n d_X_emptyCiphers_1 (by decide) ?_
  refine zfor 16 (fun i => V G M_X_emptyCiphers (zdet none (zsys G B kd n t zz ch md tc tg (zpe pt 16) L w0) sz) (zR 0 0 0 0) 0 0 sz 2 [(0, .ref B), (1, .int (Int32.ofInt (i : Int)))] [] (zsys G B kd n t zz ch md tc tg (zpe pt i) L w0)) ?_ (fun i hi ih => ?_) 0 (Nat.zero_le 16)
  · skip
    refine V_iload_n d_X_emptyCiphers_2 rfl ?_
    refine J_bipush d_X_emptyCiphers_3 (by decide) ?_
    refine J_icmp_ge 24 d_X_emptyCiphers_5 (by decide) (by omega) (by omega) (fun c_5 => ?_) (fun c_5 => absurd c_5 (by omega))
    exact V_return d_X_emptyCiphers_24 rfl ⟨Nat.le_of_ble_eq_true rfl, Nat.le_of_ble_eq_true rfl⟩ ⟨rfl, rfl, rfl⟩
  · skip
    refine V_iload_n d_X_emptyCiphers_2 rfl ?_
    refine J_bipush d_X_emptyCiphers_3 (by decide) ?_
    refine J_icmp_ge 24 d_X_emptyCiphers_5 (by decide) (by omega) (by omega) (fun c_5 => absurd c_5 (by omega)) (fun c_5 => ?_)
    refine V_aload_n d_X_emptyCiphers_8 rfl ?_
    refine V_getf d_X_emptyCiphers_9 ff_X_37 zsys_x0 rfl ?_
    refine V_iload_n d_X_emptyCiphers_12 rfl ?_
    refine J_aaload d_X_emptyCiphers_13 (zsys_at (by decide) rfl) rfl rfl (by omega) (by decide) ((zel (a := fun k => B + (97 + 5 * k)) hi).trans rfl : _ = some (B + (97 + 5 * i))) ?_
    refine V_iconst d_X_emptyCiphers_14 ?_
    refine V_putf d_X_emptyCiphers_15 ff_X_197 (zsys_at (by omega) (zlay_cip hi)) ⟨_, _, _, _, rfl, rfl, rfl, rfl, rfl⟩ (Nat.le_of_ble_eq_true rfl) ?_
    refine V_w (zsys_pt (v := 0) (c := i) hi rfl) ?_
    refine J_iinc d_X_emptyCiphers_18 rfl (by decide) ?_
    refine V_goto 2 d_X_emptyCiphers_21 (by decide) ?_
    exact ih

set_option maxRecDepth 100000 in
set_option maxHeartbeats 4000000 in
theorem c_fullCiphers (G : zG) (sz B : Nat) (kd n t zz : Int) (ch : Int32) (md tc : Int) (tg pt : Nat → Int) (L : Nat → Int → Int) (w0 : zW) (hpt : ∀ c : Nat, c < 16 → 0 ≤ pt (97 + 5 * c) ∧ pt (97 + 5 * c) ≤ 3) : zCt G M_X_fullCiphers (zR 0 0 0 0) [.ref B] sz (zsys G B kd n t zz ch md tc tg pt L w0) (zdet (some (.int (Int32.ofInt (zfc pt 16)))) (zsys G B kd n t zz ch md tc tg pt L w0) sz) := by
  refine V_iconst d_X_fullCiphers_0 ?_
  refine V_istore_n d_X_fullCiphers_1 (by decide) ?_
  refine V_iconst d_X_fullCiphers_2 ?_
  refine V_istore_n d_X_fullCiphers_3 (by decide) ?_
  refine zfor 16 (fun i => V G M_X_fullCiphers (zdet (some (.int (Int32.ofInt (zfc pt 16)))) (zsys G B kd n t zz ch md tc tg pt L w0) sz) (zR 0 0 0 0) 0 0 sz 4 [(0, .ref B), (1, .int (Int32.ofInt (zfc pt i))), (2, .int (Int32.ofInt (i : Int)))] [] (zsys G B kd n t zz ch md tc tg pt L w0)) ?_ (fun i hi ih => ?_) 0 (Nat.zero_le 16)
  · skip
    refine V_iload_n d_X_fullCiphers_4 rfl ?_
    refine J_bipush d_X_fullCiphers_5 (by decide) ?_
    refine J_icmp_ge 31 d_X_fullCiphers_7 (by decide) (by omega) (by omega) (fun c_7 => ?_) (fun c_7 => absurd c_7 (by omega))
    refine V_iload_n d_X_fullCiphers_31 rfl ?_
    exact V_ireturn d_X_fullCiphers_32 rfl ⟨Nat.le_of_ble_eq_true rfl, Nat.le_of_ble_eq_true rfl⟩ ⟨rfl, rfl, rfl⟩
  · have hp := hpt i hi
    refine V_iload_n d_X_fullCiphers_4 rfl ?_
    refine J_bipush d_X_fullCiphers_5 (by decide) ?_
    refine J_icmp_ge 31 d_X_fullCiphers_7 (by decide) (by omega) (by omega) (fun c_7 => absurd c_7 (by omega)) (fun c_7 => ?_)
    refine V_aload_n d_X_fullCiphers_10 rfl ?_
    refine V_getf d_X_fullCiphers_11 ff_X_37 zsys_x0 rfl ?_
    refine V_iload_n d_X_fullCiphers_14 rfl ?_
    refine J_aaload d_X_fullCiphers_15 (zsys_at (by decide) rfl) rfl rfl (by omega) (by decide) ((zel (a := fun k => B + (97 + 5 * k)) hi).trans rfl : _ = some (B + (97 + 5 * i))) ?_
    refine V_getf d_X_fullCiphers_16 ff_X_197 (zsys_at (by omega) (zlay_cip hi)) rfl ?_
    refine J_if_le 25 d_X_fullCiphers_19 (by decide) (by omega) (fun c_19 => ?_) (fun c_19 => ?_)
    · skip
      refine J_iinc d_X_fullCiphers_25 rfl (by decide) ?_
      refine V_goto 4 d_X_fullCiphers_28 (by decide) ?_
      rw [zfc_n c_19] at ih; exact ih
    · skip
      refine J_iinc d_X_fullCiphers_22 rfl (by decide) ?_
      refine J_iinc d_X_fullCiphers_25 rfl (by decide) ?_
      refine V_goto 4 d_X_fullCiphers_28 (by decide) ?_
      rw [zfc_s c_19] at ih; exact ih

set_option maxRecDepth 100000 in
set_option maxHeartbeats 4000000 in
theorem c_storeSums (G : zG) (sz B : Nat) (kd n t zz : Int) (ch : Int32) (md tc : Int) (tg pt : Nat → Int) (L : Nat → Int → Int) (w0 : zW) (nn : Nat) (hnn : n = (nn : Int)) (hn : nn ≤ 32) (c q : Nat) (hc : c < 16) (hq : q ≤ 3) (hR : ∀ k : Nat, k < q → ∀ i : Nat, i < nn → -9223372036854775808 ≤ L (178 + k) i ∧ L (178 + k) i < 9223372036854775808) : zCt G M_X_storeSums (zR 2 0 0 48) [.ref B, .ref (B + (97 + 5 * c)), .int (Int32.ofInt (q : Int))] sz (zsys G B kd n t zz ch md tc tg pt L w0) (zdet none (zsys G B kd n t zz ch md tc tg (zpu pt (97 + 5 * c) q) (zSt nn c L q) w0) sz) := by
  subst hnn
  refine V_iconst d_X_storeSums_0 ?_
  refine V_istore_n d_X_storeSums_1 (by decide) ?_
  refine zfor q (fun i => V G M_X_storeSums (zdet none (zsys G B kd nn t zz ch md tc tg (zpu pt (97 + 5 * c) q) (zSt nn c L q) w0) sz) (zR 2 0 0 48) 0 0 sz 2 [(0, .ref B), (1, .ref (B + (97 + 5 * c))), (2, .int (Int32.ofInt (q : Int))), (3, .int (Int32.ofInt (i : Int)))] [] (zsys G B kd nn t zz ch md tc tg pt (zSt nn c L i) w0)) ?_ (fun i hi ih => ?_) 0 (Nat.zero_le q)
  · skip
    refine V_iload_n d_X_storeSums_2 rfl ?_
    refine V_iload_n d_X_storeSums_3 rfl ?_
    refine J_icmp_ge 32 d_X_storeSums_4 (by decide) (by omega) (by omega) (fun c_4 => ?_) (fun c_4 => absurd c_4 (by omega))
    refine V_aload_n d_X_storeSums_32 rfl ?_
    refine V_iload_n d_X_storeSums_33 rfl ?_
    refine V_putf d_X_storeSums_34 ff_X_197 (zsys_at (by omega) (zlay_cip hc)) ⟨_, _, _, _, rfl, rfl, rfl, rfl, rfl⟩ (Nat.le_of_ble_eq_true rfl) ?_
    refine V_w (zsys_pt (v := (q : Int)) hc rfl) ?_
    exact V_return d_X_storeSums_37 rfl ⟨Nat.le_of_ble_eq_true rfl, Nat.le_of_ble_eq_true rfl⟩ ⟨rfl, rfl, rfl⟩
  · skip
    refine V_iload_n d_X_storeSums_2 rfl ?_
    refine V_iload_n d_X_storeSums_3 rfl ?_
    refine J_icmp_ge 32 d_X_storeSums_4 (by decide) (by omega) (by omega) (fun c_4 => absurd c_4 (by omega)) (fun c_4 => ?_)
    refine V_aload_n d_X_storeSums_7 rfl ?_
    refine V_getf d_X_storeSums_8 ff_X_12 zsys_x0 rfl ?_
    refine V_aload_n d_X_storeSums_11 rfl ?_
    refine V_getf d_X_storeSums_12 ff_X_221 (zsys_at (by omega) (zlay_cip hc)) rfl ?_
    refine V_iload_n d_X_storeSums_15 rfl ?_
    refine J_aaload d_X_storeSums_16 (zsys_at (by omega) (zlay_cir hc)) rfl rfl (by omega) (by decide) ((zel (a := fun k => B + (97 + 5 * c + 1 + 1 + k)) (show i < 3 by omega)).trans rfl : _ = some (B + (97 + 5 * c + 1 + 1 + i))) ?_
    refine V_aload_n d_X_storeSums_17 rfl ?_
    refine V_getf d_X_storeSums_18 ff_X_42 zsys_x0 rfl ?_
    refine V_iload_n d_X_storeSums_21 rfl ?_
    refine J_aaload d_X_storeSums_22 (zsys_at (by decide) rfl) rfl rfl (by omega) (by decide) ((zel (a := fun k => B + (178 + k)) (show i < 3 by omega)).trans rfl : _ = some (B + (178 + i))) ?_
    refine V_callV (n := 2) d_X_storeSums_23 g_X_291 rfl zsys_r rfl (c_reduce G _ _ (B + 1) (B + 2) kd nn t zz (B + (97 + 5 * c + 1 + 1 + i)) (B + (178 + i)) nn _ _ zsys_r (zsys_row (zir_c hc (by omega))) (zsys_row (zir_s (by omega))) (by omega) rfl hn (fun j hj => by rw [zSt_o hc i (fun k hk => by omega)]; exact hR i hi j hj)) ⟨co_Ring_reduce, by decide +kernel, Nat.le_of_ble_eq_true rfl⟩ ⟨Nat.le_of_ble_eq_true rfl, Nat.le_of_ble_eq_true rfl, Nat.le_of_ble_eq_true rfl, Nat.le_of_ble_eq_true rfl⟩ (Nat.le_of_ble_eq_true rfl) (fun r_23 w_23 s_23 q_23 => ?_) (fun _ _ _ q => False.elim q)
    obtain ⟨rfl, rfl, rfl⟩ := q_23
    refine V_w (zsys_lu (zir_c hc (by omega))) ?_
    refine J_iinc d_X_storeSums_26 rfl (by decide) ?_
    refine V_goto 2 d_X_storeSums_29 (by decide) ?_
    exact ih

set_option maxRecDepth 100000 in
set_option maxHeartbeats 4000000 in
theorem c_phaseOf (G : zG) (sz B : Nat) (kd n t zz : Int) (ch : Int32) (md tc : Int) (tg pt : Nat → Int) (L : Nat → Int → Int) (w0 : zW) (nn : Nat) (hnn : n = (nn : Int)) (hn : nn ≤ 32) (c : Nat) (hc : c < 16) (hp3 : 0 ≤ pt (97 + 5 * c) ∧ pt (97 + 5 * c) ≤ 3) (hR : ∀ i : Nat, i < nn → -9223372036854775808 ≤ zPs nn c (pt (97 + 5 * c)) L 85 i ∧ zPs nn c (pt (97 + 5 * c)) L 85 i < 9223372036854775808) : zCt G M_X_phaseOf (zR 4 0 0 94) [.ref B, .ref (B + (97 + 5 * c))] sz (zsys G B kd n t zz ch md tc tg pt L w0) (zdet (some (.ref (B + (182 + 0)))) (zsys G B kd n t zz ch md tc tg pt (zPL nn c (pt (97 + 5 * c)) L) w0) sz) := by
  subst hnn
  by_cases h3 : pt (97 + 5 * c) = 3
  · unfold zPs at hR
    rw [if_pos h3] at hR
    refine V_aload_n d_X_phaseOf_0 rfl ?_
    refine V_getf d_X_phaseOf_1 ff_X_45 zsys_x0 rfl ?_
    refine V_iconst d_X_phaseOf_4 ?_
    refine J_aaload d_X_phaseOf_5 (zsys_at (by decide) rfl) rfl rfl (by omega) (by decide) (show _ = some (B + (182 + 0)) from rfl) ?_
    refine V_astore_n d_X_phaseOf_6 (by decide) ?_
    refine V_aload_n d_X_phaseOf_7 rfl ?_
    refine V_getf d_X_phaseOf_8 ff_X_26 zsys_x0 rfl ?_
    refine V_aload_n d_X_phaseOf_11 rfl ?_
    refine V_getf d_X_phaseOf_12 ff_X_12 zsys_x0 rfl ?_
    refine V_aload_n d_X_phaseOf_15 rfl ?_
    refine V_aload_n d_X_phaseOf_16 rfl ?_
    refine V_callV (n := 3) d_X_phaseOf_17 g_X_294 rfl zsys_k rfl (c_findPhase3 G _ B kd nn t zz ch md tc tg pt L w0 nn rfl hn c (182 + 0) hc (zir_w (by decide)) (by decide) hp3 h3 hR) ⟨co_KeyRing_findPhase, by decide +kernel, Nat.le_of_ble_eq_true rfl⟩ ⟨Nat.le_of_ble_eq_true rfl, Nat.le_of_ble_eq_true rfl, Nat.le_of_ble_eq_true rfl, Nat.le_of_ble_eq_true rfl⟩ (Nat.le_of_ble_eq_true rfl) (fun r_17 w_17 s_17 q_17 => ?_) (fun _ _ _ q => False.elim q)
    obtain ⟨rfl, rfl, rfl⟩ := q_17
    refine V_aload_n d_X_phaseOf_20 rfl ?_
    exact V_areturn d_X_phaseOf_21 rfl (Or.inr ⟨_, rfl⟩) ⟨Nat.le_of_ble_eq_true rfl, Nat.le_of_ble_eq_true rfl⟩ ⟨rfl, by unfold zPL zPs; rw [if_pos h3], rfl⟩
  · unfold zPs at hR
    rw [if_neg h3] at hR
    refine V_aload_n d_X_phaseOf_0 rfl ?_
    refine V_getf d_X_phaseOf_1 ff_X_45 zsys_x0 rfl ?_
    refine V_iconst d_X_phaseOf_4 ?_
    refine J_aaload d_X_phaseOf_5 (zsys_at (by decide) rfl) rfl rfl (by omega) (by decide) (show _ = some (B + (182 + 0)) from rfl) ?_
    refine V_astore_n d_X_phaseOf_6 (by decide) ?_
    refine V_aload_n d_X_phaseOf_7 rfl ?_
    refine V_getf d_X_phaseOf_8 ff_X_26 zsys_x0 rfl ?_
    refine V_aload_n d_X_phaseOf_11 rfl ?_
    refine V_getf d_X_phaseOf_12 ff_X_12 zsys_x0 rfl ?_
    refine V_aload_n d_X_phaseOf_15 rfl ?_
    refine V_aload_n d_X_phaseOf_16 rfl ?_
    refine V_callV (n := 3) d_X_phaseOf_17 g_X_294 rfl zsys_k rfl (c_findPhase2 G _ B kd nn t zz ch md tc tg pt L w0 nn rfl hn c (182 + 0) hc (zir_w (by decide)) (by decide) hp3 h3 hR) ⟨co_KeyRing_findPhase, by decide +kernel, Nat.le_of_ble_eq_true rfl⟩ ⟨Nat.le_of_ble_eq_true rfl, Nat.le_of_ble_eq_true rfl, Nat.le_of_ble_eq_true rfl, Nat.le_of_ble_eq_true rfl⟩ (Nat.le_of_ble_eq_true rfl) (fun r_17 w_17 s_17 q_17 => ?_) (fun _ _ _ q => False.elim q)
    obtain ⟨rfl, rfl, rfl⟩ := q_17
    refine V_aload_n d_X_phaseOf_20 rfl ?_
    exact V_areturn d_X_phaseOf_21 rfl (Or.inr ⟨_, rfl⟩) ⟨Nat.le_of_ble_eq_true rfl, Nat.le_of_ble_eq_true rfl⟩ ⟨rfl, by unfold zPL zPs; rw [if_neg h3], rfl⟩

set_option maxRecDepth 100000 in
set_option maxHeartbeats 4000000 in
theorem c_noiseIn (G : zG) (sz B : Nat) (kd n t zz : Int) (ch : Int32) (md tc : Int) (tg pt : Nat → Int) (L : Nat → Int → Int) (w0 : zW) (nn : Nat) (hnn : n = (nn : Int)) (hn : nn ≤ 32) (a : Nat) (ha : zir a) (ht : 0 < t ∧ t ≤ 1000) (hR : ∀ i : Nat, i < nn → -9223372036854775808 ≤ t * L a i ∧ t * L a i < 9223372036854775808) : zCt G M_X_noiseIn (zR 2 0 0 48) [.ref B, .ref (B + a)] sz (zsys G B kd n t zz ch md tc tg pt L w0) (zdet (some (.long (Int64.ofInt (zNz t (L a) nn)))) (zsys G B kd n t zz ch md tc tg pt L w0) sz) := by
  subst hnn
  refine J_lconst (z := 0) d_X_noiseIn_0 rfl ?_
  refine V_lstore_n d_X_noiseIn_1 (by decide) ?_
  refine V_iconst d_X_noiseIn_2 ?_
  refine V_istore d_X_noiseIn_3 (by decide) ?_
  refine zfor nn (fun i => V G M_X_noiseIn (zdet (some (.long (Int64.ofInt (zNz t (L a) nn)))) (zsys G B kd nn t zz ch md tc tg pt L w0) sz) (zR 2 0 0 48) 0 0 sz 5 [(0, .ref B), (1, .ref (B + a)), (2, .long (Int64.ofInt (zNz t (L a) i))), (4, .int (Int32.ofInt (i : Int)))] [] (zsys G B kd nn t zz ch md tc tg pt L w0)) ?_ (fun i hi ih => ?_) 0 (Nat.zero_le nn)
  · skip
    refine V_iload d_X_noiseIn_5 rfl ?_
    refine V_aload_n d_X_noiseIn_7 rfl ?_
    refine V_getf d_X_noiseIn_8 ff_X_12 zsys_x0 rfl ?_
    refine V_getf d_X_noiseIn_11 ff_X_78 zsys_r rfl ?_
    refine J_icmp_ge 47 d_X_noiseIn_14 (by decide) (by omega) (by omega) (fun c_14 => ?_) (fun c_14 => absurd c_14 (by omega))
    refine V_lload_n d_X_noiseIn_47 rfl ?_
    exact V_lreturn d_X_noiseIn_48 rfl ⟨Nat.le_of_ble_eq_true rfl, Nat.le_of_ble_eq_true rfl⟩ ⟨rfl, rfl, rfl⟩
  · have hz := zNz_b t (L a) i
    have hz2 := zct_b (t * L a i)
    have hm := hR i hi
    refine V_iload d_X_noiseIn_5 rfl ?_
    refine V_aload_n d_X_noiseIn_7 rfl ?_
    refine V_getf d_X_noiseIn_8 ff_X_12 zsys_x0 rfl ?_
    refine V_getf d_X_noiseIn_11 ff_X_78 zsys_r rfl ?_
    refine J_icmp_ge 47 d_X_noiseIn_14 (by decide) (by omega) (by omega) (fun c_14 => absurd c_14 (by omega)) (fun c_14 => ?_)
    refine V_lload_n d_X_noiseIn_17 rfl ?_
    refine V_aload_n d_X_noiseIn_18 rfl ?_
    refine V_getf d_X_noiseIn_19 ff_X_12 zsys_x0 rfl ?_
    refine V_getf d_X_noiseIn_22 ff_X_117 zsys_r rfl ?_
    refine J_i2l d_X_noiseIn_25 (by omega) ?_
    refine V_aload_n d_X_noiseIn_26 rfl ?_
    refine V_iload d_X_noiseIn_27 rfl ?_
    refine J_laload d_X_noiseIn_29 (zsys_row ha) (by omega) (by decide) ?_
    refine J_lmul d_X_noiseIn_30 ?_
    refine V_callS (n := 1) d_X_noiseIn_31 g_X_298 rfl (c_centred G _ _ (t * L a i) hm) ⟨co_X_centred, by decide +kernel, Nat.le_of_ble_eq_true rfl⟩ ⟨Nat.le_of_ble_eq_true rfl, Nat.le_of_ble_eq_true rfl, Nat.le_of_ble_eq_true rfl, Nat.le_of_ble_eq_true rfl⟩ (Nat.le_of_ble_eq_true rfl) (fun r_31 w_31 s_31 q_31 => ?_) (fun _ _ _ q => False.elim q)
    obtain ⟨rfl, rfl, rfl⟩ := q_31
    refine V_callS (n := 1) d_X_noiseIn_34 g_X_301 rfl (c_absJ G _ _ (zct (t * L a i)) (by omega)) ⟨co_Math_abs, by decide +kernel, Nat.le_of_ble_eq_true rfl⟩ ⟨Nat.le_of_ble_eq_true rfl, Nat.le_of_ble_eq_true rfl, Nat.le_of_ble_eq_true rfl, Nat.le_of_ble_eq_true rfl⟩ (Nat.le_of_ble_eq_true rfl) (fun r_34 w_34 s_34 q_34 => ?_) (fun _ _ _ q => False.elim q)
    obtain ⟨rfl, rfl, rfl⟩ := q_34
    refine V_callS (n := 2) d_X_noiseIn_37 g_X_304 rfl (c_maxJ G _ _ (zNz t (L a) i) (zab (zct (t * L a i))) (by omega) (by unfold zab; split <;> omega)) ⟨co_Math_max_JJ, by decide +kernel, Nat.le_of_ble_eq_true rfl⟩ ⟨Nat.le_of_ble_eq_true rfl, Nat.le_of_ble_eq_true rfl, Nat.le_of_ble_eq_true rfl, Nat.le_of_ble_eq_true rfl⟩ (Nat.le_of_ble_eq_true rfl) (fun r_37 w_37 s_37 q_37 => ?_) (fun _ _ _ q => False.elim q)
    obtain ⟨rfl, rfl, rfl⟩ := q_37
    refine V_lstore_n d_X_noiseIn_40 (by decide) ?_
    refine J_iinc d_X_noiseIn_41 rfl (by decide) ?_
    refine V_goto 5 d_X_noiseIn_44 (by decide) ?_
    exact ih

set_option maxRecDepth 100000 in
set_option maxHeartbeats 4000000 in
theorem c_budgetOf (G : zG) (sz : Nat) (w : zW) (x : Int) (hx : 0 ≤ x ∧ x ≤ 134217699) : zCt G M_X_budgetOf (zR 0 0 0 0) [.long (Int64.ofInt x)] sz w (zdet (some (.int (Int32.ofInt ((zBu x 27 : Nat) : Int)))) w sz) := by
  have key : ∀ b : Nat, b ≤ 27 → zBu x 27 = zBu x b → V G M_X_budgetOf (zdet (some (.int (Int32.ofInt ((zBu x 27 : Nat) : Int)))) w sz) (zR 0 0 0 0) 0 0 sz 3 [(0, .long (Int64.ofInt x)), (2, .int (Int32.ofInt (b : Int)))] [] w := by
    intro b
    induction b with
    | zero =>
      intro _ h5
      refine V_iload_n d_X_budgetOf_3 rfl ?_
      refine J_if_le 25 d_X_budgetOf_4 (by decide) (by omega) (fun c_4 => ?_) (fun c_4 => absurd c_4 (by decide))
      refine V_iload_n d_X_budgetOf_25 rfl ?_
      exact V_ireturn d_X_budgetOf_26 rfl ⟨Nat.le_of_ble_eq_true rfl, Nat.le_of_ble_eq_true rfl⟩ ⟨by rw [h5]; rfl, rfl, rfl⟩
    | succ b ih =>
      intro h4 h5
      have hx2 : 0 ≤ x * 2 ^ (b + 1 + 1) ∧ x * 2 ^ (b + 1 + 1) < 9223372036854775808 := by
        have h6 : (2 : Int) ^ (b + 1 + 1) ≤ 2 ^ 28 := (show ∀ b : Nat, b < 27 → (2 : Int) ^ (b + 1 + 1) ≤ 2 ^ 28 by decide +kernel) b (by omega)
        have h7 : (0 : Int) < 2 ^ (b + 1 + 1) := Int.pow_pos (by decide)
        have h8 : x * 2 ^ (b + 1 + 1) ≤ 134217699 * 2 ^ 28 := Int.mul_le_mul hx.2 h6 (Int.le_of_lt h7) (by decide)
        have h9 := Int.mul_nonneg hx.1 (Int.le_of_lt h7)
        omega
      refine V_iload_n d_X_budgetOf_3 rfl ?_
      refine J_if_le 25 d_X_budgetOf_4 (by decide) (by omega) (fun c_4 => absurd c_4 (by omega)) (fun c_4 => ?_)
      refine V_lload_n d_X_budgetOf_7 rfl ?_
      refine V_iload_n d_X_budgetOf_8 rfl ?_
      refine V_iconst d_X_budgetOf_9 ?_
      refine J_iadd d_X_budgetOf_10 ?_
      rw [show ((b + 1 : Nat) : Int) + 1 = ((b + 1 + 1 : Nat) : Int) from rfl]
      refine V_lshl d_X_budgetOf_11 ?_
      rw [zshl2 (b := b + 1 + 1) (by omega)]
      refine J_ldc2 d_X_budgetOf_12 k_X_306 ?_
      refine JL_lt 25 d_X_budgetOf_15 d_X_budgetOf_16 (by decide) (by omega) (by omega) (fun c_15 => ?_) (fun c_15 => ?_)
      · skip
        refine V_iload_n d_X_budgetOf_25 rfl ?_
        exact V_ireturn d_X_budgetOf_26 rfl ⟨Nat.le_of_ble_eq_true rfl, Nat.le_of_ble_eq_true rfl⟩ ⟨by rw [h5]; show some (Value.int (Int32.ofInt (((if _ then b + 1 else _) : Nat) : Int))) = _; rw [if_pos c_15], rfl, rfl⟩
      · skip
        have e : zBu x 27 = zBu x b := by rw [h5]; show (if _ then _ else _) = _; rw [if_neg (show ¬ x * 2 ^ (b + 1 + 1) < 268435399 by omega)]
        have e9 : ((b + 1 : Nat) : Int) + -1 = (b : Int) := by omega
        refine J_iinc d_X_budgetOf_19 rfl (by decide) ?_
        rw [e9]
        refine V_goto 3 d_X_budgetOf_22 (by decide) ?_
        exact ih (by omega) e
  refine J_bipush d_X_budgetOf_0 (by decide) ?_
  refine V_istore_n d_X_budgetOf_2 (by decide) ?_
  exact key 27 (Nat.le_refl _) rfl

