section ZCm
variable {nn l r i : Nat} {pl pr f : Int} {L : Nat → Int → Int}
theorem zCm_nn (h1 : pl ≤ i) (h2 : pr ≤ i) : zCm nn l r pl pr f L (i + 1) = zFl (178 + i) 0 (zCm nn l r pl pr f L i) := by
  conv => { lhs; unfold zCm }
  dsimp only
  rw [if_neg (Int.not_lt.mpr h1), if_neg (Int.not_lt.mpr h2)]
theorem zCm_np (h1 : pl ≤ i) (h2 : (i : Int) < pr) : zCm nn l r pl pr f L (i + 1) = zAs nn (178 + i) (97 + 5 * r + 1 + 1 + i) f (zFl (178 + i) 0 (zCm nn l r pl pr f L i)) := by
  conv => { lhs; unfold zCm }
  dsimp only
  rw [if_neg (Int.not_lt.mpr h1), if_pos h2]
theorem zCm_pn (h1 : (i : Int) < pl) (h2 : pr ≤ i) : zCm nn l r pl pr f L (i + 1) = zAs nn (178 + i) (97 + 5 * l + 1 + 1 + i) 1 (zFl (178 + i) 0 (zCm nn l r pl pr f L i)) := by
  conv => { lhs; unfold zCm }
  dsimp only
  rw [if_pos h1, if_neg (Int.not_lt.mpr h2)]
theorem zCm_pp (h1 : (i : Int) < pl) (h2 : (i : Int) < pr) : zCm nn l r pl pr f L (i + 1) = zAs nn (178 + i) (97 + 5 * r + 1 + 1 + i) f (zAs nn (178 + i) (97 + 5 * l + 1 + 1 + i) 1 (zFl (178 + i) 0 (zCm nn l r pl pr f L i))) := by
  conv => { lhs; unfold zCm }
  dsimp only
  rw [if_pos h1, if_pos h2]
end ZCm

set_option maxRecDepth 100000 in
set_option maxHeartbeats 4000000 in
theorem c_applySwitch (G : zG) (sz B : Nat) (kd n t zz : Int) (ch : Int32) (md tc : Int) (tg pt : Nat → Int) (L : Nat → Int → Int) (w0 : zW) (nn : Nat) (hnn : n = (nn : Int)) (hn : nn ≤ 32) (j a : Nat) (hj : j = 9 ∨ j = 25 ∨ j = 40 ∨ j = 55 ∨ j = 70) (ha : zir a) (h178 : a ≠ 178) (h179 : a ≠ 179) (h183 : a ≠ 183) (hR : ∀ i : Nat, i < nn → 0 ≤ L a i ∧ L a i < 268435456) : zCt G M_X_applySwitch (zR 1 0 0 27) [.ref B, .ref (B + j), .ref (B + a)] sz (zsys G B kd n t zz ch md tc tg pt L w0) (zdet none (zsys G B kd n t zz ch md tc tg pt (zAw nn j a L 6) w0) sz) := by
  subst hnn
  refine V_aload_n d_X_applySwitch_0 rfl ?_
  refine V_getf d_X_applySwitch_1 ff_X_45 zsys_x0 rfl ?_
  refine V_iconst d_X_applySwitch_4 ?_
  refine J_aaload d_X_applySwitch_5 (zsys_at (by decide) rfl) rfl rfl (by omega) (by decide) (show _ = some (B + (182 + 1)) from rfl) ?_
  refine V_astore_n d_X_applySwitch_6 (by decide) ?_
  refine V_iconst d_X_applySwitch_7 ?_
  refine V_istore d_X_applySwitch_8 (by decide) ?_
  refine zfor 6 (fun k => V G M_X_applySwitch (zdet none (zsys G B kd nn t zz ch md tc tg pt (zAw nn j a L 6) w0) sz) (zR 1 0 0 27) 0 0 sz 10 [(0, .ref B), (1, .ref (B + j)), (2, .ref (B + a)), (3, .ref (B + (182 + 1))), (4, .int (Int32.ofInt (k : Int)))] [] (zsys G B kd nn t zz ch md tc tg pt (zAw nn j a L k) w0)) ?_ (fun k hk ih => ?_) 0 (Nat.zero_le 6)
  · skip
    refine V_iload d_X_applySwitch_10 rfl ?_
    refine J_bipush d_X_applySwitch_12 (by decide) ?_
    refine J_icmp_ge 103 d_X_applySwitch_14 (by decide) (by omega) (by omega) (fun c_14 => ?_) (fun c_14 => absurd c_14 (by omega))
    exact V_return d_X_applySwitch_103 rfl ⟨Nat.le_of_ble_eq_true rfl, Nat.le_of_ble_eq_true rfl⟩ ⟨rfl, rfl, rfl⟩
  · have hX : ∀ i : Nat, i < nn → 0 ≤ zAw nn j a L k a i ∧ zAw nn j a L k a i < 268435456 := fun i hi => by rw [zAw_o ⟨h178, h179, h183⟩ k]; exact hR i hi
    refine V_iload d_X_applySwitch_10 rfl ?_
    refine J_bipush d_X_applySwitch_12 (by decide) ?_
    refine J_icmp_ge 103 d_X_applySwitch_14 (by decide) (by omega) (by omega) (fun c_14 => absurd c_14 (by omega)) (fun c_14 => ?_)
    refine V_iconst d_X_applySwitch_17 ?_
    refine V_istore d_X_applySwitch_18 (by decide) ?_
    refine V_w (w' := (zsys G B kd nn t zz ch md tc tg pt (zlu (zAw nn j a L k) (182 + 1) (zif ((0 : Nat) : Int) (fun i => (zAw nn j a L k) a i / 32 ^ k % 32) ((zAw nn j a L k) (182 + 1)))) w0)) (by rw [show ((0 : Nat) : Int) = 0 from rfl, zif_0, ← zsys_lu (zir_w (by decide)), zset_self (zsys_row (zir_w (by decide)))]) ?_
    refine zfor nn (fun i => V G M_X_applySwitch (zdet none (zsys G B kd nn t zz ch md tc tg pt (zAw nn j a L 6) w0) sz) (zR 1 0 0 27) 0 0 sz 20 [(0, .ref B), (1, .ref (B + j)), (2, .ref (B + a)), (3, .ref (B + (182 + 1))), (4, .int (Int32.ofInt (k : Int))), (5, .int (Int32.ofInt (i : Int)))] [] (zsys G B kd nn t zz ch md tc tg pt (zlu (zAw nn j a L k) (182 + 1) (zif (i : Int) (fun i => (zAw nn j a L k) a i / 32 ^ k % 32) ((zAw nn j a L k) (182 + 1)))) w0)) ?_ (fun i hi ih2 => ?_) 0 (Nat.zero_le nn)
    · skip
      refine V_iload d_X_applySwitch_20 rfl ?_
      refine V_aload_n d_X_applySwitch_22 rfl ?_
      refine V_getf d_X_applySwitch_23 ff_X_12 zsys_x0 rfl ?_
      refine V_getf d_X_applySwitch_26 ff_X_78 zsys_r rfl ?_
      refine J_icmp_ge 55 d_X_applySwitch_29 (by decide) (by omega) (by omega) (fun c_29 => ?_) (fun c_29 => absurd c_29 (by omega))
      refine V_aload_n d_X_applySwitch_55 rfl ?_
      refine V_getf d_X_applySwitch_56 ff_X_12 zsys_x0 rfl ?_
      refine V_aload_n d_X_applySwitch_59 rfl ?_
      refine V_getf d_X_applySwitch_60 ff_X_42 zsys_x0 rfl ?_
      refine V_iconst d_X_applySwitch_63 ?_
      refine J_aaload d_X_applySwitch_64 (zsys_at (by decide) rfl) rfl rfl (by omega) (by decide) (show _ = some (B + (178 + 0)) from rfl) ?_
      refine V_aload_n d_X_applySwitch_65 rfl ?_
      refine V_aload_n d_X_applySwitch_66 rfl ?_
      refine V_getf d_X_applySwitch_67 ff_X_283 (zsys_at (by omega) (zlay_swk hj)) rfl ?_
      refine V_iload d_X_applySwitch_70 rfl ?_
      refine J_aaload d_X_applySwitch_72 (zsys_at (by omega) (zlay_swr (by omega))) rfl rfl (by omega) (by decide) ((zel (a := fun k => B + (j + 1 + 1 + k)) hk).trans rfl : _ = some (B + (j + 1 + 1 + k))) ?_
      refine V_callV (n := 3) d_X_applySwitch_73 g_X_154 rfl zsys_r rfl (c_addProduct G _ _ (B + 1) (B + 2) kd nn t zz (B + (178 + 0)) (B + (182 + 1)) (B + (j + 1 + 1 + k)) nn _ _ _ zsys_r (zsys_row (zir_s (by decide))) (zsys_row (zir_w (by decide))) (zsys_row (zir_b hj hk)) (by omega) (by omega) rfl hn) ⟨co_Ring_addProduct, by decide +kernel, Nat.le_of_ble_eq_true rfl⟩ ⟨Nat.le_of_ble_eq_true rfl, Nat.le_of_ble_eq_true rfl, Nat.le_of_ble_eq_true rfl, Nat.le_of_ble_eq_true rfl⟩ (Nat.le_of_ble_eq_true rfl) (fun r_73 w_73 s_73 q_73 => ?_) (fun _ _ _ q => False.elim q)
      obtain ⟨rfl, rfl, rfl⟩ := q_73
      refine V_w (zsys_lu (zir_s (by decide))) ?_
      refine V_aload_n d_X_applySwitch_76 rfl ?_
      refine V_getf d_X_applySwitch_77 ff_X_12 zsys_x0 rfl ?_
      refine V_aload_n d_X_applySwitch_80 rfl ?_
      refine V_getf d_X_applySwitch_81 ff_X_42 zsys_x0 rfl ?_
      refine V_iconst d_X_applySwitch_84 ?_
      refine J_aaload d_X_applySwitch_85 (zsys_at (by decide) rfl) rfl rfl (by omega) (by decide) (show _ = some (B + (178 + 1)) from rfl) ?_
      refine V_aload_n d_X_applySwitch_86 rfl ?_
      refine V_aload_n d_X_applySwitch_87 rfl ?_
      refine V_getf d_X_applySwitch_88 ff_X_288 (zsys_at (by omega) (zlay_swk hj)) rfl ?_
      refine V_iload d_X_applySwitch_91 rfl ?_
      refine J_aaload d_X_applySwitch_93 (zsys_at (by omega) (zlay_swr (by omega))) rfl rfl (by omega) (by decide) ((zel (a := fun k => B + (j + 8 + 1 + k)) hk).trans rfl : _ = some (B + (j + 8 + 1 + k))) ?_
      refine V_callV (n := 3) d_X_applySwitch_94 g_X_154 rfl zsys_r rfl (c_addProduct G _ _ (B + 1) (B + 2) kd nn t zz (B + (178 + 1)) (B + (182 + 1)) (B + (j + 8 + 1 + k)) nn _ _ _ zsys_r (zsys_row (zir_s (by decide))) (zsys_row (zir_w (by decide))) (zsys_row (zir_m hj hk)) (by omega) (by omega) rfl hn) ⟨co_Ring_addProduct, by decide +kernel, Nat.le_of_ble_eq_true rfl⟩ ⟨Nat.le_of_ble_eq_true rfl, Nat.le_of_ble_eq_true rfl, Nat.le_of_ble_eq_true rfl, Nat.le_of_ble_eq_true rfl⟩ (Nat.le_of_ble_eq_true rfl) (fun r_94 w_94 s_94 q_94 => ?_) (fun _ _ _ q => False.elim q)
      obtain ⟨rfl, rfl, rfl⟩ := q_94
      refine V_w (zsys_lu (zir_s (by decide))) ?_
      refine J_iinc d_X_applySwitch_97 rfl (by decide) ?_
      refine V_goto 10 d_X_applySwitch_100 (by decide) ?_
      exact V_lo [0, 1, 2, 3, 4] rfl ih
    · skip
      refine V_iload d_X_applySwitch_20 rfl ?_
      refine V_aload_n d_X_applySwitch_22 rfl ?_
      refine V_getf d_X_applySwitch_23 ff_X_12 zsys_x0 rfl ?_
      refine V_getf d_X_applySwitch_26 ff_X_78 zsys_r rfl ?_
      refine J_icmp_ge 55 d_X_applySwitch_29 (by decide) (by omega) (by omega) (fun c_29 => absurd c_29 (by omega)) (fun c_29 => ?_)
      refine V_aload_n d_X_applySwitch_32 rfl ?_
      refine V_iload d_X_applySwitch_33 rfl ?_
      refine V_aload_n d_X_applySwitch_35 rfl ?_
      refine V_iload d_X_applySwitch_36 rfl ?_
      refine J_laload d_X_applySwitch_38 (zsys_row ha) (by omega) (by decide) ?_
      rw [zlu_n h183]
      refine V_iconst d_X_applySwitch_39 ?_
      refine V_iload d_X_applySwitch_40 rfl ?_
      refine J_imul d_X_applySwitch_42 ?_
      refine V_lshr d_X_applySwitch_43 ?_
      refine J_ldc2 d_X_applySwitch_44 k_X_281 ?_
      refine V_land d_X_applySwitch_47 ?_
      rw [zdig (hX i hi) hk]
      refine J_lastore d_X_applySwitch_48 (zsys_row (zir_w (by decide))) (by omega) (by decide) ?_
      refine J_iinc d_X_applySwitch_49 rfl (by decide) ?_
      refine V_goto 20 d_X_applySwitch_52 (by decide) ?_
      exact V_w (by rw [zsys_lu (zir_w (by decide)), zlu_s, zif_s (by omega) rfl, zlu_lu]; rfl) ih2

set_option maxRecDepth 100000 in
set_option maxHeartbeats 4000000 in
theorem c_storeTwoParts (G : zG) (sz B : Nat) (kd n t zz : Int) (ch : Int32) (md tc : Int) (tg pt : Nat → Int) (L : Nat → Int → Int) (w0 : zW) (nn : Nat) (hnn : n = (nn : Int)) (hn : nn ≤ 32) (c : Nat) (hc : c < 16) (ht : 0 < t ∧ t ≤ 1000) (hR : ∀ k : Nat, k < 2 → ∀ i : Nat, i < nn → -9223372036854775808 ≤ L (178 + k) i ∧ L (178 + k) i < 9223372036854775808) (hP : ∀ i : Nat, i < nn → -9223372036854775808 ≤ zPs nn c 2 (zSt nn c L 2) 85 i ∧ zPs nn c 2 (zSt nn c L 2) 85 i < 9223372036854775808) (hM : ∀ i : Nat, i < nn → -9223372036854775808 ≤ t * (zPL nn c 2 (zSt nn c L 2)) (182 + 0) i ∧ t * (zPL nn c 2 (zSt nn c L 2)) (182 + 0) i < 9223372036854775808) : zCt G M_X_storeTwoParts (zR 5 0 0 116) [.ref B, .ref (B + (97 + 5 * c))] sz (zsys G B kd n t zz ch md tc tg pt L w0) (zdet (some (.int (Int32.ofInt ((zBu (zNz t ((zPL nn c 2 (zSt nn c L 2)) (182 + 0)) nn) 27 : Nat) : Int)))) (zsys G B kd n t zz ch md tc tg (zpu pt (97 + 5 * c) 2) (zPL nn c 2 (zSt nn c L 2)) w0) sz) := by
  subst hnn
  have hpp : zpu pt (97 + 5 * c) 2 (97 + 5 * c) = 2 := if_pos rfl
  refine V_aload_n d_X_storeTwoParts_0 rfl ?_
  refine V_aload_n d_X_storeTwoParts_1 rfl ?_
  refine V_iconst d_X_storeTwoParts_2 ?_
  refine V_callV (n := 2) d_X_storeTwoParts_3 g_X_274 rfl zsys_x0 rfl (c_storeSums G _ B kd nn t zz ch md tc tg pt L w0 nn rfl hn c 2 hc (by omega) hR) ⟨co_X_storeSums, by decide +kernel, Nat.le_of_ble_eq_true rfl⟩ ⟨Nat.le_of_ble_eq_true rfl, Nat.le_of_ble_eq_true rfl, Nat.le_of_ble_eq_true rfl, Nat.le_of_ble_eq_true rfl⟩ (Nat.le_of_ble_eq_true rfl) (fun r_3 w_3 s_3 q_3 => ?_) (fun _ _ _ q => False.elim q)
  obtain ⟨rfl, rfl, rfl⟩ := q_3
  refine V_aload_n d_X_storeTwoParts_6 rfl ?_
  refine V_aload_n d_X_storeTwoParts_7 rfl ?_
  refine V_aload_n d_X_storeTwoParts_8 rfl ?_
  refine V_callV (n := 1) d_X_storeTwoParts_9 g_X_176 rfl zsys_x0 rfl (c_phaseOf G _ B kd nn t zz ch md tc tg (zpu pt (97 + 5 * c) 2) (zSt nn c L 2) w0 nn rfl hn c hc (by rw [hpp]; omega) (by rw [hpp]; exact hP)) ⟨co_X_phaseOf, by decide +kernel, Nat.le_of_ble_eq_true rfl⟩ ⟨Nat.le_of_ble_eq_true rfl, Nat.le_of_ble_eq_true rfl, Nat.le_of_ble_eq_true rfl, Nat.le_of_ble_eq_true rfl⟩ (Nat.le_of_ble_eq_true rfl) (fun r_9 w_9 s_9 q_9 => ?_) (fun _ _ _ q => False.elim q)
  obtain ⟨rfl, rfl, rfl⟩ := q_9
  rw [hpp]
  refine V_callV (n := 1) d_X_storeTwoParts_12 g_X_187 rfl zsys_x0 rfl (c_noiseIn G _ B kd nn t zz ch md tc tg (zpu pt (97 + 5 * c) 2) (zPL nn c 2 (zSt nn c L 2)) w0 nn rfl hn (182 + 0) (zir_w (by decide)) ht hM) ⟨co_X_noiseIn, by decide +kernel, Nat.le_of_ble_eq_true rfl⟩ ⟨Nat.le_of_ble_eq_true rfl, Nat.le_of_ble_eq_true rfl, Nat.le_of_ble_eq_true rfl, Nat.le_of_ble_eq_true rfl⟩ (Nat.le_of_ble_eq_true rfl) (fun r_12 w_12 s_12 q_12 => ?_) (fun _ _ _ q => False.elim q)
  obtain ⟨rfl, rfl, rfl⟩ := q_12
  refine V_callS (n := 1) d_X_storeTwoParts_15 g_X_191 rfl (c_budgetOf G _ _ (zNz t ((zPL nn c 2 (zSt nn c L 2)) (182 + 0)) nn) (zNz_b _ _ _)) ⟨co_X_budgetOf, by decide +kernel, Nat.le_of_ble_eq_true rfl⟩ ⟨Nat.le_of_ble_eq_true rfl, Nat.le_of_ble_eq_true rfl, Nat.le_of_ble_eq_true rfl, Nat.le_of_ble_eq_true rfl⟩ (Nat.le_of_ble_eq_true rfl) (fun r_15 w_15 s_15 q_15 => ?_) (fun _ _ _ q => False.elim q)
  obtain ⟨rfl, rfl, rfl⟩ := q_15
  exact V_ireturn d_X_storeTwoParts_18 rfl ⟨Nat.le_of_ble_eq_true rfl, Nat.le_of_ble_eq_true rfl⟩ ⟨rfl, rfl, rfl⟩

set_option maxRecDepth 100000 in
set_option maxHeartbeats 4000000 in
theorem c_addPlain (G : zG) (sz B : Nat) (kd n t zz : Int) (ch : Int32) (md tc : Int) (tg pt : Nat → Int) (L : Nat → Int → Int) (w0 : zW) (nn : Nat) (hnn : n = (nn : Int)) (hn : nn ≤ 32) (c d a q : Nat) (hc : c < 16) (hd : d < 16) (ha : zir a) (ha2 : a ≠ 178) (hq : q ≤ 3) (hpt : pt (97 + 5 * d) = (q : Int)) (ht : 0 < t ∧ t < 1000) (hR : ∀ k : Nat, k < q → ∀ i : Nat, i < nn → -9223372036854775808 ≤ (zAs nn (178 + 0) a (268435399 / t) (zPc nn d L q)) (178 + k) i ∧ (zAs nn (178 + 0) a (268435399 / t) (zPc nn d L q)) (178 + k) i < 9223372036854775808) : zCt G M_X_addPlain (zR 3 0 0 71) [.ref B, .ref (B + (97 + 5 * c)), .ref (B + (97 + 5 * d)), .ref (B + a)] sz (zsys G B kd n t zz ch md tc tg pt L w0) (zdet none (zsys G B kd n t zz ch md tc tg (zpu pt (97 + 5 * c) q) (zSt nn c (zAs nn (178 + 0) a (268435399 / t) (zPc nn d L q)) q) w0) sz) := by
  subst hnn
  refine V_iconst d_X_addPlain_0 ?_
  refine V_istore d_X_addPlain_1 (by decide) ?_
  refine zfor q (fun i => V G M_X_addPlain (zdet none (zsys G B kd nn t zz ch md tc tg (zpu pt (97 + 5 * c) q) (zSt nn c (zAs nn (178 + 0) a (268435399 / t) (zPc nn d L q)) q) w0) sz) (zR 3 0 0 71) 0 0 sz 3 [(0, .ref B), (1, .ref (B + (97 + 5 * c))), (2, .ref (B + (97 + 5 * d))), (3, .ref (B + a)), (4, .int (Int32.ofInt (i : Int)))] [] (zsys G B kd nn t zz ch md tc tg pt (zPc nn d L i) w0)) ?_ (fun i hi ih => ?_) 0 (Nat.zero_le q)
  · skip
    refine V_iload d_X_addPlain_3 rfl ?_
    refine V_aload_n d_X_addPlain_5 rfl ?_
    refine V_getf d_X_addPlain_6 ff_X_197 (zsys_at (by omega) (zlay_cip hd)) rfl ?_
    refine J_icmp_ge 39 d_X_addPlain_9 (by decide) (by omega) (by rw [hpt]; omega) (fun c_9 => ?_) (fun c_9 => absurd c_9 (by rw [hpt]; omega))
    refine V_aload_n d_X_addPlain_39 rfl ?_
    refine V_getf d_X_addPlain_40 ff_X_12 zsys_x0 rfl ?_
    refine V_aload_n d_X_addPlain_43 rfl ?_
    refine V_getf d_X_addPlain_44 ff_X_42 zsys_x0 rfl ?_
    refine V_iconst d_X_addPlain_47 ?_
    refine J_aaload d_X_addPlain_48 (zsys_at (by decide) rfl) rfl rfl (by omega) (by decide) (show _ = some (B + (178 + 0)) from rfl) ?_
    refine V_aload_n d_X_addPlain_49 rfl ?_
    refine V_aload_n d_X_addPlain_50 rfl ?_
    refine V_getf d_X_addPlain_51 ff_X_12 zsys_x0 rfl ?_
    refine V_callV (n := 0) d_X_addPlain_54 g_X_158 rfl zsys_r rfl (c_scale G _ _ (B + 1) (B + 2) kd nn t zz zsys_r (by omega)) ⟨co_Ring_scale, by decide +kernel, Nat.le_of_ble_eq_true rfl⟩ ⟨Nat.le_of_ble_eq_true rfl, Nat.le_of_ble_eq_true rfl, Nat.le_of_ble_eq_true rfl, Nat.le_of_ble_eq_true rfl⟩ (Nat.le_of_ble_eq_true rfl) (fun r_54 w_54 s_54 q_54 => ?_) (fun _ _ _ q => False.elim q)
    obtain ⟨rfl, rfl, rfl⟩ := q_54
    refine V_callV (n := 3) d_X_addPlain_57 g_X_162 rfl zsys_r rfl (c_addScaled G _ _ (B + 1) (B + 2) kd nn t zz (B + (178 + 0)) (B + a) (268435399 / t) _ _ zsys_r (zsys_row (zir_s (by decide))) (zsys_row ha) (by omega) (by omega)) ⟨co_Ring_addScaled, by decide +kernel, Nat.le_of_ble_eq_true rfl⟩ ⟨Nat.le_of_ble_eq_true rfl, Nat.le_of_ble_eq_true rfl, Nat.le_of_ble_eq_true rfl, Nat.le_of_ble_eq_true rfl⟩ (Nat.le_of_ble_eq_true rfl) (fun r_57 w_57 s_57 q_57 => ?_) (fun _ _ _ q => False.elim q)
    obtain ⟨rfl, rfl, rfl⟩ := q_57
    refine V_w (zsys_lu (zir_s (by decide))) ?_
    refine V_aload_n d_X_addPlain_60 rfl ?_
    refine V_aload_n d_X_addPlain_61 rfl ?_
    refine V_aload_n d_X_addPlain_62 rfl ?_
    refine V_getf d_X_addPlain_63 ff_X_197 (zsys_at (by omega) (zlay_cip hd)) rfl ?_
    rw [hpt]
    refine V_callV (n := 2) d_X_addPlain_66 g_X_274 rfl zsys_x0 rfl (c_storeSums G _ B kd nn t zz ch md tc tg pt (zAs nn (178 + 0) a (268435399 / t) (zPc nn d L q)) w0 nn rfl hn c q hc (by omega) hR) ⟨co_X_storeSums, by decide +kernel, Nat.le_of_ble_eq_true rfl⟩ ⟨Nat.le_of_ble_eq_true rfl, Nat.le_of_ble_eq_true rfl, Nat.le_of_ble_eq_true rfl, Nat.le_of_ble_eq_true rfl⟩ (Nat.le_of_ble_eq_true rfl) (fun r_66 w_66 s_66 q_66 => ?_) (fun _ _ _ q => False.elim q)
    obtain ⟨rfl, rfl, rfl⟩ := q_66
    exact V_return d_X_addPlain_69 rfl ⟨Nat.le_of_ble_eq_true rfl, Nat.le_of_ble_eq_true rfl⟩ ⟨rfl, rfl, rfl⟩
  · skip
    refine V_iload d_X_addPlain_3 rfl ?_
    refine V_aload_n d_X_addPlain_5 rfl ?_
    refine V_getf d_X_addPlain_6 ff_X_197 (zsys_at (by omega) (zlay_cip hd)) rfl ?_
    refine J_icmp_ge 39 d_X_addPlain_9 (by decide) (by omega) (by rw [hpt]; omega) (fun c_9 => absurd c_9 (by rw [hpt]; omega)) (fun c_9 => ?_)
    refine V_aload_n d_X_addPlain_12 rfl ?_
    refine V_getf d_X_addPlain_13 ff_X_12 zsys_x0 rfl ?_
    refine V_aload_n d_X_addPlain_16 rfl ?_
    refine V_getf d_X_addPlain_17 ff_X_42 zsys_x0 rfl ?_
    refine V_iload d_X_addPlain_20 rfl ?_
    refine J_aaload d_X_addPlain_22 (zsys_at (by decide) rfl) rfl rfl (by omega) (by decide) ((zel (a := fun k => B + (178 + k)) (show i < 3 by omega)).trans rfl : _ = some (B + (178 + i))) ?_
    refine V_aload_n d_X_addPlain_23 rfl ?_
    refine V_getf d_X_addPlain_24 ff_X_221 (zsys_at (by omega) (zlay_cip hd)) rfl ?_
    refine V_iload d_X_addPlain_27 rfl ?_
    refine J_aaload d_X_addPlain_29 (zsys_at (by omega) (zlay_cir hd)) rfl rfl (by omega) (by decide) ((zel (a := fun k => B + (97 + 5 * d + 1 + 1 + k)) (show i < 3 by omega)).trans rfl : _ = some (B + (97 + 5 * d + 1 + 1 + i))) ?_
    refine V_callV (n := 2) d_X_addPlain_30 g_X_222 rfl zsys_r rfl (c_copy G _ _ (B + 1) (B + 2) kd nn t zz (B + (178 + i)) (B + (97 + 5 * d + 1 + 1 + i)) _ _ zsys_r (zsys_row (zir_s (by omega))) (zsys_row (zir_c hd (by omega))) (by omega)) ⟨co_Ring_copy, by decide +kernel, Nat.le_of_ble_eq_true rfl⟩ ⟨Nat.le_of_ble_eq_true rfl, Nat.le_of_ble_eq_true rfl, Nat.le_of_ble_eq_true rfl, Nat.le_of_ble_eq_true rfl⟩ (Nat.le_of_ble_eq_true rfl) (fun r_30 w_30 s_30 q_30 => ?_) (fun _ _ _ q => False.elim q)
    obtain ⟨rfl, rfl, rfl⟩ := q_30
    refine V_w (zsys_lu (zir_s (by omega))) ?_
    refine J_iinc d_X_addPlain_33 rfl (by decide) ?_
    refine V_goto 3 d_X_addPlain_36 (by decide) ?_
    exact ih

set_option maxRecDepth 100000 in
set_option maxHeartbeats 4000000 in
theorem c_multiplyByPlain (G : zG) (sz B : Nat) (kd n t zz : Int) (ch : Int32) (md tc : Int) (tg pt : Nat → Int) (L : Nat → Int → Int) (w0 : zW) (nn : Nat) (hnn : n = (nn : Int)) (hn : nn ≤ 32) (c d a q : Nat) (hc : c < 16) (hd : d < 16) (ha : zir a) (ha2 : a < 178) (hq : q ≤ 3) (hpt : pt (97 + 5 * d) = (q : Int)) (hR : ∀ k : Nat, k < q → ∀ i : Nat, i < nn → -9223372036854775808 ≤ (zPm nn d a L q) (178 + k) i ∧ (zPm nn d a L q) (178 + k) i < 9223372036854775808) : zCt G M_X_multiplyByPlain (zR 3 0 0 71) [.ref B, .ref (B + (97 + 5 * c)), .ref (B + (97 + 5 * d)), .ref (B + a)] sz (zsys G B kd n t zz ch md tc tg pt L w0) (zdet none (zsys G B kd n t zz ch md tc tg (zpu pt (97 + 5 * c) q) (zSt nn c (zPm nn d a L q) q) w0) sz) := by
  subst hnn
  refine V_iconst d_X_multiplyByPlain_0 ?_
  refine V_istore d_X_multiplyByPlain_1 (by decide) ?_
  refine zfor q (fun i => V G M_X_multiplyByPlain (zdet none (zsys G B kd nn t zz ch md tc tg (zpu pt (97 + 5 * c) q) (zSt nn c (zPm nn d a L q) q) w0) sz) (zR 3 0 0 71) 0 0 sz 3 [(0, .ref B), (1, .ref (B + (97 + 5 * c))), (2, .ref (B + (97 + 5 * d))), (3, .ref (B + a)), (4, .int (Int32.ofInt (i : Int)))] [] (zsys G B kd nn t zz ch md tc tg pt (zPm nn d a L i) w0)) ?_ (fun i hi ih => ?_) 0 (Nat.zero_le q)
  · skip
    refine V_iload d_X_multiplyByPlain_3 rfl ?_
    refine V_aload_n d_X_multiplyByPlain_5 rfl ?_
    refine V_getf d_X_multiplyByPlain_6 ff_X_197 (zsys_at (by omega) (zlay_cip hd)) rfl ?_
    refine J_icmp_ge 51 d_X_multiplyByPlain_9 (by decide) (by omega) (by rw [hpt]; omega) (fun c_9 => ?_) (fun c_9 => absurd c_9 (by rw [hpt]; omega))
    refine V_aload_n d_X_multiplyByPlain_51 rfl ?_
    refine V_aload_n d_X_multiplyByPlain_52 rfl ?_
    refine V_aload_n d_X_multiplyByPlain_53 rfl ?_
    refine V_getf d_X_multiplyByPlain_54 ff_X_197 (zsys_at (by omega) (zlay_cip hd)) rfl ?_
    rw [hpt]
    refine V_callV (n := 2) d_X_multiplyByPlain_57 g_X_274 rfl zsys_x0 rfl (c_storeSums G _ B kd nn t zz ch md tc tg pt (zPm nn d a L q) w0 nn rfl hn c q hc (by omega) hR) ⟨co_X_storeSums, by decide +kernel, Nat.le_of_ble_eq_true rfl⟩ ⟨Nat.le_of_ble_eq_true rfl, Nat.le_of_ble_eq_true rfl, Nat.le_of_ble_eq_true rfl, Nat.le_of_ble_eq_true rfl⟩ (Nat.le_of_ble_eq_true rfl) (fun r_57 w_57 s_57 q_57 => ?_) (fun _ _ _ q => False.elim q)
    obtain ⟨rfl, rfl, rfl⟩ := q_57
    exact V_return d_X_multiplyByPlain_60 rfl ⟨Nat.le_of_ble_eq_true rfl, Nat.le_of_ble_eq_true rfl⟩ ⟨rfl, rfl, rfl⟩
  · skip
    refine V_iload d_X_multiplyByPlain_3 rfl ?_
    refine V_aload_n d_X_multiplyByPlain_5 rfl ?_
    refine V_getf d_X_multiplyByPlain_6 ff_X_197 (zsys_at (by omega) (zlay_cip hd)) rfl ?_
    refine J_icmp_ge 51 d_X_multiplyByPlain_9 (by decide) (by omega) (by rw [hpt]; omega) (fun c_9 => absurd c_9 (by rw [hpt]; omega)) (fun c_9 => ?_)
    refine V_aload_n d_X_multiplyByPlain_12 rfl ?_
    refine V_getf d_X_multiplyByPlain_13 ff_X_42 zsys_x0 rfl ?_
    refine V_iload d_X_multiplyByPlain_16 rfl ?_
    refine J_aaload d_X_multiplyByPlain_18 (zsys_at (by decide) rfl) rfl rfl (by omega) (by decide) ((zel (a := fun k => B + (178 + k)) (show i < 3 by omega)).trans rfl : _ = some (B + (178 + i))) ?_
    refine J_lconst (z := 0) d_X_multiplyByPlain_19 rfl ?_
    refine V_callS (n := 2) d_X_multiplyByPlain_20 g_X_72 rfl (c_fill G _ _ (B + (178 + i)) 32 0 _ (zsys_row (zir_s (by omega))) (by decide)) ⟨co_Arrays_fill, by decide +kernel, Nat.le_of_ble_eq_true rfl⟩ ⟨Nat.le_of_ble_eq_true rfl, Nat.le_of_ble_eq_true rfl, Nat.le_of_ble_eq_true rfl, Nat.le_of_ble_eq_true rfl⟩ (Nat.le_of_ble_eq_true rfl) (fun r_20 w_20 s_20 q_20 => ?_) (fun _ _ _ q => False.elim q)
    obtain ⟨rfl, rfl, rfl⟩ := q_20
    refine V_w (zsys_lu (zir_s (by omega))) ?_
    refine V_aload_n d_X_multiplyByPlain_23 rfl ?_
    refine V_getf d_X_multiplyByPlain_24 ff_X_12 zsys_x0 rfl ?_
    refine V_aload_n d_X_multiplyByPlain_27 rfl ?_
    refine V_getf d_X_multiplyByPlain_28 ff_X_42 zsys_x0 rfl ?_
    refine V_iload d_X_multiplyByPlain_31 rfl ?_
    refine J_aaload d_X_multiplyByPlain_33 (zsys_at (by decide) rfl) rfl rfl (by omega) (by decide) ((zel (a := fun k => B + (178 + k)) (show i < 3 by omega)).trans rfl : _ = some (B + (178 + i))) ?_
    refine V_aload_n d_X_multiplyByPlain_34 rfl ?_
    refine V_aload_n d_X_multiplyByPlain_35 rfl ?_
    refine V_getf d_X_multiplyByPlain_36 ff_X_221 (zsys_at (by omega) (zlay_cip hd)) rfl ?_
    refine V_iload d_X_multiplyByPlain_39 rfl ?_
    refine J_aaload d_X_multiplyByPlain_41 (zsys_at (by omega) (zlay_cir hd)) rfl rfl (by omega) (by decide) ((zel (a := fun k => B + (97 + 5 * d + 1 + 1 + k)) (show i < 3 by omega)).trans rfl : _ = some (B + (97 + 5 * d + 1 + 1 + i))) ?_
    refine V_callV (n := 3) d_X_multiplyByPlain_42 g_X_154 rfl zsys_r rfl (c_addProduct G _ _ (B + 1) (B + 2) kd nn t zz (B + (178 + i)) (B + a) (B + (97 + 5 * d + 1 + 1 + i)) nn _ _ _ zsys_r (zsys_row (zir_s (by omega))) (zsys_row ha) (zsys_row (zir_c hd (by omega))) (by omega) (by omega) rfl hn) ⟨co_Ring_addProduct, by decide +kernel, Nat.le_of_ble_eq_true rfl⟩ ⟨Nat.le_of_ble_eq_true rfl, Nat.le_of_ble_eq_true rfl, Nat.le_of_ble_eq_true rfl, Nat.le_of_ble_eq_true rfl⟩ (Nat.le_of_ble_eq_true rfl) (fun r_42 w_42 s_42 q_42 => ?_) (fun _ _ _ q => False.elim q)
    obtain ⟨rfl, rfl, rfl⟩ := q_42
    refine V_w (zsys_lu (zir_s (by omega))) ?_
    refine J_iinc d_X_multiplyByPlain_45 rfl (by decide) ?_
    refine V_goto 3 d_X_multiplyByPlain_48 (by decide) ?_
    exact ih

set_option maxRecDepth 100000 in
set_option maxHeartbeats 4000000 in
theorem c_combine (G : zG) (sz B : Nat) (kd n t zz : Int) (ch : Int32) (md tc : Int) (tg pt : Nat → Int) (L : Nat → Int → Int) (w0 : zW) (nn : Nat) (hnn : n = (nn : Int)) (hn : nn ≤ 32) (c l r m : Nat) (f pl pr : Int) (hc : c < 16) (hl : l < 16) (hr : r < 16) (hpl : pt (97 + 5 * l) = pl) (hpr : pt (97 + 5 * r) = pr) (hb : 0 ≤ pl ∧ pl ≤ 3 ∧ 0 ≤ pr ∧ pr ≤ 3) (hm : (if pl < pr then pr else pl) = (m : Int)) (hm3 : m ≤ 3) (hR : ∀ k : Nat, k < m → ∀ i : Nat, i < nn → -9223372036854775808 ≤ (zCm nn l r pl pr f L m) (178 + k) i ∧ (zCm nn l r pl pr f L m) (178 + k) i < 9223372036854775808) : zCt G M_X_combine (zR 3 0 0 71) [.ref B, .ref (B + (97 + 5 * c)), .ref (B + (97 + 5 * l)), .ref (B + (97 + 5 * r)), .long (Int64.ofInt f)] sz (zsys G B kd n t zz ch md tc tg pt L w0) (zdet none (zsys G B kd n t zz ch md tc tg (zpu pt (97 + 5 * c) m) (zSt nn c (zCm nn l r pl pr f L m) m) w0) sz) := by
  subst hnn
  subst hpl
  subst hpr
  refine V_aload_n d_X_combine_0 rfl ?_
  refine V_getf d_X_combine_1 ff_X_197 (zsys_at (by omega) (zlay_cip hl)) rfl ?_
  refine V_aload_n d_X_combine_4 rfl ?_
  refine V_getf d_X_combine_5 ff_X_197 (zsys_at (by omega) (zlay_cip hr)) rfl ?_
  refine V_callS (n := 2) d_X_combine_8 g_X_271 rfl (c_maxI G _ _ (pt (97 + 5 * l)) (pt (97 + 5 * r)) (by omega) (by omega)) ⟨co_Math_max_II, by decide +kernel, Nat.le_of_ble_eq_true rfl⟩ ⟨Nat.le_of_ble_eq_true rfl, Nat.le_of_ble_eq_true rfl, Nat.le_of_ble_eq_true rfl, Nat.le_of_ble_eq_true rfl⟩ (Nat.le_of_ble_eq_true rfl) (fun r_8 w_8 s_8 q_8 => ?_) (fun _ _ _ q => False.elim q)
  obtain ⟨rfl, rfl, rfl⟩ := q_8
  rw [hm]
  refine V_istore d_X_combine_11 (by decide) ?_
  refine V_iconst d_X_combine_13 ?_
  refine V_istore d_X_combine_14 (by decide) ?_
  refine zfor m (fun i => V G M_X_combine (zdet none (zsys G B kd nn t zz ch md tc tg (zpu pt (97 + 5 * c) m) (zSt nn c (zCm nn l r (pt (97 + 5 * l)) (pt (97 + 5 * r)) f L m) m) w0) sz) (zR 3 0 0 71) 0 0 sz 16 [(0, .ref B), (1, .ref (B + (97 + 5 * c))), (2, .ref (B + (97 + 5 * l))), (3, .ref (B + (97 + 5 * r))), (4, .long (Int64.ofInt f)), (6, .int (Int32.ofInt (m : Int))), (7, .int (Int32.ofInt (i : Int)))] [] (zsys G B kd nn t zz ch md tc tg pt (zCm nn l r (pt (97 + 5 * l)) (pt (97 + 5 * r)) f L i) w0)) ?_ (fun i hi ih => ?_) 0 (Nat.zero_le m)
  · skip
    refine V_iload d_X_combine_16 rfl ?_
    refine V_iload d_X_combine_18 rfl ?_
    refine J_icmp_ge 103 d_X_combine_20 (by decide) (by omega) (by omega) (fun c_20 => ?_) (fun c_20 => absurd c_20 (by omega))
    refine V_aload_n d_X_combine_103 rfl ?_
    refine V_aload_n d_X_combine_104 rfl ?_
    refine V_iload d_X_combine_105 rfl ?_
    refine V_callV (n := 2) d_X_combine_107 g_X_274 rfl zsys_x0 rfl (c_storeSums G _ B kd nn t zz ch md tc tg pt (zCm nn l r (pt (97 + 5 * l)) (pt (97 + 5 * r)) f L m) w0 nn rfl hn c m hc (by omega) hR) ⟨co_X_storeSums, by decide +kernel, Nat.le_of_ble_eq_true rfl⟩ ⟨Nat.le_of_ble_eq_true rfl, Nat.le_of_ble_eq_true rfl, Nat.le_of_ble_eq_true rfl, Nat.le_of_ble_eq_true rfl⟩ (Nat.le_of_ble_eq_true rfl) (fun r_107 w_107 s_107 q_107 => ?_) (fun _ _ _ q => False.elim q)
    obtain ⟨rfl, rfl, rfl⟩ := q_107
    exact V_return d_X_combine_110 rfl ⟨Nat.le_of_ble_eq_true rfl, Nat.le_of_ble_eq_true rfl⟩ ⟨rfl, rfl, rfl⟩
  · skip
    refine V_iload d_X_combine_16 rfl ?_
    refine V_iload d_X_combine_18 rfl ?_
    refine J_icmp_ge 103 d_X_combine_20 (by decide) (by omega) (by omega) (fun c_20 => absurd c_20 (by omega)) (fun c_20 => ?_)
    refine V_aload_n d_X_combine_23 rfl ?_
    refine V_getf d_X_combine_24 ff_X_42 zsys_x0 rfl ?_
    refine V_iload d_X_combine_27 rfl ?_
    refine J_aaload d_X_combine_29 (zsys_at (by decide) rfl) rfl rfl (by omega) (by decide) ((zel (a := fun k => B + (178 + k)) (show i < 3 by omega)).trans rfl : _ = some (B + (178 + i))) ?_
    refine J_lconst (z := 0) d_X_combine_30 rfl ?_
    refine V_callS (n := 2) d_X_combine_31 g_X_72 rfl (c_fill G _ _ (B + (178 + i)) 32 0 _ (zsys_row (zir_s (by omega))) (by decide)) ⟨co_Arrays_fill, by decide +kernel, Nat.le_of_ble_eq_true rfl⟩ ⟨Nat.le_of_ble_eq_true rfl, Nat.le_of_ble_eq_true rfl, Nat.le_of_ble_eq_true rfl, Nat.le_of_ble_eq_true rfl⟩ (Nat.le_of_ble_eq_true rfl) (fun r_31 w_31 s_31 q_31 => ?_) (fun _ _ _ q => False.elim q)
    obtain ⟨rfl, rfl, rfl⟩ := q_31
    refine V_w (zsys_lu (zir_s (by omega))) ?_
    refine V_iload d_X_combine_34 rfl ?_
    refine V_aload_n d_X_combine_36 rfl ?_
    refine V_getf d_X_combine_37 ff_X_197 (zsys_at (by omega) (zlay_cip hl)) rfl ?_
    refine J_icmp_ge 65 d_X_combine_40 (by decide) (by omega) (by omega) (fun c_40 => ?_) (fun c_40 => ?_)
    · skip
      refine V_iload d_X_combine_65 rfl ?_
      refine V_aload_n d_X_combine_67 rfl ?_
      refine V_getf d_X_combine_68 ff_X_197 (zsys_at (by omega) (zlay_cip hr)) rfl ?_
      refine J_icmp_ge 97 d_X_combine_71 (by decide) (by omega) (by omega) (fun c_71 => ?_) (fun c_71 => ?_)
      · skip
        refine J_iinc d_X_combine_97 rfl (by decide) ?_
        refine V_goto 16 d_X_combine_100 (by decide) ?_
        exact V_w (by rw [zCm_nn c_40 c_71]; rfl) ih
      · skip
        refine V_aload_n d_X_combine_74 rfl ?_
        refine V_getf d_X_combine_75 ff_X_12 zsys_x0 rfl ?_
        refine V_aload_n d_X_combine_78 rfl ?_
        refine V_getf d_X_combine_79 ff_X_42 zsys_x0 rfl ?_
        refine V_iload d_X_combine_82 rfl ?_
        refine J_aaload d_X_combine_84 (zsys_at (by decide) rfl) rfl rfl (by omega) (by decide) ((zel (a := fun k => B + (178 + k)) (show i < 3 by omega)).trans rfl : _ = some (B + (178 + i))) ?_
        refine V_aload_n d_X_combine_85 rfl ?_
        refine V_getf d_X_combine_86 ff_X_221 (zsys_at (by omega) (zlay_cip hr)) rfl ?_
        refine V_iload d_X_combine_89 rfl ?_
        refine J_aaload d_X_combine_91 (zsys_at (by omega) (zlay_cir hr)) rfl rfl (by omega) (by decide) ((zel (a := fun k => B + (97 + 5 * r + 1 + 1 + k)) (show i < 3 by omega)).trans rfl : _ = some (B + (97 + 5 * r + 1 + 1 + i))) ?_
        refine V_lload d_X_combine_92 rfl ?_
        refine V_callV (n := 3) d_X_combine_94 g_X_162 rfl zsys_r rfl (c_addScaled G _ _ (B + 1) (B + 2) kd nn t zz (B + (178 + i)) (B + (97 + 5 * r + 1 + 1 + i)) f _ _ zsys_r (zsys_row (zir_s (by omega))) (zsys_row (zir_c hr (by omega))) (by omega) (by omega)) ⟨co_Ring_addScaled, by decide +kernel, Nat.le_of_ble_eq_true rfl⟩ ⟨Nat.le_of_ble_eq_true rfl, Nat.le_of_ble_eq_true rfl, Nat.le_of_ble_eq_true rfl, Nat.le_of_ble_eq_true rfl⟩ (Nat.le_of_ble_eq_true rfl) (fun r_94 w_94 s_94 q_94 => ?_) (fun _ _ _ q => False.elim q)
        obtain ⟨rfl, rfl, rfl⟩ := q_94
        refine V_w (zsys_lu (zir_s (by omega))) ?_
        refine J_iinc d_X_combine_97 rfl (by decide) ?_
        refine V_goto 16 d_X_combine_100 (by decide) ?_
        exact V_w (by rw [zCm_np c_40 c_71]; rfl) ih
    · skip
      refine V_aload_n d_X_combine_43 rfl ?_
      refine V_getf d_X_combine_44 ff_X_12 zsys_x0 rfl ?_
      refine V_aload_n d_X_combine_47 rfl ?_
      refine V_getf d_X_combine_48 ff_X_42 zsys_x0 rfl ?_
      refine V_iload d_X_combine_51 rfl ?_
      refine J_aaload d_X_combine_53 (zsys_at (by decide) rfl) rfl rfl (by omega) (by decide) ((zel (a := fun k => B + (178 + k)) (show i < 3 by omega)).trans rfl : _ = some (B + (178 + i))) ?_
      refine V_aload_n d_X_combine_54 rfl ?_
      refine V_getf d_X_combine_55 ff_X_221 (zsys_at (by omega) (zlay_cip hl)) rfl ?_
      refine V_iload d_X_combine_58 rfl ?_
      refine J_aaload d_X_combine_60 (zsys_at (by omega) (zlay_cir hl)) rfl rfl (by omega) (by decide) ((zel (a := fun k => B + (97 + 5 * l + 1 + 1 + k)) (show i < 3 by omega)).trans rfl : _ = some (B + (97 + 5 * l + 1 + 1 + i))) ?_
      refine J_lconst (z := 1) d_X_combine_61 rfl ?_
      refine V_callV (n := 3) d_X_combine_62 g_X_162 rfl zsys_r rfl (c_addScaled G _ _ (B + 1) (B + 2) kd nn t zz (B + (178 + i)) (B + (97 + 5 * l + 1 + 1 + i)) 1 _ _ zsys_r (zsys_row (zir_s (by omega))) (zsys_row (zir_c hl (by omega))) (by omega) (by omega)) ⟨co_Ring_addScaled, by decide +kernel, Nat.le_of_ble_eq_true rfl⟩ ⟨Nat.le_of_ble_eq_true rfl, Nat.le_of_ble_eq_true rfl, Nat.le_of_ble_eq_true rfl, Nat.le_of_ble_eq_true rfl⟩ (Nat.le_of_ble_eq_true rfl) (fun r_62 w_62 s_62 q_62 => ?_) (fun _ _ _ q => False.elim q)
      obtain ⟨rfl, rfl, rfl⟩ := q_62
      refine V_w (zsys_lu (zir_s (by omega))) ?_
      refine V_iload d_X_combine_65 rfl ?_
      refine V_aload_n d_X_combine_67 rfl ?_
      refine V_getf d_X_combine_68 ff_X_197 (zsys_at (by omega) (zlay_cip hr)) rfl ?_
      refine J_icmp_ge 97 d_X_combine_71 (by decide) (by omega) (by omega) (fun c_71 => ?_) (fun c_71 => ?_)
      · skip
        refine J_iinc d_X_combine_97 rfl (by decide) ?_
        refine V_goto 16 d_X_combine_100 (by decide) ?_
        exact V_w (by rw [zCm_pn c_40 c_71]; rfl) ih
      · skip
        refine V_aload_n d_X_combine_74 rfl ?_
        refine V_getf d_X_combine_75 ff_X_12 zsys_x0 rfl ?_
        refine V_aload_n d_X_combine_78 rfl ?_
        refine V_getf d_X_combine_79 ff_X_42 zsys_x0 rfl ?_
        refine V_iload d_X_combine_82 rfl ?_
        refine J_aaload d_X_combine_84 (zsys_at (by decide) rfl) rfl rfl (by omega) (by decide) ((zel (a := fun k => B + (178 + k)) (show i < 3 by omega)).trans rfl : _ = some (B + (178 + i))) ?_
        refine V_aload_n d_X_combine_85 rfl ?_
        refine V_getf d_X_combine_86 ff_X_221 (zsys_at (by omega) (zlay_cip hr)) rfl ?_
        refine V_iload d_X_combine_89 rfl ?_
        refine J_aaload d_X_combine_91 (zsys_at (by omega) (zlay_cir hr)) rfl rfl (by omega) (by decide) ((zel (a := fun k => B + (97 + 5 * r + 1 + 1 + k)) (show i < 3 by omega)).trans rfl : _ = some (B + (97 + 5 * r + 1 + 1 + i))) ?_
        refine V_lload d_X_combine_92 rfl ?_
        refine V_callV (n := 3) d_X_combine_94 g_X_162 rfl zsys_r rfl (c_addScaled G _ _ (B + 1) (B + 2) kd nn t zz (B + (178 + i)) (B + (97 + 5 * r + 1 + 1 + i)) f _ _ zsys_r (zsys_row (zir_s (by omega))) (zsys_row (zir_c hr (by omega))) (by omega) (by omega)) ⟨co_Ring_addScaled, by decide +kernel, Nat.le_of_ble_eq_true rfl⟩ ⟨Nat.le_of_ble_eq_true rfl, Nat.le_of_ble_eq_true rfl, Nat.le_of_ble_eq_true rfl, Nat.le_of_ble_eq_true rfl⟩ (Nat.le_of_ble_eq_true rfl) (fun r_94 w_94 s_94 q_94 => ?_) (fun _ _ _ q => False.elim q)
        obtain ⟨rfl, rfl, rfl⟩ := q_94
        refine V_w (zsys_lu (zir_s (by omega))) ?_
        refine J_iinc d_X_combine_97 rfl (by decide) ?_
        refine V_goto 16 d_X_combine_100 (by decide) ?_
        exact V_w (by rw [zCm_pp c_40 c_71]; rfl) ih

