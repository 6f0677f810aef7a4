set_option maxRecDepth 100000 in
set_option maxHeartbeats 4000000 in
theorem c_forget (G : zG) (sz B : Nat) (kd n t zz : Int) (ch : Int32) (md tc : Int) (tg pt : Nat → Int) (L : Nat → Int → Int) (w0 : zW) : zCt G M_KeyRing_forget (zR 0 0 0 0) [.ref (B + 4)] sz (zsys G B kd n t zz ch md tc tg pt L w0) (zdet none (zsys G B kd n t zz ch 0 0 tg pt L w0) sz) := by
  refine V_aload_n d_KeyRing_forget_0 rfl ?_
  refine V_iconst d_KeyRing_forget_1 ?_
  refine V_putf d_KeyRing_forget_2 ff_KeyRing_41 zsys_k ⟨_, _, _, _, rfl, rfl, rfl, rfl, rfl⟩ (Nat.le_of_ble_eq_true rfl) ?_
  refine V_w (zsys_kr (md' := 0) (tc' := tc) rfl) ?_
  refine V_aload_n d_KeyRing_forget_5 rfl ?_
  refine V_iconst d_KeyRing_forget_6 ?_
  refine V_putf d_KeyRing_forget_7 ff_KeyRing_45 zsys_k ⟨_, _, _, _, rfl, rfl, rfl, rfl, rfl⟩ (Nat.le_of_ble_eq_true rfl) ?_
  refine V_w (zsys_kr (md' := 0) (tc' := 0) rfl) ?_
  exact V_return d_KeyRing_forget_10 rfl ⟨Nat.le_of_ble_eq_true rfl, Nat.le_of_ble_eq_true rfl⟩ ⟨rfl, rfl, rfl⟩

set_option maxRecDepth 100000 in
set_option maxHeartbeats 4000000 in
theorem c_hideBody (G : zG) (sz B : Nat) (kd n t zz : Int) (ch : Int32) (md tc : Int) (tg pt : Nat → Int) (L : Nat → Int → Int) (w0 : zW) (nn : Nat) (hnn : n = (nn : Int)) (hn : nn ≤ 32) (j : Nat) (hj : zir j) (hj85 : 85 ≠ j) (hh : ∀ i : Nat, i < nn → -9223372036854775808 < L 85 i ∧ L 85 i < 9223372036854775808) : zCt G M_KeyRing_hideBody (zR 1 0 0 25) [.ref (B + 4), .ref (B + 1), .ref (B + j)] sz (zsys G B kd n t zz ch md tc tg pt L w0) (zdet none (zsys G B kd n t zz ch md tc tg pt (zHb nn j L) w0) sz) := by
  subst hnn
  refine V_iconst d_KeyRing_hideBody_0 ?_
  refine V_istore_n d_KeyRing_hideBody_1 (by decide) ?_
  refine V_w (w' := (zsys G B kd nn t zz ch md tc tg pt (zlu L j (zif ((0 : Nat) : Int) (fun i => -(L 85 i) % 268435399) (L j))) w0)) (by rw [show ((0 : Nat) : Int) = 0 from rfl, zif_0, ← zsys_lu hj, zset_self (zsys_row hj)]) ?_
  refine zfor nn (fun i => V G M_KeyRing_hideBody (zdet none (zsys G B kd nn t zz ch md tc tg pt (zHb nn j L) w0) sz) (zR 1 0 0 25) 0 0 sz 2 [(0, .ref (B + 4)), (1, .ref (B + 1)), (2, .ref (B + j)), (3, .int (Int32.ofInt (i : Int)))] [] (zsys G B kd nn t zz ch md tc tg pt (zlu L j (zif (i : Int) (fun i => -(L 85 i) % 268435399) (L j))) w0)) ?_ (fun i hi ih => ?_) 0 (Nat.zero_le nn)
  · skip
    refine V_iload_n d_KeyRing_hideBody_2 rfl ?_
    refine V_aload_n d_KeyRing_hideBody_3 rfl ?_
    refine V_getf d_KeyRing_hideBody_4 ff_KeyRing_49 zsys_r rfl ?_
    refine J_icmp_ge 32 d_KeyRing_hideBody_7 (by decide) (by omega) (by omega) (fun c_7 => ?_) (fun c_7 => absurd c_7 (by omega))
    exact V_return d_KeyRing_hideBody_32 rfl ⟨Nat.le_of_ble_eq_true rfl, Nat.le_of_ble_eq_true rfl⟩ ⟨rfl, rfl, rfl⟩
  · have hv := hh i hi
    refine V_iload_n d_KeyRing_hideBody_2 rfl ?_
    refine V_aload_n d_KeyRing_hideBody_3 rfl ?_
    refine V_getf d_KeyRing_hideBody_4 ff_KeyRing_49 zsys_r rfl ?_
    refine J_icmp_ge 32 d_KeyRing_hideBody_7 (by decide) (by omega) (by omega) (fun c_7 => absurd c_7 (by omega)) (fun c_7 => ?_)
    refine V_aload_n d_KeyRing_hideBody_10 rfl ?_
    refine V_iload_n d_KeyRing_hideBody_11 rfl ?_
    refine V_aload_n d_KeyRing_hideBody_12 rfl ?_
    refine V_getf d_KeyRing_hideBody_13 ff_KeyRing_35 zsys_k rfl ?_
    refine V_iload_n d_KeyRing_hideBody_16 rfl ?_
    refine J_laload d_KeyRing_hideBody_17 (zsys_row zir_85) (by omega) (by decide) ?_
    rw [zlu_n hj85]
    refine J_lneg d_KeyRing_hideBody_18 ?_
    refine J_ldc2 d_KeyRing_hideBody_19 k_KeyRing_112 ?_
    refine V_callS (n := 2) d_KeyRing_hideBody_22 g_KeyRing_114 rfl (c_fmodJ G _ _ (-(L 85 i)) 268435399 (by omega) (by decide)) ⟨co_Math_floorMod_JJ, by decide +kernel, Nat.le_of_ble_eq_true rfl⟩ ⟨Nat.le_of_ble_eq_true rfl, Nat.le_of_ble_eq_true rfl, Nat.le_of_ble_eq_true rfl, Nat.le_of_ble_eq_true rfl⟩ (Nat.le_of_ble_eq_true rfl) (fun r_22 w_22 s_22 q_22 => ?_) (fun _ _ _ q => False.elim q)
    obtain ⟨rfl, rfl, rfl⟩ := q_22
    refine J_lastore d_KeyRing_hideBody_25 (zsys_row hj) (by omega) (by decide) ?_
    refine J_iinc d_KeyRing_hideBody_26 rfl (by decide) ?_
    refine V_goto 2 d_KeyRing_hideBody_29 (by decide) ?_
    exact V_w (by rw [zsys_lu hj, zlu_s, zif_s (by omega) rfl, zlu_lu]; rfl) ih

set_option maxRecDepth 100000 in
set_option maxHeartbeats 4000000 in
theorem c_makeMask (G : zG) (sz B : Nat) (kd n t zz : Int) (ch : Int32) (md tc : Int) (tg pt : Nat → Int) (L : Nat → Int → Int) (w0 : zW) (nn : Nat) (hnn : n = (nn : Int)) (hn : nn ≤ 32) (j : Nat) (hj : zir j) (h85 : 85 ≠ j) (h5 : 5 ≠ j) : zCt G M_KeyRing_makeMask (zR 2 0 0 45) [.ref (B + 4), .ref (B + 1), .ref (B + 3), .ref (B + j)] sz (zsys G B kd n t zz ch md tc tg pt L w0) (zdet none (zsys G B kd n t zz (zMkc nn ch) md tc tg pt (zMk nn ch j L) w0) sz) := by
  subst hnn
  refine V_aload_n d_KeyRing_makeMask_0 rfl ?_
  refine V_aload_n d_KeyRing_makeMask_1 rfl ?_
  refine V_aload_n d_KeyRing_makeMask_2 rfl ?_
  refine V_getf d_KeyRing_makeMask_3 ff_KeyRing_49 zsys_r rfl ?_
  refine V_callV (n := 2) d_KeyRing_makeMask_6 g_KeyRing_106 rfl zsys_c rfl (c_fillUniform G _ _ (B + 3) (B + j) nn ch (L j) zsys_c (zsys_row hj) hn) ⟨co_Chance_fillUniform, by decide +kernel, Nat.le_of_ble_eq_true rfl⟩ ⟨Nat.le_of_ble_eq_true rfl, Nat.le_of_ble_eq_true rfl, Nat.le_of_ble_eq_true rfl, Nat.le_of_ble_eq_true rfl⟩ (Nat.le_of_ble_eq_true rfl) (fun r_6 w_6 s_6 q_6 => ?_) (fun _ _ _ q => False.elim q)
  obtain ⟨rfl, rfl, rfl⟩ := q_6
  refine V_w (by rw [zsys_ch, zsys_lu hj]) ?_
  refine V_aload_n d_KeyRing_makeMask_9 rfl ?_
  refine V_aload_n d_KeyRing_makeMask_10 rfl ?_
  refine V_getf d_KeyRing_makeMask_11 ff_KeyRing_35 zsys_k rfl ?_
  refine V_aload_n d_KeyRing_makeMask_14 rfl ?_
  refine V_getf d_KeyRing_makeMask_15 ff_KeyRing_49 zsys_r rfl ?_
  refine V_callV (n := 2) d_KeyRing_makeMask_18 g_KeyRing_109 rfl zsys_c rfl (c_fillErrors G _ _ (B + 3) (B + 85) nn (zlcN ch (2 * nn)) (L 85) zsys_c ((zsys_row zir_85).trans (by rw [zlu_n h85])) hn) ⟨co_Chance_fillErrors, by decide +kernel, Nat.le_of_ble_eq_true rfl⟩ ⟨Nat.le_of_ble_eq_true rfl, Nat.le_of_ble_eq_true rfl, Nat.le_of_ble_eq_true rfl, Nat.le_of_ble_eq_true rfl⟩ (Nat.le_of_ble_eq_true rfl) (fun r_18 w_18 s_18 q_18 => ?_) (fun _ _ _ q => False.elim q)
  obtain ⟨rfl, rfl, rfl⟩ := q_18
  refine V_w (by rw [zsys_ch, zsys_lu zir_85]) ?_
  refine V_aload_n d_KeyRing_makeMask_21 rfl ?_
  refine V_aload_n d_KeyRing_makeMask_22 rfl ?_
  refine V_getf d_KeyRing_makeMask_23 ff_KeyRing_35 zsys_k rfl ?_
  refine V_aload_n d_KeyRing_makeMask_26 rfl ?_
  refine V_getf d_KeyRing_makeMask_27 ff_KeyRing_9 zsys_k rfl ?_
  refine V_aload_n d_KeyRing_makeMask_30 rfl ?_
  refine V_callV (n := 3) d_KeyRing_makeMask_31 g_KeyRing_66 rfl zsys_r rfl (c_addProduct G _ _ (B + 1) (B + 2) kd nn t zz (B + 85) (B + 5) (B + j) nn _ _ _ zsys_r (zsys_row zir_85) (zsys_row zir_5) (zsys_row hj) (by omega) (by omega) rfl hn) ⟨co_Ring_addProduct, by decide +kernel, Nat.le_of_ble_eq_true rfl⟩ ⟨Nat.le_of_ble_eq_true rfl, Nat.le_of_ble_eq_true rfl, Nat.le_of_ble_eq_true rfl, Nat.le_of_ble_eq_true rfl⟩ (Nat.le_of_ble_eq_true rfl) (fun r_31 w_31 s_31 q_31 => ?_) (fun _ _ _ q => False.elim q)
  obtain ⟨rfl, rfl, rfl⟩ := q_31
  refine V_w (zsys_lu zir_85) ?_
  exact V_return d_KeyRing_makeMask_34 rfl ⟨Nat.le_of_ble_eq_true rfl, Nat.le_of_ble_eq_true rfl⟩ ⟨rfl, by unfold zMk zMkc; rw [zlu_s, zlu_n (show 5 ≠ 85 by decide), zlu_n h5, zlu_n (Ne.symm h85), zlu_s], rfl⟩

set_option maxRecDepth 100000 in
set_option maxHeartbeats 4000000 in
theorem c_makeSwitch (G : zG) (sz B : Nat) (kd n t zz : Int) (ch : Int32) (md tc : Int) (tg pt : Nat → Int) (L : Nat → Int → Int) (w0 : zW) (nn : Nat) (hnn : n = (nn : Int)) (hn : nn ≤ 32) (j a : Nat) (hj : j = 9 ∨ j = 25 ∨ j = 40 ∨ j = 55 ∨ j = 70) (ha : zir a) (ha85 : a ≠ 85) (hh : ∀ k : Nat, k < 6 → ∀ i : Nat, i < nn → -9223372036854775808 < zAs nn 85 a (-(32 ^ k)) (zMk nn (zSwc nn ch k) (j + 8 + 1 + k) (zSwL nn ch j a L k)) 85 i ∧ zAs nn 85 a (-(32 ^ k)) (zMk nn (zSwc nn ch k) (j + 8 + 1 + k) (zSwL nn ch j a L k)) 85 i < 9223372036854775808) : zCt G M_KeyRing_makeSwitch (zR 3 0 0 68) [.ref (B + 4), .ref (B + 1), .ref (B + 3), .ref (B + j), .ref (B + a)] sz (zsys G B kd n t zz ch md tc tg pt L w0) (zdet none (zsys G B kd n t zz (zSwc nn ch 6) md tc tg pt (zSwL nn ch j a L 6) w0) sz) := by
  subst hnn
  refine V_iconst d_KeyRing_makeSwitch_0 ?_
  refine V_istore d_KeyRing_makeSwitch_1 (by decide) ?_
  refine zfor 6 (fun i => V G M_KeyRing_makeSwitch (zdet none (zsys G B kd nn t zz (zSwc nn ch 6) md tc tg pt (zSwL nn ch j a L 6) w0) sz) (zR 3 0 0 68) 0 0 sz 3 [(0, .ref (B + 4)), (1, .ref (B + 1)), (2, .ref (B + 3)), (3, .ref (B + j)), (4, .ref (B + a)), (5, .int (Int32.ofInt (i : Int)))] [] (zsys G B kd nn t zz (zSwc nn ch i) md tc tg pt (zSwL nn ch j a L i) w0)) ?_ (fun i hi ih => ?_) 0 (Nat.zero_le 6)
  · skip
    refine V_iload d_KeyRing_makeSwitch_3 rfl ?_
    refine J_bipush d_KeyRing_makeSwitch_5 (by decide) ?_
    refine J_icmp_ge 58 d_KeyRing_makeSwitch_7 (by decide) (by omega) (by omega) (fun c_7 => ?_) (fun c_7 => absurd c_7 (by omega))
    exact V_return d_KeyRing_makeSwitch_58 rfl ⟨Nat.le_of_ble_eq_true rfl, Nat.le_of_ble_eq_true rfl⟩ ⟨rfl, rfl, rfl⟩
  · skip
    refine V_iload d_KeyRing_makeSwitch_3 rfl ?_
    refine J_bipush d_KeyRing_makeSwitch_5 (by decide) ?_
    refine J_icmp_ge 58 d_KeyRing_makeSwitch_7 (by decide) (by omega) (by omega) (fun c_7 => absurd c_7 (by omega)) (fun c_7 => ?_)
    refine V_aload_n d_KeyRing_makeSwitch_10 rfl ?_
    refine V_aload_n d_KeyRing_makeSwitch_11 rfl ?_
    refine V_aload_n d_KeyRing_makeSwitch_12 rfl ?_
    refine V_aload_n d_KeyRing_makeSwitch_13 rfl ?_
    refine V_getf d_KeyRing_makeSwitch_14 ff_KeyRing_95 (zsys_at (by omega) (zlay_swk hj)) rfl ?_
    refine V_iload d_KeyRing_makeSwitch_17 rfl ?_
    refine J_aaload d_KeyRing_makeSwitch_19 (zsys_at (by omega) (zlay_swr (by omega))) rfl rfl (by omega) (by decide) ((zel (a := fun k => B + (j + 8 + 1 + k)) hi).trans rfl : _ = some (B + (j + 8 + 1 + i))) ?_
    refine V_callV (n := 3) d_KeyRing_makeSwitch_20 g_KeyRing_70 rfl zsys_k rfl (c_makeMask G _ B kd nn t zz (zSwc nn ch i) md tc tg pt (zSwL nn ch j a L i) w0 nn rfl hn (j + 8 + 1 + i) (zir_m hj hi) (by omega) (by omega)) ⟨co_KeyRing_makeMask, by decide +kernel, Nat.le_of_ble_eq_true rfl⟩ ⟨Nat.le_of_ble_eq_true rfl, Nat.le_of_ble_eq_true rfl, Nat.le_of_ble_eq_true rfl, Nat.le_of_ble_eq_true rfl⟩ (Nat.le_of_ble_eq_true rfl) (fun r_20 w_20 s_20 q_20 => ?_) (fun _ _ _ q => False.elim q)
    obtain ⟨rfl, rfl, rfl⟩ := q_20
    refine V_aload_n d_KeyRing_makeSwitch_23 rfl ?_
    refine V_aload_n d_KeyRing_makeSwitch_24 rfl ?_
    refine V_getf d_KeyRing_makeSwitch_25 ff_KeyRing_35 zsys_k rfl ?_
    refine V_aload d_KeyRing_makeSwitch_28 rfl ?_
    refine J_lconst (z := 1) d_KeyRing_makeSwitch_30 rfl ?_
    refine V_iconst d_KeyRing_makeSwitch_31 ?_
    refine V_iload d_KeyRing_makeSwitch_32 rfl ?_
    refine J_imul d_KeyRing_makeSwitch_34 ?_
    refine V_lshl d_KeyRing_makeSwitch_35 ?_
    rw [zshl hi]
    refine J_lneg d_KeyRing_makeSwitch_36 ?_
    refine V_callV (n := 3) d_KeyRing_makeSwitch_37 g_KeyRing_99 rfl zsys_r rfl (c_addScaled G _ _ (B + 1) (B + 2) kd nn t zz (B + 85) (B + a) (-(32 ^ i)) _ _ zsys_r (zsys_row zir_85) (zsys_row ha) (by omega) (by omega)) ⟨co_Ring_addScaled, by decide +kernel, Nat.le_of_ble_eq_true rfl⟩ ⟨Nat.le_of_ble_eq_true rfl, Nat.le_of_ble_eq_true rfl, Nat.le_of_ble_eq_true rfl, Nat.le_of_ble_eq_true rfl⟩ (Nat.le_of_ble_eq_true rfl) (fun r_37 w_37 s_37 q_37 => ?_) (fun _ _ _ q => False.elim q)
    obtain ⟨rfl, rfl, rfl⟩ := q_37
    refine V_w (zsys_lu zir_85) ?_
    refine V_aload_n d_KeyRing_makeSwitch_40 rfl ?_
    refine V_aload_n d_KeyRing_makeSwitch_41 rfl ?_
    refine V_aload_n d_KeyRing_makeSwitch_42 rfl ?_
    refine V_getf d_KeyRing_makeSwitch_43 ff_KeyRing_103 (zsys_at (by omega) (zlay_swk hj)) rfl ?_
    refine V_iload d_KeyRing_makeSwitch_46 rfl ?_
    refine J_aaload d_KeyRing_makeSwitch_48 (zsys_at (by omega) (zlay_swr (by omega))) rfl rfl (by omega) (by decide) ((zel (a := fun k => B + (j + 1 + 1 + k)) hi).trans rfl : _ = some (B + (j + 1 + 1 + i))) ?_
    refine V_callV (n := 2) d_KeyRing_makeSwitch_49 g_KeyRing_74 rfl zsys_k rfl (c_hideBody G _ B kd nn t zz _ md tc tg pt (zAs nn 85 a (-(32 ^ i)) (zMk nn (zSwc nn ch i) (j + 8 + 1 + i) (zSwL nn ch j a L i))) w0 nn rfl hn (j + 1 + 1 + i) (zir_b hj hi) (by omega) (hh i hi)) ⟨co_KeyRing_hideBody, by decide +kernel, Nat.le_of_ble_eq_true rfl⟩ ⟨Nat.le_of_ble_eq_true rfl, Nat.le_of_ble_eq_true rfl, Nat.le_of_ble_eq_true rfl, Nat.le_of_ble_eq_true rfl⟩ (Nat.le_of_ble_eq_true rfl) (fun r_49 w_49 s_49 q_49 => ?_) (fun _ _ _ q => False.elim q)
    obtain ⟨rfl, rfl, rfl⟩ := q_49
    refine J_iinc d_KeyRing_makeSwitch_52 rfl (by decide) ?_
    refine V_goto 3 d_KeyRing_makeSwitch_55 (by decide) ?_
    exact ih

def zRnL (nn : Nat) (ch : Int32) (L : Nat → Int → Int) : Nat → Int → Int := (zSwL nn (zMkc nn (zlcN ch nn)) 9 6 (zHb nn 7 (zMk nn (zlcN ch nn) 8 (zAp nn 6 5 5 (zFl 6 0 (zlu L 5 (zif nn (zrT ch) (L 5))))))) 6)
def zRnc (nn : Nat) (ch : Int32) : Int32 := (zSwc nn (zMkc nn (zlcN ch nn)) 6)
set_option maxRecDepth 100000 in
set_option maxHeartbeats 4000000 in
theorem c_renew (G : zG) (sz B : Nat) (kd n t zz : Int) (ch : Int32) (md tc : Int) (tg pt : Nat → Int) (L : Nat → Int → Int) (w0 : zW) (nn : Nat) (hnn : n = (nn : Int)) (hn : nn ≤ 32) (h1 : ∀ i : Nat, i < nn → -9223372036854775808 < zMk nn (zlcN ch nn) 8 (zAp nn 6 5 5 (zFl 6 0 (zlu L 5 (zif nn (zrT ch) (L 5))))) 85 i ∧ zMk nn (zlcN ch nn) 8 (zAp nn 6 5 5 (zFl 6 0 (zlu L 5 (zif nn (zrT ch) (L 5))))) 85 i < 9223372036854775808) (h2 : ∀ k : Nat, k < 6 → ∀ i : Nat, i < nn → -9223372036854775808 < zAs nn 85 6 (-(32 ^ k)) (zMk nn (zSwc nn (zMkc nn (zlcN ch nn)) k) (9 + 8 + 1 + k) (zSwL nn (zMkc nn (zlcN ch nn)) 9 6 (zHb nn 7 (zMk nn (zlcN ch nn) 8 (zAp nn 6 5 5 (zFl 6 0 (zlu L 5 (zif nn (zrT ch) (L 5))))))) k)) 85 i ∧ zAs nn 85 6 (-(32 ^ k)) (zMk nn (zSwc nn (zMkc nn (zlcN ch nn)) k) (9 + 8 + 1 + k) (zSwL nn (zMkc nn (zlcN ch nn)) 9 6 (zHb nn 7 (zMk nn (zlcN ch nn) 8 (zAp nn 6 5 5 (zFl 6 0 (zlu L 5 (zif nn (zrT ch) (L 5))))))) k)) 85 i < 9223372036854775808) : zCt G M_KeyRing_renew (zR 4 0 0 93) [.ref (B + 4), .ref (B + 1), .ref (B + 3)] sz (zsys G B kd n t zz ch md tc tg pt L w0) (zdet none (zsys G B kd n t zz (zRnc nn ch) 1 0 tg pt (zRnL nn ch L) w0) sz) := by
  subst hnn
  refine V_aload_n d_KeyRing_renew_0 rfl ?_
  refine V_aload_n d_KeyRing_renew_1 rfl ?_
  refine V_getf d_KeyRing_renew_2 ff_KeyRing_9 zsys_k rfl ?_
  refine V_aload_n d_KeyRing_renew_5 rfl ?_
  refine V_getf d_KeyRing_renew_6 ff_KeyRing_49 zsys_r rfl ?_
  refine V_callV (n := 2) d_KeyRing_renew_9 g_KeyRing_54 rfl zsys_c rfl (c_fillTernary G _ _ (B + 3) (B + 5) nn ch (L 5) zsys_c (zsys_row zir_5) hn) ⟨co_Chance_fillTernary, by decide +kernel, Nat.le_of_ble_eq_true rfl⟩ ⟨Nat.le_of_ble_eq_true rfl, Nat.le_of_ble_eq_true rfl, Nat.le_of_ble_eq_true rfl, Nat.le_of_ble_eq_true rfl⟩ (Nat.le_of_ble_eq_true rfl) (fun r_9 w_9 s_9 q_9 => ?_) (fun _ _ _ q => False.elim q)
  obtain ⟨rfl, rfl, rfl⟩ := q_9
  refine V_w (by rw [zsys_ch, zsys_lu zir_5]) ?_
  refine V_aload_n d_KeyRing_renew_12 rfl ?_
  refine V_getf d_KeyRing_renew_13 ff_KeyRing_15 zsys_k rfl ?_
  refine J_lconst (z := 0) d_KeyRing_renew_16 rfl ?_
  refine V_callS (n := 2) d_KeyRing_renew_17 g_KeyRing_60 rfl (c_fill G _ _ (B + 6) 32 0 _ (zsys_row zir_6) (by decide)) ⟨co_Arrays_fill, by decide +kernel, Nat.le_of_ble_eq_true rfl⟩ ⟨Nat.le_of_ble_eq_true rfl, Nat.le_of_ble_eq_true rfl, Nat.le_of_ble_eq_true rfl, Nat.le_of_ble_eq_true rfl⟩ (Nat.le_of_ble_eq_true rfl) (fun r_17 w_17 s_17 q_17 => ?_) (fun _ _ _ q => False.elim q)
  obtain ⟨rfl, rfl, rfl⟩ := q_17
  refine V_w (zsys_lu zir_6) ?_
  refine V_aload_n d_KeyRing_renew_20 rfl ?_
  refine V_aload_n d_KeyRing_renew_21 rfl ?_
  refine V_getf d_KeyRing_renew_22 ff_KeyRing_15 zsys_k rfl ?_
  refine V_aload_n d_KeyRing_renew_25 rfl ?_
  refine V_getf d_KeyRing_renew_26 ff_KeyRing_9 zsys_k rfl ?_
  refine V_aload_n d_KeyRing_renew_29 rfl ?_
  refine V_getf d_KeyRing_renew_30 ff_KeyRing_9 zsys_k rfl ?_
  refine V_callV (n := 3) d_KeyRing_renew_33 g_KeyRing_66 rfl zsys_r rfl (c_addProduct G _ _ (B + 1) (B + 2) kd nn t zz (B + 6) (B + 5) (B + 5) nn _ _ _ zsys_r (zsys_row zir_6) (zsys_row zir_5) (zsys_row zir_5) (by omega) (by omega) rfl hn) ⟨co_Ring_addProduct, by decide +kernel, Nat.le_of_ble_eq_true rfl⟩ ⟨Nat.le_of_ble_eq_true rfl, Nat.le_of_ble_eq_true rfl, Nat.le_of_ble_eq_true rfl, Nat.le_of_ble_eq_true rfl⟩ (Nat.le_of_ble_eq_true rfl) (fun r_33 w_33 s_33 q_33 => ?_) (fun _ _ _ q => False.elim q)
  obtain ⟨rfl, rfl, rfl⟩ := q_33
  refine V_w (zsys_lu zir_6) ?_
  refine V_aload_n d_KeyRing_renew_36 rfl ?_
  refine V_aload_n d_KeyRing_renew_37 rfl ?_
  refine V_aload_n d_KeyRing_renew_38 rfl ?_
  refine V_aload_n d_KeyRing_renew_39 rfl ?_
  refine V_getf d_KeyRing_renew_40 ff_KeyRing_21 zsys_k rfl ?_
  refine V_callV (n := 3) d_KeyRing_renew_43 g_KeyRing_70 rfl zsys_k rfl (c_makeMask G _ B kd nn t zz (zlcN ch nn) md tc tg pt (zAp nn 6 5 5 (zFl 6 0 (zlu L 5 (zif nn (zrT ch) (L 5))))) w0 nn rfl hn 8 zir_8 (by decide) (by decide)) ⟨co_KeyRing_makeMask, by decide +kernel, Nat.le_of_ble_eq_true rfl⟩ ⟨Nat.le_of_ble_eq_true rfl, Nat.le_of_ble_eq_true rfl, Nat.le_of_ble_eq_true rfl, Nat.le_of_ble_eq_true rfl⟩ (Nat.le_of_ble_eq_true rfl) (fun r_43 w_43 s_43 q_43 => ?_) (fun _ _ _ q => False.elim q)
  obtain ⟨rfl, rfl, rfl⟩ := q_43
  refine V_aload_n d_KeyRing_renew_46 rfl ?_
  refine V_aload_n d_KeyRing_renew_47 rfl ?_
  refine V_aload_n d_KeyRing_renew_48 rfl ?_
  refine V_getf d_KeyRing_renew_49 ff_KeyRing_18 zsys_k rfl ?_
  refine V_callV (n := 2) d_KeyRing_renew_52 g_KeyRing_74 rfl zsys_k rfl (c_hideBody G _ B kd nn t zz _ md tc tg pt (zMk nn (zlcN ch nn) 8 (zAp nn 6 5 5 (zFl 6 0 (zlu L 5 (zif nn (zrT ch) (L 5)))))) w0 nn rfl hn 7 zir_7 (by decide) h1) ⟨co_KeyRing_hideBody, by decide +kernel, Nat.le_of_ble_eq_true rfl⟩ ⟨Nat.le_of_ble_eq_true rfl, Nat.le_of_ble_eq_true rfl, Nat.le_of_ble_eq_true rfl, Nat.le_of_ble_eq_true rfl⟩ (Nat.le_of_ble_eq_true rfl) (fun r_52 w_52 s_52 q_52 => ?_) (fun _ _ _ q => False.elim q)
  obtain ⟨rfl, rfl, rfl⟩ := q_52
  refine V_aload_n d_KeyRing_renew_55 rfl ?_
  refine V_aload_n d_KeyRing_renew_56 rfl ?_
  refine V_aload_n d_KeyRing_renew_57 rfl ?_
  refine V_aload_n d_KeyRing_renew_58 rfl ?_
  refine V_getf d_KeyRing_renew_59 ff_KeyRing_27 zsys_k rfl ?_
  refine V_aload_n d_KeyRing_renew_62 rfl ?_
  refine V_getf d_KeyRing_renew_63 ff_KeyRing_15 zsys_k rfl ?_
  refine V_callV (n := 4) d_KeyRing_renew_66 g_KeyRing_78 rfl zsys_k rfl (c_makeSwitch G _ B kd nn t zz (zMkc nn (zlcN ch nn)) md tc tg pt (zHb nn 7 (zMk nn (zlcN ch nn) 8 (zAp nn 6 5 5 (zFl 6 0 (zlu L 5 (zif nn (zrT ch) (L 5))))))) w0 nn rfl hn 9 6 (Or.inl rfl) zir_6 (by decide) h2) ⟨co_KeyRing_makeSwitch, by decide +kernel, Nat.le_of_ble_eq_true rfl⟩ ⟨Nat.le_of_ble_eq_true rfl, Nat.le_of_ble_eq_true rfl, Nat.le_of_ble_eq_true rfl, Nat.le_of_ble_eq_true rfl⟩ (Nat.le_of_ble_eq_true rfl) (fun r_66 w_66 s_66 q_66 => ?_) (fun _ _ _ q => False.elim q)
  obtain ⟨rfl, rfl, rfl⟩ := q_66
  refine V_aload_n d_KeyRing_renew_69 rfl ?_
  refine V_iconst d_KeyRing_renew_70 ?_
  refine V_putf d_KeyRing_renew_71 ff_KeyRing_41 zsys_k ⟨_, _, _, _, rfl, rfl, rfl, rfl, rfl⟩ (Nat.le_of_ble_eq_true rfl) ?_
  refine V_w (zsys_kr (md' := 1) (tc' := tc) rfl) ?_
  refine V_aload_n d_KeyRing_renew_74 rfl ?_
  refine V_iconst d_KeyRing_renew_75 ?_
  refine V_putf d_KeyRing_renew_76 ff_KeyRing_45 zsys_k ⟨_, _, _, _, rfl, rfl, rfl, rfl, rfl⟩ (Nat.le_of_ble_eq_true rfl) ?_
  refine V_w (zsys_kr (md' := 1) (tc' := 0) rfl) ?_
  exact V_return d_KeyRing_renew_79 rfl ⟨Nat.le_of_ble_eq_true rfl, Nat.le_of_ble_eq_true rfl⟩ ⟨rfl, rfl, rfl⟩

set_option maxRecDepth 100000 in
set_option maxHeartbeats 4000000 in
theorem c_placeOfTurn (G : zG) (sz B : Nat) (kd n t zz : Int) (ch : Int32) (md tc : Int) (tg pt : Nat → Int) (L : Nat → Int → Int) (w0 : zW) (g : Int) (hg : -2147483648 ≤ g ∧ g < 2147483648) (htc : 0 ≤ tc ∧ tc ≤ 4) (htg : ∀ p : Nat, p < 4 → -2147483648 ≤ tg (25 + 15 * p) ∧ tg (25 + 15 * p) < 2147483648) : zCt G M_KeyRing_placeOfTurn (zR 0 0 0 0) [.ref (B + 4), .int (Int32.ofInt g)] sz (zsys G B kd n t zz ch md tc tg pt L w0) (zdet (some (.int (Int32.ofInt ((zplc tg tc g 5 0 : Nat) : Int)))) (zsys G B kd n t zz ch md tc tg pt L w0) sz) := by
  have key : ∀ (f p : Nat), (p : Int) ≤ tc → tc - p ≤ f → zplc tg tc g 5 0 = zplc tg tc g f p → V G M_KeyRing_placeOfTurn (zdet (some (.int (Int32.ofInt ((zplc tg tc g 5 0 : Nat) : Int)))) (zsys G B kd n t zz ch md tc tg pt L w0) sz) (zR 0 0 0 0) 0 0 sz 2 [(0, .ref (B + 4)), (1, .int (Int32.ofInt g)), (2, .int (Int32.ofInt (p : Int)))] [] (zsys G B kd n t zz ch md tc tg pt L w0) := by
    intro f
    induction f with
    | zero =>
      intro p h3 h4 h5
      refine V_iload_n d_KeyRing_placeOfTurn_2 rfl ?_
      refine V_aload_n d_KeyRing_placeOfTurn_3 rfl ?_
      refine V_getf d_KeyRing_placeOfTurn_4 ff_KeyRing_45 zsys_k rfl ?_
      refine J_icmp_ge 29 d_KeyRing_placeOfTurn_7 (by decide) (by omega) (by omega) (fun c_7 => ?_) (fun c_7 => absurd c_7 (by omega))
      refine V_iload_n d_KeyRing_placeOfTurn_29 rfl ?_
      exact V_ireturn d_KeyRing_placeOfTurn_30 rfl ⟨Nat.le_of_ble_eq_true rfl, Nat.le_of_ble_eq_true rfl⟩ ⟨by rw [h5]; rfl, rfl, rfl⟩
    | succ f ih =>
      intro p h3 h4 h5
      refine V_iload_n d_KeyRing_placeOfTurn_2 rfl ?_
      refine V_aload_n d_KeyRing_placeOfTurn_3 rfl ?_
      refine V_getf d_KeyRing_placeOfTurn_4 ff_KeyRing_45 zsys_k rfl ?_
      refine J_icmp_ge 29 d_KeyRing_placeOfTurn_7 (by decide) (by omega) (by omega) (fun c_7 => ?_) (fun c_7 => ?_)
      · skip
        refine V_iload_n d_KeyRing_placeOfTurn_29 rfl ?_
        exact V_ireturn d_KeyRing_placeOfTurn_30 rfl ⟨Nat.le_of_ble_eq_true rfl, Nat.le_of_ble_eq_true rfl⟩ ⟨by rw [h5]; unfold zplc; rw [if_neg (by omega)], rfl, rfl⟩
      · skip
        refine V_aload_n d_KeyRing_placeOfTurn_10 rfl ?_
        refine V_getf d_KeyRing_placeOfTurn_11 ff_KeyRing_31 zsys_k rfl ?_
        refine V_iload_n d_KeyRing_placeOfTurn_14 rfl ?_
        refine J_aaload d_KeyRing_placeOfTurn_15 (zsys_at (by decide) rfl) rfl rfl (by omega) (by decide) ((zel (a := fun k => B + (25 + 15 * k)) (show p < 4 by omega)).trans rfl : _ = some (B + (25 + 15 * p))) ?_
        refine V_getf d_KeyRing_placeOfTurn_16 ff_KeyRing_82 (zsys_at (by omega) (zlay_swk (by omega))) rfl ?_
        refine V_iload_n d_KeyRing_placeOfTurn_19 rfl ?_
        refine J_icmp_eq 29 d_KeyRing_placeOfTurn_20 (by decide) (htg p (by omega)) (by omega) (fun c_20 => ?_) (fun c_20 => ?_)
        · skip
          refine V_iload_n d_KeyRing_placeOfTurn_29 rfl ?_
          exact V_ireturn d_KeyRing_placeOfTurn_30 rfl ⟨Nat.le_of_ble_eq_true rfl, Nat.le_of_ble_eq_true rfl⟩ ⟨by rw [h5]; unfold zplc; rw [if_neg (fun q => q.2 c_20)], rfl, rfl⟩
        · skip
          refine J_iinc d_KeyRing_placeOfTurn_23 rfl (by decide) ?_
          refine V_goto 2 d_KeyRing_placeOfTurn_26 (by decide) ?_
          exact ih (p + 1) (by omega) (by omega) (by rw [h5]; conv => { lhs; unfold zplc }; rw [if_pos ⟨c_7, c_20⟩])
  refine V_iconst d_KeyRing_placeOfTurn_0 ?_
  refine V_istore_n d_KeyRing_placeOfTurn_1 (by decide) ?_
  exact key 5 0 (by omega) (by omega) rfl

set_option maxRecDepth 100000 in
set_option maxHeartbeats 4000000 in
theorem c_makeTurn (G : zG) (sz B : Nat) (kd n t zz : Int) (ch : Int32) (md tc : Int) (tg pt : Nat → Int) (L : Nat → Int → Int) (w0 : zW) (nn : Nat) (hnn : n = (nn : Int)) (hn : nn ≤ 32) (p : Nat) (g : Int) (hp : p < 4) (hg : 0 ≤ g ∧ g ≤ 64) (htc : 0 ≤ tc ∧ tc ≤ 4) (h1 : ∀ i : Nat, i < nn → -9223372036854775808 < L 5 i ∧ L 5 i < 9223372036854775808) (h2 : ∀ k : Nat, k < 6 → ∀ i : Nat, i < nn → -9223372036854775808 < zAs nn 85 86 (-(32 ^ k)) (zMk nn (zSwc nn ch k) (25 + 15 * p + 8 + 1 + k) (zSwL nn ch (25 + 15 * p) 86 (zSs nn 86 5 g L) k)) 85 i ∧ zAs nn 85 86 (-(32 ^ k)) (zMk nn (zSwc nn ch k) (25 + 15 * p + 8 + 1 + k) (zSwL nn ch (25 + 15 * p) 86 (zSs nn 86 5 g L) k)) 85 i < 9223372036854775808) : zCt G M_KeyRing_makeTurn (zR 4 0 0 93) [.ref (B + 4), .ref (B + 1), .ref (B + 3), .int (Int32.ofInt (p : Int)), .int (Int32.ofInt g)] sz (zsys G B kd n t zz ch md tc tg pt L w0) (zdet none (zsys G B kd n t zz (zSwc nn ch 6) md (if tc < (p : Int) + 1 then (p : Int) + 1 else tc) (zpu tg (25 + 15 * p) g) pt (zSwL nn ch (25 + 15 * p) 86 (zSs nn 86 5 g L) 6) w0) sz) := by
  subst hnn
  refine V_aload_n d_KeyRing_makeTurn_0 rfl ?_
  refine V_aload_n d_KeyRing_makeTurn_1 rfl ?_
  refine V_getf d_KeyRing_makeTurn_2 ff_KeyRing_38 zsys_k rfl ?_
  refine V_aload_n d_KeyRing_makeTurn_5 rfl ?_
  refine V_getf d_KeyRing_makeTurn_6 ff_KeyRing_9 zsys_k rfl ?_
  refine V_iload d_KeyRing_makeTurn_9 rfl ?_
  refine V_callV (n := 3) d_KeyRing_makeTurn_11 g_KeyRing_85 rfl zsys_r rfl (c_substitute G _ _ (B + 1) (B + 2) kd nn t zz (B + 86) (B + 5) nn g _ _ zsys_r (zsys_row zir_86) (zsys_row zir_5) (by omega) rfl hn hg h1) ⟨co_Ring_substitute, by decide +kernel, Nat.le_of_ble_eq_true rfl⟩ ⟨Nat.le_of_ble_eq_true rfl, Nat.le_of_ble_eq_true rfl, Nat.le_of_ble_eq_true rfl, Nat.le_of_ble_eq_true rfl⟩ (Nat.le_of_ble_eq_true rfl) (fun r_11 w_11 s_11 q_11 => ?_) (fun _ _ _ q => False.elim q)
  obtain ⟨rfl, rfl, rfl⟩ := q_11
  refine V_w (zsys_lu zir_86) ?_
  refine V_aload_n d_KeyRing_makeTurn_14 rfl ?_
  refine V_aload_n d_KeyRing_makeTurn_15 rfl ?_
  refine V_aload_n d_KeyRing_makeTurn_16 rfl ?_
  refine V_aload_n d_KeyRing_makeTurn_17 rfl ?_
  refine V_getf d_KeyRing_makeTurn_18 ff_KeyRing_31 zsys_k rfl ?_
  refine V_iload_n d_KeyRing_makeTurn_21 rfl ?_
  refine J_aaload d_KeyRing_makeTurn_22 (zsys_at (by decide) rfl) rfl rfl (by omega) (by decide) ((zel (a := fun k => B + (25 + 15 * k)) hp).trans rfl : _ = some (B + (25 + 15 * p))) ?_
  refine V_aload_n d_KeyRing_makeTurn_23 rfl ?_
  refine V_getf d_KeyRing_makeTurn_24 ff_KeyRing_38 zsys_k rfl ?_
  refine V_callV (n := 4) d_KeyRing_makeTurn_27 g_KeyRing_78 rfl zsys_k rfl (c_makeSwitch G _ B kd nn t zz ch md tc tg pt (zSs nn 86 5 g L) w0 nn rfl hn (25 + 15 * p) 86 (by omega) zir_86 (by decide) h2) ⟨co_KeyRing_makeSwitch, by decide +kernel, Nat.le_of_ble_eq_true rfl⟩ ⟨Nat.le_of_ble_eq_true rfl, Nat.le_of_ble_eq_true rfl, Nat.le_of_ble_eq_true rfl, Nat.le_of_ble_eq_true rfl⟩ (Nat.le_of_ble_eq_true rfl) (fun r_27 w_27 s_27 q_27 => ?_) (fun _ _ _ q => False.elim q)
  obtain ⟨rfl, rfl, rfl⟩ := q_27
  refine V_aload_n d_KeyRing_makeTurn_30 rfl ?_
  refine V_getf d_KeyRing_makeTurn_31 ff_KeyRing_31 zsys_k rfl ?_
  refine V_iload_n d_KeyRing_makeTurn_34 rfl ?_
  refine J_aaload d_KeyRing_makeTurn_35 (zsys_at (by decide) rfl) rfl rfl (by omega) (by decide) ((zel (a := fun k => B + (25 + 15 * k)) hp).trans rfl : _ = some (B + (25 + 15 * p))) ?_
  refine V_iload d_KeyRing_makeTurn_36 rfl ?_
  refine V_putf d_KeyRing_makeTurn_38 ff_KeyRing_82 (zsys_at (by omega) (zlay_swk (by omega))) ⟨_, _, _, _, rfl, rfl, rfl, rfl, rfl⟩ (Nat.le_of_ble_eq_true rfl) ?_
  refine V_w (zsys_tg (v := g) (by omega) rfl) ?_
  refine V_aload_n d_KeyRing_makeTurn_41 rfl ?_
  refine V_aload_n d_KeyRing_makeTurn_42 rfl ?_
  refine V_getf d_KeyRing_makeTurn_43 ff_KeyRing_45 zsys_k rfl ?_
  refine V_iload_n d_KeyRing_makeTurn_46 rfl ?_
  refine V_iconst d_KeyRing_makeTurn_47 ?_
  refine J_iadd d_KeyRing_makeTurn_48 ?_
  refine V_callS (n := 2) d_KeyRing_makeTurn_49 g_KeyRing_89 rfl (c_maxI G _ _ tc ((p : Int) + 1) (by omega) (by omega)) ⟨co_Math_max_II, by decide +kernel, Nat.le_of_ble_eq_true rfl⟩ ⟨Nat.le_of_ble_eq_true rfl, Nat.le_of_ble_eq_true rfl, Nat.le_of_ble_eq_true rfl, Nat.le_of_ble_eq_true rfl⟩ (Nat.le_of_ble_eq_true rfl) (fun r_49 w_49 s_49 q_49 => ?_) (fun _ _ _ q => False.elim q)
  obtain ⟨rfl, rfl, rfl⟩ := q_49
  refine V_putf d_KeyRing_makeTurn_52 ff_KeyRing_45 zsys_k ⟨_, _, _, _, rfl, rfl, rfl, rfl, rfl⟩ (Nat.le_of_ble_eq_true rfl) ?_
  refine V_w (zsys_kr (md' := md) (tc' := if tc < (p : Int) + 1 then (p : Int) + 1 else tc) rfl) ?_
  exact V_return d_KeyRing_makeTurn_55 rfl ⟨Nat.le_of_ble_eq_true rfl, Nat.le_of_ble_eq_true rfl⟩ ⟨rfl, rfl, rfl⟩

set_option maxRecDepth 100000 in
set_option maxHeartbeats 4000000 in
theorem c_findPhase2 (G : zG) (sz B : Nat) (kd n t zz : Int) (ch : Int32) (md tc : Int) (tg pt : Nat → Int) (L : Nat → Int → Int) (w0 : zW) (nn : Nat) (hnn : n = (nn : Int)) (hn : nn ≤ 32) (c s : Nat) (hc : c < 16) (hs : zir s) (hs85 : s ≠ 85) (hp3 : 0 ≤ pt (97 + 5 * c) ∧ pt (97 + 5 * c) ≤ 3) (hpt : ¬ pt (97 + 5 * c) = 3) (hR : ∀ i : Nat, i < nn → -9223372036854775808 ≤ (zAp nn 85 5 (97 + 5 * c + 1 + 1 + 1) (zCy nn 85 (97 + 5 * c + 1 + 1 + 0) L)) 85 i ∧ (zAp nn 85 5 (97 + 5 * c + 1 + 1 + 1) (zCy nn 85 (97 + 5 * c + 1 + 1 + 0) L)) 85 i < 9223372036854775808) : zCt G M_KeyRing_findPhase (zR 3 0 0 71) [.ref (B + 4), .ref (B + 1), .ref (B + s), .ref (B + (97 + 5 * c))] sz (zsys G B kd n t zz ch md tc tg pt L w0) (zdet none (zsys G B kd n t zz ch md tc tg pt (zCe nn s 85 (zAp nn 85 5 (97 + 5 * c + 1 + 1 + 1) (zCy nn 85 (97 + 5 * c + 1 + 1 + 0) L))) w0) sz) := by
  subst hnn
  refine V_aload_n d_KeyRing_findPhase_0 rfl ?_
  refine V_aload_n d_KeyRing_findPhase_1 rfl ?_
  refine V_getf d_KeyRing_findPhase_2 ff_KeyRing_35 zsys_k rfl ?_
  refine V_aload_n d_KeyRing_findPhase_5 rfl ?_
  refine V_getf d_KeyRing_findPhase_6 ff_KeyRing_118 (zsys_at (by omega) (zlay_cip hc)) rfl ?_
  refine V_iconst d_KeyRing_findPhase_9 ?_
  refine J_aaload d_KeyRing_findPhase_10 (zsys_at (by omega) (zlay_cir hc)) rfl rfl (by omega) (by decide) (show _ = some (B + (97 + 5 * c + 1 + 1 + 0)) from rfl) ?_
  refine V_callV (n := 2) d_KeyRing_findPhase_11 g_KeyRing_123 rfl zsys_r rfl (c_copy G _ _ (B + 1) (B + 2) kd nn t zz (B + 85) (B + (97 + 5 * c + 1 + 1 + 0)) _ _ zsys_r (zsys_row zir_85) (zsys_row (zir_c hc (by decide))) (by omega)) ⟨co_Ring_copy, by decide +kernel, Nat.le_of_ble_eq_true rfl⟩ ⟨Nat.le_of_ble_eq_true rfl, Nat.le_of_ble_eq_true rfl, Nat.le_of_ble_eq_true rfl, Nat.le_of_ble_eq_true rfl⟩ (Nat.le_of_ble_eq_true rfl) (fun r_11 w_11 s_11 q_11 => ?_) (fun _ _ _ q => False.elim q)
  obtain ⟨rfl, rfl, rfl⟩ := q_11
  refine V_w (zsys_lu zir_85) ?_
  refine V_aload_n d_KeyRing_findPhase_14 rfl ?_
  refine V_aload_n d_KeyRing_findPhase_15 rfl ?_
  refine V_getf d_KeyRing_findPhase_16 ff_KeyRing_35 zsys_k rfl ?_
  refine V_aload_n d_KeyRing_findPhase_19 rfl ?_
  refine V_getf d_KeyRing_findPhase_20 ff_KeyRing_9 zsys_k rfl ?_
  refine V_aload_n d_KeyRing_findPhase_23 rfl ?_
  refine V_getf d_KeyRing_findPhase_24 ff_KeyRing_118 (zsys_at (by omega) (zlay_cip hc)) rfl ?_
  refine V_iconst d_KeyRing_findPhase_27 ?_
  refine J_aaload d_KeyRing_findPhase_28 (zsys_at (by omega) (zlay_cir hc)) rfl rfl (by omega) (by decide) (show _ = some (B + (97 + 5 * c + 1 + 1 + 1)) from rfl) ?_
  refine V_callV (n := 3) d_KeyRing_findPhase_29 g_KeyRing_66 rfl zsys_r rfl (c_addProduct G _ _ (B + 1) (B + 2) kd nn t zz (B + 85) (B + 5) (B + (97 + 5 * c + 1 + 1 + 1)) nn _ _ _ zsys_r (zsys_row zir_85) (zsys_row zir_5) (zsys_row (zir_c hc (by decide))) (by omega) (by omega) rfl hn) ⟨co_Ring_addProduct, by decide +kernel, Nat.le_of_ble_eq_true rfl⟩ ⟨Nat.le_of_ble_eq_true rfl, Nat.le_of_ble_eq_true rfl, Nat.le_of_ble_eq_true rfl, Nat.le_of_ble_eq_true rfl⟩ (Nat.le_of_ble_eq_true rfl) (fun r_29 w_29 s_29 q_29 => ?_) (fun _ _ _ q => False.elim q)
  obtain ⟨rfl, rfl, rfl⟩ := q_29
  refine V_w (zsys_lu zir_85) ?_
  refine V_aload_n d_KeyRing_findPhase_32 rfl ?_
  refine V_getf d_KeyRing_findPhase_33 ff_KeyRing_127 (zsys_at (by omega) (zlay_cip hc)) rfl ?_
  refine V_iconst d_KeyRing_findPhase_36 ?_
  refine J_icmp_ne 58 d_KeyRing_findPhase_37 (by decide) (by omega) (by omega) (fun c_37 => ?_) (fun c_37 => absurd c_37 hpt)
  refine V_aload_n d_KeyRing_findPhase_58 rfl ?_
  refine V_aload_n d_KeyRing_findPhase_59 rfl ?_
  refine V_aload_n d_KeyRing_findPhase_60 rfl ?_
  refine V_getf d_KeyRing_findPhase_61 ff_KeyRing_35 zsys_k rfl ?_
  refine V_callV (n := 2) d_KeyRing_findPhase_64 g_KeyRing_130 rfl zsys_r rfl (c_centre G _ _ (B + 1) (B + 2) kd nn t zz (B + s) (B + 85) nn _ _ zsys_r (zsys_row hs) (zsys_row zir_85) (by omega) rfl hn hR) ⟨co_Ring_centre, by decide +kernel, Nat.le_of_ble_eq_true rfl⟩ ⟨Nat.le_of_ble_eq_true rfl, Nat.le_of_ble_eq_true rfl, Nat.le_of_ble_eq_true rfl, Nat.le_of_ble_eq_true rfl⟩ (Nat.le_of_ble_eq_true rfl) (fun r_64 w_64 s_64 q_64 => ?_) (fun _ _ _ q => False.elim q)
  obtain ⟨rfl, rfl, rfl⟩ := q_64
  refine V_w (zsys_lu hs) ?_
  exact V_return d_KeyRing_findPhase_67 rfl ⟨Nat.le_of_ble_eq_true rfl, Nat.le_of_ble_eq_true rfl⟩ ⟨rfl, rfl, rfl⟩

set_option maxRecDepth 100000 in
set_option maxHeartbeats 4000000 in
theorem c_findPhase3 (G : zG) (sz B : Nat) (kd n t zz : Int) (ch : Int32) (md tc : Int) (tg pt : Nat → Int) (L : Nat → Int → Int) (w0 : zW) (nn : Nat) (hnn : n = (nn : Int)) (hn : nn ≤ 32) (c s : Nat) (hc : c < 16) (hs : zir s) (hs85 : s ≠ 85) (hp3 : 0 ≤ pt (97 + 5 * c) ∧ pt (97 + 5 * c) ≤ 3) (hpt : pt (97 + 5 * c) = 3) (hR : ∀ i : Nat, i < nn → -9223372036854775808 ≤ (zAp nn 85 6 (97 + 5 * c + 1 + 1 + 2) (zAp nn 85 5 (97 + 5 * c + 1 + 1 + 1) (zCy nn 85 (97 + 5 * c + 1 + 1 + 0) L))) 85 i ∧ (zAp nn 85 6 (97 + 5 * c + 1 + 1 + 2) (zAp nn 85 5 (97 + 5 * c + 1 + 1 + 1) (zCy nn 85 (97 + 5 * c + 1 + 1 + 0) L))) 85 i < 9223372036854775808) : zCt G M_KeyRing_findPhase (zR 3 0 0 71) [.ref (B + 4), .ref (B + 1), .ref (B + s), .ref (B + (97 + 5 * c))] sz (zsys G B kd n t zz ch md tc tg pt L w0) (zdet none (zsys G B kd n t zz ch md tc tg pt (zCe nn s 85 (zAp nn 85 6 (97 + 5 * c + 1 + 1 + 2) (zAp nn 85 5 (97 + 5 * c + 1 + 1 + 1) (zCy nn 85 (97 + 5 * c + 1 + 1 + 0) L)))) w0) sz) := by
  subst hnn
  refine V_aload_n d_KeyRing_findPhase_0 rfl ?_
  refine V_aload_n d_KeyRing_findPhase_1 rfl ?_
  refine V_getf d_KeyRing_findPhase_2 ff_KeyRing_35 zsys_k rfl ?_
  refine V_aload_n d_KeyRing_findPhase_5 rfl ?_
  refine V_getf d_KeyRing_findPhase_6 ff_KeyRing_118 (zsys_at (by omega) (zlay_cip hc)) rfl ?_
  refine V_iconst d_KeyRing_findPhase_9 ?_
  refine J_aaload d_KeyRing_findPhase_10 (zsys_at (by omega) (zlay_cir hc)) rfl rfl (by omega) (by decide) (show _ = some (B + (97 + 5 * c + 1 + 1 + 0)) from rfl) ?_
  refine V_callV (n := 2) d_KeyRing_findPhase_11 g_KeyRing_123 rfl zsys_r rfl (c_copy G _ _ (B + 1) (B + 2) kd nn t zz (B + 85) (B + (97 + 5 * c + 1 + 1 + 0)) _ _ zsys_r (zsys_row zir_85) (zsys_row (zir_c hc (by decide))) (by omega)) ⟨co_Ring_copy, by decide +kernel, Nat.le_of_ble_eq_true rfl⟩ ⟨Nat.le_of_ble_eq_true rfl, Nat.le_of_ble_eq_true rfl, Nat.le_of_ble_eq_true rfl, Nat.le_of_ble_eq_true rfl⟩ (Nat.le_of_ble_eq_true rfl) (fun r_11 w_11 s_11 q_11 => ?_) (fun _ _ _ q => False.elim q)
  obtain ⟨rfl, rfl, rfl⟩ := q_11
  refine V_w (zsys_lu zir_85) ?_
  refine V_aload_n d_KeyRing_findPhase_14 rfl ?_
  refine V_aload_n d_KeyRing_findPhase_15 rfl ?_
  refine V_getf d_KeyRing_findPhase_16 ff_KeyRing_35 zsys_k rfl ?_
  refine V_aload_n d_KeyRing_findPhase_19 rfl ?_
  refine V_getf d_KeyRing_findPhase_20 ff_KeyRing_9 zsys_k rfl ?_
  refine V_aload_n d_KeyRing_findPhase_23 rfl ?_
  refine V_getf d_KeyRing_findPhase_24 ff_KeyRing_118 (zsys_at (by omega) (zlay_cip hc)) rfl ?_
  refine V_iconst d_KeyRing_findPhase_27 ?_
  refine J_aaload d_KeyRing_findPhase_28 (zsys_at (by omega) (zlay_cir hc)) rfl rfl (by omega) (by decide) (show _ = some (B + (97 + 5 * c + 1 + 1 + 1)) from rfl) ?_
  refine V_callV (n := 3) d_KeyRing_findPhase_29 g_KeyRing_66 rfl zsys_r rfl (c_addProduct G _ _ (B + 1) (B + 2) kd nn t zz (B + 85) (B + 5) (B + (97 + 5 * c + 1 + 1 + 1)) nn _ _ _ zsys_r (zsys_row zir_85) (zsys_row zir_5) (zsys_row (zir_c hc (by decide))) (by omega) (by omega) rfl hn) ⟨co_Ring_addProduct, by decide +kernel, Nat.le_of_ble_eq_true rfl⟩ ⟨Nat.le_of_ble_eq_true rfl, Nat.le_of_ble_eq_true rfl, Nat.le_of_ble_eq_true rfl, Nat.le_of_ble_eq_true rfl⟩ (Nat.le_of_ble_eq_true rfl) (fun r_29 w_29 s_29 q_29 => ?_) (fun _ _ _ q => False.elim q)
  obtain ⟨rfl, rfl, rfl⟩ := q_29
  refine V_w (zsys_lu zir_85) ?_
  refine V_aload_n d_KeyRing_findPhase_32 rfl ?_
  refine V_getf d_KeyRing_findPhase_33 ff_KeyRing_127 (zsys_at (by omega) (zlay_cip hc)) rfl ?_
  refine V_iconst d_KeyRing_findPhase_36 ?_
  refine J_icmp_ne 58 d_KeyRing_findPhase_37 (by decide) (by omega) (by omega) (fun c_37 => absurd hpt c_37) (fun c_37 => ?_)
  refine V_aload_n d_KeyRing_findPhase_40 rfl ?_
  refine V_aload_n d_KeyRing_findPhase_41 rfl ?_
  refine V_getf d_KeyRing_findPhase_42 ff_KeyRing_35 zsys_k rfl ?_
  refine V_aload_n d_KeyRing_findPhase_45 rfl ?_
  refine V_getf d_KeyRing_findPhase_46 ff_KeyRing_15 zsys_k rfl ?_
  refine V_aload_n d_KeyRing_findPhase_49 rfl ?_
  refine V_getf d_KeyRing_findPhase_50 ff_KeyRing_118 (zsys_at (by omega) (zlay_cip hc)) rfl ?_
  refine V_iconst d_KeyRing_findPhase_53 ?_
  refine J_aaload d_KeyRing_findPhase_54 (zsys_at (by omega) (zlay_cir hc)) rfl rfl (by omega) (by decide) (show _ = some (B + (97 + 5 * c + 1 + 1 + 2)) from rfl) ?_
  refine V_callV (n := 3) d_KeyRing_findPhase_55 g_KeyRing_66 rfl zsys_r rfl (c_addProduct G _ _ (B + 1) (B + 2) kd nn t zz (B + 85) (B + 6) (B + (97 + 5 * c + 1 + 1 + 2)) nn _ _ _ zsys_r (zsys_row zir_85) (zsys_row zir_6) (zsys_row (zir_c hc (by decide))) (by omega) (by omega) rfl hn) ⟨co_Ring_addProduct, by decide +kernel, Nat.le_of_ble_eq_true rfl⟩ ⟨Nat.le_of_ble_eq_true rfl, Nat.le_of_ble_eq_true rfl, Nat.le_of_ble_eq_true rfl, Nat.le_of_ble_eq_true rfl⟩ (Nat.le_of_ble_eq_true rfl) (fun r_55 w_55 s_55 q_55 => ?_) (fun _ _ _ q => False.elim q)
  obtain ⟨rfl, rfl, rfl⟩ := q_55
  refine V_w (zsys_lu zir_85) ?_
  refine V_aload_n d_KeyRing_findPhase_58 rfl ?_
  refine V_aload_n d_KeyRing_findPhase_59 rfl ?_
  refine V_aload_n d_KeyRing_findPhase_60 rfl ?_
  refine V_getf d_KeyRing_findPhase_61 ff_KeyRing_35 zsys_k rfl ?_
  refine V_callV (n := 2) d_KeyRing_findPhase_64 g_KeyRing_130 rfl zsys_r rfl (c_centre G _ _ (B + 1) (B + 2) kd nn t zz (B + s) (B + 85) nn _ _ zsys_r (zsys_row hs) (zsys_row zir_85) (by omega) rfl hn hR) ⟨co_Ring_centre, by decide +kernel, Nat.le_of_ble_eq_true rfl⟩ ⟨Nat.le_of_ble_eq_true rfl, Nat.le_of_ble_eq_true rfl, Nat.le_of_ble_eq_true rfl, Nat.le_of_ble_eq_true rfl⟩ (Nat.le_of_ble_eq_true rfl) (fun r_64 w_64 s_64 q_64 => ?_) (fun _ _ _ q => False.elim q)
  obtain ⟨rfl, rfl, rfl⟩ := q_64
  refine V_w (zsys_lu hs) ?_
  exact V_return d_KeyRing_findPhase_67 rfl ⟨Nat.le_of_ble_eq_true rfl, Nat.le_of_ble_eq_true rfl⟩ ⟨rfl, rfl, rfl⟩

