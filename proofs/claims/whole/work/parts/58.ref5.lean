def zqc (f : Int → Int) : Nat → Int
  | 0 => 0
  | i + 1 => zqc f i + if 0 < f i then 1 else 0
theorem zqc_s {f : Int → Int} {i : Nat} (h : 0 < f i) : zqc f (i + 1) = zqc f i + 1 := by
  show _ + _ = _
  rw [if_pos h]
theorem zqc_n {f : Int → Int} {i : Nat} (h : f i ≤ 0) : zqc f (i + 1) = zqc f i := by
  show _ + _ = _
  rw [if_neg (by omega)]
  omega

set_option maxRecDepth 100000 in
set_option maxHeartbeats 4000000 in
theorem r_drop_no (G : zG) (sz C : Nat) (th kd n t tu : Int) (ch : Int32) (ke : Int) (L : Nat → Int → Int) (w0 : zW) (c : Int) (hc : -2147483648 ≤ c ∧ c < 2147483648) (hb : c < 0 ∨ 15 < c) : zCt G M_Ref_drop (zR 1 0 0 20) [.ref C, .int (Int32.ofInt c)] sz (zqs G C th kd n t tu ch ke L w0) (zdet (some (.int (Int32.ofInt 0))) (zqs G C 1 kd n t tu ch ke L w0) sz) := by
  refine V_aload_n d_Ref_drop_0 rfl ?_
  refine V_iload_n d_Ref_drop_1 rfl ?_
  refine V_callS (n := 1) d_Ref_drop_2 g_Ref_138 rfl (r_noCipher_y G _ _ c hc hb) ⟨co_Ref_noCipher, by decide +kernel, Nat.le_of_ble_eq_true rfl⟩ ⟨Nat.le_of_ble_eq_true rfl, Nat.le_of_ble_eq_true rfl, Nat.le_of_ble_eq_true rfl, Nat.le_of_ble_eq_true rfl⟩ (Nat.le_of_ble_eq_true rfl) (fun r_2 w_2 s_2 q_2 => ?_) (fun _ _ _ q => False.elim q)
  obtain ⟨rfl, rfl, rfl⟩ := q_2
  refine J_if_eq 12 d_Ref_drop_5 (by decide) (by decide) (fun c_5 => absurd c_5 (by decide)) (fun c_5 => ?_)
  refine V_iconst d_Ref_drop_8 ?_
  refine V_goto 13 d_Ref_drop_9 (by decide) ?_
  refine V_putf d_Ref_drop_13 ff_Ref_69 zqs_o ⟨_, _, _, _, rfl, rfl, rfl, rfl, rfl⟩ (Nat.le_of_ble_eq_true rfl) ?_
  refine V_w (zqs_f (th' := 1) rfl) ?_
  refine V_aload_n d_Ref_drop_16 rfl ?_
  refine V_getf d_Ref_drop_17 ff_Ref_69 zqs_o rfl ?_
  refine J_if_le 25 d_Ref_drop_20 (by decide) (by decide) (fun c_20 => absurd c_20 (by decide)) (fun c_20 => ?_)
  refine V_iconst d_Ref_drop_23 ?_
  exact V_ireturn d_Ref_drop_24 rfl ⟨Nat.le_of_ble_eq_true rfl, Nat.le_of_ble_eq_true rfl⟩ ⟨rfl, rfl, rfl⟩

set_option maxRecDepth 100000 in
set_option maxHeartbeats 4000000 in
theorem r_drop (G : zG) (sz C : Nat) (th kd n t tu : Int) (ch : Int32) (ke : Int) (L : Nat → Int → Int) (w0 : zW) (c : Nat) (hc : c < 16) : zCt G M_Ref_drop (zR 1 0 0 20) [.ref C, .int (Int32.ofInt (c : Int))] sz (zqs G C th kd n t tu ch ke L w0) (zdet (some (.int (Int32.ofInt (L 8 c)))) (zqs G C 0 kd n t tu ch ke (zlu L 8 (zu (L 8) c 0)) w0) sz) := by
  refine V_aload_n d_Ref_drop_0 rfl ?_
  refine V_iload_n d_Ref_drop_1 rfl ?_
  refine V_callS (n := 1) d_Ref_drop_2 g_Ref_138 rfl (r_noCipher_n G _ _ c (by omega)) ⟨co_Ref_noCipher, by decide +kernel, Nat.le_of_ble_eq_true rfl⟩ ⟨Nat.le_of_ble_eq_true rfl, Nat.le_of_ble_eq_true rfl, Nat.le_of_ble_eq_true rfl, Nat.le_of_ble_eq_true rfl⟩ (Nat.le_of_ble_eq_true rfl) (fun r_2 w_2 s_2 q_2 => ?_) (fun _ _ _ q => False.elim q)
  obtain ⟨rfl, rfl, rfl⟩ := q_2
  refine J_if_eq 12 d_Ref_drop_5 (by decide) (by decide) (fun c_5 => ?_) (fun c_5 => absurd rfl c_5)
  refine V_iconst d_Ref_drop_12 ?_
  refine V_putf d_Ref_drop_13 ff_Ref_69 zqs_o ⟨_, _, _, _, rfl, rfl, rfl, rfl, rfl⟩ (Nat.le_of_ble_eq_true rfl) ?_
  refine V_w (zqs_f (th' := 0) rfl) ?_
  refine V_aload_n d_Ref_drop_16 rfl ?_
  refine V_getf d_Ref_drop_17 ff_Ref_69 zqs_o rfl ?_
  refine J_if_le 25 d_Ref_drop_20 (by decide) (by decide) (fun c_20 => ?_) (fun c_20 => absurd c_20 (by decide))
  refine V_aload_n d_Ref_drop_25 rfl ?_
  refine V_getf d_Ref_drop_26 ff_Ref_39 zqs_o rfl ?_
  refine V_iload_n d_Ref_drop_29 rfl ?_
  refine J_iaload d_Ref_drop_30 zqs_a8 (by omega) (by decide) ?_
  refine V_istore_n d_Ref_drop_31 (by decide) ?_
  refine V_aload_n d_Ref_drop_32 rfl ?_
  refine V_getf d_Ref_drop_33 ff_Ref_39 zqs_o rfl ?_
  refine V_iload_n d_Ref_drop_36 rfl ?_
  refine V_iconst d_Ref_drop_37 ?_
  refine J_iastore d_Ref_drop_38 zqs_a8 (by omega) (by decide) ?_
  refine V_w zqs_u8 ?_
  refine V_iload_n d_Ref_drop_39 rfl ?_
  exact V_ireturn d_Ref_drop_40 rfl ⟨Nat.le_of_ble_eq_true rfl, Nat.le_of_ble_eq_true rfl⟩ ⟨rfl, rfl, rfl⟩

set_option maxRecDepth 100000 in
set_option maxHeartbeats 4000000 in
theorem r_part_no (G : zG) (sz C : Nat) (th kd n t tu : Int) (ch : Int32) (ke : Int) (L : Nat → Int → Int) (w0 : zW) (c : Int) (hc : -2147483648 ≤ c ∧ c < 2147483648) (hb : c < 0 ∨ 15 < c) (k i : Int) : zCt G M_Ref_part (zR 2 0 0 41) [.ref C, .int (Int32.ofInt c), .int (Int32.ofInt k), .int (Int32.ofInt i)] sz (zqs G C th kd n t tu ch ke L w0) (zdet (some (.int (Int32.ofInt 0))) (zqs G C 1 kd n t tu ch ke L w0) sz) := by
  refine V_aload_n d_Ref_part_0 rfl ?_
  refine V_aload_n d_Ref_part_1 rfl ?_
  refine V_iload_n d_Ref_part_2 rfl ?_
  refine V_callV (n := 1) d_Ref_part_3 g_Ref_180 rfl zqs_o rfl (r_emptyI_y G _ C th kd n t tu ch ke L w0 c hc hb) ⟨co_Ref_empty_I, by decide +kernel, Nat.le_of_ble_eq_true rfl⟩ ⟨Nat.le_of_ble_eq_true rfl, Nat.le_of_ble_eq_true rfl, Nat.le_of_ble_eq_true rfl, Nat.le_of_ble_eq_true rfl⟩ (Nat.le_of_ble_eq_true rfl) (fun r_3 w_3 s_3 q_3 => ?_) (fun _ _ _ q => False.elim q)
  obtain ⟨rfl, rfl, rfl⟩ := q_3
  refine J_if_ne 35 d_Ref_part_6 (by decide) (by decide) (fun c_6 => ?_) (fun c_6 => absurd c_6 (by decide))
  refine V_iconst d_Ref_part_35 ?_
  refine V_goto 40 d_Ref_part_36 (by decide) ?_
  refine V_putf d_Ref_part_40 ff_Ref_69 zqs_o ⟨_, _, _, _, rfl, rfl, rfl, rfl, rfl⟩ (Nat.le_of_ble_eq_true rfl) ?_
  refine V_w (zqs_f (th' := 1) rfl) ?_
  refine V_aload_n d_Ref_part_43 rfl ?_
  refine V_getf d_Ref_part_44 ff_Ref_69 zqs_o rfl ?_
  refine J_if_le 54 d_Ref_part_47 (by decide) (by decide) (fun c_47 => absurd c_47 (by decide)) (fun c_47 => ?_)
  refine V_iconst d_Ref_part_50 ?_
  refine V_goto 70 d_Ref_part_51 (by decide) ?_
  exact V_ireturn d_Ref_part_70 rfl ⟨Nat.le_of_ble_eq_true rfl, Nat.le_of_ble_eq_true rfl⟩ ⟨rfl, rfl, rfl⟩

set_option maxRecDepth 100000 in
set_option maxHeartbeats 4000000 in
theorem r_part_em (G : zG) (sz C : Nat) (th kd n t tu : Int) (ch : Int32) (ke : Int) (L : Nat → Int → Int) (w0 : zW) (c : Nat) (hc : c < 16) (he : L 8 c = 0) (k i : Int) : zCt G M_Ref_part (zR 2 0 0 41) [.ref C, .int (Int32.ofInt (c : Int)), .int (Int32.ofInt k), .int (Int32.ofInt i)] sz (zqs G C th kd n t tu ch ke L w0) (zdet (some (.int (Int32.ofInt 0))) (zqs G C 1 kd n t tu ch ke L w0) sz) := by
  refine V_aload_n d_Ref_part_0 rfl ?_
  refine V_aload_n d_Ref_part_1 rfl ?_
  refine V_iload_n d_Ref_part_2 rfl ?_
  refine V_callV (n := 1) d_Ref_part_3 g_Ref_180 rfl zqs_o rfl (r_emptyI_e G _ C th kd n t tu ch ke L w0 c (by omega) he) ⟨co_Ref_empty_I, by decide +kernel, Nat.le_of_ble_eq_true rfl⟩ ⟨Nat.le_of_ble_eq_true rfl, Nat.le_of_ble_eq_true rfl, Nat.le_of_ble_eq_true rfl, Nat.le_of_ble_eq_true rfl⟩ (Nat.le_of_ble_eq_true rfl) (fun r_3 w_3 s_3 q_3 => ?_) (fun _ _ _ q => False.elim q)
  obtain ⟨rfl, rfl, rfl⟩ := q_3
  refine J_if_ne 35 d_Ref_part_6 (by decide) (by decide) (fun c_6 => ?_) (fun c_6 => absurd c_6 (by decide))
  refine V_iconst d_Ref_part_35 ?_
  refine V_goto 40 d_Ref_part_36 (by decide) ?_
  refine V_putf d_Ref_part_40 ff_Ref_69 zqs_o ⟨_, _, _, _, rfl, rfl, rfl, rfl, rfl⟩ (Nat.le_of_ble_eq_true rfl) ?_
  refine V_w (zqs_f (th' := 1) rfl) ?_
  refine V_aload_n d_Ref_part_43 rfl ?_
  refine V_getf d_Ref_part_44 ff_Ref_69 zqs_o rfl ?_
  refine J_if_le 54 d_Ref_part_47 (by decide) (by decide) (fun c_47 => absurd c_47 (by decide)) (fun c_47 => ?_)
  refine V_iconst d_Ref_part_50 ?_
  refine V_goto 70 d_Ref_part_51 (by decide) ?_
  exact V_ireturn d_Ref_part_70 rfl ⟨Nat.le_of_ble_eq_true rfl, Nat.le_of_ble_eq_true rfl⟩ ⟨rfl, rfl, rfl⟩

set_option maxRecDepth 100000 in
set_option maxHeartbeats 4000000 in
theorem r_part_k1 (G : zG) (sz C : Nat) (th kd n t tu : Int) (ch : Int32) (ke : Int) (L : Nat → Int → Int) (w0 : zW) (c : Nat) (hc : c < 16) (hfc : 0 < L 8 c ∧ L 8 c ≤ 3) (k i : Int) (hk : -2147483648 ≤ k ∧ k < 2147483648) (hi : -2147483648 ≤ i ∧ i < 2147483648) (hn : 0 ≤ n ∧ n ≤ 32) (hb : k < 0) : zCt G M_Ref_part (zR 2 0 0 41) [.ref C, .int (Int32.ofInt (c : Int)), .int (Int32.ofInt k), .int (Int32.ofInt i)] sz (zqs G C th kd n t tu ch ke L w0) (zdet (some (.int (Int32.ofInt 0))) (zqs G C 1 kd n t tu ch ke L w0) sz) := by
  refine V_aload_n d_Ref_part_0 rfl ?_
  refine V_aload_n d_Ref_part_1 rfl ?_
  refine V_iload_n d_Ref_part_2 rfl ?_
  refine V_callV (n := 1) d_Ref_part_3 g_Ref_180 rfl zqs_o rfl (r_emptyI_n G _ C th kd n t tu ch ke L w0 c (by omega) hfc) ⟨co_Ref_empty_I, by decide +kernel, Nat.le_of_ble_eq_true rfl⟩ ⟨Nat.le_of_ble_eq_true rfl, Nat.le_of_ble_eq_true rfl, Nat.le_of_ble_eq_true rfl, Nat.le_of_ble_eq_true rfl⟩ (Nat.le_of_ble_eq_true rfl) (fun r_3 w_3 s_3 q_3 => ?_) (fun _ _ _ q => False.elim q)
  obtain ⟨rfl, rfl, rfl⟩ := q_3
  refine J_if_ne 35 d_Ref_part_6 (by decide) (by decide) (fun c_6 => absurd rfl c_6) (fun c_6 => ?_)
  refine V_iload_n d_Ref_part_9 rfl ?_
  refine J_if_lt 35 d_Ref_part_10 (by decide) (by omega) (fun c_10 => ?_) (fun c_10 => absurd c_10 (by omega))
  refine V_iconst d_Ref_part_35 ?_
  refine V_goto 40 d_Ref_part_36 (by decide) ?_
  refine V_putf d_Ref_part_40 ff_Ref_69 zqs_o ⟨_, _, _, _, rfl, rfl, rfl, rfl, rfl⟩ (Nat.le_of_ble_eq_true rfl) ?_
  refine V_w (zqs_f (th' := 1) rfl) ?_
  refine V_aload_n d_Ref_part_43 rfl ?_
  refine V_getf d_Ref_part_44 ff_Ref_69 zqs_o rfl ?_
  refine J_if_le 54 d_Ref_part_47 (by decide) (by decide) (fun c_47 => absurd c_47 (by decide)) (fun c_47 => ?_)
  refine V_iconst d_Ref_part_50 ?_
  refine V_goto 70 d_Ref_part_51 (by decide) ?_
  exact V_ireturn d_Ref_part_70 rfl ⟨Nat.le_of_ble_eq_true rfl, Nat.le_of_ble_eq_true rfl⟩ ⟨rfl, rfl, rfl⟩

set_option maxRecDepth 100000 in
set_option maxHeartbeats 4000000 in
theorem r_part_k2 (G : zG) (sz C : Nat) (th kd n t tu : Int) (ch : Int32) (ke : Int) (L : Nat → Int → Int) (w0 : zW) (c : Nat) (hc : c < 16) (hfc : 0 < L 8 c ∧ L 8 c ≤ 3) (k i : Int) (hk : -2147483648 ≤ k ∧ k < 2147483648) (hi : -2147483648 ≤ i ∧ i < 2147483648) (hn : 0 ≤ n ∧ n ≤ 32) (h0 : 0 ≤ k) (hb : L 8 c ≤ k) : zCt G M_Ref_part (zR 2 0 0 41) [.ref C, .int (Int32.ofInt (c : Int)), .int (Int32.ofInt k), .int (Int32.ofInt i)] sz (zqs G C th kd n t tu ch ke L w0) (zdet (some (.int (Int32.ofInt 0))) (zqs G C 1 kd n t tu ch ke L w0) sz) := by
  refine V_aload_n d_Ref_part_0 rfl ?_
  refine V_aload_n d_Ref_part_1 rfl ?_
  refine V_iload_n d_Ref_part_2 rfl ?_
  refine V_callV (n := 1) d_Ref_part_3 g_Ref_180 rfl zqs_o rfl (r_emptyI_n G _ C th kd n t tu ch ke L w0 c (by omega) hfc) ⟨co_Ref_empty_I, by decide +kernel, Nat.le_of_ble_eq_true rfl⟩ ⟨Nat.le_of_ble_eq_true rfl, Nat.le_of_ble_eq_true rfl, Nat.le_of_ble_eq_true rfl, Nat.le_of_ble_eq_true rfl⟩ (Nat.le_of_ble_eq_true rfl) (fun r_3 w_3 s_3 q_3 => ?_) (fun _ _ _ q => False.elim q)
  obtain ⟨rfl, rfl, rfl⟩ := q_3
  refine J_if_ne 35 d_Ref_part_6 (by decide) (by decide) (fun c_6 => absurd rfl c_6) (fun c_6 => ?_)
  refine V_iload_n d_Ref_part_9 rfl ?_
  refine J_if_lt 35 d_Ref_part_10 (by decide) (by omega) (fun c_10 => absurd c_10 (by omega)) (fun c_10 => ?_)
  refine V_iload_n d_Ref_part_13 rfl ?_
  refine V_aload_n d_Ref_part_14 rfl ?_
  refine V_getf d_Ref_part_15 ff_Ref_39 zqs_o rfl ?_
  refine V_iload_n d_Ref_part_18 rfl ?_
  refine J_iaload d_Ref_part_19 zqs_a8 (by omega) (by decide) ?_
  refine J_icmp_ge 35 d_Ref_part_20 (by decide) (by omega) (by omega) (fun c_20 => ?_) (fun c_20 => absurd c_20 (by omega))
  refine V_iconst d_Ref_part_35 ?_
  refine V_goto 40 d_Ref_part_36 (by decide) ?_
  refine V_putf d_Ref_part_40 ff_Ref_69 zqs_o ⟨_, _, _, _, rfl, rfl, rfl, rfl, rfl⟩ (Nat.le_of_ble_eq_true rfl) ?_
  refine V_w (zqs_f (th' := 1) rfl) ?_
  refine V_aload_n d_Ref_part_43 rfl ?_
  refine V_getf d_Ref_part_44 ff_Ref_69 zqs_o rfl ?_
  refine J_if_le 54 d_Ref_part_47 (by decide) (by decide) (fun c_47 => absurd c_47 (by decide)) (fun c_47 => ?_)
  refine V_iconst d_Ref_part_50 ?_
  refine V_goto 70 d_Ref_part_51 (by decide) ?_
  exact V_ireturn d_Ref_part_70 rfl ⟨Nat.le_of_ble_eq_true rfl, Nat.le_of_ble_eq_true rfl⟩ ⟨rfl, rfl, rfl⟩

set_option maxRecDepth 100000 in
set_option maxHeartbeats 4000000 in
theorem r_part_i1 (G : zG) (sz C : Nat) (th kd n t tu : Int) (ch : Int32) (ke : Int) (L : Nat → Int → Int) (w0 : zW) (c : Nat) (hc : c < 16) (hfc : 0 < L 8 c ∧ L 8 c ≤ 3) (k i : Int) (hk : -2147483648 ≤ k ∧ k < 2147483648) (hi : -2147483648 ≤ i ∧ i < 2147483648) (hn : 0 ≤ n ∧ n ≤ 32) (h0 : 0 ≤ k ∧ k < L 8 c) (hb : i < 0) : zCt G M_Ref_part (zR 2 0 0 41) [.ref C, .int (Int32.ofInt (c : Int)), .int (Int32.ofInt k), .int (Int32.ofInt i)] sz (zqs G C th kd n t tu ch ke L w0) (zdet (some (.int (Int32.ofInt 0))) (zqs G C 1 kd n t tu ch ke L w0) sz) := by
  refine V_aload_n d_Ref_part_0 rfl ?_
  refine V_aload_n d_Ref_part_1 rfl ?_
  refine V_iload_n d_Ref_part_2 rfl ?_
  refine V_callV (n := 1) d_Ref_part_3 g_Ref_180 rfl zqs_o rfl (r_emptyI_n G _ C th kd n t tu ch ke L w0 c (by omega) hfc) ⟨co_Ref_empty_I, by decide +kernel, Nat.le_of_ble_eq_true rfl⟩ ⟨Nat.le_of_ble_eq_true rfl, Nat.le_of_ble_eq_true rfl, Nat.le_of_ble_eq_true rfl, Nat.le_of_ble_eq_true rfl⟩ (Nat.le_of_ble_eq_true rfl) (fun r_3 w_3 s_3 q_3 => ?_) (fun _ _ _ q => False.elim q)
  obtain ⟨rfl, rfl, rfl⟩ := q_3
  refine J_if_ne 35 d_Ref_part_6 (by decide) (by decide) (fun c_6 => absurd rfl c_6) (fun c_6 => ?_)
  refine V_iload_n d_Ref_part_9 rfl ?_
  refine J_if_lt 35 d_Ref_part_10 (by decide) (by omega) (fun c_10 => absurd c_10 (by omega)) (fun c_10 => ?_)
  refine V_iload_n d_Ref_part_13 rfl ?_
  refine V_aload_n d_Ref_part_14 rfl ?_
  refine V_getf d_Ref_part_15 ff_Ref_39 zqs_o rfl ?_
  refine V_iload_n d_Ref_part_18 rfl ?_
  refine J_iaload d_Ref_part_19 zqs_a8 (by omega) (by decide) ?_
  refine J_icmp_ge 35 d_Ref_part_20 (by decide) (by omega) (by omega) (fun c_20 => absurd c_20 (by omega)) (fun c_20 => ?_)
  refine V_iload_n d_Ref_part_23 rfl ?_
  refine J_if_lt 35 d_Ref_part_24 (by decide) (by omega) (fun c_24 => ?_) (fun c_24 => absurd c_24 (by omega))
  refine V_iconst d_Ref_part_35 ?_
  refine V_goto 40 d_Ref_part_36 (by decide) ?_
  refine V_putf d_Ref_part_40 ff_Ref_69 zqs_o ⟨_, _, _, _, rfl, rfl, rfl, rfl, rfl⟩ (Nat.le_of_ble_eq_true rfl) ?_
  refine V_w (zqs_f (th' := 1) rfl) ?_
  refine V_aload_n d_Ref_part_43 rfl ?_
  refine V_getf d_Ref_part_44 ff_Ref_69 zqs_o rfl ?_
  refine J_if_le 54 d_Ref_part_47 (by decide) (by decide) (fun c_47 => absurd c_47 (by decide)) (fun c_47 => ?_)
  refine V_iconst d_Ref_part_50 ?_
  refine V_goto 70 d_Ref_part_51 (by decide) ?_
  exact V_ireturn d_Ref_part_70 rfl ⟨Nat.le_of_ble_eq_true rfl, Nat.le_of_ble_eq_true rfl⟩ ⟨rfl, rfl, rfl⟩

set_option maxRecDepth 100000 in
set_option maxHeartbeats 4000000 in
theorem r_part_i2 (G : zG) (sz C : Nat) (th kd n t tu : Int) (ch : Int32) (ke : Int) (L : Nat → Int → Int) (w0 : zW) (c : Nat) (hc : c < 16) (hfc : 0 < L 8 c ∧ L 8 c ≤ 3) (k i : Int) (hk : -2147483648 ≤ k ∧ k < 2147483648) (hi : -2147483648 ≤ i ∧ i < 2147483648) (hn : 0 ≤ n ∧ n ≤ 32) (h0 : 0 ≤ k ∧ k < L 8 c) (h1 : 0 ≤ i) (hb : n ≤ i) : zCt G M_Ref_part (zR 2 0 0 41) [.ref C, .int (Int32.ofInt (c : Int)), .int (Int32.ofInt k), .int (Int32.ofInt i)] sz (zqs G C th kd n t tu ch ke L w0) (zdet (some (.int (Int32.ofInt 0))) (zqs G C 1 kd n t tu ch ke L w0) sz) := by
  refine V_aload_n d_Ref_part_0 rfl ?_
  refine V_aload_n d_Ref_part_1 rfl ?_
  refine V_iload_n d_Ref_part_2 rfl ?_
  refine V_callV (n := 1) d_Ref_part_3 g_Ref_180 rfl zqs_o rfl (r_emptyI_n G _ C th kd n t tu ch ke L w0 c (by omega) hfc) ⟨co_Ref_empty_I, by decide +kernel, Nat.le_of_ble_eq_true rfl⟩ ⟨Nat.le_of_ble_eq_true rfl, Nat.le_of_ble_eq_true rfl, Nat.le_of_ble_eq_true rfl, Nat.le_of_ble_eq_true rfl⟩ (Nat.le_of_ble_eq_true rfl) (fun r_3 w_3 s_3 q_3 => ?_) (fun _ _ _ q => False.elim q)
  obtain ⟨rfl, rfl, rfl⟩ := q_3
  refine J_if_ne 35 d_Ref_part_6 (by decide) (by decide) (fun c_6 => absurd rfl c_6) (fun c_6 => ?_)
  refine V_iload_n d_Ref_part_9 rfl ?_
  refine J_if_lt 35 d_Ref_part_10 (by decide) (by omega) (fun c_10 => absurd c_10 (by omega)) (fun c_10 => ?_)
  refine V_iload_n d_Ref_part_13 rfl ?_
  refine V_aload_n d_Ref_part_14 rfl ?_
  refine V_getf d_Ref_part_15 ff_Ref_39 zqs_o rfl ?_
  refine V_iload_n d_Ref_part_18 rfl ?_
  refine J_iaload d_Ref_part_19 zqs_a8 (by omega) (by decide) ?_
  refine J_icmp_ge 35 d_Ref_part_20 (by decide) (by omega) (by omega) (fun c_20 => absurd c_20 (by omega)) (fun c_20 => ?_)
  refine V_iload_n d_Ref_part_23 rfl ?_
  refine J_if_lt 35 d_Ref_part_24 (by decide) (by omega) (fun c_24 => absurd c_24 (by omega)) (fun c_24 => ?_)
  refine V_iload_n d_Ref_part_27 rfl ?_
  refine V_aload_n d_Ref_part_28 rfl ?_
  refine V_getf d_Ref_part_29 ff_Ref_7 zqs_o rfl ?_
  refine J_icmp_lt 39 d_Ref_part_32 (by decide) (by omega) (by omega) (fun c_32 => absurd c_32 (by omega)) (fun c_32 => ?_)
  refine V_iconst d_Ref_part_35 ?_
  refine V_goto 40 d_Ref_part_36 (by decide) ?_
  refine V_putf d_Ref_part_40 ff_Ref_69 zqs_o ⟨_, _, _, _, rfl, rfl, rfl, rfl, rfl⟩ (Nat.le_of_ble_eq_true rfl) ?_
  refine V_w (zqs_f (th' := 1) rfl) ?_
  refine V_aload_n d_Ref_part_43 rfl ?_
  refine V_getf d_Ref_part_44 ff_Ref_69 zqs_o rfl ?_
  refine J_if_le 54 d_Ref_part_47 (by decide) (by decide) (fun c_47 => absurd c_47 (by decide)) (fun c_47 => ?_)
  refine V_iconst d_Ref_part_50 ?_
  refine V_goto 70 d_Ref_part_51 (by decide) ?_
  exact V_ireturn d_Ref_part_70 rfl ⟨Nat.le_of_ble_eq_true rfl, Nat.le_of_ble_eq_true rfl⟩ ⟨rfl, rfl, rfl⟩

set_option maxRecDepth 100000 in
set_option maxHeartbeats 4000000 in
theorem r_part (G : zG) (sz C : Nat) (th kd n t tu : Int) (ch : Int32) (ke : Int) (L : Nat → Int → Int) (w0 : zW) (c : Nat) (hc : c < 16) (hfc : 0 < L 8 c ∧ L 8 c ≤ 3) (k i : Int) (hk : -2147483648 ≤ k ∧ k < 2147483648) (hi : -2147483648 ≤ i ∧ i < 2147483648) (hn : 0 ≤ n ∧ n ≤ 32) (h0 : 0 ≤ k ∧ k < L 8 c) (h1 : 0 ≤ i ∧ i < n) : zCt G M_Ref_part (zR 2 0 0 41) [.ref C, .int (Int32.ofInt (c : Int)), .int (Int32.ofInt k), .int (Int32.ofInt i)] sz (zqs G C th kd n t tu ch ke L w0) (zdet (some (.int (Int32.ofInt (L 9 ((3 * (c : Int) + k) * 32 + i))))) (zqs G C 0 kd n t tu ch ke L w0) sz) := by
  refine V_aload_n d_Ref_part_0 rfl ?_
  refine V_aload_n d_Ref_part_1 rfl ?_
  refine V_iload_n d_Ref_part_2 rfl ?_
  refine V_callV (n := 1) d_Ref_part_3 g_Ref_180 rfl zqs_o rfl (r_emptyI_n G _ C th kd n t tu ch ke L w0 c (by omega) hfc) ⟨co_Ref_empty_I, by decide +kernel, Nat.le_of_ble_eq_true rfl⟩ ⟨Nat.le_of_ble_eq_true rfl, Nat.le_of_ble_eq_true rfl, Nat.le_of_ble_eq_true rfl, Nat.le_of_ble_eq_true rfl⟩ (Nat.le_of_ble_eq_true rfl) (fun r_3 w_3 s_3 q_3 => ?_) (fun _ _ _ q => False.elim q)
  obtain ⟨rfl, rfl, rfl⟩ := q_3
  refine J_if_ne 35 d_Ref_part_6 (by decide) (by decide) (fun c_6 => absurd rfl c_6) (fun c_6 => ?_)
  refine V_iload_n d_Ref_part_9 rfl ?_
  refine J_if_lt 35 d_Ref_part_10 (by decide) (by omega) (fun c_10 => absurd c_10 (by omega)) (fun c_10 => ?_)
  refine V_iload_n d_Ref_part_13 rfl ?_
  refine V_aload_n d_Ref_part_14 rfl ?_
  refine V_getf d_Ref_part_15 ff_Ref_39 zqs_o rfl ?_
  refine V_iload_n d_Ref_part_18 rfl ?_
  refine J_iaload d_Ref_part_19 zqs_a8 (by omega) (by decide) ?_
  refine J_icmp_ge 35 d_Ref_part_20 (by decide) (by omega) (by omega) (fun c_20 => absurd c_20 (by omega)) (fun c_20 => ?_)
  refine V_iload_n d_Ref_part_23 rfl ?_
  refine J_if_lt 35 d_Ref_part_24 (by decide) (by omega) (fun c_24 => absurd c_24 (by omega)) (fun c_24 => ?_)
  refine V_iload_n d_Ref_part_27 rfl ?_
  refine V_aload_n d_Ref_part_28 rfl ?_
  refine V_getf d_Ref_part_29 ff_Ref_7 zqs_o rfl ?_
  refine J_icmp_lt 39 d_Ref_part_32 (by decide) (by omega) (by omega) (fun c_32 => ?_) (fun c_32 => absurd c_32 (by omega))
  refine V_iconst d_Ref_part_39 ?_
  refine V_putf d_Ref_part_40 ff_Ref_69 zqs_o ⟨_, _, _, _, rfl, rfl, rfl, rfl, rfl⟩ (Nat.le_of_ble_eq_true rfl) ?_
  refine V_w (zqs_f (th' := 0) rfl) ?_
  refine V_aload_n d_Ref_part_43 rfl ?_
  refine V_getf d_Ref_part_44 ff_Ref_69 zqs_o rfl ?_
  refine J_if_le 54 d_Ref_part_47 (by decide) (by decide) (fun c_47 => ?_) (fun c_47 => absurd c_47 (by decide))
  refine V_aload_n d_Ref_part_54 rfl ?_
  refine V_getf d_Ref_part_55 ff_Ref_42 zqs_o rfl ?_
  refine V_iconst d_Ref_part_58 ?_
  refine V_iload_n d_Ref_part_59 rfl ?_
  refine J_imul d_Ref_part_60 ?_
  refine V_iload_n d_Ref_part_61 rfl ?_
  refine J_iadd d_Ref_part_62 ?_
  refine J_bipush d_Ref_part_63 (by decide) ?_
  refine J_imul d_Ref_part_65 ?_
  refine V_iload_n d_Ref_part_66 rfl ?_
  refine J_iadd d_Ref_part_67 ?_
  refine J_laload d_Ref_part_68 zqs_a9 (by omega) (by decide) ?_
  refine J_l2i d_Ref_part_69 ?_
  exact V_ireturn d_Ref_part_70 rfl ⟨Nat.le_of_ble_eq_true rfl, Nat.le_of_ble_eq_true rfl⟩ ⟨rfl, rfl, rfl⟩

set_option maxRecDepth 100000 in
set_option maxHeartbeats 4000000 in
theorem r_about_no (G : zG) (sz C : Nat) (th kd n t tu : Int) (ch : Int32) (ke : Int) (L : Nat → Int → Int) (w0 : zW) (c : Int) (hc : -2147483648 ≤ c ∧ c < 2147483648) (hb : c < 0 ∨ 15 < c) (x : Int) : zCt G M_Ref_about (zR 5 0 0 125) [.ref C, .int (Int32.ofInt c), .int (Int32.ofInt x)] sz (zqs G C th kd n t tu ch ke L w0) (zdet (some (.int (Int32.ofInt 0))) (zqs G C 1 kd n t tu ch ke L w0) sz) := by
  refine V_aload_n d_Ref_about_0 rfl ?_
  refine V_aload_n d_Ref_about_1 rfl ?_
  refine V_iload_n d_Ref_about_2 rfl ?_
  refine V_callV (n := 1) d_Ref_about_3 g_Ref_180 rfl zqs_o rfl (r_emptyI_y G _ C th kd n t tu ch ke L w0 c hc hb) ⟨co_Ref_empty_I, by decide +kernel, Nat.le_of_ble_eq_true rfl⟩ ⟨Nat.le_of_ble_eq_true rfl, Nat.le_of_ble_eq_true rfl, Nat.le_of_ble_eq_true rfl, Nat.le_of_ble_eq_true rfl⟩ (Nat.le_of_ble_eq_true rfl) (fun r_3 w_3 s_3 q_3 => ?_) (fun _ _ _ q => False.elim q)
  obtain ⟨rfl, rfl, rfl⟩ := q_3
  refine J_if_eq 13 d_Ref_about_6 (by decide) (by decide) (fun c_6 => absurd c_6 (by decide)) (fun c_6 => ?_)
  refine V_iconst d_Ref_about_9 ?_
  refine V_goto 27 d_Ref_about_10 (by decide) ?_
  refine V_putf d_Ref_about_27 ff_Ref_69 zqs_o ⟨_, _, _, _, rfl, rfl, rfl, rfl, rfl⟩ (Nat.le_of_ble_eq_true rfl) ?_
  refine V_w (zqs_f (th' := 1) rfl) ?_
  refine V_aload_n d_Ref_about_30 rfl ?_
  refine V_getf d_Ref_about_31 ff_Ref_69 zqs_o rfl ?_
  refine J_if_le 39 d_Ref_about_34 (by decide) (by decide) (fun c_34 => absurd c_34 (by decide)) (fun c_34 => ?_)
  refine V_iconst d_Ref_about_37 ?_
  exact V_ireturn d_Ref_about_38 rfl ⟨Nat.le_of_ble_eq_true rfl, Nat.le_of_ble_eq_true rfl⟩ ⟨rfl, rfl, rfl⟩

set_option maxRecDepth 100000 in
set_option maxHeartbeats 4000000 in
theorem r_about_em (G : zG) (sz C : Nat) (th kd n t tu : Int) (ch : Int32) (ke : Int) (L : Nat → Int → Int) (w0 : zW) (c : Nat) (hc : c < 16) (he : L 8 c = 0) (x : Int) : zCt G M_Ref_about (zR 5 0 0 125) [.ref C, .int (Int32.ofInt (c : Int)), .int (Int32.ofInt x)] sz (zqs G C th kd n t tu ch ke L w0) (zdet (some (.int (Int32.ofInt 0))) (zqs G C 1 kd n t tu ch ke L w0) sz) := by
  refine V_aload_n d_Ref_about_0 rfl ?_
  refine V_aload_n d_Ref_about_1 rfl ?_
  refine V_iload_n d_Ref_about_2 rfl ?_
  refine V_callV (n := 1) d_Ref_about_3 g_Ref_180 rfl zqs_o rfl (r_emptyI_e G _ C th kd n t tu ch ke L w0 c (by omega) he) ⟨co_Ref_empty_I, by decide +kernel, Nat.le_of_ble_eq_true rfl⟩ ⟨Nat.le_of_ble_eq_true rfl, Nat.le_of_ble_eq_true rfl, Nat.le_of_ble_eq_true rfl, Nat.le_of_ble_eq_true rfl⟩ (Nat.le_of_ble_eq_true rfl) (fun r_3 w_3 s_3 q_3 => ?_) (fun _ _ _ q => False.elim q)
  obtain ⟨rfl, rfl, rfl⟩ := q_3
  refine J_if_eq 13 d_Ref_about_6 (by decide) (by decide) (fun c_6 => absurd c_6 (by decide)) (fun c_6 => ?_)
  refine V_iconst d_Ref_about_9 ?_
  refine V_goto 27 d_Ref_about_10 (by decide) ?_
  refine V_putf d_Ref_about_27 ff_Ref_69 zqs_o ⟨_, _, _, _, rfl, rfl, rfl, rfl, rfl⟩ (Nat.le_of_ble_eq_true rfl) ?_
  refine V_w (zqs_f (th' := 1) rfl) ?_
  refine V_aload_n d_Ref_about_30 rfl ?_
  refine V_getf d_Ref_about_31 ff_Ref_69 zqs_o rfl ?_
  refine J_if_le 39 d_Ref_about_34 (by decide) (by decide) (fun c_34 => absurd c_34 (by decide)) (fun c_34 => ?_)
  refine V_iconst d_Ref_about_37 ?_
  exact V_ireturn d_Ref_about_38 rfl ⟨Nat.le_of_ble_eq_true rfl, Nat.le_of_ble_eq_true rfl⟩ ⟨rfl, rfl, rfl⟩

set_option maxRecDepth 100000 in
set_option maxHeartbeats 4000000 in
theorem r_about_x1 (G : zG) (sz C : Nat) (th kd n t tu : Int) (ch : Int32) (ke : Int) (L : Nat → Int → Int) (w0 : zW) (c : Nat) (hc : c < 16) (hfc : 0 < L 8 c ∧ L 8 c ≤ 3) (x : Int) (hx : -2147483648 ≤ x ∧ x < 2147483648) (hb : x < 0) : zCt G M_Ref_about (zR 5 0 0 125) [.ref C, .int (Int32.ofInt (c : Int)), .int (Int32.ofInt x)] sz (zqs G C th kd n t tu ch ke L w0) (zdet (some (.int (Int32.ofInt 0))) (zqs G C 2 kd n t tu ch ke L w0) sz) := by
  refine V_aload_n d_Ref_about_0 rfl ?_
  refine V_aload_n d_Ref_about_1 rfl ?_
  refine V_iload_n d_Ref_about_2 rfl ?_
  refine V_callV (n := 1) d_Ref_about_3 g_Ref_180 rfl zqs_o rfl (r_emptyI_n G _ C th kd n t tu ch ke L w0 c (by omega) hfc) ⟨co_Ref_empty_I, by decide +kernel, Nat.le_of_ble_eq_true rfl⟩ ⟨Nat.le_of_ble_eq_true rfl, Nat.le_of_ble_eq_true rfl, Nat.le_of_ble_eq_true rfl, Nat.le_of_ble_eq_true rfl⟩ (Nat.le_of_ble_eq_true rfl) (fun r_3 w_3 s_3 q_3 => ?_) (fun _ _ _ q => False.elim q)
  obtain ⟨rfl, rfl, rfl⟩ := q_3
  refine J_if_eq 13 d_Ref_about_6 (by decide) (by decide) (fun c_6 => ?_) (fun c_6 => absurd rfl c_6)
  refine V_iload_n d_Ref_about_13 rfl ?_
  refine J_if_lt 22 d_Ref_about_14 (by decide) (by omega) (fun c_14 => ?_) (fun c_14 => absurd c_14 (by omega))
  refine V_iconst d_Ref_about_22 ?_
  refine V_goto 27 d_Ref_about_23 (by decide) ?_
  refine V_putf d_Ref_about_27 ff_Ref_69 zqs_o ⟨_, _, _, _, rfl, rfl, rfl, rfl, rfl⟩ (Nat.le_of_ble_eq_true rfl) ?_
  refine V_w (zqs_f (th' := 2) rfl) ?_
  refine V_aload_n d_Ref_about_30 rfl ?_
  refine V_getf d_Ref_about_31 ff_Ref_69 zqs_o rfl ?_
  refine J_if_le 39 d_Ref_about_34 (by decide) (by decide) (fun c_34 => absurd c_34 (by decide)) (fun c_34 => ?_)
  refine V_iconst d_Ref_about_37 ?_
  exact V_ireturn d_Ref_about_38 rfl ⟨Nat.le_of_ble_eq_true rfl, Nat.le_of_ble_eq_true rfl⟩ ⟨rfl, rfl, rfl⟩

set_option maxRecDepth 100000 in
set_option maxHeartbeats 4000000 in
theorem r_about_x2 (G : zG) (sz C : Nat) (th kd n t tu : Int) (ch : Int32) (ke : Int) (L : Nat → Int → Int) (w0 : zW) (c : Nat) (hc : c < 16) (hfc : 0 < L 8 c ∧ L 8 c ≤ 3) (x : Int) (hx : -2147483648 ≤ x ∧ x < 2147483648) (hb : 2 < x) : zCt G M_Ref_about (zR 5 0 0 125) [.ref C, .int (Int32.ofInt (c : Int)), .int (Int32.ofInt x)] sz (zqs G C th kd n t tu ch ke L w0) (zdet (some (.int (Int32.ofInt 0))) (zqs G C 2 kd n t tu ch ke L w0) sz) := by
  refine V_aload_n d_Ref_about_0 rfl ?_
  refine V_aload_n d_Ref_about_1 rfl ?_
  refine V_iload_n d_Ref_about_2 rfl ?_
  refine V_callV (n := 1) d_Ref_about_3 g_Ref_180 rfl zqs_o rfl (r_emptyI_n G _ C th kd n t tu ch ke L w0 c (by omega) hfc) ⟨co_Ref_empty_I, by decide +kernel, Nat.le_of_ble_eq_true rfl⟩ ⟨Nat.le_of_ble_eq_true rfl, Nat.le_of_ble_eq_true rfl, Nat.le_of_ble_eq_true rfl, Nat.le_of_ble_eq_true rfl⟩ (Nat.le_of_ble_eq_true rfl) (fun r_3 w_3 s_3 q_3 => ?_) (fun _ _ _ q => False.elim q)
  obtain ⟨rfl, rfl, rfl⟩ := q_3
  refine J_if_eq 13 d_Ref_about_6 (by decide) (by decide) (fun c_6 => ?_) (fun c_6 => absurd rfl c_6)
  refine V_iload_n d_Ref_about_13 rfl ?_
  refine J_if_lt 22 d_Ref_about_14 (by decide) (by omega) (fun c_14 => absurd c_14 (by omega)) (fun c_14 => ?_)
  refine V_iload_n d_Ref_about_17 rfl ?_
  refine V_iconst d_Ref_about_18 ?_
  refine J_icmp_le 26 d_Ref_about_19 (by decide) (by omega) (by omega) (fun c_19 => absurd c_19 (by omega)) (fun c_19 => ?_)
  refine V_iconst d_Ref_about_22 ?_
  refine V_goto 27 d_Ref_about_23 (by decide) ?_
  refine V_putf d_Ref_about_27 ff_Ref_69 zqs_o ⟨_, _, _, _, rfl, rfl, rfl, rfl, rfl⟩ (Nat.le_of_ble_eq_true rfl) ?_
  refine V_w (zqs_f (th' := 2) rfl) ?_
  refine V_aload_n d_Ref_about_30 rfl ?_
  refine V_getf d_Ref_about_31 ff_Ref_69 zqs_o rfl ?_
  refine J_if_le 39 d_Ref_about_34 (by decide) (by decide) (fun c_34 => absurd c_34 (by decide)) (fun c_34 => ?_)
  refine V_iconst d_Ref_about_37 ?_
  exact V_ireturn d_Ref_about_38 rfl ⟨Nat.le_of_ble_eq_true rfl, Nat.le_of_ble_eq_true rfl⟩ ⟨rfl, rfl, rfl⟩

set_option maxRecDepth 100000 in
set_option maxHeartbeats 4000000 in
theorem r_about_0 (G : zG) (sz C : Nat) (th kd n t tu : Int) (ch : Int32) (ke : Int) (L : Nat → Int → Int) (w0 : zW) (c : Nat) (hc : c < 16) (hfc : 0 < L 8 c ∧ L 8 c ≤ 3) : zCt G M_Ref_about (zR 5 0 0 125) [.ref C, .int (Int32.ofInt (c : Int)), .int (Int32.ofInt 0)] sz (zqs G C th kd n t tu ch ke L w0) (zdet (some (.int (Int32.ofInt (L 8 c)))) (zqs G C 0 kd n t tu ch ke L w0) sz) := by
  refine V_aload_n d_Ref_about_0 rfl ?_
  refine V_aload_n d_Ref_about_1 rfl ?_
  refine V_iload_n d_Ref_about_2 rfl ?_
  refine V_callV (n := 1) d_Ref_about_3 g_Ref_180 rfl zqs_o rfl (r_emptyI_n G _ C th kd n t tu ch ke L w0 c (by omega) hfc) ⟨co_Ref_empty_I, by decide +kernel, Nat.le_of_ble_eq_true rfl⟩ ⟨Nat.le_of_ble_eq_true rfl, Nat.le_of_ble_eq_true rfl, Nat.le_of_ble_eq_true rfl, Nat.le_of_ble_eq_true rfl⟩ (Nat.le_of_ble_eq_true rfl) (fun r_3 w_3 s_3 q_3 => ?_) (fun _ _ _ q => False.elim q)
  obtain ⟨rfl, rfl, rfl⟩ := q_3
  refine J_if_eq 13 d_Ref_about_6 (by decide) (by decide) (fun c_6 => ?_) (fun c_6 => absurd rfl c_6)
  refine V_iload_n d_Ref_about_13 rfl ?_
  refine J_if_lt 22 d_Ref_about_14 (by decide) (by omega) (fun c_14 => absurd c_14 (by decide)) (fun c_14 => ?_)
  refine V_iload_n d_Ref_about_17 rfl ?_
  refine V_iconst d_Ref_about_18 ?_
  refine J_icmp_le 26 d_Ref_about_19 (by decide) (by omega) (by omega) (fun c_19 => ?_) (fun c_19 => absurd c_19 (by decide))
  refine V_iconst d_Ref_about_26 ?_
  refine V_putf d_Ref_about_27 ff_Ref_69 zqs_o ⟨_, _, _, _, rfl, rfl, rfl, rfl, rfl⟩ (Nat.le_of_ble_eq_true rfl) ?_
  refine V_w (zqs_f (th' := 0) rfl) ?_
  refine V_aload_n d_Ref_about_30 rfl ?_
  refine V_getf d_Ref_about_31 ff_Ref_69 zqs_o rfl ?_
  refine J_if_le 39 d_Ref_about_34 (by decide) (by decide) (fun c_34 => ?_) (fun c_34 => absurd c_34 (by decide))
  refine V_iload_n d_Ref_about_39 rfl ?_
  refine J_if_ne 52 d_Ref_about_40 (by decide) (by omega) (fun c_40 => absurd c_40 (by decide)) (fun c_40 => ?_)
  refine V_aload_n d_Ref_about_43 rfl ?_
  refine V_getf d_Ref_about_44 ff_Ref_39 zqs_o rfl ?_
  refine V_iload_n d_Ref_about_47 rfl ?_
  refine J_iaload d_Ref_about_48 zqs_a8 (by omega) (by decide) ?_
  refine V_goto 71 d_Ref_about_49 (by decide) ?_
  exact V_ireturn d_Ref_about_71 rfl ⟨Nat.le_of_ble_eq_true rfl, Nat.le_of_ble_eq_true rfl⟩ ⟨rfl, rfl, rfl⟩

set_option maxRecDepth 100000 in
set_option maxHeartbeats 4000000 in
theorem r_about_1 (G : zG) (sz C : Nat) (th kd n t tu : Int) (ch : Int32) (ke : Int) (L : Nat → Int → Int) (w0 : zW) (nn : Nat) (hnn : n = (nn : Int)) (hn : nn ≤ 32) (c : Nat) (hc : c < 16) (hfc : 0 < L 8 c ∧ L 8 c ≤ 3) (hPa : ∀ j : Int, 0 ≤ j → j < 1536 → 0 ≤ L 9 j ∧ L 9 j < 268435399) (hSa : ∀ j : Int, 0 ≤ j → j < 32 → -1 ≤ L 1 j ∧ L 1 j ≤ 1) (ht : 0 < t ∧ t ≤ 1000) : zCt G M_Ref_about (zR 5 0 0 125) [.ref C, .int (Int32.ofInt (c : Int)), .int (Int32.ofInt 1)] sz (zqs G C th kd n t tu ch ke L w0) (zdet (some (.int (Int32.ofInt ((zBu (zNz t ((zqPh nn c L) 12) nn) 27 : Nat) : Int)))) (zqs G C 0 kd n t tu ch ke (zqPh nn c L) w0) sz) := by
  subst hnn
  refine V_aload_n d_Ref_about_0 rfl ?_
  refine V_aload_n d_Ref_about_1 rfl ?_
  refine V_iload_n d_Ref_about_2 rfl ?_
  refine V_callV (n := 1) d_Ref_about_3 g_Ref_180 rfl zqs_o rfl (r_emptyI_n G _ C th kd nn t tu ch ke L w0 c (by omega) hfc) ⟨co_Ref_empty_I, by decide +kernel, Nat.le_of_ble_eq_true rfl⟩ ⟨Nat.le_of_ble_eq_true rfl, Nat.le_of_ble_eq_true rfl, Nat.le_of_ble_eq_true rfl, Nat.le_of_ble_eq_true rfl⟩ (Nat.le_of_ble_eq_true rfl) (fun r_3 w_3 s_3 q_3 => ?_) (fun _ _ _ q => False.elim q)
  obtain ⟨rfl, rfl, rfl⟩ := q_3
  refine J_if_eq 13 d_Ref_about_6 (by decide) (by decide) (fun c_6 => ?_) (fun c_6 => absurd rfl c_6)
  refine V_iload_n d_Ref_about_13 rfl ?_
  refine J_if_lt 22 d_Ref_about_14 (by decide) (by omega) (fun c_14 => absurd c_14 (by decide)) (fun c_14 => ?_)
  refine V_iload_n d_Ref_about_17 rfl ?_
  refine V_iconst d_Ref_about_18 ?_
  refine J_icmp_le 26 d_Ref_about_19 (by decide) (by omega) (by omega) (fun c_19 => ?_) (fun c_19 => absurd c_19 (by decide))
  refine V_iconst d_Ref_about_26 ?_
  refine V_putf d_Ref_about_27 ff_Ref_69 zqs_o ⟨_, _, _, _, rfl, rfl, rfl, rfl, rfl⟩ (Nat.le_of_ble_eq_true rfl) ?_
  refine V_w (zqs_f (th' := 0) rfl) ?_
  refine V_aload_n d_Ref_about_30 rfl ?_
  refine V_getf d_Ref_about_31 ff_Ref_69 zqs_o rfl ?_
  refine J_if_le 39 d_Ref_about_34 (by decide) (by decide) (fun c_34 => ?_) (fun c_34 => absurd c_34 (by decide))
  refine V_iload_n d_Ref_about_39 rfl ?_
  refine J_if_ne 52 d_Ref_about_40 (by decide) (by omega) (fun c_40 => ?_) (fun c_40 => absurd c_40 (by decide))
  refine V_iload_n d_Ref_about_52 rfl ?_
  refine V_iconst d_Ref_about_53 ?_
  refine J_icmp_ne 65 d_Ref_about_54 (by decide) (by omega) (by omega) (fun c_54 => absurd c_54 (by decide)) (fun c_54 => ?_)
  refine V_aload_n d_Ref_about_57 rfl ?_
  refine V_iload_n d_Ref_about_58 rfl ?_
  refine V_callV (n := 1) d_Ref_about_59 g_Ref_156 rfl zqs_o rfl (r_budget G _ C 0 kd nn t tu ch ke L w0 nn rfl hn c hc (by omega) hPa hSa ht) ⟨co_Ref_budget, by decide +kernel, Nat.le_of_ble_eq_true rfl⟩ ⟨Nat.le_of_ble_eq_true rfl, Nat.le_of_ble_eq_true rfl, Nat.le_of_ble_eq_true rfl, Nat.le_of_ble_eq_true rfl⟩ (Nat.le_of_ble_eq_true rfl) (fun r_59 w_59 s_59 q_59 => ?_) (fun _ _ _ q => False.elim q)
  obtain ⟨rfl, rfl, rfl⟩ := q_59
  refine V_goto 71 d_Ref_about_62 (by decide) ?_
  exact V_ireturn d_Ref_about_71 rfl ⟨Nat.le_of_ble_eq_true rfl, Nat.le_of_ble_eq_true rfl⟩ ⟨rfl, rfl, rfl⟩

set_option maxRecDepth 100000 in
set_option maxHeartbeats 4000000 in
theorem r_about_2 (G : zG) (sz C : Nat) (th kd n t tu : Int) (ch : Int32) (ke : Int) (L : Nat → Int → Int) (w0 : zW) (nn : Nat) (hnn : n = (nn : Int)) (hn : nn ≤ 32) (c : Nat) (hc : c < 16) (hfc : 0 < L 8 c ∧ L 8 c ≤ 3) (hPa : ∀ j : Int, 0 ≤ j → j < 1536 → 0 ≤ L 9 j ∧ L 9 j < 268435399) (hSa : ∀ j : Int, 0 ≤ j → j < 32 → -1 ≤ L 1 j ∧ L 1 j ≤ 1) (ht : 0 < t ∧ t ≤ 1000) : zCt G M_Ref_about (zR 5 0 0 125) [.ref C, .int (Int32.ofInt (c : Int)), .int (Int32.ofInt 2)] sz (zqs G C th kd n t tu ch ke L w0) (zdet (some (.int (Int32.ofInt (zNz t ((zqPh nn c L) 12) nn)))) (zqs G C 0 kd n t tu ch ke (zqPh nn c L) w0) sz) := by
  subst hnn
  refine V_aload_n d_Ref_about_0 rfl ?_
  refine V_aload_n d_Ref_about_1 rfl ?_
  refine V_iload_n d_Ref_about_2 rfl ?_
  refine V_callV (n := 1) d_Ref_about_3 g_Ref_180 rfl zqs_o rfl (r_emptyI_n G _ C th kd nn t tu ch ke L w0 c (by omega) hfc) ⟨co_Ref_empty_I, by decide +kernel, Nat.le_of_ble_eq_true rfl⟩ ⟨Nat.le_of_ble_eq_true rfl, Nat.le_of_ble_eq_true rfl, Nat.le_of_ble_eq_true rfl, Nat.le_of_ble_eq_true rfl⟩ (Nat.le_of_ble_eq_true rfl) (fun r_3 w_3 s_3 q_3 => ?_) (fun _ _ _ q => False.elim q)
  obtain ⟨rfl, rfl, rfl⟩ := q_3
  refine J_if_eq 13 d_Ref_about_6 (by decide) (by decide) (fun c_6 => ?_) (fun c_6 => absurd rfl c_6)
  refine V_iload_n d_Ref_about_13 rfl ?_
  refine J_if_lt 22 d_Ref_about_14 (by decide) (by omega) (fun c_14 => absurd c_14 (by decide)) (fun c_14 => ?_)
  refine V_iload_n d_Ref_about_17 rfl ?_
  refine V_iconst d_Ref_about_18 ?_
  refine J_icmp_le 26 d_Ref_about_19 (by decide) (by omega) (by omega) (fun c_19 => ?_) (fun c_19 => absurd c_19 (by decide))
  refine V_iconst d_Ref_about_26 ?_
  refine V_putf d_Ref_about_27 ff_Ref_69 zqs_o ⟨_, _, _, _, rfl, rfl, rfl, rfl, rfl⟩ (Nat.le_of_ble_eq_true rfl) ?_
  refine V_w (zqs_f (th' := 0) rfl) ?_
  refine V_aload_n d_Ref_about_30 rfl ?_
  refine V_getf d_Ref_about_31 ff_Ref_69 zqs_o rfl ?_
  refine J_if_le 39 d_Ref_about_34 (by decide) (by decide) (fun c_34 => ?_) (fun c_34 => absurd c_34 (by decide))
  refine V_iload_n d_Ref_about_39 rfl ?_
  refine J_if_ne 52 d_Ref_about_40 (by decide) (by omega) (fun c_40 => ?_) (fun c_40 => absurd c_40 (by decide))
  refine V_iload_n d_Ref_about_52 rfl ?_
  refine V_iconst d_Ref_about_53 ?_
  refine J_icmp_ne 65 d_Ref_about_54 (by decide) (by omega) (by omega) (fun c_54 => ?_) (fun c_54 => absurd c_54 (by decide))
  refine V_aload_n d_Ref_about_65 rfl ?_
  refine V_iload_n d_Ref_about_66 rfl ?_
  refine V_callV (n := 1) d_Ref_about_67 g_Ref_174 rfl zqs_o rfl (r_noise G _ C 0 kd nn t tu ch ke L w0 nn rfl hn c hc (by omega) hPa hSa ht) ⟨co_Ref_noise, by decide +kernel, Nat.le_of_ble_eq_true rfl⟩ ⟨Nat.le_of_ble_eq_true rfl, Nat.le_of_ble_eq_true rfl, Nat.le_of_ble_eq_true rfl, Nat.le_of_ble_eq_true rfl⟩ (Nat.le_of_ble_eq_true rfl) (fun r_67 w_67 s_67 q_67 => ?_) (fun _ _ _ q => False.elim q)
  obtain ⟨rfl, rfl, rfl⟩ := q_67
  refine J_l2i d_Ref_about_70 ?_
  exact V_ireturn d_Ref_about_71 rfl ⟨Nat.le_of_ble_eq_true rfl, Nat.le_of_ble_eq_true rfl⟩ ⟨rfl, rfl, rfl⟩

set_option maxRecDepth 100000 in
set_option maxHeartbeats 4000000 in
theorem r_count_0 (G : zG) (sz C : Nat) (th kd n t tu : Int) (ch : Int32) (ke : Int) (L : Nat → Int → Int) (w0 : zW)  : zCt G M_Ref_count (zR 2 0 0 45) [.ref C, .int (Int32.ofInt 0)] sz (zqs G C th kd n t tu ch ke L w0) (zdet (some (.int (Int32.ofInt kd))) (zqs G C 0 kd n t tu ch ke L w0) sz) := by
  refine V_aload_n d_Ref_count_0 rfl ?_
  refine V_iconst d_Ref_count_1 ?_
  refine V_putf d_Ref_count_2 ff_Ref_69 zqs_o ⟨_, _, _, _, rfl, rfl, rfl, rfl, rfl⟩ (Nat.le_of_ble_eq_true rfl) ?_
  refine V_w (zqs_f (th' := 0) rfl) ?_
  refine V_iload_n d_Ref_count_5 rfl ?_
  refine V_tableIn (off := 46) 52 d_Ref_count_6 (by decide) (by decide) (by decide +kernel) (by decide) ?_
  refine V_aload_n d_Ref_count_52 rfl ?_
  refine V_getf d_Ref_count_53 ff_Ref_104 zqs_o rfl ?_
  exact V_ireturn d_Ref_count_56 rfl ⟨Nat.le_of_ble_eq_true rfl, Nat.le_of_ble_eq_true rfl⟩ ⟨rfl, rfl, rfl⟩

set_option maxRecDepth 100000 in
set_option maxHeartbeats 4000000 in
theorem r_count_1 (G : zG) (sz C : Nat) (th kd n t tu : Int) (ch : Int32) (ke : Int) (L : Nat → Int → Int) (w0 : zW)  : zCt G M_Ref_count (zR 2 0 0 45) [.ref C, .int (Int32.ofInt 1)] sz (zqs G C th kd n t tu ch ke L w0) (zdet (some (.int (Int32.ofInt n))) (zqs G C 0 kd n t tu ch ke L w0) sz) := by
  refine V_aload_n d_Ref_count_0 rfl ?_
  refine V_iconst d_Ref_count_1 ?_
  refine V_putf d_Ref_count_2 ff_Ref_69 zqs_o ⟨_, _, _, _, rfl, rfl, rfl, rfl, rfl⟩ (Nat.le_of_ble_eq_true rfl) ?_
  refine V_w (zqs_f (th' := 0) rfl) ?_
  refine V_iload_n d_Ref_count_5 rfl ?_
  refine V_tableIn (off := 51) 57 d_Ref_count_6 (by decide) (by decide) (by decide +kernel) (by decide) ?_
  refine V_aload_n d_Ref_count_57 rfl ?_
  refine V_getf d_Ref_count_58 ff_Ref_7 zqs_o rfl ?_
  exact V_ireturn d_Ref_count_61 rfl ⟨Nat.le_of_ble_eq_true rfl, Nat.le_of_ble_eq_true rfl⟩ ⟨rfl, rfl, rfl⟩

set_option maxRecDepth 100000 in
set_option maxHeartbeats 4000000 in
theorem r_count_2 (G : zG) (sz C : Nat) (th kd n t tu : Int) (ch : Int32) (ke : Int) (L : Nat → Int → Int) (w0 : zW)  : zCt G M_Ref_count (zR 2 0 0 45) [.ref C, .int (Int32.ofInt 2)] sz (zqs G C th kd n t tu ch ke L w0) (zdet (some (.int (Int32.ofInt t))) (zqs G C 0 kd n t tu ch ke L w0) sz) := by
  refine V_aload_n d_Ref_count_0 rfl ?_
  refine V_iconst d_Ref_count_1 ?_
  refine V_putf d_Ref_count_2 ff_Ref_69 zqs_o ⟨_, _, _, _, rfl, rfl, rfl, rfl, rfl⟩ (Nat.le_of_ble_eq_true rfl) ?_
  refine V_w (zqs_f (th' := 0) rfl) ?_
  refine V_iload_n d_Ref_count_5 rfl ?_
  refine V_tableIn (off := 56) 62 d_Ref_count_6 (by decide) (by decide) (by decide +kernel) (by decide) ?_
  refine V_aload_n d_Ref_count_62 rfl ?_
  refine V_getf d_Ref_count_63 ff_Ref_13 zqs_o rfl ?_
  exact V_ireturn d_Ref_count_66 rfl ⟨Nat.le_of_ble_eq_true rfl, Nat.le_of_ble_eq_true rfl⟩ ⟨rfl, rfl, rfl⟩

set_option maxRecDepth 100000 in
set_option maxHeartbeats 4000000 in
theorem r_count_5 (G : zG) (sz C : Nat) (th kd n t tu : Int) (ch : Int32) (ke : Int) (L : Nat → Int → Int) (w0 : zW)  : zCt G M_Ref_count (zR 2 0 0 45) [.ref C, .int (Int32.ofInt 5)] sz (zqs G C th kd n t tu ch ke L w0) (zdet (some (.int (Int32.ofInt tu))) (zqs G C 0 kd n t tu ch ke L w0) sz) := by
  refine V_aload_n d_Ref_count_0 rfl ?_
  refine V_iconst d_Ref_count_1 ?_
  refine V_putf d_Ref_count_2 ff_Ref_69 zqs_o ⟨_, _, _, _, rfl, rfl, rfl, rfl, rfl⟩ (Nat.le_of_ble_eq_true rfl) ?_
  refine V_w (zqs_f (th' := 0) rfl) ?_
  refine V_iload_n d_Ref_count_5 rfl ?_
  refine V_tableIn (off := 79) 85 d_Ref_count_6 (by decide) (by decide) (by decide +kernel) (by decide) ?_
  refine V_aload_n d_Ref_count_85 rfl ?_
  refine V_getf d_Ref_count_86 ff_Ref_111 zqs_o rfl ?_
  exact V_ireturn d_Ref_count_89 rfl ⟨Nat.le_of_ble_eq_true rfl, Nat.le_of_ble_eq_true rfl⟩ ⟨rfl, rfl, rfl⟩

set_option maxRecDepth 100000 in
set_option maxHeartbeats 4000000 in
theorem r_count_3 (G : zG) (sz C : Nat) (th kd n t tu : Int) (ch : Int32) (ke : Int) (L : Nat → Int → Int) (w0 : zW) (nn : Nat) (hnn : n = (nn : Int)) (hn : nn ≤ 32) (z : Int) (ht : 1 < t ∧ t ≤ 1000) (h2 : 2 ≤ z ∧ z < 1000) (hz : zpm t z nn = t - 1) (hno : ∀ c : Int, 2 ≤ c → c < z → ¬ zpm t c nn = t - 1) : zCt G M_Ref_count (zR 2 0 0 45) [.ref C, .int (Int32.ofInt 3)] sz (zqs G C th kd n t tu ch ke L w0) (zdet (some (.int (Int32.ofInt z))) (zqs G C 0 kd n t tu ch ke L w0) sz) := by
  subst hnn
  refine V_aload_n d_Ref_count_0 rfl ?_
  refine V_iconst d_Ref_count_1 ?_
  refine V_putf d_Ref_count_2 ff_Ref_69 zqs_o ⟨_, _, _, _, rfl, rfl, rfl, rfl, rfl⟩ (Nat.le_of_ble_eq_true rfl) ?_
  refine V_w (zqs_f (th' := 0) rfl) ?_
  refine V_iload_n d_Ref_count_5 rfl ?_
  refine V_tableIn (off := 61) 67 d_Ref_count_6 (by decide) (by decide) (by decide +kernel) (by decide) ?_
  refine V_aload_n d_Ref_count_67 rfl ?_
  refine V_callV (n := 0) d_Ref_count_68 g_Ref_149 rfl zqs_o rfl (r_root G _ C 0 kd nn t tu ch ke L w0 nn rfl hn z ht h2 hz hno) ⟨co_Ref_root, by decide +kernel, Nat.le_of_ble_eq_true rfl⟩ ⟨Nat.le_of_ble_eq_true rfl, Nat.le_of_ble_eq_true rfl, Nat.le_of_ble_eq_true rfl, Nat.le_of_ble_eq_true rfl⟩ (Nat.le_of_ble_eq_true rfl) (fun r_68 w_68 s_68 q_68 => ?_) (fun _ _ _ q => False.elim q)
  obtain ⟨rfl, rfl, rfl⟩ := q_68
  exact V_ireturn d_Ref_count_71 rfl ⟨Nat.le_of_ble_eq_true rfl, Nat.le_of_ble_eq_true rfl⟩ ⟨rfl, rfl, rfl⟩

set_option maxRecDepth 100000 in
set_option maxHeartbeats 4000000 in
theorem r_count_x (G : zG) (sz C : Nat) (th kd n t tu : Int) (ch : Int32) (ke : Int) (L : Nat → Int → Int) (w0 : zW) (x : Int) (hx : -2147483648 ≤ x ∧ x < 2147483648) (hb : x < 0 ∨ 7 < x) : zCt G M_Ref_count (zR 2 0 0 45) [.ref C, .int (Int32.ofInt x)] sz (zqs G C th kd n t tu ch ke L w0) (zdet (some (.int (Int32.ofInt (-1)))) (zqs G C 0 kd n t tu ch ke L w0) sz) := by
  refine V_aload_n d_Ref_count_0 rfl ?_
  refine V_iconst d_Ref_count_1 ?_
  refine V_putf d_Ref_count_2 ff_Ref_69 zqs_o ⟨_, _, _, _, rfl, rfl, rfl, rfl, rfl⟩ (Nat.le_of_ble_eq_true rfl) ?_
  refine V_w (zqs_f (th' := 0) rfl) ?_
  refine V_iload_n d_Ref_count_5 rfl ?_
  refine V_tableOut 128 d_Ref_count_6 (by rw [z32 hx]; omega) (by decide) ?_
  refine V_iconst d_Ref_count_128 ?_
  exact V_ireturn d_Ref_count_129 rfl ⟨Nat.le_of_ble_eq_true rfl, Nat.le_of_ble_eq_true rfl⟩ ⟨rfl, rfl, rfl⟩

set_option maxRecDepth 100000 in
set_option maxHeartbeats 4000000 in
theorem r_count_4 (G : zG) (sz C : Nat) (th kd n t tu : Int) (ch : Int32) (ke : Int) (L : Nat → Int → Int) (w0 : zW) (hke : ke = 0 ∨ ke = 1) : zCt G M_Ref_count (zR 2 0 0 45) [.ref C, .int (Int32.ofInt 4)] sz (zqs G C th kd n t tu ch ke L w0) (zdet (some (.int (Int32.ofInt ke))) (zqs G C 0 kd n t tu ch ke L w0) sz) := by
  refine V_aload_n d_Ref_count_0 rfl ?_
  refine V_iconst d_Ref_count_1 ?_
  refine V_putf d_Ref_count_2 ff_Ref_69 zqs_o ⟨_, _, _, _, rfl, rfl, rfl, rfl, rfl⟩ (Nat.le_of_ble_eq_true rfl) ?_
  refine V_w (zqs_f (th' := 0) rfl) ?_
  refine V_iload_n d_Ref_count_5 rfl ?_
  refine V_tableIn (off := 66) 72 d_Ref_count_6 (by decide) (by decide) (by decide +kernel) (by decide) ?_
  rcases hke with rfl | rfl
  · skip
    refine V_aload_n d_Ref_count_72 rfl ?_
    refine V_getf d_Ref_count_73 ff_Ref_107 zqs_o rfl ?_
    refine J_if_eq 83 d_Ref_count_76 (by decide) (by omega) (fun c_76 => ?_) (fun c_76 => absurd c_76 (by decide))
    refine V_iconst d_Ref_count_83 ?_
    exact V_ireturn d_Ref_count_84 rfl ⟨Nat.le_of_ble_eq_true rfl, Nat.le_of_ble_eq_true rfl⟩ ⟨rfl, rfl, rfl⟩
  · skip
    refine V_aload_n d_Ref_count_72 rfl ?_
    refine V_getf d_Ref_count_73 ff_Ref_107 zqs_o rfl ?_
    refine J_if_eq 83 d_Ref_count_76 (by decide) (by omega) (fun c_76 => absurd c_76 (by decide)) (fun c_76 => ?_)
    refine V_iconst d_Ref_count_79 ?_
    refine V_goto 84 d_Ref_count_80 (by decide) ?_
    exact V_ireturn d_Ref_count_84 rfl ⟨Nat.le_of_ble_eq_true rfl, Nat.le_of_ble_eq_true rfl⟩ ⟨rfl, rfl, rfl⟩

set_option maxRecDepth 100000 in
set_option maxHeartbeats 4000000 in
theorem r_count_7 (G : zG) (sz C : Nat) (th kd n t tu : Int) (ch : Int32) (ke : Int) (L : Nat → Int → Int) (w0 : zW)  : zCt G M_Ref_count (zR 2 0 0 45) [.ref C, .int (Int32.ofInt 7)] sz (zqs G C th kd n t tu ch ke L w0) (zdet (some (.int (Int32.ofInt (zup ch)))) (zqs G C 0 kd n t tu ch ke L w0) sz) := by
  refine V_aload_n d_Ref_count_0 rfl ?_
  refine V_iconst d_Ref_count_1 ?_
  refine V_putf d_Ref_count_2 ff_Ref_69 zqs_o ⟨_, _, _, _, rfl, rfl, rfl, rfl, rfl⟩ (Nat.le_of_ble_eq_true rfl) ?_
  refine V_w (zqs_f (th' := 0) rfl) ?_
  refine V_iload_n d_Ref_count_5 rfl ?_
  refine V_tableIn (off := 114) 120 d_Ref_count_6 (by decide) (by decide) (by decide +kernel) (by decide) ?_
  refine V_aload_n d_Ref_count_120 rfl ?_
  refine V_getf d_Ref_count_121 ff_Ref_81 zqs_o rfl ?_
  refine J_bipush d_Ref_count_124 (by decide) ?_
  refine V_iushr d_Ref_count_126 ?_
  exact V_ireturn d_Ref_count_127 rfl ⟨Nat.le_of_ble_eq_true rfl, Nat.le_of_ble_eq_true rfl⟩ ⟨by rw [← zup_of]; rfl, rfl, rfl⟩

set_option maxRecDepth 100000 in
set_option maxHeartbeats 4000000 in
theorem r_count_6 (G : zG) (sz C : Nat) (th kd n t tu : Int) (ch : Int32) (ke : Int) (L : Nat → Int → Int) (w0 : zW) (hpt : ∀ c : Nat, c < 16 → 0 ≤ L 8 c ∧ L 8 c ≤ 3) : zCt G M_Ref_count (zR 2 0 0 45) [.ref C, .int (Int32.ofInt 6)] sz (zqs G C th kd n t tu ch ke L w0) (zdet (some (.int (Int32.ofInt (zqc (L 8) 16)))) (zqs G C 0 kd n t tu ch ke L w0) sz) := by
  refine V_aload_n d_Ref_count_0 rfl ?_
  refine V_iconst d_Ref_count_1 ?_
  refine V_putf d_Ref_count_2 ff_Ref_69 zqs_o ⟨_, _, _, _, rfl, rfl, rfl, rfl, rfl⟩ (Nat.le_of_ble_eq_true rfl) ?_
  refine V_w (zqs_f (th' := 0) rfl) ?_
  refine V_iload_n d_Ref_count_5 rfl ?_
  refine V_tableIn (off := 84) 90 d_Ref_count_6 (by decide) (by decide) (by decide +kernel) (by decide) ?_
  refine V_iconst d_Ref_count_90 ?_
  refine V_istore_n d_Ref_count_91 (by decide) ?_
  refine V_iconst d_Ref_count_92 ?_
  refine V_istore_n d_Ref_count_93 (by decide) ?_
  refine zfor 16 (fun i => V G M_Ref_count (zdet (some (.int (Int32.ofInt (zqc (L 8) 16)))) (zqs G C 0 kd n t tu ch ke L w0) sz) (zR 2 0 0 45) 0 0 sz 94 [(0, .ref C), (1, .int (Int32.ofInt 6)), (2, .int (Int32.ofInt (zqc (L 8) i))), (3, .int (Int32.ofInt (i : Int)))] [] (zqs G C 0 kd n t tu ch ke L w0)) ?_ (fun i hi ih => ?_) 0 (Nat.zero_le 16)
  · skip
    refine V_iload_n d_Ref_count_94 rfl ?_
    refine J_bipush d_Ref_count_95 (by decide) ?_
    refine J_icmp_ge 118 d_Ref_count_97 (by decide) (by omega) (by omega) (fun c_97 => ?_) (fun c_97 => absurd c_97 (by omega))
    refine V_iload_n d_Ref_count_118 rfl ?_
    exact V_ireturn d_Ref_count_119 rfl ⟨Nat.le_of_ble_eq_true rfl, Nat.le_of_ble_eq_true rfl⟩ ⟨rfl, rfl, rfl⟩
  · have hp := hpt i (by omega)
    refine V_iload_n d_Ref_count_94 rfl ?_
    refine J_bipush d_Ref_count_95 (by decide) ?_
    refine J_icmp_ge 118 d_Ref_count_97 (by decide) (by omega) (by omega) (fun c_97 => absurd c_97 (by omega)) (fun c_97 => ?_)
    refine V_aload_n d_Ref_count_100 rfl ?_
    refine V_getf d_Ref_count_101 ff_Ref_39 zqs_o rfl ?_
    refine V_iload_n d_Ref_count_104 rfl ?_
    refine J_iaload d_Ref_count_105 zqs_a8 (by omega) (by decide) ?_
    refine J_if_le 112 d_Ref_count_106 (by decide) (by omega) (fun c_106 => ?_) (fun c_106 => ?_)
    · skip
      refine J_iinc d_Ref_count_112 rfl (by decide) ?_
      refine V_goto 94 d_Ref_count_115 (by decide) ?_
      rw [zqc_n c_106] at ih; exact ih
    · skip
      refine J_iinc d_Ref_count_109 rfl (by decide) ?_
      refine J_iinc d_Ref_count_112 rfl (by decide) ?_
      refine V_goto 94 d_Ref_count_115 (by decide) ?_
      rw [zqc_s c_106] at ih; exact ih

