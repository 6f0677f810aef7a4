set_option maxRecDepth 100000 in
set_option maxHeartbeats 4000000 in
theorem r_join_c (G : zG) (sz C : Nat) (th kd n t tu : Int) (ch : Int32) (ke : Int) (L : Nat → Int → Int) (w0 : zW) (c : Int) (hc : -2147483648 ≤ c ∧ c < 2147483648) (hb : c < 0 ∨ 15 < c) (o l r : Int) : zCt G M_Ref_join (zR 3 0 0 70) [.ref C, .int (Int32.ofInt c), .int (Int32.ofInt o), .int (Int32.ofInt l), .int (Int32.ofInt r)] sz (zqs G C th kd n t tu ch ke L w0) (zdet (some (.int (Int32.ofInt 0))) (zqs G C 1 kd n t tu ch ke L w0) sz) := by
  refine V_aload_n d_Ref_join_0 rfl ?_
  refine V_iload_n d_Ref_join_1 rfl ?_
  refine V_callS (n := 1) d_Ref_join_2 g_Ref_138 rfl (r_noCipher_y G _ _ c hc hb) ⟨co_Ref_noCipher, by decide +kernel, Nat.le_of_ble_eq_true rfl⟩ ⟨Nat.le_of_ble_eq_true rfl, Nat.le_of_ble_eq_true rfl, Nat.le_of_ble_eq_true rfl, Nat.le_of_ble_eq_true rfl⟩ (Nat.le_of_ble_eq_true rfl) (fun r_2 w_2 s_2 q_2 => ?_) (fun _ _ _ q => False.elim q)
  obtain ⟨rfl, rfl, rfl⟩ := q_2
  refine J_if_ne 25 d_Ref_join_5 (by decide) (by decide) (fun c_5 => ?_) (fun c_5 => absurd c_5 (by decide))
  refine V_iconst d_Ref_join_25 ?_
  refine V_goto 73 d_Ref_join_26 (by decide) ?_
  refine V_putf d_Ref_join_73 ff_Ref_69 zqs_o ⟨_, _, _, _, rfl, rfl, rfl, rfl, rfl⟩ (Nat.le_of_ble_eq_true rfl) ?_
  refine V_w (zqs_f (th' := 1) rfl) ?_
  refine V_aload_n d_Ref_join_76 rfl ?_
  refine V_getf d_Ref_join_77 ff_Ref_69 zqs_o rfl ?_
  refine J_if_le 85 d_Ref_join_80 (by decide) (by decide) (fun c_80 => absurd c_80 (by decide)) (fun c_80 => ?_)
  refine V_iconst d_Ref_join_83 ?_
  exact V_ireturn d_Ref_join_84 rfl ⟨Nat.le_of_ble_eq_true rfl, Nat.le_of_ble_eq_true rfl⟩ ⟨rfl, rfl, rfl⟩

set_option maxRecDepth 100000 in
set_option maxHeartbeats 4000000 in
theorem r_join_l (G : zG) (sz C : Nat) (th kd n t tu : Int) (ch : Int32) (ke : Int) (L : Nat → Int → Int) (w0 : zW) (c : Nat) (hc : c < 16) (l : Int) (hl : -2147483648 ≤ l ∧ l < 2147483648) (hb : l < 0 ∨ 15 < l) (o r : Int) : zCt G M_Ref_join (zR 3 0 0 70) [.ref C, .int (Int32.ofInt (c : Int)), .int (Int32.ofInt o), .int (Int32.ofInt l), .int (Int32.ofInt r)] sz (zqs G C th kd n t tu ch ke L w0) (zdet (some (.int (Int32.ofInt 0))) (zqs G C 1 kd n t tu ch ke L w0) sz) := by
  refine V_aload_n d_Ref_join_0 rfl ?_
  refine V_iload_n d_Ref_join_1 rfl ?_
  refine V_callS (n := 1) d_Ref_join_2 g_Ref_138 rfl (r_noCipher_n G _ _ c (by omega)) ⟨co_Ref_noCipher, by decide +kernel, Nat.le_of_ble_eq_true rfl⟩ ⟨Nat.le_of_ble_eq_true rfl, Nat.le_of_ble_eq_true rfl, Nat.le_of_ble_eq_true rfl, Nat.le_of_ble_eq_true rfl⟩ (Nat.le_of_ble_eq_true rfl) (fun r_2 w_2 s_2 q_2 => ?_) (fun _ _ _ q => False.elim q)
  obtain ⟨rfl, rfl, rfl⟩ := q_2
  refine J_if_ne 25 d_Ref_join_5 (by decide) (by decide) (fun c_5 => absurd rfl c_5) (fun c_5 => ?_)
  refine V_aload_n d_Ref_join_8 rfl ?_
  refine V_iload_n d_Ref_join_9 rfl ?_
  refine V_callV (n := 1) d_Ref_join_10 g_Ref_180 rfl zqs_o rfl (r_emptyI_y G _ C th kd n t tu ch ke L w0 l hl hb) ⟨co_Ref_empty_I, by decide +kernel, Nat.le_of_ble_eq_true rfl⟩ ⟨Nat.le_of_ble_eq_true rfl, Nat.le_of_ble_eq_true rfl, Nat.le_of_ble_eq_true rfl, Nat.le_of_ble_eq_true rfl⟩ (Nat.le_of_ble_eq_true rfl) (fun r_10 w_10 s_10 q_10 => ?_) (fun _ _ _ q => False.elim q)
  obtain ⟨rfl, rfl, rfl⟩ := q_10
  refine J_if_ne 25 d_Ref_join_13 (by decide) (by decide) (fun c_13 => ?_) (fun c_13 => absurd c_13 (by decide))
  refine V_iconst d_Ref_join_25 ?_
  refine V_goto 73 d_Ref_join_26 (by decide) ?_
  refine V_putf d_Ref_join_73 ff_Ref_69 zqs_o ⟨_, _, _, _, rfl, rfl, rfl, rfl, rfl⟩ (Nat.le_of_ble_eq_true rfl) ?_
  refine V_w (zqs_f (th' := 1) rfl) ?_
  refine V_aload_n d_Ref_join_76 rfl ?_
  refine V_getf d_Ref_join_77 ff_Ref_69 zqs_o rfl ?_
  refine J_if_le 85 d_Ref_join_80 (by decide) (by decide) (fun c_80 => absurd c_80 (by decide)) (fun c_80 => ?_)
  refine V_iconst d_Ref_join_83 ?_
  exact V_ireturn d_Ref_join_84 rfl ⟨Nat.le_of_ble_eq_true rfl, Nat.le_of_ble_eq_true rfl⟩ ⟨rfl, rfl, rfl⟩

set_option maxRecDepth 100000 in
set_option maxHeartbeats 4000000 in
theorem r_join_le (G : zG) (sz C : Nat) (th kd n t tu : Int) (ch : Int32) (ke : Int) (L : Nat → Int → Int) (w0 : zW) (c : Nat) (hc : c < 16) (l : Nat) (hl : l < 16) (he : L 8 l = 0) (o r : Int) : zCt G M_Ref_join (zR 3 0 0 70) [.ref C, .int (Int32.ofInt (c : Int)), .int (Int32.ofInt o), .int (Int32.ofInt (l : Int)), .int (Int32.ofInt r)] sz (zqs G C th kd n t tu ch ke L w0) (zdet (some (.int (Int32.ofInt 0))) (zqs G C 1 kd n t tu ch ke L w0) sz) := by
  refine V_aload_n d_Ref_join_0 rfl ?_
  refine V_iload_n d_Ref_join_1 rfl ?_
  refine V_callS (n := 1) d_Ref_join_2 g_Ref_138 rfl (r_noCipher_n G _ _ c (by omega)) ⟨co_Ref_noCipher, by decide +kernel, Nat.le_of_ble_eq_true rfl⟩ ⟨Nat.le_of_ble_eq_true rfl, Nat.le_of_ble_eq_true rfl, Nat.le_of_ble_eq_true rfl, Nat.le_of_ble_eq_true rfl⟩ (Nat.le_of_ble_eq_true rfl) (fun r_2 w_2 s_2 q_2 => ?_) (fun _ _ _ q => False.elim q)
  obtain ⟨rfl, rfl, rfl⟩ := q_2
  refine J_if_ne 25 d_Ref_join_5 (by decide) (by decide) (fun c_5 => absurd rfl c_5) (fun c_5 => ?_)
  refine V_aload_n d_Ref_join_8 rfl ?_
  refine V_iload_n d_Ref_join_9 rfl ?_
  refine V_callV (n := 1) d_Ref_join_10 g_Ref_180 rfl zqs_o rfl (r_emptyI_e G _ C th kd n t tu ch ke L w0 l (by omega) he) ⟨co_Ref_empty_I, by decide +kernel, Nat.le_of_ble_eq_true rfl⟩ ⟨Nat.le_of_ble_eq_true rfl, Nat.le_of_ble_eq_true rfl, Nat.le_of_ble_eq_true rfl, Nat.le_of_ble_eq_true rfl⟩ (Nat.le_of_ble_eq_true rfl) (fun r_10 w_10 s_10 q_10 => ?_) (fun _ _ _ q => False.elim q)
  obtain ⟨rfl, rfl, rfl⟩ := q_10
  refine J_if_ne 25 d_Ref_join_13 (by decide) (by decide) (fun c_13 => ?_) (fun c_13 => absurd c_13 (by decide))
  refine V_iconst d_Ref_join_25 ?_
  refine V_goto 73 d_Ref_join_26 (by decide) ?_
  refine V_putf d_Ref_join_73 ff_Ref_69 zqs_o ⟨_, _, _, _, rfl, rfl, rfl, rfl, rfl⟩ (Nat.le_of_ble_eq_true rfl) ?_
  refine V_w (zqs_f (th' := 1) rfl) ?_
  refine V_aload_n d_Ref_join_76 rfl ?_
  refine V_getf d_Ref_join_77 ff_Ref_69 zqs_o rfl ?_
  refine J_if_le 85 d_Ref_join_80 (by decide) (by decide) (fun c_80 => absurd c_80 (by decide)) (fun c_80 => ?_)
  refine V_iconst d_Ref_join_83 ?_
  exact V_ireturn d_Ref_join_84 rfl ⟨Nat.le_of_ble_eq_true rfl, Nat.le_of_ble_eq_true rfl⟩ ⟨rfl, rfl, rfl⟩

set_option maxRecDepth 100000 in
set_option maxHeartbeats 4000000 in
theorem r_join_r (G : zG) (sz C : Nat) (th kd n t tu : Int) (ch : Int32) (ke : Int) (L : Nat → Int → Int) (w0 : zW) (c : Nat) (hc : c < 16) (l : Nat) (hl : l < 16) (hfl : 0 < L 8 l ∧ L 8 l ≤ 3) (r : Int) (hr : -2147483648 ≤ r ∧ r < 2147483648) (hb : r < 0 ∨ 15 < r) (o : Int) : zCt G M_Ref_join (zR 3 0 0 70) [.ref C, .int (Int32.ofInt (c : Int)), .int (Int32.ofInt o), .int (Int32.ofInt (l : Int)), .int (Int32.ofInt r)] sz (zqs G C th kd n t tu ch ke L w0) (zdet (some (.int (Int32.ofInt 0))) (zqs G C 1 kd n t tu ch ke L w0) sz) := by
  refine V_aload_n d_Ref_join_0 rfl ?_
  refine V_iload_n d_Ref_join_1 rfl ?_
  refine V_callS (n := 1) d_Ref_join_2 g_Ref_138 rfl (r_noCipher_n G _ _ c (by omega)) ⟨co_Ref_noCipher, by decide +kernel, Nat.le_of_ble_eq_true rfl⟩ ⟨Nat.le_of_ble_eq_true rfl, Nat.le_of_ble_eq_true rfl, Nat.le_of_ble_eq_true rfl, Nat.le_of_ble_eq_true rfl⟩ (Nat.le_of_ble_eq_true rfl) (fun r_2 w_2 s_2 q_2 => ?_) (fun _ _ _ q => False.elim q)
  obtain ⟨rfl, rfl, rfl⟩ := q_2
  refine J_if_ne 25 d_Ref_join_5 (by decide) (by decide) (fun c_5 => absurd rfl c_5) (fun c_5 => ?_)
  refine V_aload_n d_Ref_join_8 rfl ?_
  refine V_iload_n d_Ref_join_9 rfl ?_
  refine V_callV (n := 1) d_Ref_join_10 g_Ref_180 rfl zqs_o rfl (r_emptyI_n G _ C th kd n t tu ch ke L w0 l (by omega) hfl) ⟨co_Ref_empty_I, by decide +kernel, Nat.le_of_ble_eq_true rfl⟩ ⟨Nat.le_of_ble_eq_true rfl, Nat.le_of_ble_eq_true rfl, Nat.le_of_ble_eq_true rfl, Nat.le_of_ble_eq_true rfl⟩ (Nat.le_of_ble_eq_true rfl) (fun r_10 w_10 s_10 q_10 => ?_) (fun _ _ _ q => False.elim q)
  obtain ⟨rfl, rfl, rfl⟩ := q_10
  refine J_if_ne 25 d_Ref_join_13 (by decide) (by decide) (fun c_13 => absurd rfl c_13) (fun c_13 => ?_)
  refine V_aload_n d_Ref_join_16 rfl ?_
  refine V_iload d_Ref_join_17 rfl ?_
  refine V_callV (n := 1) d_Ref_join_19 g_Ref_180 rfl zqs_o rfl (r_emptyI_y G _ C th kd n t tu ch ke L w0 r hr hb) ⟨co_Ref_empty_I, by decide +kernel, Nat.le_of_ble_eq_true rfl⟩ ⟨Nat.le_of_ble_eq_true rfl, Nat.le_of_ble_eq_true rfl, Nat.le_of_ble_eq_true rfl, Nat.le_of_ble_eq_true rfl⟩ (Nat.le_of_ble_eq_true rfl) (fun r_19 w_19 s_19 q_19 => ?_) (fun _ _ _ q => False.elim q)
  obtain ⟨rfl, rfl, rfl⟩ := q_19
  refine J_if_eq 29 d_Ref_join_22 (by decide) (by decide) (fun c_22 => absurd c_22 (by decide)) (fun c_22 => ?_)
  refine V_iconst d_Ref_join_25 ?_
  refine V_goto 73 d_Ref_join_26 (by decide) ?_
  refine V_putf d_Ref_join_73 ff_Ref_69 zqs_o ⟨_, _, _, _, rfl, rfl, rfl, rfl, rfl⟩ (Nat.le_of_ble_eq_true rfl) ?_
  refine V_w (zqs_f (th' := 1) rfl) ?_
  refine V_aload_n d_Ref_join_76 rfl ?_
  refine V_getf d_Ref_join_77 ff_Ref_69 zqs_o rfl ?_
  refine J_if_le 85 d_Ref_join_80 (by decide) (by decide) (fun c_80 => absurd c_80 (by decide)) (fun c_80 => ?_)
  refine V_iconst d_Ref_join_83 ?_
  exact V_ireturn d_Ref_join_84 rfl ⟨Nat.le_of_ble_eq_true rfl, Nat.le_of_ble_eq_true rfl⟩ ⟨rfl, rfl, rfl⟩

set_option maxRecDepth 100000 in
set_option maxHeartbeats 4000000 in
theorem r_join_re (G : zG) (sz C : Nat) (th kd n t tu : Int) (ch : Int32) (ke : Int) (L : Nat → Int → Int) (w0 : zW) (c : Nat) (hc : c < 16) (l : Nat) (hl : l < 16) (hfl : 0 < L 8 l ∧ L 8 l ≤ 3) (r : Nat) (hr : r < 16) (he : L 8 r = 0) (o : Int) : zCt G M_Ref_join (zR 3 0 0 70) [.ref C, .int (Int32.ofInt (c : Int)), .int (Int32.ofInt o), .int (Int32.ofInt (l : Int)), .int (Int32.ofInt (r : Int))] sz (zqs G C th kd n t tu ch ke L w0) (zdet (some (.int (Int32.ofInt 0))) (zqs G C 1 kd n t tu ch ke L w0) sz) := by
  refine V_aload_n d_Ref_join_0 rfl ?_
  refine V_iload_n d_Ref_join_1 rfl ?_
  refine V_callS (n := 1) d_Ref_join_2 g_Ref_138 rfl (r_noCipher_n G _ _ c (by omega)) ⟨co_Ref_noCipher, by decide +kernel, Nat.le_of_ble_eq_true rfl⟩ ⟨Nat.le_of_ble_eq_true rfl, Nat.le_of_ble_eq_true rfl, Nat.le_of_ble_eq_true rfl, Nat.le_of_ble_eq_true rfl⟩ (Nat.le_of_ble_eq_true rfl) (fun r_2 w_2 s_2 q_2 => ?_) (fun _ _ _ q => False.elim q)
  obtain ⟨rfl, rfl, rfl⟩ := q_2
  refine J_if_ne 25 d_Ref_join_5 (by decide) (by decide) (fun c_5 => absurd rfl c_5) (fun c_5 => ?_)
  refine V_aload_n d_Ref_join_8 rfl ?_
  refine V_iload_n d_Ref_join_9 rfl ?_
  refine V_callV (n := 1) d_Ref_join_10 g_Ref_180 rfl zqs_o rfl (r_emptyI_n G _ C th kd n t tu ch ke L w0 l (by omega) hfl) ⟨co_Ref_empty_I, by decide +kernel, Nat.le_of_ble_eq_true rfl⟩ ⟨Nat.le_of_ble_eq_true rfl, Nat.le_of_ble_eq_true rfl, Nat.le_of_ble_eq_true rfl, Nat.le_of_ble_eq_true rfl⟩ (Nat.le_of_ble_eq_true rfl) (fun r_10 w_10 s_10 q_10 => ?_) (fun _ _ _ q => False.elim q)
  obtain ⟨rfl, rfl, rfl⟩ := q_10
  refine J_if_ne 25 d_Ref_join_13 (by decide) (by decide) (fun c_13 => absurd rfl c_13) (fun c_13 => ?_)
  refine V_aload_n d_Ref_join_16 rfl ?_
  refine V_iload d_Ref_join_17 rfl ?_
  refine V_callV (n := 1) d_Ref_join_19 g_Ref_180 rfl zqs_o rfl (r_emptyI_e G _ C th kd n t tu ch ke L w0 r (by omega) he) ⟨co_Ref_empty_I, by decide +kernel, Nat.le_of_ble_eq_true rfl⟩ ⟨Nat.le_of_ble_eq_true rfl, Nat.le_of_ble_eq_true rfl, Nat.le_of_ble_eq_true rfl, Nat.le_of_ble_eq_true rfl⟩ (Nat.le_of_ble_eq_true rfl) (fun r_19 w_19 s_19 q_19 => ?_) (fun _ _ _ q => False.elim q)
  obtain ⟨rfl, rfl, rfl⟩ := q_19
  refine J_if_eq 29 d_Ref_join_22 (by decide) (by decide) (fun c_22 => absurd c_22 (by decide)) (fun c_22 => ?_)
  refine V_iconst d_Ref_join_25 ?_
  refine V_goto 73 d_Ref_join_26 (by decide) ?_
  refine V_putf d_Ref_join_73 ff_Ref_69 zqs_o ⟨_, _, _, _, rfl, rfl, rfl, rfl, rfl⟩ (Nat.le_of_ble_eq_true rfl) ?_
  refine V_w (zqs_f (th' := 1) rfl) ?_
  refine V_aload_n d_Ref_join_76 rfl ?_
  refine V_getf d_Ref_join_77 ff_Ref_69 zqs_o rfl ?_
  refine J_if_le 85 d_Ref_join_80 (by decide) (by decide) (fun c_80 => absurd c_80 (by decide)) (fun c_80 => ?_)
  refine V_iconst d_Ref_join_83 ?_
  exact V_ireturn d_Ref_join_84 rfl ⟨Nat.le_of_ble_eq_true rfl, Nat.le_of_ble_eq_true rfl⟩ ⟨rfl, rfl, rfl⟩

set_option maxRecDepth 100000 in
set_option maxHeartbeats 4000000 in
theorem r_join_o1 (G : zG) (sz C : Nat) (th kd n t tu : Int) (ch : Int32) (ke : Int) (L : Nat → Int → Int) (w0 : zW) (c : Nat) (hc : c < 16) (l : Nat) (hl : l < 16) (hfl : 0 < L 8 l ∧ L 8 l ≤ 3) (r : Nat) (hr : r < 16) (hfr : 0 < L 8 r ∧ L 8 r ≤ 3) (o : Int) (ho : -2147483648 ≤ o ∧ o < 2147483648) (hb : o < 0) : zCt G M_Ref_join (zR 3 0 0 70) [.ref C, .int (Int32.ofInt (c : Int)), .int (Int32.ofInt o), .int (Int32.ofInt (l : Int)), .int (Int32.ofInt (r : Int))] sz (zqs G C th kd n t tu ch ke L w0) (zdet (some (.int (Int32.ofInt 0))) (zqs G C 2 kd n t tu ch ke L w0) sz) := by
  refine V_aload_n d_Ref_join_0 rfl ?_
  refine V_iload_n d_Ref_join_1 rfl ?_
  refine V_callS (n := 1) d_Ref_join_2 g_Ref_138 rfl (r_noCipher_n G _ _ c (by omega)) ⟨co_Ref_noCipher, by decide +kernel, Nat.le_of_ble_eq_true rfl⟩ ⟨Nat.le_of_ble_eq_true rfl, Nat.le_of_ble_eq_true rfl, Nat.le_of_ble_eq_true rfl, Nat.le_of_ble_eq_true rfl⟩ (Nat.le_of_ble_eq_true rfl) (fun r_2 w_2 s_2 q_2 => ?_) (fun _ _ _ q => False.elim q)
  obtain ⟨rfl, rfl, rfl⟩ := q_2
  refine J_if_ne 25 d_Ref_join_5 (by decide) (by decide) (fun c_5 => absurd rfl c_5) (fun c_5 => ?_)
  refine V_aload_n d_Ref_join_8 rfl ?_
  refine V_iload_n d_Ref_join_9 rfl ?_
  refine V_callV (n := 1) d_Ref_join_10 g_Ref_180 rfl zqs_o rfl (r_emptyI_n G _ C th kd n t tu ch ke L w0 l (by omega) hfl) ⟨co_Ref_empty_I, by decide +kernel, Nat.le_of_ble_eq_true rfl⟩ ⟨Nat.le_of_ble_eq_true rfl, Nat.le_of_ble_eq_true rfl, Nat.le_of_ble_eq_true rfl, Nat.le_of_ble_eq_true rfl⟩ (Nat.le_of_ble_eq_true rfl) (fun r_10 w_10 s_10 q_10 => ?_) (fun _ _ _ q => False.elim q)
  obtain ⟨rfl, rfl, rfl⟩ := q_10
  refine J_if_ne 25 d_Ref_join_13 (by decide) (by decide) (fun c_13 => absurd rfl c_13) (fun c_13 => ?_)
  refine V_aload_n d_Ref_join_16 rfl ?_
  refine V_iload d_Ref_join_17 rfl ?_
  refine V_callV (n := 1) d_Ref_join_19 g_Ref_180 rfl zqs_o rfl (r_emptyI_n G _ C th kd n t tu ch ke L w0 r (by omega) hfr) ⟨co_Ref_empty_I, by decide +kernel, Nat.le_of_ble_eq_true rfl⟩ ⟨Nat.le_of_ble_eq_true rfl, Nat.le_of_ble_eq_true rfl, Nat.le_of_ble_eq_true rfl, Nat.le_of_ble_eq_true rfl⟩ (Nat.le_of_ble_eq_true rfl) (fun r_19 w_19 s_19 q_19 => ?_) (fun _ _ _ q => False.elim q)
  obtain ⟨rfl, rfl, rfl⟩ := q_19
  refine J_if_eq 29 d_Ref_join_22 (by decide) (by decide) (fun c_22 => ?_) (fun c_22 => absurd rfl c_22)
  refine V_iload_n d_Ref_join_29 rfl ?_
  refine J_if_lt 38 d_Ref_join_30 (by decide) (by omega) (fun c_30 => ?_) (fun c_30 => absurd c_30 (by omega))
  refine V_iconst d_Ref_join_38 ?_
  refine V_goto 73 d_Ref_join_39 (by decide) ?_
  refine V_putf d_Ref_join_73 ff_Ref_69 zqs_o ⟨_, _, _, _, rfl, rfl, rfl, rfl, rfl⟩ (Nat.le_of_ble_eq_true rfl) ?_
  refine V_w (zqs_f (th' := 2) rfl) ?_
  refine V_aload_n d_Ref_join_76 rfl ?_
  refine V_getf d_Ref_join_77 ff_Ref_69 zqs_o rfl ?_
  refine J_if_le 85 d_Ref_join_80 (by decide) (by decide) (fun c_80 => absurd c_80 (by decide)) (fun c_80 => ?_)
  refine V_iconst d_Ref_join_83 ?_
  exact V_ireturn d_Ref_join_84 rfl ⟨Nat.le_of_ble_eq_true rfl, Nat.le_of_ble_eq_true rfl⟩ ⟨rfl, rfl, rfl⟩

set_option maxRecDepth 100000 in
set_option maxHeartbeats 4000000 in
theorem r_join_o2 (G : zG) (sz C : Nat) (th kd n t tu : Int) (ch : Int32) (ke : Int) (L : Nat → Int → Int) (w0 : zW) (c : Nat) (hc : c < 16) (l : Nat) (hl : l < 16) (hfl : 0 < L 8 l ∧ L 8 l ≤ 3) (r : Nat) (hr : r < 16) (hfr : 0 < L 8 r ∧ L 8 r ≤ 3) (o : Int) (ho : -2147483648 ≤ o ∧ o < 2147483648) (hb : 2 < o) : zCt G M_Ref_join (zR 3 0 0 70) [.ref C, .int (Int32.ofInt (c : Int)), .int (Int32.ofInt o), .int (Int32.ofInt (l : Int)), .int (Int32.ofInt (r : Int))] sz (zqs G C th kd n t tu ch ke L w0) (zdet (some (.int (Int32.ofInt 0))) (zqs G C 2 kd n t tu ch ke L w0) sz) := by
  refine V_aload_n d_Ref_join_0 rfl ?_
  refine V_iload_n d_Ref_join_1 rfl ?_
  refine V_callS (n := 1) d_Ref_join_2 g_Ref_138 rfl (r_noCipher_n G _ _ c (by omega)) ⟨co_Ref_noCipher, by decide +kernel, Nat.le_of_ble_eq_true rfl⟩ ⟨Nat.le_of_ble_eq_true rfl, Nat.le_of_ble_eq_true rfl, Nat.le_of_ble_eq_true rfl, Nat.le_of_ble_eq_true rfl⟩ (Nat.le_of_ble_eq_true rfl) (fun r_2 w_2 s_2 q_2 => ?_) (fun _ _ _ q => False.elim q)
  obtain ⟨rfl, rfl, rfl⟩ := q_2
  refine J_if_ne 25 d_Ref_join_5 (by decide) (by decide) (fun c_5 => absurd rfl c_5) (fun c_5 => ?_)
  refine V_aload_n d_Ref_join_8 rfl ?_
  refine V_iload_n d_Ref_join_9 rfl ?_
  refine V_callV (n := 1) d_Ref_join_10 g_Ref_180 rfl zqs_o rfl (r_emptyI_n G _ C th kd n t tu ch ke L w0 l (by omega) hfl) ⟨co_Ref_empty_I, by decide +kernel, Nat.le_of_ble_eq_true rfl⟩ ⟨Nat.le_of_ble_eq_true rfl, Nat.le_of_ble_eq_true rfl, Nat.le_of_ble_eq_true rfl, Nat.le_of_ble_eq_true rfl⟩ (Nat.le_of_ble_eq_true rfl) (fun r_10 w_10 s_10 q_10 => ?_) (fun _ _ _ q => False.elim q)
  obtain ⟨rfl, rfl, rfl⟩ := q_10
  refine J_if_ne 25 d_Ref_join_13 (by decide) (by decide) (fun c_13 => absurd rfl c_13) (fun c_13 => ?_)
  refine V_aload_n d_Ref_join_16 rfl ?_
  refine V_iload d_Ref_join_17 rfl ?_
  refine V_callV (n := 1) d_Ref_join_19 g_Ref_180 rfl zqs_o rfl (r_emptyI_n G _ C th kd n t tu ch ke L w0 r (by omega) hfr) ⟨co_Ref_empty_I, by decide +kernel, Nat.le_of_ble_eq_true rfl⟩ ⟨Nat.le_of_ble_eq_true rfl, Nat.le_of_ble_eq_true rfl, Nat.le_of_ble_eq_true rfl, Nat.le_of_ble_eq_true rfl⟩ (Nat.le_of_ble_eq_true rfl) (fun r_19 w_19 s_19 q_19 => ?_) (fun _ _ _ q => False.elim q)
  obtain ⟨rfl, rfl, rfl⟩ := q_19
  refine J_if_eq 29 d_Ref_join_22 (by decide) (by decide) (fun c_22 => ?_) (fun c_22 => absurd rfl c_22)
  refine V_iload_n d_Ref_join_29 rfl ?_
  refine J_if_lt 38 d_Ref_join_30 (by decide) (by omega) (fun c_30 => absurd c_30 (by omega)) (fun c_30 => ?_)
  refine V_iload_n d_Ref_join_33 rfl ?_
  refine V_iconst d_Ref_join_34 ?_
  refine J_icmp_le 42 d_Ref_join_35 (by decide) (by omega) (by omega) (fun c_35 => absurd c_35 (by omega)) (fun c_35 => ?_)
  refine V_iconst d_Ref_join_38 ?_
  refine V_goto 73 d_Ref_join_39 (by decide) ?_
  refine V_putf d_Ref_join_73 ff_Ref_69 zqs_o ⟨_, _, _, _, rfl, rfl, rfl, rfl, rfl⟩ (Nat.le_of_ble_eq_true rfl) ?_
  refine V_w (zqs_f (th' := 2) rfl) ?_
  refine V_aload_n d_Ref_join_76 rfl ?_
  refine V_getf d_Ref_join_77 ff_Ref_69 zqs_o rfl ?_
  refine J_if_le 85 d_Ref_join_80 (by decide) (by decide) (fun c_80 => absurd c_80 (by decide)) (fun c_80 => ?_)
  refine V_iconst d_Ref_join_83 ?_
  exact V_ireturn d_Ref_join_84 rfl ⟨Nat.le_of_ble_eq_true rfl, Nat.le_of_ble_eq_true rfl⟩ ⟨rfl, rfl, rfl⟩

set_option maxRecDepth 100000 in
set_option maxHeartbeats 4000000 in
theorem r_join_3l (G : zG) (sz C : Nat) (th kd n t tu : Int) (ch : Int32) (ke : Int) (L : Nat → Int → Int) (w0 : zW) (c : Nat) (hc : c < 16) (l : Nat) (hl : l < 16) (hfl : 0 < L 8 l ∧ L 8 l ≤ 3) (r : Nat) (hr : r < 16) (hfr : 0 < L 8 r ∧ L 8 r ≤ 3) (hb : L 8 l = 3) : zCt G M_Ref_join (zR 3 0 0 70) [.ref C, .int (Int32.ofInt (c : Int)), .int (Int32.ofInt 2), .int (Int32.ofInt (l : Int)), .int (Int32.ofInt (r : Int))] sz (zqs G C th kd n t tu ch ke L w0) (zdet (some (.int (Int32.ofInt 0))) (zqs G C 3 kd n t tu ch ke L w0) sz) := by
  refine V_aload_n d_Ref_join_0 rfl ?_
  refine V_iload_n d_Ref_join_1 rfl ?_
  refine V_callS (n := 1) d_Ref_join_2 g_Ref_138 rfl (r_noCipher_n G _ _ c (by omega)) ⟨co_Ref_noCipher, by decide +kernel, Nat.le_of_ble_eq_true rfl⟩ ⟨Nat.le_of_ble_eq_true rfl, Nat.le_of_ble_eq_true rfl, Nat.le_of_ble_eq_true rfl, Nat.le_of_ble_eq_true rfl⟩ (Nat.le_of_ble_eq_true rfl) (fun r_2 w_2 s_2 q_2 => ?_) (fun _ _ _ q => False.elim q)
  obtain ⟨rfl, rfl, rfl⟩ := q_2
  refine J_if_ne 25 d_Ref_join_5 (by decide) (by decide) (fun c_5 => absurd rfl c_5) (fun c_5 => ?_)
  refine V_aload_n d_Ref_join_8 rfl ?_
  refine V_iload_n d_Ref_join_9 rfl ?_
  refine V_callV (n := 1) d_Ref_join_10 g_Ref_180 rfl zqs_o rfl (r_emptyI_n G _ C th kd n t tu ch ke L w0 l (by omega) hfl) ⟨co_Ref_empty_I, by decide +kernel, Nat.le_of_ble_eq_true rfl⟩ ⟨Nat.le_of_ble_eq_true rfl, Nat.le_of_ble_eq_true rfl, Nat.le_of_ble_eq_true rfl, Nat.le_of_ble_eq_true rfl⟩ (Nat.le_of_ble_eq_true rfl) (fun r_10 w_10 s_10 q_10 => ?_) (fun _ _ _ q => False.elim q)
  obtain ⟨rfl, rfl, rfl⟩ := q_10
  refine J_if_ne 25 d_Ref_join_13 (by decide) (by decide) (fun c_13 => absurd rfl c_13) (fun c_13 => ?_)
  refine V_aload_n d_Ref_join_16 rfl ?_
  refine V_iload d_Ref_join_17 rfl ?_
  refine V_callV (n := 1) d_Ref_join_19 g_Ref_180 rfl zqs_o rfl (r_emptyI_n G _ C th kd n t tu ch ke L w0 r (by omega) hfr) ⟨co_Ref_empty_I, by decide +kernel, Nat.le_of_ble_eq_true rfl⟩ ⟨Nat.le_of_ble_eq_true rfl, Nat.le_of_ble_eq_true rfl, Nat.le_of_ble_eq_true rfl, Nat.le_of_ble_eq_true rfl⟩ (Nat.le_of_ble_eq_true rfl) (fun r_19 w_19 s_19 q_19 => ?_) (fun _ _ _ q => False.elim q)
  obtain ⟨rfl, rfl, rfl⟩ := q_19
  refine J_if_eq 29 d_Ref_join_22 (by decide) (by decide) (fun c_22 => ?_) (fun c_22 => absurd rfl c_22)
  refine V_iload_n d_Ref_join_29 rfl ?_
  refine J_if_lt 38 d_Ref_join_30 (by decide) (by omega) (fun c_30 => absurd c_30 (by decide)) (fun c_30 => ?_)
  refine V_iload_n d_Ref_join_33 rfl ?_
  refine V_iconst d_Ref_join_34 ?_
  refine J_icmp_le 42 d_Ref_join_35 (by decide) (by omega) (by omega) (fun c_35 => ?_) (fun c_35 => absurd c_35 (by decide))
  refine V_iload_n d_Ref_join_42 rfl ?_
  refine V_iconst d_Ref_join_43 ?_
  refine J_icmp_ne 72 d_Ref_join_44 (by decide) (by omega) (by omega) (fun c_44 => absurd rfl c_44) (fun c_44 => ?_)
  refine V_aload_n d_Ref_join_47 rfl ?_
  refine V_getf d_Ref_join_48 ff_Ref_39 zqs_o rfl ?_
  refine V_iload_n d_Ref_join_51 rfl ?_
  refine J_iaload d_Ref_join_52 zqs_a8 (by omega) (by decide) ?_
  refine V_iconst d_Ref_join_53 ?_
  refine J_icmp_eq 68 d_Ref_join_54 (by decide) (by omega) (by omega) (fun c_54 => ?_) (fun c_54 => absurd hb c_54)
  refine V_iconst d_Ref_join_68 ?_
  refine V_goto 73 d_Ref_join_69 (by decide) ?_
  refine V_putf d_Ref_join_73 ff_Ref_69 zqs_o ⟨_, _, _, _, rfl, rfl, rfl, rfl, rfl⟩ (Nat.le_of_ble_eq_true rfl) ?_
  refine V_w (zqs_f (th' := 3) rfl) ?_
  refine V_aload_n d_Ref_join_76 rfl ?_
  refine V_getf d_Ref_join_77 ff_Ref_69 zqs_o rfl ?_
  refine J_if_le 85 d_Ref_join_80 (by decide) (by decide) (fun c_80 => absurd c_80 (by decide)) (fun c_80 => ?_)
  refine V_iconst d_Ref_join_83 ?_
  exact V_ireturn d_Ref_join_84 rfl ⟨Nat.le_of_ble_eq_true rfl, Nat.le_of_ble_eq_true rfl⟩ ⟨rfl, rfl, rfl⟩

set_option maxRecDepth 100000 in
set_option maxHeartbeats 4000000 in
theorem r_join_3r (G : zG) (sz C : Nat) (th kd n t tu : Int) (ch : Int32) (ke : Int) (L : Nat → Int → Int) (w0 : zW) (c : Nat) (hc : c < 16) (l : Nat) (hl : l < 16) (hfl : 0 < L 8 l ∧ L 8 l ≤ 3) (r : Nat) (hr : r < 16) (hfr : 0 < L 8 r ∧ L 8 r ≤ 3) (hl3 : ¬ L 8 l = 3) (hb : L 8 r = 3) : zCt G M_Ref_join (zR 3 0 0 70) [.ref C, .int (Int32.ofInt (c : Int)), .int (Int32.ofInt 2), .int (Int32.ofInt (l : Int)), .int (Int32.ofInt (r : Int))] sz (zqs G C th kd n t tu ch ke L w0) (zdet (some (.int (Int32.ofInt 0))) (zqs G C 3 kd n t tu ch ke L w0) sz) := by
  refine V_aload_n d_Ref_join_0 rfl ?_
  refine V_iload_n d_Ref_join_1 rfl ?_
  refine V_callS (n := 1) d_Ref_join_2 g_Ref_138 rfl (r_noCipher_n G _ _ c (by omega)) ⟨co_Ref_noCipher, by decide +kernel, Nat.le_of_ble_eq_true rfl⟩ ⟨Nat.le_of_ble_eq_true rfl, Nat.le_of_ble_eq_true rfl, Nat.le_of_ble_eq_true rfl, Nat.le_of_ble_eq_true rfl⟩ (Nat.le_of_ble_eq_true rfl) (fun r_2 w_2 s_2 q_2 => ?_) (fun _ _ _ q => False.elim q)
  obtain ⟨rfl, rfl, rfl⟩ := q_2
  refine J_if_ne 25 d_Ref_join_5 (by decide) (by decide) (fun c_5 => absurd rfl c_5) (fun c_5 => ?_)
  refine V_aload_n d_Ref_join_8 rfl ?_
  refine V_iload_n d_Ref_join_9 rfl ?_
  refine V_callV (n := 1) d_Ref_join_10 g_Ref_180 rfl zqs_o rfl (r_emptyI_n G _ C th kd n t tu ch ke L w0 l (by omega) hfl) ⟨co_Ref_empty_I, by decide +kernel, Nat.le_of_ble_eq_true rfl⟩ ⟨Nat.le_of_ble_eq_true rfl, Nat.le_of_ble_eq_true rfl, Nat.le_of_ble_eq_true rfl, Nat.le_of_ble_eq_true rfl⟩ (Nat.le_of_ble_eq_true rfl) (fun r_10 w_10 s_10 q_10 => ?_) (fun _ _ _ q => False.elim q)
  obtain ⟨rfl, rfl, rfl⟩ := q_10
  refine J_if_ne 25 d_Ref_join_13 (by decide) (by decide) (fun c_13 => absurd rfl c_13) (fun c_13 => ?_)
  refine V_aload_n d_Ref_join_16 rfl ?_
  refine V_iload d_Ref_join_17 rfl ?_
  refine V_callV (n := 1) d_Ref_join_19 g_Ref_180 rfl zqs_o rfl (r_emptyI_n G _ C th kd n t tu ch ke L w0 r (by omega) hfr) ⟨co_Ref_empty_I, by decide +kernel, Nat.le_of_ble_eq_true rfl⟩ ⟨Nat.le_of_ble_eq_true rfl, Nat.le_of_ble_eq_true rfl, Nat.le_of_ble_eq_true rfl, Nat.le_of_ble_eq_true rfl⟩ (Nat.le_of_ble_eq_true rfl) (fun r_19 w_19 s_19 q_19 => ?_) (fun _ _ _ q => False.elim q)
  obtain ⟨rfl, rfl, rfl⟩ := q_19
  refine J_if_eq 29 d_Ref_join_22 (by decide) (by decide) (fun c_22 => ?_) (fun c_22 => absurd rfl c_22)
  refine V_iload_n d_Ref_join_29 rfl ?_
  refine J_if_lt 38 d_Ref_join_30 (by decide) (by omega) (fun c_30 => absurd c_30 (by decide)) (fun c_30 => ?_)
  refine V_iload_n d_Ref_join_33 rfl ?_
  refine V_iconst d_Ref_join_34 ?_
  refine J_icmp_le 42 d_Ref_join_35 (by decide) (by omega) (by omega) (fun c_35 => ?_) (fun c_35 => absurd c_35 (by decide))
  refine V_iload_n d_Ref_join_42 rfl ?_
  refine V_iconst d_Ref_join_43 ?_
  refine J_icmp_ne 72 d_Ref_join_44 (by decide) (by omega) (by omega) (fun c_44 => absurd rfl c_44) (fun c_44 => ?_)
  refine V_aload_n d_Ref_join_47 rfl ?_
  refine V_getf d_Ref_join_48 ff_Ref_39 zqs_o rfl ?_
  refine V_iload_n d_Ref_join_51 rfl ?_
  refine J_iaload d_Ref_join_52 zqs_a8 (by omega) (by decide) ?_
  refine V_iconst d_Ref_join_53 ?_
  refine J_icmp_eq 68 d_Ref_join_54 (by decide) (by omega) (by omega) (fun c_54 => absurd c_54 hl3) (fun c_54 => ?_)
  refine V_aload_n d_Ref_join_57 rfl ?_
  refine V_getf d_Ref_join_58 ff_Ref_39 zqs_o rfl ?_
  refine V_iload d_Ref_join_61 rfl ?_
  refine J_iaload d_Ref_join_63 zqs_a8 (by omega) (by decide) ?_
  refine V_iconst d_Ref_join_64 ?_
  refine J_icmp_ne 72 d_Ref_join_65 (by decide) (by omega) (by omega) (fun c_65 => absurd hb c_65) (fun c_65 => ?_)
  refine V_iconst d_Ref_join_68 ?_
  refine V_goto 73 d_Ref_join_69 (by decide) ?_
  refine V_putf d_Ref_join_73 ff_Ref_69 zqs_o ⟨_, _, _, _, rfl, rfl, rfl, rfl, rfl⟩ (Nat.le_of_ble_eq_true rfl) ?_
  refine V_w (zqs_f (th' := 3) rfl) ?_
  refine V_aload_n d_Ref_join_76 rfl ?_
  refine V_getf d_Ref_join_77 ff_Ref_69 zqs_o rfl ?_
  refine J_if_le 85 d_Ref_join_80 (by decide) (by decide) (fun c_80 => absurd c_80 (by decide)) (fun c_80 => ?_)
  refine V_iconst d_Ref_join_83 ?_
  exact V_ireturn d_Ref_join_84 rfl ⟨Nat.le_of_ble_eq_true rfl, Nat.le_of_ble_eq_true rfl⟩ ⟨rfl, rfl, rfl⟩

set_option maxRecDepth 100000 in
set_option maxHeartbeats 4000000 in
theorem r_join_0 (G : zG) (sz C : Nat) (th kd n t tu : Int) (ch : Int32) (ke : Int) (L : Nat → Int → Int) (w0 : zW) (nn : Nat) (hnn : n = (nn : Int)) (hn : nn ≤ 32) (c : Nat) (hc : c < 16) (l : Nat) (hl : l < 16) (hfl : 0 < L 8 l ∧ L 8 l ≤ 3) (r : Nat) (hr : r < 16) (hfr : 0 < L 8 r ∧ L 8 r ≤ 3) (m : Nat) (hm : (if L 8 l < L 8 r then L 8 r else L 8 l) = (m : Int)) (hm3 : m ≤ 3) (hW : ∀ k : Nat, k < 3 → ∀ i : Nat, i < nn → -9223372036854775808 ≤ (zqJ nn l r 0 L 3) 15 (32 * (k : Int) + i) ∧ (zqJ nn l r 0 L 3) 15 (32 * (k : Int) + i) < 9223372036854775808) : zCt G M_Ref_join (zR 3 0 0 70) [.ref C, .int (Int32.ofInt (c : Int)), .int (Int32.ofInt 0), .int (Int32.ofInt (l : Int)), .int (Int32.ofInt (r : Int))] sz (zqs G C th kd n t tu ch ke L w0) (zdet (some (.int (Int32.ofInt (m : Int)))) (zqs G C 0 kd n t tu ch ke (zqb nn c (zlu (zqJ nn l r 0 L 3) 8 (zu ((zqJ nn l r 0 L 3) 8) c m)) 3) w0) sz) := by
  subst hnn
  refine V_aload_n d_Ref_join_0 rfl ?_
  refine V_iload_n d_Ref_join_1 rfl ?_
  refine V_callS (n := 1) d_Ref_join_2 g_Ref_138 rfl (r_noCipher_n G _ _ c (by omega)) ⟨co_Ref_noCipher, by decide +kernel, Nat.le_of_ble_eq_true rfl⟩ ⟨Nat.le_of_ble_eq_true rfl, Nat.le_of_ble_eq_true rfl, Nat.le_of_ble_eq_true rfl, Nat.le_of_ble_eq_true rfl⟩ (Nat.le_of_ble_eq_true rfl) (fun r_2 w_2 s_2 q_2 => ?_) (fun _ _ _ q => False.elim q)
  obtain ⟨rfl, rfl, rfl⟩ := q_2
  refine J_if_ne 25 d_Ref_join_5 (by decide) (by decide) (fun c_5 => absurd rfl c_5) (fun c_5 => ?_)
  refine V_aload_n d_Ref_join_8 rfl ?_
  refine V_iload_n d_Ref_join_9 rfl ?_
  refine V_callV (n := 1) d_Ref_join_10 g_Ref_180 rfl zqs_o rfl (r_emptyI_n G _ C th kd nn t tu ch ke L w0 l (by omega) hfl) ⟨co_Ref_empty_I, by decide +kernel, Nat.le_of_ble_eq_true rfl⟩ ⟨Nat.le_of_ble_eq_true rfl, Nat.le_of_ble_eq_true rfl, Nat.le_of_ble_eq_true rfl, Nat.le_of_ble_eq_true rfl⟩ (Nat.le_of_ble_eq_true rfl) (fun r_10 w_10 s_10 q_10 => ?_) (fun _ _ _ q => False.elim q)
  obtain ⟨rfl, rfl, rfl⟩ := q_10
  refine J_if_ne 25 d_Ref_join_13 (by decide) (by decide) (fun c_13 => absurd rfl c_13) (fun c_13 => ?_)
  refine V_aload_n d_Ref_join_16 rfl ?_
  refine V_iload d_Ref_join_17 rfl ?_
  refine V_callV (n := 1) d_Ref_join_19 g_Ref_180 rfl zqs_o rfl (r_emptyI_n G _ C th kd nn t tu ch ke L w0 r (by omega) hfr) ⟨co_Ref_empty_I, by decide +kernel, Nat.le_of_ble_eq_true rfl⟩ ⟨Nat.le_of_ble_eq_true rfl, Nat.le_of_ble_eq_true rfl, Nat.le_of_ble_eq_true rfl, Nat.le_of_ble_eq_true rfl⟩ (Nat.le_of_ble_eq_true rfl) (fun r_19 w_19 s_19 q_19 => ?_) (fun _ _ _ q => False.elim q)
  obtain ⟨rfl, rfl, rfl⟩ := q_19
  refine J_if_eq 29 d_Ref_join_22 (by decide) (by decide) (fun c_22 => ?_) (fun c_22 => absurd rfl c_22)
  refine V_iload_n d_Ref_join_29 rfl ?_
  refine J_if_lt 38 d_Ref_join_30 (by decide) (by omega) (fun c_30 => absurd c_30 (by decide)) (fun c_30 => ?_)
  refine V_iload_n d_Ref_join_33 rfl ?_
  refine V_iconst d_Ref_join_34 ?_
  refine J_icmp_le 42 d_Ref_join_35 (by decide) (by omega) (by omega) (fun c_35 => ?_) (fun c_35 => absurd c_35 (by decide))
  refine V_iload_n d_Ref_join_42 rfl ?_
  refine V_iconst d_Ref_join_43 ?_
  refine J_icmp_ne 72 d_Ref_join_44 (by decide) (by omega) (by omega) (fun c_44 => ?_) (fun c_44 => absurd c_44 (by decide))
  refine V_iconst d_Ref_join_72 ?_
  refine V_putf d_Ref_join_73 ff_Ref_69 zqs_o ⟨_, _, _, _, rfl, rfl, rfl, rfl, rfl⟩ (Nat.le_of_ble_eq_true rfl) ?_
  refine V_w (zqs_f (th' := 0) rfl) ?_
  refine V_aload_n d_Ref_join_76 rfl ?_
  refine V_getf d_Ref_join_77 ff_Ref_69 zqs_o rfl ?_
  refine J_if_le 85 d_Ref_join_80 (by decide) (by decide) (fun c_80 => ?_) (fun c_80 => absurd c_80 (by decide))
  refine V_iload_n d_Ref_join_85 rfl ?_
  refine V_iconst d_Ref_join_86 ?_
  refine J_icmp_ne 94 d_Ref_join_87 (by decide) (by omega) (by omega) (fun c_87 => ?_) (fun c_87 => absurd c_87 (by decide))
  refine V_aload_n d_Ref_join_94 rfl ?_
  refine V_getf d_Ref_join_95 ff_Ref_39 zqs_o rfl ?_
  refine V_iload_n d_Ref_join_98 rfl ?_
  refine J_iaload d_Ref_join_99 zqs_a8 (by omega) (by decide) ?_
  refine V_aload_n d_Ref_join_100 rfl ?_
  refine V_getf d_Ref_join_101 ff_Ref_39 zqs_o rfl ?_
  refine V_iload d_Ref_join_104 rfl ?_
  refine J_iaload d_Ref_join_106 zqs_a8 (by omega) (by decide) ?_
  refine V_callS (n := 2) d_Ref_join_107 g_Ref_185 rfl (c_maxI G _ _ (L 8 l) (L 8 r) (by omega) (by omega)) ⟨co_Math_max_II, by decide +kernel, Nat.le_of_ble_eq_true rfl⟩ ⟨Nat.le_of_ble_eq_true rfl, Nat.le_of_ble_eq_true rfl, Nat.le_of_ble_eq_true rfl, Nat.le_of_ble_eq_true rfl⟩ (Nat.le_of_ble_eq_true rfl) (fun r_107 w_107 s_107 q_107 => ?_) (fun _ _ _ q => False.elim q)
  obtain ⟨rfl, rfl, rfl⟩ := q_107
  rw [hm]
  refine V_istore d_Ref_join_110 (by decide) ?_
  refine V_iconst d_Ref_join_112 ?_
  refine V_istore d_Ref_join_113 (by decide) ?_
  have stk : ∀ k : Nat, k < 3 → (fun k : Nat => V G M_Ref_join (zdet (some (.int (Int32.ofInt (m : Int)))) (zqs G C 0 kd nn t tu ch ke (zqb nn c (zlu (zqJ nn l r 0 L 3) 8 (zu ((zqJ nn l r 0 L 3) 8) c m)) 3) w0) sz) (zR 3 0 0 70) 0 0 sz 115 [(0, .ref C), (1, .int (Int32.ofInt (c : Int))), (2, .int (Int32.ofInt 0)), (3, .int (Int32.ofInt (l : Int))), (4, .int (Int32.ofInt (r : Int))), (5, .int (Int32.ofInt (m : Int))), (6, .int (Int32.ofInt (k : Int)))] [] (zqs G C 0 kd nn t tu ch ke (zqJ nn l r 0 L k) w0)) (k + 1) → (fun k : Nat => V G M_Ref_join (zdet (some (.int (Int32.ofInt (m : Int)))) (zqs G C 0 kd nn t tu ch ke (zqb nn c (zlu (zqJ nn l r 0 L 3) 8 (zu ((zqJ nn l r 0 L 3) 8) c m)) 3) w0) sz) (zR 3 0 0 70) 0 0 sz 115 [(0, .ref C), (1, .int (Int32.ofInt (c : Int))), (2, .int (Int32.ofInt 0)), (3, .int (Int32.ofInt (l : Int))), (4, .int (Int32.ofInt (r : Int))), (5, .int (Int32.ofInt (m : Int))), (6, .int (Int32.ofInt (k : Int)))] [] (zqs G C 0 kd nn t tu ch ke (zqJ nn l r 0 L k) w0)) k := by
    intro k hk ih
    have x8 : (zqJ nn l r 0 L k) 8 = L 8 := zqJ_o (by decide) k
    refine V_iload d_Ref_join_115 rfl ?_
    refine V_iconst d_Ref_join_117 ?_
    refine J_icmp_ge 432 d_Ref_join_118 (by decide) (by omega) (by omega) (fun c_118 => absurd c_118 (by omega)) (fun c_118 => ?_)
    refine V_iconst d_Ref_join_121 ?_
    refine V_istore d_Ref_join_122 (by decide) ?_
    refine V_w (w' := (zqs G C 0 kd nn t tu ch ke (zlu (zqJ nn l r 0 L k) 12 (zif ((0 : Nat) : Int) (fun _ => 0) ((zqJ nn l r 0 L k) 12))) w0)) (by rw [show ((0 : Nat) : Int) = 0 from rfl, zif_0, zlu_self] <;> rfl) ?_
    have st_124 : ∀ i : Nat, i < nn → (fun i : Nat => V G M_Ref_join (zdet (some (.int (Int32.ofInt (m : Int)))) (zqs G C 0 kd nn t tu ch ke (zqb nn c (zlu (zqJ nn l r 0 L 3) 8 (zu ((zqJ nn l r 0 L 3) 8) c m)) 3) w0) sz) (zR 3 0 0 70) 0 0 sz 124 [(0, .ref C), (1, .int (Int32.ofInt (c : Int))), (2, .int (Int32.ofInt 0)), (3, .int (Int32.ofInt (l : Int))), (4, .int (Int32.ofInt (r : Int))), (5, .int (Int32.ofInt (m : Int))), (6, .int (Int32.ofInt (k : Int))), (7, .int (Int32.ofInt (i : Int)))] [] (zqs G C 0 kd nn t tu ch ke (zlu (zqJ nn l r 0 L k) 12 (zif (i : Int) (fun _ => 0) ((zqJ nn l r 0 L k) 12))) w0)) (i + 1) → (fun i : Nat => V G M_Ref_join (zdet (some (.int (Int32.ofInt (m : Int)))) (zqs G C 0 kd nn t tu ch ke (zqb nn c (zlu (zqJ nn l r 0 L 3) 8 (zu ((zqJ nn l r 0 L 3) 8) c m)) 3) w0) sz) (zR 3 0 0 70) 0 0 sz 124 [(0, .ref C), (1, .int (Int32.ofInt (c : Int))), (2, .int (Int32.ofInt 0)), (3, .int (Int32.ofInt (l : Int))), (4, .int (Int32.ofInt (r : Int))), (5, .int (Int32.ofInt (m : Int))), (6, .int (Int32.ofInt (k : Int))), (7, .int (Int32.ofInt (i : Int)))] [] (zqs G C 0 kd nn t tu ch ke (zlu (zqJ nn l r 0 L k) 12 (zif (i : Int) (fun _ => 0) ((zqJ nn l r 0 L k) 12))) w0)) i := by
      intro i hi ih
      refine V_iload d_Ref_join_124 rfl ?_
      refine V_aload_n d_Ref_join_126 rfl ?_
      refine V_getf d_Ref_join_127 ff_Ref_7 zqs_o rfl ?_
      refine J_icmp_ge 147 d_Ref_join_130 (by decide) (by omega) (by omega) (fun c_130 => absurd c_130 (by omega)) (fun c_130 => ?_)
      refine V_aload_n d_Ref_join_133 rfl ?_
      refine V_getf d_Ref_join_134 ff_Ref_51 zqs_o rfl ?_
      refine V_iload d_Ref_join_137 rfl ?_
      refine J_lconst (z := 0) d_Ref_join_139 rfl ?_
      refine J_lastore d_Ref_join_140 (zqs_r (j := 12) (by unfold zqi; decide)) (by omega) (by decide) ?_
      refine J_iinc d_Ref_join_141 rfl (by decide) ?_
      refine V_goto 124 d_Ref_join_144 (by decide) ?_
      exact V_w (by rw [zqs_lu (by unfold zqi; decide), zlu_s, zif_s (by omega) rfl, zlu_lu] <;> rfl) ih
    refine zfor nn (fun i : Nat => V G M_Ref_join (zdet (some (.int (Int32.ofInt (m : Int)))) (zqs G C 0 kd nn t tu ch ke (zqb nn c (zlu (zqJ nn l r 0 L 3) 8 (zu ((zqJ nn l r 0 L 3) 8) c m)) 3) w0) sz) (zR 3 0 0 70) 0 0 sz 124 [(0, .ref C), (1, .int (Int32.ofInt (c : Int))), (2, .int (Int32.ofInt 0)), (3, .int (Int32.ofInt (l : Int))), (4, .int (Int32.ofInt (r : Int))), (5, .int (Int32.ofInt (m : Int))), (6, .int (Int32.ofInt (k : Int))), (7, .int (Int32.ofInt (i : Int)))] [] (zqs G C 0 kd nn t tu ch ke (zlu (zqJ nn l r 0 L k) 12 (zif (i : Int) (fun _ => 0) ((zqJ nn l r 0 L k) 12))) w0)) ?_ st_124 0 (Nat.zero_le nn)
    refine V_iload d_Ref_join_124 rfl ?_
    refine V_aload_n d_Ref_join_126 rfl ?_
    refine V_getf d_Ref_join_127 ff_Ref_7 zqs_o rfl ?_
    refine J_icmp_ge 147 d_Ref_join_130 (by decide) (by omega) (by omega) (fun c_130 => ?_) (fun c_130 => absurd c_130 (by omega))
    refine V_iload_n d_Ref_join_147 rfl ?_
    refine V_iconst d_Ref_join_148 ?_
    refine J_icmp_ge 240 d_Ref_join_149 (by decide) (by decide) (by decide) (fun c_149 => absurd c_149 (by decide)) (fun c_149 => ?_)
    refine V_aload_n d_Ref_join_152 rfl ?_
    refine V_iload_n d_Ref_join_153 rfl ?_
    refine V_iload d_Ref_join_154 rfl ?_
    refine V_aload_n d_Ref_join_156 rfl ?_
    refine V_getf d_Ref_join_157 ff_Ref_45 zqs_o rfl ?_
    refine V_callV (n := 3) d_Ref_join_160 g_Ref_159 rfl zqs_o rfl (r_take G _ C 0 kd nn t tu ch ke (zqZ nn (zqJ nn l r 0 L k)) w0 nn rfl hn l k 10 hl (by omega) (by unfold zqi; decide) (by show _ ≤ (zqJ nn l r 0 L k) 8 _ ∧ (zqJ nn l r 0 L k) 8 _ < _; rw [x8]; omega)) ⟨co_Ref_take, by decide +kernel, Nat.le_of_ble_eq_true rfl⟩ ⟨Nat.le_of_ble_eq_true rfl, Nat.le_of_ble_eq_true rfl, Nat.le_of_ble_eq_true rfl, Nat.le_of_ble_eq_true rfl⟩ (Nat.le_of_ble_eq_true rfl) (fun r_160 w_160 s_160 q_160 => ?_) (fun _ _ _ q => False.elim q)
    obtain ⟨rfl, rfl, rfl⟩ := q_160
    refine V_aload_n d_Ref_join_163 rfl ?_
    refine V_iload d_Ref_join_164 rfl ?_
    refine V_iload d_Ref_join_166 rfl ?_
    refine V_aload_n d_Ref_join_168 rfl ?_
    refine V_getf d_Ref_join_169 ff_Ref_48 zqs_o rfl ?_
    refine V_callV (n := 3) d_Ref_join_172 g_Ref_159 rfl zqs_o rfl (r_take G _ C 0 kd nn t tu ch ke (zqTk nn l k 10 (zqZ nn (zqJ nn l r 0 L k))) w0 nn rfl hn r k 11 hr (by omega) (by unfold zqi; decide) (by show _ ≤ (zqJ nn l r 0 L k) 8 _ ∧ (zqJ nn l r 0 L k) 8 _ < _; rw [x8]; omega)) ⟨co_Ref_take, by decide +kernel, Nat.le_of_ble_eq_true rfl⟩ ⟨Nat.le_of_ble_eq_true rfl, Nat.le_of_ble_eq_true rfl, Nat.le_of_ble_eq_true rfl, Nat.le_of_ble_eq_true rfl⟩ (Nat.le_of_ble_eq_true rfl) (fun r_172 w_172 s_172 q_172 => ?_) (fun _ _ _ q => False.elim q)
    obtain ⟨rfl, rfl, rfl⟩ := q_172
    refine V_iconst d_Ref_join_175 ?_
    refine V_istore d_Ref_join_176 (by decide) ?_
    refine V_lo [0, 1, 2, 3, 4, 5, 6, 7] rfl ?_
    refine V_w (w' := (zqs G C 0 kd nn t tu ch ke (zlu (zqj1 nn l r k (zqJ nn l r 0 L k)) 12 (zif ((0 : Nat) : Int) (zqjF 0 (zqj1 nn l r k (zqJ nn l r 0 L k))) ((zqj1 nn l r k (zqJ nn l r 0 L k)) 12))) w0)) (by rw [show ((0 : Nat) : Int) = 0 from rfl, zif_0, zlu_self] <;> rfl) ?_
    have st_178 : ∀ i : Nat, i < nn → (fun i : Nat => V G M_Ref_join (zdet (some (.int (Int32.ofInt (m : Int)))) (zqs G C 0 kd nn t tu ch ke (zqb nn c (zlu (zqJ nn l r 0 L 3) 8 (zu ((zqJ nn l r 0 L 3) 8) c m)) 3) w0) sz) (zR 3 0 0 70) 0 0 sz 178 [(0, .ref C), (1, .int (Int32.ofInt (c : Int))), (2, .int (Int32.ofInt 0)), (3, .int (Int32.ofInt (l : Int))), (4, .int (Int32.ofInt (r : Int))), (5, .int (Int32.ofInt (m : Int))), (6, .int (Int32.ofInt (k : Int))), (7, .int (Int32.ofInt (i : Int)))] [] (zqs G C 0 kd nn t tu ch ke (zlu (zqj1 nn l r k (zqJ nn l r 0 L k)) 12 (zif (i : Int) (zqjF 0 (zqj1 nn l r k (zqJ nn l r 0 L k))) ((zqj1 nn l r k (zqJ nn l r 0 L k)) 12))) w0)) (i + 1) → (fun i : Nat => V G M_Ref_join (zdet (some (.int (Int32.ofInt (m : Int)))) (zqs G C 0 kd nn t tu ch ke (zqb nn c (zlu (zqJ nn l r 0 L 3) 8 (zu ((zqJ nn l r 0 L 3) 8) c m)) 3) w0) sz) (zR 3 0 0 70) 0 0 sz 178 [(0, .ref C), (1, .int (Int32.ofInt (c : Int))), (2, .int (Int32.ofInt 0)), (3, .int (Int32.ofInt (l : Int))), (4, .int (Int32.ofInt (r : Int))), (5, .int (Int32.ofInt (m : Int))), (6, .int (Int32.ofInt (k : Int))), (7, .int (Int32.ofInt (i : Int)))] [] (zqs G C 0 kd nn t tu ch ke (zlu (zqj1 nn l r k (zqJ nn l r 0 L k)) 12 (zif (i : Int) (zqjF 0 (zqj1 nn l r k (zqJ nn l r 0 L k))) ((zqj1 nn l r k (zqJ nn l r 0 L k)) 12))) w0)) i := by
      intro i hi ih
      have hFi : (zqj1 nn l r k (zqJ nn l r 0 L k)) 10 i + (zqj1 nn l r k (zqJ nn l r 0 L k)) 11 i = zqjF 0 (zqj1 nn l r k (zqJ nn l r 0 L k)) i := rfl
      refine V_iload d_Ref_join_178 rfl ?_
      refine V_aload_n d_Ref_join_180 rfl ?_
      refine V_getf d_Ref_join_181 ff_Ref_7 zqs_o rfl ?_
      refine J_icmp_ge 237 d_Ref_join_184 (by decide) (by omega) (by omega) (fun c_184 => absurd c_184 (by omega)) (fun c_184 => ?_)
      refine V_aload_n d_Ref_join_187 rfl ?_
      refine V_getf d_Ref_join_188 ff_Ref_51 zqs_o rfl ?_
      refine V_iload d_Ref_join_191 rfl ?_
      refine V_iload_n d_Ref_join_193 rfl ?_
      refine J_if_ne 215 d_Ref_join_194 (by decide) (by decide) (fun c_194 => absurd rfl c_194) (fun c_194 => ?_)
      refine V_aload_n d_Ref_join_197 rfl ?_
      refine V_getf d_Ref_join_198 ff_Ref_45 zqs_o rfl ?_
      refine V_iload d_Ref_join_201 rfl ?_
      refine J_laload d_Ref_join_203 (zqs_r (j := 10) (by unfold zqi; decide)) (by omega) (by decide) ?_
      rw [zlu_n (show 10 ≠ 12 by decide)]
      refine V_aload_n d_Ref_join_204 rfl ?_
      refine V_getf d_Ref_join_205 ff_Ref_48 zqs_o rfl ?_
      refine V_iload d_Ref_join_208 rfl ?_
      refine J_laload d_Ref_join_210 (zqs_r (j := 11) (by unfold zqi; decide)) (by omega) (by decide) ?_
      rw [zlu_n (show 11 ≠ 12 by decide)]
      refine J_ladd d_Ref_join_211 ?_
      refine V_goto 230 d_Ref_join_212 (by decide) ?_
      refine J_lastore d_Ref_join_230 (zqs_r (j := 12) (by unfold zqi; decide)) (by omega) (by decide) ?_
      refine J_iinc d_Ref_join_231 rfl (by decide) ?_
      refine V_goto 178 d_Ref_join_234 (by decide) ?_
      exact V_w (by rw [zqs_lu (by unfold zqi; decide), zlu_s, zif_s (by omega) hFi, zlu_lu] <;> rfl) ih
    refine zfor nn (fun i : Nat => V G M_Ref_join (zdet (some (.int (Int32.ofInt (m : Int)))) (zqs G C 0 kd nn t tu ch ke (zqb nn c (zlu (zqJ nn l r 0 L 3) 8 (zu ((zqJ nn l r 0 L 3) 8) c m)) 3) w0) sz) (zR 3 0 0 70) 0 0 sz 178 [(0, .ref C), (1, .int (Int32.ofInt (c : Int))), (2, .int (Int32.ofInt 0)), (3, .int (Int32.ofInt (l : Int))), (4, .int (Int32.ofInt (r : Int))), (5, .int (Int32.ofInt (m : Int))), (6, .int (Int32.ofInt (k : Int))), (7, .int (Int32.ofInt (i : Int)))] [] (zqs G C 0 kd nn t tu ch ke (zlu (zqj1 nn l r k (zqJ nn l r 0 L k)) 12 (zif (i : Int) (zqjF 0 (zqj1 nn l r k (zqJ nn l r 0 L k))) ((zqj1 nn l r k (zqJ nn l r 0 L k)) 12))) w0)) ?_ st_178 0 (Nat.zero_le nn)
    refine V_iload d_Ref_join_178 rfl ?_
    refine V_aload_n d_Ref_join_180 rfl ?_
    refine V_getf d_Ref_join_181 ff_Ref_7 zqs_o rfl ?_
    refine J_icmp_ge 237 d_Ref_join_184 (by decide) (by omega) (by omega) (fun c_184 => ?_) (fun c_184 => absurd c_184 (by omega))
    refine V_goto 388 d_Ref_join_237 (by decide) ?_
    refine V_iconst d_Ref_join_388 ?_
    refine V_istore d_Ref_join_389 (by decide) ?_
    refine V_w (w' := (zqs G C 0 kd nn t tu ch ke (zlu (zqj2 nn 0 (zqj1 nn l r k (zqJ nn l r 0 L k))) 15 (zsf (32 * (k : Int)) (((0 : Nat) : Int) : Int) ((zqj2 nn 0 (zqj1 nn l r k (zqJ nn l r 0 L k))) 12) ((zqj2 nn 0 (zqj1 nn l r k (zqJ nn l r 0 L k))) 15))) w0)) (by rw [show ((0 : Nat) : Int) = 0 from rfl, zsf_0, zlu_self] <;> rfl) ?_
    have st_391 : ∀ i : Nat, i < nn → (fun i : Nat => V G M_Ref_join (zdet (some (.int (Int32.ofInt (m : Int)))) (zqs G C 0 kd nn t tu ch ke (zqb nn c (zlu (zqJ nn l r 0 L 3) 8 (zu ((zqJ nn l r 0 L 3) 8) c m)) 3) w0) sz) (zR 3 0 0 70) 0 0 sz 391 [(0, .ref C), (1, .int (Int32.ofInt (c : Int))), (2, .int (Int32.ofInt 0)), (3, .int (Int32.ofInt (l : Int))), (4, .int (Int32.ofInt (r : Int))), (5, .int (Int32.ofInt (m : Int))), (6, .int (Int32.ofInt (k : Int))), (7, .int (Int32.ofInt (i : Int)))] [] (zqs G C 0 kd nn t tu ch ke (zlu (zqj2 nn 0 (zqj1 nn l r k (zqJ nn l r 0 L k))) 15 (zsf (32 * (k : Int)) (i : Int) ((zqj2 nn 0 (zqj1 nn l r k (zqJ nn l r 0 L k))) 12) ((zqj2 nn 0 (zqj1 nn l r k (zqJ nn l r 0 L k))) 15))) w0)) (i + 1) → (fun i : Nat => V G M_Ref_join (zdet (some (.int (Int32.ofInt (m : Int)))) (zqs G C 0 kd nn t tu ch ke (zqb nn c (zlu (zqJ nn l r 0 L 3) 8 (zu ((zqJ nn l r 0 L 3) 8) c m)) 3) w0) sz) (zR 3 0 0 70) 0 0 sz 391 [(0, .ref C), (1, .int (Int32.ofInt (c : Int))), (2, .int (Int32.ofInt 0)), (3, .int (Int32.ofInt (l : Int))), (4, .int (Int32.ofInt (r : Int))), (5, .int (Int32.ofInt (m : Int))), (6, .int (Int32.ofInt (k : Int))), (7, .int (Int32.ofInt (i : Int)))] [] (zqs G C 0 kd nn t tu ch ke (zlu (zqj2 nn 0 (zqj1 nn l r k (zqJ nn l r 0 L k))) 15 (zsf (32 * (k : Int)) (i : Int) ((zqj2 nn 0 (zqj1 nn l r k (zqJ nn l r 0 L k))) 12) ((zqj2 nn 0 (zqj1 nn l r k (zqJ nn l r 0 L k))) 15))) w0)) i := by
      intro i hi ih2
      refine V_iload d_Ref_join_391 rfl ?_
      refine V_aload_n d_Ref_join_393 rfl ?_
      refine V_getf d_Ref_join_394 ff_Ref_7 zqs_o rfl ?_
      refine J_icmp_ge 426 d_Ref_join_397 (by decide) (by omega) (by omega) (fun c_397 => absurd c_397 (by omega)) (fun c_397 => ?_)
      refine V_aload_n d_Ref_join_400 rfl ?_
      refine V_getf d_Ref_join_401 ff_Ref_60 zqs_o rfl ?_
      refine J_bipush d_Ref_join_404 (by decide) ?_
      refine V_iload d_Ref_join_406 rfl ?_
      refine J_imul d_Ref_join_408 ?_
      refine V_iload d_Ref_join_409 rfl ?_
      refine J_iadd d_Ref_join_411 ?_
      refine V_aload_n d_Ref_join_412 rfl ?_
      refine V_getf d_Ref_join_413 ff_Ref_51 zqs_o rfl ?_
      refine V_iload d_Ref_join_416 rfl ?_
      refine J_laload d_Ref_join_418 (zqs_r (j := 12) (by unfold zqi; decide)) (by omega) (by decide) ?_
      rw [zlu_n (show 12 ≠ 15 by decide)]
      refine J_lastore d_Ref_join_419 zqs_a15 (by omega) (by decide) ?_
      refine J_iinc d_Ref_join_420 rfl (by decide) ?_
      refine V_goto 391 d_Ref_join_423 (by decide) ?_
      exact V_w (by rw [zqs_u15, zlu_s, zsf_s (by omega) rfl, zlu_lu] <;> rfl) ih2
    refine zfor nn (fun i : Nat => V G M_Ref_join (zdet (some (.int (Int32.ofInt (m : Int)))) (zqs G C 0 kd nn t tu ch ke (zqb nn c (zlu (zqJ nn l r 0 L 3) 8 (zu ((zqJ nn l r 0 L 3) 8) c m)) 3) w0) sz) (zR 3 0 0 70) 0 0 sz 391 [(0, .ref C), (1, .int (Int32.ofInt (c : Int))), (2, .int (Int32.ofInt 0)), (3, .int (Int32.ofInt (l : Int))), (4, .int (Int32.ofInt (r : Int))), (5, .int (Int32.ofInt (m : Int))), (6, .int (Int32.ofInt (k : Int))), (7, .int (Int32.ofInt (i : Int)))] [] (zqs G C 0 kd nn t tu ch ke (zlu (zqj2 nn 0 (zqj1 nn l r k (zqJ nn l r 0 L k))) 15 (zsf (32 * (k : Int)) (i : Int) ((zqj2 nn 0 (zqj1 nn l r k (zqJ nn l r 0 L k))) 12) ((zqj2 nn 0 (zqj1 nn l r k (zqJ nn l r 0 L k))) 15))) w0)) ?_ st_391 0 (Nat.zero_le nn)
    refine V_iload d_Ref_join_391 rfl ?_
    refine V_aload_n d_Ref_join_393 rfl ?_
    refine V_getf d_Ref_join_394 ff_Ref_7 zqs_o rfl ?_
    refine J_icmp_ge 426 d_Ref_join_397 (by decide) (by omega) (by omega) (fun c_397 => ?_) (fun c_397 => absurd c_397 (by omega))
    refine J_iinc d_Ref_join_426 rfl (by decide) ?_
    refine V_goto 115 d_Ref_join_429 (by decide) ?_
    exact V_lo [0, 1, 2, 3, 4, 5, 6] rfl ih
  refine zfor 3 (fun k : Nat => V G M_Ref_join (zdet (some (.int (Int32.ofInt (m : Int)))) (zqs G C 0 kd nn t tu ch ke (zqb nn c (zlu (zqJ nn l r 0 L 3) 8 (zu ((zqJ nn l r 0 L 3) 8) c m)) 3) w0) sz) (zR 3 0 0 70) 0 0 sz 115 [(0, .ref C), (1, .int (Int32.ofInt (c : Int))), (2, .int (Int32.ofInt 0)), (3, .int (Int32.ofInt (l : Int))), (4, .int (Int32.ofInt (r : Int))), (5, .int (Int32.ofInt (m : Int))), (6, .int (Int32.ofInt (k : Int)))] [] (zqs G C 0 kd nn t tu ch ke (zqJ nn l r 0 L k) w0)) ?_ stk 0 (Nat.zero_le 3)
  refine V_iload d_Ref_join_115 rfl ?_
  refine V_iconst d_Ref_join_117 ?_
  refine J_icmp_ge 432 d_Ref_join_118 (by decide) (by omega) (by omega) (fun c_118 => ?_) (fun c_118 => absurd c_118 (by omega))
  refine V_aload_n d_Ref_join_432 rfl ?_
  refine V_getf d_Ref_join_433 ff_Ref_39 zqs_o rfl ?_
  refine V_iload_n d_Ref_join_436 rfl ?_
  refine V_iload d_Ref_join_437 rfl ?_
  refine J_iastore d_Ref_join_439 zqs_a8 (by omega) (by decide) ?_
  refine V_w zqs_u8 ?_
  refine V_iconst d_Ref_join_440 ?_
  refine V_istore d_Ref_join_441 (by decide) ?_
  refine V_lo [0, 1, 2, 3, 4, 5, 6] rfl ?_
  have stb : ∀ k : Nat, k < 3 → (fun k : Nat => V G M_Ref_join (zdet (some (.int (Int32.ofInt (m : Int)))) (zqs G C 0 kd nn t tu ch ke (zqb nn c (zlu (zqJ nn l r 0 L 3) 8 (zu ((zqJ nn l r 0 L 3) 8) c m)) 3) w0) sz) (zR 3 0 0 70) 0 0 sz 443 [(0, .ref C), (1, .int (Int32.ofInt (c : Int))), (2, .int (Int32.ofInt 0)), (3, .int (Int32.ofInt (l : Int))), (4, .int (Int32.ofInt (r : Int))), (5, .int (Int32.ofInt (m : Int))), (6, .int (Int32.ofInt (k : Int)))] [] (zqs G C 0 kd nn t tu ch ke (zqb nn c (zlu (zqJ nn l r 0 L 3) 8 (zu ((zqJ nn l r 0 L 3) 8) c m)) k) w0)) (k + 1) → (fun k : Nat => V G M_Ref_join (zdet (some (.int (Int32.ofInt (m : Int)))) (zqs G C 0 kd nn t tu ch ke (zqb nn c (zlu (zqJ nn l r 0 L 3) 8 (zu ((zqJ nn l r 0 L 3) 8) c m)) 3) w0) sz) (zR 3 0 0 70) 0 0 sz 443 [(0, .ref C), (1, .int (Int32.ofInt (c : Int))), (2, .int (Int32.ofInt 0)), (3, .int (Int32.ofInt (l : Int))), (4, .int (Int32.ofInt (r : Int))), (5, .int (Int32.ofInt (m : Int))), (6, .int (Int32.ofInt (k : Int)))] [] (zqs G C 0 kd nn t tu ch ke (zqb nn c (zlu (zqJ nn l r 0 L 3) 8 (zu ((zqJ nn l r 0 L 3) 8) c m)) k) w0)) k := by
    intro k hk ih
    have b15 : (zqb nn c (zlu (zqJ nn l r 0 L 3) 8 (zu ((zqJ nn l r 0 L 3) 8) c m)) k) 15 = (zqJ nn l r 0 L 3) 15 := zqb_o (by decide) k
    refine V_iload d_Ref_join_443 rfl ?_
    refine V_iconst d_Ref_join_445 ?_
    refine J_icmp_ge 504 d_Ref_join_446 (by decide) (by omega) (by omega) (fun c_446 => absurd c_446 (by omega)) (fun c_446 => ?_)
    refine V_iconst d_Ref_join_449 ?_
    refine V_istore d_Ref_join_450 (by decide) ?_
    refine V_w (w' := (zqs G C 0 kd nn t tu ch ke (zlu (zqb nn c (zlu (zqJ nn l r 0 L 3) 8 (zu ((zqJ nn l r 0 L 3) 8) c m)) k) 12 (zif ((0 : Nat) : Int) (fun i => (zqb nn c (zlu (zqJ nn l r 0 L 3) 8 (zu ((zqJ nn l r 0 L 3) 8) c m)) k) 15 (32 * (k : Int) + i)) ((zqb nn c (zlu (zqJ nn l r 0 L 3) 8 (zu ((zqJ nn l r 0 L 3) 8) c m)) k) 12))) w0)) (by rw [show ((0 : Nat) : Int) = 0 from rfl, zif_0, zlu_self] <;> rfl) ?_
    have st_452 : ∀ i : Nat, i < nn → (fun i : Nat => V G M_Ref_join (zdet (some (.int (Int32.ofInt (m : Int)))) (zqs G C 0 kd nn t tu ch ke (zqb nn c (zlu (zqJ nn l r 0 L 3) 8 (zu ((zqJ nn l r 0 L 3) 8) c m)) 3) w0) sz) (zR 3 0 0 70) 0 0 sz 452 [(0, .ref C), (1, .int (Int32.ofInt (c : Int))), (2, .int (Int32.ofInt 0)), (3, .int (Int32.ofInt (l : Int))), (4, .int (Int32.ofInt (r : Int))), (5, .int (Int32.ofInt (m : Int))), (6, .int (Int32.ofInt (k : Int))), (7, .int (Int32.ofInt (i : Int)))] [] (zqs G C 0 kd nn t tu ch ke (zlu (zqb nn c (zlu (zqJ nn l r 0 L 3) 8 (zu ((zqJ nn l r 0 L 3) 8) c m)) k) 12 (zif (i : Int) (fun i => (zqb nn c (zlu (zqJ nn l r 0 L 3) 8 (zu ((zqJ nn l r 0 L 3) 8) c m)) k) 15 (32 * (k : Int) + i)) ((zqb nn c (zlu (zqJ nn l r 0 L 3) 8 (zu ((zqJ nn l r 0 L 3) 8) c m)) k) 12))) w0)) (i + 1) → (fun i : Nat => V G M_Ref_join (zdet (some (.int (Int32.ofInt (m : Int)))) (zqs G C 0 kd nn t tu ch ke (zqb nn c (zlu (zqJ nn l r 0 L 3) 8 (zu ((zqJ nn l r 0 L 3) 8) c m)) 3) w0) sz) (zR 3 0 0 70) 0 0 sz 452 [(0, .ref C), (1, .int (Int32.ofInt (c : Int))), (2, .int (Int32.ofInt 0)), (3, .int (Int32.ofInt (l : Int))), (4, .int (Int32.ofInt (r : Int))), (5, .int (Int32.ofInt (m : Int))), (6, .int (Int32.ofInt (k : Int))), (7, .int (Int32.ofInt (i : Int)))] [] (zqs G C 0 kd nn t tu ch ke (zlu (zqb nn c (zlu (zqJ nn l r 0 L 3) 8 (zu ((zqJ nn l r 0 L 3) 8) c m)) k) 12 (zif (i : Int) (fun i => (zqb nn c (zlu (zqJ nn l r 0 L 3) 8 (zu ((zqJ nn l r 0 L 3) 8) c m)) k) 15 (32 * (k : Int) + i)) ((zqb nn c (zlu (zqJ nn l r 0 L 3) 8 (zu ((zqJ nn l r 0 L 3) 8) c m)) k) 12))) w0)) i := by
      intro i hi ih
      refine V_iload d_Ref_join_452 rfl ?_
      refine V_aload_n d_Ref_join_454 rfl ?_
      refine V_getf d_Ref_join_455 ff_Ref_7 zqs_o rfl ?_
      refine J_icmp_ge 487 d_Ref_join_458 (by decide) (by omega) (by omega) (fun c_458 => absurd c_458 (by omega)) (fun c_458 => ?_)
      refine V_aload_n d_Ref_join_461 rfl ?_
      refine V_getf d_Ref_join_462 ff_Ref_51 zqs_o rfl ?_
      refine V_iload d_Ref_join_465 rfl ?_
      refine V_aload_n d_Ref_join_467 rfl ?_
      refine V_getf d_Ref_join_468 ff_Ref_60 zqs_o rfl ?_
      refine J_bipush d_Ref_join_471 (by decide) ?_
      refine V_iload d_Ref_join_473 rfl ?_
      refine J_imul d_Ref_join_475 ?_
      refine V_iload d_Ref_join_476 rfl ?_
      refine J_iadd d_Ref_join_478 ?_
      refine J_laload d_Ref_join_479 zqs_a15 (by omega) (by decide) ?_
      rw [zlu_n (show 15 ≠ 12 by decide)]
      refine J_lastore d_Ref_join_480 (zqs_r (j := 12) (by unfold zqi; decide)) (by omega) (by decide) ?_
      refine J_iinc d_Ref_join_481 rfl (by decide) ?_
      refine V_goto 452 d_Ref_join_484 (by decide) ?_
      exact V_w (by rw [zqs_lu (by unfold zqi; decide), zlu_s, zif_s (by omega) rfl, zlu_lu] <;> rfl) ih
    refine zfor nn (fun i : Nat => V G M_Ref_join (zdet (some (.int (Int32.ofInt (m : Int)))) (zqs G C 0 kd nn t tu ch ke (zqb nn c (zlu (zqJ nn l r 0 L 3) 8 (zu ((zqJ nn l r 0 L 3) 8) c m)) 3) w0) sz) (zR 3 0 0 70) 0 0 sz 452 [(0, .ref C), (1, .int (Int32.ofInt (c : Int))), (2, .int (Int32.ofInt 0)), (3, .int (Int32.ofInt (l : Int))), (4, .int (Int32.ofInt (r : Int))), (5, .int (Int32.ofInt (m : Int))), (6, .int (Int32.ofInt (k : Int))), (7, .int (Int32.ofInt (i : Int)))] [] (zqs G C 0 kd nn t tu ch ke (zlu (zqb nn c (zlu (zqJ nn l r 0 L 3) 8 (zu ((zqJ nn l r 0 L 3) 8) c m)) k) 12 (zif (i : Int) (fun i => (zqb nn c (zlu (zqJ nn l r 0 L 3) 8 (zu ((zqJ nn l r 0 L 3) 8) c m)) k) 15 (32 * (k : Int) + i)) ((zqb nn c (zlu (zqJ nn l r 0 L 3) 8 (zu ((zqJ nn l r 0 L 3) 8) c m)) k) 12))) w0)) ?_ st_452 0 (Nat.zero_le nn)
    refine V_iload d_Ref_join_452 rfl ?_
    refine V_aload_n d_Ref_join_454 rfl ?_
    refine V_getf d_Ref_join_455 ff_Ref_7 zqs_o rfl ?_
    refine J_icmp_ge 487 d_Ref_join_458 (by decide) (by omega) (by omega) (fun c_458 => ?_) (fun c_458 => absurd c_458 (by omega))
    refine V_aload_n d_Ref_join_487 rfl ?_
    refine V_iload_n d_Ref_join_488 rfl ?_
    refine V_iload d_Ref_join_489 rfl ?_
    refine V_aload_n d_Ref_join_491 rfl ?_
    refine V_getf d_Ref_join_492 ff_Ref_51 zqs_o rfl ?_
    refine V_callV (n := 3) d_Ref_join_495 g_Ref_152 rfl zqs_o rfl (r_put G _ C 0 kd nn t tu ch ke (zlu (zqb nn c (zlu (zqJ nn l r 0 L 3) 8 (zu ((zqJ nn l r 0 L 3) 8) c m)) k) 12 (zif nn (fun i => (zqb nn c (zlu (zqJ nn l r 0 L 3) 8 (zu ((zqJ nn l r 0 L 3) 8) c m)) k) 15 (32 * (k : Int) + i)) ((zqb nn c (zlu (zqJ nn l r 0 L 3) 8 (zu ((zqJ nn l r 0 L 3) 8) c m)) k) 12))) w0 nn rfl hn c k 12 hc (by omega) (by unfold zqi; decide) (fun j hj => by show -9223372036854775808 ≤ zif nn (fun i => (zqb nn c (zlu (zqJ nn l r 0 L 3) 8 (zu ((zqJ nn l r 0 L 3) 8) c m)) k) 15 (32 * (k : Int) + i)) ((zqb nn c (zlu (zqJ nn l r 0 L 3) 8 (zu ((zqJ nn l r 0 L 3) 8) c m)) k) 12) j ∧ zif nn (fun i => (zqb nn c (zlu (zqJ nn l r 0 L 3) 8 (zu ((zqJ nn l r 0 L 3) 8) c m)) k) 15 (32 * (k : Int) + i)) ((zqb nn c (zlu (zqJ nn l r 0 L 3) 8 (zu ((zqJ nn l r 0 L 3) 8) c m)) k) 12) j < 9223372036854775808; rw [zif_l (by omega), b15]; exact hW k hk j hj)) ⟨co_Ref_put, by decide +kernel, Nat.le_of_ble_eq_true rfl⟩ ⟨Nat.le_of_ble_eq_true rfl, Nat.le_of_ble_eq_true rfl, Nat.le_of_ble_eq_true rfl, Nat.le_of_ble_eq_true rfl⟩ (Nat.le_of_ble_eq_true rfl) (fun r_495 w_495 s_495 q_495 => ?_) (fun _ _ _ q => False.elim q)
    obtain ⟨rfl, rfl, rfl⟩ := q_495
    refine J_iinc d_Ref_join_498 rfl (by decide) ?_
    refine V_goto 443 d_Ref_join_501 (by decide) ?_
    exact V_lo [0, 1, 2, 3, 4, 5, 6] rfl ih
  refine zfor 3 (fun k : Nat => V G M_Ref_join (zdet (some (.int (Int32.ofInt (m : Int)))) (zqs G C 0 kd nn t tu ch ke (zqb nn c (zlu (zqJ nn l r 0 L 3) 8 (zu ((zqJ nn l r 0 L 3) 8) c m)) 3) w0) sz) (zR 3 0 0 70) 0 0 sz 443 [(0, .ref C), (1, .int (Int32.ofInt (c : Int))), (2, .int (Int32.ofInt 0)), (3, .int (Int32.ofInt (l : Int))), (4, .int (Int32.ofInt (r : Int))), (5, .int (Int32.ofInt (m : Int))), (6, .int (Int32.ofInt (k : Int)))] [] (zqs G C 0 kd nn t tu ch ke (zqb nn c (zlu (zqJ nn l r 0 L 3) 8 (zu ((zqJ nn l r 0 L 3) 8) c m)) k) w0)) ?_ stb 0 (Nat.zero_le 3)
  refine V_iload d_Ref_join_443 rfl ?_
  refine V_iconst d_Ref_join_445 ?_
  refine J_icmp_ge 504 d_Ref_join_446 (by decide) (by omega) (by omega) (fun c_446 => ?_) (fun c_446 => absurd c_446 (by omega))
  refine V_iload d_Ref_join_504 rfl ?_
  exact V_ireturn d_Ref_join_506 rfl ⟨Nat.le_of_ble_eq_true rfl, Nat.le_of_ble_eq_true rfl⟩ ⟨rfl, rfl, rfl⟩

set_option maxRecDepth 100000 in
set_option maxHeartbeats 4000000 in
theorem r_join_1 (G : zG) (sz C : Nat) (th kd n t tu : Int) (ch : Int32) (ke : Int) (L : Nat → Int → Int) (w0 : zW) (nn : Nat) (hnn : n = (nn : Int)) (hn : nn ≤ 32) (c : Nat) (hc : c < 16) (l : Nat) (hl : l < 16) (hfl : 0 < L 8 l ∧ L 8 l ≤ 3) (r : Nat) (hr : r < 16) (hfr : 0 < L 8 r ∧ L 8 r ≤ 3) (m : Nat) (hm : (if L 8 l < L 8 r then L 8 r else L 8 l) = (m : Int)) (hm3 : m ≤ 3) (hW : ∀ k : Nat, k < 3 → ∀ i : Nat, i < nn → -9223372036854775808 ≤ (zqJ nn l r 1 L 3) 15 (32 * (k : Int) + i) ∧ (zqJ nn l r 1 L 3) 15 (32 * (k : Int) + i) < 9223372036854775808) : zCt G M_Ref_join (zR 3 0 0 70) [.ref C, .int (Int32.ofInt (c : Int)), .int (Int32.ofInt 1), .int (Int32.ofInt (l : Int)), .int (Int32.ofInt (r : Int))] sz (zqs G C th kd n t tu ch ke L w0) (zdet (some (.int (Int32.ofInt (m : Int)))) (zqs G C 0 kd n t tu ch ke (zqb nn c (zlu (zqJ nn l r 1 L 3) 8 (zu ((zqJ nn l r 1 L 3) 8) c m)) 3) w0) sz) := by
  subst hnn
  refine V_aload_n d_Ref_join_0 rfl ?_
  refine V_iload_n d_Ref_join_1 rfl ?_
  refine V_callS (n := 1) d_Ref_join_2 g_Ref_138 rfl (r_noCipher_n G _ _ c (by omega)) ⟨co_Ref_noCipher, by decide +kernel, Nat.le_of_ble_eq_true rfl⟩ ⟨Nat.le_of_ble_eq_true rfl, Nat.le_of_ble_eq_true rfl, Nat.le_of_ble_eq_true rfl, Nat.le_of_ble_eq_true rfl⟩ (Nat.le_of_ble_eq_true rfl) (fun r_2 w_2 s_2 q_2 => ?_) (fun _ _ _ q => False.elim q)
  obtain ⟨rfl, rfl, rfl⟩ := q_2
  refine J_if_ne 25 d_Ref_join_5 (by decide) (by decide) (fun c_5 => absurd rfl c_5) (fun c_5 => ?_)
  refine V_aload_n d_Ref_join_8 rfl ?_
  refine V_iload_n d_Ref_join_9 rfl ?_
  refine V_callV (n := 1) d_Ref_join_10 g_Ref_180 rfl zqs_o rfl (r_emptyI_n G _ C th kd nn t tu ch ke L w0 l (by omega) hfl) ⟨co_Ref_empty_I, by decide +kernel, Nat.le_of_ble_eq_true rfl⟩ ⟨Nat.le_of_ble_eq_true rfl, Nat.le_of_ble_eq_true rfl, Nat.le_of_ble_eq_true rfl, Nat.le_of_ble_eq_true rfl⟩ (Nat.le_of_ble_eq_true rfl) (fun r_10 w_10 s_10 q_10 => ?_) (fun _ _ _ q => False.elim q)
  obtain ⟨rfl, rfl, rfl⟩ := q_10
  refine J_if_ne 25 d_Ref_join_13 (by decide) (by decide) (fun c_13 => absurd rfl c_13) (fun c_13 => ?_)
  refine V_aload_n d_Ref_join_16 rfl ?_
  refine V_iload d_Ref_join_17 rfl ?_
  refine V_callV (n := 1) d_Ref_join_19 g_Ref_180 rfl zqs_o rfl (r_emptyI_n G _ C th kd nn t tu ch ke L w0 r (by omega) hfr) ⟨co_Ref_empty_I, by decide +kernel, Nat.le_of_ble_eq_true rfl⟩ ⟨Nat.le_of_ble_eq_true rfl, Nat.le_of_ble_eq_true rfl, Nat.le_of_ble_eq_true rfl, Nat.le_of_ble_eq_true rfl⟩ (Nat.le_of_ble_eq_true rfl) (fun r_19 w_19 s_19 q_19 => ?_) (fun _ _ _ q => False.elim q)
  obtain ⟨rfl, rfl, rfl⟩ := q_19
  refine J_if_eq 29 d_Ref_join_22 (by decide) (by decide) (fun c_22 => ?_) (fun c_22 => absurd rfl c_22)
  refine V_iload_n d_Ref_join_29 rfl ?_
  refine J_if_lt 38 d_Ref_join_30 (by decide) (by omega) (fun c_30 => absurd c_30 (by decide)) (fun c_30 => ?_)
  refine V_iload_n d_Ref_join_33 rfl ?_
  refine V_iconst d_Ref_join_34 ?_
  refine J_icmp_le 42 d_Ref_join_35 (by decide) (by omega) (by omega) (fun c_35 => ?_) (fun c_35 => absurd c_35 (by decide))
  refine V_iload_n d_Ref_join_42 rfl ?_
  refine V_iconst d_Ref_join_43 ?_
  refine J_icmp_ne 72 d_Ref_join_44 (by decide) (by omega) (by omega) (fun c_44 => ?_) (fun c_44 => absurd c_44 (by decide))
  refine V_iconst d_Ref_join_72 ?_
  refine V_putf d_Ref_join_73 ff_Ref_69 zqs_o ⟨_, _, _, _, rfl, rfl, rfl, rfl, rfl⟩ (Nat.le_of_ble_eq_true rfl) ?_
  refine V_w (zqs_f (th' := 0) rfl) ?_
  refine V_aload_n d_Ref_join_76 rfl ?_
  refine V_getf d_Ref_join_77 ff_Ref_69 zqs_o rfl ?_
  refine J_if_le 85 d_Ref_join_80 (by decide) (by decide) (fun c_80 => ?_) (fun c_80 => absurd c_80 (by decide))
  refine V_iload_n d_Ref_join_85 rfl ?_
  refine V_iconst d_Ref_join_86 ?_
  refine J_icmp_ne 94 d_Ref_join_87 (by decide) (by omega) (by omega) (fun c_87 => ?_) (fun c_87 => absurd c_87 (by decide))
  refine V_aload_n d_Ref_join_94 rfl ?_
  refine V_getf d_Ref_join_95 ff_Ref_39 zqs_o rfl ?_
  refine V_iload_n d_Ref_join_98 rfl ?_
  refine J_iaload d_Ref_join_99 zqs_a8 (by omega) (by decide) ?_
  refine V_aload_n d_Ref_join_100 rfl ?_
  refine V_getf d_Ref_join_101 ff_Ref_39 zqs_o rfl ?_
  refine V_iload d_Ref_join_104 rfl ?_
  refine J_iaload d_Ref_join_106 zqs_a8 (by omega) (by decide) ?_
  refine V_callS (n := 2) d_Ref_join_107 g_Ref_185 rfl (c_maxI G _ _ (L 8 l) (L 8 r) (by omega) (by omega)) ⟨co_Math_max_II, by decide +kernel, Nat.le_of_ble_eq_true rfl⟩ ⟨Nat.le_of_ble_eq_true rfl, Nat.le_of_ble_eq_true rfl, Nat.le_of_ble_eq_true rfl, Nat.le_of_ble_eq_true rfl⟩ (Nat.le_of_ble_eq_true rfl) (fun r_107 w_107 s_107 q_107 => ?_) (fun _ _ _ q => False.elim q)
  obtain ⟨rfl, rfl, rfl⟩ := q_107
  rw [hm]
  refine V_istore d_Ref_join_110 (by decide) ?_
  refine V_iconst d_Ref_join_112 ?_
  refine V_istore d_Ref_join_113 (by decide) ?_
  have stk : ∀ k : Nat, k < 3 → (fun k : Nat => V G M_Ref_join (zdet (some (.int (Int32.ofInt (m : Int)))) (zqs G C 0 kd nn t tu ch ke (zqb nn c (zlu (zqJ nn l r 1 L 3) 8 (zu ((zqJ nn l r 1 L 3) 8) c m)) 3) w0) sz) (zR 3 0 0 70) 0 0 sz 115 [(0, .ref C), (1, .int (Int32.ofInt (c : Int))), (2, .int (Int32.ofInt 1)), (3, .int (Int32.ofInt (l : Int))), (4, .int (Int32.ofInt (r : Int))), (5, .int (Int32.ofInt (m : Int))), (6, .int (Int32.ofInt (k : Int)))] [] (zqs G C 0 kd nn t tu ch ke (zqJ nn l r 1 L k) w0)) (k + 1) → (fun k : Nat => V G M_Ref_join (zdet (some (.int (Int32.ofInt (m : Int)))) (zqs G C 0 kd nn t tu ch ke (zqb nn c (zlu (zqJ nn l r 1 L 3) 8 (zu ((zqJ nn l r 1 L 3) 8) c m)) 3) w0) sz) (zR 3 0 0 70) 0 0 sz 115 [(0, .ref C), (1, .int (Int32.ofInt (c : Int))), (2, .int (Int32.ofInt 1)), (3, .int (Int32.ofInt (l : Int))), (4, .int (Int32.ofInt (r : Int))), (5, .int (Int32.ofInt (m : Int))), (6, .int (Int32.ofInt (k : Int)))] [] (zqs G C 0 kd nn t tu ch ke (zqJ nn l r 1 L k) w0)) k := by
    intro k hk ih
    have x8 : (zqJ nn l r 1 L k) 8 = L 8 := zqJ_o (by decide) k
    refine V_iload d_Ref_join_115 rfl ?_
    refine V_iconst d_Ref_join_117 ?_
    refine J_icmp_ge 432 d_Ref_join_118 (by decide) (by omega) (by omega) (fun c_118 => absurd c_118 (by omega)) (fun c_118 => ?_)
    refine V_iconst d_Ref_join_121 ?_
    refine V_istore d_Ref_join_122 (by decide) ?_
    refine V_w (w' := (zqs G C 0 kd nn t tu ch ke (zlu (zqJ nn l r 1 L k) 12 (zif ((0 : Nat) : Int) (fun _ => 0) ((zqJ nn l r 1 L k) 12))) w0)) (by rw [show ((0 : Nat) : Int) = 0 from rfl, zif_0, zlu_self] <;> rfl) ?_
    have st_124 : ∀ i : Nat, i < nn → (fun i : Nat => V G M_Ref_join (zdet (some (.int (Int32.ofInt (m : Int)))) (zqs G C 0 kd nn t tu ch ke (zqb nn c (zlu (zqJ nn l r 1 L 3) 8 (zu ((zqJ nn l r 1 L 3) 8) c m)) 3) w0) sz) (zR 3 0 0 70) 0 0 sz 124 [(0, .ref C), (1, .int (Int32.ofInt (c : Int))), (2, .int (Int32.ofInt 1)), (3, .int (Int32.ofInt (l : Int))), (4, .int (Int32.ofInt (r : Int))), (5, .int (Int32.ofInt (m : Int))), (6, .int (Int32.ofInt (k : Int))), (7, .int (Int32.ofInt (i : Int)))] [] (zqs G C 0 kd nn t tu ch ke (zlu (zqJ nn l r 1 L k) 12 (zif (i : Int) (fun _ => 0) ((zqJ nn l r 1 L k) 12))) w0)) (i + 1) → (fun i : Nat => V G M_Ref_join (zdet (some (.int (Int32.ofInt (m : Int)))) (zqs G C 0 kd nn t tu ch ke (zqb nn c (zlu (zqJ nn l r 1 L 3) 8 (zu ((zqJ nn l r 1 L 3) 8) c m)) 3) w0) sz) (zR 3 0 0 70) 0 0 sz 124 [(0, .ref C), (1, .int (Int32.ofInt (c : Int))), (2, .int (Int32.ofInt 1)), (3, .int (Int32.ofInt (l : Int))), (4, .int (Int32.ofInt (r : Int))), (5, .int (Int32.ofInt (m : Int))), (6, .int (Int32.ofInt (k : Int))), (7, .int (Int32.ofInt (i : Int)))] [] (zqs G C 0 kd nn t tu ch ke (zlu (zqJ nn l r 1 L k) 12 (zif (i : Int) (fun _ => 0) ((zqJ nn l r 1 L k) 12))) w0)) i := by
      intro i hi ih
      refine V_iload d_Ref_join_124 rfl ?_
      refine V_aload_n d_Ref_join_126 rfl ?_
      refine V_getf d_Ref_join_127 ff_Ref_7 zqs_o rfl ?_
      refine J_icmp_ge 147 d_Ref_join_130 (by decide) (by omega) (by omega) (fun c_130 => absurd c_130 (by omega)) (fun c_130 => ?_)
      refine V_aload_n d_Ref_join_133 rfl ?_
      refine V_getf d_Ref_join_134 ff_Ref_51 zqs_o rfl ?_
      refine V_iload d_Ref_join_137 rfl ?_
      refine J_lconst (z := 0) d_Ref_join_139 rfl ?_
      refine J_lastore d_Ref_join_140 (zqs_r (j := 12) (by unfold zqi; decide)) (by omega) (by decide) ?_
      refine J_iinc d_Ref_join_141 rfl (by decide) ?_
      refine V_goto 124 d_Ref_join_144 (by decide) ?_
      exact V_w (by rw [zqs_lu (by unfold zqi; decide), zlu_s, zif_s (by omega) rfl, zlu_lu] <;> rfl) ih
    refine zfor nn (fun i : Nat => V G M_Ref_join (zdet (some (.int (Int32.ofInt (m : Int)))) (zqs G C 0 kd nn t tu ch ke (zqb nn c (zlu (zqJ nn l r 1 L 3) 8 (zu ((zqJ nn l r 1 L 3) 8) c m)) 3) w0) sz) (zR 3 0 0 70) 0 0 sz 124 [(0, .ref C), (1, .int (Int32.ofInt (c : Int))), (2, .int (Int32.ofInt 1)), (3, .int (Int32.ofInt (l : Int))), (4, .int (Int32.ofInt (r : Int))), (5, .int (Int32.ofInt (m : Int))), (6, .int (Int32.ofInt (k : Int))), (7, .int (Int32.ofInt (i : Int)))] [] (zqs G C 0 kd nn t tu ch ke (zlu (zqJ nn l r 1 L k) 12 (zif (i : Int) (fun _ => 0) ((zqJ nn l r 1 L k) 12))) w0)) ?_ st_124 0 (Nat.zero_le nn)
    refine V_iload d_Ref_join_124 rfl ?_
    refine V_aload_n d_Ref_join_126 rfl ?_
    refine V_getf d_Ref_join_127 ff_Ref_7 zqs_o rfl ?_
    refine J_icmp_ge 147 d_Ref_join_130 (by decide) (by omega) (by omega) (fun c_130 => ?_) (fun c_130 => absurd c_130 (by omega))
    refine V_iload_n d_Ref_join_147 rfl ?_
    refine V_iconst d_Ref_join_148 ?_
    refine J_icmp_ge 240 d_Ref_join_149 (by decide) (by decide) (by decide) (fun c_149 => absurd c_149 (by decide)) (fun c_149 => ?_)
    refine V_aload_n d_Ref_join_152 rfl ?_
    refine V_iload_n d_Ref_join_153 rfl ?_
    refine V_iload d_Ref_join_154 rfl ?_
    refine V_aload_n d_Ref_join_156 rfl ?_
    refine V_getf d_Ref_join_157 ff_Ref_45 zqs_o rfl ?_
    refine V_callV (n := 3) d_Ref_join_160 g_Ref_159 rfl zqs_o rfl (r_take G _ C 0 kd nn t tu ch ke (zqZ nn (zqJ nn l r 1 L k)) w0 nn rfl hn l k 10 hl (by omega) (by unfold zqi; decide) (by show _ ≤ (zqJ nn l r 1 L k) 8 _ ∧ (zqJ nn l r 1 L k) 8 _ < _; rw [x8]; omega)) ⟨co_Ref_take, by decide +kernel, Nat.le_of_ble_eq_true rfl⟩ ⟨Nat.le_of_ble_eq_true rfl, Nat.le_of_ble_eq_true rfl, Nat.le_of_ble_eq_true rfl, Nat.le_of_ble_eq_true rfl⟩ (Nat.le_of_ble_eq_true rfl) (fun r_160 w_160 s_160 q_160 => ?_) (fun _ _ _ q => False.elim q)
    obtain ⟨rfl, rfl, rfl⟩ := q_160
    refine V_aload_n d_Ref_join_163 rfl ?_
    refine V_iload d_Ref_join_164 rfl ?_
    refine V_iload d_Ref_join_166 rfl ?_
    refine V_aload_n d_Ref_join_168 rfl ?_
    refine V_getf d_Ref_join_169 ff_Ref_48 zqs_o rfl ?_
    refine V_callV (n := 3) d_Ref_join_172 g_Ref_159 rfl zqs_o rfl (r_take G _ C 0 kd nn t tu ch ke (zqTk nn l k 10 (zqZ nn (zqJ nn l r 1 L k))) w0 nn rfl hn r k 11 hr (by omega) (by unfold zqi; decide) (by show _ ≤ (zqJ nn l r 1 L k) 8 _ ∧ (zqJ nn l r 1 L k) 8 _ < _; rw [x8]; omega)) ⟨co_Ref_take, by decide +kernel, Nat.le_of_ble_eq_true rfl⟩ ⟨Nat.le_of_ble_eq_true rfl, Nat.le_of_ble_eq_true rfl, Nat.le_of_ble_eq_true rfl, Nat.le_of_ble_eq_true rfl⟩ (Nat.le_of_ble_eq_true rfl) (fun r_172 w_172 s_172 q_172 => ?_) (fun _ _ _ q => False.elim q)
    obtain ⟨rfl, rfl, rfl⟩ := q_172
    refine V_iconst d_Ref_join_175 ?_
    refine V_istore d_Ref_join_176 (by decide) ?_
    refine V_lo [0, 1, 2, 3, 4, 5, 6, 7] rfl ?_
    refine V_w (w' := (zqs G C 0 kd nn t tu ch ke (zlu (zqj1 nn l r k (zqJ nn l r 1 L k)) 12 (zif ((0 : Nat) : Int) (zqjF 1 (zqj1 nn l r k (zqJ nn l r 1 L k))) ((zqj1 nn l r k (zqJ nn l r 1 L k)) 12))) w0)) (by rw [show ((0 : Nat) : Int) = 0 from rfl, zif_0, zlu_self] <;> rfl) ?_
    have st_178 : ∀ i : Nat, i < nn → (fun i : Nat => V G M_Ref_join (zdet (some (.int (Int32.ofInt (m : Int)))) (zqs G C 0 kd nn t tu ch ke (zqb nn c (zlu (zqJ nn l r 1 L 3) 8 (zu ((zqJ nn l r 1 L 3) 8) c m)) 3) w0) sz) (zR 3 0 0 70) 0 0 sz 178 [(0, .ref C), (1, .int (Int32.ofInt (c : Int))), (2, .int (Int32.ofInt 1)), (3, .int (Int32.ofInt (l : Int))), (4, .int (Int32.ofInt (r : Int))), (5, .int (Int32.ofInt (m : Int))), (6, .int (Int32.ofInt (k : Int))), (7, .int (Int32.ofInt (i : Int)))] [] (zqs G C 0 kd nn t tu ch ke (zlu (zqj1 nn l r k (zqJ nn l r 1 L k)) 12 (zif (i : Int) (zqjF 1 (zqj1 nn l r k (zqJ nn l r 1 L k))) ((zqj1 nn l r k (zqJ nn l r 1 L k)) 12))) w0)) (i + 1) → (fun i : Nat => V G M_Ref_join (zdet (some (.int (Int32.ofInt (m : Int)))) (zqs G C 0 kd nn t tu ch ke (zqb nn c (zlu (zqJ nn l r 1 L 3) 8 (zu ((zqJ nn l r 1 L 3) 8) c m)) 3) w0) sz) (zR 3 0 0 70) 0 0 sz 178 [(0, .ref C), (1, .int (Int32.ofInt (c : Int))), (2, .int (Int32.ofInt 1)), (3, .int (Int32.ofInt (l : Int))), (4, .int (Int32.ofInt (r : Int))), (5, .int (Int32.ofInt (m : Int))), (6, .int (Int32.ofInt (k : Int))), (7, .int (Int32.ofInt (i : Int)))] [] (zqs G C 0 kd nn t tu ch ke (zlu (zqj1 nn l r k (zqJ nn l r 1 L k)) 12 (zif (i : Int) (zqjF 1 (zqj1 nn l r k (zqJ nn l r 1 L k))) ((zqj1 nn l r k (zqJ nn l r 1 L k)) 12))) w0)) i := by
      intro i hi ih
      have hFi : (zqj1 nn l r k (zqJ nn l r 1 L k)) 10 i - (zqj1 nn l r k (zqJ nn l r 1 L k)) 11 i = zqjF 1 (zqj1 nn l r k (zqJ nn l r 1 L k)) i := rfl
      refine V_iload d_Ref_join_178 rfl ?_
      refine V_aload_n d_Ref_join_180 rfl ?_
      refine V_getf d_Ref_join_181 ff_Ref_7 zqs_o rfl ?_
      refine J_icmp_ge 237 d_Ref_join_184 (by decide) (by omega) (by omega) (fun c_184 => absurd c_184 (by omega)) (fun c_184 => ?_)
      refine V_aload_n d_Ref_join_187 rfl ?_
      refine V_getf d_Ref_join_188 ff_Ref_51 zqs_o rfl ?_
      refine V_iload d_Ref_join_191 rfl ?_
      refine V_iload_n d_Ref_join_193 rfl ?_
      refine J_if_ne 215 d_Ref_join_194 (by decide) (by decide) (fun c_194 => ?_) (fun c_194 => absurd c_194 (by decide))
      refine V_aload_n d_Ref_join_215 rfl ?_
      refine V_getf d_Ref_join_216 ff_Ref_45 zqs_o rfl ?_
      refine V_iload d_Ref_join_219 rfl ?_
      refine J_laload d_Ref_join_221 (zqs_r (j := 10) (by unfold zqi; decide)) (by omega) (by decide) ?_
      rw [zlu_n (show 10 ≠ 12 by decide)]
      refine V_aload_n d_Ref_join_222 rfl ?_
      refine V_getf d_Ref_join_223 ff_Ref_48 zqs_o rfl ?_
      refine V_iload d_Ref_join_226 rfl ?_
      refine J_laload d_Ref_join_228 (zqs_r (j := 11) (by unfold zqi; decide)) (by omega) (by decide) ?_
      rw [zlu_n (show 11 ≠ 12 by decide)]
      refine J_lsub d_Ref_join_229 ?_
      refine J_lastore d_Ref_join_230 (zqs_r (j := 12) (by unfold zqi; decide)) (by omega) (by decide) ?_
      refine J_iinc d_Ref_join_231 rfl (by decide) ?_
      refine V_goto 178 d_Ref_join_234 (by decide) ?_
      exact V_w (by rw [zqs_lu (by unfold zqi; decide), zlu_s, zif_s (by omega) hFi, zlu_lu] <;> rfl) ih
    refine zfor nn (fun i : Nat => V G M_Ref_join (zdet (some (.int (Int32.ofInt (m : Int)))) (zqs G C 0 kd nn t tu ch ke (zqb nn c (zlu (zqJ nn l r 1 L 3) 8 (zu ((zqJ nn l r 1 L 3) 8) c m)) 3) w0) sz) (zR 3 0 0 70) 0 0 sz 178 [(0, .ref C), (1, .int (Int32.ofInt (c : Int))), (2, .int (Int32.ofInt 1)), (3, .int (Int32.ofInt (l : Int))), (4, .int (Int32.ofInt (r : Int))), (5, .int (Int32.ofInt (m : Int))), (6, .int (Int32.ofInt (k : Int))), (7, .int (Int32.ofInt (i : Int)))] [] (zqs G C 0 kd nn t tu ch ke (zlu (zqj1 nn l r k (zqJ nn l r 1 L k)) 12 (zif (i : Int) (zqjF 1 (zqj1 nn l r k (zqJ nn l r 1 L k))) ((zqj1 nn l r k (zqJ nn l r 1 L k)) 12))) w0)) ?_ st_178 0 (Nat.zero_le nn)
    refine V_iload d_Ref_join_178 rfl ?_
    refine V_aload_n d_Ref_join_180 rfl ?_
    refine V_getf d_Ref_join_181 ff_Ref_7 zqs_o rfl ?_
    refine J_icmp_ge 237 d_Ref_join_184 (by decide) (by omega) (by omega) (fun c_184 => ?_) (fun c_184 => absurd c_184 (by omega))
    refine V_goto 388 d_Ref_join_237 (by decide) ?_
    refine V_iconst d_Ref_join_388 ?_
    refine V_istore d_Ref_join_389 (by decide) ?_
    refine V_w (w' := (zqs G C 0 kd nn t tu ch ke (zlu (zqj2 nn 1 (zqj1 nn l r k (zqJ nn l r 1 L k))) 15 (zsf (32 * (k : Int)) (((0 : Nat) : Int) : Int) ((zqj2 nn 1 (zqj1 nn l r k (zqJ nn l r 1 L k))) 12) ((zqj2 nn 1 (zqj1 nn l r k (zqJ nn l r 1 L k))) 15))) w0)) (by rw [show ((0 : Nat) : Int) = 0 from rfl, zsf_0, zlu_self] <;> rfl) ?_
    have st_391 : ∀ i : Nat, i < nn → (fun i : Nat => V G M_Ref_join (zdet (some (.int (Int32.ofInt (m : Int)))) (zqs G C 0 kd nn t tu ch ke (zqb nn c (zlu (zqJ nn l r 1 L 3) 8 (zu ((zqJ nn l r 1 L 3) 8) c m)) 3) w0) sz) (zR 3 0 0 70) 0 0 sz 391 [(0, .ref C), (1, .int (Int32.ofInt (c : Int))), (2, .int (Int32.ofInt 1)), (3, .int (Int32.ofInt (l : Int))), (4, .int (Int32.ofInt (r : Int))), (5, .int (Int32.ofInt (m : Int))), (6, .int (Int32.ofInt (k : Int))), (7, .int (Int32.ofInt (i : Int)))] [] (zqs G C 0 kd nn t tu ch ke (zlu (zqj2 nn 1 (zqj1 nn l r k (zqJ nn l r 1 L k))) 15 (zsf (32 * (k : Int)) (i : Int) ((zqj2 nn 1 (zqj1 nn l r k (zqJ nn l r 1 L k))) 12) ((zqj2 nn 1 (zqj1 nn l r k (zqJ nn l r 1 L k))) 15))) w0)) (i + 1) → (fun i : Nat => V G M_Ref_join (zdet (some (.int (Int32.ofInt (m : Int)))) (zqs G C 0 kd nn t tu ch ke (zqb nn c (zlu (zqJ nn l r 1 L 3) 8 (zu ((zqJ nn l r 1 L 3) 8) c m)) 3) w0) sz) (zR 3 0 0 70) 0 0 sz 391 [(0, .ref C), (1, .int (Int32.ofInt (c : Int))), (2, .int (Int32.ofInt 1)), (3, .int (Int32.ofInt (l : Int))), (4, .int (Int32.ofInt (r : Int))), (5, .int (Int32.ofInt (m : Int))), (6, .int (Int32.ofInt (k : Int))), (7, .int (Int32.ofInt (i : Int)))] [] (zqs G C 0 kd nn t tu ch ke (zlu (zqj2 nn 1 (zqj1 nn l r k (zqJ nn l r 1 L k))) 15 (zsf (32 * (k : Int)) (i : Int) ((zqj2 nn 1 (zqj1 nn l r k (zqJ nn l r 1 L k))) 12) ((zqj2 nn 1 (zqj1 nn l r k (zqJ nn l r 1 L k))) 15))) w0)) i := by
      intro i hi ih2
      refine V_iload d_Ref_join_391 rfl ?_
      refine V_aload_n d_Ref_join_393 rfl ?_
      refine V_getf d_Ref_join_394 ff_Ref_7 zqs_o rfl ?_
      refine J_icmp_ge 426 d_Ref_join_397 (by decide) (by omega) (by omega) (fun c_397 => absurd c_397 (by omega)) (fun c_397 => ?_)
      refine V_aload_n d_Ref_join_400 rfl ?_
      refine V_getf d_Ref_join_401 ff_Ref_60 zqs_o rfl ?_
      refine J_bipush d_Ref_join_404 (by decide) ?_
      refine V_iload d_Ref_join_406 rfl ?_
      refine J_imul d_Ref_join_408 ?_
      refine V_iload d_Ref_join_409 rfl ?_
      refine J_iadd d_Ref_join_411 ?_
      refine V_aload_n d_Ref_join_412 rfl ?_
      refine V_getf d_Ref_join_413 ff_Ref_51 zqs_o rfl ?_
      refine V_iload d_Ref_join_416 rfl ?_
      refine J_laload d_Ref_join_418 (zqs_r (j := 12) (by unfold zqi; decide)) (by omega) (by decide) ?_
      rw [zlu_n (show 12 ≠ 15 by decide)]
      refine J_lastore d_Ref_join_419 zqs_a15 (by omega) (by decide) ?_
      refine J_iinc d_Ref_join_420 rfl (by decide) ?_
      refine V_goto 391 d_Ref_join_423 (by decide) ?_
      exact V_w (by rw [zqs_u15, zlu_s, zsf_s (by omega) rfl, zlu_lu] <;> rfl) ih2
    refine zfor nn (fun i : Nat => V G M_Ref_join (zdet (some (.int (Int32.ofInt (m : Int)))) (zqs G C 0 kd nn t tu ch ke (zqb nn c (zlu (zqJ nn l r 1 L 3) 8 (zu ((zqJ nn l r 1 L 3) 8) c m)) 3) w0) sz) (zR 3 0 0 70) 0 0 sz 391 [(0, .ref C), (1, .int (Int32.ofInt (c : Int))), (2, .int (Int32.ofInt 1)), (3, .int (Int32.ofInt (l : Int))), (4, .int (Int32.ofInt (r : Int))), (5, .int (Int32.ofInt (m : Int))), (6, .int (Int32.ofInt (k : Int))), (7, .int (Int32.ofInt (i : Int)))] [] (zqs G C 0 kd nn t tu ch ke (zlu (zqj2 nn 1 (zqj1 nn l r k (zqJ nn l r 1 L k))) 15 (zsf (32 * (k : Int)) (i : Int) ((zqj2 nn 1 (zqj1 nn l r k (zqJ nn l r 1 L k))) 12) ((zqj2 nn 1 (zqj1 nn l r k (zqJ nn l r 1 L k))) 15))) w0)) ?_ st_391 0 (Nat.zero_le nn)
    refine V_iload d_Ref_join_391 rfl ?_
    refine V_aload_n d_Ref_join_393 rfl ?_
    refine V_getf d_Ref_join_394 ff_Ref_7 zqs_o rfl ?_
    refine J_icmp_ge 426 d_Ref_join_397 (by decide) (by omega) (by omega) (fun c_397 => ?_) (fun c_397 => absurd c_397 (by omega))
    refine J_iinc d_Ref_join_426 rfl (by decide) ?_
    refine V_goto 115 d_Ref_join_429 (by decide) ?_
    exact V_lo [0, 1, 2, 3, 4, 5, 6] rfl ih
  refine zfor 3 (fun k : Nat => V G M_Ref_join (zdet (some (.int (Int32.ofInt (m : Int)))) (zqs G C 0 kd nn t tu ch ke (zqb nn c (zlu (zqJ nn l r 1 L 3) 8 (zu ((zqJ nn l r 1 L 3) 8) c m)) 3) w0) sz) (zR 3 0 0 70) 0 0 sz 115 [(0, .ref C), (1, .int (Int32.ofInt (c : Int))), (2, .int (Int32.ofInt 1)), (3, .int (Int32.ofInt (l : Int))), (4, .int (Int32.ofInt (r : Int))), (5, .int (Int32.ofInt (m : Int))), (6, .int (Int32.ofInt (k : Int)))] [] (zqs G C 0 kd nn t tu ch ke (zqJ nn l r 1 L k) w0)) ?_ stk 0 (Nat.zero_le 3)
  refine V_iload d_Ref_join_115 rfl ?_
  refine V_iconst d_Ref_join_117 ?_
  refine J_icmp_ge 432 d_Ref_join_118 (by decide) (by omega) (by omega) (fun c_118 => ?_) (fun c_118 => absurd c_118 (by omega))
  refine V_aload_n d_Ref_join_432 rfl ?_
  refine V_getf d_Ref_join_433 ff_Ref_39 zqs_o rfl ?_
  refine V_iload_n d_Ref_join_436 rfl ?_
  refine V_iload d_Ref_join_437 rfl ?_
  refine J_iastore d_Ref_join_439 zqs_a8 (by omega) (by decide) ?_
  refine V_w zqs_u8 ?_
  refine V_iconst d_Ref_join_440 ?_
  refine V_istore d_Ref_join_441 (by decide) ?_
  refine V_lo [0, 1, 2, 3, 4, 5, 6] rfl ?_
  have stb : ∀ k : Nat, k < 3 → (fun k : Nat => V G M_Ref_join (zdet (some (.int (Int32.ofInt (m : Int)))) (zqs G C 0 kd nn t tu ch ke (zqb nn c (zlu (zqJ nn l r 1 L 3) 8 (zu ((zqJ nn l r 1 L 3) 8) c m)) 3) w0) sz) (zR 3 0 0 70) 0 0 sz 443 [(0, .ref C), (1, .int (Int32.ofInt (c : Int))), (2, .int (Int32.ofInt 1)), (3, .int (Int32.ofInt (l : Int))), (4, .int (Int32.ofInt (r : Int))), (5, .int (Int32.ofInt (m : Int))), (6, .int (Int32.ofInt (k : Int)))] [] (zqs G C 0 kd nn t tu ch ke (zqb nn c (zlu (zqJ nn l r 1 L 3) 8 (zu ((zqJ nn l r 1 L 3) 8) c m)) k) w0)) (k + 1) → (fun k : Nat => V G M_Ref_join (zdet (some (.int (Int32.ofInt (m : Int)))) (zqs G C 0 kd nn t tu ch ke (zqb nn c (zlu (zqJ nn l r 1 L 3) 8 (zu ((zqJ nn l r 1 L 3) 8) c m)) 3) w0) sz) (zR 3 0 0 70) 0 0 sz 443 [(0, .ref C), (1, .int (Int32.ofInt (c : Int))), (2, .int (Int32.ofInt 1)), (3, .int (Int32.ofInt (l : Int))), (4, .int (Int32.ofInt (r : Int))), (5, .int (Int32.ofInt (m : Int))), (6, .int (Int32.ofInt (k : Int)))] [] (zqs G C 0 kd nn t tu ch ke (zqb nn c (zlu (zqJ nn l r 1 L 3) 8 (zu ((zqJ nn l r 1 L 3) 8) c m)) k) w0)) k := by
    intro k hk ih
    have b15 : (zqb nn c (zlu (zqJ nn l r 1 L 3) 8 (zu ((zqJ nn l r 1 L 3) 8) c m)) k) 15 = (zqJ nn l r 1 L 3) 15 := zqb_o (by decide) k
    refine V_iload d_Ref_join_443 rfl ?_
    refine V_iconst d_Ref_join_445 ?_
    refine J_icmp_ge 504 d_Ref_join_446 (by decide) (by omega) (by omega) (fun c_446 => absurd c_446 (by omega)) (fun c_446 => ?_)
    refine V_iconst d_Ref_join_449 ?_
    refine V_istore d_Ref_join_450 (by decide) ?_
    refine V_w (w' := (zqs G C 0 kd nn t tu ch ke (zlu (zqb nn c (zlu (zqJ nn l r 1 L 3) 8 (zu ((zqJ nn l r 1 L 3) 8) c m)) k) 12 (zif ((0 : Nat) : Int) (fun i => (zqb nn c (zlu (zqJ nn l r 1 L 3) 8 (zu ((zqJ nn l r 1 L 3) 8) c m)) k) 15 (32 * (k : Int) + i)) ((zqb nn c (zlu (zqJ nn l r 1 L 3) 8 (zu ((zqJ nn l r 1 L 3) 8) c m)) k) 12))) w0)) (by rw [show ((0 : Nat) : Int) = 0 from rfl, zif_0, zlu_self] <;> rfl) ?_
    have st_452 : ∀ i : Nat, i < nn → (fun i : Nat => V G M_Ref_join (zdet (some (.int (Int32.ofInt (m : Int)))) (zqs G C 0 kd nn t tu ch ke (zqb nn c (zlu (zqJ nn l r 1 L 3) 8 (zu ((zqJ nn l r 1 L 3) 8) c m)) 3) w0) sz) (zR 3 0 0 70) 0 0 sz 452 [(0, .ref C), (1, .int (Int32.ofInt (c : Int))), (2, .int (Int32.ofInt 1)), (3, .int (Int32.ofInt (l : Int))), (4, .int (Int32.ofInt (r : Int))), (5, .int (Int32.ofInt (m : Int))), (6, .int (Int32.ofInt (k : Int))), (7, .int (Int32.ofInt (i : Int)))] [] (zqs G C 0 kd nn t tu ch ke (zlu (zqb nn c (zlu (zqJ nn l r 1 L 3) 8 (zu ((zqJ nn l r 1 L 3) 8) c m)) k) 12 (zif (i : Int) (fun i => (zqb nn c (zlu (zqJ nn l r 1 L 3) 8 (zu ((zqJ nn l r 1 L 3) 8) c m)) k) 15 (32 * (k : Int) + i)) ((zqb nn c (zlu (zqJ nn l r 1 L 3) 8 (zu ((zqJ nn l r 1 L 3) 8) c m)) k) 12))) w0)) (i + 1) → (fun i : Nat => V G M_Ref_join (zdet (some (.int (Int32.ofInt (m : Int)))) (zqs G C 0 kd nn t tu ch ke (zqb nn c (zlu (zqJ nn l r 1 L 3) 8 (zu ((zqJ nn l r 1 L 3) 8) c m)) 3) w0) sz) (zR 3 0 0 70) 0 0 sz 452 [(0, .ref C), (1, .int (Int32.ofInt (c : Int))), (2, .int (Int32.ofInt 1)), (3, .int (Int32.ofInt (l : Int))), (4, .int (Int32.ofInt (r : Int))), (5, .int (Int32.ofInt (m : Int))), (6, .int (Int32.ofInt (k : Int))), (7, .int (Int32.ofInt (i : Int)))] [] (zqs G C 0 kd nn t tu ch ke (zlu (zqb nn c (zlu (zqJ nn l r 1 L 3) 8 (zu ((zqJ nn l r 1 L 3) 8) c m)) k) 12 (zif (i : Int) (fun i => (zqb nn c (zlu (zqJ nn l r 1 L 3) 8 (zu ((zqJ nn l r 1 L 3) 8) c m)) k) 15 (32 * (k : Int) + i)) ((zqb nn c (zlu (zqJ nn l r 1 L 3) 8 (zu ((zqJ nn l r 1 L 3) 8) c m)) k) 12))) w0)) i := by
      intro i hi ih
      refine V_iload d_Ref_join_452 rfl ?_
      refine V_aload_n d_Ref_join_454 rfl ?_
      refine V_getf d_Ref_join_455 ff_Ref_7 zqs_o rfl ?_
      refine J_icmp_ge 487 d_Ref_join_458 (by decide) (by omega) (by omega) (fun c_458 => absurd c_458 (by omega)) (fun c_458 => ?_)
      refine V_aload_n d_Ref_join_461 rfl ?_
      refine V_getf d_Ref_join_462 ff_Ref_51 zqs_o rfl ?_
      refine V_iload d_Ref_join_465 rfl ?_
      refine V_aload_n d_Ref_join_467 rfl ?_
      refine V_getf d_Ref_join_468 ff_Ref_60 zqs_o rfl ?_
      refine J_bipush d_Ref_join_471 (by decide) ?_
      refine V_iload d_Ref_join_473 rfl ?_
      refine J_imul d_Ref_join_475 ?_
      refine V_iload d_Ref_join_476 rfl ?_
      refine J_iadd d_Ref_join_478 ?_
      refine J_laload d_Ref_join_479 zqs_a15 (by omega) (by decide) ?_
      rw [zlu_n (show 15 ≠ 12 by decide)]
      refine J_lastore d_Ref_join_480 (zqs_r (j := 12) (by unfold zqi; decide)) (by omega) (by decide) ?_
      refine J_iinc d_Ref_join_481 rfl (by decide) ?_
      refine V_goto 452 d_Ref_join_484 (by decide) ?_
      exact V_w (by rw [zqs_lu (by unfold zqi; decide), zlu_s, zif_s (by omega) rfl, zlu_lu] <;> rfl) ih
    refine zfor nn (fun i : Nat => V G M_Ref_join (zdet (some (.int (Int32.ofInt (m : Int)))) (zqs G C 0 kd nn t tu ch ke (zqb nn c (zlu (zqJ nn l r 1 L 3) 8 (zu ((zqJ nn l r 1 L 3) 8) c m)) 3) w0) sz) (zR 3 0 0 70) 0 0 sz 452 [(0, .ref C), (1, .int (Int32.ofInt (c : Int))), (2, .int (Int32.ofInt 1)), (3, .int (Int32.ofInt (l : Int))), (4, .int (Int32.ofInt (r : Int))), (5, .int (Int32.ofInt (m : Int))), (6, .int (Int32.ofInt (k : Int))), (7, .int (Int32.ofInt (i : Int)))] [] (zqs G C 0 kd nn t tu ch ke (zlu (zqb nn c (zlu (zqJ nn l r 1 L 3) 8 (zu ((zqJ nn l r 1 L 3) 8) c m)) k) 12 (zif (i : Int) (fun i => (zqb nn c (zlu (zqJ nn l r 1 L 3) 8 (zu ((zqJ nn l r 1 L 3) 8) c m)) k) 15 (32 * (k : Int) + i)) ((zqb nn c (zlu (zqJ nn l r 1 L 3) 8 (zu ((zqJ nn l r 1 L 3) 8) c m)) k) 12))) w0)) ?_ st_452 0 (Nat.zero_le nn)
    refine V_iload d_Ref_join_452 rfl ?_
    refine V_aload_n d_Ref_join_454 rfl ?_
    refine V_getf d_Ref_join_455 ff_Ref_7 zqs_o rfl ?_
    refine J_icmp_ge 487 d_Ref_join_458 (by decide) (by omega) (by omega) (fun c_458 => ?_) (fun c_458 => absurd c_458 (by omega))
    refine V_aload_n d_Ref_join_487 rfl ?_
    refine V_iload_n d_Ref_join_488 rfl ?_
    refine V_iload d_Ref_join_489 rfl ?_
    refine V_aload_n d_Ref_join_491 rfl ?_
    refine V_getf d_Ref_join_492 ff_Ref_51 zqs_o rfl ?_
    refine V_callV (n := 3) d_Ref_join_495 g_Ref_152 rfl zqs_o rfl (r_put G _ C 0 kd nn t tu ch ke (zlu (zqb nn c (zlu (zqJ nn l r 1 L 3) 8 (zu ((zqJ nn l r 1 L 3) 8) c m)) k) 12 (zif nn (fun i => (zqb nn c (zlu (zqJ nn l r 1 L 3) 8 (zu ((zqJ nn l r 1 L 3) 8) c m)) k) 15 (32 * (k : Int) + i)) ((zqb nn c (zlu (zqJ nn l r 1 L 3) 8 (zu ((zqJ nn l r 1 L 3) 8) c m)) k) 12))) w0 nn rfl hn c k 12 hc (by omega) (by unfold zqi; decide) (fun j hj => by show -9223372036854775808 ≤ zif nn (fun i => (zqb nn c (zlu (zqJ nn l r 1 L 3) 8 (zu ((zqJ nn l r 1 L 3) 8) c m)) k) 15 (32 * (k : Int) + i)) ((zqb nn c (zlu (zqJ nn l r 1 L 3) 8 (zu ((zqJ nn l r 1 L 3) 8) c m)) k) 12) j ∧ zif nn (fun i => (zqb nn c (zlu (zqJ nn l r 1 L 3) 8 (zu ((zqJ nn l r 1 L 3) 8) c m)) k) 15 (32 * (k : Int) + i)) ((zqb nn c (zlu (zqJ nn l r 1 L 3) 8 (zu ((zqJ nn l r 1 L 3) 8) c m)) k) 12) j < 9223372036854775808; rw [zif_l (by omega), b15]; exact hW k hk j hj)) ⟨co_Ref_put, by decide +kernel, Nat.le_of_ble_eq_true rfl⟩ ⟨Nat.le_of_ble_eq_true rfl, Nat.le_of_ble_eq_true rfl, Nat.le_of_ble_eq_true rfl, Nat.le_of_ble_eq_true rfl⟩ (Nat.le_of_ble_eq_true rfl) (fun r_495 w_495 s_495 q_495 => ?_) (fun _ _ _ q => False.elim q)
    obtain ⟨rfl, rfl, rfl⟩ := q_495
    refine J_iinc d_Ref_join_498 rfl (by decide) ?_
    refine V_goto 443 d_Ref_join_501 (by decide) ?_
    exact V_lo [0, 1, 2, 3, 4, 5, 6] rfl ih
  refine zfor 3 (fun k : Nat => V G M_Ref_join (zdet (some (.int (Int32.ofInt (m : Int)))) (zqs G C 0 kd nn t tu ch ke (zqb nn c (zlu (zqJ nn l r 1 L 3) 8 (zu ((zqJ nn l r 1 L 3) 8) c m)) 3) w0) sz) (zR 3 0 0 70) 0 0 sz 443 [(0, .ref C), (1, .int (Int32.ofInt (c : Int))), (2, .int (Int32.ofInt 1)), (3, .int (Int32.ofInt (l : Int))), (4, .int (Int32.ofInt (r : Int))), (5, .int (Int32.ofInt (m : Int))), (6, .int (Int32.ofInt (k : Int)))] [] (zqs G C 0 kd nn t tu ch ke (zqb nn c (zlu (zqJ nn l r 1 L 3) 8 (zu ((zqJ nn l r 1 L 3) 8) c m)) k) w0)) ?_ stb 0 (Nat.zero_le 3)
  refine V_iload d_Ref_join_443 rfl ?_
  refine V_iconst d_Ref_join_445 ?_
  refine J_icmp_ge 504 d_Ref_join_446 (by decide) (by omega) (by omega) (fun c_446 => ?_) (fun c_446 => absurd c_446 (by omega))
  refine V_iload d_Ref_join_504 rfl ?_
  exact V_ireturn d_Ref_join_506 rfl ⟨Nat.le_of_ble_eq_true rfl, Nat.le_of_ble_eq_true rfl⟩ ⟨rfl, rfl, rfl⟩

set_option maxRecDepth 100000 in
set_option maxHeartbeats 4000000 in
theorem r_join_2 (G : zG) (sz C : Nat) (th kd n t tu : Int) (ch : Int32) (ke : Int) (L : Nat → Int → Int) (w0 : zW) (nn : Nat) (hnn : n = (nn : Int)) (hn : nn ≤ 32) (c : Nat) (hc : c < 16) (l : Nat) (hl : l < 16) (hfl : 0 < L 8 l ∧ L 8 l ≤ 3) (r : Nat) (hr : r < 16) (hfr : 0 < L 8 r ∧ L 8 r ≤ 3) (hl3 : ¬ L 8 l = 3) (hr3 : ¬ L 8 r = 3) (ht : 0 < t ∧ t ≤ 1000) (hPa : ∀ j : Int, 0 ≤ j → j < 1536 → 0 ≤ L 9 j ∧ L 9 j < 268435399) (hX : ∀ X : Nat → Int → Int, X 8 = L 8 → X 9 = L 9 → ∀ i : Nat, i < nn → (-9223372036854775808 < zqjP nn l 0 r 0 (zqZ nn X) 12 i ∧ zqjP nn l 0 r 0 (zqZ nn X) 12 i < 9223372036854775808) ∧ (-9223372036854775808 < zqjP nn l 1 r 0 (zqjP nn l 0 r 1 (zqZ nn X)) 12 i ∧ zqjP nn l 1 r 0 (zqjP nn l 0 r 1 (zqZ nn X)) 12 i < 9223372036854775808) ∧ (-9223372036854775808 < zqjP nn l 1 r 1 (zqZ nn X) 12 i ∧ zqjP nn l 1 r 1 (zqZ nn X) 12 i < 9223372036854775808)) (hW : ∀ k : Nat, k < 3 → ∀ i : Nat, i < nn → -9223372036854775808 ≤ (zqM2 nn l r t (zqM1 nn l r t (zqM0 nn l r t L))) 15 (32 * (k : Int) + i) ∧ (zqM2 nn l r t (zqM1 nn l r t (zqM0 nn l r t L))) 15 (32 * (k : Int) + i) < 9223372036854775808) : zCt G M_Ref_join (zR 3 0 0 70) [.ref C, .int (Int32.ofInt (c : Int)), .int (Int32.ofInt 2), .int (Int32.ofInt (l : Int)), .int (Int32.ofInt (r : Int))] sz (zqs G C th kd n t tu ch ke L w0) (zdet (some (.int (Int32.ofInt ((3 : Nat) : Int)))) (zqs G C 0 kd n t tu ch ke (zqb nn c (zlu (zqM2 nn l r t (zqM1 nn l r t (zqM0 nn l r t L))) 8 (zu ((zqM2 nn l r t (zqM1 nn l r t (zqM0 nn l r t L))) 8) c ((3 : Nat) : Int))) 3) w0) sz) := by
  subst hnn
  have ps_00 : ∀ B : Nat → Int → Int, B 8 = L 8 → B 9 = L 9 → V G M_Ref_join (zdet (some (.int (Int32.ofInt ((3 : Nat) : Int)))) (zqs G C 0 kd nn t tu ch ke (zqb nn c (zlu (zqM2 nn l r t (zqM1 nn l r t (zqM0 nn l r t L))) 8 (zu ((zqM2 nn l r t (zqM1 nn l r t (zqM0 nn l r t L))) 8) c ((3 : Nat) : Int))) 3) w0) sz) (zR 3 0 0 70) 0 0 sz 346 [(0, .ref C), (1, .int (Int32.ofInt (c : Int))), (2, .int (Int32.ofInt 2)), (3, .int (Int32.ofInt (l : Int))), (4, .int (Int32.ofInt (r : Int))), (5, .int (Int32.ofInt ((3 : Nat) : Int))), (6, .int (Int32.ofInt 0)), (7, .int (Int32.ofInt 0))] [] (zqs G C 0 kd nn t tu ch ke (zqjP nn l 0 r 0 B) w0) → V G M_Ref_join (zdet (some (.int (Int32.ofInt ((3 : Nat) : Int)))) (zqs G C 0 kd nn t tu ch ke (zqb nn c (zlu (zqM2 nn l r t (zqM1 nn l r t (zqM0 nn l r t L))) 8 (zu ((zqM2 nn l r t (zqM1 nn l r t (zqM0 nn l r t L))) 8) c ((3 : Nat) : Int))) 3) w0) sz) (zR 3 0 0 70) 0 0 sz 269 [(0, .ref C), (1, .int (Int32.ofInt (c : Int))), (2, .int (Int32.ofInt 2)), (3, .int (Int32.ofInt (l : Int))), (4, .int (Int32.ofInt (r : Int))), (5, .int (Int32.ofInt ((3 : Nat) : Int))), (6, .int (Int32.ofInt 0)), (7, .int (Int32.ofInt 0))] [] (zqs G C 0 kd nn t tu ch ke B w0) := by
    intro B b8 b9 go
    have hb9 : ∀ j : Int, 0 ≤ j → j < 1536 → 0 ≤ B 9 j ∧ B 9 j < 268435399 := by rw [b9]; exact hPa
    refine V_aload_n d_Ref_join_269 rfl ?_
    refine V_iload_n d_Ref_join_270 rfl ?_
    refine V_iload d_Ref_join_271 rfl ?_
    refine V_aload_n d_Ref_join_273 rfl ?_
    refine V_getf d_Ref_join_274 ff_Ref_45 zqs_o rfl ?_
    refine V_callV (n := 3) d_Ref_join_277 g_Ref_187 rfl zqs_o rfl (r_centre G _ C 0 kd nn t tu ch ke B w0 nn rfl hn l 0 10 hl (by decide) (by unfold zqi; decide) (by show _ ≤ B 8 l ∧ B 8 l < _; rw [b8]; omega) (fun j hj => by have h := zqTk_b (c := l) (k := 0) (d := 10) (L := B) hl (by decide) hn hb9 hj; exact ⟨by omega, by omega⟩)) ⟨co_Ref_centre, by decide +kernel, Nat.le_of_ble_eq_true rfl⟩ ⟨Nat.le_of_ble_eq_true rfl, Nat.le_of_ble_eq_true rfl, Nat.le_of_ble_eq_true rfl, Nat.le_of_ble_eq_true rfl⟩ (Nat.le_of_ble_eq_true rfl) (fun r_277 w_277 s_277 q_277 => ?_) (fun _ _ _ q => False.elim q)
    obtain ⟨rfl, rfl, rfl⟩ := q_277
    refine V_aload_n d_Ref_join_280 rfl ?_
    refine V_iload d_Ref_join_281 rfl ?_
    refine V_iload d_Ref_join_283 rfl ?_
    refine V_iload d_Ref_join_285 rfl ?_
    refine J_isub d_Ref_join_287 ?_
    rw [show (0 : Int) - 0 = ((0 : Nat) : Int) from rfl]
    refine V_aload_n d_Ref_join_288 rfl ?_
    refine V_getf d_Ref_join_289 ff_Ref_48 zqs_o rfl ?_
    refine V_callV (n := 3) d_Ref_join_292 g_Ref_187 rfl zqs_o rfl (r_centre G _ C 0 kd nn t tu ch ke (zqjc nn l 0 10 B) w0 nn rfl hn r 0 11 hr (by decide) (by unfold zqi; decide) (by show _ ≤ B 8 r ∧ B 8 r < _; rw [b8]; omega) (fun j hj => by have h := zqTk_b (c := r) (k := 0) (d := 11) (L := (zqjc nn l 0 10 B)) hr (by decide) hn hb9 hj; exact ⟨by omega, by omega⟩)) ⟨co_Ref_centre, by decide +kernel, Nat.le_of_ble_eq_true rfl⟩ ⟨Nat.le_of_ble_eq_true rfl, Nat.le_of_ble_eq_true rfl, Nat.le_of_ble_eq_true rfl, Nat.le_of_ble_eq_true rfl⟩ (Nat.le_of_ble_eq_true rfl) (fun r_292 w_292 s_292 q_292 => ?_) (fun _ _ _ q => False.elim q)
    obtain ⟨rfl, rfl, rfl⟩ := q_292
    refine V_aload_n d_Ref_join_295 rfl ?_
    refine V_aload_n d_Ref_join_296 rfl ?_
    refine V_getf d_Ref_join_297 ff_Ref_45 zqs_o rfl ?_
    refine V_aload_n d_Ref_join_300 rfl ?_
    refine V_getf d_Ref_join_301 ff_Ref_48 zqs_o rfl ?_
    refine V_aload_n d_Ref_join_304 rfl ?_
    refine V_getf d_Ref_join_305 ff_Ref_54 zqs_o rfl ?_
    refine V_callV (n := 3) d_Ref_join_308 g_Ref_120 rfl zqs_o rfl (r_product G _ C 0 kd nn t tu ch ke (zqjc nn r 0 11 (zqjc nn l 0 10 B)) w0 nn rfl hn 10 11 13 (by unfold zqi; decide) (by unfold zqi; decide) (by unfold zqi; decide) (by decide) (by decide)) ⟨co_Ref_product, by decide +kernel, Nat.le_of_ble_eq_true rfl⟩ ⟨Nat.le_of_ble_eq_true rfl, Nat.le_of_ble_eq_true rfl, Nat.le_of_ble_eq_true rfl, Nat.le_of_ble_eq_true rfl⟩ (Nat.le_of_ble_eq_true rfl) (fun r_308 w_308 s_308 q_308 => ?_) (fun _ _ _ q => False.elim q)
    obtain ⟨rfl, rfl, rfl⟩ := q_308
    refine V_iconst d_Ref_join_311 ?_
    refine V_istore d_Ref_join_312 (by decide) ?_
    refine V_w (w' := (zqs G C 0 kd nn t tu ch ke (zlu (zqjp nn (zqjc nn r 0 11 (zqjc nn l 0 10 B))) 12 (zif ((0 : Nat) : Int) (fun i => (zqjp nn (zqjc nn r 0 11 (zqjc nn l 0 10 B))) 12 i + (zqjp nn (zqjc nn r 0 11 (zqjc nn l 0 10 B))) 13 i) ((zqjp nn (zqjc nn r 0 11 (zqjc nn l 0 10 B))) 12))) w0)) (by rw [show ((0 : Nat) : Int) = 0 from rfl, zif_0, zlu_self] <;> rfl) ?_
    have st_314 : ∀ i : Nat, i < nn → (fun i : Nat => V G M_Ref_join (zdet (some (.int (Int32.ofInt ((3 : Nat) : Int)))) (zqs G C 0 kd nn t tu ch ke (zqb nn c (zlu (zqM2 nn l r t (zqM1 nn l r t (zqM0 nn l r t L))) 8 (zu ((zqM2 nn l r t (zqM1 nn l r t (zqM0 nn l r t L))) 8) c ((3 : Nat) : Int))) 3) w0) sz) (zR 3 0 0 70) 0 0 sz 314 [(0, .ref C), (1, .int (Int32.ofInt (c : Int))), (2, .int (Int32.ofInt 2)), (3, .int (Int32.ofInt (l : Int))), (4, .int (Int32.ofInt (r : Int))), (5, .int (Int32.ofInt ((3 : Nat) : Int))), (6, .int (Int32.ofInt 0)), (7, .int (Int32.ofInt 0)), (8, .int (Int32.ofInt (i : Int)))] [] (zqs G C 0 kd nn t tu ch ke (zlu (zqjp nn (zqjc nn r 0 11 (zqjc nn l 0 10 B))) 12 (zif (i : Int) (fun i => (zqjp nn (zqjc nn r 0 11 (zqjc nn l 0 10 B))) 12 i + (zqjp nn (zqjc nn r 0 11 (zqjc nn l 0 10 B))) 13 i) ((zqjp nn (zqjc nn r 0 11 (zqjc nn l 0 10 B))) 12))) w0)) (i + 1) → (fun i : Nat => V G M_Ref_join (zdet (some (.int (Int32.ofInt ((3 : Nat) : Int)))) (zqs G C 0 kd nn t tu ch ke (zqb nn c (zlu (zqM2 nn l r t (zqM1 nn l r t (zqM0 nn l r t L))) 8 (zu ((zqM2 nn l r t (zqM1 nn l r t (zqM0 nn l r t L))) 8) c ((3 : Nat) : Int))) 3) w0) sz) (zR 3 0 0 70) 0 0 sz 314 [(0, .ref C), (1, .int (Int32.ofInt (c : Int))), (2, .int (Int32.ofInt 2)), (3, .int (Int32.ofInt (l : Int))), (4, .int (Int32.ofInt (r : Int))), (5, .int (Int32.ofInt ((3 : Nat) : Int))), (6, .int (Int32.ofInt 0)), (7, .int (Int32.ofInt 0)), (8, .int (Int32.ofInt (i : Int)))] [] (zqs G C 0 kd nn t tu ch ke (zlu (zqjp nn (zqjc nn r 0 11 (zqjc nn l 0 10 B))) 12 (zif (i : Int) (fun i => (zqjp nn (zqjc nn r 0 11 (zqjc nn l 0 10 B))) 12 i + (zqjp nn (zqjc nn r 0 11 (zqjc nn l 0 10 B))) 13 i) ((zqjp nn (zqjc nn r 0 11 (zqjc nn l 0 10 B))) 12))) w0)) i := by
      intro i hi ih
      refine V_iload d_Ref_join_314 rfl ?_
      refine V_aload_n d_Ref_join_316 rfl ?_
      refine V_getf d_Ref_join_317 ff_Ref_7 zqs_o rfl ?_
      refine J_icmp_ge 346 d_Ref_join_320 (by decide) (by omega) (by omega) (fun c_320 => absurd c_320 (by omega)) (fun c_320 => ?_)
      refine V_aload_n d_Ref_join_323 rfl ?_
      refine V_getf d_Ref_join_324 ff_Ref_51 zqs_o rfl ?_
      refine V_iload d_Ref_join_327 rfl ?_
      refine V_dup2 d_Ref_join_329 rfl rfl ?_
      refine J_laload d_Ref_join_330 (zqs_r (j := 12) (by unfold zqi; decide)) (by omega) (by decide) ?_
      refine V_aload_n d_Ref_join_331 rfl ?_
      refine V_getf d_Ref_join_332 ff_Ref_54 zqs_o rfl ?_
      refine V_iload d_Ref_join_335 rfl ?_
      refine J_laload d_Ref_join_337 (zqs_r (j := 13) (by unfold zqi; decide)) (by omega) (by decide) ?_
      rw [zlu_s, zlu_n (show 13 ≠ 12 by decide), zif_r (show ¬ (0 ≤ (i : Int) ∧ (i : Int) < i) by omega)]
      refine J_ladd d_Ref_join_338 ?_
      refine J_lastore d_Ref_join_339 (zqs_r (j := 12) (by unfold zqi; decide)) (by omega) (by decide) ?_
      refine J_iinc d_Ref_join_340 rfl (by decide) ?_
      refine V_goto 314 d_Ref_join_343 (by decide) ?_
      exact V_w (by rw [zqs_lu (by unfold zqi; decide), zlu_s, zif_s (by omega) rfl, zlu_lu] <;> rfl) ih
    refine zfor nn (fun i : Nat => V G M_Ref_join (zdet (some (.int (Int32.ofInt ((3 : Nat) : Int)))) (zqs G C 0 kd nn t tu ch ke (zqb nn c (zlu (zqM2 nn l r t (zqM1 nn l r t (zqM0 nn l r t L))) 8 (zu ((zqM2 nn l r t (zqM1 nn l r t (zqM0 nn l r t L))) 8) c ((3 : Nat) : Int))) 3) w0) sz) (zR 3 0 0 70) 0 0 sz 314 [(0, .ref C), (1, .int (Int32.ofInt (c : Int))), (2, .int (Int32.ofInt 2)), (3, .int (Int32.ofInt (l : Int))), (4, .int (Int32.ofInt (r : Int))), (5, .int (Int32.ofInt ((3 : Nat) : Int))), (6, .int (Int32.ofInt 0)), (7, .int (Int32.ofInt 0)), (8, .int (Int32.ofInt (i : Int)))] [] (zqs G C 0 kd nn t tu ch ke (zlu (zqjp nn (zqjc nn r 0 11 (zqjc nn l 0 10 B))) 12 (zif (i : Int) (fun i => (zqjp nn (zqjc nn r 0 11 (zqjc nn l 0 10 B))) 12 i + (zqjp nn (zqjc nn r 0 11 (zqjc nn l 0 10 B))) 13 i) ((zqjp nn (zqjc nn r 0 11 (zqjc nn l 0 10 B))) 12))) w0)) ?_ st_314 0 (Nat.zero_le nn)
    refine V_iload d_Ref_join_314 rfl ?_
    refine V_aload_n d_Ref_join_316 rfl ?_
    refine V_getf d_Ref_join_317 ff_Ref_7 zqs_o rfl ?_
    refine J_icmp_ge 346 d_Ref_join_320 (by decide) (by omega) (by omega) (fun c_320 => ?_) (fun c_320 => absurd c_320 (by omega))
    exact V_lo [0, 1, 2, 3, 4, 5, 6, 7] rfl go
  have ps_10 : ∀ B : Nat → Int → Int, B 8 = L 8 → B 9 = L 9 → V G M_Ref_join (zdet (some (.int (Int32.ofInt ((3 : Nat) : Int)))) (zqs G C 0 kd nn t tu ch ke (zqb nn c (zlu (zqM2 nn l r t (zqM1 nn l r t (zqM0 nn l r t L))) 8 (zu ((zqM2 nn l r t (zqM1 nn l r t (zqM0 nn l r t L))) 8) c ((3 : Nat) : Int))) 3) w0) sz) (zR 3 0 0 70) 0 0 sz 346 [(0, .ref C), (1, .int (Int32.ofInt (c : Int))), (2, .int (Int32.ofInt 2)), (3, .int (Int32.ofInt (l : Int))), (4, .int (Int32.ofInt (r : Int))), (5, .int (Int32.ofInt ((3 : Nat) : Int))), (6, .int (Int32.ofInt 1)), (7, .int (Int32.ofInt 0))] [] (zqs G C 0 kd nn t tu ch ke (zqjP nn l 0 r 1 B) w0) → V G M_Ref_join (zdet (some (.int (Int32.ofInt ((3 : Nat) : Int)))) (zqs G C 0 kd nn t tu ch ke (zqb nn c (zlu (zqM2 nn l r t (zqM1 nn l r t (zqM0 nn l r t L))) 8 (zu ((zqM2 nn l r t (zqM1 nn l r t (zqM0 nn l r t L))) 8) c ((3 : Nat) : Int))) 3) w0) sz) (zR 3 0 0 70) 0 0 sz 269 [(0, .ref C), (1, .int (Int32.ofInt (c : Int))), (2, .int (Int32.ofInt 2)), (3, .int (Int32.ofInt (l : Int))), (4, .int (Int32.ofInt (r : Int))), (5, .int (Int32.ofInt ((3 : Nat) : Int))), (6, .int (Int32.ofInt 1)), (7, .int (Int32.ofInt 0))] [] (zqs G C 0 kd nn t tu ch ke B w0) := by
    intro B b8 b9 go
    have hb9 : ∀ j : Int, 0 ≤ j → j < 1536 → 0 ≤ B 9 j ∧ B 9 j < 268435399 := by rw [b9]; exact hPa
    refine V_aload_n d_Ref_join_269 rfl ?_
    refine V_iload_n d_Ref_join_270 rfl ?_
    refine V_iload d_Ref_join_271 rfl ?_
    refine V_aload_n d_Ref_join_273 rfl ?_
    refine V_getf d_Ref_join_274 ff_Ref_45 zqs_o rfl ?_
    refine V_callV (n := 3) d_Ref_join_277 g_Ref_187 rfl zqs_o rfl (r_centre G _ C 0 kd nn t tu ch ke B w0 nn rfl hn l 0 10 hl (by decide) (by unfold zqi; decide) (by show _ ≤ B 8 l ∧ B 8 l < _; rw [b8]; omega) (fun j hj => by have h := zqTk_b (c := l) (k := 0) (d := 10) (L := B) hl (by decide) hn hb9 hj; exact ⟨by omega, by omega⟩)) ⟨co_Ref_centre, by decide +kernel, Nat.le_of_ble_eq_true rfl⟩ ⟨Nat.le_of_ble_eq_true rfl, Nat.le_of_ble_eq_true rfl, Nat.le_of_ble_eq_true rfl, Nat.le_of_ble_eq_true rfl⟩ (Nat.le_of_ble_eq_true rfl) (fun r_277 w_277 s_277 q_277 => ?_) (fun _ _ _ q => False.elim q)
    obtain ⟨rfl, rfl, rfl⟩ := q_277
    refine V_aload_n d_Ref_join_280 rfl ?_
    refine V_iload d_Ref_join_281 rfl ?_
    refine V_iload d_Ref_join_283 rfl ?_
    refine V_iload d_Ref_join_285 rfl ?_
    refine J_isub d_Ref_join_287 ?_
    rw [show (1 : Int) - 0 = ((1 : Nat) : Int) from rfl]
    refine V_aload_n d_Ref_join_288 rfl ?_
    refine V_getf d_Ref_join_289 ff_Ref_48 zqs_o rfl ?_
    refine V_callV (n := 3) d_Ref_join_292 g_Ref_187 rfl zqs_o rfl (r_centre G _ C 0 kd nn t tu ch ke (zqjc nn l 0 10 B) w0 nn rfl hn r 1 11 hr (by decide) (by unfold zqi; decide) (by show _ ≤ B 8 r ∧ B 8 r < _; rw [b8]; omega) (fun j hj => by have h := zqTk_b (c := r) (k := 1) (d := 11) (L := (zqjc nn l 0 10 B)) hr (by decide) hn hb9 hj; exact ⟨by omega, by omega⟩)) ⟨co_Ref_centre, by decide +kernel, Nat.le_of_ble_eq_true rfl⟩ ⟨Nat.le_of_ble_eq_true rfl, Nat.le_of_ble_eq_true rfl, Nat.le_of_ble_eq_true rfl, Nat.le_of_ble_eq_true rfl⟩ (Nat.le_of_ble_eq_true rfl) (fun r_292 w_292 s_292 q_292 => ?_) (fun _ _ _ q => False.elim q)
    obtain ⟨rfl, rfl, rfl⟩ := q_292
    refine V_aload_n d_Ref_join_295 rfl ?_
    refine V_aload_n d_Ref_join_296 rfl ?_
    refine V_getf d_Ref_join_297 ff_Ref_45 zqs_o rfl ?_
    refine V_aload_n d_Ref_join_300 rfl ?_
    refine V_getf d_Ref_join_301 ff_Ref_48 zqs_o rfl ?_
    refine V_aload_n d_Ref_join_304 rfl ?_
    refine V_getf d_Ref_join_305 ff_Ref_54 zqs_o rfl ?_
    refine V_callV (n := 3) d_Ref_join_308 g_Ref_120 rfl zqs_o rfl (r_product G _ C 0 kd nn t tu ch ke (zqjc nn r 1 11 (zqjc nn l 0 10 B)) w0 nn rfl hn 10 11 13 (by unfold zqi; decide) (by unfold zqi; decide) (by unfold zqi; decide) (by decide) (by decide)) ⟨co_Ref_product, by decide +kernel, Nat.le_of_ble_eq_true rfl⟩ ⟨Nat.le_of_ble_eq_true rfl, Nat.le_of_ble_eq_true rfl, Nat.le_of_ble_eq_true rfl, Nat.le_of_ble_eq_true rfl⟩ (Nat.le_of_ble_eq_true rfl) (fun r_308 w_308 s_308 q_308 => ?_) (fun _ _ _ q => False.elim q)
    obtain ⟨rfl, rfl, rfl⟩ := q_308
    refine V_iconst d_Ref_join_311 ?_
    refine V_istore d_Ref_join_312 (by decide) ?_
    refine V_w (w' := (zqs G C 0 kd nn t tu ch ke (zlu (zqjp nn (zqjc nn r 1 11 (zqjc nn l 0 10 B))) 12 (zif ((0 : Nat) : Int) (fun i => (zqjp nn (zqjc nn r 1 11 (zqjc nn l 0 10 B))) 12 i + (zqjp nn (zqjc nn r 1 11 (zqjc nn l 0 10 B))) 13 i) ((zqjp nn (zqjc nn r 1 11 (zqjc nn l 0 10 B))) 12))) w0)) (by rw [show ((0 : Nat) : Int) = 0 from rfl, zif_0, zlu_self] <;> rfl) ?_
    have st_314 : ∀ i : Nat, i < nn → (fun i : Nat => V G M_Ref_join (zdet (some (.int (Int32.ofInt ((3 : Nat) : Int)))) (zqs G C 0 kd nn t tu ch ke (zqb nn c (zlu (zqM2 nn l r t (zqM1 nn l r t (zqM0 nn l r t L))) 8 (zu ((zqM2 nn l r t (zqM1 nn l r t (zqM0 nn l r t L))) 8) c ((3 : Nat) : Int))) 3) w0) sz) (zR 3 0 0 70) 0 0 sz 314 [(0, .ref C), (1, .int (Int32.ofInt (c : Int))), (2, .int (Int32.ofInt 2)), (3, .int (Int32.ofInt (l : Int))), (4, .int (Int32.ofInt (r : Int))), (5, .int (Int32.ofInt ((3 : Nat) : Int))), (6, .int (Int32.ofInt 1)), (7, .int (Int32.ofInt 0)), (8, .int (Int32.ofInt (i : Int)))] [] (zqs G C 0 kd nn t tu ch ke (zlu (zqjp nn (zqjc nn r 1 11 (zqjc nn l 0 10 B))) 12 (zif (i : Int) (fun i => (zqjp nn (zqjc nn r 1 11 (zqjc nn l 0 10 B))) 12 i + (zqjp nn (zqjc nn r 1 11 (zqjc nn l 0 10 B))) 13 i) ((zqjp nn (zqjc nn r 1 11 (zqjc nn l 0 10 B))) 12))) w0)) (i + 1) → (fun i : Nat => V G M_Ref_join (zdet (some (.int (Int32.ofInt ((3 : Nat) : Int)))) (zqs G C 0 kd nn t tu ch ke (zqb nn c (zlu (zqM2 nn l r t (zqM1 nn l r t (zqM0 nn l r t L))) 8 (zu ((zqM2 nn l r t (zqM1 nn l r t (zqM0 nn l r t L))) 8) c ((3 : Nat) : Int))) 3) w0) sz) (zR 3 0 0 70) 0 0 sz 314 [(0, .ref C), (1, .int (Int32.ofInt (c : Int))), (2, .int (Int32.ofInt 2)), (3, .int (Int32.ofInt (l : Int))), (4, .int (Int32.ofInt (r : Int))), (5, .int (Int32.ofInt ((3 : Nat) : Int))), (6, .int (Int32.ofInt 1)), (7, .int (Int32.ofInt 0)), (8, .int (Int32.ofInt (i : Int)))] [] (zqs G C 0 kd nn t tu ch ke (zlu (zqjp nn (zqjc nn r 1 11 (zqjc nn l 0 10 B))) 12 (zif (i : Int) (fun i => (zqjp nn (zqjc nn r 1 11 (zqjc nn l 0 10 B))) 12 i + (zqjp nn (zqjc nn r 1 11 (zqjc nn l 0 10 B))) 13 i) ((zqjp nn (zqjc nn r 1 11 (zqjc nn l 0 10 B))) 12))) w0)) i := by
      intro i hi ih
      refine V_iload d_Ref_join_314 rfl ?_
      refine V_aload_n d_Ref_join_316 rfl ?_
      refine V_getf d_Ref_join_317 ff_Ref_7 zqs_o rfl ?_
      refine J_icmp_ge 346 d_Ref_join_320 (by decide) (by omega) (by omega) (fun c_320 => absurd c_320 (by omega)) (fun c_320 => ?_)
      refine V_aload_n d_Ref_join_323 rfl ?_
      refine V_getf d_Ref_join_324 ff_Ref_51 zqs_o rfl ?_
      refine V_iload d_Ref_join_327 rfl ?_
      refine V_dup2 d_Ref_join_329 rfl rfl ?_
      refine J_laload d_Ref_join_330 (zqs_r (j := 12) (by unfold zqi; decide)) (by omega) (by decide) ?_
      refine V_aload_n d_Ref_join_331 rfl ?_
      refine V_getf d_Ref_join_332 ff_Ref_54 zqs_o rfl ?_
      refine V_iload d_Ref_join_335 rfl ?_
      refine J_laload d_Ref_join_337 (zqs_r (j := 13) (by unfold zqi; decide)) (by omega) (by decide) ?_
      rw [zlu_s, zlu_n (show 13 ≠ 12 by decide), zif_r (show ¬ (0 ≤ (i : Int) ∧ (i : Int) < i) by omega)]
      refine J_ladd d_Ref_join_338 ?_
      refine J_lastore d_Ref_join_339 (zqs_r (j := 12) (by unfold zqi; decide)) (by omega) (by decide) ?_
      refine J_iinc d_Ref_join_340 rfl (by decide) ?_
      refine V_goto 314 d_Ref_join_343 (by decide) ?_
      exact V_w (by rw [zqs_lu (by unfold zqi; decide), zlu_s, zif_s (by omega) rfl, zlu_lu] <;> rfl) ih
    refine zfor nn (fun i : Nat => V G M_Ref_join (zdet (some (.int (Int32.ofInt ((3 : Nat) : Int)))) (zqs G C 0 kd nn t tu ch ke (zqb nn c (zlu (zqM2 nn l r t (zqM1 nn l r t (zqM0 nn l r t L))) 8 (zu ((zqM2 nn l r t (zqM1 nn l r t (zqM0 nn l r t L))) 8) c ((3 : Nat) : Int))) 3) w0) sz) (zR 3 0 0 70) 0 0 sz 314 [(0, .ref C), (1, .int (Int32.ofInt (c : Int))), (2, .int (Int32.ofInt 2)), (3, .int (Int32.ofInt (l : Int))), (4, .int (Int32.ofInt (r : Int))), (5, .int (Int32.ofInt ((3 : Nat) : Int))), (6, .int (Int32.ofInt 1)), (7, .int (Int32.ofInt 0)), (8, .int (Int32.ofInt (i : Int)))] [] (zqs G C 0 kd nn t tu ch ke (zlu (zqjp nn (zqjc nn r 1 11 (zqjc nn l 0 10 B))) 12 (zif (i : Int) (fun i => (zqjp nn (zqjc nn r 1 11 (zqjc nn l 0 10 B))) 12 i + (zqjp nn (zqjc nn r 1 11 (zqjc nn l 0 10 B))) 13 i) ((zqjp nn (zqjc nn r 1 11 (zqjc nn l 0 10 B))) 12))) w0)) ?_ st_314 0 (Nat.zero_le nn)
    refine V_iload d_Ref_join_314 rfl ?_
    refine V_aload_n d_Ref_join_316 rfl ?_
    refine V_getf d_Ref_join_317 ff_Ref_7 zqs_o rfl ?_
    refine J_icmp_ge 346 d_Ref_join_320 (by decide) (by omega) (by omega) (fun c_320 => ?_) (fun c_320 => absurd c_320 (by omega))
    exact V_lo [0, 1, 2, 3, 4, 5, 6, 7] rfl go
  have ps_11 : ∀ B : Nat → Int → Int, B 8 = L 8 → B 9 = L 9 → V G M_Ref_join (zdet (some (.int (Int32.ofInt ((3 : Nat) : Int)))) (zqs G C 0 kd nn t tu ch ke (zqb nn c (zlu (zqM2 nn l r t (zqM1 nn l r t (zqM0 nn l r t L))) 8 (zu ((zqM2 nn l r t (zqM1 nn l r t (zqM0 nn l r t L))) 8) c ((3 : Nat) : Int))) 3) w0) sz) (zR 3 0 0 70) 0 0 sz 346 [(0, .ref C), (1, .int (Int32.ofInt (c : Int))), (2, .int (Int32.ofInt 2)), (3, .int (Int32.ofInt (l : Int))), (4, .int (Int32.ofInt (r : Int))), (5, .int (Int32.ofInt ((3 : Nat) : Int))), (6, .int (Int32.ofInt 1)), (7, .int (Int32.ofInt 1))] [] (zqs G C 0 kd nn t tu ch ke (zqjP nn l 1 r 0 B) w0) → V G M_Ref_join (zdet (some (.int (Int32.ofInt ((3 : Nat) : Int)))) (zqs G C 0 kd nn t tu ch ke (zqb nn c (zlu (zqM2 nn l r t (zqM1 nn l r t (zqM0 nn l r t L))) 8 (zu ((zqM2 nn l r t (zqM1 nn l r t (zqM0 nn l r t L))) 8) c ((3 : Nat) : Int))) 3) w0) sz) (zR 3 0 0 70) 0 0 sz 269 [(0, .ref C), (1, .int (Int32.ofInt (c : Int))), (2, .int (Int32.ofInt 2)), (3, .int (Int32.ofInt (l : Int))), (4, .int (Int32.ofInt (r : Int))), (5, .int (Int32.ofInt ((3 : Nat) : Int))), (6, .int (Int32.ofInt 1)), (7, .int (Int32.ofInt 1))] [] (zqs G C 0 kd nn t tu ch ke B w0) := by
    intro B b8 b9 go
    have hb9 : ∀ j : Int, 0 ≤ j → j < 1536 → 0 ≤ B 9 j ∧ B 9 j < 268435399 := by rw [b9]; exact hPa
    refine V_aload_n d_Ref_join_269 rfl ?_
    refine V_iload_n d_Ref_join_270 rfl ?_
    refine V_iload d_Ref_join_271 rfl ?_
    refine V_aload_n d_Ref_join_273 rfl ?_
    refine V_getf d_Ref_join_274 ff_Ref_45 zqs_o rfl ?_
    refine V_callV (n := 3) d_Ref_join_277 g_Ref_187 rfl zqs_o rfl (r_centre G _ C 0 kd nn t tu ch ke B w0 nn rfl hn l 1 10 hl (by decide) (by unfold zqi; decide) (by show _ ≤ B 8 l ∧ B 8 l < _; rw [b8]; omega) (fun j hj => by have h := zqTk_b (c := l) (k := 1) (d := 10) (L := B) hl (by decide) hn hb9 hj; exact ⟨by omega, by omega⟩)) ⟨co_Ref_centre, by decide +kernel, Nat.le_of_ble_eq_true rfl⟩ ⟨Nat.le_of_ble_eq_true rfl, Nat.le_of_ble_eq_true rfl, Nat.le_of_ble_eq_true rfl, Nat.le_of_ble_eq_true rfl⟩ (Nat.le_of_ble_eq_true rfl) (fun r_277 w_277 s_277 q_277 => ?_) (fun _ _ _ q => False.elim q)
    obtain ⟨rfl, rfl, rfl⟩ := q_277
    refine V_aload_n d_Ref_join_280 rfl ?_
    refine V_iload d_Ref_join_281 rfl ?_
    refine V_iload d_Ref_join_283 rfl ?_
    refine V_iload d_Ref_join_285 rfl ?_
    refine J_isub d_Ref_join_287 ?_
    rw [show (1 : Int) - 1 = ((0 : Nat) : Int) from rfl]
    refine V_aload_n d_Ref_join_288 rfl ?_
    refine V_getf d_Ref_join_289 ff_Ref_48 zqs_o rfl ?_
    refine V_callV (n := 3) d_Ref_join_292 g_Ref_187 rfl zqs_o rfl (r_centre G _ C 0 kd nn t tu ch ke (zqjc nn l 1 10 B) w0 nn rfl hn r 0 11 hr (by decide) (by unfold zqi; decide) (by show _ ≤ B 8 r ∧ B 8 r < _; rw [b8]; omega) (fun j hj => by have h := zqTk_b (c := r) (k := 0) (d := 11) (L := (zqjc nn l 1 10 B)) hr (by decide) hn hb9 hj; exact ⟨by omega, by omega⟩)) ⟨co_Ref_centre, by decide +kernel, Nat.le_of_ble_eq_true rfl⟩ ⟨Nat.le_of_ble_eq_true rfl, Nat.le_of_ble_eq_true rfl, Nat.le_of_ble_eq_true rfl, Nat.le_of_ble_eq_true rfl⟩ (Nat.le_of_ble_eq_true rfl) (fun r_292 w_292 s_292 q_292 => ?_) (fun _ _ _ q => False.elim q)
    obtain ⟨rfl, rfl, rfl⟩ := q_292
    refine V_aload_n d_Ref_join_295 rfl ?_
    refine V_aload_n d_Ref_join_296 rfl ?_
    refine V_getf d_Ref_join_297 ff_Ref_45 zqs_o rfl ?_
    refine V_aload_n d_Ref_join_300 rfl ?_
    refine V_getf d_Ref_join_301 ff_Ref_48 zqs_o rfl ?_
    refine V_aload_n d_Ref_join_304 rfl ?_
    refine V_getf d_Ref_join_305 ff_Ref_54 zqs_o rfl ?_
    refine V_callV (n := 3) d_Ref_join_308 g_Ref_120 rfl zqs_o rfl (r_product G _ C 0 kd nn t tu ch ke (zqjc nn r 0 11 (zqjc nn l 1 10 B)) w0 nn rfl hn 10 11 13 (by unfold zqi; decide) (by unfold zqi; decide) (by unfold zqi; decide) (by decide) (by decide)) ⟨co_Ref_product, by decide +kernel, Nat.le_of_ble_eq_true rfl⟩ ⟨Nat.le_of_ble_eq_true rfl, Nat.le_of_ble_eq_true rfl, Nat.le_of_ble_eq_true rfl, Nat.le_of_ble_eq_true rfl⟩ (Nat.le_of_ble_eq_true rfl) (fun r_308 w_308 s_308 q_308 => ?_) (fun _ _ _ q => False.elim q)
    obtain ⟨rfl, rfl, rfl⟩ := q_308
    refine V_iconst d_Ref_join_311 ?_
    refine V_istore d_Ref_join_312 (by decide) ?_
    refine V_w (w' := (zqs G C 0 kd nn t tu ch ke (zlu (zqjp nn (zqjc nn r 0 11 (zqjc nn l 1 10 B))) 12 (zif ((0 : Nat) : Int) (fun i => (zqjp nn (zqjc nn r 0 11 (zqjc nn l 1 10 B))) 12 i + (zqjp nn (zqjc nn r 0 11 (zqjc nn l 1 10 B))) 13 i) ((zqjp nn (zqjc nn r 0 11 (zqjc nn l 1 10 B))) 12))) w0)) (by rw [show ((0 : Nat) : Int) = 0 from rfl, zif_0, zlu_self] <;> rfl) ?_
    have st_314 : ∀ i : Nat, i < nn → (fun i : Nat => V G M_Ref_join (zdet (some (.int (Int32.ofInt ((3 : Nat) : Int)))) (zqs G C 0 kd nn t tu ch ke (zqb nn c (zlu (zqM2 nn l r t (zqM1 nn l r t (zqM0 nn l r t L))) 8 (zu ((zqM2 nn l r t (zqM1 nn l r t (zqM0 nn l r t L))) 8) c ((3 : Nat) : Int))) 3) w0) sz) (zR 3 0 0 70) 0 0 sz 314 [(0, .ref C), (1, .int (Int32.ofInt (c : Int))), (2, .int (Int32.ofInt 2)), (3, .int (Int32.ofInt (l : Int))), (4, .int (Int32.ofInt (r : Int))), (5, .int (Int32.ofInt ((3 : Nat) : Int))), (6, .int (Int32.ofInt 1)), (7, .int (Int32.ofInt 1)), (8, .int (Int32.ofInt (i : Int)))] [] (zqs G C 0 kd nn t tu ch ke (zlu (zqjp nn (zqjc nn r 0 11 (zqjc nn l 1 10 B))) 12 (zif (i : Int) (fun i => (zqjp nn (zqjc nn r 0 11 (zqjc nn l 1 10 B))) 12 i + (zqjp nn (zqjc nn r 0 11 (zqjc nn l 1 10 B))) 13 i) ((zqjp nn (zqjc nn r 0 11 (zqjc nn l 1 10 B))) 12))) w0)) (i + 1) → (fun i : Nat => V G M_Ref_join (zdet (some (.int (Int32.ofInt ((3 : Nat) : Int)))) (zqs G C 0 kd nn t tu ch ke (zqb nn c (zlu (zqM2 nn l r t (zqM1 nn l r t (zqM0 nn l r t L))) 8 (zu ((zqM2 nn l r t (zqM1 nn l r t (zqM0 nn l r t L))) 8) c ((3 : Nat) : Int))) 3) w0) sz) (zR 3 0 0 70) 0 0 sz 314 [(0, .ref C), (1, .int (Int32.ofInt (c : Int))), (2, .int (Int32.ofInt 2)), (3, .int (Int32.ofInt (l : Int))), (4, .int (Int32.ofInt (r : Int))), (5, .int (Int32.ofInt ((3 : Nat) : Int))), (6, .int (Int32.ofInt 1)), (7, .int (Int32.ofInt 1)), (8, .int (Int32.ofInt (i : Int)))] [] (zqs G C 0 kd nn t tu ch ke (zlu (zqjp nn (zqjc nn r 0 11 (zqjc nn l 1 10 B))) 12 (zif (i : Int) (fun i => (zqjp nn (zqjc nn r 0 11 (zqjc nn l 1 10 B))) 12 i + (zqjp nn (zqjc nn r 0 11 (zqjc nn l 1 10 B))) 13 i) ((zqjp nn (zqjc nn r 0 11 (zqjc nn l 1 10 B))) 12))) w0)) i := by
      intro i hi ih
      refine V_iload d_Ref_join_314 rfl ?_
      refine V_aload_n d_Ref_join_316 rfl ?_
      refine V_getf d_Ref_join_317 ff_Ref_7 zqs_o rfl ?_
      refine J_icmp_ge 346 d_Ref_join_320 (by decide) (by omega) (by omega) (fun c_320 => absurd c_320 (by omega)) (fun c_320 => ?_)
      refine V_aload_n d_Ref_join_323 rfl ?_
      refine V_getf d_Ref_join_324 ff_Ref_51 zqs_o rfl ?_
      refine V_iload d_Ref_join_327 rfl ?_
      refine V_dup2 d_Ref_join_329 rfl rfl ?_
      refine J_laload d_Ref_join_330 (zqs_r (j := 12) (by unfold zqi; decide)) (by omega) (by decide) ?_
      refine V_aload_n d_Ref_join_331 rfl ?_
      refine V_getf d_Ref_join_332 ff_Ref_54 zqs_o rfl ?_
      refine V_iload d_Ref_join_335 rfl ?_
      refine J_laload d_Ref_join_337 (zqs_r (j := 13) (by unfold zqi; decide)) (by omega) (by decide) ?_
      rw [zlu_s, zlu_n (show 13 ≠ 12 by decide), zif_r (show ¬ (0 ≤ (i : Int) ∧ (i : Int) < i) by omega)]
      refine J_ladd d_Ref_join_338 ?_
      refine J_lastore d_Ref_join_339 (zqs_r (j := 12) (by unfold zqi; decide)) (by omega) (by decide) ?_
      refine J_iinc d_Ref_join_340 rfl (by decide) ?_
      refine V_goto 314 d_Ref_join_343 (by decide) ?_
      exact V_w (by rw [zqs_lu (by unfold zqi; decide), zlu_s, zif_s (by omega) rfl, zlu_lu] <;> rfl) ih
    refine zfor nn (fun i : Nat => V G M_Ref_join (zdet (some (.int (Int32.ofInt ((3 : Nat) : Int)))) (zqs G C 0 kd nn t tu ch ke (zqb nn c (zlu (zqM2 nn l r t (zqM1 nn l r t (zqM0 nn l r t L))) 8 (zu ((zqM2 nn l r t (zqM1 nn l r t (zqM0 nn l r t L))) 8) c ((3 : Nat) : Int))) 3) w0) sz) (zR 3 0 0 70) 0 0 sz 314 [(0, .ref C), (1, .int (Int32.ofInt (c : Int))), (2, .int (Int32.ofInt 2)), (3, .int (Int32.ofInt (l : Int))), (4, .int (Int32.ofInt (r : Int))), (5, .int (Int32.ofInt ((3 : Nat) : Int))), (6, .int (Int32.ofInt 1)), (7, .int (Int32.ofInt 1)), (8, .int (Int32.ofInt (i : Int)))] [] (zqs G C 0 kd nn t tu ch ke (zlu (zqjp nn (zqjc nn r 0 11 (zqjc nn l 1 10 B))) 12 (zif (i : Int) (fun i => (zqjp nn (zqjc nn r 0 11 (zqjc nn l 1 10 B))) 12 i + (zqjp nn (zqjc nn r 0 11 (zqjc nn l 1 10 B))) 13 i) ((zqjp nn (zqjc nn r 0 11 (zqjc nn l 1 10 B))) 12))) w0)) ?_ st_314 0 (Nat.zero_le nn)
    refine V_iload d_Ref_join_314 rfl ?_
    refine V_aload_n d_Ref_join_316 rfl ?_
    refine V_getf d_Ref_join_317 ff_Ref_7 zqs_o rfl ?_
    refine J_icmp_ge 346 d_Ref_join_320 (by decide) (by omega) (by omega) (fun c_320 => ?_) (fun c_320 => absurd c_320 (by omega))
    exact V_lo [0, 1, 2, 3, 4, 5, 6, 7] rfl go
  have ps_21 : ∀ B : Nat → Int → Int, B 8 = L 8 → B 9 = L 9 → V G M_Ref_join (zdet (some (.int (Int32.ofInt ((3 : Nat) : Int)))) (zqs G C 0 kd nn t tu ch ke (zqb nn c (zlu (zqM2 nn l r t (zqM1 nn l r t (zqM0 nn l r t L))) 8 (zu ((zqM2 nn l r t (zqM1 nn l r t (zqM0 nn l r t L))) 8) c ((3 : Nat) : Int))) 3) w0) sz) (zR 3 0 0 70) 0 0 sz 346 [(0, .ref C), (1, .int (Int32.ofInt (c : Int))), (2, .int (Int32.ofInt 2)), (3, .int (Int32.ofInt (l : Int))), (4, .int (Int32.ofInt (r : Int))), (5, .int (Int32.ofInt ((3 : Nat) : Int))), (6, .int (Int32.ofInt 2)), (7, .int (Int32.ofInt 1))] [] (zqs G C 0 kd nn t tu ch ke (zqjP nn l 1 r 1 B) w0) → V G M_Ref_join (zdet (some (.int (Int32.ofInt ((3 : Nat) : Int)))) (zqs G C 0 kd nn t tu ch ke (zqb nn c (zlu (zqM2 nn l r t (zqM1 nn l r t (zqM0 nn l r t L))) 8 (zu ((zqM2 nn l r t (zqM1 nn l r t (zqM0 nn l r t L))) 8) c ((3 : Nat) : Int))) 3) w0) sz) (zR 3 0 0 70) 0 0 sz 269 [(0, .ref C), (1, .int (Int32.ofInt (c : Int))), (2, .int (Int32.ofInt 2)), (3, .int (Int32.ofInt (l : Int))), (4, .int (Int32.ofInt (r : Int))), (5, .int (Int32.ofInt ((3 : Nat) : Int))), (6, .int (Int32.ofInt 2)), (7, .int (Int32.ofInt 1))] [] (zqs G C 0 kd nn t tu ch ke B w0) := by
    intro B b8 b9 go
    have hb9 : ∀ j : Int, 0 ≤ j → j < 1536 → 0 ≤ B 9 j ∧ B 9 j < 268435399 := by rw [b9]; exact hPa
    refine V_aload_n d_Ref_join_269 rfl ?_
    refine V_iload_n d_Ref_join_270 rfl ?_
    refine V_iload d_Ref_join_271 rfl ?_
    refine V_aload_n d_Ref_join_273 rfl ?_
    refine V_getf d_Ref_join_274 ff_Ref_45 zqs_o rfl ?_
    refine V_callV (n := 3) d_Ref_join_277 g_Ref_187 rfl zqs_o rfl (r_centre G _ C 0 kd nn t tu ch ke B w0 nn rfl hn l 1 10 hl (by decide) (by unfold zqi; decide) (by show _ ≤ B 8 l ∧ B 8 l < _; rw [b8]; omega) (fun j hj => by have h := zqTk_b (c := l) (k := 1) (d := 10) (L := B) hl (by decide) hn hb9 hj; exact ⟨by omega, by omega⟩)) ⟨co_Ref_centre, by decide +kernel, Nat.le_of_ble_eq_true rfl⟩ ⟨Nat.le_of_ble_eq_true rfl, Nat.le_of_ble_eq_true rfl, Nat.le_of_ble_eq_true rfl, Nat.le_of_ble_eq_true rfl⟩ (Nat.le_of_ble_eq_true rfl) (fun r_277 w_277 s_277 q_277 => ?_) (fun _ _ _ q => False.elim q)
    obtain ⟨rfl, rfl, rfl⟩ := q_277
    refine V_aload_n d_Ref_join_280 rfl ?_
    refine V_iload d_Ref_join_281 rfl ?_
    refine V_iload d_Ref_join_283 rfl ?_
    refine V_iload d_Ref_join_285 rfl ?_
    refine J_isub d_Ref_join_287 ?_
    rw [show (2 : Int) - 1 = ((1 : Nat) : Int) from rfl]
    refine V_aload_n d_Ref_join_288 rfl ?_
    refine V_getf d_Ref_join_289 ff_Ref_48 zqs_o rfl ?_
    refine V_callV (n := 3) d_Ref_join_292 g_Ref_187 rfl zqs_o rfl (r_centre G _ C 0 kd nn t tu ch ke (zqjc nn l 1 10 B) w0 nn rfl hn r 1 11 hr (by decide) (by unfold zqi; decide) (by show _ ≤ B 8 r ∧ B 8 r < _; rw [b8]; omega) (fun j hj => by have h := zqTk_b (c := r) (k := 1) (d := 11) (L := (zqjc nn l 1 10 B)) hr (by decide) hn hb9 hj; exact ⟨by omega, by omega⟩)) ⟨co_Ref_centre, by decide +kernel, Nat.le_of_ble_eq_true rfl⟩ ⟨Nat.le_of_ble_eq_true rfl, Nat.le_of_ble_eq_true rfl, Nat.le_of_ble_eq_true rfl, Nat.le_of_ble_eq_true rfl⟩ (Nat.le_of_ble_eq_true rfl) (fun r_292 w_292 s_292 q_292 => ?_) (fun _ _ _ q => False.elim q)
    obtain ⟨rfl, rfl, rfl⟩ := q_292
    refine V_aload_n d_Ref_join_295 rfl ?_
    refine V_aload_n d_Ref_join_296 rfl ?_
    refine V_getf d_Ref_join_297 ff_Ref_45 zqs_o rfl ?_
    refine V_aload_n d_Ref_join_300 rfl ?_
    refine V_getf d_Ref_join_301 ff_Ref_48 zqs_o rfl ?_
    refine V_aload_n d_Ref_join_304 rfl ?_
    refine V_getf d_Ref_join_305 ff_Ref_54 zqs_o rfl ?_
    refine V_callV (n := 3) d_Ref_join_308 g_Ref_120 rfl zqs_o rfl (r_product G _ C 0 kd nn t tu ch ke (zqjc nn r 1 11 (zqjc nn l 1 10 B)) w0 nn rfl hn 10 11 13 (by unfold zqi; decide) (by unfold zqi; decide) (by unfold zqi; decide) (by decide) (by decide)) ⟨co_Ref_product, by decide +kernel, Nat.le_of_ble_eq_true rfl⟩ ⟨Nat.le_of_ble_eq_true rfl, Nat.le_of_ble_eq_true rfl, Nat.le_of_ble_eq_true rfl, Nat.le_of_ble_eq_true rfl⟩ (Nat.le_of_ble_eq_true rfl) (fun r_308 w_308 s_308 q_308 => ?_) (fun _ _ _ q => False.elim q)
    obtain ⟨rfl, rfl, rfl⟩ := q_308
    refine V_iconst d_Ref_join_311 ?_
    refine V_istore d_Ref_join_312 (by decide) ?_
    refine V_w (w' := (zqs G C 0 kd nn t tu ch ke (zlu (zqjp nn (zqjc nn r 1 11 (zqjc nn l 1 10 B))) 12 (zif ((0 : Nat) : Int) (fun i => (zqjp nn (zqjc nn r 1 11 (zqjc nn l 1 10 B))) 12 i + (zqjp nn (zqjc nn r 1 11 (zqjc nn l 1 10 B))) 13 i) ((zqjp nn (zqjc nn r 1 11 (zqjc nn l 1 10 B))) 12))) w0)) (by rw [show ((0 : Nat) : Int) = 0 from rfl, zif_0, zlu_self] <;> rfl) ?_
    have st_314 : ∀ i : Nat, i < nn → (fun i : Nat => V G M_Ref_join (zdet (some (.int (Int32.ofInt ((3 : Nat) : Int)))) (zqs G C 0 kd nn t tu ch ke (zqb nn c (zlu (zqM2 nn l r t (zqM1 nn l r t (zqM0 nn l r t L))) 8 (zu ((zqM2 nn l r t (zqM1 nn l r t (zqM0 nn l r t L))) 8) c ((3 : Nat) : Int))) 3) w0) sz) (zR 3 0 0 70) 0 0 sz 314 [(0, .ref C), (1, .int (Int32.ofInt (c : Int))), (2, .int (Int32.ofInt 2)), (3, .int (Int32.ofInt (l : Int))), (4, .int (Int32.ofInt (r : Int))), (5, .int (Int32.ofInt ((3 : Nat) : Int))), (6, .int (Int32.ofInt 2)), (7, .int (Int32.ofInt 1)), (8, .int (Int32.ofInt (i : Int)))] [] (zqs G C 0 kd nn t tu ch ke (zlu (zqjp nn (zqjc nn r 1 11 (zqjc nn l 1 10 B))) 12 (zif (i : Int) (fun i => (zqjp nn (zqjc nn r 1 11 (zqjc nn l 1 10 B))) 12 i + (zqjp nn (zqjc nn r 1 11 (zqjc nn l 1 10 B))) 13 i) ((zqjp nn (zqjc nn r 1 11 (zqjc nn l 1 10 B))) 12))) w0)) (i + 1) → (fun i : Nat => V G M_Ref_join (zdet (some (.int (Int32.ofInt ((3 : Nat) : Int)))) (zqs G C 0 kd nn t tu ch ke (zqb nn c (zlu (zqM2 nn l r t (zqM1 nn l r t (zqM0 nn l r t L))) 8 (zu ((zqM2 nn l r t (zqM1 nn l r t (zqM0 nn l r t L))) 8) c ((3 : Nat) : Int))) 3) w0) sz) (zR 3 0 0 70) 0 0 sz 314 [(0, .ref C), (1, .int (Int32.ofInt (c : Int))), (2, .int (Int32.ofInt 2)), (3, .int (Int32.ofInt (l : Int))), (4, .int (Int32.ofInt (r : Int))), (5, .int (Int32.ofInt ((3 : Nat) : Int))), (6, .int (Int32.ofInt 2)), (7, .int (Int32.ofInt 1)), (8, .int (Int32.ofInt (i : Int)))] [] (zqs G C 0 kd nn t tu ch ke (zlu (zqjp nn (zqjc nn r 1 11 (zqjc nn l 1 10 B))) 12 (zif (i : Int) (fun i => (zqjp nn (zqjc nn r 1 11 (zqjc nn l 1 10 B))) 12 i + (zqjp nn (zqjc nn r 1 11 (zqjc nn l 1 10 B))) 13 i) ((zqjp nn (zqjc nn r 1 11 (zqjc nn l 1 10 B))) 12))) w0)) i := by
      intro i hi ih
      refine V_iload d_Ref_join_314 rfl ?_
      refine V_aload_n d_Ref_join_316 rfl ?_
      refine V_getf d_Ref_join_317 ff_Ref_7 zqs_o rfl ?_
      refine J_icmp_ge 346 d_Ref_join_320 (by decide) (by omega) (by omega) (fun c_320 => absurd c_320 (by omega)) (fun c_320 => ?_)
      refine V_aload_n d_Ref_join_323 rfl ?_
      refine V_getf d_Ref_join_324 ff_Ref_51 zqs_o rfl ?_
      refine V_iload d_Ref_join_327 rfl ?_
      refine V_dup2 d_Ref_join_329 rfl rfl ?_
      refine J_laload d_Ref_join_330 (zqs_r (j := 12) (by unfold zqi; decide)) (by omega) (by decide) ?_
      refine V_aload_n d_Ref_join_331 rfl ?_
      refine V_getf d_Ref_join_332 ff_Ref_54 zqs_o rfl ?_
      refine V_iload d_Ref_join_335 rfl ?_
      refine J_laload d_Ref_join_337 (zqs_r (j := 13) (by unfold zqi; decide)) (by omega) (by decide) ?_
      rw [zlu_s, zlu_n (show 13 ≠ 12 by decide), zif_r (show ¬ (0 ≤ (i : Int) ∧ (i : Int) < i) by omega)]
      refine J_ladd d_Ref_join_338 ?_
      refine J_lastore d_Ref_join_339 (zqs_r (j := 12) (by unfold zqi; decide)) (by omega) (by decide) ?_
      refine J_iinc d_Ref_join_340 rfl (by decide) ?_
      refine V_goto 314 d_Ref_join_343 (by decide) ?_
      exact V_w (by rw [zqs_lu (by unfold zqi; decide), zlu_s, zif_s (by omega) rfl, zlu_lu] <;> rfl) ih
    refine zfor nn (fun i : Nat => V G M_Ref_join (zdet (some (.int (Int32.ofInt ((3 : Nat) : Int)))) (zqs G C 0 kd nn t tu ch ke (zqb nn c (zlu (zqM2 nn l r t (zqM1 nn l r t (zqM0 nn l r t L))) 8 (zu ((zqM2 nn l r t (zqM1 nn l r t (zqM0 nn l r t L))) 8) c ((3 : Nat) : Int))) 3) w0) sz) (zR 3 0 0 70) 0 0 sz 314 [(0, .ref C), (1, .int (Int32.ofInt (c : Int))), (2, .int (Int32.ofInt 2)), (3, .int (Int32.ofInt (l : Int))), (4, .int (Int32.ofInt (r : Int))), (5, .int (Int32.ofInt ((3 : Nat) : Int))), (6, .int (Int32.ofInt 2)), (7, .int (Int32.ofInt 1)), (8, .int (Int32.ofInt (i : Int)))] [] (zqs G C 0 kd nn t tu ch ke (zlu (zqjp nn (zqjc nn r 1 11 (zqjc nn l 1 10 B))) 12 (zif (i : Int) (fun i => (zqjp nn (zqjc nn r 1 11 (zqjc nn l 1 10 B))) 12 i + (zqjp nn (zqjc nn r 1 11 (zqjc nn l 1 10 B))) 13 i) ((zqjp nn (zqjc nn r 1 11 (zqjc nn l 1 10 B))) 12))) w0)) ?_ st_314 0 (Nat.zero_le nn)
    refine V_iload d_Ref_join_314 rfl ?_
    refine V_aload_n d_Ref_join_316 rfl ?_
    refine V_getf d_Ref_join_317 ff_Ref_7 zqs_o rfl ?_
    refine J_icmp_ge 346 d_Ref_join_320 (by decide) (by omega) (by omega) (fun c_320 => ?_) (fun c_320 => absurd c_320 (by omega))
    exact V_lo [0, 1, 2, 3, 4, 5, 6, 7] rfl go
  have kp_0 : ∀ B : Nat → Int → Int, B 8 = L 8 → B 9 = L 9 → V G M_Ref_join (zdet (some (.int (Int32.ofInt ((3 : Nat) : Int)))) (zqs G C 0 kd nn t tu ch ke (zqb nn c (zlu (zqM2 nn l r t (zqM1 nn l r t (zqM0 nn l r t L))) 8 (zu ((zqM2 nn l r t (zqM1 nn l r t (zqM0 nn l r t L))) 8) c ((3 : Nat) : Int))) 3) w0) sz) (zR 3 0 0 70) 0 0 sz 115 [(0, .ref C), (1, .int (Int32.ofInt (c : Int))), (2, .int (Int32.ofInt 2)), (3, .int (Int32.ofInt (l : Int))), (4, .int (Int32.ofInt (r : Int))), (5, .int (Int32.ofInt ((3 : Nat) : Int))), (6, .int (Int32.ofInt 1))] [] (zqs G C 0 kd nn t tu ch ke (zqM0 nn l r t B) w0) → V G M_Ref_join (zdet (some (.int (Int32.ofInt ((3 : Nat) : Int)))) (zqs G C 0 kd nn t tu ch ke (zqb nn c (zlu (zqM2 nn l r t (zqM1 nn l r t (zqM0 nn l r t L))) 8 (zu ((zqM2 nn l r t (zqM1 nn l r t (zqM0 nn l r t L))) 8) c ((3 : Nat) : Int))) 3) w0) sz) (zR 3 0 0 70) 0 0 sz 115 [(0, .ref C), (1, .int (Int32.ofInt (c : Int))), (2, .int (Int32.ofInt 2)), (3, .int (Int32.ofInt (l : Int))), (4, .int (Int32.ofInt (r : Int))), (5, .int (Int32.ofInt ((3 : Nat) : Int))), (6, .int (Int32.ofInt 0))] [] (zqs G C 0 kd nn t tu ch ke B w0) := by
    intro B b8 b9 go
    have hv : ∀ i : Nat, i < nn → -9223372036854775808 < (zqjP nn l 0 r 0 (zqZ nn B)) 12 i ∧ (zqjP nn l 0 r 0 (zqZ nn B)) 12 i < 9223372036854775808 := fun i hi => (hX B b8 b9 i hi).1
    have tail : V G M_Ref_join (zdet (some (.int (Int32.ofInt ((3 : Nat) : Int)))) (zqs G C 0 kd nn t tu ch ke (zqb nn c (zlu (zqM2 nn l r t (zqM1 nn l r t (zqM0 nn l r t L))) 8 (zu ((zqM2 nn l r t (zqM1 nn l r t (zqM0 nn l r t L))) 8) c ((3 : Nat) : Int))) 3) w0) sz) (zR 3 0 0 70) 0 0 sz 352 [(0, .ref C), (1, .int (Int32.ofInt (c : Int))), (2, .int (Int32.ofInt 2)), (3, .int (Int32.ofInt (l : Int))), (4, .int (Int32.ofInt (r : Int))), (5, .int (Int32.ofInt ((3 : Nat) : Int))), (6, .int (Int32.ofInt 0)), (7, .int (Int32.ofInt 2))] [] (zqs G C 0 kd nn t tu ch ke (zqjP nn l 0 r 0 (zqZ nn B)) w0) := by
      have tl : ∀ W : Nat → Int → Int, (∀ i : Nat, i < nn → -9223372036854775808 < W 12 i ∧ W 12 i < 9223372036854775808) → V G M_Ref_join (zdet (some (.int (Int32.ofInt ((3 : Nat) : Int)))) (zqs G C 0 kd nn t tu ch ke (zqb nn c (zlu (zqM2 nn l r t (zqM1 nn l r t (zqM0 nn l r t L))) 8 (zu ((zqM2 nn l r t (zqM1 nn l r t (zqM0 nn l r t L))) 8) c ((3 : Nat) : Int))) 3) w0) sz) (zR 3 0 0 70) 0 0 sz 115 [(0, .ref C), (1, .int (Int32.ofInt (c : Int))), (2, .int (Int32.ofInt 2)), (3, .int (Int32.ofInt (l : Int))), (4, .int (Int32.ofInt (r : Int))), (5, .int (Int32.ofInt ((3 : Nat) : Int))), (6, .int (Int32.ofInt 1))] [] (zqs G C 0 kd nn t tu ch ke (zqw nn 0 (zqjS nn t W)) w0) → V G M_Ref_join (zdet (some (.int (Int32.ofInt ((3 : Nat) : Int)))) (zqs G C 0 kd nn t tu ch ke (zqb nn c (zlu (zqM2 nn l r t (zqM1 nn l r t (zqM0 nn l r t L))) 8 (zu ((zqM2 nn l r t (zqM1 nn l r t (zqM0 nn l r t L))) 8) c ((3 : Nat) : Int))) 3) w0) sz) (zR 3 0 0 70) 0 0 sz 352 [(0, .ref C), (1, .int (Int32.ofInt (c : Int))), (2, .int (Int32.ofInt 2)), (3, .int (Int32.ofInt (l : Int))), (4, .int (Int32.ofInt (r : Int))), (5, .int (Int32.ofInt ((3 : Nat) : Int))), (6, .int (Int32.ofInt 0)), (7, .int (Int32.ofInt 2))] [] (zqs G C 0 kd nn t tu ch ke W w0) := by
        intro W hw go
        refine V_iconst d_Ref_join_352 ?_
        refine V_istore d_Ref_join_353 (by decide) ?_
        refine V_w (w' := (zqs G C 0 kd nn t tu ch ke (zlu W 12 (zif ((0 : Nat) : Int) (fun i => zts t (W 12 i)) (W 12))) w0)) (by rw [show ((0 : Nat) : Int) = 0 from rfl, zif_0, zlu_self] <;> rfl) ?_
        have st_355 : ∀ i : Nat, i < nn → (fun i : Nat => V G M_Ref_join (zdet (some (.int (Int32.ofInt ((3 : Nat) : Int)))) (zqs G C 0 kd nn t tu ch ke (zqb nn c (zlu (zqM2 nn l r t (zqM1 nn l r t (zqM0 nn l r t L))) 8 (zu ((zqM2 nn l r t (zqM1 nn l r t (zqM0 nn l r t L))) 8) c ((3 : Nat) : Int))) 3) w0) sz) (zR 3 0 0 70) 0 0 sz 355 [(0, .ref C), (1, .int (Int32.ofInt (c : Int))), (2, .int (Int32.ofInt 2)), (3, .int (Int32.ofInt (l : Int))), (4, .int (Int32.ofInt (r : Int))), (5, .int (Int32.ofInt ((3 : Nat) : Int))), (6, .int (Int32.ofInt 0)), (7, .int (Int32.ofInt (i : Int)))] [] (zqs G C 0 kd nn t tu ch ke (zlu W 12 (zif (i : Int) (fun i => zts t (W 12 i)) (W 12))) w0)) (i + 1) → (fun i : Nat => V G M_Ref_join (zdet (some (.int (Int32.ofInt ((3 : Nat) : Int)))) (zqs G C 0 kd nn t tu ch ke (zqb nn c (zlu (zqM2 nn l r t (zqM1 nn l r t (zqM0 nn l r t L))) 8 (zu ((zqM2 nn l r t (zqM1 nn l r t (zqM0 nn l r t L))) 8) c ((3 : Nat) : Int))) 3) w0) sz) (zR 3 0 0 70) 0 0 sz 355 [(0, .ref C), (1, .int (Int32.ofInt (c : Int))), (2, .int (Int32.ofInt 2)), (3, .int (Int32.ofInt (l : Int))), (4, .int (Int32.ofInt (r : Int))), (5, .int (Int32.ofInt ((3 : Nat) : Int))), (6, .int (Int32.ofInt 0)), (7, .int (Int32.ofInt (i : Int)))] [] (zqs G C 0 kd nn t tu ch ke (zlu W 12 (zif (i : Int) (fun i => zts t (W 12 i)) (W 12))) w0)) i := by
          intro i hi ih
          refine V_iload d_Ref_join_355 rfl ?_
          refine V_aload_n d_Ref_join_357 rfl ?_
          refine V_getf d_Ref_join_358 ff_Ref_7 zqs_o rfl ?_
          refine J_icmp_ge 388 d_Ref_join_361 (by decide) (by omega) (by omega) (fun c_361 => absurd c_361 (by omega)) (fun c_361 => ?_)
          refine V_aload_n d_Ref_join_364 rfl ?_
          refine V_getf d_Ref_join_365 ff_Ref_51 zqs_o rfl ?_
          refine V_iload d_Ref_join_368 rfl ?_
          refine V_aload_n d_Ref_join_370 rfl ?_
          refine V_aload_n d_Ref_join_371 rfl ?_
          refine V_getf d_Ref_join_372 ff_Ref_51 zqs_o rfl ?_
          refine V_iload d_Ref_join_375 rfl ?_
          refine J_laload d_Ref_join_377 (zqs_r (j := 12) (by unfold zqi; decide)) (by omega) (by decide) ?_
          rw [zlu_s, zif_r (show ¬ (0 ≤ (i : Int) ∧ (i : Int) < i) by omega)]
          refine V_callV (n := 1) d_Ref_join_378 g_Ref_182 rfl zqs_o rfl (r_scaled G _ C 0 kd nn t tu ch ke (zlu W 12 (zif (i : Int) (fun i => zts t (W 12 i)) (W 12))) w0 (W 12 i) (by omega) (hw i hi)) ⟨co_Ref_scaled, by decide +kernel, Nat.le_of_ble_eq_true rfl⟩ ⟨Nat.le_of_ble_eq_true rfl, Nat.le_of_ble_eq_true rfl, Nat.le_of_ble_eq_true rfl, Nat.le_of_ble_eq_true rfl⟩ (Nat.le_of_ble_eq_true rfl) (fun r_378 w_378 s_378 q_378 => ?_) (fun _ _ _ q => False.elim q)
          obtain ⟨rfl, rfl, rfl⟩ := q_378
          refine J_lastore d_Ref_join_381 (zqs_r (j := 12) (by unfold zqi; decide)) (by omega) (by decide) ?_
          refine J_iinc d_Ref_join_382 rfl (by decide) ?_
          refine V_goto 355 d_Ref_join_385 (by decide) ?_
          exact V_w (by rw [zqs_lu (by unfold zqi; decide), zlu_s, zif_s (by omega) rfl, zlu_lu] <;> rfl) ih
        refine zfor nn (fun i : Nat => V G M_Ref_join (zdet (some (.int (Int32.ofInt ((3 : Nat) : Int)))) (zqs G C 0 kd nn t tu ch ke (zqb nn c (zlu (zqM2 nn l r t (zqM1 nn l r t (zqM0 nn l r t L))) 8 (zu ((zqM2 nn l r t (zqM1 nn l r t (zqM0 nn l r t L))) 8) c ((3 : Nat) : Int))) 3) w0) sz) (zR 3 0 0 70) 0 0 sz 355 [(0, .ref C), (1, .int (Int32.ofInt (c : Int))), (2, .int (Int32.ofInt 2)), (3, .int (Int32.ofInt (l : Int))), (4, .int (Int32.ofInt (r : Int))), (5, .int (Int32.ofInt ((3 : Nat) : Int))), (6, .int (Int32.ofInt 0)), (7, .int (Int32.ofInt (i : Int)))] [] (zqs G C 0 kd nn t tu ch ke (zlu W 12 (zif (i : Int) (fun i => zts t (W 12 i)) (W 12))) w0)) ?_ st_355 0 (Nat.zero_le nn)
        refine V_iload d_Ref_join_355 rfl ?_
        refine V_aload_n d_Ref_join_357 rfl ?_
        refine V_getf d_Ref_join_358 ff_Ref_7 zqs_o rfl ?_
        refine J_icmp_ge 388 d_Ref_join_361 (by decide) (by omega) (by omega) (fun c_361 => ?_) (fun c_361 => absurd c_361 (by omega))
        refine V_iconst d_Ref_join_388 ?_
        refine V_istore d_Ref_join_389 (by decide) ?_
        refine V_lo [0, 1, 2, 3, 4, 5, 6, 7] rfl ?_
        refine V_w (w' := (zqs G C 0 kd nn t tu ch ke (zlu (zqjS nn t W) 15 (zsf (32 * 0) (((0 : Nat) : Int) : Int) ((zqjS nn t W) 12) ((zqjS nn t W) 15))) w0)) (by rw [show ((0 : Nat) : Int) = 0 from rfl, zsf_0, zlu_self] <;> rfl) ?_
        have st_391 : ∀ i : Nat, i < nn → (fun i : Nat => V G M_Ref_join (zdet (some (.int (Int32.ofInt ((3 : Nat) : Int)))) (zqs G C 0 kd nn t tu ch ke (zqb nn c (zlu (zqM2 nn l r t (zqM1 nn l r t (zqM0 nn l r t L))) 8 (zu ((zqM2 nn l r t (zqM1 nn l r t (zqM0 nn l r t L))) 8) c ((3 : Nat) : Int))) 3) w0) sz) (zR 3 0 0 70) 0 0 sz 391 [(0, .ref C), (1, .int (Int32.ofInt (c : Int))), (2, .int (Int32.ofInt 2)), (3, .int (Int32.ofInt (l : Int))), (4, .int (Int32.ofInt (r : Int))), (5, .int (Int32.ofInt ((3 : Nat) : Int))), (6, .int (Int32.ofInt 0)), (7, .int (Int32.ofInt (i : Int)))] [] (zqs G C 0 kd nn t tu ch ke (zlu (zqjS nn t W) 15 (zsf (32 * 0) (i : Int) ((zqjS nn t W) 12) ((zqjS nn t W) 15))) w0)) (i + 1) → (fun i : Nat => V G M_Ref_join (zdet (some (.int (Int32.ofInt ((3 : Nat) : Int)))) (zqs G C 0 kd nn t tu ch ke (zqb nn c (zlu (zqM2 nn l r t (zqM1 nn l r t (zqM0 nn l r t L))) 8 (zu ((zqM2 nn l r t (zqM1 nn l r t (zqM0 nn l r t L))) 8) c ((3 : Nat) : Int))) 3) w0) sz) (zR 3 0 0 70) 0 0 sz 391 [(0, .ref C), (1, .int (Int32.ofInt (c : Int))), (2, .int (Int32.ofInt 2)), (3, .int (Int32.ofInt (l : Int))), (4, .int (Int32.ofInt (r : Int))), (5, .int (Int32.ofInt ((3 : Nat) : Int))), (6, .int (Int32.ofInt 0)), (7, .int (Int32.ofInt (i : Int)))] [] (zqs G C 0 kd nn t tu ch ke (zlu (zqjS nn t W) 15 (zsf (32 * 0) (i : Int) ((zqjS nn t W) 12) ((zqjS nn t W) 15))) w0)) i := by
          intro i hi ih2
          refine V_iload d_Ref_join_391 rfl ?_
          refine V_aload_n d_Ref_join_393 rfl ?_
          refine V_getf d_Ref_join_394 ff_Ref_7 zqs_o rfl ?_
          refine J_icmp_ge 426 d_Ref_join_397 (by decide) (by omega) (by omega) (fun c_397 => absurd c_397 (by omega)) (fun c_397 => ?_)
          refine V_aload_n d_Ref_join_400 rfl ?_
          refine V_getf d_Ref_join_401 ff_Ref_60 zqs_o rfl ?_
          refine J_bipush d_Ref_join_404 (by decide) ?_
          refine V_iload d_Ref_join_406 rfl ?_
          refine J_imul d_Ref_join_408 ?_
          refine V_iload d_Ref_join_409 rfl ?_
          refine J_iadd d_Ref_join_411 ?_
          refine V_aload_n d_Ref_join_412 rfl ?_
          refine V_getf d_Ref_join_413 ff_Ref_51 zqs_o rfl ?_
          refine V_iload d_Ref_join_416 rfl ?_
          refine J_laload d_Ref_join_418 (zqs_r (j := 12) (by unfold zqi; decide)) (by omega) (by decide) ?_
          rw [zlu_n (show 12 ≠ 15 by decide)]
          refine J_lastore d_Ref_join_419 zqs_a15 (by omega) (by decide) ?_
          refine J_iinc d_Ref_join_420 rfl (by decide) ?_
          refine V_goto 391 d_Ref_join_423 (by decide) ?_
          exact V_w (by rw [zqs_u15, zlu_s, zsf_s (by omega) rfl, zlu_lu] <;> rfl) ih2
        refine zfor nn (fun i : Nat => V G M_Ref_join (zdet (some (.int (Int32.ofInt ((3 : Nat) : Int)))) (zqs G C 0 kd nn t tu ch ke (zqb nn c (zlu (zqM2 nn l r t (zqM1 nn l r t (zqM0 nn l r t L))) 8 (zu ((zqM2 nn l r t (zqM1 nn l r t (zqM0 nn l r t L))) 8) c ((3 : Nat) : Int))) 3) w0) sz) (zR 3 0 0 70) 0 0 sz 391 [(0, .ref C), (1, .int (Int32.ofInt (c : Int))), (2, .int (Int32.ofInt 2)), (3, .int (Int32.ofInt (l : Int))), (4, .int (Int32.ofInt (r : Int))), (5, .int (Int32.ofInt ((3 : Nat) : Int))), (6, .int (Int32.ofInt 0)), (7, .int (Int32.ofInt (i : Int)))] [] (zqs G C 0 kd nn t tu ch ke (zlu (zqjS nn t W) 15 (zsf (32 * 0) (i : Int) ((zqjS nn t W) 12) ((zqjS nn t W) 15))) w0)) ?_ st_391 0 (Nat.zero_le nn)
        refine V_iload d_Ref_join_391 rfl ?_
        refine V_aload_n d_Ref_join_393 rfl ?_
        refine V_getf d_Ref_join_394 ff_Ref_7 zqs_o rfl ?_
        refine J_icmp_ge 426 d_Ref_join_397 (by decide) (by omega) (by omega) (fun c_397 => ?_) (fun c_397 => absurd c_397 (by omega))
        refine J_iinc d_Ref_join_426 rfl (by decide) ?_
        refine V_goto 115 d_Ref_join_429 (by decide) ?_
        exact V_lo [0, 1, 2, 3, 4, 5, 6] rfl go
      exact tl (zqjP nn l 0 r 0 (zqZ nn B)) hv go
    refine V_iload d_Ref_join_115 rfl ?_
    refine V_iconst d_Ref_join_117 ?_
    refine J_icmp_ge 432 d_Ref_join_118 (by decide) (by decide) (by decide) (fun c_118 => absurd c_118 (by decide)) (fun c_118 => ?_)
    refine V_iconst d_Ref_join_121 ?_
    refine V_istore d_Ref_join_122 (by decide) ?_
    refine V_w (w' := (zqs G C 0 kd nn t tu ch ke (zlu B 12 (zif ((0 : Nat) : Int) (fun _ => 0) (B 12))) w0)) (by rw [show ((0 : Nat) : Int) = 0 from rfl, zif_0, zlu_self] <;> rfl) ?_
    have st_124 : ∀ i : Nat, i < nn → (fun i : Nat => V G M_Ref_join (zdet (some (.int (Int32.ofInt ((3 : Nat) : Int)))) (zqs G C 0 kd nn t tu ch ke (zqb nn c (zlu (zqM2 nn l r t (zqM1 nn l r t (zqM0 nn l r t L))) 8 (zu ((zqM2 nn l r t (zqM1 nn l r t (zqM0 nn l r t L))) 8) c ((3 : Nat) : Int))) 3) w0) sz) (zR 3 0 0 70) 0 0 sz 124 [(0, .ref C), (1, .int (Int32.ofInt (c : Int))), (2, .int (Int32.ofInt 2)), (3, .int (Int32.ofInt (l : Int))), (4, .int (Int32.ofInt (r : Int))), (5, .int (Int32.ofInt ((3 : Nat) : Int))), (6, .int (Int32.ofInt 0)), (7, .int (Int32.ofInt (i : Int)))] [] (zqs G C 0 kd nn t tu ch ke (zlu B 12 (zif (i : Int) (fun _ => 0) (B 12))) w0)) (i + 1) → (fun i : Nat => V G M_Ref_join (zdet (some (.int (Int32.ofInt ((3 : Nat) : Int)))) (zqs G C 0 kd nn t tu ch ke (zqb nn c (zlu (zqM2 nn l r t (zqM1 nn l r t (zqM0 nn l r t L))) 8 (zu ((zqM2 nn l r t (zqM1 nn l r t (zqM0 nn l r t L))) 8) c ((3 : Nat) : Int))) 3) w0) sz) (zR 3 0 0 70) 0 0 sz 124 [(0, .ref C), (1, .int (Int32.ofInt (c : Int))), (2, .int (Int32.ofInt 2)), (3, .int (Int32.ofInt (l : Int))), (4, .int (Int32.ofInt (r : Int))), (5, .int (Int32.ofInt ((3 : Nat) : Int))), (6, .int (Int32.ofInt 0)), (7, .int (Int32.ofInt (i : Int)))] [] (zqs G C 0 kd nn t tu ch ke (zlu B 12 (zif (i : Int) (fun _ => 0) (B 12))) w0)) i := by
      intro i hi ih
      refine V_iload d_Ref_join_124 rfl ?_
      refine V_aload_n d_Ref_join_126 rfl ?_
      refine V_getf d_Ref_join_127 ff_Ref_7 zqs_o rfl ?_
      refine J_icmp_ge 147 d_Ref_join_130 (by decide) (by omega) (by omega) (fun c_130 => absurd c_130 (by omega)) (fun c_130 => ?_)
      refine V_aload_n d_Ref_join_133 rfl ?_
      refine V_getf d_Ref_join_134 ff_Ref_51 zqs_o rfl ?_
      refine V_iload d_Ref_join_137 rfl ?_
      refine J_lconst (z := 0) d_Ref_join_139 rfl ?_
      refine J_lastore d_Ref_join_140 (zqs_r (j := 12) (by unfold zqi; decide)) (by omega) (by decide) ?_
      refine J_iinc d_Ref_join_141 rfl (by decide) ?_
      refine V_goto 124 d_Ref_join_144 (by decide) ?_
      exact V_w (by rw [zqs_lu (by unfold zqi; decide), zlu_s, zif_s (by omega) rfl, zlu_lu] <;> rfl) ih
    refine zfor nn (fun i : Nat => V G M_Ref_join (zdet (some (.int (Int32.ofInt ((3 : Nat) : Int)))) (zqs G C 0 kd nn t tu ch ke (zqb nn c (zlu (zqM2 nn l r t (zqM1 nn l r t (zqM0 nn l r t L))) 8 (zu ((zqM2 nn l r t (zqM1 nn l r t (zqM0 nn l r t L))) 8) c ((3 : Nat) : Int))) 3) w0) sz) (zR 3 0 0 70) 0 0 sz 124 [(0, .ref C), (1, .int (Int32.ofInt (c : Int))), (2, .int (Int32.ofInt 2)), (3, .int (Int32.ofInt (l : Int))), (4, .int (Int32.ofInt (r : Int))), (5, .int (Int32.ofInt ((3 : Nat) : Int))), (6, .int (Int32.ofInt 0)), (7, .int (Int32.ofInt (i : Int)))] [] (zqs G C 0 kd nn t tu ch ke (zlu B 12 (zif (i : Int) (fun _ => 0) (B 12))) w0)) ?_ st_124 0 (Nat.zero_le nn)
    refine V_iload d_Ref_join_124 rfl ?_
    refine V_aload_n d_Ref_join_126 rfl ?_
    refine V_getf d_Ref_join_127 ff_Ref_7 zqs_o rfl ?_
    refine J_icmp_ge 147 d_Ref_join_130 (by decide) (by omega) (by omega) (fun c_130 => ?_) (fun c_130 => absurd c_130 (by omega))
    refine V_iload_n d_Ref_join_147 rfl ?_
    refine V_iconst d_Ref_join_148 ?_
    refine J_icmp_ge 240 d_Ref_join_149 (by decide) (by decide) (by decide) (fun c_149 => ?_) (fun c_149 => absurd c_149 (by decide))
    refine V_iconst d_Ref_join_240 ?_
    refine V_istore d_Ref_join_241 (by decide) ?_
    refine V_lo (lo' := [(0, .ref C), (1, .int (Int32.ofInt (c : Int))), (2, .int (Int32.ofInt 2)), (3, .int (Int32.ofInt (l : Int))), (4, .int (Int32.ofInt (r : Int))), (5, .int (Int32.ofInt ((3 : Nat) : Int))), (6, .int (Int32.ofInt 0)), (7, .int (Int32.ofInt 0))]) [0, 1, 2, 3, 4, 5, 6, 7] rfl ?_
    refine V_iload d_Ref_join_243 rfl ?_
    refine V_iconst d_Ref_join_245 ?_
    refine J_icmp_ge 352 d_Ref_join_246 (by decide) (by decide) (by decide) (fun c_246 => absurd c_246 (by decide)) (fun c_246 => ?_)
    refine V_iload d_Ref_join_249 rfl ?_
    refine V_iload d_Ref_join_251 rfl ?_
    refine J_isub d_Ref_join_253 ?_
    refine J_if_lt 346 d_Ref_join_254 (by decide) (by decide) (fun c_254 => absurd c_254 (by decide)) (fun c_254 => ?_)
    refine V_iload d_Ref_join_257 rfl ?_
    refine V_iload d_Ref_join_259 rfl ?_
    refine J_isub d_Ref_join_261 ?_
    refine V_iconst d_Ref_join_262 ?_
    refine J_icmp_le 269 d_Ref_join_263 (by decide) (by decide) (by decide) (fun c_263 => ?_) (fun c_263 => absurd c_263 (by decide))
    refine ps_00 (zqZ nn B) ((zqZ_o (by decide)).trans b8) ((zqZ_o (by decide)).trans b9) ?_
    refine J_iinc d_Ref_join_346 rfl (by decide) ?_
    refine V_goto 243 d_Ref_join_349 (by decide) ?_
    refine V_lo (lo' := [(0, .ref C), (1, .int (Int32.ofInt (c : Int))), (2, .int (Int32.ofInt 2)), (3, .int (Int32.ofInt (l : Int))), (4, .int (Int32.ofInt (r : Int))), (5, .int (Int32.ofInt ((3 : Nat) : Int))), (6, .int (Int32.ofInt 0)), (7, .int (Int32.ofInt 1))]) [0, 1, 2, 3, 4, 5, 6, 7] rfl ?_
    refine V_iload d_Ref_join_243 rfl ?_
    refine V_iconst d_Ref_join_245 ?_
    refine J_icmp_ge 352 d_Ref_join_246 (by decide) (by decide) (by decide) (fun c_246 => absurd c_246 (by decide)) (fun c_246 => ?_)
    refine V_iload d_Ref_join_249 rfl ?_
    refine V_iload d_Ref_join_251 rfl ?_
    refine J_isub d_Ref_join_253 ?_
    refine J_if_lt 346 d_Ref_join_254 (by decide) (by decide) (fun c_254 => ?_) (fun c_254 => absurd c_254 (by decide))
    refine J_iinc d_Ref_join_346 rfl (by decide) ?_
    refine V_goto 243 d_Ref_join_349 (by decide) ?_
    refine V_lo (lo' := [(0, .ref C), (1, .int (Int32.ofInt (c : Int))), (2, .int (Int32.ofInt 2)), (3, .int (Int32.ofInt (l : Int))), (4, .int (Int32.ofInt (r : Int))), (5, .int (Int32.ofInt ((3 : Nat) : Int))), (6, .int (Int32.ofInt 0)), (7, .int (Int32.ofInt 2))]) [0, 1, 2, 3, 4, 5, 6, 7] rfl ?_
    refine V_iload d_Ref_join_243 rfl ?_
    refine V_iconst d_Ref_join_245 ?_
    refine J_icmp_ge 352 d_Ref_join_246 (by decide) (by decide) (by decide) (fun c_246 => ?_) (fun c_246 => absurd c_246 (by decide))
    exact tail
  have kp_1 : ∀ B : Nat → Int → Int, B 8 = L 8 → B 9 = L 9 → V G M_Ref_join (zdet (some (.int (Int32.ofInt ((3 : Nat) : Int)))) (zqs G C 0 kd nn t tu ch ke (zqb nn c (zlu (zqM2 nn l r t (zqM1 nn l r t (zqM0 nn l r t L))) 8 (zu ((zqM2 nn l r t (zqM1 nn l r t (zqM0 nn l r t L))) 8) c ((3 : Nat) : Int))) 3) w0) sz) (zR 3 0 0 70) 0 0 sz 115 [(0, .ref C), (1, .int (Int32.ofInt (c : Int))), (2, .int (Int32.ofInt 2)), (3, .int (Int32.ofInt (l : Int))), (4, .int (Int32.ofInt (r : Int))), (5, .int (Int32.ofInt ((3 : Nat) : Int))), (6, .int (Int32.ofInt 2))] [] (zqs G C 0 kd nn t tu ch ke (zqM1 nn l r t B) w0) → V G M_Ref_join (zdet (some (.int (Int32.ofInt ((3 : Nat) : Int)))) (zqs G C 0 kd nn t tu ch ke (zqb nn c (zlu (zqM2 nn l r t (zqM1 nn l r t (zqM0 nn l r t L))) 8 (zu ((zqM2 nn l r t (zqM1 nn l r t (zqM0 nn l r t L))) 8) c ((3 : Nat) : Int))) 3) w0) sz) (zR 3 0 0 70) 0 0 sz 115 [(0, .ref C), (1, .int (Int32.ofInt (c : Int))), (2, .int (Int32.ofInt 2)), (3, .int (Int32.ofInt (l : Int))), (4, .int (Int32.ofInt (r : Int))), (5, .int (Int32.ofInt ((3 : Nat) : Int))), (6, .int (Int32.ofInt 1))] [] (zqs G C 0 kd nn t tu ch ke B w0) := by
    intro B b8 b9 go
    have hv : ∀ i : Nat, i < nn → -9223372036854775808 < (zqjP nn l 1 r 0 (zqjP nn l 0 r 1 (zqZ nn B))) 12 i ∧ (zqjP nn l 1 r 0 (zqjP nn l 0 r 1 (zqZ nn B))) 12 i < 9223372036854775808 := fun i hi => (hX B b8 b9 i hi).2.1
    have tail : V G M_Ref_join (zdet (some (.int (Int32.ofInt ((3 : Nat) : Int)))) (zqs G C 0 kd nn t tu ch ke (zqb nn c (zlu (zqM2 nn l r t (zqM1 nn l r t (zqM0 nn l r t L))) 8 (zu ((zqM2 nn l r t (zqM1 nn l r t (zqM0 nn l r t L))) 8) c ((3 : Nat) : Int))) 3) w0) sz) (zR 3 0 0 70) 0 0 sz 352 [(0, .ref C), (1, .int (Int32.ofInt (c : Int))), (2, .int (Int32.ofInt 2)), (3, .int (Int32.ofInt (l : Int))), (4, .int (Int32.ofInt (r : Int))), (5, .int (Int32.ofInt ((3 : Nat) : Int))), (6, .int (Int32.ofInt 1)), (7, .int (Int32.ofInt 2))] [] (zqs G C 0 kd nn t tu ch ke (zqjP nn l 1 r 0 (zqjP nn l 0 r 1 (zqZ nn B))) w0) := by
      have tl : ∀ W : Nat → Int → Int, (∀ i : Nat, i < nn → -9223372036854775808 < W 12 i ∧ W 12 i < 9223372036854775808) → V G M_Ref_join (zdet (some (.int (Int32.ofInt ((3 : Nat) : Int)))) (zqs G C 0 kd nn t tu ch ke (zqb nn c (zlu (zqM2 nn l r t (zqM1 nn l r t (zqM0 nn l r t L))) 8 (zu ((zqM2 nn l r t (zqM1 nn l r t (zqM0 nn l r t L))) 8) c ((3 : Nat) : Int))) 3) w0) sz) (zR 3 0 0 70) 0 0 sz 115 [(0, .ref C), (1, .int (Int32.ofInt (c : Int))), (2, .int (Int32.ofInt 2)), (3, .int (Int32.ofInt (l : Int))), (4, .int (Int32.ofInt (r : Int))), (5, .int (Int32.ofInt ((3 : Nat) : Int))), (6, .int (Int32.ofInt 2))] [] (zqs G C 0 kd nn t tu ch ke (zqw nn 1 (zqjS nn t W)) w0) → V G M_Ref_join (zdet (some (.int (Int32.ofInt ((3 : Nat) : Int)))) (zqs G C 0 kd nn t tu ch ke (zqb nn c (zlu (zqM2 nn l r t (zqM1 nn l r t (zqM0 nn l r t L))) 8 (zu ((zqM2 nn l r t (zqM1 nn l r t (zqM0 nn l r t L))) 8) c ((3 : Nat) : Int))) 3) w0) sz) (zR 3 0 0 70) 0 0 sz 352 [(0, .ref C), (1, .int (Int32.ofInt (c : Int))), (2, .int (Int32.ofInt 2)), (3, .int (Int32.ofInt (l : Int))), (4, .int (Int32.ofInt (r : Int))), (5, .int (Int32.ofInt ((3 : Nat) : Int))), (6, .int (Int32.ofInt 1)), (7, .int (Int32.ofInt 2))] [] (zqs G C 0 kd nn t tu ch ke W w0) := by
        intro W hw go
        refine V_iconst d_Ref_join_352 ?_
        refine V_istore d_Ref_join_353 (by decide) ?_
        refine V_w (w' := (zqs G C 0 kd nn t tu ch ke (zlu W 12 (zif ((0 : Nat) : Int) (fun i => zts t (W 12 i)) (W 12))) w0)) (by rw [show ((0 : Nat) : Int) = 0 from rfl, zif_0, zlu_self] <;> rfl) ?_
        have st_355 : ∀ i : Nat, i < nn → (fun i : Nat => V G M_Ref_join (zdet (some (.int (Int32.ofInt ((3 : Nat) : Int)))) (zqs G C 0 kd nn t tu ch ke (zqb nn c (zlu (zqM2 nn l r t (zqM1 nn l r t (zqM0 nn l r t L))) 8 (zu ((zqM2 nn l r t (zqM1 nn l r t (zqM0 nn l r t L))) 8) c ((3 : Nat) : Int))) 3) w0) sz) (zR 3 0 0 70) 0 0 sz 355 [(0, .ref C), (1, .int (Int32.ofInt (c : Int))), (2, .int (Int32.ofInt 2)), (3, .int (Int32.ofInt (l : Int))), (4, .int (Int32.ofInt (r : Int))), (5, .int (Int32.ofInt ((3 : Nat) : Int))), (6, .int (Int32.ofInt 1)), (7, .int (Int32.ofInt (i : Int)))] [] (zqs G C 0 kd nn t tu ch ke (zlu W 12 (zif (i : Int) (fun i => zts t (W 12 i)) (W 12))) w0)) (i + 1) → (fun i : Nat => V G M_Ref_join (zdet (some (.int (Int32.ofInt ((3 : Nat) : Int)))) (zqs G C 0 kd nn t tu ch ke (zqb nn c (zlu (zqM2 nn l r t (zqM1 nn l r t (zqM0 nn l r t L))) 8 (zu ((zqM2 nn l r t (zqM1 nn l r t (zqM0 nn l r t L))) 8) c ((3 : Nat) : Int))) 3) w0) sz) (zR 3 0 0 70) 0 0 sz 355 [(0, .ref C), (1, .int (Int32.ofInt (c : Int))), (2, .int (Int32.ofInt 2)), (3, .int (Int32.ofInt (l : Int))), (4, .int (Int32.ofInt (r : Int))), (5, .int (Int32.ofInt ((3 : Nat) : Int))), (6, .int (Int32.ofInt 1)), (7, .int (Int32.ofInt (i : Int)))] [] (zqs G C 0 kd nn t tu ch ke (zlu W 12 (zif (i : Int) (fun i => zts t (W 12 i)) (W 12))) w0)) i := by
          intro i hi ih
          refine V_iload d_Ref_join_355 rfl ?_
          refine V_aload_n d_Ref_join_357 rfl ?_
          refine V_getf d_Ref_join_358 ff_Ref_7 zqs_o rfl ?_
          refine J_icmp_ge 388 d_Ref_join_361 (by decide) (by omega) (by omega) (fun c_361 => absurd c_361 (by omega)) (fun c_361 => ?_)
          refine V_aload_n d_Ref_join_364 rfl ?_
          refine V_getf d_Ref_join_365 ff_Ref_51 zqs_o rfl ?_
          refine V_iload d_Ref_join_368 rfl ?_
          refine V_aload_n d_Ref_join_370 rfl ?_
          refine V_aload_n d_Ref_join_371 rfl ?_
          refine V_getf d_Ref_join_372 ff_Ref_51 zqs_o rfl ?_
          refine V_iload d_Ref_join_375 rfl ?_
          refine J_laload d_Ref_join_377 (zqs_r (j := 12) (by unfold zqi; decide)) (by omega) (by decide) ?_
          rw [zlu_s, zif_r (show ¬ (0 ≤ (i : Int) ∧ (i : Int) < i) by omega)]
          refine V_callV (n := 1) d_Ref_join_378 g_Ref_182 rfl zqs_o rfl (r_scaled G _ C 0 kd nn t tu ch ke (zlu W 12 (zif (i : Int) (fun i => zts t (W 12 i)) (W 12))) w0 (W 12 i) (by omega) (hw i hi)) ⟨co_Ref_scaled, by decide +kernel, Nat.le_of_ble_eq_true rfl⟩ ⟨Nat.le_of_ble_eq_true rfl, Nat.le_of_ble_eq_true rfl, Nat.le_of_ble_eq_true rfl, Nat.le_of_ble_eq_true rfl⟩ (Nat.le_of_ble_eq_true rfl) (fun r_378 w_378 s_378 q_378 => ?_) (fun _ _ _ q => False.elim q)
          obtain ⟨rfl, rfl, rfl⟩ := q_378
          refine J_lastore d_Ref_join_381 (zqs_r (j := 12) (by unfold zqi; decide)) (by omega) (by decide) ?_
          refine J_iinc d_Ref_join_382 rfl (by decide) ?_
          refine V_goto 355 d_Ref_join_385 (by decide) ?_
          exact V_w (by rw [zqs_lu (by unfold zqi; decide), zlu_s, zif_s (by omega) rfl, zlu_lu] <;> rfl) ih
        refine zfor nn (fun i : Nat => V G M_Ref_join (zdet (some (.int (Int32.ofInt ((3 : Nat) : Int)))) (zqs G C 0 kd nn t tu ch ke (zqb nn c (zlu (zqM2 nn l r t (zqM1 nn l r t (zqM0 nn l r t L))) 8 (zu ((zqM2 nn l r t (zqM1 nn l r t (zqM0 nn l r t L))) 8) c ((3 : Nat) : Int))) 3) w0) sz) (zR 3 0 0 70) 0 0 sz 355 [(0, .ref C), (1, .int (Int32.ofInt (c : Int))), (2, .int (Int32.ofInt 2)), (3, .int (Int32.ofInt (l : Int))), (4, .int (Int32.ofInt (r : Int))), (5, .int (Int32.ofInt ((3 : Nat) : Int))), (6, .int (Int32.ofInt 1)), (7, .int (Int32.ofInt (i : Int)))] [] (zqs G C 0 kd nn t tu ch ke (zlu W 12 (zif (i : Int) (fun i => zts t (W 12 i)) (W 12))) w0)) ?_ st_355 0 (Nat.zero_le nn)
        refine V_iload d_Ref_join_355 rfl ?_
        refine V_aload_n d_Ref_join_357 rfl ?_
        refine V_getf d_Ref_join_358 ff_Ref_7 zqs_o rfl ?_
        refine J_icmp_ge 388 d_Ref_join_361 (by decide) (by omega) (by omega) (fun c_361 => ?_) (fun c_361 => absurd c_361 (by omega))
        refine V_iconst d_Ref_join_388 ?_
        refine V_istore d_Ref_join_389 (by decide) ?_
        refine V_lo [0, 1, 2, 3, 4, 5, 6, 7] rfl ?_
        refine V_w (w' := (zqs G C 0 kd nn t tu ch ke (zlu (zqjS nn t W) 15 (zsf (32 * 1) (((0 : Nat) : Int) : Int) ((zqjS nn t W) 12) ((zqjS nn t W) 15))) w0)) (by rw [show ((0 : Nat) : Int) = 0 from rfl, zsf_0, zlu_self] <;> rfl) ?_
        have st_391 : ∀ i : Nat, i < nn → (fun i : Nat => V G M_Ref_join (zdet (some (.int (Int32.ofInt ((3 : Nat) : Int)))) (zqs G C 0 kd nn t tu ch ke (zqb nn c (zlu (zqM2 nn l r t (zqM1 nn l r t (zqM0 nn l r t L))) 8 (zu ((zqM2 nn l r t (zqM1 nn l r t (zqM0 nn l r t L))) 8) c ((3 : Nat) : Int))) 3) w0) sz) (zR 3 0 0 70) 0 0 sz 391 [(0, .ref C), (1, .int (Int32.ofInt (c : Int))), (2, .int (Int32.ofInt 2)), (3, .int (Int32.ofInt (l : Int))), (4, .int (Int32.ofInt (r : Int))), (5, .int (Int32.ofInt ((3 : Nat) : Int))), (6, .int (Int32.ofInt 1)), (7, .int (Int32.ofInt (i : Int)))] [] (zqs G C 0 kd nn t tu ch ke (zlu (zqjS nn t W) 15 (zsf (32 * 1) (i : Int) ((zqjS nn t W) 12) ((zqjS nn t W) 15))) w0)) (i + 1) → (fun i : Nat => V G M_Ref_join (zdet (some (.int (Int32.ofInt ((3 : Nat) : Int)))) (zqs G C 0 kd nn t tu ch ke (zqb nn c (zlu (zqM2 nn l r t (zqM1 nn l r t (zqM0 nn l r t L))) 8 (zu ((zqM2 nn l r t (zqM1 nn l r t (zqM0 nn l r t L))) 8) c ((3 : Nat) : Int))) 3) w0) sz) (zR 3 0 0 70) 0 0 sz 391 [(0, .ref C), (1, .int (Int32.ofInt (c : Int))), (2, .int (Int32.ofInt 2)), (3, .int (Int32.ofInt (l : Int))), (4, .int (Int32.ofInt (r : Int))), (5, .int (Int32.ofInt ((3 : Nat) : Int))), (6, .int (Int32.ofInt 1)), (7, .int (Int32.ofInt (i : Int)))] [] (zqs G C 0 kd nn t tu ch ke (zlu (zqjS nn t W) 15 (zsf (32 * 1) (i : Int) ((zqjS nn t W) 12) ((zqjS nn t W) 15))) w0)) i := by
          intro i hi ih2
          refine V_iload d_Ref_join_391 rfl ?_
          refine V_aload_n d_Ref_join_393 rfl ?_
          refine V_getf d_Ref_join_394 ff_Ref_7 zqs_o rfl ?_
          refine J_icmp_ge 426 d_Ref_join_397 (by decide) (by omega) (by omega) (fun c_397 => absurd c_397 (by omega)) (fun c_397 => ?_)
          refine V_aload_n d_Ref_join_400 rfl ?_
          refine V_getf d_Ref_join_401 ff_Ref_60 zqs_o rfl ?_
          refine J_bipush d_Ref_join_404 (by decide) ?_
          refine V_iload d_Ref_join_406 rfl ?_
          refine J_imul d_Ref_join_408 ?_
          refine V_iload d_Ref_join_409 rfl ?_
          refine J_iadd d_Ref_join_411 ?_
          refine V_aload_n d_Ref_join_412 rfl ?_
          refine V_getf d_Ref_join_413 ff_Ref_51 zqs_o rfl ?_
          refine V_iload d_Ref_join_416 rfl ?_
          refine J_laload d_Ref_join_418 (zqs_r (j := 12) (by unfold zqi; decide)) (by omega) (by decide) ?_
          rw [zlu_n (show 12 ≠ 15 by decide)]
          refine J_lastore d_Ref_join_419 zqs_a15 (by omega) (by decide) ?_
          refine J_iinc d_Ref_join_420 rfl (by decide) ?_
          refine V_goto 391 d_Ref_join_423 (by decide) ?_
          exact V_w (by rw [zqs_u15, zlu_s, zsf_s (by omega) rfl, zlu_lu] <;> rfl) ih2
        refine zfor nn (fun i : Nat => V G M_Ref_join (zdet (some (.int (Int32.ofInt ((3 : Nat) : Int)))) (zqs G C 0 kd nn t tu ch ke (zqb nn c (zlu (zqM2 nn l r t (zqM1 nn l r t (zqM0 nn l r t L))) 8 (zu ((zqM2 nn l r t (zqM1 nn l r t (zqM0 nn l r t L))) 8) c ((3 : Nat) : Int))) 3) w0) sz) (zR 3 0 0 70) 0 0 sz 391 [(0, .ref C), (1, .int (Int32.ofInt (c : Int))), (2, .int (Int32.ofInt 2)), (3, .int (Int32.ofInt (l : Int))), (4, .int (Int32.ofInt (r : Int))), (5, .int (Int32.ofInt ((3 : Nat) : Int))), (6, .int (Int32.ofInt 1)), (7, .int (Int32.ofInt (i : Int)))] [] (zqs G C 0 kd nn t tu ch ke (zlu (zqjS nn t W) 15 (zsf (32 * 1) (i : Int) ((zqjS nn t W) 12) ((zqjS nn t W) 15))) w0)) ?_ st_391 0 (Nat.zero_le nn)
        refine V_iload d_Ref_join_391 rfl ?_
        refine V_aload_n d_Ref_join_393 rfl ?_
        refine V_getf d_Ref_join_394 ff_Ref_7 zqs_o rfl ?_
        refine J_icmp_ge 426 d_Ref_join_397 (by decide) (by omega) (by omega) (fun c_397 => ?_) (fun c_397 => absurd c_397 (by omega))
        refine J_iinc d_Ref_join_426 rfl (by decide) ?_
        refine V_goto 115 d_Ref_join_429 (by decide) ?_
        exact V_lo [0, 1, 2, 3, 4, 5, 6] rfl go
      exact tl (zqjP nn l 1 r 0 (zqjP nn l 0 r 1 (zqZ nn B))) hv go
    refine V_iload d_Ref_join_115 rfl ?_
    refine V_iconst d_Ref_join_117 ?_
    refine J_icmp_ge 432 d_Ref_join_118 (by decide) (by decide) (by decide) (fun c_118 => absurd c_118 (by decide)) (fun c_118 => ?_)
    refine V_iconst d_Ref_join_121 ?_
    refine V_istore d_Ref_join_122 (by decide) ?_
    refine V_w (w' := (zqs G C 0 kd nn t tu ch ke (zlu B 12 (zif ((0 : Nat) : Int) (fun _ => 0) (B 12))) w0)) (by rw [show ((0 : Nat) : Int) = 0 from rfl, zif_0, zlu_self] <;> rfl) ?_
    have st_124 : ∀ i : Nat, i < nn → (fun i : Nat => V G M_Ref_join (zdet (some (.int (Int32.ofInt ((3 : Nat) : Int)))) (zqs G C 0 kd nn t tu ch ke (zqb nn c (zlu (zqM2 nn l r t (zqM1 nn l r t (zqM0 nn l r t L))) 8 (zu ((zqM2 nn l r t (zqM1 nn l r t (zqM0 nn l r t L))) 8) c ((3 : Nat) : Int))) 3) w0) sz) (zR 3 0 0 70) 0 0 sz 124 [(0, .ref C), (1, .int (Int32.ofInt (c : Int))), (2, .int (Int32.ofInt 2)), (3, .int (Int32.ofInt (l : Int))), (4, .int (Int32.ofInt (r : Int))), (5, .int (Int32.ofInt ((3 : Nat) : Int))), (6, .int (Int32.ofInt 1)), (7, .int (Int32.ofInt (i : Int)))] [] (zqs G C 0 kd nn t tu ch ke (zlu B 12 (zif (i : Int) (fun _ => 0) (B 12))) w0)) (i + 1) → (fun i : Nat => V G M_Ref_join (zdet (some (.int (Int32.ofInt ((3 : Nat) : Int)))) (zqs G C 0 kd nn t tu ch ke (zqb nn c (zlu (zqM2 nn l r t (zqM1 nn l r t (zqM0 nn l r t L))) 8 (zu ((zqM2 nn l r t (zqM1 nn l r t (zqM0 nn l r t L))) 8) c ((3 : Nat) : Int))) 3) w0) sz) (zR 3 0 0 70) 0 0 sz 124 [(0, .ref C), (1, .int (Int32.ofInt (c : Int))), (2, .int (Int32.ofInt 2)), (3, .int (Int32.ofInt (l : Int))), (4, .int (Int32.ofInt (r : Int))), (5, .int (Int32.ofInt ((3 : Nat) : Int))), (6, .int (Int32.ofInt 1)), (7, .int (Int32.ofInt (i : Int)))] [] (zqs G C 0 kd nn t tu ch ke (zlu B 12 (zif (i : Int) (fun _ => 0) (B 12))) w0)) i := by
      intro i hi ih
      refine V_iload d_Ref_join_124 rfl ?_
      refine V_aload_n d_Ref_join_126 rfl ?_
      refine V_getf d_Ref_join_127 ff_Ref_7 zqs_o rfl ?_
      refine J_icmp_ge 147 d_Ref_join_130 (by decide) (by omega) (by omega) (fun c_130 => absurd c_130 (by omega)) (fun c_130 => ?_)
      refine V_aload_n d_Ref_join_133 rfl ?_
      refine V_getf d_Ref_join_134 ff_Ref_51 zqs_o rfl ?_
      refine V_iload d_Ref_join_137 rfl ?_
      refine J_lconst (z := 0) d_Ref_join_139 rfl ?_
      refine J_lastore d_Ref_join_140 (zqs_r (j := 12) (by unfold zqi; decide)) (by omega) (by decide) ?_
      refine J_iinc d_Ref_join_141 rfl (by decide) ?_
      refine V_goto 124 d_Ref_join_144 (by decide) ?_
      exact V_w (by rw [zqs_lu (by unfold zqi; decide), zlu_s, zif_s (by omega) rfl, zlu_lu] <;> rfl) ih
    refine zfor nn (fun i : Nat => V G M_Ref_join (zdet (some (.int (Int32.ofInt ((3 : Nat) : Int)))) (zqs G C 0 kd nn t tu ch ke (zqb nn c (zlu (zqM2 nn l r t (zqM1 nn l r t (zqM0 nn l r t L))) 8 (zu ((zqM2 nn l r t (zqM1 nn l r t (zqM0 nn l r t L))) 8) c ((3 : Nat) : Int))) 3) w0) sz) (zR 3 0 0 70) 0 0 sz 124 [(0, .ref C), (1, .int (Int32.ofInt (c : Int))), (2, .int (Int32.ofInt 2)), (3, .int (Int32.ofInt (l : Int))), (4, .int (Int32.ofInt (r : Int))), (5, .int (Int32.ofInt ((3 : Nat) : Int))), (6, .int (Int32.ofInt 1)), (7, .int (Int32.ofInt (i : Int)))] [] (zqs G C 0 kd nn t tu ch ke (zlu B 12 (zif (i : Int) (fun _ => 0) (B 12))) w0)) ?_ st_124 0 (Nat.zero_le nn)
    refine V_iload d_Ref_join_124 rfl ?_
    refine V_aload_n d_Ref_join_126 rfl ?_
    refine V_getf d_Ref_join_127 ff_Ref_7 zqs_o rfl ?_
    refine J_icmp_ge 147 d_Ref_join_130 (by decide) (by omega) (by omega) (fun c_130 => ?_) (fun c_130 => absurd c_130 (by omega))
    refine V_iload_n d_Ref_join_147 rfl ?_
    refine V_iconst d_Ref_join_148 ?_
    refine J_icmp_ge 240 d_Ref_join_149 (by decide) (by decide) (by decide) (fun c_149 => ?_) (fun c_149 => absurd c_149 (by decide))
    refine V_iconst d_Ref_join_240 ?_
    refine V_istore d_Ref_join_241 (by decide) ?_
    refine V_lo (lo' := [(0, .ref C), (1, .int (Int32.ofInt (c : Int))), (2, .int (Int32.ofInt 2)), (3, .int (Int32.ofInt (l : Int))), (4, .int (Int32.ofInt (r : Int))), (5, .int (Int32.ofInt ((3 : Nat) : Int))), (6, .int (Int32.ofInt 1)), (7, .int (Int32.ofInt 0))]) [0, 1, 2, 3, 4, 5, 6, 7] rfl ?_
    refine V_iload d_Ref_join_243 rfl ?_
    refine V_iconst d_Ref_join_245 ?_
    refine J_icmp_ge 352 d_Ref_join_246 (by decide) (by decide) (by decide) (fun c_246 => absurd c_246 (by decide)) (fun c_246 => ?_)
    refine V_iload d_Ref_join_249 rfl ?_
    refine V_iload d_Ref_join_251 rfl ?_
    refine J_isub d_Ref_join_253 ?_
    refine J_if_lt 346 d_Ref_join_254 (by decide) (by decide) (fun c_254 => absurd c_254 (by decide)) (fun c_254 => ?_)
    refine V_iload d_Ref_join_257 rfl ?_
    refine V_iload d_Ref_join_259 rfl ?_
    refine J_isub d_Ref_join_261 ?_
    refine V_iconst d_Ref_join_262 ?_
    refine J_icmp_le 269 d_Ref_join_263 (by decide) (by decide) (by decide) (fun c_263 => ?_) (fun c_263 => absurd c_263 (by decide))
    refine ps_10 (zqZ nn B) ((zqZ_o (by decide)).trans b8) ((zqZ_o (by decide)).trans b9) ?_
    refine J_iinc d_Ref_join_346 rfl (by decide) ?_
    refine V_goto 243 d_Ref_join_349 (by decide) ?_
    refine V_lo (lo' := [(0, .ref C), (1, .int (Int32.ofInt (c : Int))), (2, .int (Int32.ofInt 2)), (3, .int (Int32.ofInt (l : Int))), (4, .int (Int32.ofInt (r : Int))), (5, .int (Int32.ofInt ((3 : Nat) : Int))), (6, .int (Int32.ofInt 1)), (7, .int (Int32.ofInt 1))]) [0, 1, 2, 3, 4, 5, 6, 7] rfl ?_
    refine V_iload d_Ref_join_243 rfl ?_
    refine V_iconst d_Ref_join_245 ?_
    refine J_icmp_ge 352 d_Ref_join_246 (by decide) (by decide) (by decide) (fun c_246 => absurd c_246 (by decide)) (fun c_246 => ?_)
    refine V_iload d_Ref_join_249 rfl ?_
    refine V_iload d_Ref_join_251 rfl ?_
    refine J_isub d_Ref_join_253 ?_
    refine J_if_lt 346 d_Ref_join_254 (by decide) (by decide) (fun c_254 => absurd c_254 (by decide)) (fun c_254 => ?_)
    refine V_iload d_Ref_join_257 rfl ?_
    refine V_iload d_Ref_join_259 rfl ?_
    refine J_isub d_Ref_join_261 ?_
    refine V_iconst d_Ref_join_262 ?_
    refine J_icmp_le 269 d_Ref_join_263 (by decide) (by decide) (by decide) (fun c_263 => ?_) (fun c_263 => absurd c_263 (by decide))
    refine ps_11 (zqjP nn l 0 r 1 (zqZ nn B)) ((zqjP_o (by decide)).trans ((zqZ_o (by decide)).trans b8)) ((zqjP_o (by decide)).trans ((zqZ_o (by decide)).trans b9)) ?_
    refine J_iinc d_Ref_join_346 rfl (by decide) ?_
    refine V_goto 243 d_Ref_join_349 (by decide) ?_
    refine V_lo (lo' := [(0, .ref C), (1, .int (Int32.ofInt (c : Int))), (2, .int (Int32.ofInt 2)), (3, .int (Int32.ofInt (l : Int))), (4, .int (Int32.ofInt (r : Int))), (5, .int (Int32.ofInt ((3 : Nat) : Int))), (6, .int (Int32.ofInt 1)), (7, .int (Int32.ofInt 2))]) [0, 1, 2, 3, 4, 5, 6, 7] rfl ?_
    refine V_iload d_Ref_join_243 rfl ?_
    refine V_iconst d_Ref_join_245 ?_
    refine J_icmp_ge 352 d_Ref_join_246 (by decide) (by decide) (by decide) (fun c_246 => ?_) (fun c_246 => absurd c_246 (by decide))
    exact tail
  have kp_2 : ∀ B : Nat → Int → Int, B 8 = L 8 → B 9 = L 9 → V G M_Ref_join (zdet (some (.int (Int32.ofInt ((3 : Nat) : Int)))) (zqs G C 0 kd nn t tu ch ke (zqb nn c (zlu (zqM2 nn l r t (zqM1 nn l r t (zqM0 nn l r t L))) 8 (zu ((zqM2 nn l r t (zqM1 nn l r t (zqM0 nn l r t L))) 8) c ((3 : Nat) : Int))) 3) w0) sz) (zR 3 0 0 70) 0 0 sz 115 [(0, .ref C), (1, .int (Int32.ofInt (c : Int))), (2, .int (Int32.ofInt 2)), (3, .int (Int32.ofInt (l : Int))), (4, .int (Int32.ofInt (r : Int))), (5, .int (Int32.ofInt ((3 : Nat) : Int))), (6, .int (Int32.ofInt 3))] [] (zqs G C 0 kd nn t tu ch ke (zqM2 nn l r t B) w0) → V G M_Ref_join (zdet (some (.int (Int32.ofInt ((3 : Nat) : Int)))) (zqs G C 0 kd nn t tu ch ke (zqb nn c (zlu (zqM2 nn l r t (zqM1 nn l r t (zqM0 nn l r t L))) 8 (zu ((zqM2 nn l r t (zqM1 nn l r t (zqM0 nn l r t L))) 8) c ((3 : Nat) : Int))) 3) w0) sz) (zR 3 0 0 70) 0 0 sz 115 [(0, .ref C), (1, .int (Int32.ofInt (c : Int))), (2, .int (Int32.ofInt 2)), (3, .int (Int32.ofInt (l : Int))), (4, .int (Int32.ofInt (r : Int))), (5, .int (Int32.ofInt ((3 : Nat) : Int))), (6, .int (Int32.ofInt 2))] [] (zqs G C 0 kd nn t tu ch ke B w0) := by
    intro B b8 b9 go
    have hv : ∀ i : Nat, i < nn → -9223372036854775808 < (zqjP nn l 1 r 1 (zqZ nn B)) 12 i ∧ (zqjP nn l 1 r 1 (zqZ nn B)) 12 i < 9223372036854775808 := fun i hi => (hX B b8 b9 i hi).2.2
    have tail : V G M_Ref_join (zdet (some (.int (Int32.ofInt ((3 : Nat) : Int)))) (zqs G C 0 kd nn t tu ch ke (zqb nn c (zlu (zqM2 nn l r t (zqM1 nn l r t (zqM0 nn l r t L))) 8 (zu ((zqM2 nn l r t (zqM1 nn l r t (zqM0 nn l r t L))) 8) c ((3 : Nat) : Int))) 3) w0) sz) (zR 3 0 0 70) 0 0 sz 352 [(0, .ref C), (1, .int (Int32.ofInt (c : Int))), (2, .int (Int32.ofInt 2)), (3, .int (Int32.ofInt (l : Int))), (4, .int (Int32.ofInt (r : Int))), (5, .int (Int32.ofInt ((3 : Nat) : Int))), (6, .int (Int32.ofInt 2)), (7, .int (Int32.ofInt 2))] [] (zqs G C 0 kd nn t tu ch ke (zqjP nn l 1 r 1 (zqZ nn B)) w0) := by
      have tl : ∀ W : Nat → Int → Int, (∀ i : Nat, i < nn → -9223372036854775808 < W 12 i ∧ W 12 i < 9223372036854775808) → V G M_Ref_join (zdet (some (.int (Int32.ofInt ((3 : Nat) : Int)))) (zqs G C 0 kd nn t tu ch ke (zqb nn c (zlu (zqM2 nn l r t (zqM1 nn l r t (zqM0 nn l r t L))) 8 (zu ((zqM2 nn l r t (zqM1 nn l r t (zqM0 nn l r t L))) 8) c ((3 : Nat) : Int))) 3) w0) sz) (zR 3 0 0 70) 0 0 sz 115 [(0, .ref C), (1, .int (Int32.ofInt (c : Int))), (2, .int (Int32.ofInt 2)), (3, .int (Int32.ofInt (l : Int))), (4, .int (Int32.ofInt (r : Int))), (5, .int (Int32.ofInt ((3 : Nat) : Int))), (6, .int (Int32.ofInt 3))] [] (zqs G C 0 kd nn t tu ch ke (zqw nn 2 (zqjS nn t W)) w0) → V G M_Ref_join (zdet (some (.int (Int32.ofInt ((3 : Nat) : Int)))) (zqs G C 0 kd nn t tu ch ke (zqb nn c (zlu (zqM2 nn l r t (zqM1 nn l r t (zqM0 nn l r t L))) 8 (zu ((zqM2 nn l r t (zqM1 nn l r t (zqM0 nn l r t L))) 8) c ((3 : Nat) : Int))) 3) w0) sz) (zR 3 0 0 70) 0 0 sz 352 [(0, .ref C), (1, .int (Int32.ofInt (c : Int))), (2, .int (Int32.ofInt 2)), (3, .int (Int32.ofInt (l : Int))), (4, .int (Int32.ofInt (r : Int))), (5, .int (Int32.ofInt ((3 : Nat) : Int))), (6, .int (Int32.ofInt 2)), (7, .int (Int32.ofInt 2))] [] (zqs G C 0 kd nn t tu ch ke W w0) := by
        intro W hw go
        refine V_iconst d_Ref_join_352 ?_
        refine V_istore d_Ref_join_353 (by decide) ?_
        refine V_w (w' := (zqs G C 0 kd nn t tu ch ke (zlu W 12 (zif ((0 : Nat) : Int) (fun i => zts t (W 12 i)) (W 12))) w0)) (by rw [show ((0 : Nat) : Int) = 0 from rfl, zif_0, zlu_self] <;> rfl) ?_
        have st_355 : ∀ i : Nat, i < nn → (fun i : Nat => V G M_Ref_join (zdet (some (.int (Int32.ofInt ((3 : Nat) : Int)))) (zqs G C 0 kd nn t tu ch ke (zqb nn c (zlu (zqM2 nn l r t (zqM1 nn l r t (zqM0 nn l r t L))) 8 (zu ((zqM2 nn l r t (zqM1 nn l r t (zqM0 nn l r t L))) 8) c ((3 : Nat) : Int))) 3) w0) sz) (zR 3 0 0 70) 0 0 sz 355 [(0, .ref C), (1, .int (Int32.ofInt (c : Int))), (2, .int (Int32.ofInt 2)), (3, .int (Int32.ofInt (l : Int))), (4, .int (Int32.ofInt (r : Int))), (5, .int (Int32.ofInt ((3 : Nat) : Int))), (6, .int (Int32.ofInt 2)), (7, .int (Int32.ofInt (i : Int)))] [] (zqs G C 0 kd nn t tu ch ke (zlu W 12 (zif (i : Int) (fun i => zts t (W 12 i)) (W 12))) w0)) (i + 1) → (fun i : Nat => V G M_Ref_join (zdet (some (.int (Int32.ofInt ((3 : Nat) : Int)))) (zqs G C 0 kd nn t tu ch ke (zqb nn c (zlu (zqM2 nn l r t (zqM1 nn l r t (zqM0 nn l r t L))) 8 (zu ((zqM2 nn l r t (zqM1 nn l r t (zqM0 nn l r t L))) 8) c ((3 : Nat) : Int))) 3) w0) sz) (zR 3 0 0 70) 0 0 sz 355 [(0, .ref C), (1, .int (Int32.ofInt (c : Int))), (2, .int (Int32.ofInt 2)), (3, .int (Int32.ofInt (l : Int))), (4, .int (Int32.ofInt (r : Int))), (5, .int (Int32.ofInt ((3 : Nat) : Int))), (6, .int (Int32.ofInt 2)), (7, .int (Int32.ofInt (i : Int)))] [] (zqs G C 0 kd nn t tu ch ke (zlu W 12 (zif (i : Int) (fun i => zts t (W 12 i)) (W 12))) w0)) i := by
          intro i hi ih
          refine V_iload d_Ref_join_355 rfl ?_
          refine V_aload_n d_Ref_join_357 rfl ?_
          refine V_getf d_Ref_join_358 ff_Ref_7 zqs_o rfl ?_
          refine J_icmp_ge 388 d_Ref_join_361 (by decide) (by omega) (by omega) (fun c_361 => absurd c_361 (by omega)) (fun c_361 => ?_)
          refine V_aload_n d_Ref_join_364 rfl ?_
          refine V_getf d_Ref_join_365 ff_Ref_51 zqs_o rfl ?_
          refine V_iload d_Ref_join_368 rfl ?_
          refine V_aload_n d_Ref_join_370 rfl ?_
          refine V_aload_n d_Ref_join_371 rfl ?_
          refine V_getf d_Ref_join_372 ff_Ref_51 zqs_o rfl ?_
          refine V_iload d_Ref_join_375 rfl ?_
          refine J_laload d_Ref_join_377 (zqs_r (j := 12) (by unfold zqi; decide)) (by omega) (by decide) ?_
          rw [zlu_s, zif_r (show ¬ (0 ≤ (i : Int) ∧ (i : Int) < i) by omega)]
          refine V_callV (n := 1) d_Ref_join_378 g_Ref_182 rfl zqs_o rfl (r_scaled G _ C 0 kd nn t tu ch ke (zlu W 12 (zif (i : Int) (fun i => zts t (W 12 i)) (W 12))) w0 (W 12 i) (by omega) (hw i hi)) ⟨co_Ref_scaled, by decide +kernel, Nat.le_of_ble_eq_true rfl⟩ ⟨Nat.le_of_ble_eq_true rfl, Nat.le_of_ble_eq_true rfl, Nat.le_of_ble_eq_true rfl, Nat.le_of_ble_eq_true rfl⟩ (Nat.le_of_ble_eq_true rfl) (fun r_378 w_378 s_378 q_378 => ?_) (fun _ _ _ q => False.elim q)
          obtain ⟨rfl, rfl, rfl⟩ := q_378
          refine J_lastore d_Ref_join_381 (zqs_r (j := 12) (by unfold zqi; decide)) (by omega) (by decide) ?_
          refine J_iinc d_Ref_join_382 rfl (by decide) ?_
          refine V_goto 355 d_Ref_join_385 (by decide) ?_
          exact V_w (by rw [zqs_lu (by unfold zqi; decide), zlu_s, zif_s (by omega) rfl, zlu_lu] <;> rfl) ih
        refine zfor nn (fun i : Nat => V G M_Ref_join (zdet (some (.int (Int32.ofInt ((3 : Nat) : Int)))) (zqs G C 0 kd nn t tu ch ke (zqb nn c (zlu (zqM2 nn l r t (zqM1 nn l r t (zqM0 nn l r t L))) 8 (zu ((zqM2 nn l r t (zqM1 nn l r t (zqM0 nn l r t L))) 8) c ((3 : Nat) : Int))) 3) w0) sz) (zR 3 0 0 70) 0 0 sz 355 [(0, .ref C), (1, .int (Int32.ofInt (c : Int))), (2, .int (Int32.ofInt 2)), (3, .int (Int32.ofInt (l : Int))), (4, .int (Int32.ofInt (r : Int))), (5, .int (Int32.ofInt ((3 : Nat) : Int))), (6, .int (Int32.ofInt 2)), (7, .int (Int32.ofInt (i : Int)))] [] (zqs G C 0 kd nn t tu ch ke (zlu W 12 (zif (i : Int) (fun i => zts t (W 12 i)) (W 12))) w0)) ?_ st_355 0 (Nat.zero_le nn)
        refine V_iload d_Ref_join_355 rfl ?_
        refine V_aload_n d_Ref_join_357 rfl ?_
        refine V_getf d_Ref_join_358 ff_Ref_7 zqs_o rfl ?_
        refine J_icmp_ge 388 d_Ref_join_361 (by decide) (by omega) (by omega) (fun c_361 => ?_) (fun c_361 => absurd c_361 (by omega))
        refine V_iconst d_Ref_join_388 ?_
        refine V_istore d_Ref_join_389 (by decide) ?_
        refine V_lo [0, 1, 2, 3, 4, 5, 6, 7] rfl ?_
        refine V_w (w' := (zqs G C 0 kd nn t tu ch ke (zlu (zqjS nn t W) 15 (zsf (32 * 2) (((0 : Nat) : Int) : Int) ((zqjS nn t W) 12) ((zqjS nn t W) 15))) w0)) (by rw [show ((0 : Nat) : Int) = 0 from rfl, zsf_0, zlu_self] <;> rfl) ?_
        have st_391 : ∀ i : Nat, i < nn → (fun i : Nat => V G M_Ref_join (zdet (some (.int (Int32.ofInt ((3 : Nat) : Int)))) (zqs G C 0 kd nn t tu ch ke (zqb nn c (zlu (zqM2 nn l r t (zqM1 nn l r t (zqM0 nn l r t L))) 8 (zu ((zqM2 nn l r t (zqM1 nn l r t (zqM0 nn l r t L))) 8) c ((3 : Nat) : Int))) 3) w0) sz) (zR 3 0 0 70) 0 0 sz 391 [(0, .ref C), (1, .int (Int32.ofInt (c : Int))), (2, .int (Int32.ofInt 2)), (3, .int (Int32.ofInt (l : Int))), (4, .int (Int32.ofInt (r : Int))), (5, .int (Int32.ofInt ((3 : Nat) : Int))), (6, .int (Int32.ofInt 2)), (7, .int (Int32.ofInt (i : Int)))] [] (zqs G C 0 kd nn t tu ch ke (zlu (zqjS nn t W) 15 (zsf (32 * 2) (i : Int) ((zqjS nn t W) 12) ((zqjS nn t W) 15))) w0)) (i + 1) → (fun i : Nat => V G M_Ref_join (zdet (some (.int (Int32.ofInt ((3 : Nat) : Int)))) (zqs G C 0 kd nn t tu ch ke (zqb nn c (zlu (zqM2 nn l r t (zqM1 nn l r t (zqM0 nn l r t L))) 8 (zu ((zqM2 nn l r t (zqM1 nn l r t (zqM0 nn l r t L))) 8) c ((3 : Nat) : Int))) 3) w0) sz) (zR 3 0 0 70) 0 0 sz 391 [(0, .ref C), (1, .int (Int32.ofInt (c : Int))), (2, .int (Int32.ofInt 2)), (3, .int (Int32.ofInt (l : Int))), (4, .int (Int32.ofInt (r : Int))), (5, .int (Int32.ofInt ((3 : Nat) : Int))), (6, .int (Int32.ofInt 2)), (7, .int (Int32.ofInt (i : Int)))] [] (zqs G C 0 kd nn t tu ch ke (zlu (zqjS nn t W) 15 (zsf (32 * 2) (i : Int) ((zqjS nn t W) 12) ((zqjS nn t W) 15))) w0)) i := by
          intro i hi ih2
          refine V_iload d_Ref_join_391 rfl ?_
          refine V_aload_n d_Ref_join_393 rfl ?_
          refine V_getf d_Ref_join_394 ff_Ref_7 zqs_o rfl ?_
          refine J_icmp_ge 426 d_Ref_join_397 (by decide) (by omega) (by omega) (fun c_397 => absurd c_397 (by omega)) (fun c_397 => ?_)
          refine V_aload_n d_Ref_join_400 rfl ?_
          refine V_getf d_Ref_join_401 ff_Ref_60 zqs_o rfl ?_
          refine J_bipush d_Ref_join_404 (by decide) ?_
          refine V_iload d_Ref_join_406 rfl ?_
          refine J_imul d_Ref_join_408 ?_
          refine V_iload d_Ref_join_409 rfl ?_
          refine J_iadd d_Ref_join_411 ?_
          refine V_aload_n d_Ref_join_412 rfl ?_
          refine V_getf d_Ref_join_413 ff_Ref_51 zqs_o rfl ?_
          refine V_iload d_Ref_join_416 rfl ?_
          refine J_laload d_Ref_join_418 (zqs_r (j := 12) (by unfold zqi; decide)) (by omega) (by decide) ?_
          rw [zlu_n (show 12 ≠ 15 by decide)]
          refine J_lastore d_Ref_join_419 zqs_a15 (by omega) (by decide) ?_
          refine J_iinc d_Ref_join_420 rfl (by decide) ?_
          refine V_goto 391 d_Ref_join_423 (by decide) ?_
          exact V_w (by rw [zqs_u15, zlu_s, zsf_s (by omega) rfl, zlu_lu] <;> rfl) ih2
        refine zfor nn (fun i : Nat => V G M_Ref_join (zdet (some (.int (Int32.ofInt ((3 : Nat) : Int)))) (zqs G C 0 kd nn t tu ch ke (zqb nn c (zlu (zqM2 nn l r t (zqM1 nn l r t (zqM0 nn l r t L))) 8 (zu ((zqM2 nn l r t (zqM1 nn l r t (zqM0 nn l r t L))) 8) c ((3 : Nat) : Int))) 3) w0) sz) (zR 3 0 0 70) 0 0 sz 391 [(0, .ref C), (1, .int (Int32.ofInt (c : Int))), (2, .int (Int32.ofInt 2)), (3, .int (Int32.ofInt (l : Int))), (4, .int (Int32.ofInt (r : Int))), (5, .int (Int32.ofInt ((3 : Nat) : Int))), (6, .int (Int32.ofInt 2)), (7, .int (Int32.ofInt (i : Int)))] [] (zqs G C 0 kd nn t tu ch ke (zlu (zqjS nn t W) 15 (zsf (32 * 2) (i : Int) ((zqjS nn t W) 12) ((zqjS nn t W) 15))) w0)) ?_ st_391 0 (Nat.zero_le nn)
        refine V_iload d_Ref_join_391 rfl ?_
        refine V_aload_n d_Ref_join_393 rfl ?_
        refine V_getf d_Ref_join_394 ff_Ref_7 zqs_o rfl ?_
        refine J_icmp_ge 426 d_Ref_join_397 (by decide) (by omega) (by omega) (fun c_397 => ?_) (fun c_397 => absurd c_397 (by omega))
        refine J_iinc d_Ref_join_426 rfl (by decide) ?_
        refine V_goto 115 d_Ref_join_429 (by decide) ?_
        exact V_lo [0, 1, 2, 3, 4, 5, 6] rfl go
      exact tl (zqjP nn l 1 r 1 (zqZ nn B)) hv go
    refine V_iload d_Ref_join_115 rfl ?_
    refine V_iconst d_Ref_join_117 ?_
    refine J_icmp_ge 432 d_Ref_join_118 (by decide) (by decide) (by decide) (fun c_118 => absurd c_118 (by decide)) (fun c_118 => ?_)
    refine V_iconst d_Ref_join_121 ?_
    refine V_istore d_Ref_join_122 (by decide) ?_
    refine V_w (w' := (zqs G C 0 kd nn t tu ch ke (zlu B 12 (zif ((0 : Nat) : Int) (fun _ => 0) (B 12))) w0)) (by rw [show ((0 : Nat) : Int) = 0 from rfl, zif_0, zlu_self] <;> rfl) ?_
    have st_124 : ∀ i : Nat, i < nn → (fun i : Nat => V G M_Ref_join (zdet (some (.int (Int32.ofInt ((3 : Nat) : Int)))) (zqs G C 0 kd nn t tu ch ke (zqb nn c (zlu (zqM2 nn l r t (zqM1 nn l r t (zqM0 nn l r t L))) 8 (zu ((zqM2 nn l r t (zqM1 nn l r t (zqM0 nn l r t L))) 8) c ((3 : Nat) : Int))) 3) w0) sz) (zR 3 0 0 70) 0 0 sz 124 [(0, .ref C), (1, .int (Int32.ofInt (c : Int))), (2, .int (Int32.ofInt 2)), (3, .int (Int32.ofInt (l : Int))), (4, .int (Int32.ofInt (r : Int))), (5, .int (Int32.ofInt ((3 : Nat) : Int))), (6, .int (Int32.ofInt 2)), (7, .int (Int32.ofInt (i : Int)))] [] (zqs G C 0 kd nn t tu ch ke (zlu B 12 (zif (i : Int) (fun _ => 0) (B 12))) w0)) (i + 1) → (fun i : Nat => V G M_Ref_join (zdet (some (.int (Int32.ofInt ((3 : Nat) : Int)))) (zqs G C 0 kd nn t tu ch ke (zqb nn c (zlu (zqM2 nn l r t (zqM1 nn l r t (zqM0 nn l r t L))) 8 (zu ((zqM2 nn l r t (zqM1 nn l r t (zqM0 nn l r t L))) 8) c ((3 : Nat) : Int))) 3) w0) sz) (zR 3 0 0 70) 0 0 sz 124 [(0, .ref C), (1, .int (Int32.ofInt (c : Int))), (2, .int (Int32.ofInt 2)), (3, .int (Int32.ofInt (l : Int))), (4, .int (Int32.ofInt (r : Int))), (5, .int (Int32.ofInt ((3 : Nat) : Int))), (6, .int (Int32.ofInt 2)), (7, .int (Int32.ofInt (i : Int)))] [] (zqs G C 0 kd nn t tu ch ke (zlu B 12 (zif (i : Int) (fun _ => 0) (B 12))) w0)) i := by
      intro i hi ih
      refine V_iload d_Ref_join_124 rfl ?_
      refine V_aload_n d_Ref_join_126 rfl ?_
      refine V_getf d_Ref_join_127 ff_Ref_7 zqs_o rfl ?_
      refine J_icmp_ge 147 d_Ref_join_130 (by decide) (by omega) (by omega) (fun c_130 => absurd c_130 (by omega)) (fun c_130 => ?_)
      refine V_aload_n d_Ref_join_133 rfl ?_
      refine V_getf d_Ref_join_134 ff_Ref_51 zqs_o rfl ?_
      refine V_iload d_Ref_join_137 rfl ?_
      refine J_lconst (z := 0) d_Ref_join_139 rfl ?_
      refine J_lastore d_Ref_join_140 (zqs_r (j := 12) (by unfold zqi; decide)) (by omega) (by decide) ?_
      refine J_iinc d_Ref_join_141 rfl (by decide) ?_
      refine V_goto 124 d_Ref_join_144 (by decide) ?_
      exact V_w (by rw [zqs_lu (by unfold zqi; decide), zlu_s, zif_s (by omega) rfl, zlu_lu] <;> rfl) ih
    refine zfor nn (fun i : Nat => V G M_Ref_join (zdet (some (.int (Int32.ofInt ((3 : Nat) : Int)))) (zqs G C 0 kd nn t tu ch ke (zqb nn c (zlu (zqM2 nn l r t (zqM1 nn l r t (zqM0 nn l r t L))) 8 (zu ((zqM2 nn l r t (zqM1 nn l r t (zqM0 nn l r t L))) 8) c ((3 : Nat) : Int))) 3) w0) sz) (zR 3 0 0 70) 0 0 sz 124 [(0, .ref C), (1, .int (Int32.ofInt (c : Int))), (2, .int (Int32.ofInt 2)), (3, .int (Int32.ofInt (l : Int))), (4, .int (Int32.ofInt (r : Int))), (5, .int (Int32.ofInt ((3 : Nat) : Int))), (6, .int (Int32.ofInt 2)), (7, .int (Int32.ofInt (i : Int)))] [] (zqs G C 0 kd nn t tu ch ke (zlu B 12 (zif (i : Int) (fun _ => 0) (B 12))) w0)) ?_ st_124 0 (Nat.zero_le nn)
    refine V_iload d_Ref_join_124 rfl ?_
    refine V_aload_n d_Ref_join_126 rfl ?_
    refine V_getf d_Ref_join_127 ff_Ref_7 zqs_o rfl ?_
    refine J_icmp_ge 147 d_Ref_join_130 (by decide) (by omega) (by omega) (fun c_130 => ?_) (fun c_130 => absurd c_130 (by omega))
    refine V_iload_n d_Ref_join_147 rfl ?_
    refine V_iconst d_Ref_join_148 ?_
    refine J_icmp_ge 240 d_Ref_join_149 (by decide) (by decide) (by decide) (fun c_149 => ?_) (fun c_149 => absurd c_149 (by decide))
    refine V_iconst d_Ref_join_240 ?_
    refine V_istore d_Ref_join_241 (by decide) ?_
    refine V_lo (lo' := [(0, .ref C), (1, .int (Int32.ofInt (c : Int))), (2, .int (Int32.ofInt 2)), (3, .int (Int32.ofInt (l : Int))), (4, .int (Int32.ofInt (r : Int))), (5, .int (Int32.ofInt ((3 : Nat) : Int))), (6, .int (Int32.ofInt 2)), (7, .int (Int32.ofInt 0))]) [0, 1, 2, 3, 4, 5, 6, 7] rfl ?_
    refine V_iload d_Ref_join_243 rfl ?_
    refine V_iconst d_Ref_join_245 ?_
    refine J_icmp_ge 352 d_Ref_join_246 (by decide) (by decide) (by decide) (fun c_246 => absurd c_246 (by decide)) (fun c_246 => ?_)
    refine V_iload d_Ref_join_249 rfl ?_
    refine V_iload d_Ref_join_251 rfl ?_
    refine J_isub d_Ref_join_253 ?_
    refine J_if_lt 346 d_Ref_join_254 (by decide) (by decide) (fun c_254 => absurd c_254 (by decide)) (fun c_254 => ?_)
    refine V_iload d_Ref_join_257 rfl ?_
    refine V_iload d_Ref_join_259 rfl ?_
    refine J_isub d_Ref_join_261 ?_
    refine V_iconst d_Ref_join_262 ?_
    refine J_icmp_le 269 d_Ref_join_263 (by decide) (by decide) (by decide) (fun c_263 => absurd c_263 (by decide)) (fun c_263 => ?_)
    refine V_goto 346 d_Ref_join_266 (by decide) ?_
    refine J_iinc d_Ref_join_346 rfl (by decide) ?_
    refine V_goto 243 d_Ref_join_349 (by decide) ?_
    refine V_lo (lo' := [(0, .ref C), (1, .int (Int32.ofInt (c : Int))), (2, .int (Int32.ofInt 2)), (3, .int (Int32.ofInt (l : Int))), (4, .int (Int32.ofInt (r : Int))), (5, .int (Int32.ofInt ((3 : Nat) : Int))), (6, .int (Int32.ofInt 2)), (7, .int (Int32.ofInt 1))]) [0, 1, 2, 3, 4, 5, 6, 7] rfl ?_
    refine V_iload d_Ref_join_243 rfl ?_
    refine V_iconst d_Ref_join_245 ?_
    refine J_icmp_ge 352 d_Ref_join_246 (by decide) (by decide) (by decide) (fun c_246 => absurd c_246 (by decide)) (fun c_246 => ?_)
    refine V_iload d_Ref_join_249 rfl ?_
    refine V_iload d_Ref_join_251 rfl ?_
    refine J_isub d_Ref_join_253 ?_
    refine J_if_lt 346 d_Ref_join_254 (by decide) (by decide) (fun c_254 => absurd c_254 (by decide)) (fun c_254 => ?_)
    refine V_iload d_Ref_join_257 rfl ?_
    refine V_iload d_Ref_join_259 rfl ?_
    refine J_isub d_Ref_join_261 ?_
    refine V_iconst d_Ref_join_262 ?_
    refine J_icmp_le 269 d_Ref_join_263 (by decide) (by decide) (by decide) (fun c_263 => ?_) (fun c_263 => absurd c_263 (by decide))
    refine ps_21 (zqZ nn B) ((zqZ_o (by decide)).trans b8) ((zqZ_o (by decide)).trans b9) ?_
    refine J_iinc d_Ref_join_346 rfl (by decide) ?_
    refine V_goto 243 d_Ref_join_349 (by decide) ?_
    refine V_lo (lo' := [(0, .ref C), (1, .int (Int32.ofInt (c : Int))), (2, .int (Int32.ofInt 2)), (3, .int (Int32.ofInt (l : Int))), (4, .int (Int32.ofInt (r : Int))), (5, .int (Int32.ofInt ((3 : Nat) : Int))), (6, .int (Int32.ofInt 2)), (7, .int (Int32.ofInt 2))]) [0, 1, 2, 3, 4, 5, 6, 7] rfl ?_
    refine V_iload d_Ref_join_243 rfl ?_
    refine V_iconst d_Ref_join_245 ?_
    refine J_icmp_ge 352 d_Ref_join_246 (by decide) (by decide) (by decide) (fun c_246 => ?_) (fun c_246 => absurd c_246 (by decide))
    exact tail
  have fin : ∀ M : Nat → Int → Int, (∀ k : Nat, k < 3 → ∀ i : Nat, i < nn → -9223372036854775808 ≤ M 15 (32 * (k : Int) + i) ∧ M 15 (32 * (k : Int) + i) < 9223372036854775808) → V G M_Ref_join (zdet (some (.int (Int32.ofInt ((3 : Nat) : Int)))) (zqs G C 0 kd nn t tu ch ke (zqb nn c (zlu M 8 (zu (M 8) c ((3 : Nat) : Int))) 3) w0) sz) (zR 3 0 0 70) 0 0 sz 115 [(0, .ref C), (1, .int (Int32.ofInt (c : Int))), (2, .int (Int32.ofInt 2)), (3, .int (Int32.ofInt (l : Int))), (4, .int (Int32.ofInt (r : Int))), (5, .int (Int32.ofInt ((3 : Nat) : Int))), (6, .int (Int32.ofInt 3))] [] (zqs G C 0 kd nn t tu ch ke M w0) := by
    intro M hW
    refine V_iload d_Ref_join_115 rfl ?_
    refine V_iconst d_Ref_join_117 ?_
    refine J_icmp_ge 432 d_Ref_join_118 (by decide) (by decide) (by decide) (fun c_118 => ?_) (fun c_118 => absurd c_118 (by decide))
    refine V_aload_n d_Ref_join_432 rfl ?_
    refine V_getf d_Ref_join_433 ff_Ref_39 zqs_o rfl ?_
    refine V_iload_n d_Ref_join_436 rfl ?_
    refine V_iload d_Ref_join_437 rfl ?_
    refine J_iastore d_Ref_join_439 zqs_a8 (by omega) (by decide) ?_
    refine V_w zqs_u8 ?_
    refine V_iconst d_Ref_join_440 ?_
    refine V_istore d_Ref_join_441 (by decide) ?_
    refine V_lo [0, 1, 2, 3, 4, 5, 6] rfl ?_
    have stb : ∀ k : Nat, k < 3 → (fun k : Nat => V G M_Ref_join (zdet (some (.int (Int32.ofInt ((3 : Nat) : Int)))) (zqs G C 0 kd nn t tu ch ke (zqb nn c (zlu M 8 (zu (M 8) c ((3 : Nat) : Int))) 3) w0) sz) (zR 3 0 0 70) 0 0 sz 443 [(0, .ref C), (1, .int (Int32.ofInt (c : Int))), (2, .int (Int32.ofInt 2)), (3, .int (Int32.ofInt (l : Int))), (4, .int (Int32.ofInt (r : Int))), (5, .int (Int32.ofInt ((3 : Nat) : Int))), (6, .int (Int32.ofInt (k : Int)))] [] (zqs G C 0 kd nn t tu ch ke (zqb nn c (zlu M 8 (zu (M 8) c ((3 : Nat) : Int))) k) w0)) (k + 1) → (fun k : Nat => V G M_Ref_join (zdet (some (.int (Int32.ofInt ((3 : Nat) : Int)))) (zqs G C 0 kd nn t tu ch ke (zqb nn c (zlu M 8 (zu (M 8) c ((3 : Nat) : Int))) 3) w0) sz) (zR 3 0 0 70) 0 0 sz 443 [(0, .ref C), (1, .int (Int32.ofInt (c : Int))), (2, .int (Int32.ofInt 2)), (3, .int (Int32.ofInt (l : Int))), (4, .int (Int32.ofInt (r : Int))), (5, .int (Int32.ofInt ((3 : Nat) : Int))), (6, .int (Int32.ofInt (k : Int)))] [] (zqs G C 0 kd nn t tu ch ke (zqb nn c (zlu M 8 (zu (M 8) c ((3 : Nat) : Int))) k) w0)) k := by
      intro k hk ih
      have b15 : (zqb nn c (zlu M 8 (zu (M 8) c ((3 : Nat) : Int))) k) 15 = M 15 := zqb_o (by decide) k
      refine V_iload d_Ref_join_443 rfl ?_
      refine V_iconst d_Ref_join_445 ?_
      refine J_icmp_ge 504 d_Ref_join_446 (by decide) (by omega) (by omega) (fun c_446 => absurd c_446 (by omega)) (fun c_446 => ?_)
      refine V_iconst d_Ref_join_449 ?_
      refine V_istore d_Ref_join_450 (by decide) ?_
      refine V_w (w' := (zqs G C 0 kd nn t tu ch ke (zlu (zqb nn c (zlu M 8 (zu (M 8) c ((3 : Nat) : Int))) k) 12 (zif ((0 : Nat) : Int) (fun i => (zqb nn c (zlu M 8 (zu (M 8) c ((3 : Nat) : Int))) k) 15 (32 * (k : Int) + i)) ((zqb nn c (zlu M 8 (zu (M 8) c ((3 : Nat) : Int))) k) 12))) w0)) (by rw [show ((0 : Nat) : Int) = 0 from rfl, zif_0, zlu_self] <;> rfl) ?_
      have st_452 : ∀ i : Nat, i < nn → (fun i : Nat => V G M_Ref_join (zdet (some (.int (Int32.ofInt ((3 : Nat) : Int)))) (zqs G C 0 kd nn t tu ch ke (zqb nn c (zlu M 8 (zu (M 8) c ((3 : Nat) : Int))) 3) w0) sz) (zR 3 0 0 70) 0 0 sz 452 [(0, .ref C), (1, .int (Int32.ofInt (c : Int))), (2, .int (Int32.ofInt 2)), (3, .int (Int32.ofInt (l : Int))), (4, .int (Int32.ofInt (r : Int))), (5, .int (Int32.ofInt ((3 : Nat) : Int))), (6, .int (Int32.ofInt (k : Int))), (7, .int (Int32.ofInt (i : Int)))] [] (zqs G C 0 kd nn t tu ch ke (zlu (zqb nn c (zlu M 8 (zu (M 8) c ((3 : Nat) : Int))) k) 12 (zif (i : Int) (fun i => (zqb nn c (zlu M 8 (zu (M 8) c ((3 : Nat) : Int))) k) 15 (32 * (k : Int) + i)) ((zqb nn c (zlu M 8 (zu (M 8) c ((3 : Nat) : Int))) k) 12))) w0)) (i + 1) → (fun i : Nat => V G M_Ref_join (zdet (some (.int (Int32.ofInt ((3 : Nat) : Int)))) (zqs G C 0 kd nn t tu ch ke (zqb nn c (zlu M 8 (zu (M 8) c ((3 : Nat) : Int))) 3) w0) sz) (zR 3 0 0 70) 0 0 sz 452 [(0, .ref C), (1, .int (Int32.ofInt (c : Int))), (2, .int (Int32.ofInt 2)), (3, .int (Int32.ofInt (l : Int))), (4, .int (Int32.ofInt (r : Int))), (5, .int (Int32.ofInt ((3 : Nat) : Int))), (6, .int (Int32.ofInt (k : Int))), (7, .int (Int32.ofInt (i : Int)))] [] (zqs G C 0 kd nn t tu ch ke (zlu (zqb nn c (zlu M 8 (zu (M 8) c ((3 : Nat) : Int))) k) 12 (zif (i : Int) (fun i => (zqb nn c (zlu M 8 (zu (M 8) c ((3 : Nat) : Int))) k) 15 (32 * (k : Int) + i)) ((zqb nn c (zlu M 8 (zu (M 8) c ((3 : Nat) : Int))) k) 12))) w0)) i := by
        intro i hi ih
        refine V_iload d_Ref_join_452 rfl ?_
        refine V_aload_n d_Ref_join_454 rfl ?_
        refine V_getf d_Ref_join_455 ff_Ref_7 zqs_o rfl ?_
        refine J_icmp_ge 487 d_Ref_join_458 (by decide) (by omega) (by omega) (fun c_458 => absurd c_458 (by omega)) (fun c_458 => ?_)
        refine V_aload_n d_Ref_join_461 rfl ?_
        refine V_getf d_Ref_join_462 ff_Ref_51 zqs_o rfl ?_
        refine V_iload d_Ref_join_465 rfl ?_
        refine V_aload_n d_Ref_join_467 rfl ?_
        refine V_getf d_Ref_join_468 ff_Ref_60 zqs_o rfl ?_
        refine J_bipush d_Ref_join_471 (by decide) ?_
        refine V_iload d_Ref_join_473 rfl ?_
        refine J_imul d_Ref_join_475 ?_
        refine V_iload d_Ref_join_476 rfl ?_
        refine J_iadd d_Ref_join_478 ?_
        refine J_laload d_Ref_join_479 zqs_a15 (by omega) (by decide) ?_
        rw [zlu_n (show 15 ≠ 12 by decide)]
        refine J_lastore d_Ref_join_480 (zqs_r (j := 12) (by unfold zqi; decide)) (by omega) (by decide) ?_
        refine J_iinc d_Ref_join_481 rfl (by decide) ?_
        refine V_goto 452 d_Ref_join_484 (by decide) ?_
        exact V_w (by rw [zqs_lu (by unfold zqi; decide), zlu_s, zif_s (by omega) rfl, zlu_lu] <;> rfl) ih
      refine zfor nn (fun i : Nat => V G M_Ref_join (zdet (some (.int (Int32.ofInt ((3 : Nat) : Int)))) (zqs G C 0 kd nn t tu ch ke (zqb nn c (zlu M 8 (zu (M 8) c ((3 : Nat) : Int))) 3) w0) sz) (zR 3 0 0 70) 0 0 sz 452 [(0, .ref C), (1, .int (Int32.ofInt (c : Int))), (2, .int (Int32.ofInt 2)), (3, .int (Int32.ofInt (l : Int))), (4, .int (Int32.ofInt (r : Int))), (5, .int (Int32.ofInt ((3 : Nat) : Int))), (6, .int (Int32.ofInt (k : Int))), (7, .int (Int32.ofInt (i : Int)))] [] (zqs G C 0 kd nn t tu ch ke (zlu (zqb nn c (zlu M 8 (zu (M 8) c ((3 : Nat) : Int))) k) 12 (zif (i : Int) (fun i => (zqb nn c (zlu M 8 (zu (M 8) c ((3 : Nat) : Int))) k) 15 (32 * (k : Int) + i)) ((zqb nn c (zlu M 8 (zu (M 8) c ((3 : Nat) : Int))) k) 12))) w0)) ?_ st_452 0 (Nat.zero_le nn)
      refine V_iload d_Ref_join_452 rfl ?_
      refine V_aload_n d_Ref_join_454 rfl ?_
      refine V_getf d_Ref_join_455 ff_Ref_7 zqs_o rfl ?_
      refine J_icmp_ge 487 d_Ref_join_458 (by decide) (by omega) (by omega) (fun c_458 => ?_) (fun c_458 => absurd c_458 (by omega))
      refine V_aload_n d_Ref_join_487 rfl ?_
      refine V_iload_n d_Ref_join_488 rfl ?_
      refine V_iload d_Ref_join_489 rfl ?_
      refine V_aload_n d_Ref_join_491 rfl ?_
      refine V_getf d_Ref_join_492 ff_Ref_51 zqs_o rfl ?_
      refine V_callV (n := 3) d_Ref_join_495 g_Ref_152 rfl zqs_o rfl (r_put G _ C 0 kd nn t tu ch ke (zlu (zqb nn c (zlu M 8 (zu (M 8) c ((3 : Nat) : Int))) k) 12 (zif nn (fun i => (zqb nn c (zlu M 8 (zu (M 8) c ((3 : Nat) : Int))) k) 15 (32 * (k : Int) + i)) ((zqb nn c (zlu M 8 (zu (M 8) c ((3 : Nat) : Int))) k) 12))) w0 nn rfl hn c k 12 hc (by omega) (by unfold zqi; decide) (fun j hj => by show -9223372036854775808 ≤ zif nn (fun i => (zqb nn c (zlu M 8 (zu (M 8) c ((3 : Nat) : Int))) k) 15 (32 * (k : Int) + i)) ((zqb nn c (zlu M 8 (zu (M 8) c ((3 : Nat) : Int))) k) 12) j ∧ zif nn (fun i => (zqb nn c (zlu M 8 (zu (M 8) c ((3 : Nat) : Int))) k) 15 (32 * (k : Int) + i)) ((zqb nn c (zlu M 8 (zu (M 8) c ((3 : Nat) : Int))) k) 12) j < 9223372036854775808; rw [zif_l (by omega), b15]; exact hW k hk j hj)) ⟨co_Ref_put, by decide +kernel, Nat.le_of_ble_eq_true rfl⟩ ⟨Nat.le_of_ble_eq_true rfl, Nat.le_of_ble_eq_true rfl, Nat.le_of_ble_eq_true rfl, Nat.le_of_ble_eq_true rfl⟩ (Nat.le_of_ble_eq_true rfl) (fun r_495 w_495 s_495 q_495 => ?_) (fun _ _ _ q => False.elim q)
      obtain ⟨rfl, rfl, rfl⟩ := q_495
      refine J_iinc d_Ref_join_498 rfl (by decide) ?_
      refine V_goto 443 d_Ref_join_501 (by decide) ?_
      exact V_lo [0, 1, 2, 3, 4, 5, 6] rfl ih
    refine zfor 3 (fun k : Nat => V G M_Ref_join (zdet (some (.int (Int32.ofInt ((3 : Nat) : Int)))) (zqs G C 0 kd nn t tu ch ke (zqb nn c (zlu M 8 (zu (M 8) c ((3 : Nat) : Int))) 3) w0) sz) (zR 3 0 0 70) 0 0 sz 443 [(0, .ref C), (1, .int (Int32.ofInt (c : Int))), (2, .int (Int32.ofInt 2)), (3, .int (Int32.ofInt (l : Int))), (4, .int (Int32.ofInt (r : Int))), (5, .int (Int32.ofInt ((3 : Nat) : Int))), (6, .int (Int32.ofInt (k : Int)))] [] (zqs G C 0 kd nn t tu ch ke (zqb nn c (zlu M 8 (zu (M 8) c ((3 : Nat) : Int))) k) w0)) ?_ stb 0 (Nat.zero_le 3)
    refine V_iload d_Ref_join_443 rfl ?_
    refine V_iconst d_Ref_join_445 ?_
    refine J_icmp_ge 504 d_Ref_join_446 (by decide) (by omega) (by omega) (fun c_446 => ?_) (fun c_446 => absurd c_446 (by omega))
    refine V_iload d_Ref_join_504 rfl ?_
    exact V_ireturn d_Ref_join_506 rfl ⟨Nat.le_of_ble_eq_true rfl, Nat.le_of_ble_eq_true rfl⟩ ⟨rfl, rfl, rfl⟩
  refine V_aload_n d_Ref_join_0 rfl ?_
  refine V_iload_n d_Ref_join_1 rfl ?_
  refine V_callS (n := 1) d_Ref_join_2 g_Ref_138 rfl (r_noCipher_n G _ _ c (by omega)) ⟨co_Ref_noCipher, by decide +kernel, Nat.le_of_ble_eq_true rfl⟩ ⟨Nat.le_of_ble_eq_true rfl, Nat.le_of_ble_eq_true rfl, Nat.le_of_ble_eq_true rfl, Nat.le_of_ble_eq_true rfl⟩ (Nat.le_of_ble_eq_true rfl) (fun r_2 w_2 s_2 q_2 => ?_) (fun _ _ _ q => False.elim q)
  obtain ⟨rfl, rfl, rfl⟩ := q_2
  refine J_if_ne 25 d_Ref_join_5 (by decide) (by decide) (fun c_5 => absurd rfl c_5) (fun c_5 => ?_)
  refine V_aload_n d_Ref_join_8 rfl ?_
  refine V_iload_n d_Ref_join_9 rfl ?_
  refine V_callV (n := 1) d_Ref_join_10 g_Ref_180 rfl zqs_o rfl (r_emptyI_n G _ C th kd nn t tu ch ke L w0 l (by omega) hfl) ⟨co_Ref_empty_I, by decide +kernel, Nat.le_of_ble_eq_true rfl⟩ ⟨Nat.le_of_ble_eq_true rfl, Nat.le_of_ble_eq_true rfl, Nat.le_of_ble_eq_true rfl, Nat.le_of_ble_eq_true rfl⟩ (Nat.le_of_ble_eq_true rfl) (fun r_10 w_10 s_10 q_10 => ?_) (fun _ _ _ q => False.elim q)
  obtain ⟨rfl, rfl, rfl⟩ := q_10
  refine J_if_ne 25 d_Ref_join_13 (by decide) (by decide) (fun c_13 => absurd rfl c_13) (fun c_13 => ?_)
  refine V_aload_n d_Ref_join_16 rfl ?_
  refine V_iload d_Ref_join_17 rfl ?_
  refine V_callV (n := 1) d_Ref_join_19 g_Ref_180 rfl zqs_o rfl (r_emptyI_n G _ C th kd nn t tu ch ke L w0 r (by omega) hfr) ⟨co_Ref_empty_I, by decide +kernel, Nat.le_of_ble_eq_true rfl⟩ ⟨Nat.le_of_ble_eq_true rfl, Nat.le_of_ble_eq_true rfl, Nat.le_of_ble_eq_true rfl, Nat.le_of_ble_eq_true rfl⟩ (Nat.le_of_ble_eq_true rfl) (fun r_19 w_19 s_19 q_19 => ?_) (fun _ _ _ q => False.elim q)
  obtain ⟨rfl, rfl, rfl⟩ := q_19
  refine J_if_eq 29 d_Ref_join_22 (by decide) (by decide) (fun c_22 => ?_) (fun c_22 => absurd rfl c_22)
  refine V_iload_n d_Ref_join_29 rfl ?_
  refine J_if_lt 38 d_Ref_join_30 (by decide) (by omega) (fun c_30 => absurd c_30 (by decide)) (fun c_30 => ?_)
  refine V_iload_n d_Ref_join_33 rfl ?_
  refine V_iconst d_Ref_join_34 ?_
  refine J_icmp_le 42 d_Ref_join_35 (by decide) (by omega) (by omega) (fun c_35 => ?_) (fun c_35 => absurd c_35 (by decide))
  refine V_iload_n d_Ref_join_42 rfl ?_
  refine V_iconst d_Ref_join_43 ?_
  refine J_icmp_ne 72 d_Ref_join_44 (by decide) (by omega) (by omega) (fun c_44 => absurd rfl c_44) (fun c_44 => ?_)
  refine V_aload_n d_Ref_join_47 rfl ?_
  refine V_getf d_Ref_join_48 ff_Ref_39 zqs_o rfl ?_
  refine V_iload_n d_Ref_join_51 rfl ?_
  refine J_iaload d_Ref_join_52 zqs_a8 (by omega) (by decide) ?_
  refine V_iconst d_Ref_join_53 ?_
  refine J_icmp_eq 68 d_Ref_join_54 (by decide) (by omega) (by omega) (fun c_54 => absurd c_54 hl3) (fun c_54 => ?_)
  refine V_aload_n d_Ref_join_57 rfl ?_
  refine V_getf d_Ref_join_58 ff_Ref_39 zqs_o rfl ?_
  refine V_iload d_Ref_join_61 rfl ?_
  refine J_iaload d_Ref_join_63 zqs_a8 (by omega) (by decide) ?_
  refine V_iconst d_Ref_join_64 ?_
  refine J_icmp_ne 72 d_Ref_join_65 (by decide) (by omega) (by omega) (fun c_65 => ?_) (fun c_65 => absurd c_65 (by omega))
  refine V_iconst d_Ref_join_72 ?_
  refine V_putf d_Ref_join_73 ff_Ref_69 zqs_o ⟨_, _, _, _, rfl, rfl, rfl, rfl, rfl⟩ (Nat.le_of_ble_eq_true rfl) ?_
  refine V_w (zqs_f (th' := 0) rfl) ?_
  refine V_aload_n d_Ref_join_76 rfl ?_
  refine V_getf d_Ref_join_77 ff_Ref_69 zqs_o rfl ?_
  refine J_if_le 85 d_Ref_join_80 (by decide) (by decide) (fun c_80 => ?_) (fun c_80 => absurd c_80 (by decide))
  refine V_iload_n d_Ref_join_85 rfl ?_
  refine V_iconst d_Ref_join_86 ?_
  refine J_icmp_ne 94 d_Ref_join_87 (by decide) (by omega) (by omega) (fun c_87 => absurd rfl c_87) (fun c_87 => ?_)
  refine V_iconst d_Ref_join_90 ?_
  refine V_goto 110 d_Ref_join_91 (by decide) ?_
  refine V_istore d_Ref_join_110 (by decide) ?_
  refine V_iconst d_Ref_join_112 ?_
  refine V_istore d_Ref_join_113 (by decide) ?_
  refine kp_0 L rfl rfl ?_
  refine kp_1 (zqM0 nn l r t L) (zqM0_o (by decide)) (zqM0_o (by decide)) ?_
  refine kp_2 (zqM1 nn l r t (zqM0 nn l r t L)) ((zqM1_o (by decide)).trans (zqM0_o (by decide))) ((zqM1_o (by decide)).trans (zqM0_o (by decide))) ?_
  exact fin (zqM2 nn l r t (zqM1 nn l r t (zqM0 nn l r t L))) hW

