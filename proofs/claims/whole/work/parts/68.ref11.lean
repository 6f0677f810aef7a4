set_option maxRecDepth 100000 in
set_option maxHeartbeats 4000000 in
theorem r_plain_c (G : zG) (sz C : Nat) (th kd n t tu : Int) (ch : Int32) (ke : Int) (L : Nat → Int → Int) (w0 : zW) (c : Int) (hc : -2147483648 ≤ c ∧ c < 2147483648) (hb : c < 0 ∨ 15 < c) (o l p : Int) : zCt G M_Ref_plain (zR 2 0 0 53) [.ref C, .int (Int32.ofInt c), .int (Int32.ofInt o), .int (Int32.ofInt l), .int (Int32.ofInt p)] sz (zqs G C th kd n t tu ch ke L w0) (zdet (some (.int (Int32.ofInt 0))) (zqs G C 1 kd n t tu ch ke L w0) sz) := by
  refine V_aload_n d_Ref_plain_0 rfl ?_
  refine V_iload_n d_Ref_plain_1 rfl ?_
  refine V_callS (n := 1) d_Ref_plain_2 g_Ref_138 rfl (r_noCipher_y G _ _ c hc hb) ⟨co_Ref_noCipher, by decide +kernel, Nat.le_of_ble_eq_true rfl⟩ ⟨Nat.le_of_ble_eq_true rfl, Nat.le_of_ble_eq_true rfl, Nat.le_of_ble_eq_true rfl, Nat.le_of_ble_eq_true rfl⟩ (Nat.le_of_ble_eq_true rfl) (fun r_2 w_2 s_2 q_2 => ?_) (fun _ _ _ q => False.elim q)
  obtain ⟨rfl, rfl, rfl⟩ := q_2
  refine J_if_ne 24 d_Ref_plain_5 (by decide) (by decide) (fun c_5 => ?_) (fun c_5 => absurd c_5 (by decide))
  refine V_iconst d_Ref_plain_24 ?_
  refine V_goto 42 d_Ref_plain_25 (by decide) ?_
  refine V_putf d_Ref_plain_42 ff_Ref_69 zqs_o ⟨_, _, _, _, rfl, rfl, rfl, rfl, rfl⟩ (Nat.le_of_ble_eq_true rfl) ?_
  refine V_w (zqs_f (th' := 1) rfl) ?_
  refine V_aload_n d_Ref_plain_45 rfl ?_
  refine V_getf d_Ref_plain_46 ff_Ref_69 zqs_o rfl ?_
  refine J_if_le 54 d_Ref_plain_49 (by decide) (by decide) (fun c_49 => absurd c_49 (by decide)) (fun c_49 => ?_)
  refine V_iconst d_Ref_plain_52 ?_
  exact V_ireturn d_Ref_plain_53 rfl ⟨Nat.le_of_ble_eq_true rfl, Nat.le_of_ble_eq_true rfl⟩ ⟨rfl, rfl, rfl⟩

set_option maxRecDepth 100000 in
set_option maxHeartbeats 4000000 in
theorem r_plain_l (G : zG) (sz C : Nat) (th kd n t tu : Int) (ch : Int32) (ke : Int) (L : Nat → Int → Int) (w0 : zW) (c : Nat) (hc : c < 16) (l : Int) (hl : -2147483648 ≤ l ∧ l < 2147483648) (hb : l < 0 ∨ 15 < l) (o p : Int) : zCt G M_Ref_plain (zR 2 0 0 53) [.ref C, .int (Int32.ofInt (c : Int)), .int (Int32.ofInt o), .int (Int32.ofInt l), .int (Int32.ofInt p)] sz (zqs G C th kd n t tu ch ke L w0) (zdet (some (.int (Int32.ofInt 0))) (zqs G C 1 kd n t tu ch ke L w0) sz) := by
  refine V_aload_n d_Ref_plain_0 rfl ?_
  refine V_iload_n d_Ref_plain_1 rfl ?_
  refine V_callS (n := 1) d_Ref_plain_2 g_Ref_138 rfl (r_noCipher_n G _ _ c (by omega)) ⟨co_Ref_noCipher, by decide +kernel, Nat.le_of_ble_eq_true rfl⟩ ⟨Nat.le_of_ble_eq_true rfl, Nat.le_of_ble_eq_true rfl, Nat.le_of_ble_eq_true rfl, Nat.le_of_ble_eq_true rfl⟩ (Nat.le_of_ble_eq_true rfl) (fun r_2 w_2 s_2 q_2 => ?_) (fun _ _ _ q => False.elim q)
  obtain ⟨rfl, rfl, rfl⟩ := q_2
  refine J_if_ne 24 d_Ref_plain_5 (by decide) (by decide) (fun c_5 => absurd rfl c_5) (fun c_5 => ?_)
  refine V_aload_n d_Ref_plain_8 rfl ?_
  refine V_iload_n d_Ref_plain_9 rfl ?_
  refine V_callV (n := 1) d_Ref_plain_10 g_Ref_180 rfl zqs_o rfl (r_emptyI_y G _ C th kd n t tu ch ke L w0 l hl hb) ⟨co_Ref_empty_I, by decide +kernel, Nat.le_of_ble_eq_true rfl⟩ ⟨Nat.le_of_ble_eq_true rfl, Nat.le_of_ble_eq_true rfl, Nat.le_of_ble_eq_true rfl, Nat.le_of_ble_eq_true rfl⟩ (Nat.le_of_ble_eq_true rfl) (fun r_10 w_10 s_10 q_10 => ?_) (fun _ _ _ q => False.elim q)
  obtain ⟨rfl, rfl, rfl⟩ := q_10
  refine J_if_ne 24 d_Ref_plain_13 (by decide) (by decide) (fun c_13 => ?_) (fun c_13 => absurd c_13 (by decide))
  refine V_iconst d_Ref_plain_24 ?_
  refine V_goto 42 d_Ref_plain_25 (by decide) ?_
  refine V_putf d_Ref_plain_42 ff_Ref_69 zqs_o ⟨_, _, _, _, rfl, rfl, rfl, rfl, rfl⟩ (Nat.le_of_ble_eq_true rfl) ?_
  refine V_w (zqs_f (th' := 1) rfl) ?_
  refine V_aload_n d_Ref_plain_45 rfl ?_
  refine V_getf d_Ref_plain_46 ff_Ref_69 zqs_o rfl ?_
  refine J_if_le 54 d_Ref_plain_49 (by decide) (by decide) (fun c_49 => absurd c_49 (by decide)) (fun c_49 => ?_)
  refine V_iconst d_Ref_plain_52 ?_
  exact V_ireturn d_Ref_plain_53 rfl ⟨Nat.le_of_ble_eq_true rfl, Nat.le_of_ble_eq_true rfl⟩ ⟨rfl, rfl, rfl⟩

set_option maxRecDepth 100000 in
set_option maxHeartbeats 4000000 in
theorem r_plain_le (G : zG) (sz C : Nat) (th kd n t tu : Int) (ch : Int32) (ke : Int) (L : Nat → Int → Int) (w0 : zW) (c : Nat) (hc : c < 16) (l : Nat) (hl : l < 16) (he : L 8 l = 0) (o p : Int) : zCt G M_Ref_plain (zR 2 0 0 53) [.ref C, .int (Int32.ofInt (c : Int)), .int (Int32.ofInt o), .int (Int32.ofInt (l : Int)), .int (Int32.ofInt p)] sz (zqs G C th kd n t tu ch ke L w0) (zdet (some (.int (Int32.ofInt 0))) (zqs G C 1 kd n t tu ch ke L w0) sz) := by
  refine V_aload_n d_Ref_plain_0 rfl ?_
  refine V_iload_n d_Ref_plain_1 rfl ?_
  refine V_callS (n := 1) d_Ref_plain_2 g_Ref_138 rfl (r_noCipher_n G _ _ c (by omega)) ⟨co_Ref_noCipher, by decide +kernel, Nat.le_of_ble_eq_true rfl⟩ ⟨Nat.le_of_ble_eq_true rfl, Nat.le_of_ble_eq_true rfl, Nat.le_of_ble_eq_true rfl, Nat.le_of_ble_eq_true rfl⟩ (Nat.le_of_ble_eq_true rfl) (fun r_2 w_2 s_2 q_2 => ?_) (fun _ _ _ q => False.elim q)
  obtain ⟨rfl, rfl, rfl⟩ := q_2
  refine J_if_ne 24 d_Ref_plain_5 (by decide) (by decide) (fun c_5 => absurd rfl c_5) (fun c_5 => ?_)
  refine V_aload_n d_Ref_plain_8 rfl ?_
  refine V_iload_n d_Ref_plain_9 rfl ?_
  refine V_callV (n := 1) d_Ref_plain_10 g_Ref_180 rfl zqs_o rfl (r_emptyI_e G _ C th kd n t tu ch ke L w0 l (by omega) he) ⟨co_Ref_empty_I, by decide +kernel, Nat.le_of_ble_eq_true rfl⟩ ⟨Nat.le_of_ble_eq_true rfl, Nat.le_of_ble_eq_true rfl, Nat.le_of_ble_eq_true rfl, Nat.le_of_ble_eq_true rfl⟩ (Nat.le_of_ble_eq_true rfl) (fun r_10 w_10 s_10 q_10 => ?_) (fun _ _ _ q => False.elim q)
  obtain ⟨rfl, rfl, rfl⟩ := q_10
  refine J_if_ne 24 d_Ref_plain_13 (by decide) (by decide) (fun c_13 => ?_) (fun c_13 => absurd c_13 (by decide))
  refine V_iconst d_Ref_plain_24 ?_
  refine V_goto 42 d_Ref_plain_25 (by decide) ?_
  refine V_putf d_Ref_plain_42 ff_Ref_69 zqs_o ⟨_, _, _, _, rfl, rfl, rfl, rfl, rfl⟩ (Nat.le_of_ble_eq_true rfl) ?_
  refine V_w (zqs_f (th' := 1) rfl) ?_
  refine V_aload_n d_Ref_plain_45 rfl ?_
  refine V_getf d_Ref_plain_46 ff_Ref_69 zqs_o rfl ?_
  refine J_if_le 54 d_Ref_plain_49 (by decide) (by decide) (fun c_49 => absurd c_49 (by decide)) (fun c_49 => ?_)
  refine V_iconst d_Ref_plain_52 ?_
  exact V_ireturn d_Ref_plain_53 rfl ⟨Nat.le_of_ble_eq_true rfl, Nat.le_of_ble_eq_true rfl⟩ ⟨rfl, rfl, rfl⟩

set_option maxRecDepth 100000 in
set_option maxHeartbeats 4000000 in
theorem r_plain_p (G : zG) (sz C : Nat) (th kd n t tu : Int) (ch : Int32) (ke : Int) (L : Nat → Int → Int) (w0 : zW) (c : Nat) (hc : c < 16) (l : Nat) (hl : l < 16) (hfl : 0 < L 8 l ∧ L 8 l ≤ 3) (p : Int) (hp : -2147483648 ≤ p ∧ p < 2147483648) (hb : p < 0 ∨ 7 < p) (o : Int) : zCt G M_Ref_plain (zR 2 0 0 53) [.ref C, .int (Int32.ofInt (c : Int)), .int (Int32.ofInt o), .int (Int32.ofInt (l : Int)), .int (Int32.ofInt p)] sz (zqs G C th kd n t tu ch ke L w0) (zdet (some (.int (Int32.ofInt 0))) (zqs G C 1 kd n t tu ch ke L w0) sz) := by
  refine V_aload_n d_Ref_plain_0 rfl ?_
  refine V_iload_n d_Ref_plain_1 rfl ?_
  refine V_callS (n := 1) d_Ref_plain_2 g_Ref_138 rfl (r_noCipher_n G _ _ c (by omega)) ⟨co_Ref_noCipher, by decide +kernel, Nat.le_of_ble_eq_true rfl⟩ ⟨Nat.le_of_ble_eq_true rfl, Nat.le_of_ble_eq_true rfl, Nat.le_of_ble_eq_true rfl, Nat.le_of_ble_eq_true rfl⟩ (Nat.le_of_ble_eq_true rfl) (fun r_2 w_2 s_2 q_2 => ?_) (fun _ _ _ q => False.elim q)
  obtain ⟨rfl, rfl, rfl⟩ := q_2
  refine J_if_ne 24 d_Ref_plain_5 (by decide) (by decide) (fun c_5 => absurd rfl c_5) (fun c_5 => ?_)
  refine V_aload_n d_Ref_plain_8 rfl ?_
  refine V_iload_n d_Ref_plain_9 rfl ?_
  refine V_callV (n := 1) d_Ref_plain_10 g_Ref_180 rfl zqs_o rfl (r_emptyI_n G _ C th kd n t tu ch ke L w0 l (by omega) hfl) ⟨co_Ref_empty_I, by decide +kernel, Nat.le_of_ble_eq_true rfl⟩ ⟨Nat.le_of_ble_eq_true rfl, Nat.le_of_ble_eq_true rfl, Nat.le_of_ble_eq_true rfl, Nat.le_of_ble_eq_true rfl⟩ (Nat.le_of_ble_eq_true rfl) (fun r_10 w_10 s_10 q_10 => ?_) (fun _ _ _ q => False.elim q)
  obtain ⟨rfl, rfl, rfl⟩ := q_10
  refine J_if_ne 24 d_Ref_plain_13 (by decide) (by decide) (fun c_13 => absurd rfl c_13) (fun c_13 => ?_)
  refine V_iload d_Ref_plain_16 rfl ?_
  refine V_callS (n := 1) d_Ref_plain_18 g_Ref_142 rfl (r_noPlain_y G _ _ p hp hb) ⟨co_Ref_noPlain, by decide +kernel, Nat.le_of_ble_eq_true rfl⟩ ⟨Nat.le_of_ble_eq_true rfl, Nat.le_of_ble_eq_true rfl, Nat.le_of_ble_eq_true rfl, Nat.le_of_ble_eq_true rfl⟩ (Nat.le_of_ble_eq_true rfl) (fun r_18 w_18 s_18 q_18 => ?_) (fun _ _ _ q => False.elim q)
  obtain ⟨rfl, rfl, rfl⟩ := q_18
  refine J_if_eq 28 d_Ref_plain_21 (by decide) (by decide) (fun c_21 => absurd c_21 (by decide)) (fun c_21 => ?_)
  refine V_iconst d_Ref_plain_24 ?_
  refine V_goto 42 d_Ref_plain_25 (by decide) ?_
  refine V_putf d_Ref_plain_42 ff_Ref_69 zqs_o ⟨_, _, _, _, rfl, rfl, rfl, rfl, rfl⟩ (Nat.le_of_ble_eq_true rfl) ?_
  refine V_w (zqs_f (th' := 1) rfl) ?_
  refine V_aload_n d_Ref_plain_45 rfl ?_
  refine V_getf d_Ref_plain_46 ff_Ref_69 zqs_o rfl ?_
  refine J_if_le 54 d_Ref_plain_49 (by decide) (by decide) (fun c_49 => absurd c_49 (by decide)) (fun c_49 => ?_)
  refine V_iconst d_Ref_plain_52 ?_
  exact V_ireturn d_Ref_plain_53 rfl ⟨Nat.le_of_ble_eq_true rfl, Nat.le_of_ble_eq_true rfl⟩ ⟨rfl, rfl, rfl⟩

set_option maxRecDepth 100000 in
set_option maxHeartbeats 4000000 in
theorem r_plain_o1 (G : zG) (sz C : Nat) (th kd n t tu : Int) (ch : Int32) (ke : Int) (L : Nat → Int → Int) (w0 : zW) (c : Nat) (hc : c < 16) (l : Nat) (hl : l < 16) (hfl : 0 < L 8 l ∧ L 8 l ≤ 3) (p : Nat) (hp : p < 8) (o : Int) (ho : -2147483648 ≤ o ∧ o < 2147483648) (hb : o < 0) : zCt G M_Ref_plain (zR 2 0 0 53) [.ref C, .int (Int32.ofInt (c : Int)), .int (Int32.ofInt o), .int (Int32.ofInt (l : Int)), .int (Int32.ofInt (p : Int))] sz (zqs G C th kd n t tu ch ke L w0) (zdet (some (.int (Int32.ofInt 0))) (zqs G C 2 kd n t tu ch ke L w0) sz) := by
  refine V_aload_n d_Ref_plain_0 rfl ?_
  refine V_iload_n d_Ref_plain_1 rfl ?_
  refine V_callS (n := 1) d_Ref_plain_2 g_Ref_138 rfl (r_noCipher_n G _ _ c (by omega)) ⟨co_Ref_noCipher, by decide +kernel, Nat.le_of_ble_eq_true rfl⟩ ⟨Nat.le_of_ble_eq_true rfl, Nat.le_of_ble_eq_true rfl, Nat.le_of_ble_eq_true rfl, Nat.le_of_ble_eq_true rfl⟩ (Nat.le_of_ble_eq_true rfl) (fun r_2 w_2 s_2 q_2 => ?_) (fun _ _ _ q => False.elim q)
  obtain ⟨rfl, rfl, rfl⟩ := q_2
  refine J_if_ne 24 d_Ref_plain_5 (by decide) (by decide) (fun c_5 => absurd rfl c_5) (fun c_5 => ?_)
  refine V_aload_n d_Ref_plain_8 rfl ?_
  refine V_iload_n d_Ref_plain_9 rfl ?_
  refine V_callV (n := 1) d_Ref_plain_10 g_Ref_180 rfl zqs_o rfl (r_emptyI_n G _ C th kd n t tu ch ke L w0 l (by omega) hfl) ⟨co_Ref_empty_I, by decide +kernel, Nat.le_of_ble_eq_true rfl⟩ ⟨Nat.le_of_ble_eq_true rfl, Nat.le_of_ble_eq_true rfl, Nat.le_of_ble_eq_true rfl, Nat.le_of_ble_eq_true rfl⟩ (Nat.le_of_ble_eq_true rfl) (fun r_10 w_10 s_10 q_10 => ?_) (fun _ _ _ q => False.elim q)
  obtain ⟨rfl, rfl, rfl⟩ := q_10
  refine J_if_ne 24 d_Ref_plain_13 (by decide) (by decide) (fun c_13 => absurd rfl c_13) (fun c_13 => ?_)
  refine V_iload d_Ref_plain_16 rfl ?_
  refine V_callS (n := 1) d_Ref_plain_18 g_Ref_142 rfl (r_noPlain_n G _ _ p (by omega)) ⟨co_Ref_noPlain, by decide +kernel, Nat.le_of_ble_eq_true rfl⟩ ⟨Nat.le_of_ble_eq_true rfl, Nat.le_of_ble_eq_true rfl, Nat.le_of_ble_eq_true rfl, Nat.le_of_ble_eq_true rfl⟩ (Nat.le_of_ble_eq_true rfl) (fun r_18 w_18 s_18 q_18 => ?_) (fun _ _ _ q => False.elim q)
  obtain ⟨rfl, rfl, rfl⟩ := q_18
  refine J_if_eq 28 d_Ref_plain_21 (by decide) (by decide) (fun c_21 => ?_) (fun c_21 => absurd rfl c_21)
  refine V_iload_n d_Ref_plain_28 rfl ?_
  refine J_if_lt 37 d_Ref_plain_29 (by decide) (by omega) (fun c_29 => ?_) (fun c_29 => absurd c_29 (by omega))
  refine V_iconst d_Ref_plain_37 ?_
  refine V_goto 42 d_Ref_plain_38 (by decide) ?_
  refine V_putf d_Ref_plain_42 ff_Ref_69 zqs_o ⟨_, _, _, _, rfl, rfl, rfl, rfl, rfl⟩ (Nat.le_of_ble_eq_true rfl) ?_
  refine V_w (zqs_f (th' := 2) rfl) ?_
  refine V_aload_n d_Ref_plain_45 rfl ?_
  refine V_getf d_Ref_plain_46 ff_Ref_69 zqs_o rfl ?_
  refine J_if_le 54 d_Ref_plain_49 (by decide) (by decide) (fun c_49 => absurd c_49 (by decide)) (fun c_49 => ?_)
  refine V_iconst d_Ref_plain_52 ?_
  exact V_ireturn d_Ref_plain_53 rfl ⟨Nat.le_of_ble_eq_true rfl, Nat.le_of_ble_eq_true rfl⟩ ⟨rfl, rfl, rfl⟩

set_option maxRecDepth 100000 in
set_option maxHeartbeats 4000000 in
theorem r_plain_o2 (G : zG) (sz C : Nat) (th kd n t tu : Int) (ch : Int32) (ke : Int) (L : Nat → Int → Int) (w0 : zW) (c : Nat) (hc : c < 16) (l : Nat) (hl : l < 16) (hfl : 0 < L 8 l ∧ L 8 l ≤ 3) (p : Nat) (hp : p < 8) (o : Int) (ho : -2147483648 ≤ o ∧ o < 2147483648) (hb : 1 < o) : zCt G M_Ref_plain (zR 2 0 0 53) [.ref C, .int (Int32.ofInt (c : Int)), .int (Int32.ofInt o), .int (Int32.ofInt (l : Int)), .int (Int32.ofInt (p : Int))] sz (zqs G C th kd n t tu ch ke L w0) (zdet (some (.int (Int32.ofInt 0))) (zqs G C 2 kd n t tu ch ke L w0) sz) := by
  refine V_aload_n d_Ref_plain_0 rfl ?_
  refine V_iload_n d_Ref_plain_1 rfl ?_
  refine V_callS (n := 1) d_Ref_plain_2 g_Ref_138 rfl (r_noCipher_n G _ _ c (by omega)) ⟨co_Ref_noCipher, by decide +kernel, Nat.le_of_ble_eq_true rfl⟩ ⟨Nat.le_of_ble_eq_true rfl, Nat.le_of_ble_eq_true rfl, Nat.le_of_ble_eq_true rfl, Nat.le_of_ble_eq_true rfl⟩ (Nat.le_of_ble_eq_true rfl) (fun r_2 w_2 s_2 q_2 => ?_) (fun _ _ _ q => False.elim q)
  obtain ⟨rfl, rfl, rfl⟩ := q_2
  refine J_if_ne 24 d_Ref_plain_5 (by decide) (by decide) (fun c_5 => absurd rfl c_5) (fun c_5 => ?_)
  refine V_aload_n d_Ref_plain_8 rfl ?_
  refine V_iload_n d_Ref_plain_9 rfl ?_
  refine V_callV (n := 1) d_Ref_plain_10 g_Ref_180 rfl zqs_o rfl (r_emptyI_n G _ C th kd n t tu ch ke L w0 l (by omega) hfl) ⟨co_Ref_empty_I, by decide +kernel, Nat.le_of_ble_eq_true rfl⟩ ⟨Nat.le_of_ble_eq_true rfl, Nat.le_of_ble_eq_true rfl, Nat.le_of_ble_eq_true rfl, Nat.le_of_ble_eq_true rfl⟩ (Nat.le_of_ble_eq_true rfl) (fun r_10 w_10 s_10 q_10 => ?_) (fun _ _ _ q => False.elim q)
  obtain ⟨rfl, rfl, rfl⟩ := q_10
  refine J_if_ne 24 d_Ref_plain_13 (by decide) (by decide) (fun c_13 => absurd rfl c_13) (fun c_13 => ?_)
  refine V_iload d_Ref_plain_16 rfl ?_
  refine V_callS (n := 1) d_Ref_plain_18 g_Ref_142 rfl (r_noPlain_n G _ _ p (by omega)) ⟨co_Ref_noPlain, by decide +kernel, Nat.le_of_ble_eq_true rfl⟩ ⟨Nat.le_of_ble_eq_true rfl, Nat.le_of_ble_eq_true rfl, Nat.le_of_ble_eq_true rfl, Nat.le_of_ble_eq_true rfl⟩ (Nat.le_of_ble_eq_true rfl) (fun r_18 w_18 s_18 q_18 => ?_) (fun _ _ _ q => False.elim q)
  obtain ⟨rfl, rfl, rfl⟩ := q_18
  refine J_if_eq 28 d_Ref_plain_21 (by decide) (by decide) (fun c_21 => ?_) (fun c_21 => absurd rfl c_21)
  refine V_iload_n d_Ref_plain_28 rfl ?_
  refine J_if_lt 37 d_Ref_plain_29 (by decide) (by omega) (fun c_29 => absurd c_29 (by omega)) (fun c_29 => ?_)
  refine V_iload_n d_Ref_plain_32 rfl ?_
  refine V_iconst d_Ref_plain_33 ?_
  refine J_icmp_le 41 d_Ref_plain_34 (by decide) (by omega) (by omega) (fun c_34 => absurd c_34 (by omega)) (fun c_34 => ?_)
  refine V_iconst d_Ref_plain_37 ?_
  refine V_goto 42 d_Ref_plain_38 (by decide) ?_
  refine V_putf d_Ref_plain_42 ff_Ref_69 zqs_o ⟨_, _, _, _, rfl, rfl, rfl, rfl, rfl⟩ (Nat.le_of_ble_eq_true rfl) ?_
  refine V_w (zqs_f (th' := 2) rfl) ?_
  refine V_aload_n d_Ref_plain_45 rfl ?_
  refine V_getf d_Ref_plain_46 ff_Ref_69 zqs_o rfl ?_
  refine J_if_le 54 d_Ref_plain_49 (by decide) (by decide) (fun c_49 => absurd c_49 (by decide)) (fun c_49 => ?_)
  refine V_iconst d_Ref_plain_52 ?_
  exact V_ireturn d_Ref_plain_53 rfl ⟨Nat.le_of_ble_eq_true rfl, Nat.le_of_ble_eq_true rfl⟩ ⟨rfl, rfl, rfl⟩

set_option maxRecDepth 100000 in
set_option maxHeartbeats 4000000 in
theorem r_plain_0 (G : zG) (sz C : Nat) (th kd n t tu : Int) (ch : Int32) (ke : Int) (L : Nat → Int → Int) (w0 : zW) (nn : Nat) (hnn : n = (nn : Int)) (hn : nn ≤ 32) (c : Nat) (hc : c < 16) (l : Nat) (hl : l < 16) (p : Nat) (hp : p < 8) (q : Nat) (hq : L 8 l = (q : Int)) (hq3 : 0 < q ∧ q ≤ 3) (ht : 0 < t ∧ t ≤ 1000) (hPa : ∀ j : Int, 0 ≤ j → j < 1536 → 0 ≤ L 9 j ∧ L 9 j < 268435399) (hPl : ∀ j : Int, 0 ≤ j → j < 256 → 0 ≤ L 7 j ∧ L 7 j ≤ 1000) (hW : ∀ k : Nat, k < q → ∀ i : Nat, i < nn → -9223372036854775808 ≤ (zqPl nn l p t 0 L q) 15 (32 * (k : Int) + i) ∧ (zqPl nn l p t 0 L q) 15 (32 * (k : Int) + i) < 9223372036854775808) : zCt G M_Ref_plain (zR 2 0 0 53) [.ref C, .int (Int32.ofInt (c : Int)), .int (Int32.ofInt 0), .int (Int32.ofInt (l : Int)), .int (Int32.ofInt (p : Int))] sz (zqs G C th kd n t tu ch ke L w0) (zdet (some (.int (Int32.ofInt (q : Int)))) (zqs G C 0 kd n t tu ch ke (zqb nn c (zlu (zqPl nn l p t 0 L q) 8 (zu ((zqPl nn l p t 0 L q) 8) c q)) q) w0) sz) := by
  subst hnn
  refine V_aload_n d_Ref_plain_0 rfl ?_
  refine V_iload_n d_Ref_plain_1 rfl ?_
  refine V_callS (n := 1) d_Ref_plain_2 g_Ref_138 rfl (r_noCipher_n G _ _ c (by omega)) ⟨co_Ref_noCipher, by decide +kernel, Nat.le_of_ble_eq_true rfl⟩ ⟨Nat.le_of_ble_eq_true rfl, Nat.le_of_ble_eq_true rfl, Nat.le_of_ble_eq_true rfl, Nat.le_of_ble_eq_true rfl⟩ (Nat.le_of_ble_eq_true rfl) (fun r_2 w_2 s_2 q_2 => ?_) (fun _ _ _ q => False.elim q)
  obtain ⟨rfl, rfl, rfl⟩ := q_2
  refine J_if_ne 24 d_Ref_plain_5 (by decide) (by decide) (fun c_5 => absurd rfl c_5) (fun c_5 => ?_)
  refine V_aload_n d_Ref_plain_8 rfl ?_
  refine V_iload_n d_Ref_plain_9 rfl ?_
  refine V_callV (n := 1) d_Ref_plain_10 g_Ref_180 rfl zqs_o rfl (r_emptyI_n G _ C th kd nn t tu ch ke L w0 l (by omega) (by omega)) ⟨co_Ref_empty_I, by decide +kernel, Nat.le_of_ble_eq_true rfl⟩ ⟨Nat.le_of_ble_eq_true rfl, Nat.le_of_ble_eq_true rfl, Nat.le_of_ble_eq_true rfl, Nat.le_of_ble_eq_true rfl⟩ (Nat.le_of_ble_eq_true rfl) (fun r_10 w_10 s_10 q_10 => ?_) (fun _ _ _ q => False.elim q)
  obtain ⟨rfl, rfl, rfl⟩ := q_10
  refine J_if_ne 24 d_Ref_plain_13 (by decide) (by decide) (fun c_13 => absurd rfl c_13) (fun c_13 => ?_)
  refine V_iload d_Ref_plain_16 rfl ?_
  refine V_callS (n := 1) d_Ref_plain_18 g_Ref_142 rfl (r_noPlain_n G _ _ p (by omega)) ⟨co_Ref_noPlain, by decide +kernel, Nat.le_of_ble_eq_true rfl⟩ ⟨Nat.le_of_ble_eq_true rfl, Nat.le_of_ble_eq_true rfl, Nat.le_of_ble_eq_true rfl, Nat.le_of_ble_eq_true rfl⟩ (Nat.le_of_ble_eq_true rfl) (fun r_18 w_18 s_18 q_18 => ?_) (fun _ _ _ q => False.elim q)
  obtain ⟨rfl, rfl, rfl⟩ := q_18
  refine J_if_eq 28 d_Ref_plain_21 (by decide) (by decide) (fun c_21 => ?_) (fun c_21 => absurd rfl c_21)
  refine V_iload_n d_Ref_plain_28 rfl ?_
  refine J_if_lt 37 d_Ref_plain_29 (by decide) (by omega) (fun c_29 => absurd c_29 (by decide)) (fun c_29 => ?_)
  refine V_iload_n d_Ref_plain_32 rfl ?_
  refine V_iconst d_Ref_plain_33 ?_
  refine J_icmp_le 41 d_Ref_plain_34 (by decide) (by omega) (by omega) (fun c_34 => ?_) (fun c_34 => absurd c_34 (by decide))
  refine V_iconst d_Ref_plain_41 ?_
  refine V_putf d_Ref_plain_42 ff_Ref_69 zqs_o ⟨_, _, _, _, rfl, rfl, rfl, rfl, rfl⟩ (Nat.le_of_ble_eq_true rfl) ?_
  refine V_w (zqs_f (th' := 0) rfl) ?_
  refine V_aload_n d_Ref_plain_45 rfl ?_
  refine V_getf d_Ref_plain_46 ff_Ref_69 zqs_o rfl ?_
  refine J_if_le 54 d_Ref_plain_49 (by decide) (by decide) (fun c_49 => ?_) (fun c_49 => absurd c_49 (by decide))
  refine V_aload_n d_Ref_plain_54 rfl ?_
  refine V_getf d_Ref_plain_55 ff_Ref_39 zqs_o rfl ?_
  refine V_iload_n d_Ref_plain_58 rfl ?_
  refine J_iaload d_Ref_plain_59 zqs_a8 (by omega) (by decide) ?_
  rw [hq]
  refine V_istore d_Ref_plain_60 (by decide) ?_
  refine V_iconst d_Ref_plain_62 ?_
  refine V_istore d_Ref_plain_63 (by decide) ?_
  have stk : ∀ k : Nat, k < q → (fun k : Nat => V G M_Ref_plain (zdet (some (.int (Int32.ofInt (q : Int)))) (zqs G C 0 kd nn t tu ch ke (zqb nn c (zlu (zqPl nn l p t 0 L q) 8 (zu ((zqPl nn l p t 0 L q) 8) c q)) q) w0) sz) (zR 2 0 0 53) 0 0 sz 65 [(0, .ref C), (1, .int (Int32.ofInt (c : Int))), (2, .int (Int32.ofInt 0)), (3, .int (Int32.ofInt (l : Int))), (4, .int (Int32.ofInt (p : Int))), (5, .int (Int32.ofInt (q : Int))), (6, .int (Int32.ofInt (k : Int)))] [] (zqs G C 0 kd nn t tu ch ke (zqPl nn l p t 0 L k) w0)) (k + 1) → (fun k : Nat => V G M_Ref_plain (zdet (some (.int (Int32.ofInt (q : Int)))) (zqs G C 0 kd nn t tu ch ke (zqb nn c (zlu (zqPl nn l p t 0 L q) 8 (zu ((zqPl nn l p t 0 L q) 8) c q)) q) w0) sz) (zR 2 0 0 53) 0 0 sz 65 [(0, .ref C), (1, .int (Int32.ofInt (c : Int))), (2, .int (Int32.ofInt 0)), (3, .int (Int32.ofInt (l : Int))), (4, .int (Int32.ofInt (p : Int))), (5, .int (Int32.ofInt (q : Int))), (6, .int (Int32.ofInt (k : Int)))] [] (zqs G C 0 kd nn t tu ch ke (zqPl nn l p t 0 L k) w0)) k := by
    intro k hk ih
    have x7 : (zqPl nn l p t 0 L k) 7 = L 7 := zqPl_o (by decide) k
    have x8 : (zqPl nn l p t 0 L k) 8 = L 8 := zqPl_o (by decide) k
    have x9 : (zqPl nn l p t 0 L k) 9 = L 9 := zqPl_o (by decide) k
    refine V_iload d_Ref_plain_65 rfl ?_
    refine V_iload d_Ref_plain_67 rfl ?_
    refine J_icmp_ge 249 d_Ref_plain_69 (by decide) (by omega) (by omega) (fun c_69 => absurd c_69 (by omega)) (fun c_69 => ?_)
    refine V_aload_n d_Ref_plain_72 rfl ?_
    refine V_iload_n d_Ref_plain_73 rfl ?_
    refine V_iload d_Ref_plain_74 rfl ?_
    refine V_aload_n d_Ref_plain_76 rfl ?_
    refine V_getf d_Ref_plain_77 ff_Ref_45 zqs_o rfl ?_
    refine V_callV (n := 3) d_Ref_plain_80 g_Ref_159 rfl zqs_o rfl (r_take G _ C 0 kd nn t tu ch ke (zqPl nn l p t 0 L k) w0 nn rfl hn l k 10 hl (by omega) (by unfold zqi; decide) (by rw [x8]; omega)) ⟨co_Ref_take, by decide +kernel, Nat.le_of_ble_eq_true rfl⟩ ⟨Nat.le_of_ble_eq_true rfl, Nat.le_of_ble_eq_true rfl, Nat.le_of_ble_eq_true rfl, Nat.le_of_ble_eq_true rfl⟩ (Nat.le_of_ble_eq_true rfl) (fun r_80 w_80 s_80 q_80 => ?_) (fun _ _ _ q => False.elim q)
    obtain ⟨rfl, rfl, rfl⟩ := q_80
    refine V_iconst d_Ref_plain_83 ?_
    refine V_istore d_Ref_plain_84 (by decide) ?_
    refine V_w (w' := (zqs G C 0 kd nn t tu ch ke (zlu (zqTk nn l k 10 (zqPl nn l p t 0 L k)) 11 (zif ((0 : Nat) : Int) (fun i => (zqTk nn l k 10 (zqPl nn l p t 0 L k)) 7 (32 * (p : Int) + i)) ((zqTk nn l k 10 (zqPl nn l p t 0 L k)) 11))) w0)) (by rw [show ((0 : Nat) : Int) = 0 from rfl, zif_0, zlu_self] <;> rfl) ?_
    have st_86 : ∀ i : Nat, i < nn → (fun i : Nat => V G M_Ref_plain (zdet (some (.int (Int32.ofInt (q : Int)))) (zqs G C 0 kd nn t tu ch ke (zqb nn c (zlu (zqPl nn l p t 0 L q) 8 (zu ((zqPl nn l p t 0 L q) 8) c q)) q) w0) sz) (zR 2 0 0 53) 0 0 sz 86 [(0, .ref C), (1, .int (Int32.ofInt (c : Int))), (2, .int (Int32.ofInt 0)), (3, .int (Int32.ofInt (l : Int))), (4, .int (Int32.ofInt (p : Int))), (5, .int (Int32.ofInt (q : Int))), (6, .int (Int32.ofInt (k : Int))), (7, .int (Int32.ofInt (i : Int)))] [] (zqs G C 0 kd nn t tu ch ke (zlu (zqTk nn l k 10 (zqPl nn l p t 0 L k)) 11 (zif (i : Int) (fun i => (zqTk nn l k 10 (zqPl nn l p t 0 L k)) 7 (32 * (p : Int) + i)) ((zqTk nn l k 10 (zqPl nn l p t 0 L k)) 11))) w0)) (i + 1) → (fun i : Nat => V G M_Ref_plain (zdet (some (.int (Int32.ofInt (q : Int)))) (zqs G C 0 kd nn t tu ch ke (zqb nn c (zlu (zqPl nn l p t 0 L q) 8 (zu ((zqPl nn l p t 0 L q) 8) c q)) q) w0) sz) (zR 2 0 0 53) 0 0 sz 86 [(0, .ref C), (1, .int (Int32.ofInt (c : Int))), (2, .int (Int32.ofInt 0)), (3, .int (Int32.ofInt (l : Int))), (4, .int (Int32.ofInt (p : Int))), (5, .int (Int32.ofInt (q : Int))), (6, .int (Int32.ofInt (k : Int))), (7, .int (Int32.ofInt (i : Int)))] [] (zqs G C 0 kd nn t tu ch ke (zlu (zqTk nn l k 10 (zqPl nn l p t 0 L k)) 11 (zif (i : Int) (fun i => (zqTk nn l k 10 (zqPl nn l p t 0 L k)) 7 (32 * (p : Int) + i)) ((zqTk nn l k 10 (zqPl nn l p t 0 L k)) 11))) w0)) i := by
      intro i hi ih
      have hpl := hPl (32 * (p : Int) + i) (by omega) (by omega)
      refine V_iload d_Ref_plain_86 rfl ?_
      refine V_aload_n d_Ref_plain_88 rfl ?_
      refine V_getf d_Ref_plain_89 ff_Ref_7 zqs_o rfl ?_
      refine J_icmp_ge 122 d_Ref_plain_92 (by decide) (by omega) (by omega) (fun c_92 => absurd c_92 (by omega)) (fun c_92 => ?_)
      refine V_aload_n d_Ref_plain_95 rfl ?_
      refine V_getf d_Ref_plain_96 ff_Ref_48 zqs_o rfl ?_
      refine V_iload d_Ref_plain_99 rfl ?_
      refine V_aload_n d_Ref_plain_101 rfl ?_
      refine V_getf d_Ref_plain_102 ff_Ref_36 zqs_o rfl ?_
      refine J_bipush d_Ref_plain_105 (by decide) ?_
      refine V_iload d_Ref_plain_107 rfl ?_
      refine J_imul d_Ref_plain_109 ?_
      refine V_iload d_Ref_plain_110 rfl ?_
      refine J_iadd d_Ref_plain_112 ?_
      refine J_iaload d_Ref_plain_113 zqs_a7 (by omega) (by decide) ?_
      rw [zlu_n (show 7 ≠ 11 by decide)]
      refine J_i2l d_Ref_plain_114 (by show -2147483648 ≤ (zqPl nn l p t 0 L k) 7 _ ∧ (zqPl nn l p t 0 L k) 7 _ < 2147483648; rw [x7]; omega) ?_
      refine J_lastore d_Ref_plain_115 (zqs_r (j := 11) (by unfold zqi; decide)) (by omega) (by decide) ?_
      refine J_iinc d_Ref_plain_116 rfl (by decide) ?_
      refine V_goto 86 d_Ref_plain_119 (by decide) ?_
      exact V_w (by rw [zqs_lu (by unfold zqi; decide), zlu_s, zif_s (by omega) rfl, zlu_lu] <;> rfl) ih
    refine zfor nn (fun i : Nat => V G M_Ref_plain (zdet (some (.int (Int32.ofInt (q : Int)))) (zqs G C 0 kd nn t tu ch ke (zqb nn c (zlu (zqPl nn l p t 0 L q) 8 (zu ((zqPl nn l p t 0 L q) 8) c q)) q) w0) sz) (zR 2 0 0 53) 0 0 sz 86 [(0, .ref C), (1, .int (Int32.ofInt (c : Int))), (2, .int (Int32.ofInt 0)), (3, .int (Int32.ofInt (l : Int))), (4, .int (Int32.ofInt (p : Int))), (5, .int (Int32.ofInt (q : Int))), (6, .int (Int32.ofInt (k : Int))), (7, .int (Int32.ofInt (i : Int)))] [] (zqs G C 0 kd nn t tu ch ke (zlu (zqTk nn l k 10 (zqPl nn l p t 0 L k)) 11 (zif (i : Int) (fun i => (zqTk nn l k 10 (zqPl nn l p t 0 L k)) 7 (32 * (p : Int) + i)) ((zqTk nn l k 10 (zqPl nn l p t 0 L k)) 11))) w0)) ?_ st_86 0 (Nat.zero_le nn)
    refine V_iload d_Ref_plain_86 rfl ?_
    refine V_aload_n d_Ref_plain_88 rfl ?_
    refine V_getf d_Ref_plain_89 ff_Ref_7 zqs_o rfl ?_
    refine J_icmp_ge 122 d_Ref_plain_92 (by decide) (by omega) (by omega) (fun c_92 => ?_) (fun c_92 => absurd c_92 (by omega))
    refine V_iload_n d_Ref_plain_122 rfl ?_
    refine V_iconst d_Ref_plain_123 ?_
    refine J_icmp_ne 146 d_Ref_plain_124 (by decide) (by omega) (by omega) (fun c_124 => ?_) (fun c_124 => absurd c_124 (by decide))
    refine V_iconst d_Ref_plain_146 ?_
    refine V_istore d_Ref_plain_147 (by decide) ?_
    refine V_w (w' := (zqs G C 0 kd nn t tu ch ke (zlu (zqp1 nn l p k (zqPl nn l p t 0 L k)) 12 (zif (((0 : Nat) : Int) : Int) (zqpF t k (zqp1 nn l p k (zqPl nn l p t 0 L k))) ((zqp1 nn l p k (zqPl nn l p t 0 L k)) 12))) w0)) (by rw [show ((0 : Nat) : Int) = 0 from rfl, zif_0, zlu_self] <;> rfl) ?_
    have st1 : ∀ i : Nat, i < nn → (fun i : Nat => V G M_Ref_plain (zdet (some (.int (Int32.ofInt (q : Int)))) (zqs G C 0 kd nn t tu ch ke (zqb nn c (zlu (zqPl nn l p t 0 L q) 8 (zu ((zqPl nn l p t 0 L q) 8) c q)) q) w0) sz) (zR 2 0 0 53) 0 0 sz 149 [(0, .ref C), (1, .int (Int32.ofInt (c : Int))), (2, .int (Int32.ofInt 0)), (3, .int (Int32.ofInt (l : Int))), (4, .int (Int32.ofInt (p : Int))), (5, .int (Int32.ofInt (q : Int))), (6, .int (Int32.ofInt (k : Int))), (7, .int (Int32.ofInt (i : Int)))] [] (zqs G C 0 kd nn t tu ch ke (zlu (zqp1 nn l p k (zqPl nn l p t 0 L k)) 12 (zif (i : Int) (zqpF t k (zqp1 nn l p k (zqPl nn l p t 0 L k))) ((zqp1 nn l p k (zqPl nn l p t 0 L k)) 12))) w0)) (i + 1) → (fun i : Nat => V G M_Ref_plain (zdet (some (.int (Int32.ofInt (q : Int)))) (zqs G C 0 kd nn t tu ch ke (zqb nn c (zlu (zqPl nn l p t 0 L q) 8 (zu ((zqPl nn l p t 0 L q) 8) c q)) q) w0) sz) (zR 2 0 0 53) 0 0 sz 149 [(0, .ref C), (1, .int (Int32.ofInt (c : Int))), (2, .int (Int32.ofInt 0)), (3, .int (Int32.ofInt (l : Int))), (4, .int (Int32.ofInt (p : Int))), (5, .int (Int32.ofInt (q : Int))), (6, .int (Int32.ofInt (k : Int))), (7, .int (Int32.ofInt (i : Int)))] [] (zqs G C 0 kd nn t tu ch ke (zlu (zqp1 nn l p k (zqPl nn l p t 0 L k)) 12 (zif (i : Int) (zqpF t k (zqp1 nn l p k (zqPl nn l p t 0 L k))) ((zqp1 nn l p k (zqPl nn l p t 0 L k)) 12))) w0)) i := by
      intro i hi ih2
      by_cases hs : (k : Int) = 0
      · skip
        refine V_iload d_Ref_plain_149 rfl ?_
        refine V_aload_n d_Ref_plain_151 rfl ?_
        refine V_getf d_Ref_plain_152 ff_Ref_7 zqs_o rfl ?_
        refine J_icmp_ge 205 d_Ref_plain_155 (by decide) (by omega) (by omega) (fun c_155 => absurd c_155 (by omega)) (fun c_155 => ?_)
        refine V_aload_n d_Ref_plain_158 rfl ?_
        refine V_getf d_Ref_plain_159 ff_Ref_51 zqs_o rfl ?_
        refine V_iload d_Ref_plain_162 rfl ?_
        refine V_aload_n d_Ref_plain_164 rfl ?_
        refine V_getf d_Ref_plain_165 ff_Ref_45 zqs_o rfl ?_
        refine V_iload d_Ref_plain_168 rfl ?_
        refine J_laload d_Ref_plain_170 (zqs_r (j := 10) (by unfold zqi; decide)) (by omega) (by decide) ?_
        rw [zlu_n (show 10 ≠ 12 by decide)]
        refine V_iload d_Ref_plain_171 rfl ?_
        refine J_if_ne 196 d_Ref_plain_173 (by decide) (by omega) (fun c_173 => absurd hs c_173) (fun c_173 => ?_)
        refine J_ldc2 d_Ref_plain_176 k_Ref_72 ?_
        refine V_aload_n d_Ref_plain_179 rfl ?_
        refine V_getf d_Ref_plain_180 ff_Ref_13 zqs_o rfl ?_
        refine J_i2l d_Ref_plain_183 (by omega) ?_
        refine J_ldivP d_Ref_plain_184 (by omega) (by omega) ?_
        refine V_aload_n d_Ref_plain_185 rfl ?_
        refine V_getf d_Ref_plain_186 ff_Ref_48 zqs_o rfl ?_
        refine V_iload d_Ref_plain_189 rfl ?_
        refine J_laload d_Ref_plain_191 (zqs_r (j := 11) (by unfold zqi; decide)) (by omega) (by decide) ?_
        rw [zlu_n (show 11 ≠ 12 by decide)]
        refine J_lmul d_Ref_plain_192 ?_
        refine V_goto 197 d_Ref_plain_193 (by decide) ?_
        refine J_ladd d_Ref_plain_197 ?_
        refine J_lastore d_Ref_plain_198 (zqs_r (j := 12) (by unfold zqi; decide)) (by omega) (by decide) ?_
        refine J_iinc d_Ref_plain_199 rfl (by decide) ?_
        refine V_goto 149 d_Ref_plain_202 (by decide) ?_
        exact V_w (by rw [zqs_lu (by unfold zqi; decide), zlu_s, zif_s (by omega) (show _ = zqpF t k (zqp1 nn l p k (zqPl nn l p t 0 L k)) i from by unfold zqpF; rw [if_pos hs]), zlu_lu] <;> rfl) ih2
      · skip
        refine V_iload d_Ref_plain_149 rfl ?_
        refine V_aload_n d_Ref_plain_151 rfl ?_
        refine V_getf d_Ref_plain_152 ff_Ref_7 zqs_o rfl ?_
        refine J_icmp_ge 205 d_Ref_plain_155 (by decide) (by omega) (by omega) (fun c_155 => absurd c_155 (by omega)) (fun c_155 => ?_)
        refine V_aload_n d_Ref_plain_158 rfl ?_
        refine V_getf d_Ref_plain_159 ff_Ref_51 zqs_o rfl ?_
        refine V_iload d_Ref_plain_162 rfl ?_
        refine V_aload_n d_Ref_plain_164 rfl ?_
        refine V_getf d_Ref_plain_165 ff_Ref_45 zqs_o rfl ?_
        refine V_iload d_Ref_plain_168 rfl ?_
        refine J_laload d_Ref_plain_170 (zqs_r (j := 10) (by unfold zqi; decide)) (by omega) (by decide) ?_
        rw [zlu_n (show 10 ≠ 12 by decide)]
        refine V_iload d_Ref_plain_171 rfl ?_
        refine J_if_ne 196 d_Ref_plain_173 (by decide) (by omega) (fun c_173 => ?_) (fun c_173 => absurd c_173 hs)
        refine J_lconst (z := 0) d_Ref_plain_196 rfl ?_
        refine J_ladd d_Ref_plain_197 ?_
        refine J_lastore d_Ref_plain_198 (zqs_r (j := 12) (by unfold zqi; decide)) (by omega) (by decide) ?_
        refine J_iinc d_Ref_plain_199 rfl (by decide) ?_
        refine V_goto 149 d_Ref_plain_202 (by decide) ?_
        exact V_w (by rw [zqs_lu (by unfold zqi; decide), zlu_s, zif_s (by omega) (show _ = zqpF t k (zqp1 nn l p k (zqPl nn l p t 0 L k)) i from by unfold zqpF; rw [if_neg hs]), zlu_lu] <;> rfl) ih2
    refine zfor nn (fun i : Nat => V G M_Ref_plain (zdet (some (.int (Int32.ofInt (q : Int)))) (zqs G C 0 kd nn t tu ch ke (zqb nn c (zlu (zqPl nn l p t 0 L q) 8 (zu ((zqPl nn l p t 0 L q) 8) c q)) q) w0) sz) (zR 2 0 0 53) 0 0 sz 149 [(0, .ref C), (1, .int (Int32.ofInt (c : Int))), (2, .int (Int32.ofInt 0)), (3, .int (Int32.ofInt (l : Int))), (4, .int (Int32.ofInt (p : Int))), (5, .int (Int32.ofInt (q : Int))), (6, .int (Int32.ofInt (k : Int))), (7, .int (Int32.ofInt (i : Int)))] [] (zqs G C 0 kd nn t tu ch ke (zlu (zqp1 nn l p k (zqPl nn l p t 0 L k)) 12 (zif (i : Int) (zqpF t k (zqp1 nn l p k (zqPl nn l p t 0 L k))) ((zqp1 nn l p k (zqPl nn l p t 0 L k)) 12))) w0)) ?_ st1 0 (Nat.zero_le nn)
    refine V_iload d_Ref_plain_149 rfl ?_
    refine V_aload_n d_Ref_plain_151 rfl ?_
    refine V_getf d_Ref_plain_152 ff_Ref_7 zqs_o rfl ?_
    refine J_icmp_ge 205 d_Ref_plain_155 (by decide) (by omega) (by omega) (fun c_155 => ?_) (fun c_155 => absurd c_155 (by omega))
    refine V_iconst d_Ref_plain_205 ?_
    refine V_istore d_Ref_plain_206 (by decide) ?_
    refine V_w (w' := (zqs G C 0 kd nn t tu ch ke (zlu (zqp2 nn t 0 k (zqp1 nn l p k (zqPl nn l p t 0 L k))) 15 (zsf (32 * (k : Int)) (((0 : Nat) : Int) : Int) ((zqp2 nn t 0 k (zqp1 nn l p k (zqPl nn l p t 0 L k))) 12) ((zqp2 nn t 0 k (zqp1 nn l p k (zqPl nn l p t 0 L k))) 15))) w0)) (by rw [show ((0 : Nat) : Int) = 0 from rfl, zsf_0, zlu_self] <;> rfl) ?_
    have st2 : ∀ i : Nat, i < nn → (fun i : Nat => V G M_Ref_plain (zdet (some (.int (Int32.ofInt (q : Int)))) (zqs G C 0 kd nn t tu ch ke (zqb nn c (zlu (zqPl nn l p t 0 L q) 8 (zu ((zqPl nn l p t 0 L q) 8) c q)) q) w0) sz) (zR 2 0 0 53) 0 0 sz 208 [(0, .ref C), (1, .int (Int32.ofInt (c : Int))), (2, .int (Int32.ofInt 0)), (3, .int (Int32.ofInt (l : Int))), (4, .int (Int32.ofInt (p : Int))), (5, .int (Int32.ofInt (q : Int))), (6, .int (Int32.ofInt (k : Int))), (7, .int (Int32.ofInt (i : Int)))] [] (zqs G C 0 kd nn t tu ch ke (zlu (zqp2 nn t 0 k (zqp1 nn l p k (zqPl nn l p t 0 L k))) 15 (zsf (32 * (k : Int)) (i : Int) ((zqp2 nn t 0 k (zqp1 nn l p k (zqPl nn l p t 0 L k))) 12) ((zqp2 nn t 0 k (zqp1 nn l p k (zqPl nn l p t 0 L k))) 15))) w0)) (i + 1) → (fun i : Nat => V G M_Ref_plain (zdet (some (.int (Int32.ofInt (q : Int)))) (zqs G C 0 kd nn t tu ch ke (zqb nn c (zlu (zqPl nn l p t 0 L q) 8 (zu ((zqPl nn l p t 0 L q) 8) c q)) q) w0) sz) (zR 2 0 0 53) 0 0 sz 208 [(0, .ref C), (1, .int (Int32.ofInt (c : Int))), (2, .int (Int32.ofInt 0)), (3, .int (Int32.ofInt (l : Int))), (4, .int (Int32.ofInt (p : Int))), (5, .int (Int32.ofInt (q : Int))), (6, .int (Int32.ofInt (k : Int))), (7, .int (Int32.ofInt (i : Int)))] [] (zqs G C 0 kd nn t tu ch ke (zlu (zqp2 nn t 0 k (zqp1 nn l p k (zqPl nn l p t 0 L k))) 15 (zsf (32 * (k : Int)) (i : Int) ((zqp2 nn t 0 k (zqp1 nn l p k (zqPl nn l p t 0 L k))) 12) ((zqp2 nn t 0 k (zqp1 nn l p k (zqPl nn l p t 0 L k))) 15))) w0)) i := by
      intro i hi ih2
      refine V_iload d_Ref_plain_208 rfl ?_
      refine V_aload_n d_Ref_plain_210 rfl ?_
      refine V_getf d_Ref_plain_211 ff_Ref_7 zqs_o rfl ?_
      refine J_icmp_ge 243 d_Ref_plain_214 (by decide) (by omega) (by omega) (fun c_214 => absurd c_214 (by omega)) (fun c_214 => ?_)
      refine V_aload_n d_Ref_plain_217 rfl ?_
      refine V_getf d_Ref_plain_218 ff_Ref_60 zqs_o rfl ?_
      refine J_bipush d_Ref_plain_221 (by decide) ?_
      refine V_iload d_Ref_plain_223 rfl ?_
      refine J_imul d_Ref_plain_225 ?_
      refine V_iload d_Ref_plain_226 rfl ?_
      refine J_iadd d_Ref_plain_228 ?_
      refine V_aload_n d_Ref_plain_229 rfl ?_
      refine V_getf d_Ref_plain_230 ff_Ref_51 zqs_o rfl ?_
      refine V_iload d_Ref_plain_233 rfl ?_
      refine J_laload d_Ref_plain_235 (zqs_r (j := 12) (by unfold zqi; decide)) (by omega) (by decide) ?_
      rw [zlu_n (show 12 ≠ 15 by decide)]
      refine J_lastore d_Ref_plain_236 zqs_a15 (by omega) (by decide) ?_
      refine J_iinc d_Ref_plain_237 rfl (by decide) ?_
      refine V_goto 208 d_Ref_plain_240 (by decide) ?_
      exact V_w (by rw [zqs_u15, zlu_s, zsf_s (by omega) rfl, zlu_lu] <;> rfl) ih2
    refine zfor nn (fun i : Nat => V G M_Ref_plain (zdet (some (.int (Int32.ofInt (q : Int)))) (zqs G C 0 kd nn t tu ch ke (zqb nn c (zlu (zqPl nn l p t 0 L q) 8 (zu ((zqPl nn l p t 0 L q) 8) c q)) q) w0) sz) (zR 2 0 0 53) 0 0 sz 208 [(0, .ref C), (1, .int (Int32.ofInt (c : Int))), (2, .int (Int32.ofInt 0)), (3, .int (Int32.ofInt (l : Int))), (4, .int (Int32.ofInt (p : Int))), (5, .int (Int32.ofInt (q : Int))), (6, .int (Int32.ofInt (k : Int))), (7, .int (Int32.ofInt (i : Int)))] [] (zqs G C 0 kd nn t tu ch ke (zlu (zqp2 nn t 0 k (zqp1 nn l p k (zqPl nn l p t 0 L k))) 15 (zsf (32 * (k : Int)) (i : Int) ((zqp2 nn t 0 k (zqp1 nn l p k (zqPl nn l p t 0 L k))) 12) ((zqp2 nn t 0 k (zqp1 nn l p k (zqPl nn l p t 0 L k))) 15))) w0)) ?_ st2 0 (Nat.zero_le nn)
    refine V_iload d_Ref_plain_208 rfl ?_
    refine V_aload_n d_Ref_plain_210 rfl ?_
    refine V_getf d_Ref_plain_211 ff_Ref_7 zqs_o rfl ?_
    refine J_icmp_ge 243 d_Ref_plain_214 (by decide) (by omega) (by omega) (fun c_214 => ?_) (fun c_214 => absurd c_214 (by omega))
    refine J_iinc d_Ref_plain_243 rfl (by decide) ?_
    refine V_goto 65 d_Ref_plain_246 (by decide) ?_
    exact V_lo [0, 1, 2, 3, 4, 5, 6] rfl ih
  refine zfor q (fun k : Nat => V G M_Ref_plain (zdet (some (.int (Int32.ofInt (q : Int)))) (zqs G C 0 kd nn t tu ch ke (zqb nn c (zlu (zqPl nn l p t 0 L q) 8 (zu ((zqPl nn l p t 0 L q) 8) c q)) q) w0) sz) (zR 2 0 0 53) 0 0 sz 65 [(0, .ref C), (1, .int (Int32.ofInt (c : Int))), (2, .int (Int32.ofInt 0)), (3, .int (Int32.ofInt (l : Int))), (4, .int (Int32.ofInt (p : Int))), (5, .int (Int32.ofInt (q : Int))), (6, .int (Int32.ofInt (k : Int)))] [] (zqs G C 0 kd nn t tu ch ke (zqPl nn l p t 0 L k) w0)) ?_ stk 0 (Nat.zero_le q)
  refine V_iload d_Ref_plain_65 rfl ?_
  refine V_iload d_Ref_plain_67 rfl ?_
  refine J_icmp_ge 249 d_Ref_plain_69 (by decide) (by omega) (by omega) (fun c_69 => ?_) (fun c_69 => absurd c_69 (by omega))
  refine V_aload_n d_Ref_plain_249 rfl ?_
  refine V_getf d_Ref_plain_250 ff_Ref_39 zqs_o rfl ?_
  refine V_iload_n d_Ref_plain_253 rfl ?_
  refine V_iload d_Ref_plain_254 rfl ?_
  refine J_iastore d_Ref_plain_256 zqs_a8 (by omega) (by decide) ?_
  refine V_w zqs_u8 ?_
  refine V_iconst d_Ref_plain_257 ?_
  refine V_istore d_Ref_plain_258 (by decide) ?_
  refine V_lo [0, 1, 2, 3, 4, 5, 6] rfl ?_
  have stb : ∀ k : Nat, k < q → (fun k : Nat => V G M_Ref_plain (zdet (some (.int (Int32.ofInt (q : Int)))) (zqs G C 0 kd nn t tu ch ke (zqb nn c (zlu (zqPl nn l p t 0 L q) 8 (zu ((zqPl nn l p t 0 L q) 8) c q)) q) w0) sz) (zR 2 0 0 53) 0 0 sz 260 [(0, .ref C), (1, .int (Int32.ofInt (c : Int))), (2, .int (Int32.ofInt 0)), (3, .int (Int32.ofInt (l : Int))), (4, .int (Int32.ofInt (p : Int))), (5, .int (Int32.ofInt (q : Int))), (6, .int (Int32.ofInt (k : Int)))] [] (zqs G C 0 kd nn t tu ch ke (zqb nn c (zlu (zqPl nn l p t 0 L q) 8 (zu ((zqPl nn l p t 0 L q) 8) c q)) k) w0)) (k + 1) → (fun k : Nat => V G M_Ref_plain (zdet (some (.int (Int32.ofInt (q : Int)))) (zqs G C 0 kd nn t tu ch ke (zqb nn c (zlu (zqPl nn l p t 0 L q) 8 (zu ((zqPl nn l p t 0 L q) 8) c q)) q) w0) sz) (zR 2 0 0 53) 0 0 sz 260 [(0, .ref C), (1, .int (Int32.ofInt (c : Int))), (2, .int (Int32.ofInt 0)), (3, .int (Int32.ofInt (l : Int))), (4, .int (Int32.ofInt (p : Int))), (5, .int (Int32.ofInt (q : Int))), (6, .int (Int32.ofInt (k : Int)))] [] (zqs G C 0 kd nn t tu ch ke (zqb nn c (zlu (zqPl nn l p t 0 L q) 8 (zu ((zqPl nn l p t 0 L q) 8) c q)) k) w0)) k := by
    intro k hk ih
    have b15 : (zqb nn c (zlu (zqPl nn l p t 0 L q) 8 (zu ((zqPl nn l p t 0 L q) 8) c q)) k) 15 = (zqPl nn l p t 0 L q) 15 := zqb_o (by decide) k
    refine V_iload d_Ref_plain_260 rfl ?_
    refine V_iload d_Ref_plain_262 rfl ?_
    refine J_icmp_ge 322 d_Ref_plain_264 (by decide) (by omega) (by omega) (fun c_264 => absurd c_264 (by omega)) (fun c_264 => ?_)
    refine V_iconst d_Ref_plain_267 ?_
    refine V_istore d_Ref_plain_268 (by decide) ?_
    refine V_w (w' := (zqs G C 0 kd nn t tu ch ke (zlu (zqb nn c (zlu (zqPl nn l p t 0 L q) 8 (zu ((zqPl nn l p t 0 L q) 8) c q)) k) 12 (zif ((0 : Nat) : Int) (fun i => (zqb nn c (zlu (zqPl nn l p t 0 L q) 8 (zu ((zqPl nn l p t 0 L q) 8) c q)) k) 15 (32 * (k : Int) + i)) ((zqb nn c (zlu (zqPl nn l p t 0 L q) 8 (zu ((zqPl nn l p t 0 L q) 8) c q)) k) 12))) w0)) (by rw [show ((0 : Nat) : Int) = 0 from rfl, zif_0, zlu_self] <;> rfl) ?_
    have st_270 : ∀ i : Nat, i < nn → (fun i : Nat => V G M_Ref_plain (zdet (some (.int (Int32.ofInt (q : Int)))) (zqs G C 0 kd nn t tu ch ke (zqb nn c (zlu (zqPl nn l p t 0 L q) 8 (zu ((zqPl nn l p t 0 L q) 8) c q)) q) w0) sz) (zR 2 0 0 53) 0 0 sz 270 [(0, .ref C), (1, .int (Int32.ofInt (c : Int))), (2, .int (Int32.ofInt 0)), (3, .int (Int32.ofInt (l : Int))), (4, .int (Int32.ofInt (p : Int))), (5, .int (Int32.ofInt (q : Int))), (6, .int (Int32.ofInt (k : Int))), (7, .int (Int32.ofInt (i : Int)))] [] (zqs G C 0 kd nn t tu ch ke (zlu (zqb nn c (zlu (zqPl nn l p t 0 L q) 8 (zu ((zqPl nn l p t 0 L q) 8) c q)) k) 12 (zif (i : Int) (fun i => (zqb nn c (zlu (zqPl nn l p t 0 L q) 8 (zu ((zqPl nn l p t 0 L q) 8) c q)) k) 15 (32 * (k : Int) + i)) ((zqb nn c (zlu (zqPl nn l p t 0 L q) 8 (zu ((zqPl nn l p t 0 L q) 8) c q)) k) 12))) w0)) (i + 1) → (fun i : Nat => V G M_Ref_plain (zdet (some (.int (Int32.ofInt (q : Int)))) (zqs G C 0 kd nn t tu ch ke (zqb nn c (zlu (zqPl nn l p t 0 L q) 8 (zu ((zqPl nn l p t 0 L q) 8) c q)) q) w0) sz) (zR 2 0 0 53) 0 0 sz 270 [(0, .ref C), (1, .int (Int32.ofInt (c : Int))), (2, .int (Int32.ofInt 0)), (3, .int (Int32.ofInt (l : Int))), (4, .int (Int32.ofInt (p : Int))), (5, .int (Int32.ofInt (q : Int))), (6, .int (Int32.ofInt (k : Int))), (7, .int (Int32.ofInt (i : Int)))] [] (zqs G C 0 kd nn t tu ch ke (zlu (zqb nn c (zlu (zqPl nn l p t 0 L q) 8 (zu ((zqPl nn l p t 0 L q) 8) c q)) k) 12 (zif (i : Int) (fun i => (zqb nn c (zlu (zqPl nn l p t 0 L q) 8 (zu ((zqPl nn l p t 0 L q) 8) c q)) k) 15 (32 * (k : Int) + i)) ((zqb nn c (zlu (zqPl nn l p t 0 L q) 8 (zu ((zqPl nn l p t 0 L q) 8) c q)) k) 12))) w0)) i := by
      intro i hi ih
      refine V_iload d_Ref_plain_270 rfl ?_
      refine V_aload_n d_Ref_plain_272 rfl ?_
      refine V_getf d_Ref_plain_273 ff_Ref_7 zqs_o rfl ?_
      refine J_icmp_ge 305 d_Ref_plain_276 (by decide) (by omega) (by omega) (fun c_276 => absurd c_276 (by omega)) (fun c_276 => ?_)
      refine V_aload_n d_Ref_plain_279 rfl ?_
      refine V_getf d_Ref_plain_280 ff_Ref_51 zqs_o rfl ?_
      refine V_iload d_Ref_plain_283 rfl ?_
      refine V_aload_n d_Ref_plain_285 rfl ?_
      refine V_getf d_Ref_plain_286 ff_Ref_60 zqs_o rfl ?_
      refine J_bipush d_Ref_plain_289 (by decide) ?_
      refine V_iload d_Ref_plain_291 rfl ?_
      refine J_imul d_Ref_plain_293 ?_
      refine V_iload d_Ref_plain_294 rfl ?_
      refine J_iadd d_Ref_plain_296 ?_
      refine J_laload d_Ref_plain_297 zqs_a15 (by omega) (by decide) ?_
      rw [zlu_n (show 15 ≠ 12 by decide)]
      refine J_lastore d_Ref_plain_298 (zqs_r (j := 12) (by unfold zqi; decide)) (by omega) (by decide) ?_
      refine J_iinc d_Ref_plain_299 rfl (by decide) ?_
      refine V_goto 270 d_Ref_plain_302 (by decide) ?_
      exact V_w (by rw [zqs_lu (by unfold zqi; decide), zlu_s, zif_s (by omega) rfl, zlu_lu] <;> rfl) ih
    refine zfor nn (fun i : Nat => V G M_Ref_plain (zdet (some (.int (Int32.ofInt (q : Int)))) (zqs G C 0 kd nn t tu ch ke (zqb nn c (zlu (zqPl nn l p t 0 L q) 8 (zu ((zqPl nn l p t 0 L q) 8) c q)) q) w0) sz) (zR 2 0 0 53) 0 0 sz 270 [(0, .ref C), (1, .int (Int32.ofInt (c : Int))), (2, .int (Int32.ofInt 0)), (3, .int (Int32.ofInt (l : Int))), (4, .int (Int32.ofInt (p : Int))), (5, .int (Int32.ofInt (q : Int))), (6, .int (Int32.ofInt (k : Int))), (7, .int (Int32.ofInt (i : Int)))] [] (zqs G C 0 kd nn t tu ch ke (zlu (zqb nn c (zlu (zqPl nn l p t 0 L q) 8 (zu ((zqPl nn l p t 0 L q) 8) c q)) k) 12 (zif (i : Int) (fun i => (zqb nn c (zlu (zqPl nn l p t 0 L q) 8 (zu ((zqPl nn l p t 0 L q) 8) c q)) k) 15 (32 * (k : Int) + i)) ((zqb nn c (zlu (zqPl nn l p t 0 L q) 8 (zu ((zqPl nn l p t 0 L q) 8) c q)) k) 12))) w0)) ?_ st_270 0 (Nat.zero_le nn)
    refine V_iload d_Ref_plain_270 rfl ?_
    refine V_aload_n d_Ref_plain_272 rfl ?_
    refine V_getf d_Ref_plain_273 ff_Ref_7 zqs_o rfl ?_
    refine J_icmp_ge 305 d_Ref_plain_276 (by decide) (by omega) (by omega) (fun c_276 => ?_) (fun c_276 => absurd c_276 (by omega))
    refine V_aload_n d_Ref_plain_305 rfl ?_
    refine V_iload_n d_Ref_plain_306 rfl ?_
    refine V_iload d_Ref_plain_307 rfl ?_
    refine V_aload_n d_Ref_plain_309 rfl ?_
    refine V_getf d_Ref_plain_310 ff_Ref_51 zqs_o rfl ?_
    refine V_callV (n := 3) d_Ref_plain_313 g_Ref_152 rfl zqs_o rfl (r_put G _ C 0 kd nn t tu ch ke (zlu (zqb nn c (zlu (zqPl nn l p t 0 L q) 8 (zu ((zqPl nn l p t 0 L q) 8) c q)) k) 12 (zif nn (fun i => (zqb nn c (zlu (zqPl nn l p t 0 L q) 8 (zu ((zqPl nn l p t 0 L q) 8) c q)) k) 15 (32 * (k : Int) + i)) ((zqb nn c (zlu (zqPl nn l p t 0 L q) 8 (zu ((zqPl nn l p t 0 L q) 8) c q)) k) 12))) w0 nn rfl hn c k 12 hc (by omega) (by unfold zqi; decide) (fun j hj => by show -9223372036854775808 ≤ zif nn (fun i => (zqb nn c (zlu (zqPl nn l p t 0 L q) 8 (zu ((zqPl nn l p t 0 L q) 8) c q)) k) 15 (32 * (k : Int) + i)) ((zqb nn c (zlu (zqPl nn l p t 0 L q) 8 (zu ((zqPl nn l p t 0 L q) 8) c q)) k) 12) j ∧ zif nn (fun i => (zqb nn c (zlu (zqPl nn l p t 0 L q) 8 (zu ((zqPl nn l p t 0 L q) 8) c q)) k) 15 (32 * (k : Int) + i)) ((zqb nn c (zlu (zqPl nn l p t 0 L q) 8 (zu ((zqPl nn l p t 0 L q) 8) c q)) k) 12) j < 9223372036854775808; rw [zif_l (by omega), b15]; exact hW k hk j hj)) ⟨co_Ref_put, by decide +kernel, Nat.le_of_ble_eq_true rfl⟩ ⟨Nat.le_of_ble_eq_true rfl, Nat.le_of_ble_eq_true rfl, Nat.le_of_ble_eq_true rfl, Nat.le_of_ble_eq_true rfl⟩ (Nat.le_of_ble_eq_true rfl) (fun r_313 w_313 s_313 q_313 => ?_) (fun _ _ _ q => False.elim q)
    obtain ⟨rfl, rfl, rfl⟩ := q_313
    refine J_iinc d_Ref_plain_316 rfl (by decide) ?_
    refine V_goto 260 d_Ref_plain_319 (by decide) ?_
    exact V_lo [0, 1, 2, 3, 4, 5, 6] rfl ih
  refine zfor q (fun k : Nat => V G M_Ref_plain (zdet (some (.int (Int32.ofInt (q : Int)))) (zqs G C 0 kd nn t tu ch ke (zqb nn c (zlu (zqPl nn l p t 0 L q) 8 (zu ((zqPl nn l p t 0 L q) 8) c q)) q) w0) sz) (zR 2 0 0 53) 0 0 sz 260 [(0, .ref C), (1, .int (Int32.ofInt (c : Int))), (2, .int (Int32.ofInt 0)), (3, .int (Int32.ofInt (l : Int))), (4, .int (Int32.ofInt (p : Int))), (5, .int (Int32.ofInt (q : Int))), (6, .int (Int32.ofInt (k : Int)))] [] (zqs G C 0 kd nn t tu ch ke (zqb nn c (zlu (zqPl nn l p t 0 L q) 8 (zu ((zqPl nn l p t 0 L q) 8) c q)) k) w0)) ?_ stb 0 (Nat.zero_le q)
  refine V_iload d_Ref_plain_260 rfl ?_
  refine V_iload d_Ref_plain_262 rfl ?_
  refine J_icmp_ge 322 d_Ref_plain_264 (by decide) (by omega) (by omega) (fun c_264 => ?_) (fun c_264 => absurd c_264 (by omega))
  refine V_iload d_Ref_plain_322 rfl ?_
  exact V_ireturn d_Ref_plain_324 rfl ⟨Nat.le_of_ble_eq_true rfl, Nat.le_of_ble_eq_true rfl⟩ ⟨rfl, rfl, rfl⟩

set_option maxRecDepth 100000 in
set_option maxHeartbeats 4000000 in
theorem r_plain_1 (G : zG) (sz C : Nat) (th kd n t tu : Int) (ch : Int32) (ke : Int) (L : Nat → Int → Int) (w0 : zW) (nn : Nat) (hnn : n = (nn : Int)) (hn : nn ≤ 32) (c : Nat) (hc : c < 16) (l : Nat) (hl : l < 16) (p : Nat) (hp : p < 8) (q : Nat) (hq : L 8 l = (q : Int)) (hq3 : 0 < q ∧ q ≤ 3) (ht : 0 < t ∧ t ≤ 1000) (hPa : ∀ j : Int, 0 ≤ j → j < 1536 → 0 ≤ L 9 j ∧ L 9 j < 268435399) (hPl : ∀ j : Int, 0 ≤ j → j < 256 → 0 ≤ L 7 j ∧ L 7 j ≤ 1000) (hW : ∀ k : Nat, k < q → ∀ i : Nat, i < nn → -9223372036854775808 ≤ (zqPl nn l p t 1 L q) 15 (32 * (k : Int) + i) ∧ (zqPl nn l p t 1 L q) 15 (32 * (k : Int) + i) < 9223372036854775808) : zCt G M_Ref_plain (zR 2 0 0 53) [.ref C, .int (Int32.ofInt (c : Int)), .int (Int32.ofInt 1), .int (Int32.ofInt (l : Int)), .int (Int32.ofInt (p : Int))] sz (zqs G C th kd n t tu ch ke L w0) (zdet (some (.int (Int32.ofInt (q : Int)))) (zqs G C 0 kd n t tu ch ke (zqb nn c (zlu (zqPl nn l p t 1 L q) 8 (zu ((zqPl nn l p t 1 L q) 8) c q)) q) w0) sz) := by
  subst hnn
  refine V_aload_n d_Ref_plain_0 rfl ?_
  refine V_iload_n d_Ref_plain_1 rfl ?_
  refine V_callS (n := 1) d_Ref_plain_2 g_Ref_138 rfl (r_noCipher_n G _ _ c (by omega)) ⟨co_Ref_noCipher, by decide +kernel, Nat.le_of_ble_eq_true rfl⟩ ⟨Nat.le_of_ble_eq_true rfl, Nat.le_of_ble_eq_true rfl, Nat.le_of_ble_eq_true rfl, Nat.le_of_ble_eq_true rfl⟩ (Nat.le_of_ble_eq_true rfl) (fun r_2 w_2 s_2 q_2 => ?_) (fun _ _ _ q => False.elim q)
  obtain ⟨rfl, rfl, rfl⟩ := q_2
  refine J_if_ne 24 d_Ref_plain_5 (by decide) (by decide) (fun c_5 => absurd rfl c_5) (fun c_5 => ?_)
  refine V_aload_n d_Ref_plain_8 rfl ?_
  refine V_iload_n d_Ref_plain_9 rfl ?_
  refine V_callV (n := 1) d_Ref_plain_10 g_Ref_180 rfl zqs_o rfl (r_emptyI_n G _ C th kd nn t tu ch ke L w0 l (by omega) (by omega)) ⟨co_Ref_empty_I, by decide +kernel, Nat.le_of_ble_eq_true rfl⟩ ⟨Nat.le_of_ble_eq_true rfl, Nat.le_of_ble_eq_true rfl, Nat.le_of_ble_eq_true rfl, Nat.le_of_ble_eq_true rfl⟩ (Nat.le_of_ble_eq_true rfl) (fun r_10 w_10 s_10 q_10 => ?_) (fun _ _ _ q => False.elim q)
  obtain ⟨rfl, rfl, rfl⟩ := q_10
  refine J_if_ne 24 d_Ref_plain_13 (by decide) (by decide) (fun c_13 => absurd rfl c_13) (fun c_13 => ?_)
  refine V_iload d_Ref_plain_16 rfl ?_
  refine V_callS (n := 1) d_Ref_plain_18 g_Ref_142 rfl (r_noPlain_n G _ _ p (by omega)) ⟨co_Ref_noPlain, by decide +kernel, Nat.le_of_ble_eq_true rfl⟩ ⟨Nat.le_of_ble_eq_true rfl, Nat.le_of_ble_eq_true rfl, Nat.le_of_ble_eq_true rfl, Nat.le_of_ble_eq_true rfl⟩ (Nat.le_of_ble_eq_true rfl) (fun r_18 w_18 s_18 q_18 => ?_) (fun _ _ _ q => False.elim q)
  obtain ⟨rfl, rfl, rfl⟩ := q_18
  refine J_if_eq 28 d_Ref_plain_21 (by decide) (by decide) (fun c_21 => ?_) (fun c_21 => absurd rfl c_21)
  refine V_iload_n d_Ref_plain_28 rfl ?_
  refine J_if_lt 37 d_Ref_plain_29 (by decide) (by omega) (fun c_29 => absurd c_29 (by decide)) (fun c_29 => ?_)
  refine V_iload_n d_Ref_plain_32 rfl ?_
  refine V_iconst d_Ref_plain_33 ?_
  refine J_icmp_le 41 d_Ref_plain_34 (by decide) (by omega) (by omega) (fun c_34 => ?_) (fun c_34 => absurd c_34 (by decide))
  refine V_iconst d_Ref_plain_41 ?_
  refine V_putf d_Ref_plain_42 ff_Ref_69 zqs_o ⟨_, _, _, _, rfl, rfl, rfl, rfl, rfl⟩ (Nat.le_of_ble_eq_true rfl) ?_
  refine V_w (zqs_f (th' := 0) rfl) ?_
  refine V_aload_n d_Ref_plain_45 rfl ?_
  refine V_getf d_Ref_plain_46 ff_Ref_69 zqs_o rfl ?_
  refine J_if_le 54 d_Ref_plain_49 (by decide) (by decide) (fun c_49 => ?_) (fun c_49 => absurd c_49 (by decide))
  refine V_aload_n d_Ref_plain_54 rfl ?_
  refine V_getf d_Ref_plain_55 ff_Ref_39 zqs_o rfl ?_
  refine V_iload_n d_Ref_plain_58 rfl ?_
  refine J_iaload d_Ref_plain_59 zqs_a8 (by omega) (by decide) ?_
  rw [hq]
  refine V_istore d_Ref_plain_60 (by decide) ?_
  refine V_iconst d_Ref_plain_62 ?_
  refine V_istore d_Ref_plain_63 (by decide) ?_
  have stk : ∀ k : Nat, k < q → (fun k : Nat => V G M_Ref_plain (zdet (some (.int (Int32.ofInt (q : Int)))) (zqs G C 0 kd nn t tu ch ke (zqb nn c (zlu (zqPl nn l p t 1 L q) 8 (zu ((zqPl nn l p t 1 L q) 8) c q)) q) w0) sz) (zR 2 0 0 53) 0 0 sz 65 [(0, .ref C), (1, .int (Int32.ofInt (c : Int))), (2, .int (Int32.ofInt 1)), (3, .int (Int32.ofInt (l : Int))), (4, .int (Int32.ofInt (p : Int))), (5, .int (Int32.ofInt (q : Int))), (6, .int (Int32.ofInt (k : Int)))] [] (zqs G C 0 kd nn t tu ch ke (zqPl nn l p t 1 L k) w0)) (k + 1) → (fun k : Nat => V G M_Ref_plain (zdet (some (.int (Int32.ofInt (q : Int)))) (zqs G C 0 kd nn t tu ch ke (zqb nn c (zlu (zqPl nn l p t 1 L q) 8 (zu ((zqPl nn l p t 1 L q) 8) c q)) q) w0) sz) (zR 2 0 0 53) 0 0 sz 65 [(0, .ref C), (1, .int (Int32.ofInt (c : Int))), (2, .int (Int32.ofInt 1)), (3, .int (Int32.ofInt (l : Int))), (4, .int (Int32.ofInt (p : Int))), (5, .int (Int32.ofInt (q : Int))), (6, .int (Int32.ofInt (k : Int)))] [] (zqs G C 0 kd nn t tu ch ke (zqPl nn l p t 1 L k) w0)) k := by
    intro k hk ih
    have x7 : (zqPl nn l p t 1 L k) 7 = L 7 := zqPl_o (by decide) k
    have x8 : (zqPl nn l p t 1 L k) 8 = L 8 := zqPl_o (by decide) k
    have x9 : (zqPl nn l p t 1 L k) 9 = L 9 := zqPl_o (by decide) k
    refine V_iload d_Ref_plain_65 rfl ?_
    refine V_iload d_Ref_plain_67 rfl ?_
    refine J_icmp_ge 249 d_Ref_plain_69 (by decide) (by omega) (by omega) (fun c_69 => absurd c_69 (by omega)) (fun c_69 => ?_)
    refine V_aload_n d_Ref_plain_72 rfl ?_
    refine V_iload_n d_Ref_plain_73 rfl ?_
    refine V_iload d_Ref_plain_74 rfl ?_
    refine V_aload_n d_Ref_plain_76 rfl ?_
    refine V_getf d_Ref_plain_77 ff_Ref_45 zqs_o rfl ?_
    refine V_callV (n := 3) d_Ref_plain_80 g_Ref_159 rfl zqs_o rfl (r_take G _ C 0 kd nn t tu ch ke (zqPl nn l p t 1 L k) w0 nn rfl hn l k 10 hl (by omega) (by unfold zqi; decide) (by rw [x8]; omega)) ⟨co_Ref_take, by decide +kernel, Nat.le_of_ble_eq_true rfl⟩ ⟨Nat.le_of_ble_eq_true rfl, Nat.le_of_ble_eq_true rfl, Nat.le_of_ble_eq_true rfl, Nat.le_of_ble_eq_true rfl⟩ (Nat.le_of_ble_eq_true rfl) (fun r_80 w_80 s_80 q_80 => ?_) (fun _ _ _ q => False.elim q)
    obtain ⟨rfl, rfl, rfl⟩ := q_80
    refine V_iconst d_Ref_plain_83 ?_
    refine V_istore d_Ref_plain_84 (by decide) ?_
    refine V_w (w' := (zqs G C 0 kd nn t tu ch ke (zlu (zqTk nn l k 10 (zqPl nn l p t 1 L k)) 11 (zif ((0 : Nat) : Int) (fun i => (zqTk nn l k 10 (zqPl nn l p t 1 L k)) 7 (32 * (p : Int) + i)) ((zqTk nn l k 10 (zqPl nn l p t 1 L k)) 11))) w0)) (by rw [show ((0 : Nat) : Int) = 0 from rfl, zif_0, zlu_self] <;> rfl) ?_
    have st_86 : ∀ i : Nat, i < nn → (fun i : Nat => V G M_Ref_plain (zdet (some (.int (Int32.ofInt (q : Int)))) (zqs G C 0 kd nn t tu ch ke (zqb nn c (zlu (zqPl nn l p t 1 L q) 8 (zu ((zqPl nn l p t 1 L q) 8) c q)) q) w0) sz) (zR 2 0 0 53) 0 0 sz 86 [(0, .ref C), (1, .int (Int32.ofInt (c : Int))), (2, .int (Int32.ofInt 1)), (3, .int (Int32.ofInt (l : Int))), (4, .int (Int32.ofInt (p : Int))), (5, .int (Int32.ofInt (q : Int))), (6, .int (Int32.ofInt (k : Int))), (7, .int (Int32.ofInt (i : Int)))] [] (zqs G C 0 kd nn t tu ch ke (zlu (zqTk nn l k 10 (zqPl nn l p t 1 L k)) 11 (zif (i : Int) (fun i => (zqTk nn l k 10 (zqPl nn l p t 1 L k)) 7 (32 * (p : Int) + i)) ((zqTk nn l k 10 (zqPl nn l p t 1 L k)) 11))) w0)) (i + 1) → (fun i : Nat => V G M_Ref_plain (zdet (some (.int (Int32.ofInt (q : Int)))) (zqs G C 0 kd nn t tu ch ke (zqb nn c (zlu (zqPl nn l p t 1 L q) 8 (zu ((zqPl nn l p t 1 L q) 8) c q)) q) w0) sz) (zR 2 0 0 53) 0 0 sz 86 [(0, .ref C), (1, .int (Int32.ofInt (c : Int))), (2, .int (Int32.ofInt 1)), (3, .int (Int32.ofInt (l : Int))), (4, .int (Int32.ofInt (p : Int))), (5, .int (Int32.ofInt (q : Int))), (6, .int (Int32.ofInt (k : Int))), (7, .int (Int32.ofInt (i : Int)))] [] (zqs G C 0 kd nn t tu ch ke (zlu (zqTk nn l k 10 (zqPl nn l p t 1 L k)) 11 (zif (i : Int) (fun i => (zqTk nn l k 10 (zqPl nn l p t 1 L k)) 7 (32 * (p : Int) + i)) ((zqTk nn l k 10 (zqPl nn l p t 1 L k)) 11))) w0)) i := by
      intro i hi ih
      have hpl := hPl (32 * (p : Int) + i) (by omega) (by omega)
      refine V_iload d_Ref_plain_86 rfl ?_
      refine V_aload_n d_Ref_plain_88 rfl ?_
      refine V_getf d_Ref_plain_89 ff_Ref_7 zqs_o rfl ?_
      refine J_icmp_ge 122 d_Ref_plain_92 (by decide) (by omega) (by omega) (fun c_92 => absurd c_92 (by omega)) (fun c_92 => ?_)
      refine V_aload_n d_Ref_plain_95 rfl ?_
      refine V_getf d_Ref_plain_96 ff_Ref_48 zqs_o rfl ?_
      refine V_iload d_Ref_plain_99 rfl ?_
      refine V_aload_n d_Ref_plain_101 rfl ?_
      refine V_getf d_Ref_plain_102 ff_Ref_36 zqs_o rfl ?_
      refine J_bipush d_Ref_plain_105 (by decide) ?_
      refine V_iload d_Ref_plain_107 rfl ?_
      refine J_imul d_Ref_plain_109 ?_
      refine V_iload d_Ref_plain_110 rfl ?_
      refine J_iadd d_Ref_plain_112 ?_
      refine J_iaload d_Ref_plain_113 zqs_a7 (by omega) (by decide) ?_
      rw [zlu_n (show 7 ≠ 11 by decide)]
      refine J_i2l d_Ref_plain_114 (by show -2147483648 ≤ (zqPl nn l p t 1 L k) 7 _ ∧ (zqPl nn l p t 1 L k) 7 _ < 2147483648; rw [x7]; omega) ?_
      refine J_lastore d_Ref_plain_115 (zqs_r (j := 11) (by unfold zqi; decide)) (by omega) (by decide) ?_
      refine J_iinc d_Ref_plain_116 rfl (by decide) ?_
      refine V_goto 86 d_Ref_plain_119 (by decide) ?_
      exact V_w (by rw [zqs_lu (by unfold zqi; decide), zlu_s, zif_s (by omega) rfl, zlu_lu] <;> rfl) ih
    refine zfor nn (fun i : Nat => V G M_Ref_plain (zdet (some (.int (Int32.ofInt (q : Int)))) (zqs G C 0 kd nn t tu ch ke (zqb nn c (zlu (zqPl nn l p t 1 L q) 8 (zu ((zqPl nn l p t 1 L q) 8) c q)) q) w0) sz) (zR 2 0 0 53) 0 0 sz 86 [(0, .ref C), (1, .int (Int32.ofInt (c : Int))), (2, .int (Int32.ofInt 1)), (3, .int (Int32.ofInt (l : Int))), (4, .int (Int32.ofInt (p : Int))), (5, .int (Int32.ofInt (q : Int))), (6, .int (Int32.ofInt (k : Int))), (7, .int (Int32.ofInt (i : Int)))] [] (zqs G C 0 kd nn t tu ch ke (zlu (zqTk nn l k 10 (zqPl nn l p t 1 L k)) 11 (zif (i : Int) (fun i => (zqTk nn l k 10 (zqPl nn l p t 1 L k)) 7 (32 * (p : Int) + i)) ((zqTk nn l k 10 (zqPl nn l p t 1 L k)) 11))) w0)) ?_ st_86 0 (Nat.zero_le nn)
    refine V_iload d_Ref_plain_86 rfl ?_
    refine V_aload_n d_Ref_plain_88 rfl ?_
    refine V_getf d_Ref_plain_89 ff_Ref_7 zqs_o rfl ?_
    refine J_icmp_ge 122 d_Ref_plain_92 (by decide) (by omega) (by omega) (fun c_92 => ?_) (fun c_92 => absurd c_92 (by omega))
    refine V_iload_n d_Ref_plain_122 rfl ?_
    refine V_iconst d_Ref_plain_123 ?_
    refine J_icmp_ne 146 d_Ref_plain_124 (by decide) (by omega) (by omega) (fun c_124 => absurd rfl c_124) (fun c_124 => ?_)
    refine V_aload_n d_Ref_plain_127 rfl ?_
    refine V_aload_n d_Ref_plain_128 rfl ?_
    refine V_getf d_Ref_plain_129 ff_Ref_45 zqs_o rfl ?_
    refine V_aload_n d_Ref_plain_132 rfl ?_
    refine V_getf d_Ref_plain_133 ff_Ref_48 zqs_o rfl ?_
    refine V_aload_n d_Ref_plain_136 rfl ?_
    refine V_getf d_Ref_plain_137 ff_Ref_51 zqs_o rfl ?_
    refine V_callV (n := 3) d_Ref_plain_140 g_Ref_98 rfl zqs_o rfl (r_reduced G _ C 0 kd nn t tu ch ke (zqp1 nn l p k (zqPl nn l p t 1 L k)) w0 nn rfl hn 10 11 12 (by unfold zqi; decide) (by unfold zqi; decide) (by unfold zqi; decide) (by decide) (by decide) (fun j hj => by have h := zqTk_b (c := l) (k := k) (d := 10) (L := (zqPl nn l p t 1 L k)) hl (by omega) hn (by rw [x9]; exact hPa) hj; show -9223372036854775808 ≤ (zqTk nn l k 10 (zqPl nn l p t 1 L k)) 10 j ∧ (zqTk nn l k 10 (zqPl nn l p t 1 L k)) 10 j < 9223372036854775808; exact ⟨by omega, by omega⟩) (fun j h1 h2 => by have h := hPl (32 * (p : Int) + j) (by omega) (by omega); show -9223372036854775808 ≤ zif nn (fun i => (zqPl nn l p t 1 L k) 7 (32 * (p : Int) + i)) ((zqPl nn l p t 1 L k) 11) j ∧ zif nn (fun i => (zqPl nn l p t 1 L k) 7 (32 * (p : Int) + i)) ((zqPl nn l p t 1 L k) 11) j < 9223372036854775808; rw [zif_l ⟨h1, h2⟩, x7]; exact ⟨by omega, by omega⟩)) ⟨co_Ref_reduced, by decide +kernel, Nat.le_of_ble_eq_true rfl⟩ ⟨Nat.le_of_ble_eq_true rfl, Nat.le_of_ble_eq_true rfl, Nat.le_of_ble_eq_true rfl, Nat.le_of_ble_eq_true rfl⟩ (Nat.le_of_ble_eq_true rfl) (fun r_140 w_140 s_140 q_140 => ?_) (fun _ _ _ q => False.elim q)
    obtain ⟨rfl, rfl, rfl⟩ := q_140
    refine V_goto 205 d_Ref_plain_143 (by decide) ?_
    refine V_iconst d_Ref_plain_205 ?_
    refine V_istore d_Ref_plain_206 (by decide) ?_
    refine V_w (w' := (zqs G C 0 kd nn t tu ch ke (zlu (zqp2 nn t 1 k (zqp1 nn l p k (zqPl nn l p t 1 L k))) 15 (zsf (32 * (k : Int)) (((0 : Nat) : Int) : Int) ((zqp2 nn t 1 k (zqp1 nn l p k (zqPl nn l p t 1 L k))) 12) ((zqp2 nn t 1 k (zqp1 nn l p k (zqPl nn l p t 1 L k))) 15))) w0)) (by rw [show ((0 : Nat) : Int) = 0 from rfl, zsf_0, zlu_self] <;> rfl) ?_
    have st2 : ∀ i : Nat, i < nn → (fun i : Nat => V G M_Ref_plain (zdet (some (.int (Int32.ofInt (q : Int)))) (zqs G C 0 kd nn t tu ch ke (zqb nn c (zlu (zqPl nn l p t 1 L q) 8 (zu ((zqPl nn l p t 1 L q) 8) c q)) q) w0) sz) (zR 2 0 0 53) 0 0 sz 208 [(0, .ref C), (1, .int (Int32.ofInt (c : Int))), (2, .int (Int32.ofInt 1)), (3, .int (Int32.ofInt (l : Int))), (4, .int (Int32.ofInt (p : Int))), (5, .int (Int32.ofInt (q : Int))), (6, .int (Int32.ofInt (k : Int))), (7, .int (Int32.ofInt (i : Int)))] [] (zqs G C 0 kd nn t tu ch ke (zlu (zqp2 nn t 1 k (zqp1 nn l p k (zqPl nn l p t 1 L k))) 15 (zsf (32 * (k : Int)) (i : Int) ((zqp2 nn t 1 k (zqp1 nn l p k (zqPl nn l p t 1 L k))) 12) ((zqp2 nn t 1 k (zqp1 nn l p k (zqPl nn l p t 1 L k))) 15))) w0)) (i + 1) → (fun i : Nat => V G M_Ref_plain (zdet (some (.int (Int32.ofInt (q : Int)))) (zqs G C 0 kd nn t tu ch ke (zqb nn c (zlu (zqPl nn l p t 1 L q) 8 (zu ((zqPl nn l p t 1 L q) 8) c q)) q) w0) sz) (zR 2 0 0 53) 0 0 sz 208 [(0, .ref C), (1, .int (Int32.ofInt (c : Int))), (2, .int (Int32.ofInt 1)), (3, .int (Int32.ofInt (l : Int))), (4, .int (Int32.ofInt (p : Int))), (5, .int (Int32.ofInt (q : Int))), (6, .int (Int32.ofInt (k : Int))), (7, .int (Int32.ofInt (i : Int)))] [] (zqs G C 0 kd nn t tu ch ke (zlu (zqp2 nn t 1 k (zqp1 nn l p k (zqPl nn l p t 1 L k))) 15 (zsf (32 * (k : Int)) (i : Int) ((zqp2 nn t 1 k (zqp1 nn l p k (zqPl nn l p t 1 L k))) 12) ((zqp2 nn t 1 k (zqp1 nn l p k (zqPl nn l p t 1 L k))) 15))) w0)) i := by
      intro i hi ih2
      refine V_iload d_Ref_plain_208 rfl ?_
      refine V_aload_n d_Ref_plain_210 rfl ?_
      refine V_getf d_Ref_plain_211 ff_Ref_7 zqs_o rfl ?_
      refine J_icmp_ge 243 d_Ref_plain_214 (by decide) (by omega) (by omega) (fun c_214 => absurd c_214 (by omega)) (fun c_214 => ?_)
      refine V_aload_n d_Ref_plain_217 rfl ?_
      refine V_getf d_Ref_plain_218 ff_Ref_60 zqs_o rfl ?_
      refine J_bipush d_Ref_plain_221 (by decide) ?_
      refine V_iload d_Ref_plain_223 rfl ?_
      refine J_imul d_Ref_plain_225 ?_
      refine V_iload d_Ref_plain_226 rfl ?_
      refine J_iadd d_Ref_plain_228 ?_
      refine V_aload_n d_Ref_plain_229 rfl ?_
      refine V_getf d_Ref_plain_230 ff_Ref_51 zqs_o rfl ?_
      refine V_iload d_Ref_plain_233 rfl ?_
      refine J_laload d_Ref_plain_235 (zqs_r (j := 12) (by unfold zqi; decide)) (by omega) (by decide) ?_
      rw [zlu_n (show 12 ≠ 15 by decide)]
      refine J_lastore d_Ref_plain_236 zqs_a15 (by omega) (by decide) ?_
      refine J_iinc d_Ref_plain_237 rfl (by decide) ?_
      refine V_goto 208 d_Ref_plain_240 (by decide) ?_
      exact V_w (by rw [zqs_u15, zlu_s, zsf_s (by omega) rfl, zlu_lu] <;> rfl) ih2
    refine zfor nn (fun i : Nat => V G M_Ref_plain (zdet (some (.int (Int32.ofInt (q : Int)))) (zqs G C 0 kd nn t tu ch ke (zqb nn c (zlu (zqPl nn l p t 1 L q) 8 (zu ((zqPl nn l p t 1 L q) 8) c q)) q) w0) sz) (zR 2 0 0 53) 0 0 sz 208 [(0, .ref C), (1, .int (Int32.ofInt (c : Int))), (2, .int (Int32.ofInt 1)), (3, .int (Int32.ofInt (l : Int))), (4, .int (Int32.ofInt (p : Int))), (5, .int (Int32.ofInt (q : Int))), (6, .int (Int32.ofInt (k : Int))), (7, .int (Int32.ofInt (i : Int)))] [] (zqs G C 0 kd nn t tu ch ke (zlu (zqp2 nn t 1 k (zqp1 nn l p k (zqPl nn l p t 1 L k))) 15 (zsf (32 * (k : Int)) (i : Int) ((zqp2 nn t 1 k (zqp1 nn l p k (zqPl nn l p t 1 L k))) 12) ((zqp2 nn t 1 k (zqp1 nn l p k (zqPl nn l p t 1 L k))) 15))) w0)) ?_ st2 0 (Nat.zero_le nn)
    refine V_iload d_Ref_plain_208 rfl ?_
    refine V_aload_n d_Ref_plain_210 rfl ?_
    refine V_getf d_Ref_plain_211 ff_Ref_7 zqs_o rfl ?_
    refine J_icmp_ge 243 d_Ref_plain_214 (by decide) (by omega) (by omega) (fun c_214 => ?_) (fun c_214 => absurd c_214 (by omega))
    refine J_iinc d_Ref_plain_243 rfl (by decide) ?_
    refine V_goto 65 d_Ref_plain_246 (by decide) ?_
    exact V_lo [0, 1, 2, 3, 4, 5, 6] rfl ih
  refine zfor q (fun k : Nat => V G M_Ref_plain (zdet (some (.int (Int32.ofInt (q : Int)))) (zqs G C 0 kd nn t tu ch ke (zqb nn c (zlu (zqPl nn l p t 1 L q) 8 (zu ((zqPl nn l p t 1 L q) 8) c q)) q) w0) sz) (zR 2 0 0 53) 0 0 sz 65 [(0, .ref C), (1, .int (Int32.ofInt (c : Int))), (2, .int (Int32.ofInt 1)), (3, .int (Int32.ofInt (l : Int))), (4, .int (Int32.ofInt (p : Int))), (5, .int (Int32.ofInt (q : Int))), (6, .int (Int32.ofInt (k : Int)))] [] (zqs G C 0 kd nn t tu ch ke (zqPl nn l p t 1 L k) w0)) ?_ stk 0 (Nat.zero_le q)
  refine V_iload d_Ref_plain_65 rfl ?_
  refine V_iload d_Ref_plain_67 rfl ?_
  refine J_icmp_ge 249 d_Ref_plain_69 (by decide) (by omega) (by omega) (fun c_69 => ?_) (fun c_69 => absurd c_69 (by omega))
  refine V_aload_n d_Ref_plain_249 rfl ?_
  refine V_getf d_Ref_plain_250 ff_Ref_39 zqs_o rfl ?_
  refine V_iload_n d_Ref_plain_253 rfl ?_
  refine V_iload d_Ref_plain_254 rfl ?_
  refine J_iastore d_Ref_plain_256 zqs_a8 (by omega) (by decide) ?_
  refine V_w zqs_u8 ?_
  refine V_iconst d_Ref_plain_257 ?_
  refine V_istore d_Ref_plain_258 (by decide) ?_
  refine V_lo [0, 1, 2, 3, 4, 5, 6] rfl ?_
  have stb : ∀ k : Nat, k < q → (fun k : Nat => V G M_Ref_plain (zdet (some (.int (Int32.ofInt (q : Int)))) (zqs G C 0 kd nn t tu ch ke (zqb nn c (zlu (zqPl nn l p t 1 L q) 8 (zu ((zqPl nn l p t 1 L q) 8) c q)) q) w0) sz) (zR 2 0 0 53) 0 0 sz 260 [(0, .ref C), (1, .int (Int32.ofInt (c : Int))), (2, .int (Int32.ofInt 1)), (3, .int (Int32.ofInt (l : Int))), (4, .int (Int32.ofInt (p : Int))), (5, .int (Int32.ofInt (q : Int))), (6, .int (Int32.ofInt (k : Int)))] [] (zqs G C 0 kd nn t tu ch ke (zqb nn c (zlu (zqPl nn l p t 1 L q) 8 (zu ((zqPl nn l p t 1 L q) 8) c q)) k) w0)) (k + 1) → (fun k : Nat => V G M_Ref_plain (zdet (some (.int (Int32.ofInt (q : Int)))) (zqs G C 0 kd nn t tu ch ke (zqb nn c (zlu (zqPl nn l p t 1 L q) 8 (zu ((zqPl nn l p t 1 L q) 8) c q)) q) w0) sz) (zR 2 0 0 53) 0 0 sz 260 [(0, .ref C), (1, .int (Int32.ofInt (c : Int))), (2, .int (Int32.ofInt 1)), (3, .int (Int32.ofInt (l : Int))), (4, .int (Int32.ofInt (p : Int))), (5, .int (Int32.ofInt (q : Int))), (6, .int (Int32.ofInt (k : Int)))] [] (zqs G C 0 kd nn t tu ch ke (zqb nn c (zlu (zqPl nn l p t 1 L q) 8 (zu ((zqPl nn l p t 1 L q) 8) c q)) k) w0)) k := by
    intro k hk ih
    have b15 : (zqb nn c (zlu (zqPl nn l p t 1 L q) 8 (zu ((zqPl nn l p t 1 L q) 8) c q)) k) 15 = (zqPl nn l p t 1 L q) 15 := zqb_o (by decide) k
    refine V_iload d_Ref_plain_260 rfl ?_
    refine V_iload d_Ref_plain_262 rfl ?_
    refine J_icmp_ge 322 d_Ref_plain_264 (by decide) (by omega) (by omega) (fun c_264 => absurd c_264 (by omega)) (fun c_264 => ?_)
    refine V_iconst d_Ref_plain_267 ?_
    refine V_istore d_Ref_plain_268 (by decide) ?_
    refine V_w (w' := (zqs G C 0 kd nn t tu ch ke (zlu (zqb nn c (zlu (zqPl nn l p t 1 L q) 8 (zu ((zqPl nn l p t 1 L q) 8) c q)) k) 12 (zif ((0 : Nat) : Int) (fun i => (zqb nn c (zlu (zqPl nn l p t 1 L q) 8 (zu ((zqPl nn l p t 1 L q) 8) c q)) k) 15 (32 * (k : Int) + i)) ((zqb nn c (zlu (zqPl nn l p t 1 L q) 8 (zu ((zqPl nn l p t 1 L q) 8) c q)) k) 12))) w0)) (by rw [show ((0 : Nat) : Int) = 0 from rfl, zif_0, zlu_self] <;> rfl) ?_
    have st_270 : ∀ i : Nat, i < nn → (fun i : Nat => V G M_Ref_plain (zdet (some (.int (Int32.ofInt (q : Int)))) (zqs G C 0 kd nn t tu ch ke (zqb nn c (zlu (zqPl nn l p t 1 L q) 8 (zu ((zqPl nn l p t 1 L q) 8) c q)) q) w0) sz) (zR 2 0 0 53) 0 0 sz 270 [(0, .ref C), (1, .int (Int32.ofInt (c : Int))), (2, .int (Int32.ofInt 1)), (3, .int (Int32.ofInt (l : Int))), (4, .int (Int32.ofInt (p : Int))), (5, .int (Int32.ofInt (q : Int))), (6, .int (Int32.ofInt (k : Int))), (7, .int (Int32.ofInt (i : Int)))] [] (zqs G C 0 kd nn t tu ch ke (zlu (zqb nn c (zlu (zqPl nn l p t 1 L q) 8 (zu ((zqPl nn l p t 1 L q) 8) c q)) k) 12 (zif (i : Int) (fun i => (zqb nn c (zlu (zqPl nn l p t 1 L q) 8 (zu ((zqPl nn l p t 1 L q) 8) c q)) k) 15 (32 * (k : Int) + i)) ((zqb nn c (zlu (zqPl nn l p t 1 L q) 8 (zu ((zqPl nn l p t 1 L q) 8) c q)) k) 12))) w0)) (i + 1) → (fun i : Nat => V G M_Ref_plain (zdet (some (.int (Int32.ofInt (q : Int)))) (zqs G C 0 kd nn t tu ch ke (zqb nn c (zlu (zqPl nn l p t 1 L q) 8 (zu ((zqPl nn l p t 1 L q) 8) c q)) q) w0) sz) (zR 2 0 0 53) 0 0 sz 270 [(0, .ref C), (1, .int (Int32.ofInt (c : Int))), (2, .int (Int32.ofInt 1)), (3, .int (Int32.ofInt (l : Int))), (4, .int (Int32.ofInt (p : Int))), (5, .int (Int32.ofInt (q : Int))), (6, .int (Int32.ofInt (k : Int))), (7, .int (Int32.ofInt (i : Int)))] [] (zqs G C 0 kd nn t tu ch ke (zlu (zqb nn c (zlu (zqPl nn l p t 1 L q) 8 (zu ((zqPl nn l p t 1 L q) 8) c q)) k) 12 (zif (i : Int) (fun i => (zqb nn c (zlu (zqPl nn l p t 1 L q) 8 (zu ((zqPl nn l p t 1 L q) 8) c q)) k) 15 (32 * (k : Int) + i)) ((zqb nn c (zlu (zqPl nn l p t 1 L q) 8 (zu ((zqPl nn l p t 1 L q) 8) c q)) k) 12))) w0)) i := by
      intro i hi ih
      refine V_iload d_Ref_plain_270 rfl ?_
      refine V_aload_n d_Ref_plain_272 rfl ?_
      refine V_getf d_Ref_plain_273 ff_Ref_7 zqs_o rfl ?_
      refine J_icmp_ge 305 d_Ref_plain_276 (by decide) (by omega) (by omega) (fun c_276 => absurd c_276 (by omega)) (fun c_276 => ?_)
      refine V_aload_n d_Ref_plain_279 rfl ?_
      refine V_getf d_Ref_plain_280 ff_Ref_51 zqs_o rfl ?_
      refine V_iload d_Ref_plain_283 rfl ?_
      refine V_aload_n d_Ref_plain_285 rfl ?_
      refine V_getf d_Ref_plain_286 ff_Ref_60 zqs_o rfl ?_
      refine J_bipush d_Ref_plain_289 (by decide) ?_
      refine V_iload d_Ref_plain_291 rfl ?_
      refine J_imul d_Ref_plain_293 ?_
      refine V_iload d_Ref_plain_294 rfl ?_
      refine J_iadd d_Ref_plain_296 ?_
      refine J_laload d_Ref_plain_297 zqs_a15 (by omega) (by decide) ?_
      rw [zlu_n (show 15 ≠ 12 by decide)]
      refine J_lastore d_Ref_plain_298 (zqs_r (j := 12) (by unfold zqi; decide)) (by omega) (by decide) ?_
      refine J_iinc d_Ref_plain_299 rfl (by decide) ?_
      refine V_goto 270 d_Ref_plain_302 (by decide) ?_
      exact V_w (by rw [zqs_lu (by unfold zqi; decide), zlu_s, zif_s (by omega) rfl, zlu_lu] <;> rfl) ih
    refine zfor nn (fun i : Nat => V G M_Ref_plain (zdet (some (.int (Int32.ofInt (q : Int)))) (zqs G C 0 kd nn t tu ch ke (zqb nn c (zlu (zqPl nn l p t 1 L q) 8 (zu ((zqPl nn l p t 1 L q) 8) c q)) q) w0) sz) (zR 2 0 0 53) 0 0 sz 270 [(0, .ref C), (1, .int (Int32.ofInt (c : Int))), (2, .int (Int32.ofInt 1)), (3, .int (Int32.ofInt (l : Int))), (4, .int (Int32.ofInt (p : Int))), (5, .int (Int32.ofInt (q : Int))), (6, .int (Int32.ofInt (k : Int))), (7, .int (Int32.ofInt (i : Int)))] [] (zqs G C 0 kd nn t tu ch ke (zlu (zqb nn c (zlu (zqPl nn l p t 1 L q) 8 (zu ((zqPl nn l p t 1 L q) 8) c q)) k) 12 (zif (i : Int) (fun i => (zqb nn c (zlu (zqPl nn l p t 1 L q) 8 (zu ((zqPl nn l p t 1 L q) 8) c q)) k) 15 (32 * (k : Int) + i)) ((zqb nn c (zlu (zqPl nn l p t 1 L q) 8 (zu ((zqPl nn l p t 1 L q) 8) c q)) k) 12))) w0)) ?_ st_270 0 (Nat.zero_le nn)
    refine V_iload d_Ref_plain_270 rfl ?_
    refine V_aload_n d_Ref_plain_272 rfl ?_
    refine V_getf d_Ref_plain_273 ff_Ref_7 zqs_o rfl ?_
    refine J_icmp_ge 305 d_Ref_plain_276 (by decide) (by omega) (by omega) (fun c_276 => ?_) (fun c_276 => absurd c_276 (by omega))
    refine V_aload_n d_Ref_plain_305 rfl ?_
    refine V_iload_n d_Ref_plain_306 rfl ?_
    refine V_iload d_Ref_plain_307 rfl ?_
    refine V_aload_n d_Ref_plain_309 rfl ?_
    refine V_getf d_Ref_plain_310 ff_Ref_51 zqs_o rfl ?_
    refine V_callV (n := 3) d_Ref_plain_313 g_Ref_152 rfl zqs_o rfl (r_put G _ C 0 kd nn t tu ch ke (zlu (zqb nn c (zlu (zqPl nn l p t 1 L q) 8 (zu ((zqPl nn l p t 1 L q) 8) c q)) k) 12 (zif nn (fun i => (zqb nn c (zlu (zqPl nn l p t 1 L q) 8 (zu ((zqPl nn l p t 1 L q) 8) c q)) k) 15 (32 * (k : Int) + i)) ((zqb nn c (zlu (zqPl nn l p t 1 L q) 8 (zu ((zqPl nn l p t 1 L q) 8) c q)) k) 12))) w0 nn rfl hn c k 12 hc (by omega) (by unfold zqi; decide) (fun j hj => by show -9223372036854775808 ≤ zif nn (fun i => (zqb nn c (zlu (zqPl nn l p t 1 L q) 8 (zu ((zqPl nn l p t 1 L q) 8) c q)) k) 15 (32 * (k : Int) + i)) ((zqb nn c (zlu (zqPl nn l p t 1 L q) 8 (zu ((zqPl nn l p t 1 L q) 8) c q)) k) 12) j ∧ zif nn (fun i => (zqb nn c (zlu (zqPl nn l p t 1 L q) 8 (zu ((zqPl nn l p t 1 L q) 8) c q)) k) 15 (32 * (k : Int) + i)) ((zqb nn c (zlu (zqPl nn l p t 1 L q) 8 (zu ((zqPl nn l p t 1 L q) 8) c q)) k) 12) j < 9223372036854775808; rw [zif_l (by omega), b15]; exact hW k hk j hj)) ⟨co_Ref_put, by decide +kernel, Nat.le_of_ble_eq_true rfl⟩ ⟨Nat.le_of_ble_eq_true rfl, Nat.le_of_ble_eq_true rfl, Nat.le_of_ble_eq_true rfl, Nat.le_of_ble_eq_true rfl⟩ (Nat.le_of_ble_eq_true rfl) (fun r_313 w_313 s_313 q_313 => ?_) (fun _ _ _ q => False.elim q)
    obtain ⟨rfl, rfl, rfl⟩ := q_313
    refine J_iinc d_Ref_plain_316 rfl (by decide) ?_
    refine V_goto 260 d_Ref_plain_319 (by decide) ?_
    exact V_lo [0, 1, 2, 3, 4, 5, 6] rfl ih
  refine zfor q (fun k : Nat => V G M_Ref_plain (zdet (some (.int (Int32.ofInt (q : Int)))) (zqs G C 0 kd nn t tu ch ke (zqb nn c (zlu (zqPl nn l p t 1 L q) 8 (zu ((zqPl nn l p t 1 L q) 8) c q)) q) w0) sz) (zR 2 0 0 53) 0 0 sz 260 [(0, .ref C), (1, .int (Int32.ofInt (c : Int))), (2, .int (Int32.ofInt 1)), (3, .int (Int32.ofInt (l : Int))), (4, .int (Int32.ofInt (p : Int))), (5, .int (Int32.ofInt (q : Int))), (6, .int (Int32.ofInt (k : Int)))] [] (zqs G C 0 kd nn t tu ch ke (zqb nn c (zlu (zqPl nn l p t 1 L q) 8 (zu ((zqPl nn l p t 1 L q) 8) c q)) k) w0)) ?_ stb 0 (Nat.zero_le q)
  refine V_iload d_Ref_plain_260 rfl ?_
  refine V_iload d_Ref_plain_262 rfl ?_
  refine J_icmp_ge 322 d_Ref_plain_264 (by decide) (by omega) (by omega) (fun c_264 => ?_) (fun c_264 => absurd c_264 (by omega))
  refine V_iload d_Ref_plain_322 rfl ?_
  exact V_ireturn d_Ref_plain_324 rfl ⟨Nat.le_of_ble_eq_true rfl, Nat.le_of_ble_eq_true rfl⟩ ⟨rfl, rfl, rfl⟩

