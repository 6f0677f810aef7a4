set_option maxRecDepth 100000 in
set_option maxHeartbeats 4000000 in
theorem r_seal_c (G : zG) (sz C : Nat) (th kd n t tu : Int) (ch : Int32) (ke : Int) (L : Nat → Int → Int) (w0 : zW) (c : Int) (hc : -2147483648 ≤ c ∧ c < 2147483648) (hb : c < 0 ∨ 15 < c) (p : Int) : zCt G M_Ref_seal (zR 5 0 0 125) [.ref C, .int (Int32.ofInt c), .int (Int32.ofInt p)] sz (zqs G C th kd n t tu ch ke L w0) (zdet (some (.int (Int32.ofInt 0))) (zqs G C 1 kd n t tu ch ke L w0) sz) := by
  refine V_aload_n d_Ref_seal_0 rfl ?_
  refine V_iload_n d_Ref_seal_1 rfl ?_
  refine V_callS (n := 1) d_Ref_seal_2 g_Ref_138 rfl (r_noCipher_y G _ _ c hc hb) ⟨co_Ref_noCipher, by decide +kernel, Nat.le_of_ble_eq_true rfl⟩ ⟨Nat.le_of_ble_eq_true rfl, Nat.le_of_ble_eq_true rfl, Nat.le_of_ble_eq_true rfl, Nat.le_of_ble_eq_true rfl⟩ (Nat.le_of_ble_eq_true rfl) (fun r_2 w_2 s_2 q_2 => ?_) (fun _ _ _ q => False.elim q)
  obtain ⟨rfl, rfl, rfl⟩ := q_2
  refine J_if_ne 15 d_Ref_seal_5 (by decide) (by decide) (fun c_5 => ?_) (fun c_5 => absurd c_5 (by decide))
  refine V_iconst d_Ref_seal_15 ?_
  refine V_goto 31 d_Ref_seal_16 (by decide) ?_
  refine V_putf d_Ref_seal_31 ff_Ref_69 zqs_o ⟨_, _, _, _, rfl, rfl, rfl, rfl, rfl⟩ (Nat.le_of_ble_eq_true rfl) ?_
  refine V_w (zqs_f (th' := 1) rfl) ?_
  refine V_aload_n d_Ref_seal_34 rfl ?_
  refine V_getf d_Ref_seal_35 ff_Ref_69 zqs_o rfl ?_
  refine J_if_le 43 d_Ref_seal_38 (by decide) (by decide) (fun c_38 => absurd c_38 (by decide)) (fun c_38 => ?_)
  refine V_iconst d_Ref_seal_41 ?_
  exact V_ireturn d_Ref_seal_42 rfl ⟨Nat.le_of_ble_eq_true rfl, Nat.le_of_ble_eq_true rfl⟩ ⟨rfl, rfl, rfl⟩

set_option maxRecDepth 100000 in
set_option maxHeartbeats 4000000 in
theorem r_seal_p (G : zG) (sz C : Nat) (th kd n t tu : Int) (ch : Int32) (ke : Int) (L : Nat → Int → Int) (w0 : zW) (c : Nat) (hc : c < 16) (p : Int) (hp : -2147483648 ≤ p ∧ p < 2147483648) (hb : p < 0 ∨ 7 < p) : zCt G M_Ref_seal (zR 5 0 0 125) [.ref C, .int (Int32.ofInt (c : Int)), .int (Int32.ofInt p)] sz (zqs G C th kd n t tu ch ke L w0) (zdet (some (.int (Int32.ofInt 0))) (zqs G C 1 kd n t tu ch ke L w0) sz) := by
  refine V_aload_n d_Ref_seal_0 rfl ?_
  refine V_iload_n d_Ref_seal_1 rfl ?_
  refine V_callS (n := 1) d_Ref_seal_2 g_Ref_138 rfl (r_noCipher_n G _ _ c (by omega)) ⟨co_Ref_noCipher, by decide +kernel, Nat.le_of_ble_eq_true rfl⟩ ⟨Nat.le_of_ble_eq_true rfl, Nat.le_of_ble_eq_true rfl, Nat.le_of_ble_eq_true rfl, Nat.le_of_ble_eq_true rfl⟩ (Nat.le_of_ble_eq_true rfl) (fun r_2 w_2 s_2 q_2 => ?_) (fun _ _ _ q => False.elim q)
  obtain ⟨rfl, rfl, rfl⟩ := q_2
  refine J_if_ne 15 d_Ref_seal_5 (by decide) (by decide) (fun c_5 => absurd rfl c_5) (fun c_5 => ?_)
  refine V_iload_n d_Ref_seal_8 rfl ?_
  refine V_callS (n := 1) d_Ref_seal_9 g_Ref_142 rfl (r_noPlain_y G _ _ p hp hb) ⟨co_Ref_noPlain, by decide +kernel, Nat.le_of_ble_eq_true rfl⟩ ⟨Nat.le_of_ble_eq_true rfl, Nat.le_of_ble_eq_true rfl, Nat.le_of_ble_eq_true rfl, Nat.le_of_ble_eq_true rfl⟩ (Nat.le_of_ble_eq_true rfl) (fun r_9 w_9 s_9 q_9 => ?_) (fun _ _ _ q => False.elim q)
  obtain ⟨rfl, rfl, rfl⟩ := q_9
  refine J_if_eq 19 d_Ref_seal_12 (by decide) (by decide) (fun c_12 => absurd c_12 (by decide)) (fun c_12 => ?_)
  refine V_iconst d_Ref_seal_15 ?_
  refine V_goto 31 d_Ref_seal_16 (by decide) ?_
  refine V_putf d_Ref_seal_31 ff_Ref_69 zqs_o ⟨_, _, _, _, rfl, rfl, rfl, rfl, rfl⟩ (Nat.le_of_ble_eq_true rfl) ?_
  refine V_w (zqs_f (th' := 1) rfl) ?_
  refine V_aload_n d_Ref_seal_34 rfl ?_
  refine V_getf d_Ref_seal_35 ff_Ref_69 zqs_o rfl ?_
  refine J_if_le 43 d_Ref_seal_38 (by decide) (by decide) (fun c_38 => absurd c_38 (by decide)) (fun c_38 => ?_)
  refine V_iconst d_Ref_seal_41 ?_
  exact V_ireturn d_Ref_seal_42 rfl ⟨Nat.le_of_ble_eq_true rfl, Nat.le_of_ble_eq_true rfl⟩ ⟨rfl, rfl, rfl⟩

set_option maxRecDepth 100000 in
set_option maxHeartbeats 4000000 in
theorem r_seal_k (G : zG) (sz C : Nat) (th kd n t tu : Int) (ch : Int32) (ke : Int) (L : Nat → Int → Int) (w0 : zW) (c : Nat) (hc : c < 16) (p : Nat) (hp : p < 8) (hb : ke = 0) : zCt G M_Ref_seal (zR 5 0 0 125) [.ref C, .int (Int32.ofInt (c : Int)), .int (Int32.ofInt (p : Int))] sz (zqs G C th kd n t tu ch ke L w0) (zdet (some (.int (Int32.ofInt 0))) (zqs G C 2 kd n t tu ch ke L w0) sz) := by
  refine V_aload_n d_Ref_seal_0 rfl ?_
  refine V_iload_n d_Ref_seal_1 rfl ?_
  refine V_callS (n := 1) d_Ref_seal_2 g_Ref_138 rfl (r_noCipher_n G _ _ c (by omega)) ⟨co_Ref_noCipher, by decide +kernel, Nat.le_of_ble_eq_true rfl⟩ ⟨Nat.le_of_ble_eq_true rfl, Nat.le_of_ble_eq_true rfl, Nat.le_of_ble_eq_true rfl, Nat.le_of_ble_eq_true rfl⟩ (Nat.le_of_ble_eq_true rfl) (fun r_2 w_2 s_2 q_2 => ?_) (fun _ _ _ q => False.elim q)
  obtain ⟨rfl, rfl, rfl⟩ := q_2
  refine J_if_ne 15 d_Ref_seal_5 (by decide) (by decide) (fun c_5 => absurd rfl c_5) (fun c_5 => ?_)
  refine V_iload_n d_Ref_seal_8 rfl ?_
  refine V_callS (n := 1) d_Ref_seal_9 g_Ref_142 rfl (r_noPlain_n G _ _ p (by omega)) ⟨co_Ref_noPlain, by decide +kernel, Nat.le_of_ble_eq_true rfl⟩ ⟨Nat.le_of_ble_eq_true rfl, Nat.le_of_ble_eq_true rfl, Nat.le_of_ble_eq_true rfl, Nat.le_of_ble_eq_true rfl⟩ (Nat.le_of_ble_eq_true rfl) (fun r_9 w_9 s_9 q_9 => ?_) (fun _ _ _ q => False.elim q)
  obtain ⟨rfl, rfl, rfl⟩ := q_9
  refine J_if_eq 19 d_Ref_seal_12 (by decide) (by decide) (fun c_12 => ?_) (fun c_12 => absurd rfl c_12)
  refine V_aload_n d_Ref_seal_19 rfl ?_
  refine V_getf d_Ref_seal_20 ff_Ref_107 zqs_o rfl ?_
  refine J_if_ne 30 d_Ref_seal_23 (by decide) (by omega) (fun c_23 => absurd hb c_23) (fun c_23 => ?_)
  refine V_iconst d_Ref_seal_26 ?_
  refine V_goto 31 d_Ref_seal_27 (by decide) ?_
  refine V_putf d_Ref_seal_31 ff_Ref_69 zqs_o ⟨_, _, _, _, rfl, rfl, rfl, rfl, rfl⟩ (Nat.le_of_ble_eq_true rfl) ?_
  refine V_w (zqs_f (th' := 2) rfl) ?_
  refine V_aload_n d_Ref_seal_34 rfl ?_
  refine V_getf d_Ref_seal_35 ff_Ref_69 zqs_o rfl ?_
  refine J_if_le 43 d_Ref_seal_38 (by decide) (by decide) (fun c_38 => absurd c_38 (by decide)) (fun c_38 => ?_)
  refine V_iconst d_Ref_seal_41 ?_
  exact V_ireturn d_Ref_seal_42 rfl ⟨Nat.le_of_ble_eq_true rfl, Nat.le_of_ble_eq_true rfl⟩ ⟨rfl, rfl, rfl⟩

set_option maxRecDepth 100000 in
set_option maxHeartbeats 4000000 in
theorem r_seal (G : zG) (sz C : Nat) (th kd n t tu : Int) (ch : Int32) (ke : Int) (L : Nat → Int → Int) (w0 : zW) (nn : Nat) (hnn : n = (nn : Int)) (hn : nn ≤ 32) (c : Nat) (hc : c < 16) (p : Nat) (hp : p < 8) (hke : ke = 1) (ht : 0 < t ∧ t ≤ 1000) (hPa : ∀ j : Int, 0 ≤ j → j < 1536 → 0 ≤ L 9 j ∧ L 9 j < 268435399) (hSa : ∀ j : Int, 0 ≤ j → j < 32 → -1 ≤ L 1 j ∧ L 1 j ≤ 1) (hPl : ∀ j : Int, 0 ≤ j → j < 256 → 0 ≤ L 7 j ∧ L 7 j ≤ 1000) (hB2 : ∀ j : Nat, j < nn → 0 ≤ L 2 j ∧ L 2 j < 268435399) (hA3 : ∀ j : Nat, j < nn → 0 ≤ L 3 j ∧ L 3 j < 268435399) : zCt G M_Ref_seal (zR 5 0 0 125) [.ref C, .int (Int32.ofInt (c : Int)), .int (Int32.ofInt (p : Int))] sz (zqs G C th kd n t tu ch ke L w0) (zdet (some (.int (Int32.ofInt ((zBu (zNz t ((zqPh nn c (zqSe nn ch c p t L)) 12) nn) 27 : Nat) : Int)))) (zqs G C 0 kd n t tu (zlcN (zlcN (zlcN ch nn) nn) nn) ke (zqPh nn c (zqSe nn ch c p t L)) w0) sz) := by
  subst hnn
  refine V_aload_n d_Ref_seal_0 rfl ?_
  refine V_iload_n d_Ref_seal_1 rfl ?_
  refine V_callS (n := 1) d_Ref_seal_2 g_Ref_138 rfl (r_noCipher_n G _ _ c (by omega)) ⟨co_Ref_noCipher, by decide +kernel, Nat.le_of_ble_eq_true rfl⟩ ⟨Nat.le_of_ble_eq_true rfl, Nat.le_of_ble_eq_true rfl, Nat.le_of_ble_eq_true rfl, Nat.le_of_ble_eq_true rfl⟩ (Nat.le_of_ble_eq_true rfl) (fun r_2 w_2 s_2 q_2 => ?_) (fun _ _ _ q => False.elim q)
  obtain ⟨rfl, rfl, rfl⟩ := q_2
  refine J_if_ne 15 d_Ref_seal_5 (by decide) (by decide) (fun c_5 => absurd rfl c_5) (fun c_5 => ?_)
  refine V_iload_n d_Ref_seal_8 rfl ?_
  refine V_callS (n := 1) d_Ref_seal_9 g_Ref_142 rfl (r_noPlain_n G _ _ p (by omega)) ⟨co_Ref_noPlain, by decide +kernel, Nat.le_of_ble_eq_true rfl⟩ ⟨Nat.le_of_ble_eq_true rfl, Nat.le_of_ble_eq_true rfl, Nat.le_of_ble_eq_true rfl, Nat.le_of_ble_eq_true rfl⟩ (Nat.le_of_ble_eq_true rfl) (fun r_9 w_9 s_9 q_9 => ?_) (fun _ _ _ q => False.elim q)
  obtain ⟨rfl, rfl, rfl⟩ := q_9
  refine J_if_eq 19 d_Ref_seal_12 (by decide) (by decide) (fun c_12 => ?_) (fun c_12 => absurd rfl c_12)
  refine V_aload_n d_Ref_seal_19 rfl ?_
  refine V_getf d_Ref_seal_20 ff_Ref_107 zqs_o rfl ?_
  refine J_if_ne 30 d_Ref_seal_23 (by decide) (by omega) (fun c_23 => ?_) (fun c_23 => absurd c_23 (by omega))
  refine V_iconst d_Ref_seal_30 ?_
  refine V_putf d_Ref_seal_31 ff_Ref_69 zqs_o ⟨_, _, _, _, rfl, rfl, rfl, rfl, rfl⟩ (Nat.le_of_ble_eq_true rfl) ?_
  refine V_w (zqs_f (th' := 0) rfl) ?_
  refine V_aload_n d_Ref_seal_34 rfl ?_
  refine V_getf d_Ref_seal_35 ff_Ref_69 zqs_o rfl ?_
  refine J_if_le 43 d_Ref_seal_38 (by decide) (by decide) (fun c_38 => ?_) (fun c_38 => absurd c_38 (by decide))
  refine V_aload_n d_Ref_seal_43 rfl ?_
  refine V_aload_n d_Ref_seal_44 rfl ?_
  refine V_getf d_Ref_seal_45 ff_Ref_54 zqs_o rfl ?_
  refine V_callV (n := 1) d_Ref_seal_48 g_Ref_117 rfl zqs_o rfl (r_ternary G _ C 0 kd nn t tu ch ke L w0 nn rfl hn 13 (by unfold zqi; decide)) ⟨co_Ref_ternary, by decide +kernel, Nat.le_of_ble_eq_true rfl⟩ ⟨Nat.le_of_ble_eq_true rfl, Nat.le_of_ble_eq_true rfl, Nat.le_of_ble_eq_true rfl, Nat.le_of_ble_eq_true rfl⟩ (Nat.le_of_ble_eq_true rfl) (fun r_48 w_48 s_48 q_48 => ?_) (fun _ _ _ q => False.elim q)
  obtain ⟨rfl, rfl, rfl⟩ := q_48
  refine V_aload_n d_Ref_seal_51 rfl ?_
  refine V_aload_n d_Ref_seal_52 rfl ?_
  refine V_getf d_Ref_seal_53 ff_Ref_63 zqs_o rfl ?_
  refine V_callV (n := 1) d_Ref_seal_56 g_Ref_95 rfl zqs_o rfl (r_error G _ C 0 kd nn t tu (zlcN ch nn) ke (zlu L 13 (zif nn (zrT ch) (L 13))) w0 nn rfl hn 16 (by unfold zqi; decide)) ⟨co_Ref_error, by decide +kernel, Nat.le_of_ble_eq_true rfl⟩ ⟨Nat.le_of_ble_eq_true rfl, Nat.le_of_ble_eq_true rfl, Nat.le_of_ble_eq_true rfl, Nat.le_of_ble_eq_true rfl⟩ (Nat.le_of_ble_eq_true rfl) (fun r_56 w_56 s_56 q_56 => ?_) (fun _ _ _ q => False.elim q)
  obtain ⟨rfl, rfl, rfl⟩ := q_56
  refine V_aload_n d_Ref_seal_59 rfl ?_
  refine V_aload_n d_Ref_seal_60 rfl ?_
  refine V_getf d_Ref_seal_61 ff_Ref_66 zqs_o rfl ?_
  refine V_callV (n := 1) d_Ref_seal_64 g_Ref_95 rfl zqs_o rfl (r_error G _ C 0 kd nn t tu (zlcN (zlcN ch nn) nn) ke (zlu (zlu L 13 (zif nn (zrT ch) (L 13))) 16 (zif nn (zrE (zlcN ch nn)) (L 16))) w0 nn rfl hn 17 (by unfold zqi; decide)) ⟨co_Ref_error, by decide +kernel, Nat.le_of_ble_eq_true rfl⟩ ⟨Nat.le_of_ble_eq_true rfl, Nat.le_of_ble_eq_true rfl, Nat.le_of_ble_eq_true rfl, Nat.le_of_ble_eq_true rfl⟩ (Nat.le_of_ble_eq_true rfl) (fun r_64 w_64 s_64 q_64 => ?_) (fun _ _ _ q => False.elim q)
  obtain ⟨rfl, rfl, rfl⟩ := q_64
  refine V_aload_n d_Ref_seal_67 rfl ?_
  refine V_aload_n d_Ref_seal_68 rfl ?_
  refine V_getf d_Ref_seal_69 ff_Ref_20 zqs_o rfl ?_
  refine V_aload_n d_Ref_seal_72 rfl ?_
  refine V_getf d_Ref_seal_73 ff_Ref_54 zqs_o rfl ?_
  refine V_aload_n d_Ref_seal_76 rfl ?_
  refine V_getf d_Ref_seal_77 ff_Ref_45 zqs_o rfl ?_
  refine V_callV (n := 3) d_Ref_seal_80 g_Ref_98 rfl zqs_o rfl (r_reduced G _ C 0 kd nn t tu (zlcN (zlcN (zlcN ch nn) nn) nn) ke (zlu (zlu (zlu L 13 (zif nn (zrT ch) (L 13))) 16 (zif nn (zrE (zlcN ch nn)) (L 16))) 17 (zif nn (zrE (zlcN (zlcN ch nn) nn)) (L 17))) w0 nn rfl hn 2 13 10 (by unfold zqi; decide) (by unfold zqi; decide) (by unfold zqi; decide) (by decide) (by decide) (fun j hj => by have h := hB2 j hj; show -9223372036854775808 ≤ L 2 j ∧ L 2 j < 9223372036854775808; exact ⟨by omega, by omega⟩) (fun j h1 h2 => by have h0 := zrT_b ch j; show -9223372036854775808 ≤ zif nn (zrT ch) (L 13) j ∧ zif nn (zrT ch) (L 13) j < 9223372036854775808; rw [zif_l ⟨h1, h2⟩]; exact ⟨by omega, by omega⟩)) ⟨co_Ref_reduced, by decide +kernel, Nat.le_of_ble_eq_true rfl⟩ ⟨Nat.le_of_ble_eq_true rfl, Nat.le_of_ble_eq_true rfl, Nat.le_of_ble_eq_true rfl, Nat.le_of_ble_eq_true rfl⟩ (Nat.le_of_ble_eq_true rfl) (fun r_80 w_80 s_80 q_80 => ?_) (fun _ _ _ q => False.elim q)
  obtain ⟨rfl, rfl, rfl⟩ := q_80
  refine V_aload_n d_Ref_seal_83 rfl ?_
  refine V_aload_n d_Ref_seal_84 rfl ?_
  refine V_getf d_Ref_seal_85 ff_Ref_23 zqs_o rfl ?_
  refine V_aload_n d_Ref_seal_88 rfl ?_
  refine V_getf d_Ref_seal_89 ff_Ref_54 zqs_o rfl ?_
  refine V_aload_n d_Ref_seal_92 rfl ?_
  refine V_getf d_Ref_seal_93 ff_Ref_48 zqs_o rfl ?_
  refine V_callV (n := 3) d_Ref_seal_96 g_Ref_98 rfl zqs_o rfl (r_reduced G _ C 0 kd nn t tu (zlcN (zlcN (zlcN ch nn) nn) nn) ke (zqRd nn 2 13 10 (zlu (zlu (zlu L 13 (zif nn (zrT ch) (L 13))) 16 (zif nn (zrE (zlcN ch nn)) (L 16))) 17 (zif nn (zrE (zlcN (zlcN ch nn) nn)) (L 17)))) w0 nn rfl hn 3 13 11 (by unfold zqi; decide) (by unfold zqi; decide) (by unfold zqi; decide) (by decide) (by decide) (fun j hj => by have h := hA3 j hj; show -9223372036854775808 ≤ L 3 j ∧ L 3 j < 9223372036854775808; exact ⟨by omega, by omega⟩) (fun j h1 h2 => by have h0 := zrT_b ch j; show -9223372036854775808 ≤ zif nn (zrT ch) (L 13) j ∧ zif nn (zrT ch) (L 13) j < 9223372036854775808; rw [zif_l ⟨h1, h2⟩]; exact ⟨by omega, by omega⟩)) ⟨co_Ref_reduced, by decide +kernel, Nat.le_of_ble_eq_true rfl⟩ ⟨Nat.le_of_ble_eq_true rfl, Nat.le_of_ble_eq_true rfl, Nat.le_of_ble_eq_true rfl, Nat.le_of_ble_eq_true rfl⟩ (Nat.le_of_ble_eq_true rfl) (fun r_96 w_96 s_96 q_96 => ?_) (fun _ _ _ q => False.elim q)
  obtain ⟨rfl, rfl, rfl⟩ := q_96
  refine V_iconst d_Ref_seal_99 ?_
  refine V_istore_n d_Ref_seal_100 (by decide) ?_
  refine V_w (w' := (zqs G C 0 kd nn t tu (zlcN (zlcN (zlcN ch nn) nn) nn) ke (zq2 nn 0 10 11 (zqSf p t (zqS1 nn ch L)) (zqSg (zqS1 nn ch L)) (zqS1 nn ch L)) w0)) (by rw [zq2_0] <;> rfl) ?_
  have st_101 : ∀ i : Nat, i < nn → (fun i : Nat => V G M_Ref_seal (zdet (some (.int (Int32.ofInt ((zBu (zNz t ((zqPh nn c (zqSe nn ch c p t L)) 12) nn) 27 : Nat) : Int)))) (zqs G C 0 kd nn t tu (zlcN (zlcN (zlcN ch nn) nn) nn) ke (zqPh nn c (zqSe nn ch c p t L)) w0) sz) (zR 5 0 0 125) 0 0 sz 101 [(0, .ref C), (1, .int (Int32.ofInt (c : Int))), (2, .int (Int32.ofInt (p : Int))), (3, .int (Int32.ofInt (i : Int)))] [] (zqs G C 0 kd nn t tu (zlcN (zlcN (zlcN ch nn) nn) nn) ke (zq2 nn i 10 11 (zqSf p t (zqS1 nn ch L)) (zqSg (zqS1 nn ch L)) (zqS1 nn ch L)) w0)) (i + 1) → (fun i : Nat => V G M_Ref_seal (zdet (some (.int (Int32.ofInt ((zBu (zNz t ((zqPh nn c (zqSe nn ch c p t L)) 12) nn) 27 : Nat) : Int)))) (zqs G C 0 kd nn t tu (zlcN (zlcN (zlcN ch nn) nn) nn) ke (zqPh nn c (zqSe nn ch c p t L)) w0) sz) (zR 5 0 0 125) 0 0 sz 101 [(0, .ref C), (1, .int (Int32.ofInt (c : Int))), (2, .int (Int32.ofInt (p : Int))), (3, .int (Int32.ofInt (i : Int)))] [] (zqs G C 0 kd nn t tu (zlcN (zlcN (zlcN ch nn) nn) nn) ke (zq2 nn i 10 11 (zqSf p t (zqS1 nn ch L)) (zqSg (zqS1 nn ch L)) (zqS1 nn ch L)) w0)) i := by
    intro i hi ih
    have hpl := hPl (32 * (p : Int) + i) (by omega) (by omega)
    refine V_iload_n d_Ref_seal_101 rfl ?_
    refine V_aload_n d_Ref_seal_102 rfl ?_
    refine V_getf d_Ref_seal_103 ff_Ref_7 zqs_o rfl ?_
    refine J_icmp_ge 168 d_Ref_seal_106 (by decide) (by omega) (by omega) (fun c_106 => absurd c_106 (by omega)) (fun c_106 => ?_)
    refine V_aload_n d_Ref_seal_109 rfl ?_
    refine V_getf d_Ref_seal_110 ff_Ref_45 zqs_o rfl ?_
    refine V_iload_n d_Ref_seal_113 rfl ?_
    refine V_dup2 d_Ref_seal_114 rfl rfl ?_
    refine J_laload d_Ref_seal_115 (zqs_r (j := 10) (by unfold zqi; decide)) (by omega) (by decide) ?_
    refine V_aload_n d_Ref_seal_116 rfl ?_
    refine V_getf d_Ref_seal_117 ff_Ref_63 zqs_o rfl ?_
    refine V_iload_n d_Ref_seal_120 rfl ?_
    refine J_laload d_Ref_seal_121 (zqs_r (j := 16) (by unfold zqi; decide)) (by omega) (by decide) ?_
    refine J_ldc2 d_Ref_seal_122 k_Ref_72 ?_
    refine V_aload_n d_Ref_seal_125 rfl ?_
    refine V_getf d_Ref_seal_126 ff_Ref_13 zqs_o rfl ?_
    refine J_i2l d_Ref_seal_129 (by omega) ?_
    refine J_ldivP d_Ref_seal_130 (by omega) (by omega) ?_
    refine V_aload_n d_Ref_seal_131 rfl ?_
    refine V_getf d_Ref_seal_132 ff_Ref_36 zqs_o rfl ?_
    refine J_bipush d_Ref_seal_135 (by decide) ?_
    refine V_iload_n d_Ref_seal_137 rfl ?_
    refine J_imul d_Ref_seal_138 ?_
    refine V_iload_n d_Ref_seal_139 rfl ?_
    refine J_iadd d_Ref_seal_140 ?_
    refine J_iaload d_Ref_seal_141 zqs_a7 (by omega) (by decide) ?_
    refine J_i2l d_Ref_seal_142 (by show -2147483648 ≤ L 7 _ ∧ L 7 _ < 2147483648; omega) ?_
    refine J_lmul d_Ref_seal_143 ?_
    refine J_ladd d_Ref_seal_144 ?_
    refine J_ladd d_Ref_seal_145 ?_
    refine J_lastore d_Ref_seal_146 (zqs_r (j := 10) (by unfold zqi; decide)) (by omega) (by decide) ?_
    refine V_w (zqs_lu (by unfold zqi; decide)) ?_
    refine V_aload_n d_Ref_seal_147 rfl ?_
    refine V_getf d_Ref_seal_148 ff_Ref_48 zqs_o rfl ?_
    refine V_iload_n d_Ref_seal_151 rfl ?_
    refine V_dup2 d_Ref_seal_152 rfl rfl ?_
    refine J_laload d_Ref_seal_153 (zqs_r (j := 11) (by unfold zqi; decide)) (by omega) (by decide) ?_
    refine V_aload_n d_Ref_seal_154 rfl ?_
    refine V_getf d_Ref_seal_155 ff_Ref_66 zqs_o rfl ?_
    refine V_iload_n d_Ref_seal_158 rfl ?_
    refine J_laload d_Ref_seal_159 (zqs_r (j := 17) (by unfold zqi; decide)) (by omega) (by decide) ?_
    refine J_ladd d_Ref_seal_160 ?_
    refine J_lastore d_Ref_seal_161 (zqs_r (j := 11) (by unfold zqi; decide)) (by omega) (by decide) ?_
    refine J_iinc d_Ref_seal_162 rfl (by decide) ?_
    refine V_goto 101 d_Ref_seal_165 (by decide) ?_
    refine V_w ((zqs_lu (by unfold zqi; decide)).trans ?_) ih
    exact congrArg (fun Z => zqs G C 0 kd nn t tu (zlcN (zlcN (zlcN ch nn) nn) nn) ke Z w0) (zq2_s (by decide) (show (zq2 nn i 10 11 (zqSf p t (zqS1 nn ch L)) (zqSg (zqS1 nn ch L)) (zqS1 nn ch L)) 10 i + ((zqS1 nn ch L) 16 i + 268435399 / t * (zqS1 nn ch L) 7 (32 * (p : Int) + i)) = _ from by show zif i _ ((zqS1 nn ch L) 10) i + _ = _; rw [zif_r (show ¬ (0 ≤ (i : Int) ∧ (i : Int) < i) by omega)]; rfl) (show zif i (zqSg (zqS1 nn ch L)) ((zqS1 nn ch L) 11) i + (zqS1 nn ch L) 17 i = _ from by rw [zif_r (show ¬ (0 ≤ (i : Int) ∧ (i : Int) < i) by omega)]; rfl))
  refine zfor nn (fun i : Nat => V G M_Ref_seal (zdet (some (.int (Int32.ofInt ((zBu (zNz t ((zqPh nn c (zqSe nn ch c p t L)) 12) nn) 27 : Nat) : Int)))) (zqs G C 0 kd nn t tu (zlcN (zlcN (zlcN ch nn) nn) nn) ke (zqPh nn c (zqSe nn ch c p t L)) w0) sz) (zR 5 0 0 125) 0 0 sz 101 [(0, .ref C), (1, .int (Int32.ofInt (c : Int))), (2, .int (Int32.ofInt (p : Int))), (3, .int (Int32.ofInt (i : Int)))] [] (zqs G C 0 kd nn t tu (zlcN (zlcN (zlcN ch nn) nn) nn) ke (zq2 nn i 10 11 (zqSf p t (zqS1 nn ch L)) (zqSg (zqS1 nn ch L)) (zqS1 nn ch L)) w0)) ?_ st_101 0 (Nat.zero_le nn)
  refine V_iload_n d_Ref_seal_101 rfl ?_
  refine V_aload_n d_Ref_seal_102 rfl ?_
  refine V_getf d_Ref_seal_103 ff_Ref_7 zqs_o rfl ?_
  refine J_icmp_ge 168 d_Ref_seal_106 (by decide) (by omega) (by omega) (fun c_106 => ?_) (fun c_106 => absurd c_106 (by omega))
  refine V_aload_n d_Ref_seal_168 rfl ?_
  refine V_getf d_Ref_seal_169 ff_Ref_39 zqs_o rfl ?_
  refine V_iload_n d_Ref_seal_172 rfl ?_
  refine V_iconst d_Ref_seal_173 ?_
  refine J_iastore d_Ref_seal_174 zqs_a8 (by omega) (by decide) ?_
  refine V_w zqs_u8 ?_
  refine V_aload_n d_Ref_seal_175 rfl ?_
  refine V_iload_n d_Ref_seal_176 rfl ?_
  refine V_iconst d_Ref_seal_177 ?_
  refine V_aload_n d_Ref_seal_178 rfl ?_
  refine V_getf d_Ref_seal_179 ff_Ref_45 zqs_o rfl ?_
  refine V_callV (n := 3) d_Ref_seal_182 g_Ref_152 rfl zqs_o rfl (r_put G _ C 0 kd nn t tu (zlcN (zlcN (zlcN ch nn) nn) nn) ke (zlu (zq2 nn nn 10 11 (zqSf p t (zqS1 nn ch L)) (zqSg (zqS1 nn ch L)) (zqS1 nn ch L)) 8 (zu ((zq2 nn nn 10 11 (zqSf p t (zqS1 nn ch L)) (zqSg (zqS1 nn ch L)) (zqS1 nn ch L)) 8) c 2)) w0 nn rfl hn c 0 10 hc (by decide) (by unfold zqi; decide) (fun j hj => by have h1 : 0 ≤ (zqS1 nn ch L) 10 j ∧ (zqS1 nn ch L) 10 j < 268435399 := (zqRd_b hj : 0 ≤ (zqRd nn 2 13 10 (zlu (zlu (zlu L 13 (zif nn (zrT ch) (L 13))) 16 (zif nn (zrE (zlcN ch nn)) (L 16))) 17 (zif nn (zrE (zlcN (zlcN ch nn) nn)) (L 17)))) 10 j ∧ (zqRd nn 2 13 10 (zlu (zlu (zlu L 13 (zif nn (zrT ch) (L 13))) 16 (zif nn (zrE (zlcN ch nn)) (L 16))) 17 (zif nn (zrE (zlcN (zlcN ch nn) nn)) (L 17)))) 10 j < 268435399); have h2 : -3 ≤ (zqS1 nn ch L) 16 j ∧ (zqS1 nn ch L) 16 j ≤ 3 := (by show -3 ≤ zif nn (zrE (zlcN ch nn)) (L 16) j ∧ zif nn (zrE (zlcN ch nn)) (L 16) j ≤ 3; rw [zif_l (by omega)]; exact zrE_b _ _); have h3 := zdt_b (t := t) (by omega) (hPl (32 * (p : Int) + j) (by omega) (by omega)); show -9223372036854775808 ≤ zif nn (zqSf p t (zqS1 nn ch L)) ((zqS1 nn ch L) 10) j ∧ zif nn (zqSf p t (zqS1 nn ch L)) ((zqS1 nn ch L) 10) j < 9223372036854775808; rw [zif_l (by omega)]; show -9223372036854775808 ≤ (zqS1 nn ch L) 10 j + ((zqS1 nn ch L) 16 j + 268435399 / t * L 7 (32 * (p : Int) + j)) ∧ (zqS1 nn ch L) 10 j + ((zqS1 nn ch L) 16 j + 268435399 / t * L 7 (32 * (p : Int) + j)) < 9223372036854775808; exact ⟨by omega, by omega⟩)) ⟨co_Ref_put, by decide +kernel, Nat.le_of_ble_eq_true rfl⟩ ⟨Nat.le_of_ble_eq_true rfl, Nat.le_of_ble_eq_true rfl, Nat.le_of_ble_eq_true rfl, Nat.le_of_ble_eq_true rfl⟩ (Nat.le_of_ble_eq_true rfl) (fun r_182 w_182 s_182 q_182 => ?_) (fun _ _ _ q => False.elim q)
  obtain ⟨rfl, rfl, rfl⟩ := q_182
  refine V_aload_n d_Ref_seal_185 rfl ?_
  refine V_iload_n d_Ref_seal_186 rfl ?_
  refine V_iconst d_Ref_seal_187 ?_
  refine V_aload_n d_Ref_seal_188 rfl ?_
  refine V_getf d_Ref_seal_189 ff_Ref_48 zqs_o rfl ?_
  refine V_callV (n := 3) d_Ref_seal_192 g_Ref_152 rfl zqs_o rfl (r_put G _ C 0 kd nn t tu (zlcN (zlcN (zlcN ch nn) nn) nn) ke (zqPu nn c 0 10 (zlu (zq2 nn nn 10 11 (zqSf p t (zqS1 nn ch L)) (zqSg (zqS1 nn ch L)) (zqS1 nn ch L)) 8 (zu ((zq2 nn nn 10 11 (zqSf p t (zqS1 nn ch L)) (zqSg (zqS1 nn ch L)) (zqS1 nn ch L)) 8) c 2))) w0 nn rfl hn c 1 11 hc (by decide) (by unfold zqi; decide) (fun j hj => by have h1 : 0 ≤ (zqS1 nn ch L) 11 j ∧ (zqS1 nn ch L) 11 j < 268435399 := zqRd_b hj; have h2 : -3 ≤ (zqS1 nn ch L) 17 j ∧ (zqS1 nn ch L) 17 j ≤ 3 := (by show -3 ≤ zif nn (zrE (zlcN (zlcN ch nn) nn)) (L 17) j ∧ zif nn (zrE (zlcN (zlcN ch nn) nn)) (L 17) j ≤ 3; rw [zif_l (by omega)]; exact zrE_b _ _); show -9223372036854775808 ≤ zif nn (zqSg (zqS1 nn ch L)) ((zqS1 nn ch L) 11) j ∧ zif nn (zqSg (zqS1 nn ch L)) ((zqS1 nn ch L) 11) j < 9223372036854775808; rw [zif_l (by omega)]; unfold zqSg; exact ⟨by omega, by omega⟩)) ⟨co_Ref_put, by decide +kernel, Nat.le_of_ble_eq_true rfl⟩ ⟨Nat.le_of_ble_eq_true rfl, Nat.le_of_ble_eq_true rfl, Nat.le_of_ble_eq_true rfl, Nat.le_of_ble_eq_true rfl⟩ (Nat.le_of_ble_eq_true rfl) (fun r_192 w_192 s_192 q_192 => ?_) (fun _ _ _ q => False.elim q)
  obtain ⟨rfl, rfl, rfl⟩ := q_192
  refine V_aload_n d_Ref_seal_195 rfl ?_
  refine V_iload_n d_Ref_seal_196 rfl ?_
  refine V_callV (n := 1) d_Ref_seal_197 g_Ref_156 rfl zqs_o rfl (r_budget G _ C 0 kd nn t tu (zlcN (zlcN (zlcN ch nn) nn) nn) ke (zqPu nn c 1 11 (zqPu nn c 0 10 (zlu (zq2 nn nn 10 11 (zqSf p t (zqS1 nn ch L)) (zqSg (zqS1 nn ch L)) (zqS1 nn ch L)) 8 (zu ((zq2 nn nn 10 11 (zqSf p t (zqS1 nn ch L)) (zqSg (zqS1 nn ch L)) (zqS1 nn ch L)) 8) c 2)))) w0 nn rfl hn c hc (show 0 ≤ zu ((zq2 nn nn 10 11 (zqSf p t (zqS1 nn ch L)) (zqSg (zqS1 nn ch L)) (zqS1 nn ch L)) 8) (c : Int) 2 c ∧ zu ((zq2 nn nn 10 11 (zqSf p t (zqS1 nn ch L)) (zqSg (zqS1 nn ch L)) (zqS1 nn ch L)) 8) (c : Int) 2 c ≤ 3 from by rw [zu_s]; decide) (zqPu_b (zqPu_b hPa)) hSa ht) ⟨co_Ref_budget, by decide +kernel, Nat.le_of_ble_eq_true rfl⟩ ⟨Nat.le_of_ble_eq_true rfl, Nat.le_of_ble_eq_true rfl, Nat.le_of_ble_eq_true rfl, Nat.le_of_ble_eq_true rfl⟩ (Nat.le_of_ble_eq_true rfl) (fun r_197 w_197 s_197 q_197 => ?_) (fun _ _ _ q => False.elim q)
  obtain ⟨rfl, rfl, rfl⟩ := q_197
  exact V_ireturn d_Ref_seal_200 rfl ⟨Nat.le_of_ble_eq_true rfl, Nat.le_of_ble_eq_true rfl⟩ ⟨rfl, rfl, rfl⟩

set_option maxRecDepth 100000 in
set_option maxHeartbeats 4000000 in
theorem r_open_p (G : zG) (sz C : Nat) (th kd n t tu : Int) (ch : Int32) (ke : Int) (L : Nat → Int → Int) (w0 : zW) (p : Int) (hp : -2147483648 ≤ p ∧ p < 2147483648) (hb : p < 0 ∨ 7 < p) (c : Int) : zCt G M_Ref_open (zR 5 0 0 125) [.ref C, .int (Int32.ofInt p), .int (Int32.ofInt c)] sz (zqs G C th kd n t tu ch ke L w0) (zdet (some (.int (Int32.ofInt 0))) (zqs G C 1 kd n t tu ch ke L w0) sz) := by
  refine V_aload_n d_Ref_open_0 rfl ?_
  refine V_iload_n d_Ref_open_1 rfl ?_
  refine V_callS (n := 1) d_Ref_open_2 g_Ref_142 rfl (r_noPlain_y G _ _ p hp hb) ⟨co_Ref_noPlain, by decide +kernel, Nat.le_of_ble_eq_true rfl⟩ ⟨Nat.le_of_ble_eq_true rfl, Nat.le_of_ble_eq_true rfl, Nat.le_of_ble_eq_true rfl, Nat.le_of_ble_eq_true rfl⟩ (Nat.le_of_ble_eq_true rfl) (fun r_2 w_2 s_2 q_2 => ?_) (fun _ _ _ q => False.elim q)
  obtain ⟨rfl, rfl, rfl⟩ := q_2
  refine J_if_ne 16 d_Ref_open_5 (by decide) (by decide) (fun c_5 => ?_) (fun c_5 => absurd c_5 (by decide))
  refine V_iconst d_Ref_open_16 ?_
  refine V_goto 21 d_Ref_open_17 (by decide) ?_
  refine V_putf d_Ref_open_21 ff_Ref_69 zqs_o ⟨_, _, _, _, rfl, rfl, rfl, rfl, rfl⟩ (Nat.le_of_ble_eq_true rfl) ?_
  refine V_w (zqs_f (th' := 1) rfl) ?_
  refine V_aload_n d_Ref_open_24 rfl ?_
  refine V_getf d_Ref_open_25 ff_Ref_69 zqs_o rfl ?_
  refine J_if_le 33 d_Ref_open_28 (by decide) (by decide) (fun c_28 => absurd c_28 (by decide)) (fun c_28 => ?_)
  refine V_iconst d_Ref_open_31 ?_
  exact V_ireturn d_Ref_open_32 rfl ⟨Nat.le_of_ble_eq_true rfl, Nat.le_of_ble_eq_true rfl⟩ ⟨rfl, rfl, rfl⟩

set_option maxRecDepth 100000 in
set_option maxHeartbeats 4000000 in
theorem r_open_c (G : zG) (sz C : Nat) (th kd n t tu : Int) (ch : Int32) (ke : Int) (L : Nat → Int → Int) (w0 : zW) (p : Nat) (hp : p < 8) (c : Int) (hc : -2147483648 ≤ c ∧ c < 2147483648) (hb : c < 0 ∨ 15 < c) : zCt G M_Ref_open (zR 5 0 0 125) [.ref C, .int (Int32.ofInt (p : Int)), .int (Int32.ofInt c)] sz (zqs G C th kd n t tu ch ke L w0) (zdet (some (.int (Int32.ofInt 0))) (zqs G C 1 kd n t tu ch ke L w0) sz) := by
  refine V_aload_n d_Ref_open_0 rfl ?_
  refine V_iload_n d_Ref_open_1 rfl ?_
  refine V_callS (n := 1) d_Ref_open_2 g_Ref_142 rfl (r_noPlain_n G _ _ p (by omega)) ⟨co_Ref_noPlain, by decide +kernel, Nat.le_of_ble_eq_true rfl⟩ ⟨Nat.le_of_ble_eq_true rfl, Nat.le_of_ble_eq_true rfl, Nat.le_of_ble_eq_true rfl, Nat.le_of_ble_eq_true rfl⟩ (Nat.le_of_ble_eq_true rfl) (fun r_2 w_2 s_2 q_2 => ?_) (fun _ _ _ q => False.elim q)
  obtain ⟨rfl, rfl, rfl⟩ := q_2
  refine J_if_ne 16 d_Ref_open_5 (by decide) (by decide) (fun c_5 => absurd rfl c_5) (fun c_5 => ?_)
  refine V_aload_n d_Ref_open_8 rfl ?_
  refine V_iload_n d_Ref_open_9 rfl ?_
  refine V_callV (n := 1) d_Ref_open_10 g_Ref_180 rfl zqs_o rfl (r_emptyI_y G _ C th kd n t tu ch ke L w0 c hc hb) ⟨co_Ref_empty_I, by decide +kernel, Nat.le_of_ble_eq_true rfl⟩ ⟨Nat.le_of_ble_eq_true rfl, Nat.le_of_ble_eq_true rfl, Nat.le_of_ble_eq_true rfl, Nat.le_of_ble_eq_true rfl⟩ (Nat.le_of_ble_eq_true rfl) (fun r_10 w_10 s_10 q_10 => ?_) (fun _ _ _ q => False.elim q)
  obtain ⟨rfl, rfl, rfl⟩ := q_10
  refine J_if_eq 20 d_Ref_open_13 (by decide) (by decide) (fun c_13 => absurd c_13 (by decide)) (fun c_13 => ?_)
  refine V_iconst d_Ref_open_16 ?_
  refine V_goto 21 d_Ref_open_17 (by decide) ?_
  refine V_putf d_Ref_open_21 ff_Ref_69 zqs_o ⟨_, _, _, _, rfl, rfl, rfl, rfl, rfl⟩ (Nat.le_of_ble_eq_true rfl) ?_
  refine V_w (zqs_f (th' := 1) rfl) ?_
  refine V_aload_n d_Ref_open_24 rfl ?_
  refine V_getf d_Ref_open_25 ff_Ref_69 zqs_o rfl ?_
  refine J_if_le 33 d_Ref_open_28 (by decide) (by decide) (fun c_28 => absurd c_28 (by decide)) (fun c_28 => ?_)
  refine V_iconst d_Ref_open_31 ?_
  exact V_ireturn d_Ref_open_32 rfl ⟨Nat.le_of_ble_eq_true rfl, Nat.le_of_ble_eq_true rfl⟩ ⟨rfl, rfl, rfl⟩

set_option maxRecDepth 100000 in
set_option maxHeartbeats 4000000 in
theorem r_open_e (G : zG) (sz C : Nat) (th kd n t tu : Int) (ch : Int32) (ke : Int) (L : Nat → Int → Int) (w0 : zW) (p : Nat) (hp : p < 8) (c : Nat) (hc : c < 16) (he : L 8 c = 0) : zCt G M_Ref_open (zR 5 0 0 125) [.ref C, .int (Int32.ofInt (p : Int)), .int (Int32.ofInt (c : Int))] sz (zqs G C th kd n t tu ch ke L w0) (zdet (some (.int (Int32.ofInt 0))) (zqs G C 1 kd n t tu ch ke L w0) sz) := by
  refine V_aload_n d_Ref_open_0 rfl ?_
  refine V_iload_n d_Ref_open_1 rfl ?_
  refine V_callS (n := 1) d_Ref_open_2 g_Ref_142 rfl (r_noPlain_n G _ _ p (by omega)) ⟨co_Ref_noPlain, by decide +kernel, Nat.le_of_ble_eq_true rfl⟩ ⟨Nat.le_of_ble_eq_true rfl, Nat.le_of_ble_eq_true rfl, Nat.le_of_ble_eq_true rfl, Nat.le_of_ble_eq_true rfl⟩ (Nat.le_of_ble_eq_true rfl) (fun r_2 w_2 s_2 q_2 => ?_) (fun _ _ _ q => False.elim q)
  obtain ⟨rfl, rfl, rfl⟩ := q_2
  refine J_if_ne 16 d_Ref_open_5 (by decide) (by decide) (fun c_5 => absurd rfl c_5) (fun c_5 => ?_)
  refine V_aload_n d_Ref_open_8 rfl ?_
  refine V_iload_n d_Ref_open_9 rfl ?_
  refine V_callV (n := 1) d_Ref_open_10 g_Ref_180 rfl zqs_o rfl (r_emptyI_e G _ C th kd n t tu ch ke L w0 c (by omega) he) ⟨co_Ref_empty_I, by decide +kernel, Nat.le_of_ble_eq_true rfl⟩ ⟨Nat.le_of_ble_eq_true rfl, Nat.le_of_ble_eq_true rfl, Nat.le_of_ble_eq_true rfl, Nat.le_of_ble_eq_true rfl⟩ (Nat.le_of_ble_eq_true rfl) (fun r_10 w_10 s_10 q_10 => ?_) (fun _ _ _ q => False.elim q)
  obtain ⟨rfl, rfl, rfl⟩ := q_10
  refine J_if_eq 20 d_Ref_open_13 (by decide) (by decide) (fun c_13 => absurd c_13 (by decide)) (fun c_13 => ?_)
  refine V_iconst d_Ref_open_16 ?_
  refine V_goto 21 d_Ref_open_17 (by decide) ?_
  refine V_putf d_Ref_open_21 ff_Ref_69 zqs_o ⟨_, _, _, _, rfl, rfl, rfl, rfl, rfl⟩ (Nat.le_of_ble_eq_true rfl) ?_
  refine V_w (zqs_f (th' := 1) rfl) ?_
  refine V_aload_n d_Ref_open_24 rfl ?_
  refine V_getf d_Ref_open_25 ff_Ref_69 zqs_o rfl ?_
  refine J_if_le 33 d_Ref_open_28 (by decide) (by decide) (fun c_28 => absurd c_28 (by decide)) (fun c_28 => ?_)
  refine V_iconst d_Ref_open_31 ?_
  exact V_ireturn d_Ref_open_32 rfl ⟨Nat.le_of_ble_eq_true rfl, Nat.le_of_ble_eq_true rfl⟩ ⟨rfl, rfl, rfl⟩

set_option maxRecDepth 100000 in
set_option maxHeartbeats 4000000 in
theorem r_open (G : zG) (sz C : Nat) (th kd n t tu : Int) (ch : Int32) (ke : Int) (L : Nat → Int → Int) (w0 : zW) (nn : Nat) (hnn : n = (nn : Int)) (hn : nn ≤ 32) (p : Nat) (hp : p < 8) (c : Nat) (hc : c < 16) (hfc : 0 < L 8 c ∧ L 8 c ≤ 3) (ht : 0 < t ∧ t ≤ 1000) (hPa : ∀ j : Int, 0 ≤ j → j < 1536 → 0 ≤ L 9 j ∧ L 9 j < 268435399) (hSa : ∀ j : Int, 0 ≤ j → j < 32 → -1 ≤ L 1 j ∧ L 1 j ≤ 1) : zCt G M_Ref_open (zR 5 0 0 125) [.ref C, .int (Int32.ofInt (p : Int)), .int (Int32.ofInt (c : Int))] sz (zqs G C th kd n t tu ch ke L w0) (zdet (some (.int (Int32.ofInt ((zBu (zNz t ((zqPh nn c L) 12) nn) 27 : Nat) : Int)))) (zqs G C 0 kd n t tu ch ke (zqOp nn c p t L) w0) sz) := by
  subst hnn
  refine V_aload_n d_Ref_open_0 rfl ?_
  refine V_iload_n d_Ref_open_1 rfl ?_
  refine V_callS (n := 1) d_Ref_open_2 g_Ref_142 rfl (r_noPlain_n G _ _ p (by omega)) ⟨co_Ref_noPlain, by decide +kernel, Nat.le_of_ble_eq_true rfl⟩ ⟨Nat.le_of_ble_eq_true rfl, Nat.le_of_ble_eq_true rfl, Nat.le_of_ble_eq_true rfl, Nat.le_of_ble_eq_true rfl⟩ (Nat.le_of_ble_eq_true rfl) (fun r_2 w_2 s_2 q_2 => ?_) (fun _ _ _ q => False.elim q)
  obtain ⟨rfl, rfl, rfl⟩ := q_2
  refine J_if_ne 16 d_Ref_open_5 (by decide) (by decide) (fun c_5 => absurd rfl c_5) (fun c_5 => ?_)
  refine V_aload_n d_Ref_open_8 rfl ?_
  refine V_iload_n d_Ref_open_9 rfl ?_
  refine V_callV (n := 1) d_Ref_open_10 g_Ref_180 rfl zqs_o rfl (r_emptyI_n G _ C th kd nn t tu ch ke L w0 c (by omega) hfc) ⟨co_Ref_empty_I, by decide +kernel, Nat.le_of_ble_eq_true rfl⟩ ⟨Nat.le_of_ble_eq_true rfl, Nat.le_of_ble_eq_true rfl, Nat.le_of_ble_eq_true rfl, Nat.le_of_ble_eq_true rfl⟩ (Nat.le_of_ble_eq_true rfl) (fun r_10 w_10 s_10 q_10 => ?_) (fun _ _ _ q => False.elim q)
  obtain ⟨rfl, rfl, rfl⟩ := q_10
  refine J_if_eq 20 d_Ref_open_13 (by decide) (by decide) (fun c_13 => ?_) (fun c_13 => absurd rfl c_13)
  refine V_iconst d_Ref_open_20 ?_
  refine V_putf d_Ref_open_21 ff_Ref_69 zqs_o ⟨_, _, _, _, rfl, rfl, rfl, rfl, rfl⟩ (Nat.le_of_ble_eq_true rfl) ?_
  refine V_w (zqs_f (th' := 0) rfl) ?_
  refine V_aload_n d_Ref_open_24 rfl ?_
  refine V_getf d_Ref_open_25 ff_Ref_69 zqs_o rfl ?_
  refine J_if_le 33 d_Ref_open_28 (by decide) (by decide) (fun c_28 => ?_) (fun c_28 => absurd c_28 (by decide))
  refine V_aload_n d_Ref_open_33 rfl ?_
  refine V_iload_n d_Ref_open_34 rfl ?_
  refine V_callV (n := 1) d_Ref_open_35 g_Ref_156 rfl zqs_o rfl (r_budget G _ C 0 kd nn t tu ch ke L w0 nn rfl hn c hc (by omega) hPa hSa ht) ⟨co_Ref_budget, by decide +kernel, Nat.le_of_ble_eq_true rfl⟩ ⟨Nat.le_of_ble_eq_true rfl, Nat.le_of_ble_eq_true rfl, Nat.le_of_ble_eq_true rfl, Nat.le_of_ble_eq_true rfl⟩ (Nat.le_of_ble_eq_true rfl) (fun r_35 w_35 s_35 q_35 => ?_) (fun _ _ _ q => False.elim q)
  obtain ⟨rfl, rfl, rfl⟩ := q_35
  refine V_istore_n d_Ref_open_38 (by decide) ?_
  refine V_aload_n d_Ref_open_39 rfl ?_
  refine V_iload_n d_Ref_open_40 rfl ?_
  refine V_callV (n := 1) d_Ref_open_41 g_Ref_165 rfl zqs_o rfl (r_phase G _ C 0 kd nn t tu ch ke (zqPh nn c L) w0 nn rfl hn c hc (show 0 ≤ L 8 c ∧ L 8 c ≤ 3 by omega) hPa hSa) ⟨co_Ref_phase, by decide +kernel, Nat.le_of_ble_eq_true rfl⟩ ⟨Nat.le_of_ble_eq_true rfl, Nat.le_of_ble_eq_true rfl, Nat.le_of_ble_eq_true rfl, Nat.le_of_ble_eq_true rfl⟩ (Nat.le_of_ble_eq_true rfl) (fun r_41 w_41 s_41 q_41 => ?_) (fun _ _ _ q => False.elim q)
  obtain ⟨rfl, rfl, rfl⟩ := q_41
  refine V_iconst d_Ref_open_44 ?_
  refine V_istore d_Ref_open_45 (by decide) ?_
  refine V_w (w' := (zqs G C 0 kd nn t tu ch ke (zlu (zqPh nn c (zqPh nn c L)) 7 (zsf (32 * (p : Int)) ((0 : Nat) : Int) (fun i => zts t ((zqPh nn c (zqPh nn c L)) 12 i) % t) ((zqPh nn c (zqPh nn c L)) 7))) w0)) (by rw [show ((0 : Nat) : Int) = 0 from rfl, zsf_0, zlu_self] <;> rfl) ?_
  have st : ∀ i : Nat, i < nn → (fun i : Nat => V G M_Ref_open (zdet (some (.int (Int32.ofInt ((zBu (zNz t ((zqPh nn c L) 12) nn) 27 : Nat) : Int)))) (zqs G C 0 kd nn t tu ch ke (zqOp nn c p t L) w0) sz) (zR 5 0 0 125) 0 0 sz 47 [(0, .ref C), (1, .int (Int32.ofInt (p : Int))), (2, .int (Int32.ofInt (c : Int))), (3, .int (Int32.ofInt ((zBu (zNz t ((zqPh nn c L) 12) nn) 27 : Nat) : Int))), (4, .int (Int32.ofInt (i : Int)))] [] (zqs G C 0 kd nn t tu ch ke (zlu (zqPh nn c (zqPh nn c L)) 7 (zsf (32 * (p : Int)) (i : Int) (fun i => zts t ((zqPh nn c (zqPh nn c L)) 12 i) % t) ((zqPh nn c (zqPh nn c L)) 7))) w0)) (i + 1) → (fun i : Nat => V G M_Ref_open (zdet (some (.int (Int32.ofInt ((zBu (zNz t ((zqPh nn c L) 12) nn) 27 : Nat) : Int)))) (zqs G C 0 kd nn t tu ch ke (zqOp nn c p t L) w0) sz) (zR 5 0 0 125) 0 0 sz 47 [(0, .ref C), (1, .int (Int32.ofInt (p : Int))), (2, .int (Int32.ofInt (c : Int))), (3, .int (Int32.ofInt ((zBu (zNz t ((zqPh nn c L) 12) nn) 27 : Nat) : Int))), (4, .int (Int32.ofInt (i : Int)))] [] (zqs G C 0 kd nn t tu ch ke (zlu (zqPh nn c (zqPh nn c L)) 7 (zsf (32 * (p : Int)) (i : Int) (fun i => zts t ((zqPh nn c (zqPh nn c L)) 12 i) % t) ((zqPh nn c (zqPh nn c L)) 7))) w0)) i := by
    intro i hi ih
    have hb := zqPh_b (c := c) (L := (zqPh nn c L)) hi
    have hz := zts_b (t := t) ht hb
    have hm := tmod_bounds (a := zts t ((zqPh nn c (zqPh nn c L)) 12 i)) (M := t) (by omega)
    by_cases hs : (zts t ((zqPh nn c (zqPh nn c L)) 12 i)).tmod t < 0
    · skip
      refine V_iload d_Ref_open_47 rfl ?_
      refine V_aload_n d_Ref_open_49 rfl ?_
      refine V_getf d_Ref_open_50 ff_Ref_7 zqs_o rfl ?_
      refine J_icmp_ge 114 d_Ref_open_53 (by decide) (by omega) (by omega) (fun c_53 => absurd c_53 (by omega)) (fun c_53 => ?_)
      refine V_aload_n d_Ref_open_56 rfl ?_
      refine V_aload_n d_Ref_open_57 rfl ?_
      refine V_getf d_Ref_open_58 ff_Ref_51 zqs_o rfl ?_
      refine V_iload d_Ref_open_61 rfl ?_
      refine J_laload d_Ref_open_63 (zqs_r (j := 12) (by unfold zqi; decide)) (by omega) (by decide) ?_
      rw [zlu_n (show 12 ≠ 7 by decide)]
      refine V_callV (n := 1) d_Ref_open_64 g_Ref_182 rfl zqs_o rfl (r_scaled G _ C 0 kd nn t tu ch ke (zlu (zqPh nn c (zqPh nn c L)) 7 (zsf (32 * (p : Int)) (i : Int) (fun i => zts t ((zqPh nn c (zqPh nn c L)) 12 i) % t) ((zqPh nn c (zqPh nn c L)) 7))) w0 ((zqPh nn c (zqPh nn c L)) 12 i) ht (by omega)) ⟨co_Ref_scaled, by decide +kernel, Nat.le_of_ble_eq_true rfl⟩ ⟨Nat.le_of_ble_eq_true rfl, Nat.le_of_ble_eq_true rfl, Nat.le_of_ble_eq_true rfl, Nat.le_of_ble_eq_true rfl⟩ (Nat.le_of_ble_eq_true rfl) (fun r_64 w_64 s_64 q_64 => ?_) (fun _ _ _ q => False.elim q)
      obtain ⟨rfl, rfl, rfl⟩ := q_64
      refine V_aload_n d_Ref_open_67 rfl ?_
      refine V_getf d_Ref_open_68 ff_Ref_13 zqs_o rfl ?_
      refine J_i2l d_Ref_open_71 (by omega) ?_
      refine J_lrem d_Ref_open_72 hz (by omega) ?_
      refine V_lstore d_Ref_open_73 (by decide) ?_
      refine V_aload_n d_Ref_open_75 rfl ?_
      refine V_getf d_Ref_open_76 ff_Ref_36 zqs_o rfl ?_
      refine J_bipush d_Ref_open_79 (by decide) ?_
      refine V_iload_n d_Ref_open_81 rfl ?_
      refine J_imul d_Ref_open_82 ?_
      refine V_iload d_Ref_open_83 rfl ?_
      refine J_iadd d_Ref_open_85 ?_
      refine V_lload d_Ref_open_86 rfl ?_
      refine J_lconst (z := 0) d_Ref_open_88 rfl ?_
      refine JL_ge 104 d_Ref_open_89 d_Ref_open_90 (by decide) (by omega) (by omega) (fun c_89 => absurd c_89 (by omega)) (fun c_89 => ?_)
      refine V_lload d_Ref_open_93 rfl ?_
      refine V_aload_n d_Ref_open_95 rfl ?_
      refine V_getf d_Ref_open_96 ff_Ref_13 zqs_o rfl ?_
      refine J_i2l d_Ref_open_99 (by omega) ?_
      refine J_ladd d_Ref_open_100 ?_
      refine V_goto 106 d_Ref_open_101 (by decide) ?_
      rw [zsm2 (by omega) hs]
      refine J_l2i d_Ref_open_106 ?_
      refine J_iastore d_Ref_open_107 zqs_a7 (by omega) (by decide) ?_
      refine J_iinc d_Ref_open_108 rfl (by decide) ?_
      refine V_goto 47 d_Ref_open_111 (by decide) ?_
      exact V_lo [0, 1, 2, 3, 4] rfl (V_w (by rw [zqs_u7, zlu_s, zsf_s (by omega) rfl, zlu_lu] <;> rfl) ih)
    · skip
      refine V_iload d_Ref_open_47 rfl ?_
      refine V_aload_n d_Ref_open_49 rfl ?_
      refine V_getf d_Ref_open_50 ff_Ref_7 zqs_o rfl ?_
      refine J_icmp_ge 114 d_Ref_open_53 (by decide) (by omega) (by omega) (fun c_53 => absurd c_53 (by omega)) (fun c_53 => ?_)
      refine V_aload_n d_Ref_open_56 rfl ?_
      refine V_aload_n d_Ref_open_57 rfl ?_
      refine V_getf d_Ref_open_58 ff_Ref_51 zqs_o rfl ?_
      refine V_iload d_Ref_open_61 rfl ?_
      refine J_laload d_Ref_open_63 (zqs_r (j := 12) (by unfold zqi; decide)) (by omega) (by decide) ?_
      rw [zlu_n (show 12 ≠ 7 by decide)]
      refine V_callV (n := 1) d_Ref_open_64 g_Ref_182 rfl zqs_o rfl (r_scaled G _ C 0 kd nn t tu ch ke (zlu (zqPh nn c (zqPh nn c L)) 7 (zsf (32 * (p : Int)) (i : Int) (fun i => zts t ((zqPh nn c (zqPh nn c L)) 12 i) % t) ((zqPh nn c (zqPh nn c L)) 7))) w0 ((zqPh nn c (zqPh nn c L)) 12 i) ht (by omega)) ⟨co_Ref_scaled, by decide +kernel, Nat.le_of_ble_eq_true rfl⟩ ⟨Nat.le_of_ble_eq_true rfl, Nat.le_of_ble_eq_true rfl, Nat.le_of_ble_eq_true rfl, Nat.le_of_ble_eq_true rfl⟩ (Nat.le_of_ble_eq_true rfl) (fun r_64 w_64 s_64 q_64 => ?_) (fun _ _ _ q => False.elim q)
      obtain ⟨rfl, rfl, rfl⟩ := q_64
      refine V_aload_n d_Ref_open_67 rfl ?_
      refine V_getf d_Ref_open_68 ff_Ref_13 zqs_o rfl ?_
      refine J_i2l d_Ref_open_71 (by omega) ?_
      refine J_lrem d_Ref_open_72 hz (by omega) ?_
      refine V_lstore d_Ref_open_73 (by decide) ?_
      refine V_aload_n d_Ref_open_75 rfl ?_
      refine V_getf d_Ref_open_76 ff_Ref_36 zqs_o rfl ?_
      refine J_bipush d_Ref_open_79 (by decide) ?_
      refine V_iload_n d_Ref_open_81 rfl ?_
      refine J_imul d_Ref_open_82 ?_
      refine V_iload d_Ref_open_83 rfl ?_
      refine J_iadd d_Ref_open_85 ?_
      refine V_lload d_Ref_open_86 rfl ?_
      refine J_lconst (z := 0) d_Ref_open_88 rfl ?_
      refine JL_ge 104 d_Ref_open_89 d_Ref_open_90 (by decide) (by omega) (by omega) (fun c_89 => ?_) (fun c_89 => absurd c_89 (by omega))
      refine V_lload d_Ref_open_104 rfl ?_
      rw [zsm1 (by omega) (by omega)]
      refine J_l2i d_Ref_open_106 ?_
      refine J_iastore d_Ref_open_107 zqs_a7 (by omega) (by decide) ?_
      refine J_iinc d_Ref_open_108 rfl (by decide) ?_
      refine V_goto 47 d_Ref_open_111 (by decide) ?_
      exact V_lo [0, 1, 2, 3, 4] rfl (V_w (by rw [zqs_u7, zlu_s, zsf_s (by omega) rfl, zlu_lu] <;> rfl) ih)
  refine zfor nn (fun i : Nat => V G M_Ref_open (zdet (some (.int (Int32.ofInt ((zBu (zNz t ((zqPh nn c L) 12) nn) 27 : Nat) : Int)))) (zqs G C 0 kd nn t tu ch ke (zqOp nn c p t L) w0) sz) (zR 5 0 0 125) 0 0 sz 47 [(0, .ref C), (1, .int (Int32.ofInt (p : Int))), (2, .int (Int32.ofInt (c : Int))), (3, .int (Int32.ofInt ((zBu (zNz t ((zqPh nn c L) 12) nn) 27 : Nat) : Int))), (4, .int (Int32.ofInt (i : Int)))] [] (zqs G C 0 kd nn t tu ch ke (zlu (zqPh nn c (zqPh nn c L)) 7 (zsf (32 * (p : Int)) (i : Int) (fun i => zts t ((zqPh nn c (zqPh nn c L)) 12 i) % t) ((zqPh nn c (zqPh nn c L)) 7))) w0)) ?_ st 0 (Nat.zero_le nn)
  refine V_iload d_Ref_open_47 rfl ?_
  refine V_aload_n d_Ref_open_49 rfl ?_
  refine V_getf d_Ref_open_50 ff_Ref_7 zqs_o rfl ?_
  refine J_icmp_ge 114 d_Ref_open_53 (by decide) (by omega) (by omega) (fun c_53 => ?_) (fun c_53 => absurd c_53 (by omega))
  refine V_iload_n d_Ref_open_114 rfl ?_
  exact V_ireturn d_Ref_open_115 rfl ⟨Nat.le_of_ble_eq_true rfl, Nat.le_of_ble_eq_true rfl⟩ ⟨rfl, rfl, rfl⟩

