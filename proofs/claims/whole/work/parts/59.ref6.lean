def zqK (nn : Nat) (ch : Int32) (L : Nat → Int → Int) : Nat → Int → Int := zlu (zlu (zqRd nn 3 1 14 (zlu (zlu (zlu L 1 (zif nn (zrT ch) (L 1))) 3 (zif nn (zrU (zlcN ch nn)) ((zlu L 1 (zif nn (zrT ch) (L 1))) 3))) 17 (zif nn (zrE (zlcN (zlcN ch nn) (2 * nn))) ((zlu (zlu L 1 (zif nn (zrT ch) (L 1))) 3 (zif nn (zrU (zlcN ch nn)) ((zlu L 1 (zif nn (zrT ch) (L 1))) 3))) 17)))) 2 (zif nn (fun i => -((zqRd nn 3 1 14 (zlu (zlu (zlu L 1 (zif nn (zrT ch) (L 1))) 3 (zif nn (zrU (zlcN ch nn)) ((zlu L 1 (zif nn (zrT ch) (L 1))) 3))) 17 (zif nn (zrE (zlcN (zlcN ch nn) (2 * nn))) ((zlu (zlu L 1 (zif nn (zrT ch) (L 1))) 3 (zif nn (zrU (zlcN ch nn)) ((zlu L 1 (zif nn (zrT ch) (L 1))) 3))) 17)))) 14 i + (zqRd nn 3 1 14 (zlu (zlu (zlu L 1 (zif nn (zrT ch) (L 1))) 3 (zif nn (zrU (zlcN ch nn)) ((zlu L 1 (zif nn (zrT ch) (L 1))) 3))) 17 (zif nn (zrE (zlcN (zlcN ch nn) (2 * nn))) ((zlu (zlu L 1 (zif nn (zrT ch) (L 1))) 3 (zif nn (zrU (zlcN ch nn)) ((zlu L 1 (zif nn (zrT ch) (L 1))) 3))) 17)))) 17 i) % 268435399) ((zqRd nn 3 1 14 (zlu (zlu (zlu L 1 (zif nn (zrT ch) (L 1))) 3 (zif nn (zrU (zlcN ch nn)) ((zlu L 1 (zif nn (zrT ch) (L 1))) 3))) 17 (zif nn (zrE (zlcN (zlcN ch nn) (2 * nn))) ((zlu (zlu L 1 (zif nn (zrT ch) (L 1))) 3 (zif nn (zrU (zlcN ch nn)) ((zlu L 1 (zif nn (zrT ch) (L 1))) 3))) 17)))) 2))) 13 (zif nn (fun i => zcp (nn : Int) ((zlu (zqRd nn 3 1 14 (zlu (zlu (zlu L 1 (zif nn (zrT ch) (L 1))) 3 (zif nn (zrU (zlcN ch nn)) ((zlu L 1 (zif nn (zrT ch) (L 1))) 3))) 17 (zif nn (zrE (zlcN (zlcN ch nn) (2 * nn))) ((zlu (zlu L 1 (zif nn (zrT ch) (L 1))) 3 (zif nn (zrU (zlcN ch nn)) ((zlu L 1 (zif nn (zrT ch) (L 1))) 3))) 17)))) 2 (zif nn (fun i => -((zqRd nn 3 1 14 (zlu (zlu (zlu L 1 (zif nn (zrT ch) (L 1))) 3 (zif nn (zrU (zlcN ch nn)) ((zlu L 1 (zif nn (zrT ch) (L 1))) 3))) 17 (zif nn (zrE (zlcN (zlcN ch nn) (2 * nn))) ((zlu (zlu L 1 (zif nn (zrT ch) (L 1))) 3 (zif nn (zrU (zlcN ch nn)) ((zlu L 1 (zif nn (zrT ch) (L 1))) 3))) 17)))) 14 i + (zqRd nn 3 1 14 (zlu (zlu (zlu L 1 (zif nn (zrT ch) (L 1))) 3 (zif nn (zrU (zlcN ch nn)) ((zlu L 1 (zif nn (zrT ch) (L 1))) 3))) 17 (zif nn (zrE (zlcN (zlcN ch nn) (2 * nn))) ((zlu (zlu L 1 (zif nn (zrT ch) (L 1))) 3 (zif nn (zrU (zlcN ch nn)) ((zlu L 1 (zif nn (zrT ch) (L 1))) 3))) 17)))) 17 i) % 268435399) ((zqRd nn 3 1 14 (zlu (zlu (zlu L 1 (zif nn (zrT ch) (L 1))) 3 (zif nn (zrU (zlcN ch nn)) ((zlu L 1 (zif nn (zrT ch) (L 1))) 3))) 17 (zif nn (zrE (zlcN (zlcN ch nn) (2 * nn))) ((zlu (zlu L 1 (zif nn (zrT ch) (L 1))) 3 (zif nn (zrU (zlcN ch nn)) ((zlu L 1 (zif nn (zrT ch) (L 1))) 3))) 17)))) 2))) 1) ((zlu (zqRd nn 3 1 14 (zlu (zlu (zlu L 1 (zif nn (zrT ch) (L 1))) 3 (zif nn (zrU (zlcN ch nn)) ((zlu L 1 (zif nn (zrT ch) (L 1))) 3))) 17 (zif nn (zrE (zlcN (zlcN ch nn) (2 * nn))) ((zlu (zlu L 1 (zif nn (zrT ch) (L 1))) 3 (zif nn (zrU (zlcN ch nn)) ((zlu L 1 (zif nn (zrT ch) (L 1))) 3))) 17)))) 2 (zif nn (fun i => -((zqRd nn 3 1 14 (zlu (zlu (zlu L 1 (zif nn (zrT ch) (L 1))) 3 (zif nn (zrU (zlcN ch nn)) ((zlu L 1 (zif nn (zrT ch) (L 1))) 3))) 17 (zif nn (zrE (zlcN (zlcN ch nn) (2 * nn))) ((zlu (zlu L 1 (zif nn (zrT ch) (L 1))) 3 (zif nn (zrU (zlcN ch nn)) ((zlu L 1 (zif nn (zrT ch) (L 1))) 3))) 17)))) 14 i + (zqRd nn 3 1 14 (zlu (zlu (zlu L 1 (zif nn (zrT ch) (L 1))) 3 (zif nn (zrU (zlcN ch nn)) ((zlu L 1 (zif nn (zrT ch) (L 1))) 3))) 17 (zif nn (zrE (zlcN (zlcN ch nn) (2 * nn))) ((zlu (zlu L 1 (zif nn (zrT ch) (L 1))) 3 (zif nn (zrU (zlcN ch nn)) ((zlu L 1 (zif nn (zrT ch) (L 1))) 3))) 17)))) 17 i) % 268435399) ((zqRd nn 3 1 14 (zlu (zlu (zlu L 1 (zif nn (zrT ch) (L 1))) 3 (zif nn (zrU (zlcN ch nn)) ((zlu L 1 (zif nn (zrT ch) (L 1))) 3))) 17 (zif nn (zrE (zlcN (zlcN ch nn) (2 * nn))) ((zlu (zlu L 1 (zif nn (zrT ch) (L 1))) 3 (zif nn (zrU (zlcN ch nn)) ((zlu L 1 (zif nn (zrT ch) (L 1))) 3))) 17)))) 2))) 1) i nn) ((zlu (zqRd nn 3 1 14 (zlu (zlu (zlu L 1 (zif nn (zrT ch) (L 1))) 3 (zif nn (zrU (zlcN ch nn)) ((zlu L 1 (zif nn (zrT ch) (L 1))) 3))) 17 (zif nn (zrE (zlcN (zlcN ch nn) (2 * nn))) ((zlu (zlu L 1 (zif nn (zrT ch) (L 1))) 3 (zif nn (zrU (zlcN ch nn)) ((zlu L 1 (zif nn (zrT ch) (L 1))) 3))) 17)))) 2 (zif nn (fun i => -((zqRd nn 3 1 14 (zlu (zlu (zlu L 1 (zif nn (zrT ch) (L 1))) 3 (zif nn (zrU (zlcN ch nn)) ((zlu L 1 (zif nn (zrT ch) (L 1))) 3))) 17 (zif nn (zrE (zlcN (zlcN ch nn) (2 * nn))) ((zlu (zlu L 1 (zif nn (zrT ch) (L 1))) 3 (zif nn (zrU (zlcN ch nn)) ((zlu L 1 (zif nn (zrT ch) (L 1))) 3))) 17)))) 14 i + (zqRd nn 3 1 14 (zlu (zlu (zlu L 1 (zif nn (zrT ch) (L 1))) 3 (zif nn (zrU (zlcN ch nn)) ((zlu L 1 (zif nn (zrT ch) (L 1))) 3))) 17 (zif nn (zrE (zlcN (zlcN ch nn) (2 * nn))) ((zlu (zlu L 1 (zif nn (zrT ch) (L 1))) 3 (zif nn (zrU (zlcN ch nn)) ((zlu L 1 (zif nn (zrT ch) (L 1))) 3))) 17)))) 17 i) % 268435399) ((zqRd nn 3 1 14 (zlu (zlu (zlu L 1 (zif nn (zrT ch) (L 1))) 3 (zif nn (zrU (zlcN ch nn)) ((zlu L 1 (zif nn (zrT ch) (L 1))) 3))) 17 (zif nn (zrE (zlcN (zlcN ch nn) (2 * nn))) ((zlu (zlu L 1 (zif nn (zrT ch) (L 1))) 3 (zif nn (zrU (zlcN ch nn)) ((zlu L 1 (zif nn (zrT ch) (L 1))) 3))) 17)))) 2))) 13))
def zqKy (nn : Nat) (ch : Int32) (L : Nat → Int → Int) : Nat → Int → Int := (fun X => zlu X 8 (zif 16 (fun _ => 0) (X 8))) (zqP nn (zMkc nn (zlcN ch nn)) 0 (zqK nn ch L) 6)

set_option maxRecDepth 100000 in
set_option maxHeartbeats 4000000 in
theorem r_keys (G : zG) (sz C : Nat) (th kd n t tu : Int) (ch : Int32) (ke : Int) (L : Nat → Int → Int) (w0 : zW) (nn : Nat) (hnn : n = (nn : Int)) (hn : nn ≤ 32) (hSa : ∀ j : Int, 0 ≤ j → j < 32 → -1 ≤ L 1 j ∧ L 1 j ≤ 1) : zCt G M_Ref_keys (zR 3 0 0 78) [.ref C] sz (zqs G C th kd n t tu ch ke L w0) (zdet (some (.int (Int32.ofInt n))) (zqs G C 0 kd n t 0 (zSwc nn (zMkc nn (zlcN ch nn)) 6) 1 (zqKy nn ch L) w0) sz) := by
  subst hnn
  have hs1 : ∀ j : Int, 0 ≤ j → j < nn → -1 ≤ (zlu L 1 (zif nn (zrT ch) (L 1))) 1 j ∧ (zlu L 1 (zif nn (zrT ch) (L 1))) 1 j ≤ 1 := fun j h1 h2 => by show -1 ≤ zif nn (zrT ch) (L 1) j ∧ zif nn (zrT ch) (L 1) j ≤ 1; rw [zif_l ⟨h1, h2⟩]; exact zrT_b _ _
  have hs2 : ∀ j : Int, 0 ≤ j → j < 32 → -1 ≤ (zlu L 1 (zif nn (zrT ch) (L 1))) 1 j ∧ (zlu L 1 (zif nn (zrT ch) (L 1))) 1 j ≤ 1 := fun j h1 h2 => by by_cases h3 : j < nn; exact hs1 j h1 h3; show -1 ≤ zif nn (zrT ch) (L 1) j ∧ zif nn (zrT ch) (L 1) j ≤ 1; rw [zif_r (by omega)]; exact hSa j h1 h2
  refine V_aload_n d_Ref_keys_0 rfl ?_
  refine V_iconst d_Ref_keys_1 ?_
  refine V_putf d_Ref_keys_2 ff_Ref_69 zqs_o ⟨_, _, _, _, rfl, rfl, rfl, rfl, rfl⟩ (Nat.le_of_ble_eq_true rfl) ?_
  refine V_w (zqs_f (th' := 0) rfl) ?_
  refine V_aload_n d_Ref_keys_5 rfl ?_
  refine V_aload_n d_Ref_keys_6 rfl ?_
  refine V_getf d_Ref_keys_7 ff_Ref_16 zqs_o rfl ?_
  refine V_callV (n := 1) d_Ref_keys_10 g_Ref_117 rfl zqs_o rfl (r_ternary G _ C 0 kd nn t tu ch ke L w0 nn rfl hn 1 (by unfold zqi; decide)) ⟨co_Ref_ternary, by decide +kernel, Nat.le_of_ble_eq_true rfl⟩ ⟨Nat.le_of_ble_eq_true rfl, Nat.le_of_ble_eq_true rfl, Nat.le_of_ble_eq_true rfl, Nat.le_of_ble_eq_true rfl⟩ (Nat.le_of_ble_eq_true rfl) (fun r_10 w_10 s_10 q_10 => ?_) (fun _ _ _ q => False.elim q)
  obtain ⟨rfl, rfl, rfl⟩ := q_10
  refine V_aload_n d_Ref_keys_13 rfl ?_
  refine V_aload_n d_Ref_keys_14 rfl ?_
  refine V_getf d_Ref_keys_15 ff_Ref_23 zqs_o rfl ?_
  refine V_callV (n := 1) d_Ref_keys_18 g_Ref_91 rfl zqs_o rfl (r_uniform G _ C 0 kd nn t tu (zlcN ch nn) ke (zlu L 1 (zif nn (zrT ch) (L 1))) w0 nn rfl hn 3 (by unfold zqi; decide)) ⟨co_Ref_uniform, by decide +kernel, Nat.le_of_ble_eq_true rfl⟩ ⟨Nat.le_of_ble_eq_true rfl, Nat.le_of_ble_eq_true rfl, Nat.le_of_ble_eq_true rfl, Nat.le_of_ble_eq_true rfl⟩ (Nat.le_of_ble_eq_true rfl) (fun r_18 w_18 s_18 q_18 => ?_) (fun _ _ _ q => False.elim q)
  obtain ⟨rfl, rfl, rfl⟩ := q_18
  refine V_aload_n d_Ref_keys_21 rfl ?_
  refine V_aload_n d_Ref_keys_22 rfl ?_
  refine V_getf d_Ref_keys_23 ff_Ref_66 zqs_o rfl ?_
  refine V_callV (n := 1) d_Ref_keys_26 g_Ref_95 rfl zqs_o rfl (r_error G _ C 0 kd nn t tu (zlcN (zlcN ch nn) (2 * nn)) ke (zlu (zlu L 1 (zif nn (zrT ch) (L 1))) 3 (zif nn (zrU (zlcN ch nn)) ((zlu L 1 (zif nn (zrT ch) (L 1))) 3))) w0 nn rfl hn 17 (by unfold zqi; decide)) ⟨co_Ref_error, by decide +kernel, Nat.le_of_ble_eq_true rfl⟩ ⟨Nat.le_of_ble_eq_true rfl, Nat.le_of_ble_eq_true rfl, Nat.le_of_ble_eq_true rfl, Nat.le_of_ble_eq_true rfl⟩ (Nat.le_of_ble_eq_true rfl) (fun r_26 w_26 s_26 q_26 => ?_) (fun _ _ _ q => False.elim q)
  obtain ⟨rfl, rfl, rfl⟩ := q_26
  refine V_aload_n d_Ref_keys_29 rfl ?_
  refine V_aload_n d_Ref_keys_30 rfl ?_
  refine V_getf d_Ref_keys_31 ff_Ref_23 zqs_o rfl ?_
  refine V_aload_n d_Ref_keys_34 rfl ?_
  refine V_getf d_Ref_keys_35 ff_Ref_16 zqs_o rfl ?_
  refine V_aload_n d_Ref_keys_38 rfl ?_
  refine V_getf d_Ref_keys_39 ff_Ref_57 zqs_o rfl ?_
  refine V_callV (n := 3) d_Ref_keys_42 g_Ref_98 rfl zqs_o rfl (r_reduced G _ C 0 kd nn t tu (zMkc nn (zlcN ch nn)) ke (zlu (zlu (zlu L 1 (zif nn (zrT ch) (L 1))) 3 (zif nn (zrU (zlcN ch nn)) ((zlu L 1 (zif nn (zrT ch) (L 1))) 3))) 17 (zif nn (zrE (zlcN (zlcN ch nn) (2 * nn))) ((zlu (zlu L 1 (zif nn (zrT ch) (L 1))) 3 (zif nn (zrU (zlcN ch nn)) ((zlu L 1 (zif nn (zrT ch) (L 1))) 3))) 17))) w0 nn rfl hn 3 1 14 (by unfold zqi; decide) (by unfold zqi; decide) (by unfold zqi; decide) (by decide) (by decide) (fun j hj => by have h0 := zrU_b (zlcN ch nn) j; show -9223372036854775808 ≤ zif nn (zrU (zlcN ch nn)) ((zlu L 1 (zif nn (zrT ch) (L 1))) 3) j ∧ zif nn (zrU (zlcN ch nn)) ((zlu L 1 (zif nn (zrT ch) (L 1))) 3) j < 9223372036854775808; rw [zif_l (by omega)]; exact ⟨by omega, by omega⟩) (fun j h1 h2 => by have h := hs1 j h1 h2; show -9223372036854775808 ≤ (zlu L 1 (zif nn (zrT ch) (L 1))) 1 j ∧ (zlu L 1 (zif nn (zrT ch) (L 1))) 1 j < 9223372036854775808; exact ⟨by omega, by omega⟩)) ⟨co_Ref_reduced, by decide +kernel, Nat.le_of_ble_eq_true rfl⟩ ⟨Nat.le_of_ble_eq_true rfl, Nat.le_of_ble_eq_true rfl, Nat.le_of_ble_eq_true rfl, Nat.le_of_ble_eq_true rfl⟩ (Nat.le_of_ble_eq_true rfl) (fun r_42 w_42 s_42 q_42 => ?_) (fun _ _ _ q => False.elim q)
  obtain ⟨rfl, rfl, rfl⟩ := q_42
  refine V_iconst d_Ref_keys_45 ?_
  refine V_istore_n d_Ref_keys_46 (by decide) ?_
  refine V_w (w' := (zqs G C 0 kd nn t tu (zMkc nn (zlcN ch nn)) ke (zlu (zqRd nn 3 1 14 (zlu (zlu (zlu L 1 (zif nn (zrT ch) (L 1))) 3 (zif nn (zrU (zlcN ch nn)) ((zlu L 1 (zif nn (zrT ch) (L 1))) 3))) 17 (zif nn (zrE (zlcN (zlcN ch nn) (2 * nn))) ((zlu (zlu L 1 (zif nn (zrT ch) (L 1))) 3 (zif nn (zrU (zlcN ch nn)) ((zlu L 1 (zif nn (zrT ch) (L 1))) 3))) 17)))) 2 (zif ((0 : Nat) : Int) (fun i => -((zqRd nn 3 1 14 (zlu (zlu (zlu L 1 (zif nn (zrT ch) (L 1))) 3 (zif nn (zrU (zlcN ch nn)) ((zlu L 1 (zif nn (zrT ch) (L 1))) 3))) 17 (zif nn (zrE (zlcN (zlcN ch nn) (2 * nn))) ((zlu (zlu L 1 (zif nn (zrT ch) (L 1))) 3 (zif nn (zrU (zlcN ch nn)) ((zlu L 1 (zif nn (zrT ch) (L 1))) 3))) 17)))) 14 i + (zqRd nn 3 1 14 (zlu (zlu (zlu L 1 (zif nn (zrT ch) (L 1))) 3 (zif nn (zrU (zlcN ch nn)) ((zlu L 1 (zif nn (zrT ch) (L 1))) 3))) 17 (zif nn (zrE (zlcN (zlcN ch nn) (2 * nn))) ((zlu (zlu L 1 (zif nn (zrT ch) (L 1))) 3 (zif nn (zrU (zlcN ch nn)) ((zlu L 1 (zif nn (zrT ch) (L 1))) 3))) 17)))) 17 i) % 268435399) ((zqRd nn 3 1 14 (zlu (zlu (zlu L 1 (zif nn (zrT ch) (L 1))) 3 (zif nn (zrU (zlcN ch nn)) ((zlu L 1 (zif nn (zrT ch) (L 1))) 3))) 17 (zif nn (zrE (zlcN (zlcN ch nn) (2 * nn))) ((zlu (zlu L 1 (zif nn (zrT ch) (L 1))) 3 (zif nn (zrU (zlcN ch nn)) ((zlu L 1 (zif nn (zrT ch) (L 1))) 3))) 17)))) 2))) w0)) (by rw [show ((0 : Nat) : Int) = 0 from rfl, zif_0, zlu_self] <;> rfl) ?_
  have st_47 : ∀ i : Nat, i < nn → (fun i : Nat => V G M_Ref_keys (zdet (some (.int (Int32.ofInt (nn : Int)))) (zqs G C 0 kd nn t 0 (zSwc nn (zMkc nn (zlcN ch nn)) 6) 1 (zqKy nn ch L) w0) sz) (zR 3 0 0 78) 0 0 sz 47 [(0, .ref C), (1, .int (Int32.ofInt (i : Int)))] [] (zqs G C 0 kd nn t tu (zMkc nn (zlcN ch nn)) ke (zlu (zqRd nn 3 1 14 (zlu (zlu (zlu L 1 (zif nn (zrT ch) (L 1))) 3 (zif nn (zrU (zlcN ch nn)) ((zlu L 1 (zif nn (zrT ch) (L 1))) 3))) 17 (zif nn (zrE (zlcN (zlcN ch nn) (2 * nn))) ((zlu (zlu L 1 (zif nn (zrT ch) (L 1))) 3 (zif nn (zrU (zlcN ch nn)) ((zlu L 1 (zif nn (zrT ch) (L 1))) 3))) 17)))) 2 (zif (i : Int) (fun i => -((zqRd nn 3 1 14 (zlu (zlu (zlu L 1 (zif nn (zrT ch) (L 1))) 3 (zif nn (zrU (zlcN ch nn)) ((zlu L 1 (zif nn (zrT ch) (L 1))) 3))) 17 (zif nn (zrE (zlcN (zlcN ch nn) (2 * nn))) ((zlu (zlu L 1 (zif nn (zrT ch) (L 1))) 3 (zif nn (zrU (zlcN ch nn)) ((zlu L 1 (zif nn (zrT ch) (L 1))) 3))) 17)))) 14 i + (zqRd nn 3 1 14 (zlu (zlu (zlu L 1 (zif nn (zrT ch) (L 1))) 3 (zif nn (zrU (zlcN ch nn)) ((zlu L 1 (zif nn (zrT ch) (L 1))) 3))) 17 (zif nn (zrE (zlcN (zlcN ch nn) (2 * nn))) ((zlu (zlu L 1 (zif nn (zrT ch) (L 1))) 3 (zif nn (zrU (zlcN ch nn)) ((zlu L 1 (zif nn (zrT ch) (L 1))) 3))) 17)))) 17 i) % 268435399) ((zqRd nn 3 1 14 (zlu (zlu (zlu L 1 (zif nn (zrT ch) (L 1))) 3 (zif nn (zrU (zlcN ch nn)) ((zlu L 1 (zif nn (zrT ch) (L 1))) 3))) 17 (zif nn (zrE (zlcN (zlcN ch nn) (2 * nn))) ((zlu (zlu L 1 (zif nn (zrT ch) (L 1))) 3 (zif nn (zrU (zlcN ch nn)) ((zlu L 1 (zif nn (zrT ch) (L 1))) 3))) 17)))) 2))) w0)) (i + 1) → (fun i : Nat => V G M_Ref_keys (zdet (some (.int (Int32.ofInt (nn : Int)))) (zqs G C 0 kd nn t 0 (zSwc nn (zMkc nn (zlcN ch nn)) 6) 1 (zqKy nn ch L) w0) sz) (zR 3 0 0 78) 0 0 sz 47 [(0, .ref C), (1, .int (Int32.ofInt (i : Int)))] [] (zqs G C 0 kd nn t tu (zMkc nn (zlcN ch nn)) ke (zlu (zqRd nn 3 1 14 (zlu (zlu (zlu L 1 (zif nn (zrT ch) (L 1))) 3 (zif nn (zrU (zlcN ch nn)) ((zlu L 1 (zif nn (zrT ch) (L 1))) 3))) 17 (zif nn (zrE (zlcN (zlcN ch nn) (2 * nn))) ((zlu (zlu L 1 (zif nn (zrT ch) (L 1))) 3 (zif nn (zrU (zlcN ch nn)) ((zlu L 1 (zif nn (zrT ch) (L 1))) 3))) 17)))) 2 (zif (i : Int) (fun i => -((zqRd nn 3 1 14 (zlu (zlu (zlu L 1 (zif nn (zrT ch) (L 1))) 3 (zif nn (zrU (zlcN ch nn)) ((zlu L 1 (zif nn (zrT ch) (L 1))) 3))) 17 (zif nn (zrE (zlcN (zlcN ch nn) (2 * nn))) ((zlu (zlu L 1 (zif nn (zrT ch) (L 1))) 3 (zif nn (zrU (zlcN ch nn)) ((zlu L 1 (zif nn (zrT ch) (L 1))) 3))) 17)))) 14 i + (zqRd nn 3 1 14 (zlu (zlu (zlu L 1 (zif nn (zrT ch) (L 1))) 3 (zif nn (zrU (zlcN ch nn)) ((zlu L 1 (zif nn (zrT ch) (L 1))) 3))) 17 (zif nn (zrE (zlcN (zlcN ch nn) (2 * nn))) ((zlu (zlu L 1 (zif nn (zrT ch) (L 1))) 3 (zif nn (zrU (zlcN ch nn)) ((zlu L 1 (zif nn (zrT ch) (L 1))) 3))) 17)))) 17 i) % 268435399) ((zqRd nn 3 1 14 (zlu (zlu (zlu L 1 (zif nn (zrT ch) (L 1))) 3 (zif nn (zrU (zlcN ch nn)) ((zlu L 1 (zif nn (zrT ch) (L 1))) 3))) 17 (zif nn (zrE (zlcN (zlcN ch nn) (2 * nn))) ((zlu (zlu L 1 (zif nn (zrT ch) (L 1))) 3 (zif nn (zrU (zlcN ch nn)) ((zlu L 1 (zif nn (zrT ch) (L 1))) 3))) 17)))) 2))) w0)) i := by
    intro i hi ih
    have hv : 0 ≤ (zqRd nn 3 1 14 (zlu (zlu (zlu L 1 (zif nn (zrT ch) (L 1))) 3 (zif nn (zrU (zlcN ch nn)) ((zlu L 1 (zif nn (zrT ch) (L 1))) 3))) 17 (zif nn (zrE (zlcN (zlcN ch nn) (2 * nn))) ((zlu (zlu L 1 (zif nn (zrT ch) (L 1))) 3 (zif nn (zrU (zlcN ch nn)) ((zlu L 1 (zif nn (zrT ch) (L 1))) 3))) 17)))) 14 i ∧ (zqRd nn 3 1 14 (zlu (zlu (zlu L 1 (zif nn (zrT ch) (L 1))) 3 (zif nn (zrU (zlcN ch nn)) ((zlu L 1 (zif nn (zrT ch) (L 1))) 3))) 17 (zif nn (zrE (zlcN (zlcN ch nn) (2 * nn))) ((zlu (zlu L 1 (zif nn (zrT ch) (L 1))) 3 (zif nn (zrU (zlcN ch nn)) ((zlu L 1 (zif nn (zrT ch) (L 1))) 3))) 17)))) 14 i < 268435399 := zqRd_b hi
    have hy : -3 ≤ (zqRd nn 3 1 14 (zlu (zlu (zlu L 1 (zif nn (zrT ch) (L 1))) 3 (zif nn (zrU (zlcN ch nn)) ((zlu L 1 (zif nn (zrT ch) (L 1))) 3))) 17 (zif nn (zrE (zlcN (zlcN ch nn) (2 * nn))) ((zlu (zlu L 1 (zif nn (zrT ch) (L 1))) 3 (zif nn (zrU (zlcN ch nn)) ((zlu L 1 (zif nn (zrT ch) (L 1))) 3))) 17)))) 17 i ∧ (zqRd nn 3 1 14 (zlu (zlu (zlu L 1 (zif nn (zrT ch) (L 1))) 3 (zif nn (zrU (zlcN ch nn)) ((zlu L 1 (zif nn (zrT ch) (L 1))) 3))) 17 (zif nn (zrE (zlcN (zlcN ch nn) (2 * nn))) ((zlu (zlu L 1 (zif nn (zrT ch) (L 1))) 3 (zif nn (zrU (zlcN ch nn)) ((zlu L 1 (zif nn (zrT ch) (L 1))) 3))) 17)))) 17 i ≤ 3 := by show -3 ≤ zif nn (zrE (zlcN (zlcN ch nn) (2 * nn))) ((zlu (zlu L 1 (zif nn (zrT ch) (L 1))) 3 (zif nn (zrU (zlcN ch nn)) ((zlu L 1 (zif nn (zrT ch) (L 1))) 3))) 17) i ∧ zif nn (zrE (zlcN (zlcN ch nn) (2 * nn))) ((zlu (zlu L 1 (zif nn (zrT ch) (L 1))) 3 (zif nn (zrU (zlcN ch nn)) ((zlu L 1 (zif nn (zrT ch) (L 1))) 3))) 17) i ≤ 3; rw [zif_l (by omega)]; exact zrE_b _ _
    refine V_iload_n d_Ref_keys_47 rfl ?_
    refine V_aload_n d_Ref_keys_48 rfl ?_
    refine V_getf d_Ref_keys_49 ff_Ref_7 zqs_o rfl ?_
    refine J_icmp_ge 84 d_Ref_keys_52 (by decide) (by omega) (by omega) (fun c_52 => absurd c_52 (by omega)) (fun c_52 => ?_)
    refine V_aload_n d_Ref_keys_55 rfl ?_
    refine V_getf d_Ref_keys_56 ff_Ref_20 zqs_o rfl ?_
    refine V_iload_n d_Ref_keys_59 rfl ?_
    refine V_aload_n d_Ref_keys_60 rfl ?_
    refine V_getf d_Ref_keys_61 ff_Ref_57 zqs_o rfl ?_
    refine V_iload_n d_Ref_keys_64 rfl ?_
    refine J_laload d_Ref_keys_65 (zqs_r (j := 14) (by unfold zqi; decide)) (by omega) (by decide) ?_
    refine V_aload_n d_Ref_keys_66 rfl ?_
    refine V_getf d_Ref_keys_67 ff_Ref_66 zqs_o rfl ?_
    refine V_iload_n d_Ref_keys_70 rfl ?_
    refine J_laload d_Ref_keys_71 (zqs_r (j := 17) (by unfold zqi; decide)) (by omega) (by decide) ?_
    rw [zlu_n (show 14 ≠ 2 by decide), zlu_n (show 17 ≠ 2 by decide)]
    refine J_ladd d_Ref_keys_72 ?_
    refine J_lneg d_Ref_keys_73 ?_
    refine V_callS (n := 1) d_Ref_keys_74 g_Ref_74 rfl (r_of G _ _ (-((zqRd nn 3 1 14 (zlu (zlu (zlu L 1 (zif nn (zrT ch) (L 1))) 3 (zif nn (zrU (zlcN ch nn)) ((zlu L 1 (zif nn (zrT ch) (L 1))) 3))) 17 (zif nn (zrE (zlcN (zlcN ch nn) (2 * nn))) ((zlu (zlu L 1 (zif nn (zrT ch) (L 1))) 3 (zif nn (zrU (zlcN ch nn)) ((zlu L 1 (zif nn (zrT ch) (L 1))) 3))) 17)))) 14 i + (zqRd nn 3 1 14 (zlu (zlu (zlu L 1 (zif nn (zrT ch) (L 1))) 3 (zif nn (zrU (zlcN ch nn)) ((zlu L 1 (zif nn (zrT ch) (L 1))) 3))) 17 (zif nn (zrE (zlcN (zlcN ch nn) (2 * nn))) ((zlu (zlu L 1 (zif nn (zrT ch) (L 1))) 3 (zif nn (zrU (zlcN ch nn)) ((zlu L 1 (zif nn (zrT ch) (L 1))) 3))) 17)))) 17 i)) (by omega)) ⟨co_Ref_of, by decide +kernel, Nat.le_of_ble_eq_true rfl⟩ ⟨Nat.le_of_ble_eq_true rfl, Nat.le_of_ble_eq_true rfl, Nat.le_of_ble_eq_true rfl, Nat.le_of_ble_eq_true rfl⟩ (Nat.le_of_ble_eq_true rfl) (fun r_74 w_74 s_74 q_74 => ?_) (fun _ _ _ q => False.elim q)
    obtain ⟨rfl, rfl, rfl⟩ := q_74
    refine J_lastore d_Ref_keys_77 (zqs_r (j := 2) (by unfold zqi; decide)) (by omega) (by decide) ?_
    refine J_iinc d_Ref_keys_78 rfl (by decide) ?_
    refine V_goto 47 d_Ref_keys_81 (by decide) ?_
    exact V_w (by rw [zqs_lu (by unfold zqi; decide), zlu_s, zif_s (by omega) rfl, zlu_lu] <;> rfl) ih
  refine zfor nn (fun i : Nat => V G M_Ref_keys (zdet (some (.int (Int32.ofInt (nn : Int)))) (zqs G C 0 kd nn t 0 (zSwc nn (zMkc nn (zlcN ch nn)) 6) 1 (zqKy nn ch L) w0) sz) (zR 3 0 0 78) 0 0 sz 47 [(0, .ref C), (1, .int (Int32.ofInt (i : Int)))] [] (zqs G C 0 kd nn t tu (zMkc nn (zlcN ch nn)) ke (zlu (zqRd nn 3 1 14 (zlu (zlu (zlu L 1 (zif nn (zrT ch) (L 1))) 3 (zif nn (zrU (zlcN ch nn)) ((zlu L 1 (zif nn (zrT ch) (L 1))) 3))) 17 (zif nn (zrE (zlcN (zlcN ch nn) (2 * nn))) ((zlu (zlu L 1 (zif nn (zrT ch) (L 1))) 3 (zif nn (zrU (zlcN ch nn)) ((zlu L 1 (zif nn (zrT ch) (L 1))) 3))) 17)))) 2 (zif (i : Int) (fun i => -((zqRd nn 3 1 14 (zlu (zlu (zlu L 1 (zif nn (zrT ch) (L 1))) 3 (zif nn (zrU (zlcN ch nn)) ((zlu L 1 (zif nn (zrT ch) (L 1))) 3))) 17 (zif nn (zrE (zlcN (zlcN ch nn) (2 * nn))) ((zlu (zlu L 1 (zif nn (zrT ch) (L 1))) 3 (zif nn (zrU (zlcN ch nn)) ((zlu L 1 (zif nn (zrT ch) (L 1))) 3))) 17)))) 14 i + (zqRd nn 3 1 14 (zlu (zlu (zlu L 1 (zif nn (zrT ch) (L 1))) 3 (zif nn (zrU (zlcN ch nn)) ((zlu L 1 (zif nn (zrT ch) (L 1))) 3))) 17 (zif nn (zrE (zlcN (zlcN ch nn) (2 * nn))) ((zlu (zlu L 1 (zif nn (zrT ch) (L 1))) 3 (zif nn (zrU (zlcN ch nn)) ((zlu L 1 (zif nn (zrT ch) (L 1))) 3))) 17)))) 17 i) % 268435399) ((zqRd nn 3 1 14 (zlu (zlu (zlu L 1 (zif nn (zrT ch) (L 1))) 3 (zif nn (zrU (zlcN ch nn)) ((zlu L 1 (zif nn (zrT ch) (L 1))) 3))) 17 (zif nn (zrE (zlcN (zlcN ch nn) (2 * nn))) ((zlu (zlu L 1 (zif nn (zrT ch) (L 1))) 3 (zif nn (zrU (zlcN ch nn)) ((zlu L 1 (zif nn (zrT ch) (L 1))) 3))) 17)))) 2))) w0)) ?_ st_47 0 (Nat.zero_le nn)
  refine V_iload_n d_Ref_keys_47 rfl ?_
  refine V_aload_n d_Ref_keys_48 rfl ?_
  refine V_getf d_Ref_keys_49 ff_Ref_7 zqs_o rfl ?_
  refine J_icmp_ge 84 d_Ref_keys_52 (by decide) (by omega) (by omega) (fun c_52 => ?_) (fun c_52 => absurd c_52 (by omega))
  refine V_aload_n d_Ref_keys_84 rfl ?_
  refine V_aload_n d_Ref_keys_85 rfl ?_
  refine V_getf d_Ref_keys_86 ff_Ref_16 zqs_o rfl ?_
  refine V_aload_n d_Ref_keys_89 rfl ?_
  refine V_getf d_Ref_keys_90 ff_Ref_16 zqs_o rfl ?_
  refine V_aload_n d_Ref_keys_93 rfl ?_
  refine V_getf d_Ref_keys_94 ff_Ref_54 zqs_o rfl ?_
  refine V_callV (n := 3) d_Ref_keys_97 g_Ref_120 rfl zqs_o rfl (r_product G _ C 0 kd nn t tu (zMkc nn (zlcN ch nn)) ke (zlu (zqRd nn 3 1 14 (zlu (zlu (zlu L 1 (zif nn (zrT ch) (L 1))) 3 (zif nn (zrU (zlcN ch nn)) ((zlu L 1 (zif nn (zrT ch) (L 1))) 3))) 17 (zif nn (zrE (zlcN (zlcN ch nn) (2 * nn))) ((zlu (zlu L 1 (zif nn (zrT ch) (L 1))) 3 (zif nn (zrU (zlcN ch nn)) ((zlu L 1 (zif nn (zrT ch) (L 1))) 3))) 17)))) 2 (zif nn (fun i => -((zqRd nn 3 1 14 (zlu (zlu (zlu L 1 (zif nn (zrT ch) (L 1))) 3 (zif nn (zrU (zlcN ch nn)) ((zlu L 1 (zif nn (zrT ch) (L 1))) 3))) 17 (zif nn (zrE (zlcN (zlcN ch nn) (2 * nn))) ((zlu (zlu L 1 (zif nn (zrT ch) (L 1))) 3 (zif nn (zrU (zlcN ch nn)) ((zlu L 1 (zif nn (zrT ch) (L 1))) 3))) 17)))) 14 i + (zqRd nn 3 1 14 (zlu (zlu (zlu L 1 (zif nn (zrT ch) (L 1))) 3 (zif nn (zrU (zlcN ch nn)) ((zlu L 1 (zif nn (zrT ch) (L 1))) 3))) 17 (zif nn (zrE (zlcN (zlcN ch nn) (2 * nn))) ((zlu (zlu L 1 (zif nn (zrT ch) (L 1))) 3 (zif nn (zrU (zlcN ch nn)) ((zlu L 1 (zif nn (zrT ch) (L 1))) 3))) 17)))) 17 i) % 268435399) ((zqRd nn 3 1 14 (zlu (zlu (zlu L 1 (zif nn (zrT ch) (L 1))) 3 (zif nn (zrU (zlcN ch nn)) ((zlu L 1 (zif nn (zrT ch) (L 1))) 3))) 17 (zif nn (zrE (zlcN (zlcN ch nn) (2 * nn))) ((zlu (zlu L 1 (zif nn (zrT ch) (L 1))) 3 (zif nn (zrU (zlcN ch nn)) ((zlu L 1 (zif nn (zrT ch) (L 1))) 3))) 17)))) 2))) w0 nn rfl hn 1 1 13 (by unfold zqi; decide) (by unfold zqi; decide) (by unfold zqi; decide) (by decide) (by decide)) ⟨co_Ref_product, by decide +kernel, Nat.le_of_ble_eq_true rfl⟩ ⟨Nat.le_of_ble_eq_true rfl, Nat.le_of_ble_eq_true rfl, Nat.le_of_ble_eq_true rfl, Nat.le_of_ble_eq_true rfl⟩ (Nat.le_of_ble_eq_true rfl) (fun r_97 w_97 s_97 q_97 => ?_) (fun _ _ _ q => False.elim q)
  obtain ⟨rfl, rfl, rfl⟩ := q_97
  refine V_aload_n d_Ref_keys_100 rfl ?_
  refine V_iconst d_Ref_keys_101 ?_
  refine V_callV (n := 1) d_Ref_keys_102 g_Ref_123 rfl zqs_o rfl (r_pairs G _ C 0 kd nn t tu (zMkc nn (zlcN ch nn)) ke (zqK nn ch L) w0 nn rfl hn 0 (by decide) hs2 (fun i hi => by have hc := zcp_b (n := nn) (k := (i : Int)) (A := 1) (B := 1) ⟨by omega, by omega⟩ hs1 hs1 nn (Nat.le_refl _); show -9223372036854775808 ≤ zif nn (fun i => zcp (nn : Int) ((zlu L 1 (zif nn (zrT ch) (L 1))) 1) ((zlu L 1 (zif nn (zrT ch) (L 1))) 1) i nn) _ i ∧ zif nn (fun i => zcp (nn : Int) ((zlu L 1 (zif nn (zrT ch) (L 1))) 1) ((zlu L 1 (zif nn (zrT ch) (L 1))) 1) i nn) _ i < 9223372036854775808; rw [zif_l (by omega)]; exact ⟨by omega, by omega⟩)) ⟨co_Ref_pairs, by decide +kernel, Nat.le_of_ble_eq_true rfl⟩ ⟨Nat.le_of_ble_eq_true rfl, Nat.le_of_ble_eq_true rfl, Nat.le_of_ble_eq_true rfl, Nat.le_of_ble_eq_true rfl⟩ (Nat.le_of_ble_eq_true rfl) (fun r_102 w_102 s_102 q_102 => ?_) (fun _ _ _ q => False.elim q)
  obtain ⟨rfl, rfl, rfl⟩ := q_102
  refine V_aload_n d_Ref_keys_105 rfl ?_
  refine V_iconst d_Ref_keys_106 ?_
  refine V_putf d_Ref_keys_107 ff_Ref_107 zqs_o ⟨_, _, _, _, rfl, rfl, rfl, rfl, rfl⟩ (Nat.le_of_ble_eq_true rfl) ?_
  refine V_w (zqs_f (ke' := 1) rfl) ?_
  refine V_aload_n d_Ref_keys_110 rfl ?_
  refine V_iconst d_Ref_keys_111 ?_
  refine V_putf d_Ref_keys_112 ff_Ref_111 zqs_o ⟨_, _, _, _, rfl, rfl, rfl, rfl, rfl⟩ (Nat.le_of_ble_eq_true rfl) ?_
  refine V_w (zqs_f (tu' := 0) rfl) ?_
  refine V_aload_n d_Ref_keys_115 rfl ?_
  refine V_callV (n := 0) d_Ref_keys_116 g_Ref_114 rfl zqs_o rfl (r_empty G _ C 0 kd nn t 0 (zSwc nn (zMkc nn (zlcN ch nn)) 6) 1 (zqP nn (zMkc nn (zlcN ch nn)) 0 (zqK nn ch L) 6) w0) ⟨co_Ref_empty_, by decide +kernel, Nat.le_of_ble_eq_true rfl⟩ ⟨Nat.le_of_ble_eq_true rfl, Nat.le_of_ble_eq_true rfl, Nat.le_of_ble_eq_true rfl, Nat.le_of_ble_eq_true rfl⟩ (Nat.le_of_ble_eq_true rfl) (fun r_116 w_116 s_116 q_116 => ?_) (fun _ _ _ q => False.elim q)
  obtain ⟨rfl, rfl, rfl⟩ := q_116
  refine V_aload_n d_Ref_keys_119 rfl ?_
  refine V_getf d_Ref_keys_120 ff_Ref_7 zqs_o rfl ?_
  exact V_ireturn d_Ref_keys_123 rfl ⟨Nat.le_of_ble_eq_true rfl, Nat.le_of_ble_eq_true rfl⟩ ⟨rfl, rfl, rfl⟩

set_option maxRecDepth 100000 in
set_option maxHeartbeats 4000000 in
theorem r_turnKey_1 (G : zG) (sz C : Nat) (th kd n t tu : Int) (ch : Int32) (ke : Int) (L : Nat → Int → Int) (w0 : zW) (g : Int) (hg : -2147483648 ≤ g ∧ g < 2147483648) (hn : 0 ≤ n ∧ n ≤ 32) (hb : g < 3) : zCt G M_Ref_turnKey (zR 3 0 0 78) [.ref C, .int (Int32.ofInt g)] sz (zqs G C th kd n t tu ch ke L w0) (zdet (some (.int (Int32.ofInt 0))) (zqs G C 1 kd n t tu ch ke L w0) sz) := by
  refine V_aload_n d_Ref_turnKey_0 rfl ?_
  refine V_iconst d_Ref_turnKey_1 ?_
  refine V_putf d_Ref_turnKey_2 ff_Ref_69 zqs_o ⟨_, _, _, _, rfl, rfl, rfl, rfl, rfl⟩ (Nat.le_of_ble_eq_true rfl) ?_
  refine V_w (zqs_f (th' := 0) rfl) ?_
  refine V_iload_n d_Ref_turnKey_5 rfl ?_
  refine V_iconst d_Ref_turnKey_6 ?_
  refine J_icmp_lt 26 d_Ref_turnKey_7 (by decide) (by omega) (by omega) (fun c_7 => ?_) (fun c_7 => absurd c_7 (by omega))
  refine V_aload_n d_Ref_turnKey_26 rfl ?_
  refine V_iconst d_Ref_turnKey_27 ?_
  refine V_callV (n := 1) d_Ref_turnKey_28 g_Ref_127 rfl zqs_o rfl (r_fail G _ C 0 kd n t tu ch ke L w0 1) ⟨co_Ref_fail, by decide +kernel, Nat.le_of_ble_eq_true rfl⟩ ⟨Nat.le_of_ble_eq_true rfl, Nat.le_of_ble_eq_true rfl, Nat.le_of_ble_eq_true rfl, Nat.le_of_ble_eq_true rfl⟩ (Nat.le_of_ble_eq_true rfl) (fun r_28 w_28 s_28 q_28 => ?_) (fun _ _ _ q => False.elim q)
  obtain ⟨rfl, rfl, rfl⟩ := q_28
  exact V_ireturn d_Ref_turnKey_31 rfl ⟨Nat.le_of_ble_eq_true rfl, Nat.le_of_ble_eq_true rfl⟩ ⟨rfl, rfl, rfl⟩

set_option maxRecDepth 100000 in
set_option maxHeartbeats 4000000 in
theorem r_turnKey_2 (G : zG) (sz C : Nat) (th kd n t tu : Int) (ch : Int32) (ke : Int) (L : Nat → Int → Int) (w0 : zW) (g : Int) (hg : -2147483648 ≤ g ∧ g < 2147483648) (hn : 0 ≤ n ∧ n ≤ 32) (h3 : 3 ≤ g) (hb : 2 * n ≤ g) : zCt G M_Ref_turnKey (zR 3 0 0 78) [.ref C, .int (Int32.ofInt g)] sz (zqs G C th kd n t tu ch ke L w0) (zdet (some (.int (Int32.ofInt 0))) (zqs G C 1 kd n t tu ch ke L w0) sz) := by
  refine V_aload_n d_Ref_turnKey_0 rfl ?_
  refine V_iconst d_Ref_turnKey_1 ?_
  refine V_putf d_Ref_turnKey_2 ff_Ref_69 zqs_o ⟨_, _, _, _, rfl, rfl, rfl, rfl, rfl⟩ (Nat.le_of_ble_eq_true rfl) ?_
  refine V_w (zqs_f (th' := 0) rfl) ?_
  refine V_iload_n d_Ref_turnKey_5 rfl ?_
  refine V_iconst d_Ref_turnKey_6 ?_
  refine J_icmp_lt 26 d_Ref_turnKey_7 (by decide) (by omega) (by omega) (fun c_7 => absurd c_7 (by omega)) (fun c_7 => ?_)
  refine V_iload_n d_Ref_turnKey_10 rfl ?_
  refine V_iconst d_Ref_turnKey_11 ?_
  refine V_aload_n d_Ref_turnKey_12 rfl ?_
  refine V_getf d_Ref_turnKey_13 ff_Ref_7 zqs_o rfl ?_
  refine J_imul d_Ref_turnKey_16 ?_
  refine J_icmp_ge 26 d_Ref_turnKey_17 (by decide) (by omega) (by omega) (fun c_17 => ?_) (fun c_17 => absurd c_17 (by omega))
  refine V_aload_n d_Ref_turnKey_26 rfl ?_
  refine V_iconst d_Ref_turnKey_27 ?_
  refine V_callV (n := 1) d_Ref_turnKey_28 g_Ref_127 rfl zqs_o rfl (r_fail G _ C 0 kd n t tu ch ke L w0 1) ⟨co_Ref_fail, by decide +kernel, Nat.le_of_ble_eq_true rfl⟩ ⟨Nat.le_of_ble_eq_true rfl, Nat.le_of_ble_eq_true rfl, Nat.le_of_ble_eq_true rfl, Nat.le_of_ble_eq_true rfl⟩ (Nat.le_of_ble_eq_true rfl) (fun r_28 w_28 s_28 q_28 => ?_) (fun _ _ _ q => False.elim q)
  obtain ⟨rfl, rfl, rfl⟩ := q_28
  exact V_ireturn d_Ref_turnKey_31 rfl ⟨Nat.le_of_ble_eq_true rfl, Nat.le_of_ble_eq_true rfl⟩ ⟨rfl, rfl, rfl⟩

set_option maxRecDepth 100000 in
set_option maxHeartbeats 4000000 in
theorem r_turnKey_3 (G : zG) (sz C : Nat) (th kd n t tu : Int) (ch : Int32) (ke : Int) (L : Nat → Int → Int) (w0 : zW) (g : Int) (hn : 0 ≤ n ∧ n ≤ 32) (h3 : 3 ≤ g ∧ g < 2 * n) (hb : g % 2 = 0) : zCt G M_Ref_turnKey (zR 3 0 0 78) [.ref C, .int (Int32.ofInt g)] sz (zqs G C th kd n t tu ch ke L w0) (zdet (some (.int (Int32.ofInt 0))) (zqs G C 1 kd n t tu ch ke L w0) sz) := by
  refine V_aload_n d_Ref_turnKey_0 rfl ?_
  refine V_iconst d_Ref_turnKey_1 ?_
  refine V_putf d_Ref_turnKey_2 ff_Ref_69 zqs_o ⟨_, _, _, _, rfl, rfl, rfl, rfl, rfl⟩ (Nat.le_of_ble_eq_true rfl) ?_
  refine V_w (zqs_f (th' := 0) rfl) ?_
  refine V_iload_n d_Ref_turnKey_5 rfl ?_
  refine V_iconst d_Ref_turnKey_6 ?_
  refine J_icmp_lt 26 d_Ref_turnKey_7 (by decide) (by omega) (by omega) (fun c_7 => absurd c_7 (by omega)) (fun c_7 => ?_)
  refine V_iload_n d_Ref_turnKey_10 rfl ?_
  refine V_iconst d_Ref_turnKey_11 ?_
  refine V_aload_n d_Ref_turnKey_12 rfl ?_
  refine V_getf d_Ref_turnKey_13 ff_Ref_7 zqs_o rfl ?_
  refine J_imul d_Ref_turnKey_16 ?_
  refine J_icmp_ge 26 d_Ref_turnKey_17 (by decide) (by omega) (by omega) (fun c_17 => absurd c_17 (by omega)) (fun c_17 => ?_)
  refine V_iload_n d_Ref_turnKey_20 rfl ?_
  refine V_iconst d_Ref_turnKey_21 ?_
  refine J_iremP d_Ref_turnKey_22 (by omega) (by omega) ?_
  refine J_if_ne 32 d_Ref_turnKey_23 (by decide) (by omega) (fun c_23 => absurd hb c_23) (fun c_23 => ?_)
  refine V_aload_n d_Ref_turnKey_26 rfl ?_
  refine V_iconst d_Ref_turnKey_27 ?_
  refine V_callV (n := 1) d_Ref_turnKey_28 g_Ref_127 rfl zqs_o rfl (r_fail G _ C 0 kd n t tu ch ke L w0 1) ⟨co_Ref_fail, by decide +kernel, Nat.le_of_ble_eq_true rfl⟩ ⟨Nat.le_of_ble_eq_true rfl, Nat.le_of_ble_eq_true rfl, Nat.le_of_ble_eq_true rfl, Nat.le_of_ble_eq_true rfl⟩ (Nat.le_of_ble_eq_true rfl) (fun r_28 w_28 s_28 q_28 => ?_) (fun _ _ _ q => False.elim q)
  obtain ⟨rfl, rfl, rfl⟩ := q_28
  exact V_ireturn d_Ref_turnKey_31 rfl ⟨Nat.le_of_ble_eq_true rfl, Nat.le_of_ble_eq_true rfl⟩ ⟨rfl, rfl, rfl⟩

set_option maxRecDepth 100000 in
set_option maxHeartbeats 4000000 in
theorem r_turnKey_4 (G : zG) (sz C : Nat) (th kd n t tu : Int) (ch : Int32) (ke : Int) (L : Nat → Int → Int) (w0 : zW) (g : Int) (hn : 0 ≤ n ∧ n ≤ 32) (h3 : 3 ≤ g ∧ g < 2 * n) (ho : g % 2 = 1) (htu : 0 ≤ tu ∧ tu ≤ 4) (htr : ∀ p : Nat, p < 5 → -2147483648 ≤ L 6 p ∧ L 6 p < 2147483648) (hb : ke = 0) : zCt G M_Ref_turnKey (zR 3 0 0 78) [.ref C, .int (Int32.ofInt g)] sz (zqs G C th kd n t tu ch ke L w0) (zdet (some (.int (Int32.ofInt 0))) (zqs G C 2 kd n t tu ch ke L w0) sz) := by
  refine V_aload_n d_Ref_turnKey_0 rfl ?_
  refine V_iconst d_Ref_turnKey_1 ?_
  refine V_putf d_Ref_turnKey_2 ff_Ref_69 zqs_o ⟨_, _, _, _, rfl, rfl, rfl, rfl, rfl⟩ (Nat.le_of_ble_eq_true rfl) ?_
  refine V_w (zqs_f (th' := 0) rfl) ?_
  refine V_iload_n d_Ref_turnKey_5 rfl ?_
  refine V_iconst d_Ref_turnKey_6 ?_
  refine J_icmp_lt 26 d_Ref_turnKey_7 (by decide) (by omega) (by omega) (fun c_7 => absurd c_7 (by omega)) (fun c_7 => ?_)
  refine V_iload_n d_Ref_turnKey_10 rfl ?_
  refine V_iconst d_Ref_turnKey_11 ?_
  refine V_aload_n d_Ref_turnKey_12 rfl ?_
  refine V_getf d_Ref_turnKey_13 ff_Ref_7 zqs_o rfl ?_
  refine J_imul d_Ref_turnKey_16 ?_
  refine J_icmp_ge 26 d_Ref_turnKey_17 (by decide) (by omega) (by omega) (fun c_17 => absurd c_17 (by omega)) (fun c_17 => ?_)
  refine V_iload_n d_Ref_turnKey_20 rfl ?_
  refine V_iconst d_Ref_turnKey_21 ?_
  refine J_iremP d_Ref_turnKey_22 (by omega) (by omega) ?_
  refine J_if_ne 32 d_Ref_turnKey_23 (by decide) (by omega) (fun c_23 => ?_) (fun c_23 => absurd c_23 (by omega))
  refine V_aload_n d_Ref_turnKey_32 rfl ?_
  refine V_iload_n d_Ref_turnKey_33 rfl ?_
  refine V_callV (n := 1) d_Ref_turnKey_34 g_Ref_131 rfl zqs_o rfl (r_find G _ C 0 kd n t tu ch ke L w0 g (by omega) htu htr) ⟨co_Ref_find, by decide +kernel, Nat.le_of_ble_eq_true rfl⟩ ⟨Nat.le_of_ble_eq_true rfl, Nat.le_of_ble_eq_true rfl, Nat.le_of_ble_eq_true rfl, Nat.le_of_ble_eq_true rfl⟩ (Nat.le_of_ble_eq_true rfl) (fun r_34 w_34 s_34 q_34 => ?_) (fun _ _ _ q => False.elim q)
  obtain ⟨rfl, rfl, rfl⟩ := q_34
  refine V_istore_n d_Ref_turnKey_37 (by decide) ?_
  refine V_aload_n d_Ref_turnKey_38 rfl ?_
  refine V_getf d_Ref_turnKey_39 ff_Ref_107 zqs_o rfl ?_
  refine J_if_eq 57 d_Ref_turnKey_42 (by decide) (by omega) (fun c_42 => ?_) (fun c_42 => absurd hb c_42)
  refine V_aload_n d_Ref_turnKey_57 rfl ?_
  refine V_iconst d_Ref_turnKey_58 ?_
  refine V_callV (n := 1) d_Ref_turnKey_59 g_Ref_127 rfl zqs_o rfl (r_fail G _ C 0 kd n t tu ch ke L w0 2) ⟨co_Ref_fail, by decide +kernel, Nat.le_of_ble_eq_true rfl⟩ ⟨Nat.le_of_ble_eq_true rfl, Nat.le_of_ble_eq_true rfl, Nat.le_of_ble_eq_true rfl, Nat.le_of_ble_eq_true rfl⟩ (Nat.le_of_ble_eq_true rfl) (fun r_59 w_59 s_59 q_59 => ?_) (fun _ _ _ q => False.elim q)
  obtain ⟨rfl, rfl, rfl⟩ := q_59
  exact V_ireturn d_Ref_turnKey_62 rfl ⟨Nat.le_of_ble_eq_true rfl, Nat.le_of_ble_eq_true rfl⟩ ⟨rfl, rfl, rfl⟩

set_option maxRecDepth 100000 in
set_option maxHeartbeats 4000000 in
theorem r_turnKey_5 (G : zG) (sz C : Nat) (th kd n t tu : Int) (ch : Int32) (ke : Int) (L : Nat → Int → Int) (w0 : zW) (g : Int) (hn : 0 ≤ n ∧ n ≤ 32) (h3 : 3 ≤ g ∧ g < 2 * n) (ho : g % 2 = 1) (htu : 0 ≤ tu ∧ tu ≤ 4) (htr : ∀ p : Nat, p < 5 → -2147483648 ≤ L 6 p ∧ L 6 p < 2147483648) (hke : ke = 1) (hfd : zqf (L 6) tu g 5 1 = 0) (hb : tu = 4) : zCt G M_Ref_turnKey (zR 3 0 0 78) [.ref C, .int (Int32.ofInt g)] sz (zqs G C th kd n t tu ch ke L w0) (zdet (some (.int (Int32.ofInt 0))) (zqs G C 2 kd n t tu ch ke L w0) sz) := by
  refine V_aload_n d_Ref_turnKey_0 rfl ?_
  refine V_iconst d_Ref_turnKey_1 ?_
  refine V_putf d_Ref_turnKey_2 ff_Ref_69 zqs_o ⟨_, _, _, _, rfl, rfl, rfl, rfl, rfl⟩ (Nat.le_of_ble_eq_true rfl) ?_
  refine V_w (zqs_f (th' := 0) rfl) ?_
  refine V_iload_n d_Ref_turnKey_5 rfl ?_
  refine V_iconst d_Ref_turnKey_6 ?_
  refine J_icmp_lt 26 d_Ref_turnKey_7 (by decide) (by omega) (by omega) (fun c_7 => absurd c_7 (by omega)) (fun c_7 => ?_)
  refine V_iload_n d_Ref_turnKey_10 rfl ?_
  refine V_iconst d_Ref_turnKey_11 ?_
  refine V_aload_n d_Ref_turnKey_12 rfl ?_
  refine V_getf d_Ref_turnKey_13 ff_Ref_7 zqs_o rfl ?_
  refine J_imul d_Ref_turnKey_16 ?_
  refine J_icmp_ge 26 d_Ref_turnKey_17 (by decide) (by omega) (by omega) (fun c_17 => absurd c_17 (by omega)) (fun c_17 => ?_)
  refine V_iload_n d_Ref_turnKey_20 rfl ?_
  refine V_iconst d_Ref_turnKey_21 ?_
  refine J_iremP d_Ref_turnKey_22 (by omega) (by omega) ?_
  refine J_if_ne 32 d_Ref_turnKey_23 (by decide) (by omega) (fun c_23 => ?_) (fun c_23 => absurd c_23 (by omega))
  refine V_aload_n d_Ref_turnKey_32 rfl ?_
  refine V_iload_n d_Ref_turnKey_33 rfl ?_
  refine V_callV (n := 1) d_Ref_turnKey_34 g_Ref_131 rfl zqs_o rfl (r_find G _ C 0 kd n t tu ch ke L w0 g (by omega) htu htr) ⟨co_Ref_find, by decide +kernel, Nat.le_of_ble_eq_true rfl⟩ ⟨Nat.le_of_ble_eq_true rfl, Nat.le_of_ble_eq_true rfl, Nat.le_of_ble_eq_true rfl, Nat.le_of_ble_eq_true rfl⟩ (Nat.le_of_ble_eq_true rfl) (fun r_34 w_34 s_34 q_34 => ?_) (fun _ _ _ q => False.elim q)
  obtain ⟨rfl, rfl, rfl⟩ := q_34
  rw [hfd]
  refine V_istore_n d_Ref_turnKey_37 (by decide) ?_
  refine V_aload_n d_Ref_turnKey_38 rfl ?_
  refine V_getf d_Ref_turnKey_39 ff_Ref_107 zqs_o rfl ?_
  refine J_if_eq 57 d_Ref_turnKey_42 (by decide) (by omega) (fun c_42 => absurd c_42 (by omega)) (fun c_42 => ?_)
  refine V_iload_n d_Ref_turnKey_45 rfl ?_
  refine J_if_ne 63 d_Ref_turnKey_46 (by decide) (by decide) (fun c_46 => absurd rfl c_46) (fun c_46 => ?_)
  refine V_aload_n d_Ref_turnKey_49 rfl ?_
  refine V_getf d_Ref_turnKey_50 ff_Ref_111 zqs_o rfl ?_
  refine V_iconst d_Ref_turnKey_53 ?_
  refine J_icmp_ne 63 d_Ref_turnKey_54 (by decide) (by omega) (by omega) (fun c_54 => absurd hb c_54) (fun c_54 => ?_)
  refine V_aload_n d_Ref_turnKey_57 rfl ?_
  refine V_iconst d_Ref_turnKey_58 ?_
  refine V_callV (n := 1) d_Ref_turnKey_59 g_Ref_127 rfl zqs_o rfl (r_fail G _ C 0 kd n t tu ch ke L w0 2) ⟨co_Ref_fail, by decide +kernel, Nat.le_of_ble_eq_true rfl⟩ ⟨Nat.le_of_ble_eq_true rfl, Nat.le_of_ble_eq_true rfl, Nat.le_of_ble_eq_true rfl, Nat.le_of_ble_eq_true rfl⟩ (Nat.le_of_ble_eq_true rfl) (fun r_59 w_59 s_59 q_59 => ?_) (fun _ _ _ q => False.elim q)
  obtain ⟨rfl, rfl, rfl⟩ := q_59
  exact V_ireturn d_Ref_turnKey_62 rfl ⟨Nat.le_of_ble_eq_true rfl, Nat.le_of_ble_eq_true rfl⟩ ⟨rfl, rfl, rfl⟩

set_option maxRecDepth 100000 in
set_option maxHeartbeats 4000000 in
theorem r_turnKey_o (G : zG) (sz C : Nat) (th kd n t tu : Int) (ch : Int32) (ke : Int) (L : Nat → Int → Int) (w0 : zW) (nn : Nat) (hnn : n = (nn : Int)) (hn : nn ≤ 32) (g : Int) (h3 : 3 ≤ g ∧ g < 2 * n) (ho : g % 2 = 1) (htu : 0 ≤ tu ∧ tu ≤ 4) (htr : ∀ p : Nat, p < 5 → -2147483648 ≤ L 6 p ∧ L 6 p < 2147483648) (hke : ke = 1) (p : Nat) (hfd : zqf (L 6) tu g 5 1 = p) (hp : 0 < p ∧ p < 5) (hSa : ∀ j : Int, 0 ≤ j → j < 32 → -1 ≤ L 1 j ∧ L 1 j ≤ 1) (hT : ∀ i : Nat, i < nn → -9223372036854775808 ≤ zqt (nn : Int) g (L 1) (L 13) nn i ∧ zqt (nn : Int) g (L 1) (L 13) nn i < 9223372036854775808) : zCt G M_Ref_turnKey (zR 3 0 0 78) [.ref C, .int (Int32.ofInt g)] sz (zqs G C th kd n t tu ch ke L w0) (zdet (some (.int (Int32.ofInt tu))) (zqs G C 0 kd n t tu (zSwc nn ch 6) ke (zqP nn ch p (zlu L 13 (zqt nn g (L 1) (L 13) nn)) 6) w0) sz) := by
  subst hnn
  refine V_aload_n d_Ref_turnKey_0 rfl ?_
  refine V_iconst d_Ref_turnKey_1 ?_
  refine V_putf d_Ref_turnKey_2 ff_Ref_69 zqs_o ⟨_, _, _, _, rfl, rfl, rfl, rfl, rfl⟩ (Nat.le_of_ble_eq_true rfl) ?_
  refine V_w (zqs_f (th' := 0) rfl) ?_
  refine V_iload_n d_Ref_turnKey_5 rfl ?_
  refine V_iconst d_Ref_turnKey_6 ?_
  refine J_icmp_lt 26 d_Ref_turnKey_7 (by decide) (by omega) (by omega) (fun c_7 => absurd c_7 (by omega)) (fun c_7 => ?_)
  refine V_iload_n d_Ref_turnKey_10 rfl ?_
  refine V_iconst d_Ref_turnKey_11 ?_
  refine V_aload_n d_Ref_turnKey_12 rfl ?_
  refine V_getf d_Ref_turnKey_13 ff_Ref_7 zqs_o rfl ?_
  refine J_imul d_Ref_turnKey_16 ?_
  refine J_icmp_ge 26 d_Ref_turnKey_17 (by decide) (by omega) (by omega) (fun c_17 => absurd c_17 (by omega)) (fun c_17 => ?_)
  refine V_iload_n d_Ref_turnKey_20 rfl ?_
  refine V_iconst d_Ref_turnKey_21 ?_
  refine J_iremP d_Ref_turnKey_22 (by omega) (by omega) ?_
  refine J_if_ne 32 d_Ref_turnKey_23 (by decide) (by omega) (fun c_23 => ?_) (fun c_23 => absurd c_23 (by omega))
  refine V_aload_n d_Ref_turnKey_32 rfl ?_
  refine V_iload_n d_Ref_turnKey_33 rfl ?_
  refine V_callV (n := 1) d_Ref_turnKey_34 g_Ref_131 rfl zqs_o rfl (r_find G _ C 0 kd nn t tu ch ke L w0 g (by omega) htu htr) ⟨co_Ref_find, by decide +kernel, Nat.le_of_ble_eq_true rfl⟩ ⟨Nat.le_of_ble_eq_true rfl, Nat.le_of_ble_eq_true rfl, Nat.le_of_ble_eq_true rfl, Nat.le_of_ble_eq_true rfl⟩ (Nat.le_of_ble_eq_true rfl) (fun r_34 w_34 s_34 q_34 => ?_) (fun _ _ _ q => False.elim q)
  obtain ⟨rfl, rfl, rfl⟩ := q_34
  rw [hfd]
  refine V_istore_n d_Ref_turnKey_37 (by decide) ?_
  refine V_aload_n d_Ref_turnKey_38 rfl ?_
  refine V_getf d_Ref_turnKey_39 ff_Ref_107 zqs_o rfl ?_
  refine J_if_eq 57 d_Ref_turnKey_42 (by decide) (by omega) (fun c_42 => absurd c_42 (by omega)) (fun c_42 => ?_)
  refine V_iload_n d_Ref_turnKey_45 rfl ?_
  refine J_if_ne 63 d_Ref_turnKey_46 (by decide) (by omega) (fun c_46 => ?_) (fun c_46 => absurd c_46 (by omega))
  refine V_iload_n d_Ref_turnKey_63 rfl ?_
  refine J_if_ne 89 d_Ref_turnKey_64 (by decide) (by omega) (fun c_64 => ?_) (fun c_64 => absurd c_64 (by omega))
  refine V_aload_n d_Ref_turnKey_89 rfl ?_
  refine V_aload_n d_Ref_turnKey_90 rfl ?_
  refine V_getf d_Ref_turnKey_91 ff_Ref_16 zqs_o rfl ?_
  refine V_iload_n d_Ref_turnKey_94 rfl ?_
  refine V_aload_n d_Ref_turnKey_95 rfl ?_
  refine V_getf d_Ref_turnKey_96 ff_Ref_54 zqs_o rfl ?_
  refine V_callV (n := 3) d_Ref_turnKey_99 g_Ref_134 rfl zqs_o rfl (r_turned G _ C 0 kd nn t tu ch ke L w0 nn rfl hn 1 13 g (by unfold zqi; decide) (by unfold zqi; decide) (by decide) (by omega)) ⟨co_Ref_turned, by decide +kernel, Nat.le_of_ble_eq_true rfl⟩ ⟨Nat.le_of_ble_eq_true rfl, Nat.le_of_ble_eq_true rfl, Nat.le_of_ble_eq_true rfl, Nat.le_of_ble_eq_true rfl⟩ (Nat.le_of_ble_eq_true rfl) (fun r_99 w_99 s_99 q_99 => ?_) (fun _ _ _ q => False.elim q)
  obtain ⟨rfl, rfl, rfl⟩ := q_99
  refine V_aload_n d_Ref_turnKey_102 rfl ?_
  refine V_iload_n d_Ref_turnKey_103 rfl ?_
  refine V_callV (n := 1) d_Ref_turnKey_104 g_Ref_123 rfl zqs_o rfl (r_pairs G _ C 0 kd nn t tu ch ke (zlu L 13 (zqt nn g (L 1) (L 13) nn)) w0 nn rfl hn p (by omega) hSa (fun i hi => hT i hi)) ⟨co_Ref_pairs, by decide +kernel, Nat.le_of_ble_eq_true rfl⟩ ⟨Nat.le_of_ble_eq_true rfl, Nat.le_of_ble_eq_true rfl, Nat.le_of_ble_eq_true rfl, Nat.le_of_ble_eq_true rfl⟩ (Nat.le_of_ble_eq_true rfl) (fun r_104 w_104 s_104 q_104 => ?_) (fun _ _ _ q => False.elim q)
  obtain ⟨rfl, rfl, rfl⟩ := q_104
  refine V_aload_n d_Ref_turnKey_107 rfl ?_
  refine V_getf d_Ref_turnKey_108 ff_Ref_111 zqs_o rfl ?_
  exact V_ireturn d_Ref_turnKey_111 rfl ⟨Nat.le_of_ble_eq_true rfl, Nat.le_of_ble_eq_true rfl⟩ ⟨rfl, rfl, rfl⟩

set_option maxRecDepth 100000 in
set_option maxHeartbeats 4000000 in
theorem r_turnKey_n (G : zG) (sz C : Nat) (th kd n t tu : Int) (ch : Int32) (ke : Int) (L : Nat → Int → Int) (w0 : zW) (nn : Nat) (hnn : n = (nn : Int)) (hn : nn ≤ 32) (g : Int) (h3 : 3 ≤ g ∧ g < 2 * n) (ho : g % 2 = 1) (q : Nat) (hq : tu = (q : Int)) (hq4 : q < 4) (htu : 0 ≤ tu ∧ tu ≤ 4) (htr : ∀ p : Nat, p < 5 → -2147483648 ≤ L 6 p ∧ L 6 p < 2147483648) (hke : ke = 1) (hfd : zqf (L 6) tu g 5 1 = 0) (hSa : ∀ j : Int, 0 ≤ j → j < 32 → -1 ≤ L 1 j ∧ L 1 j ≤ 1) (hT : ∀ i : Nat, i < nn → -9223372036854775808 ≤ zqt (nn : Int) g (L 1) (L 13) nn i ∧ zqt (nn : Int) g (L 1) (L 13) nn i < 9223372036854775808) : zCt G M_Ref_turnKey (zR 3 0 0 78) [.ref C, .int (Int32.ofInt g)] sz (zqs G C th kd n t tu ch ke L w0) (zdet (some (.int (Int32.ofInt ((q : Int) + 1)))) (zqs G C 0 kd n t ((q : Int) + 1) (zSwc nn ch 6) ke (zqP nn ch (q + 1) (zlu (zlu L 6 (zu (L 6) ((q : Int) + 1) g)) 13 (zqt nn g (L 1) (L 13) nn)) 6) w0) sz) := by
  subst hnn
  subst hq
  refine V_aload_n d_Ref_turnKey_0 rfl ?_
  refine V_iconst d_Ref_turnKey_1 ?_
  refine V_putf d_Ref_turnKey_2 ff_Ref_69 zqs_o ⟨_, _, _, _, rfl, rfl, rfl, rfl, rfl⟩ (Nat.le_of_ble_eq_true rfl) ?_
  refine V_w (zqs_f (th' := 0) rfl) ?_
  refine V_iload_n d_Ref_turnKey_5 rfl ?_
  refine V_iconst d_Ref_turnKey_6 ?_
  refine J_icmp_lt 26 d_Ref_turnKey_7 (by decide) (by omega) (by omega) (fun c_7 => absurd c_7 (by omega)) (fun c_7 => ?_)
  refine V_iload_n d_Ref_turnKey_10 rfl ?_
  refine V_iconst d_Ref_turnKey_11 ?_
  refine V_aload_n d_Ref_turnKey_12 rfl ?_
  refine V_getf d_Ref_turnKey_13 ff_Ref_7 zqs_o rfl ?_
  refine J_imul d_Ref_turnKey_16 ?_
  refine J_icmp_ge 26 d_Ref_turnKey_17 (by decide) (by omega) (by omega) (fun c_17 => absurd c_17 (by omega)) (fun c_17 => ?_)
  refine V_iload_n d_Ref_turnKey_20 rfl ?_
  refine V_iconst d_Ref_turnKey_21 ?_
  refine J_iremP d_Ref_turnKey_22 (by omega) (by omega) ?_
  refine J_if_ne 32 d_Ref_turnKey_23 (by decide) (by omega) (fun c_23 => ?_) (fun c_23 => absurd c_23 (by omega))
  refine V_aload_n d_Ref_turnKey_32 rfl ?_
  refine V_iload_n d_Ref_turnKey_33 rfl ?_
  refine V_callV (n := 1) d_Ref_turnKey_34 g_Ref_131 rfl zqs_o rfl (r_find G _ C 0 kd nn t q ch ke L w0 g (by omega) htu htr) ⟨co_Ref_find, by decide +kernel, Nat.le_of_ble_eq_true rfl⟩ ⟨Nat.le_of_ble_eq_true rfl, Nat.le_of_ble_eq_true rfl, Nat.le_of_ble_eq_true rfl, Nat.le_of_ble_eq_true rfl⟩ (Nat.le_of_ble_eq_true rfl) (fun r_34 w_34 s_34 q_34 => ?_) (fun _ _ _ q => False.elim q)
  obtain ⟨rfl, rfl, rfl⟩ := q_34
  rw [hfd]
  refine V_istore_n d_Ref_turnKey_37 (by decide) ?_
  refine V_aload_n d_Ref_turnKey_38 rfl ?_
  refine V_getf d_Ref_turnKey_39 ff_Ref_107 zqs_o rfl ?_
  refine J_if_eq 57 d_Ref_turnKey_42 (by decide) (by omega) (fun c_42 => absurd c_42 (by omega)) (fun c_42 => ?_)
  refine V_iload_n d_Ref_turnKey_45 rfl ?_
  refine J_if_ne 63 d_Ref_turnKey_46 (by decide) (by decide) (fun c_46 => absurd rfl c_46) (fun c_46 => ?_)
  refine V_aload_n d_Ref_turnKey_49 rfl ?_
  refine V_getf d_Ref_turnKey_50 ff_Ref_111 zqs_o rfl ?_
  refine V_iconst d_Ref_turnKey_53 ?_
  refine J_icmp_ne 63 d_Ref_turnKey_54 (by decide) (by omega) (by omega) (fun c_54 => ?_) (fun c_54 => absurd c_54 (by omega))
  refine V_iload_n d_Ref_turnKey_63 rfl ?_
  refine J_if_ne 89 d_Ref_turnKey_64 (by decide) (by decide) (fun c_64 => absurd rfl c_64) (fun c_64 => ?_)
  refine V_aload_n d_Ref_turnKey_67 rfl ?_
  refine V_dup d_Ref_turnKey_68 rfl ?_
  refine V_getf d_Ref_turnKey_69 ff_Ref_111 zqs_o rfl ?_
  refine V_iconst d_Ref_turnKey_72 ?_
  refine J_iadd d_Ref_turnKey_73 ?_
  refine V_putf d_Ref_turnKey_74 ff_Ref_111 zqs_o ⟨_, _, _, _, rfl, rfl, rfl, rfl, rfl⟩ (Nat.le_of_ble_eq_true rfl) ?_
  refine V_w (zqs_f (tu' := (q : Int) + 1) rfl) ?_
  refine V_aload_n d_Ref_turnKey_77 rfl ?_
  refine V_getf d_Ref_turnKey_78 ff_Ref_111 zqs_o rfl ?_
  refine V_istore_n d_Ref_turnKey_81 (by decide) ?_
  refine V_aload_n d_Ref_turnKey_82 rfl ?_
  refine V_getf d_Ref_turnKey_83 ff_Ref_32 zqs_o rfl ?_
  refine V_iload_n d_Ref_turnKey_86 rfl ?_
  refine V_iload_n d_Ref_turnKey_87 rfl ?_
  refine J_iastore d_Ref_turnKey_88 zqs_a6 (by omega) (by decide) ?_
  refine V_w zqs_u6 ?_
  refine V_aload_n d_Ref_turnKey_89 rfl ?_
  refine V_aload_n d_Ref_turnKey_90 rfl ?_
  refine V_getf d_Ref_turnKey_91 ff_Ref_16 zqs_o rfl ?_
  refine V_iload_n d_Ref_turnKey_94 rfl ?_
  refine V_aload_n d_Ref_turnKey_95 rfl ?_
  refine V_getf d_Ref_turnKey_96 ff_Ref_54 zqs_o rfl ?_
  refine V_callV (n := 3) d_Ref_turnKey_99 g_Ref_134 rfl zqs_o rfl (r_turned G _ C 0 kd nn t ((q : Int) + 1) ch ke (zlu L 6 (zu (L 6) ((q : Int) + 1) g)) w0 nn rfl hn 1 13 g (by unfold zqi; decide) (by unfold zqi; decide) (by decide) (by omega)) ⟨co_Ref_turned, by decide +kernel, Nat.le_of_ble_eq_true rfl⟩ ⟨Nat.le_of_ble_eq_true rfl, Nat.le_of_ble_eq_true rfl, Nat.le_of_ble_eq_true rfl, Nat.le_of_ble_eq_true rfl⟩ (Nat.le_of_ble_eq_true rfl) (fun r_99 w_99 s_99 q_99 => ?_) (fun _ _ _ q => False.elim q)
  obtain ⟨rfl, rfl, rfl⟩ := q_99
  refine V_aload_n d_Ref_turnKey_102 rfl ?_
  refine V_iload_n d_Ref_turnKey_103 rfl ?_
  refine V_callV (n := 1) d_Ref_turnKey_104 g_Ref_123 rfl zqs_o rfl (r_pairs G _ C 0 kd nn t ((q : Int) + 1) ch ke (zlu (zlu L 6 (zu (L 6) ((q : Int) + 1) g)) 13 (zqt nn g (L 1) (L 13) nn)) w0 nn rfl hn (q + 1) (by omega) hSa (fun i hi => hT i hi)) ⟨co_Ref_pairs, by decide +kernel, Nat.le_of_ble_eq_true rfl⟩ ⟨Nat.le_of_ble_eq_true rfl, Nat.le_of_ble_eq_true rfl, Nat.le_of_ble_eq_true rfl, Nat.le_of_ble_eq_true rfl⟩ (Nat.le_of_ble_eq_true rfl) (fun r_104 w_104 s_104 q_104 => ?_) (fun _ _ _ q => False.elim q)
  obtain ⟨rfl, rfl, rfl⟩ := q_104
  refine V_aload_n d_Ref_turnKey_107 rfl ?_
  refine V_getf d_Ref_turnKey_108 ff_Ref_111 zqs_o rfl ?_
  exact V_ireturn d_Ref_turnKey_111 rfl ⟨Nat.le_of_ble_eq_true rfl, Nat.le_of_ble_eq_true rfl⟩ ⟨rfl, rfl, rfl⟩

