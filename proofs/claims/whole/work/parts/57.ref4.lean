set_option maxRecDepth 100000 in
set_option maxHeartbeats 4000000 in
theorem r_pairs (G : zG) (sz C : Nat) (th kd n t tu : Int) (ch : Int32) (ke : Int) (L : Nat → Int → Int) (w0 : zW) (nn : Nat) (hnn : n = (nn : Int)) (hn : nn ≤ 32) (a : Nat) (ha : a < 5) (hSa : ∀ j : Int, 0 ≤ j → j < 32 → -1 ≤ L 1 j ∧ L 1 j ≤ 1) (hU : ∀ i : Nat, i < nn → -9223372036854775808 ≤ L 13 i ∧ L 13 i < 9223372036854775808) : zCt G M_Ref_pairs (zR 2 0 0 53) [.ref C, .int (Int32.ofInt (a : Int))] sz (zqs G C th kd n t tu ch ke L w0) (zdet none (zqs G C th kd n t tu (zSwc nn ch 6) ke (zqP nn ch a L 6) w0) sz) := by
  subst hnn
  refine J_lconst (z := 1) d_Ref_pairs_0 rfl ?_
  refine V_lstore_n d_Ref_pairs_1 (by decide) ?_
  refine V_iconst d_Ref_pairs_2 ?_
  refine V_istore d_Ref_pairs_3 (by decide) ?_
  have st : ∀ k : Nat, k < 6 → (fun k : Nat => V G M_Ref_pairs (zdet none (zqs G C th kd nn t tu (zSwc nn ch 6) ke (zqP nn ch a L 6) w0) sz) (zR 2 0 0 53) 0 0 sz 5 [(0, .ref C), (1, .int (Int32.ofInt (a : Int))), (2, .long (Int64.ofInt (32 ^ k))), (4, .int (Int32.ofInt (k : Int)))] [] (zqs G C th kd nn t tu (zSwc nn ch k) ke (zqP nn ch a L k) w0)) (k + 1) → (fun k : Nat => V G M_Ref_pairs (zdet none (zqs G C th kd nn t tu (zSwc nn ch 6) ke (zqP nn ch a L 6) w0) sz) (zR 2 0 0 53) 0 0 sz 5 [(0, .ref C), (1, .int (Int32.ofInt (a : Int))), (2, .long (Int64.ofInt (32 ^ k))), (4, .int (Int32.ofInt (k : Int)))] [] (zqs G C th kd nn t tu (zSwc nn ch k) ke (zqP nn ch a L k) w0)) k := by
    intro k hk ih
    have hp32 : 0 ≤ (32 : Int) ^ k ∧ (32 : Int) ^ k < 268435399 := (show ∀ k : Nat, k < 6 → 0 ≤ (32 : Int) ^ k ∧ (32 : Int) ^ k < 268435399 by decide +kernel) k hk
    have st2 : ∀ i : Nat, i < nn → (fun i : Nat => V G M_Ref_pairs (zdet none (zqs G C th kd nn t tu (zSwc nn ch 6) ke (zqP nn ch a L 6) w0) sz) (zR 2 0 0 53) 0 0 sz 47 [(0, .ref C), (1, .int (Int32.ofInt (a : Int))), (2, .long (Int64.ofInt (32 ^ k))), (4, .int (Int32.ofInt (k : Int))), (5, .int (Int32.ofInt (i : Int)))] [] (zqs G C th kd nn t tu (zMkc nn (zSwc nn ch k)) ke (zqW nn a k i (zqR nn (zSwc nn ch k) (zqP nn ch a L k))) w0)) (i + 1) → (fun i : Nat => V G M_Ref_pairs (zdet none (zqs G C th kd nn t tu (zSwc nn ch 6) ke (zqP nn ch a L 6) w0) sz) (zR 2 0 0 53) 0 0 sz 47 [(0, .ref C), (1, .int (Int32.ofInt (a : Int))), (2, .long (Int64.ofInt (32 ^ k))), (4, .int (Int32.ofInt (k : Int))), (5, .int (Int32.ofInt (i : Int)))] [] (zqs G C th kd nn t tu (zMkc nn (zSwc nn ch k)) ke (zqW nn a k i (zqR nn (zSwc nn ch k) (zqP nn ch a L k))) w0)) i := by
      intro i hi ih2
      have hv : 0 ≤ (zqR nn (zSwc nn ch k) (zqP nn ch a L k)) 14 i ∧ (zqR nn (zSwc nn ch k) (zqP nn ch a L k)) 14 i < 268435399 := by unfold zqR; rw [zlu_s, zif_l (by omega)]; exact zqm _
      have hy : -3 ≤ (zqR nn (zSwc nn ch k) (zqP nn ch a L k)) 17 i ∧ (zqR nn (zSwc nn ch k) (zqP nn ch a L k)) 17 i ≤ 3 := by show -3 ≤ zif nn (zrE (zlcN (zSwc nn ch k) (2 * nn))) ((zqP nn ch a L k) 17) i ∧ zif nn (zrE (zlcN (zSwc nn ch k) (2 * nn))) ((zqP nn ch a L k) 17) i ≤ 3; rw [zif_l (by omega)]; exact zrE_b _ _
      have hu : -9223372036854775808 ≤ L 13 i ∧ L 13 i < 9223372036854775808 := hU i hi
      have e13 : (zqR nn (zSwc nn ch k) (zqP nn ch a L k)) 13 = L 13 := zqP_o (by decide) k
      have hq := zqm (32 ^ k)
      have hq2 := zqm ((zqR nn (zSwc nn ch k) (zqP nn ch a L k)) 13 i)
      have hpr := zprq hq hq2
      have hr := zqm (32 ^ k % 268435399 * ((zqR nn (zSwc nn ch k) (zqP nn ch a L k)) 13 i % 268435399))
      refine V_iload d_Ref_pairs_47 rfl ?_
      refine V_aload_n d_Ref_pairs_49 rfl ?_
      refine V_getf d_Ref_pairs_50 ff_Ref_7 zqs_o rfl ?_
      refine J_icmp_ge 145 d_Ref_pairs_53 (by decide) (by omega) (by omega) (fun c_53 => absurd c_53 (by omega)) (fun c_53 => ?_)
      refine V_aload_n d_Ref_pairs_56 rfl ?_
      refine V_getf d_Ref_pairs_57 ff_Ref_26 zqs_o rfl ?_
      refine V_iload_n d_Ref_pairs_60 rfl ?_
      refine J_bipush d_Ref_pairs_61 (by decide) ?_
      refine J_imul d_Ref_pairs_63 ?_
      refine V_iload d_Ref_pairs_64 rfl ?_
      refine J_iadd d_Ref_pairs_66 ?_
      refine J_bipush d_Ref_pairs_67 (by decide) ?_
      refine J_imul d_Ref_pairs_69 ?_
      refine V_iload d_Ref_pairs_70 rfl ?_
      refine J_iadd d_Ref_pairs_72 ?_
      refine V_aload_n d_Ref_pairs_73 rfl ?_
      refine V_getf d_Ref_pairs_74 ff_Ref_57 zqs_o rfl ?_
      refine V_iload d_Ref_pairs_77 rfl ?_
      refine J_laload d_Ref_pairs_79 (zqs_r (j := 14) (by unfold zqi; decide)) (by omega) (by decide) ?_
      refine V_aload_n d_Ref_pairs_80 rfl ?_
      refine V_getf d_Ref_pairs_81 ff_Ref_66 zqs_o rfl ?_
      refine V_iload d_Ref_pairs_84 rfl ?_
      refine J_laload d_Ref_pairs_86 (zqs_r (j := 17) (by unfold zqi; decide)) (by omega) (by decide) ?_
      refine J_ladd d_Ref_pairs_87 ?_
      refine J_lneg d_Ref_pairs_88 ?_
      refine V_lload_n d_Ref_pairs_89 rfl ?_
      refine J_ldc2 d_Ref_pairs_90 k_Ref_72 ?_
      refine J_lremP d_Ref_pairs_93 (by omega) (by omega) ?_
      refine V_aload_n d_Ref_pairs_94 rfl ?_
      refine V_getf d_Ref_pairs_95 ff_Ref_54 zqs_o rfl ?_
      refine V_iload d_Ref_pairs_98 rfl ?_
      refine J_laload d_Ref_pairs_100 (zqs_r (j := 13) (by unfold zqi; decide)) (by omega) (by decide) ?_
      refine V_callS (n := 1) d_Ref_pairs_101 g_Ref_74 rfl (r_of G _ _ ((zqR nn (zSwc nn ch k) (zqP nn ch a L k)) 13 i) (by rw [e13]; exact hu)) ⟨co_Ref_of, by decide +kernel, Nat.le_of_ble_eq_true rfl⟩ ⟨Nat.le_of_ble_eq_true rfl, Nat.le_of_ble_eq_true rfl, Nat.le_of_ble_eq_true rfl, Nat.le_of_ble_eq_true rfl⟩ (Nat.le_of_ble_eq_true rfl) (fun r_101 w_101 s_101 q_101 => ?_) (fun _ _ _ q => False.elim q)
      obtain ⟨rfl, rfl, rfl⟩ := q_101
      refine J_lmul d_Ref_pairs_104 ?_
      refine J_ldc2 d_Ref_pairs_105 k_Ref_72 ?_
      refine J_lremP d_Ref_pairs_108 hpr (by omega) ?_
      refine J_ladd d_Ref_pairs_109 ?_
      refine V_callS (n := 1) d_Ref_pairs_110 g_Ref_74 rfl (r_of G _ _ (-((zqR nn (zSwc nn ch k) (zqP nn ch a L k)) 14 i + (zqR nn (zSwc nn ch k) (zqP nn ch a L k)) 17 i) + (32 ^ k % 268435399 * ((zqR nn (zSwc nn ch k) (zqP nn ch a L k)) 13 i % 268435399)) % 268435399) (by omega)) ⟨co_Ref_of, by decide +kernel, Nat.le_of_ble_eq_true rfl⟩ ⟨Nat.le_of_ble_eq_true rfl, Nat.le_of_ble_eq_true rfl, Nat.le_of_ble_eq_true rfl, Nat.le_of_ble_eq_true rfl⟩ (Nat.le_of_ble_eq_true rfl) (fun r_110 w_110 s_110 q_110 => ?_) (fun _ _ _ q => False.elim q)
      obtain ⟨rfl, rfl, rfl⟩ := q_110
      refine J_lastore d_Ref_pairs_113 zqs_a4 (by omega) (by decide) ?_
      refine V_w zqs_u4 ?_
      refine V_aload_n d_Ref_pairs_114 rfl ?_
      refine V_getf d_Ref_pairs_115 ff_Ref_29 zqs_o rfl ?_
      refine V_iload_n d_Ref_pairs_118 rfl ?_
      refine J_bipush d_Ref_pairs_119 (by decide) ?_
      refine J_imul d_Ref_pairs_121 ?_
      refine V_iload d_Ref_pairs_122 rfl ?_
      refine J_iadd d_Ref_pairs_124 ?_
      refine J_bipush d_Ref_pairs_125 (by decide) ?_
      refine J_imul d_Ref_pairs_127 ?_
      refine V_iload d_Ref_pairs_128 rfl ?_
      refine J_iadd d_Ref_pairs_130 ?_
      refine V_aload_n d_Ref_pairs_131 rfl ?_
      refine V_getf d_Ref_pairs_132 ff_Ref_63 zqs_o rfl ?_
      refine V_iload d_Ref_pairs_135 rfl ?_
      refine J_laload d_Ref_pairs_137 (zqs_r (j := 16) (by unfold zqi; decide)) (by omega) (by decide) ?_
      refine J_lastore d_Ref_pairs_138 zqs_a5 (by omega) (by decide) ?_
      refine J_iinc d_Ref_pairs_139 rfl (by decide) ?_
      refine V_goto 47 d_Ref_pairs_142 (by decide) ?_
      refine V_w (zqs_u5.trans ?_) ih2
      exact congrArg (fun Z => zqs G C th kd nn t tu (zMkc nn (zSwc nn ch k)) ke Z w0) zqW_s
    refine V_iload d_Ref_pairs_5 rfl ?_
    refine J_bipush d_Ref_pairs_7 (by decide) ?_
    refine J_icmp_ge 157 d_Ref_pairs_9 (by decide) (by omega) (by omega) (fun c_9 => absurd c_9 (by omega)) (fun c_9 => ?_)
    refine V_aload_n d_Ref_pairs_12 rfl ?_
    refine V_aload_n d_Ref_pairs_13 rfl ?_
    refine V_getf d_Ref_pairs_14 ff_Ref_63 zqs_o rfl ?_
    refine V_callV (n := 1) d_Ref_pairs_17 g_Ref_91 rfl zqs_o rfl (r_uniform G _ C th kd nn t tu (zSwc nn ch k) ke (zqP nn ch a L k) w0 nn rfl hn 16 (by unfold zqi; decide)) ⟨co_Ref_uniform, by decide +kernel, Nat.le_of_ble_eq_true rfl⟩ ⟨Nat.le_of_ble_eq_true rfl, Nat.le_of_ble_eq_true rfl, Nat.le_of_ble_eq_true rfl, Nat.le_of_ble_eq_true rfl⟩ (Nat.le_of_ble_eq_true rfl) (fun r_17 w_17 s_17 q_17 => ?_) (fun _ _ _ q => False.elim q)
    obtain ⟨rfl, rfl, rfl⟩ := q_17
    refine V_aload_n d_Ref_pairs_20 rfl ?_
    refine V_aload_n d_Ref_pairs_21 rfl ?_
    refine V_getf d_Ref_pairs_22 ff_Ref_66 zqs_o rfl ?_
    refine V_callV (n := 1) d_Ref_pairs_25 g_Ref_95 rfl zqs_o rfl (r_error G _ C th kd nn t tu (zlcN (zSwc nn ch k) (2 * nn)) ke (zlu (zqP nn ch a L k) 16 (zif nn (zrU (zSwc nn ch k)) ((zqP nn ch a L k) 16))) w0 nn rfl hn 17 (by unfold zqi; decide)) ⟨co_Ref_error, by decide +kernel, Nat.le_of_ble_eq_true rfl⟩ ⟨Nat.le_of_ble_eq_true rfl, Nat.le_of_ble_eq_true rfl, Nat.le_of_ble_eq_true rfl, Nat.le_of_ble_eq_true rfl⟩ (Nat.le_of_ble_eq_true rfl) (fun r_25 w_25 s_25 q_25 => ?_) (fun _ _ _ q => False.elim q)
    obtain ⟨rfl, rfl, rfl⟩ := q_25
    refine V_aload_n d_Ref_pairs_28 rfl ?_
    refine V_aload_n d_Ref_pairs_29 rfl ?_
    refine V_getf d_Ref_pairs_30 ff_Ref_63 zqs_o rfl ?_
    refine V_aload_n d_Ref_pairs_33 rfl ?_
    refine V_getf d_Ref_pairs_34 ff_Ref_16 zqs_o rfl ?_
    refine V_aload_n d_Ref_pairs_37 rfl ?_
    refine V_getf d_Ref_pairs_38 ff_Ref_57 zqs_o rfl ?_
    refine V_callV (n := 3) d_Ref_pairs_41 g_Ref_98 rfl zqs_o rfl (r_reduced G _ C th kd nn t tu (zMkc nn (zSwc nn ch k)) ke (zlu (zlu (zqP nn ch a L k) 16 (zif nn (zrU (zSwc nn ch k)) ((zqP nn ch a L k) 16))) 17 (zif nn (zrE (zlcN (zSwc nn ch k) (2 * nn))) ((zlu (zqP nn ch a L k) 16 (zif nn (zrU (zSwc nn ch k)) ((zqP nn ch a L k) 16))) 17))) w0 nn rfl hn 16 1 14 (by unfold zqi; decide) (by unfold zqi; decide) (by unfold zqi; decide) (by decide) (by decide) (fun j hj => by have h0 := zrU_b (zSwc nn ch k) j; show -9223372036854775808 ≤ zif nn (zrU (zSwc nn ch k)) ((zqP nn ch a L k) 16) j ∧ zif nn (zrU (zSwc nn ch k)) ((zqP nn ch a L k) 16) j < 9223372036854775808; rw [zif_l (by omega)]; exact ⟨by omega, by omega⟩) (fun j h1 h2 => by have h := hSa j h1 (by omega); show -9223372036854775808 ≤ (zqP nn ch a L k) 1 j ∧ (zqP nn ch a L k) 1 j < 9223372036854775808; rw [zqP_o (by decide) k]; exact ⟨by omega, by omega⟩)) ⟨co_Ref_reduced, by decide +kernel, Nat.le_of_ble_eq_true rfl⟩ ⟨Nat.le_of_ble_eq_true rfl, Nat.le_of_ble_eq_true rfl, Nat.le_of_ble_eq_true rfl, Nat.le_of_ble_eq_true rfl⟩ (Nat.le_of_ble_eq_true rfl) (fun r_41 w_41 s_41 q_41 => ?_) (fun _ _ _ q => False.elim q)
    obtain ⟨rfl, rfl, rfl⟩ := q_41
    refine V_iconst d_Ref_pairs_44 ?_
    refine V_istore d_Ref_pairs_45 (by decide) ?_
    refine V_w (w' := (zqs G C th kd nn t tu (zMkc nn (zSwc nn ch k)) ke (zqW nn a k 0 (zqR nn (zSwc nn ch k) (zqP nn ch a L k))) w0)) (by rw [zqW_0] <;> rfl) ?_
    refine zfor nn (fun i : Nat => V G M_Ref_pairs (zdet none (zqs G C th kd nn t tu (zSwc nn ch 6) ke (zqP nn ch a L 6) w0) sz) (zR 2 0 0 53) 0 0 sz 47 [(0, .ref C), (1, .int (Int32.ofInt (a : Int))), (2, .long (Int64.ofInt (32 ^ k))), (4, .int (Int32.ofInt (k : Int))), (5, .int (Int32.ofInt (i : Int)))] [] (zqs G C th kd nn t tu (zMkc nn (zSwc nn ch k)) ke (zqW nn a k i (zqR nn (zSwc nn ch k) (zqP nn ch a L k))) w0)) ?_ st2 0 (Nat.zero_le nn)
    refine V_iload d_Ref_pairs_47 rfl ?_
    refine V_aload_n d_Ref_pairs_49 rfl ?_
    refine V_getf d_Ref_pairs_50 ff_Ref_7 zqs_o rfl ?_
    refine J_icmp_ge 145 d_Ref_pairs_53 (by decide) (by omega) (by omega) (fun c_53 => ?_) (fun c_53 => absurd c_53 (by omega))
    refine V_lload_n d_Ref_pairs_145 rfl ?_
    refine J_ldc2 d_Ref_pairs_146 k_Ref_102 ?_
    refine J_lmul d_Ref_pairs_149 ?_
    refine V_lstore_n d_Ref_pairs_150 (by decide) ?_
    refine J_iinc d_Ref_pairs_151 rfl (by decide) ?_
    refine V_goto 5 d_Ref_pairs_154 (by decide) ?_
    exact V_lo [0, 1, 2, 4] rfl ih
  refine zfor 6 (fun k : Nat => V G M_Ref_pairs (zdet none (zqs G C th kd nn t tu (zSwc nn ch 6) ke (zqP nn ch a L 6) w0) sz) (zR 2 0 0 53) 0 0 sz 5 [(0, .ref C), (1, .int (Int32.ofInt (a : Int))), (2, .long (Int64.ofInt (32 ^ k))), (4, .int (Int32.ofInt (k : Int)))] [] (zqs G C th kd nn t tu (zSwc nn ch k) ke (zqP nn ch a L k) w0)) ?_ st 0 (Nat.zero_le 6)
  refine V_iload d_Ref_pairs_5 rfl ?_
  refine J_bipush d_Ref_pairs_7 (by decide) ?_
  refine J_icmp_ge 157 d_Ref_pairs_9 (by decide) (by omega) (by omega) (fun c_9 => ?_) (fun c_9 => absurd c_9 (by omega))
  exact V_return d_Ref_pairs_157 rfl ⟨Nat.le_of_ble_eq_true rfl, Nat.le_of_ble_eq_true rfl⟩ ⟨rfl, rfl, rfl⟩

set_option maxRecDepth 100000 in
set_option maxHeartbeats 4000000 in
theorem r_set_p (G : zG) (sz C : Nat) (th kd n t tu : Int) (ch : Int32) (ke : Int) (L : Nat → Int → Int) (w0 : zW) (p i : Int) (v : Int32) (hp : -2147483648 ≤ p ∧ p < 2147483648) (hb : p < 0 ∨ 7 < p) : zCt G M_Ref_set (zR 1 0 0 20) [.ref C, .int (Int32.ofInt p), .int (Int32.ofInt i), .int v] sz (zqs G C th kd n t tu ch ke L w0) (zdet (some (.int (Int32.ofInt 0))) (zqs G C 1 kd n t tu ch ke L w0) sz) := by
  refine V_aload_n d_Ref_set_0 rfl ?_
  refine V_iload_n d_Ref_set_1 rfl ?_
  refine V_callS (n := 1) d_Ref_set_2 g_Ref_142 rfl (r_noPlain_y G _ _ p hp hb) ⟨co_Ref_noPlain, by decide +kernel, Nat.le_of_ble_eq_true rfl⟩ ⟨Nat.le_of_ble_eq_true rfl, Nat.le_of_ble_eq_true rfl, Nat.le_of_ble_eq_true rfl, Nat.le_of_ble_eq_true rfl⟩ (Nat.le_of_ble_eq_true rfl) (fun r_2 w_2 s_2 q_2 => ?_) (fun _ _ _ q => False.elim q)
  obtain ⟨rfl, rfl, rfl⟩ := q_2
  refine J_if_ne 20 d_Ref_set_5 (by decide) (by decide) (fun c_5 => ?_) (fun c_5 => absurd c_5 (by decide))
  refine V_iconst d_Ref_set_20 ?_
  refine V_goto 25 d_Ref_set_21 (by decide) ?_
  refine V_putf d_Ref_set_25 ff_Ref_69 zqs_o ⟨_, _, _, _, rfl, rfl, rfl, rfl, rfl⟩ (Nat.le_of_ble_eq_true rfl) ?_
  refine V_w (zqs_f (th' := 1) rfl) ?_
  refine V_aload_n d_Ref_set_28 rfl ?_
  refine V_getf d_Ref_set_29 ff_Ref_69 zqs_o rfl ?_
  refine J_if_le 37 d_Ref_set_32 (by decide) (by decide) (fun c_32 => absurd c_32 (by decide)) (fun c_32 => ?_)
  refine V_iconst d_Ref_set_35 ?_
  exact V_ireturn d_Ref_set_36 rfl ⟨Nat.le_of_ble_eq_true rfl, Nat.le_of_ble_eq_true rfl⟩ ⟨rfl, rfl, rfl⟩

set_option maxRecDepth 100000 in
set_option maxHeartbeats 4000000 in
theorem r_set_i (G : zG) (sz C : Nat) (th kd n t tu : Int) (ch : Int32) (ke : Int) (L : Nat → Int → Int) (w0 : zW) (p : Nat) (hp : p < 8) (i : Int) (v : Int32) (hi : -2147483648 ≤ i ∧ i < 2147483648) (hn : 0 ≤ n ∧ n ≤ 32) (hb : i < 0 ∨ n ≤ i) : zCt G M_Ref_set (zR 1 0 0 20) [.ref C, .int (Int32.ofInt (p : Int)), .int (Int32.ofInt i), .int v] sz (zqs G C th kd n t tu ch ke L w0) (zdet (some (.int (Int32.ofInt 0))) (zqs G C 1 kd n t tu ch ke L w0) sz) := by
  by_cases h0 : i < 0
  · skip
    refine V_aload_n d_Ref_set_0 rfl ?_
    refine V_iload_n d_Ref_set_1 rfl ?_
    refine V_callS (n := 1) d_Ref_set_2 g_Ref_142 rfl (r_noPlain_n G _ _ p (by omega)) ⟨co_Ref_noPlain, by decide +kernel, Nat.le_of_ble_eq_true rfl⟩ ⟨Nat.le_of_ble_eq_true rfl, Nat.le_of_ble_eq_true rfl, Nat.le_of_ble_eq_true rfl, Nat.le_of_ble_eq_true rfl⟩ (Nat.le_of_ble_eq_true rfl) (fun r_2 w_2 s_2 q_2 => ?_) (fun _ _ _ q => False.elim q)
    obtain ⟨rfl, rfl, rfl⟩ := q_2
    refine J_if_ne 20 d_Ref_set_5 (by decide) (by decide) (fun c_5 => absurd rfl c_5) (fun c_5 => ?_)
    refine V_iload_n d_Ref_set_8 rfl ?_
    refine J_if_lt 20 d_Ref_set_9 (by decide) (by omega) (fun c_9 => ?_) (fun c_9 => absurd c_9 (by omega))
    refine V_iconst d_Ref_set_20 ?_
    refine V_goto 25 d_Ref_set_21 (by decide) ?_
    refine V_putf d_Ref_set_25 ff_Ref_69 zqs_o ⟨_, _, _, _, rfl, rfl, rfl, rfl, rfl⟩ (Nat.le_of_ble_eq_true rfl) ?_
    refine V_w (zqs_f (th' := 1) rfl) ?_
    refine V_aload_n d_Ref_set_28 rfl ?_
    refine V_getf d_Ref_set_29 ff_Ref_69 zqs_o rfl ?_
    refine J_if_le 37 d_Ref_set_32 (by decide) (by decide) (fun c_32 => absurd c_32 (by decide)) (fun c_32 => ?_)
    refine V_iconst d_Ref_set_35 ?_
    exact V_ireturn d_Ref_set_36 rfl ⟨Nat.le_of_ble_eq_true rfl, Nat.le_of_ble_eq_true rfl⟩ ⟨rfl, rfl, rfl⟩
  · skip
    refine V_aload_n d_Ref_set_0 rfl ?_
    refine V_iload_n d_Ref_set_1 rfl ?_
    refine V_callS (n := 1) d_Ref_set_2 g_Ref_142 rfl (r_noPlain_n G _ _ p (by omega)) ⟨co_Ref_noPlain, by decide +kernel, Nat.le_of_ble_eq_true rfl⟩ ⟨Nat.le_of_ble_eq_true rfl, Nat.le_of_ble_eq_true rfl, Nat.le_of_ble_eq_true rfl, Nat.le_of_ble_eq_true rfl⟩ (Nat.le_of_ble_eq_true rfl) (fun r_2 w_2 s_2 q_2 => ?_) (fun _ _ _ q => False.elim q)
    obtain ⟨rfl, rfl, rfl⟩ := q_2
    refine J_if_ne 20 d_Ref_set_5 (by decide) (by decide) (fun c_5 => absurd rfl c_5) (fun c_5 => ?_)
    refine V_iload_n d_Ref_set_8 rfl ?_
    refine J_if_lt 20 d_Ref_set_9 (by decide) (by omega) (fun c_9 => absurd c_9 (by omega)) (fun c_9 => ?_)
    refine V_iload_n d_Ref_set_12 rfl ?_
    refine V_aload_n d_Ref_set_13 rfl ?_
    refine V_getf d_Ref_set_14 ff_Ref_7 zqs_o rfl ?_
    refine J_icmp_lt 24 d_Ref_set_17 (by decide) (by omega) (by omega) (fun c_17 => absurd c_17 (by omega)) (fun c_17 => ?_)
    refine V_iconst d_Ref_set_20 ?_
    refine V_goto 25 d_Ref_set_21 (by decide) ?_
    refine V_putf d_Ref_set_25 ff_Ref_69 zqs_o ⟨_, _, _, _, rfl, rfl, rfl, rfl, rfl⟩ (Nat.le_of_ble_eq_true rfl) ?_
    refine V_w (zqs_f (th' := 1) rfl) ?_
    refine V_aload_n d_Ref_set_28 rfl ?_
    refine V_getf d_Ref_set_29 ff_Ref_69 zqs_o rfl ?_
    refine J_if_le 37 d_Ref_set_32 (by decide) (by decide) (fun c_32 => absurd c_32 (by decide)) (fun c_32 => ?_)
    refine V_iconst d_Ref_set_35 ?_
    exact V_ireturn d_Ref_set_36 rfl ⟨Nat.le_of_ble_eq_true rfl, Nat.le_of_ble_eq_true rfl⟩ ⟨rfl, rfl, rfl⟩

set_option maxRecDepth 100000 in
set_option maxHeartbeats 4000000 in
theorem r_get_p (G : zG) (sz C : Nat) (th kd n t tu : Int) (ch : Int32) (ke : Int) (L : Nat → Int → Int) (w0 : zW) (p i : Int)  (hp : -2147483648 ≤ p ∧ p < 2147483648) (hb : p < 0 ∨ 7 < p) : zCt G M_Ref_get (zR 1 0 0 20) [.ref C, .int (Int32.ofInt p), .int (Int32.ofInt i)] sz (zqs G C th kd n t tu ch ke L w0) (zdet (some (.int (Int32.ofInt 0))) (zqs G C 1 kd n t tu ch ke L w0) sz) := by
  refine V_aload_n d_Ref_get_0 rfl ?_
  refine V_iload_n d_Ref_get_1 rfl ?_
  refine V_callS (n := 1) d_Ref_get_2 g_Ref_142 rfl (r_noPlain_y G _ _ p hp hb) ⟨co_Ref_noPlain, by decide +kernel, Nat.le_of_ble_eq_true rfl⟩ ⟨Nat.le_of_ble_eq_true rfl, Nat.le_of_ble_eq_true rfl, Nat.le_of_ble_eq_true rfl, Nat.le_of_ble_eq_true rfl⟩ (Nat.le_of_ble_eq_true rfl) (fun r_2 w_2 s_2 q_2 => ?_) (fun _ _ _ q => False.elim q)
  obtain ⟨rfl, rfl, rfl⟩ := q_2
  refine J_if_ne 20 d_Ref_get_5 (by decide) (by decide) (fun c_5 => ?_) (fun c_5 => absurd c_5 (by decide))
  refine V_iconst d_Ref_get_20 ?_
  refine V_goto 25 d_Ref_get_21 (by decide) ?_
  refine V_putf d_Ref_get_25 ff_Ref_69 zqs_o ⟨_, _, _, _, rfl, rfl, rfl, rfl, rfl⟩ (Nat.le_of_ble_eq_true rfl) ?_
  refine V_w (zqs_f (th' := 1) rfl) ?_
  refine V_aload_n d_Ref_get_28 rfl ?_
  refine V_getf d_Ref_get_29 ff_Ref_69 zqs_o rfl ?_
  refine J_if_le 39 d_Ref_get_32 (by decide) (by decide) (fun c_32 => absurd c_32 (by decide)) (fun c_32 => ?_)
  refine V_iconst d_Ref_get_35 ?_
  refine V_goto 50 d_Ref_get_36 (by decide) ?_
  exact V_ireturn d_Ref_get_50 rfl ⟨Nat.le_of_ble_eq_true rfl, Nat.le_of_ble_eq_true rfl⟩ ⟨rfl, rfl, rfl⟩

set_option maxRecDepth 100000 in
set_option maxHeartbeats 4000000 in
theorem r_get_i (G : zG) (sz C : Nat) (th kd n t tu : Int) (ch : Int32) (ke : Int) (L : Nat → Int → Int) (w0 : zW) (p : Nat) (hp : p < 8) (i : Int)  (hi : -2147483648 ≤ i ∧ i < 2147483648) (hn : 0 ≤ n ∧ n ≤ 32) (hb : i < 0 ∨ n ≤ i) : zCt G M_Ref_get (zR 1 0 0 20) [.ref C, .int (Int32.ofInt (p : Int)), .int (Int32.ofInt i)] sz (zqs G C th kd n t tu ch ke L w0) (zdet (some (.int (Int32.ofInt 0))) (zqs G C 1 kd n t tu ch ke L w0) sz) := by
  by_cases h0 : i < 0
  · skip
    refine V_aload_n d_Ref_get_0 rfl ?_
    refine V_iload_n d_Ref_get_1 rfl ?_
    refine V_callS (n := 1) d_Ref_get_2 g_Ref_142 rfl (r_noPlain_n G _ _ p (by omega)) ⟨co_Ref_noPlain, by decide +kernel, Nat.le_of_ble_eq_true rfl⟩ ⟨Nat.le_of_ble_eq_true rfl, Nat.le_of_ble_eq_true rfl, Nat.le_of_ble_eq_true rfl, Nat.le_of_ble_eq_true rfl⟩ (Nat.le_of_ble_eq_true rfl) (fun r_2 w_2 s_2 q_2 => ?_) (fun _ _ _ q => False.elim q)
    obtain ⟨rfl, rfl, rfl⟩ := q_2
    refine J_if_ne 20 d_Ref_get_5 (by decide) (by decide) (fun c_5 => absurd rfl c_5) (fun c_5 => ?_)
    refine V_iload_n d_Ref_get_8 rfl ?_
    refine J_if_lt 20 d_Ref_get_9 (by decide) (by omega) (fun c_9 => ?_) (fun c_9 => absurd c_9 (by omega))
    refine V_iconst d_Ref_get_20 ?_
    refine V_goto 25 d_Ref_get_21 (by decide) ?_
    refine V_putf d_Ref_get_25 ff_Ref_69 zqs_o ⟨_, _, _, _, rfl, rfl, rfl, rfl, rfl⟩ (Nat.le_of_ble_eq_true rfl) ?_
    refine V_w (zqs_f (th' := 1) rfl) ?_
    refine V_aload_n d_Ref_get_28 rfl ?_
    refine V_getf d_Ref_get_29 ff_Ref_69 zqs_o rfl ?_
    refine J_if_le 39 d_Ref_get_32 (by decide) (by decide) (fun c_32 => absurd c_32 (by decide)) (fun c_32 => ?_)
    refine V_iconst d_Ref_get_35 ?_
    refine V_goto 50 d_Ref_get_36 (by decide) ?_
    exact V_ireturn d_Ref_get_50 rfl ⟨Nat.le_of_ble_eq_true rfl, Nat.le_of_ble_eq_true rfl⟩ ⟨rfl, rfl, rfl⟩
  · skip
    refine V_aload_n d_Ref_get_0 rfl ?_
    refine V_iload_n d_Ref_get_1 rfl ?_
    refine V_callS (n := 1) d_Ref_get_2 g_Ref_142 rfl (r_noPlain_n G _ _ p (by omega)) ⟨co_Ref_noPlain, by decide +kernel, Nat.le_of_ble_eq_true rfl⟩ ⟨Nat.le_of_ble_eq_true rfl, Nat.le_of_ble_eq_true rfl, Nat.le_of_ble_eq_true rfl, Nat.le_of_ble_eq_true rfl⟩ (Nat.le_of_ble_eq_true rfl) (fun r_2 w_2 s_2 q_2 => ?_) (fun _ _ _ q => False.elim q)
    obtain ⟨rfl, rfl, rfl⟩ := q_2
    refine J_if_ne 20 d_Ref_get_5 (by decide) (by decide) (fun c_5 => absurd rfl c_5) (fun c_5 => ?_)
    refine V_iload_n d_Ref_get_8 rfl ?_
    refine J_if_lt 20 d_Ref_get_9 (by decide) (by omega) (fun c_9 => absurd c_9 (by omega)) (fun c_9 => ?_)
    refine V_iload_n d_Ref_get_12 rfl ?_
    refine V_aload_n d_Ref_get_13 rfl ?_
    refine V_getf d_Ref_get_14 ff_Ref_7 zqs_o rfl ?_
    refine J_icmp_lt 24 d_Ref_get_17 (by decide) (by omega) (by omega) (fun c_17 => absurd c_17 (by omega)) (fun c_17 => ?_)
    refine V_iconst d_Ref_get_20 ?_
    refine V_goto 25 d_Ref_get_21 (by decide) ?_
    refine V_putf d_Ref_get_25 ff_Ref_69 zqs_o ⟨_, _, _, _, rfl, rfl, rfl, rfl, rfl⟩ (Nat.le_of_ble_eq_true rfl) ?_
    refine V_w (zqs_f (th' := 1) rfl) ?_
    refine V_aload_n d_Ref_get_28 rfl ?_
    refine V_getf d_Ref_get_29 ff_Ref_69 zqs_o rfl ?_
    refine J_if_le 39 d_Ref_get_32 (by decide) (by decide) (fun c_32 => absurd c_32 (by decide)) (fun c_32 => ?_)
    refine V_iconst d_Ref_get_35 ?_
    refine V_goto 50 d_Ref_get_36 (by decide) ?_
    exact V_ireturn d_Ref_get_50 rfl ⟨Nat.le_of_ble_eq_true rfl, Nat.le_of_ble_eq_true rfl⟩ ⟨rfl, rfl, rfl⟩

set_option maxRecDepth 100000 in
set_option maxHeartbeats 4000000 in
theorem r_get (G : zG) (sz C : Nat) (th kd n t tu : Int) (ch : Int32) (ke : Int) (L : Nat → Int → Int) (w0 : zW) (p : Nat) (hp : p < 8) (i : Int) (hn : 0 ≤ n ∧ n ≤ 32) (hi : 0 ≤ i ∧ i < n) : zCt G M_Ref_get (zR 1 0 0 20) [.ref C, .int (Int32.ofInt (p : Int)), .int (Int32.ofInt i)] sz (zqs G C th kd n t tu ch ke L w0) (zdet (some (.int (Int32.ofInt (L 7 (32 * (p : Int) + i))))) (zqs G C 0 kd n t tu ch ke L w0) sz) := by
  refine V_aload_n d_Ref_get_0 rfl ?_
  refine V_iload_n d_Ref_get_1 rfl ?_
  refine V_callS (n := 1) d_Ref_get_2 g_Ref_142 rfl (r_noPlain_n G _ _ p (by omega)) ⟨co_Ref_noPlain, by decide +kernel, Nat.le_of_ble_eq_true rfl⟩ ⟨Nat.le_of_ble_eq_true rfl, Nat.le_of_ble_eq_true rfl, Nat.le_of_ble_eq_true rfl, Nat.le_of_ble_eq_true rfl⟩ (Nat.le_of_ble_eq_true rfl) (fun r_2 w_2 s_2 q_2 => ?_) (fun _ _ _ q => False.elim q)
  obtain ⟨rfl, rfl, rfl⟩ := q_2
  refine J_if_ne 20 d_Ref_get_5 (by decide) (by decide) (fun c_5 => absurd rfl c_5) (fun c_5 => ?_)
  refine V_iload_n d_Ref_get_8 rfl ?_
  refine J_if_lt 20 d_Ref_get_9 (by decide) (by omega) (fun c_9 => absurd c_9 (by omega)) (fun c_9 => ?_)
  refine V_iload_n d_Ref_get_12 rfl ?_
  refine V_aload_n d_Ref_get_13 rfl ?_
  refine V_getf d_Ref_get_14 ff_Ref_7 zqs_o rfl ?_
  refine J_icmp_lt 24 d_Ref_get_17 (by decide) (by omega) (by omega) (fun c_17 => ?_) (fun c_17 => absurd c_17 (by omega))
  refine V_iconst d_Ref_get_24 ?_
  refine V_putf d_Ref_get_25 ff_Ref_69 zqs_o ⟨_, _, _, _, rfl, rfl, rfl, rfl, rfl⟩ (Nat.le_of_ble_eq_true rfl) ?_
  refine V_w (zqs_f (th' := 0) rfl) ?_
  refine V_aload_n d_Ref_get_28 rfl ?_
  refine V_getf d_Ref_get_29 ff_Ref_69 zqs_o rfl ?_
  refine J_if_le 39 d_Ref_get_32 (by decide) (by decide) (fun c_32 => ?_) (fun c_32 => absurd c_32 (by decide))
  refine V_aload_n d_Ref_get_39 rfl ?_
  refine V_getf d_Ref_get_40 ff_Ref_36 zqs_o rfl ?_
  refine J_bipush d_Ref_get_43 (by decide) ?_
  refine V_iload_n d_Ref_get_45 rfl ?_
  refine J_imul d_Ref_get_46 ?_
  refine V_iload_n d_Ref_get_47 rfl ?_
  refine J_iadd d_Ref_get_48 ?_
  refine J_iaload d_Ref_get_49 zqs_a7 (by omega) (by decide) ?_
  exact V_ireturn d_Ref_get_50 rfl ⟨Nat.le_of_ble_eq_true rfl, Nat.le_of_ble_eq_true rfl⟩ ⟨rfl, rfl, rfl⟩

theorem zsm1 {a b : Int} (hb : 0 < b) (h : 0 ≤ a.tmod b) : a.tmod b = a % b := by
  rw [zfm (a := a) hb]
  by_cases h1 : 0 ≤ a ∨ a.tmod b = 0
  · rw [if_pos h1]; omega
  · have := ztm_np (a := a) b (by omega)
    omega
theorem zsm2 {a b : Int} (hb : 0 < b) (h : a.tmod b < 0) : a.tmod b + b = a % b := by
  rw [zfm (a := a) hb, if_neg]
  rintro (h1 | h1)
  · have := Int.tmod_nonneg b h1
    omega
  · omega

set_option maxRecDepth 100000 in
set_option maxHeartbeats 4000000 in
theorem r_set (G : zG) (sz C : Nat) (th kd n t tu : Int) (ch : Int32) (ke : Int) (L : Nat → Int → Int) (w0 : zW) (p : Nat) (hp : p < 8) (i v : Int) (hn : 0 ≤ n ∧ n ≤ 32) (hi : 0 ≤ i ∧ i < n) (hv : -2147483648 ≤ v ∧ v < 2147483648) (ht : 0 < t ∧ t ≤ 1000) : zCt G M_Ref_set (zR 1 0 0 20) [.ref C, .int (Int32.ofInt (p : Int)), .int (Int32.ofInt i), .int (Int32.ofInt v)] sz (zqs G C th kd n t tu ch ke L w0) (zdet (some (.int (Int32.ofInt (L 7 (32 * (p : Int) + i))))) (zqs G C 0 kd n t tu ch ke (zlu L 7 (zu (L 7) (32 * (p : Int) + i) (v % t))) w0) sz) := by
  have hv1 := tmod_bounds (a := v) (M := t) (by omega)
  by_cases h0 : v.tmod t < 0
  · skip
    refine V_aload_n d_Ref_set_0 rfl ?_
    refine V_iload_n d_Ref_set_1 rfl ?_
    refine V_callS (n := 1) d_Ref_set_2 g_Ref_142 rfl (r_noPlain_n G _ _ p (by omega)) ⟨co_Ref_noPlain, by decide +kernel, Nat.le_of_ble_eq_true rfl⟩ ⟨Nat.le_of_ble_eq_true rfl, Nat.le_of_ble_eq_true rfl, Nat.le_of_ble_eq_true rfl, Nat.le_of_ble_eq_true rfl⟩ (Nat.le_of_ble_eq_true rfl) (fun r_2 w_2 s_2 q_2 => ?_) (fun _ _ _ q => False.elim q)
    obtain ⟨rfl, rfl, rfl⟩ := q_2
    refine J_if_ne 20 d_Ref_set_5 (by decide) (by decide) (fun c_5 => absurd rfl c_5) (fun c_5 => ?_)
    refine V_iload_n d_Ref_set_8 rfl ?_
    refine J_if_lt 20 d_Ref_set_9 (by decide) (by omega) (fun c_9 => absurd c_9 (by omega)) (fun c_9 => ?_)
    refine V_iload_n d_Ref_set_12 rfl ?_
    refine V_aload_n d_Ref_set_13 rfl ?_
    refine V_getf d_Ref_set_14 ff_Ref_7 zqs_o rfl ?_
    refine J_icmp_lt 24 d_Ref_set_17 (by decide) (by omega) (by omega) (fun c_17 => ?_) (fun c_17 => absurd c_17 (by omega))
    refine V_iconst d_Ref_set_24 ?_
    refine V_putf d_Ref_set_25 ff_Ref_69 zqs_o ⟨_, _, _, _, rfl, rfl, rfl, rfl, rfl⟩ (Nat.le_of_ble_eq_true rfl) ?_
    refine V_w (zqs_f (th' := 0) rfl) ?_
    refine V_aload_n d_Ref_set_28 rfl ?_
    refine V_getf d_Ref_set_29 ff_Ref_69 zqs_o rfl ?_
    refine J_if_le 37 d_Ref_set_32 (by decide) (by decide) (fun c_32 => ?_) (fun c_32 => absurd c_32 (by decide))
    refine V_aload_n d_Ref_set_37 rfl ?_
    refine V_getf d_Ref_set_38 ff_Ref_36 zqs_o rfl ?_
    refine J_bipush d_Ref_set_41 (by decide) ?_
    refine V_iload_n d_Ref_set_43 rfl ?_
    refine J_imul d_Ref_set_44 ?_
    refine V_iload_n d_Ref_set_45 rfl ?_
    refine J_iadd d_Ref_set_46 ?_
    refine J_iaload d_Ref_set_47 zqs_a7 (by omega) (by decide) ?_
    refine V_istore d_Ref_set_48 (by decide) ?_
    refine V_iload_n d_Ref_set_50 rfl ?_
    refine V_aload_n d_Ref_set_51 rfl ?_
    refine V_getf d_Ref_set_52 ff_Ref_13 zqs_o rfl ?_
    refine J_irem d_Ref_set_55 (by omega) (by omega) ?_
    refine V_istore d_Ref_set_56 (by decide) ?_
    refine V_aload_n d_Ref_set_58 rfl ?_
    refine V_getf d_Ref_set_59 ff_Ref_36 zqs_o rfl ?_
    refine J_bipush d_Ref_set_62 (by decide) ?_
    refine V_iload_n d_Ref_set_64 rfl ?_
    refine J_imul d_Ref_set_65 ?_
    refine V_iload_n d_Ref_set_66 rfl ?_
    refine J_iadd d_Ref_set_67 ?_
    refine V_iload d_Ref_set_68 rfl ?_
    refine J_if_ge 83 d_Ref_set_70 (by decide) (by omega) (fun c_70 => absurd c_70 (by omega)) (fun c_70 => ?_)
    refine V_iload d_Ref_set_73 rfl ?_
    refine V_aload_n d_Ref_set_75 rfl ?_
    refine V_getf d_Ref_set_76 ff_Ref_13 zqs_o rfl ?_
    refine J_iadd d_Ref_set_79 ?_
    refine V_goto 85 d_Ref_set_80 (by decide) ?_
    rw [zsm2 (by omega) h0]
    refine J_iastore d_Ref_set_85 zqs_a7 (by omega) (by decide) ?_
    refine V_w zqs_u7 ?_
    refine V_iload d_Ref_set_86 rfl ?_
    exact V_ireturn d_Ref_set_88 rfl ⟨Nat.le_of_ble_eq_true rfl, Nat.le_of_ble_eq_true rfl⟩ ⟨rfl, rfl, rfl⟩
  · skip
    refine V_aload_n d_Ref_set_0 rfl ?_
    refine V_iload_n d_Ref_set_1 rfl ?_
    refine V_callS (n := 1) d_Ref_set_2 g_Ref_142 rfl (r_noPlain_n G _ _ p (by omega)) ⟨co_Ref_noPlain, by decide +kernel, Nat.le_of_ble_eq_true rfl⟩ ⟨Nat.le_of_ble_eq_true rfl, Nat.le_of_ble_eq_true rfl, Nat.le_of_ble_eq_true rfl, Nat.le_of_ble_eq_true rfl⟩ (Nat.le_of_ble_eq_true rfl) (fun r_2 w_2 s_2 q_2 => ?_) (fun _ _ _ q => False.elim q)
    obtain ⟨rfl, rfl, rfl⟩ := q_2
    refine J_if_ne 20 d_Ref_set_5 (by decide) (by decide) (fun c_5 => absurd rfl c_5) (fun c_5 => ?_)
    refine V_iload_n d_Ref_set_8 rfl ?_
    refine J_if_lt 20 d_Ref_set_9 (by decide) (by omega) (fun c_9 => absurd c_9 (by omega)) (fun c_9 => ?_)
    refine V_iload_n d_Ref_set_12 rfl ?_
    refine V_aload_n d_Ref_set_13 rfl ?_
    refine V_getf d_Ref_set_14 ff_Ref_7 zqs_o rfl ?_
    refine J_icmp_lt 24 d_Ref_set_17 (by decide) (by omega) (by omega) (fun c_17 => ?_) (fun c_17 => absurd c_17 (by omega))
    refine V_iconst d_Ref_set_24 ?_
    refine V_putf d_Ref_set_25 ff_Ref_69 zqs_o ⟨_, _, _, _, rfl, rfl, rfl, rfl, rfl⟩ (Nat.le_of_ble_eq_true rfl) ?_
    refine V_w (zqs_f (th' := 0) rfl) ?_
    refine V_aload_n d_Ref_set_28 rfl ?_
    refine V_getf d_Ref_set_29 ff_Ref_69 zqs_o rfl ?_
    refine J_if_le 37 d_Ref_set_32 (by decide) (by decide) (fun c_32 => ?_) (fun c_32 => absurd c_32 (by decide))
    refine V_aload_n d_Ref_set_37 rfl ?_
    refine V_getf d_Ref_set_38 ff_Ref_36 zqs_o rfl ?_
    refine J_bipush d_Ref_set_41 (by decide) ?_
    refine V_iload_n d_Ref_set_43 rfl ?_
    refine J_imul d_Ref_set_44 ?_
    refine V_iload_n d_Ref_set_45 rfl ?_
    refine J_iadd d_Ref_set_46 ?_
    refine J_iaload d_Ref_set_47 zqs_a7 (by omega) (by decide) ?_
    refine V_istore d_Ref_set_48 (by decide) ?_
    refine V_iload_n d_Ref_set_50 rfl ?_
    refine V_aload_n d_Ref_set_51 rfl ?_
    refine V_getf d_Ref_set_52 ff_Ref_13 zqs_o rfl ?_
    refine J_irem d_Ref_set_55 (by omega) (by omega) ?_
    refine V_istore d_Ref_set_56 (by decide) ?_
    refine V_aload_n d_Ref_set_58 rfl ?_
    refine V_getf d_Ref_set_59 ff_Ref_36 zqs_o rfl ?_
    refine J_bipush d_Ref_set_62 (by decide) ?_
    refine V_iload_n d_Ref_set_64 rfl ?_
    refine J_imul d_Ref_set_65 ?_
    refine V_iload_n d_Ref_set_66 rfl ?_
    refine J_iadd d_Ref_set_67 ?_
    refine V_iload d_Ref_set_68 rfl ?_
    refine J_if_ge 83 d_Ref_set_70 (by decide) (by omega) (fun c_70 => ?_) (fun c_70 => absurd c_70 (by omega))
    refine V_iload d_Ref_set_83 rfl ?_
    rw [zsm1 (by omega) (by omega)]
    refine J_iastore d_Ref_set_85 zqs_a7 (by omega) (by decide) ?_
    refine V_w zqs_u7 ?_
    refine V_iload d_Ref_set_86 rfl ?_
    exact V_ireturn d_Ref_set_88 rfl ⟨Nat.le_of_ble_eq_true rfl, Nat.le_of_ble_eq_true rfl⟩ ⟨rfl, rfl, rfl⟩

