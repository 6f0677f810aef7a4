set_option maxRecDepth 100000 in
set_option maxHeartbeats 4000000 in
theorem r_applied (G : zG) (sz C : Nat) (th kd n t tu : Int) (ch : Int32) (ke : Int) (L : Nat → Int → Int) (w0 : zW) (nn : Nat) (hnn : n = (nn : Int)) (hn : nn ≤ 32) (a : Nat) (ha : a < 5) (hD : ∀ i : Nat, i < nn → 0 ≤ L 10 i ∧ L 10 i < 268435456) (hFi : ∀ q : Int, 0 ≤ q → q < 960 → 0 ≤ L 4 q ∧ L 4 q < 268435399) (hSe : ∀ q : Int, 0 ≤ q → q < 960 → 0 ≤ L 5 q ∧ L 5 q < 268435399) : zCt G M_Ref_applied (zR 2 0 0 53) [.ref C, .int (Int32.ofInt (a : Int))] sz (zqs G C th kd n t tu ch ke L w0) (zdet none (zqs G C th kd n t tu ch ke (zqAp nn a L 6) w0) sz) := by
  subst hnn
  refine V_iconst d_Ref_applied_0 ?_
  refine V_istore_n d_Ref_applied_1 (by decide) ?_
  refine V_w (w' := (zqs G C th kd nn t tu ch ke (zq2 nn 0 13 14 (fun _ => 0) (fun _ => 0) L) w0)) (by rw [zq2_0]) ?_
  have st0 : ∀ i : Nat, i < nn → (fun i : Nat => V G M_Ref_applied (zdet none (zqs G C th kd nn t tu ch ke (zqAp nn a L 6) w0) sz) (zR 2 0 0 53) 0 0 sz 2 [(0, .ref C), (1, .int (Int32.ofInt (a : Int))), (2, .int (Int32.ofInt (i : Int)))] [] (zqs G C th kd nn t tu ch ke (zq2 nn i 13 14 (fun _ => 0) (fun _ => 0) L) w0)) (i + 1) → (fun i : Nat => V G M_Ref_applied (zdet none (zqs G C th kd nn t tu ch ke (zqAp nn a L 6) w0) sz) (zR 2 0 0 53) 0 0 sz 2 [(0, .ref C), (1, .int (Int32.ofInt (a : Int))), (2, .int (Int32.ofInt (i : Int)))] [] (zqs G C th kd nn t tu ch ke (zq2 nn i 13 14 (fun _ => 0) (fun _ => 0) L) w0)) i := by
    intro i hi ih
    refine V_iload_n d_Ref_applied_2 rfl ?_
    refine V_aload_n d_Ref_applied_3 rfl ?_
    refine V_getf d_Ref_applied_4 ff_Ref_7 zqs_o rfl ?_
    refine J_icmp_ge 30 d_Ref_applied_7 (by decide) (by omega) (by omega) (fun c_7 => absurd c_7 (by omega)) (fun c_7 => ?_)
    refine V_aload_n d_Ref_applied_10 rfl ?_
    refine V_getf d_Ref_applied_11 ff_Ref_54 zqs_o rfl ?_
    refine V_iload_n d_Ref_applied_14 rfl ?_
    refine J_lconst (z := 0) d_Ref_applied_15 rfl ?_
    refine J_lastore d_Ref_applied_16 (zqs_r (j := 13) (by unfold zqi; decide)) (by omega) (by decide) ?_
    refine V_w (zqs_lu (by unfold zqi; decide)) ?_
    refine V_aload_n d_Ref_applied_17 rfl ?_
    refine V_getf d_Ref_applied_18 ff_Ref_57 zqs_o rfl ?_
    refine V_iload_n d_Ref_applied_21 rfl ?_
    refine J_lconst (z := 0) d_Ref_applied_22 rfl ?_
    refine J_lastore d_Ref_applied_23 (zqs_r (j := 14) (by unfold zqi; decide)) (by omega) (by decide) ?_
    refine J_iinc d_Ref_applied_24 rfl (by decide) ?_
    refine V_goto 2 d_Ref_applied_27 (by decide) ?_
    refine V_w ((zqs_lu (by unfold zqi; decide)).trans ?_) ih
    exact congrArg (fun Z => zqs G C th kd nn t tu ch ke Z w0) (zq2_s (by decide) rfl rfl)
  refine zfor nn (fun i : Nat => V G M_Ref_applied (zdet none (zqs G C th kd nn t tu ch ke (zqAp nn a L 6) w0) sz) (zR 2 0 0 53) 0 0 sz 2 [(0, .ref C), (1, .int (Int32.ofInt (a : Int))), (2, .int (Int32.ofInt (i : Int)))] [] (zqs G C th kd nn t tu ch ke (zq2 nn i 13 14 (fun _ => 0) (fun _ => 0) L) w0)) ?_ st0 0 (Nat.zero_le nn)
  refine V_iload_n d_Ref_applied_2 rfl ?_
  refine V_aload_n d_Ref_applied_3 rfl ?_
  refine V_getf d_Ref_applied_4 ff_Ref_7 zqs_o rfl ?_
  refine J_icmp_ge 30 d_Ref_applied_7 (by decide) (by omega) (by omega) (fun c_7 => ?_) (fun c_7 => absurd c_7 (by omega))
  refine V_iconst d_Ref_applied_30 ?_
  refine V_istore_n d_Ref_applied_31 (by decide) ?_
  have stk : ∀ k : Nat, k < 6 → (fun k : Nat => V G M_Ref_applied (zdet none (zqs G C th kd nn t tu ch ke (zqAp nn a L 6) w0) sz) (zR 2 0 0 53) 0 0 sz 32 [(0, .ref C), (1, .int (Int32.ofInt (a : Int))), (2, .int (Int32.ofInt (k : Int)))] [] (zqs G C th kd nn t tu ch ke (zqAp nn a L k) w0)) (k + 1) → (fun k : Nat => V G M_Ref_applied (zdet none (zqs G C th kd nn t tu ch ke (zqAp nn a L 6) w0) sz) (zR 2 0 0 53) 0 0 sz 32 [(0, .ref C), (1, .int (Int32.ofInt (a : Int))), (2, .int (Int32.ofInt (k : Int)))] [] (zqs G C th kd nn t tu ch ke (zqAp nn a L k) w0)) k := by
    intro k hk ih
    have h10 : (zqAp nn a L k) 10 = L 10 := zqAp_o (by decide) k
    have h4 : (zqAp nn a L k) 4 = L 4 := zqAp_o (by decide) k
    have h5 : (zqAp nn a L k) 5 = L 5 := zqAp_o (by decide) k
    have hdig : ∀ j : Int, 0 ≤ j → j < nn → 0 ≤ (zqX nn k (zqAp nn a L k)) 16 j ∧ (zqX nn k (zqAp nn a L k)) 16 j ≤ 31 := fun j h1 h2 => by unfold zqX; rw [zlu_s, zif_l ⟨h1, h2⟩]; omega
    refine V_iload_n d_Ref_applied_32 rfl ?_
    refine J_bipush d_Ref_applied_33 (by decide) ?_
    refine J_icmp_ge 250 d_Ref_applied_35 (by decide) (by omega) (by omega) (fun c_35 => absurd c_35 (by omega)) (fun c_35 => ?_)
    refine V_iconst d_Ref_applied_38 ?_
    refine V_istore_n d_Ref_applied_39 (by decide) ?_
    refine V_w (w' := (zqs G C th kd nn t tu ch ke (zlu (zqAp nn a L k) 16 (zif ((0 : Nat) : Int) (fun i => (zqAp nn a L k) 10 i / 32 ^ k % 32) ((zqAp nn a L k) 16))) w0)) (by rw [show ((0 : Nat) : Int) = 0 from rfl, zif_0, zlu_self] <;> rfl) ?_
    have st_40 : ∀ i : Nat, i < nn → (fun i : Nat => V G M_Ref_applied (zdet none (zqs G C th kd nn t tu ch ke (zqAp nn a L 6) w0) sz) (zR 2 0 0 53) 0 0 sz 40 [(0, .ref C), (1, .int (Int32.ofInt (a : Int))), (2, .int (Int32.ofInt (k : Int))), (3, .int (Int32.ofInt (i : Int)))] [] (zqs G C th kd nn t tu ch ke (zlu (zqAp nn a L k) 16 (zif (i : Int) (fun i => (zqAp nn a L k) 10 i / 32 ^ k % 32) ((zqAp nn a L k) 16))) w0)) (i + 1) → (fun i : Nat => V G M_Ref_applied (zdet none (zqs G C th kd nn t tu ch ke (zqAp nn a L 6) w0) sz) (zR 2 0 0 53) 0 0 sz 40 [(0, .ref C), (1, .int (Int32.ofInt (a : Int))), (2, .int (Int32.ofInt (k : Int))), (3, .int (Int32.ofInt (i : Int)))] [] (zqs G C th kd nn t tu ch ke (zlu (zqAp nn a L k) 16 (zif (i : Int) (fun i => (zqAp nn a L k) 10 i / 32 ^ k % 32) ((zqAp nn a L k) 16))) w0)) i := by
      intro i hi ih
      have hp1 : 0 ≤ (zqAp nn a L k) 10 i ∧ (zqAp nn a L k) 10 i < 268435456 := by rw [h10]; exact hD i hi
      refine V_iload_n d_Ref_applied_40 rfl ?_
      refine V_aload_n d_Ref_applied_41 rfl ?_
      refine V_getf d_Ref_applied_42 ff_Ref_7 zqs_o rfl ?_
      refine J_icmp_ge 74 d_Ref_applied_45 (by decide) (by omega) (by omega) (fun c_45 => absurd c_45 (by omega)) (fun c_45 => ?_)
      refine V_aload_n d_Ref_applied_48 rfl ?_
      refine V_getf d_Ref_applied_49 ff_Ref_63 zqs_o rfl ?_
      refine V_iload_n d_Ref_applied_52 rfl ?_
      refine V_aload_n d_Ref_applied_53 rfl ?_
      refine V_getf d_Ref_applied_54 ff_Ref_45 zqs_o rfl ?_
      refine V_iload_n d_Ref_applied_57 rfl ?_
      refine J_laload d_Ref_applied_58 (zqs_r (j := 10) (by unfold zqi; decide)) (by omega) (by decide) ?_
      rw [zlu_n (show 10 ≠ 16 by decide)]
      refine V_iconst d_Ref_applied_59 ?_
      refine V_iload_n d_Ref_applied_60 rfl ?_
      refine J_imul d_Ref_applied_61 ?_
      refine V_lshr d_Ref_applied_62 ?_
      refine J_ldc2 d_Ref_applied_63 k_Ref_190 ?_
      refine V_land d_Ref_applied_66 ?_
      rw [zdig hp1 hk]
      refine J_lastore d_Ref_applied_67 (zqs_r (j := 16) (by unfold zqi; decide)) (by omega) (by decide) ?_
      refine J_iinc d_Ref_applied_68 rfl (by decide) ?_
      refine V_goto 40 d_Ref_applied_71 (by decide) ?_
      exact V_w (by rw [zqs_lu (by unfold zqi; decide), zlu_s, zif_s (by omega) rfl, zlu_lu] <;> rfl) ih
    refine zfor nn (fun i : Nat => V G M_Ref_applied (zdet none (zqs G C th kd nn t tu ch ke (zqAp nn a L 6) w0) sz) (zR 2 0 0 53) 0 0 sz 40 [(0, .ref C), (1, .int (Int32.ofInt (a : Int))), (2, .int (Int32.ofInt (k : Int))), (3, .int (Int32.ofInt (i : Int)))] [] (zqs G C th kd nn t tu ch ke (zlu (zqAp nn a L k) 16 (zif (i : Int) (fun i => (zqAp nn a L k) 10 i / 32 ^ k % 32) ((zqAp nn a L k) 16))) w0)) ?_ st_40 0 (Nat.zero_le nn)
    refine V_iload_n d_Ref_applied_40 rfl ?_
    refine V_aload_n d_Ref_applied_41 rfl ?_
    refine V_getf d_Ref_applied_42 ff_Ref_7 zqs_o rfl ?_
    refine J_icmp_ge 74 d_Ref_applied_45 (by decide) (by omega) (by omega) (fun c_45 => ?_) (fun c_45 => absurd c_45 (by omega))
    refine V_iconst d_Ref_applied_74 ?_
    refine V_istore_n d_Ref_applied_75 (by decide) ?_
    refine V_lo [0, 1, 2, 3] rfl ?_
    refine V_iload_n d_Ref_applied_76 rfl ?_
    refine V_iconst d_Ref_applied_77 ?_
    refine J_icmp_ge 244 d_Ref_applied_78 (by decide) (by omega) (by omega) (fun c_78 => absurd c_78 (by decide)) (fun c_78 => ?_)
    refine V_iconst d_Ref_applied_81 ?_
    refine V_istore d_Ref_applied_82 (by decide) ?_
    refine V_w (w' := (zqs G C th kd nn t tu ch ke (zlu (zqX nn k (zqAp nn a L k)) 11 (zif ((0 : Nat) : Int) (fun i => (zqX nn k (zqAp nn a L k)) 4 (((a : Int) * 6 + k) * 32 + i)) ((zqX nn k (zqAp nn a L k)) 11))) w0)) (by rw [show ((0 : Nat) : Int) = 0 from rfl, zif_0, zlu_self] <;> rfl) ?_
    have st_84 : ∀ i : Nat, i < nn → (fun i : Nat => V G M_Ref_applied (zdet none (zqs G C th kd nn t tu ch ke (zqAp nn a L 6) w0) sz) (zR 2 0 0 53) 0 0 sz 84 [(0, .ref C), (1, .int (Int32.ofInt (a : Int))), (2, .int (Int32.ofInt (k : Int))), (3, .int (Int32.ofInt 0)), (4, .int (Int32.ofInt (i : Int)))] [] (zqs G C th kd nn t tu ch ke (zlu (zqX nn k (zqAp nn a L k)) 11 (zif (i : Int) (fun i => (zqX nn k (zqAp nn a L k)) 4 (((a : Int) * 6 + k) * 32 + i)) ((zqX nn k (zqAp nn a L k)) 11))) w0)) (i + 1) → (fun i : Nat => V G M_Ref_applied (zdet none (zqs G C th kd nn t tu ch ke (zqAp nn a L 6) w0) sz) (zR 2 0 0 53) 0 0 sz 84 [(0, .ref C), (1, .int (Int32.ofInt (a : Int))), (2, .int (Int32.ofInt (k : Int))), (3, .int (Int32.ofInt 0)), (4, .int (Int32.ofInt (i : Int)))] [] (zqs G C th kd nn t tu ch ke (zlu (zqX nn k (zqAp nn a L k)) 11 (zif (i : Int) (fun i => (zqX nn k (zqAp nn a L k)) 4 (((a : Int) * 6 + k) * 32 + i)) ((zqX nn k (zqAp nn a L k)) 11))) w0)) i := by
      intro i hi ih
      refine V_iload d_Ref_applied_84 rfl ?_
      refine V_aload_n d_Ref_applied_86 rfl ?_
      refine V_getf d_Ref_applied_87 ff_Ref_7 zqs_o rfl ?_
      refine J_icmp_ge 147 d_Ref_applied_90 (by decide) (by omega) (by omega) (fun c_90 => absurd c_90 (by omega)) (fun c_90 => ?_)
      refine V_aload_n d_Ref_applied_93 rfl ?_
      refine V_getf d_Ref_applied_94 ff_Ref_48 zqs_o rfl ?_
      refine V_iload d_Ref_applied_97 rfl ?_
      refine V_iload_n d_Ref_applied_99 rfl ?_
      refine J_if_ne 123 d_Ref_applied_100 (by decide) (by decide) (fun c_100 => absurd rfl c_100) (fun c_100 => ?_)
      refine V_aload_n d_Ref_applied_103 rfl ?_
      refine V_getf d_Ref_applied_104 ff_Ref_26 zqs_o rfl ?_
      refine V_iload_n d_Ref_applied_107 rfl ?_
      refine J_bipush d_Ref_applied_108 (by decide) ?_
      refine J_imul d_Ref_applied_110 ?_
      refine V_iload_n d_Ref_applied_111 rfl ?_
      refine J_iadd d_Ref_applied_112 ?_
      refine J_bipush d_Ref_applied_113 (by decide) ?_
      refine J_imul d_Ref_applied_115 ?_
      refine V_iload d_Ref_applied_116 rfl ?_
      refine J_iadd d_Ref_applied_118 ?_
      refine J_laload d_Ref_applied_119 zqs_a4 (by omega) (by decide) ?_
      refine V_goto 140 d_Ref_applied_120 (by decide) ?_
      rw [zlu_n (show 4 ≠ 11 by decide)]
      refine J_lastore d_Ref_applied_140 (zqs_r (j := 11) (by unfold zqi; decide)) (by omega) (by decide) ?_
      refine J_iinc d_Ref_applied_141 rfl (by decide) ?_
      refine V_goto 84 d_Ref_applied_144 (by decide) ?_
      exact V_w (by rw [zqs_lu (by unfold zqi; decide), zlu_s, zif_s (by omega) rfl, zlu_lu] <;> rfl) ih
    refine zfor nn (fun i : Nat => V G M_Ref_applied (zdet none (zqs G C th kd nn t tu ch ke (zqAp nn a L 6) w0) sz) (zR 2 0 0 53) 0 0 sz 84 [(0, .ref C), (1, .int (Int32.ofInt (a : Int))), (2, .int (Int32.ofInt (k : Int))), (3, .int (Int32.ofInt 0)), (4, .int (Int32.ofInt (i : Int)))] [] (zqs G C th kd nn t tu ch ke (zlu (zqX nn k (zqAp nn a L k)) 11 (zif (i : Int) (fun i => (zqX nn k (zqAp nn a L k)) 4 (((a : Int) * 6 + k) * 32 + i)) ((zqX nn k (zqAp nn a L k)) 11))) w0)) ?_ st_84 0 (Nat.zero_le nn)
    refine V_iload d_Ref_applied_84 rfl ?_
    refine V_aload_n d_Ref_applied_86 rfl ?_
    refine V_getf d_Ref_applied_87 ff_Ref_7 zqs_o rfl ?_
    refine J_icmp_ge 147 d_Ref_applied_90 (by decide) (by omega) (by omega) (fun c_90 => ?_) (fun c_90 => absurd c_90 (by omega))
    refine V_aload_n d_Ref_applied_147 rfl ?_
    refine V_aload_n d_Ref_applied_148 rfl ?_
    refine V_getf d_Ref_applied_149 ff_Ref_48 zqs_o rfl ?_
    refine V_aload_n d_Ref_applied_152 rfl ?_
    refine V_getf d_Ref_applied_153 ff_Ref_63 zqs_o rfl ?_
    refine V_aload_n d_Ref_applied_156 rfl ?_
    refine V_getf d_Ref_applied_157 ff_Ref_66 zqs_o rfl ?_
    refine V_callV (n := 3) d_Ref_applied_160 g_Ref_98 rfl zqs_o rfl (r_reduced G _ C th kd nn t tu ch ke (zqSl nn a k 4 (zqX nn k (zqAp nn a L k))) w0 nn rfl hn 11 16 17 (by unfold zqi; decide) (by unfold zqi; decide) (by unfold zqi; decide) (by decide) (by decide) (fun j hj => by have h := zqSl_b (X := (zqX nn k (zqAp nn a L k))) (j := 4) ha hk hn (by show ∀ q : Int, 0 ≤ q → q < 960 → 0 ≤ (zqAp nn a L k) 4 q ∧ (zqAp nn a L k) 4 q < 268435399; rw [h4]; exact hFi) hj; exact ⟨by omega, by omega⟩) (fun j h1 h2 => by have h := hdig j h1 h2; show -9223372036854775808 ≤ (zqX nn k (zqAp nn a L k)) 16 j ∧ (zqX nn k (zqAp nn a L k)) 16 j < 9223372036854775808; exact ⟨by omega, by omega⟩)) ⟨co_Ref_reduced, by decide +kernel, Nat.le_of_ble_eq_true rfl⟩ ⟨Nat.le_of_ble_eq_true rfl, Nat.le_of_ble_eq_true rfl, Nat.le_of_ble_eq_true rfl, Nat.le_of_ble_eq_true rfl⟩ (Nat.le_of_ble_eq_true rfl) (fun r_160 w_160 s_160 q_160 => ?_) (fun _ _ _ q => False.elim q)
    obtain ⟨rfl, rfl, rfl⟩ := q_160
    refine V_iconst d_Ref_applied_163 ?_
    refine V_istore d_Ref_applied_164 (by decide) ?_
    refine V_w (w' := (zqs G C th kd nn t tu ch ke (zlu (zqRd nn 11 16 17 (zqSl nn a k 4 (zqX nn k (zqAp nn a L k)))) 13 (zif ((0 : Nat) : Int) (fun i => ((zqRd nn 11 16 17 (zqSl nn a k 4 (zqX nn k (zqAp nn a L k)))) 13 i + (zqRd nn 11 16 17 (zqSl nn a k 4 (zqX nn k (zqAp nn a L k)))) 17 i) % 268435399) ((zqRd nn 11 16 17 (zqSl nn a k 4 (zqX nn k (zqAp nn a L k)))) 13))) w0)) (by rw [show ((0 : Nat) : Int) = 0 from rfl, zif_0, zlu_self] <;> rfl) ?_
    have st_166 : ∀ i : Nat, i < nn → (fun i : Nat => V G M_Ref_applied (zdet none (zqs G C th kd nn t tu ch ke (zqAp nn a L 6) w0) sz) (zR 2 0 0 53) 0 0 sz 166 [(0, .ref C), (1, .int (Int32.ofInt (a : Int))), (2, .int (Int32.ofInt (k : Int))), (3, .int (Int32.ofInt 0)), (4, .int (Int32.ofInt (i : Int)))] [] (zqs G C th kd nn t tu ch ke (zlu (zqRd nn 11 16 17 (zqSl nn a k 4 (zqX nn k (zqAp nn a L k)))) 13 (zif (i : Int) (fun i => ((zqRd nn 11 16 17 (zqSl nn a k 4 (zqX nn k (zqAp nn a L k)))) 13 i + (zqRd nn 11 16 17 (zqSl nn a k 4 (zqX nn k (zqAp nn a L k)))) 17 i) % 268435399) ((zqRd nn 11 16 17 (zqSl nn a k 4 (zqX nn k (zqAp nn a L k)))) 13))) w0)) (i + 1) → (fun i : Nat => V G M_Ref_applied (zdet none (zqs G C th kd nn t tu ch ke (zqAp nn a L 6) w0) sz) (zR 2 0 0 53) 0 0 sz 166 [(0, .ref C), (1, .int (Int32.ofInt (a : Int))), (2, .int (Int32.ofInt (k : Int))), (3, .int (Int32.ofInt 0)), (4, .int (Int32.ofInt (i : Int)))] [] (zqs G C th kd nn t tu ch ke (zlu (zqRd nn 11 16 17 (zqSl nn a k 4 (zqX nn k (zqAp nn a L k)))) 13 (zif (i : Int) (fun i => ((zqRd nn 11 16 17 (zqSl nn a k 4 (zqX nn k (zqAp nn a L k)))) 13 i + (zqRd nn 11 16 17 (zqSl nn a k 4 (zqX nn k (zqAp nn a L k)))) 17 i) % 268435399) ((zqRd nn 11 16 17 (zqSl nn a k 4 (zqX nn k (zqAp nn a L k)))) 13))) w0)) i := by
      intro i hi ih
      have hd1 : 0 ≤ (zqRd nn 11 16 17 (zqSl nn a k 4 (zqX nn k (zqAp nn a L k)))) 13 i ∧ (zqRd nn 11 16 17 (zqSl nn a k 4 (zqX nn k (zqAp nn a L k)))) 13 i < 268435399 := (zqAp_u hi k)
      have hd2 : 0 ≤ (zqRd nn 11 16 17 (zqSl nn a k 4 (zqX nn k (zqAp nn a L k)))) 17 i ∧ (zqRd nn 11 16 17 (zqSl nn a k 4 (zqX nn k (zqAp nn a L k)))) 17 i < 268435399 := zqRd_b hi
      refine V_iload d_Ref_applied_166 rfl ?_
      refine V_aload_n d_Ref_applied_168 rfl ?_
      refine V_getf d_Ref_applied_169 ff_Ref_7 zqs_o rfl ?_
      refine J_icmp_ge 238 d_Ref_applied_172 (by decide) (by omega) (by omega) (fun c_172 => absurd c_172 (by omega)) (fun c_172 => ?_)
      refine V_iload_n d_Ref_applied_175 rfl ?_
      refine J_if_ne 207 d_Ref_applied_176 (by decide) (by decide) (fun c_176 => absurd rfl c_176) (fun c_176 => ?_)
      refine V_aload_n d_Ref_applied_179 rfl ?_
      refine V_getf d_Ref_applied_180 ff_Ref_54 zqs_o rfl ?_
      refine V_iload d_Ref_applied_183 rfl ?_
      refine V_aload_n d_Ref_applied_185 rfl ?_
      refine V_getf d_Ref_applied_186 ff_Ref_54 zqs_o rfl ?_
      refine V_iload d_Ref_applied_189 rfl ?_
      refine J_laload d_Ref_applied_191 (zqs_r (j := 13) (by unfold zqi; decide)) (by omega) (by decide) ?_
      refine V_aload_n d_Ref_applied_192 rfl ?_
      refine V_getf d_Ref_applied_193 ff_Ref_66 zqs_o rfl ?_
      refine V_iload d_Ref_applied_196 rfl ?_
      refine J_laload d_Ref_applied_198 (zqs_r (j := 17) (by unfold zqi; decide)) (by omega) (by decide) ?_
      rw [zlu_s, zlu_n (show 17 ≠ 13 by decide), zif_r (show ¬ (0 ≤ (i : Int) ∧ (i : Int) < i) by omega)]
      refine J_ladd d_Ref_applied_199 ?_
      refine V_callS (n := 1) d_Ref_applied_200 g_Ref_74 rfl (r_of G _ _ ((zqRd nn 11 16 17 (zqSl nn a k 4 (zqX nn k (zqAp nn a L k)))) 13 i + (zqRd nn 11 16 17 (zqSl nn a k 4 (zqX nn k (zqAp nn a L k)))) 17 i) (by omega)) ⟨co_Ref_of, by decide +kernel, Nat.le_of_ble_eq_true rfl⟩ ⟨Nat.le_of_ble_eq_true rfl, Nat.le_of_ble_eq_true rfl, Nat.le_of_ble_eq_true rfl, Nat.le_of_ble_eq_true rfl⟩ (Nat.le_of_ble_eq_true rfl) (fun r_200 w_200 s_200 q_200 => ?_) (fun _ _ _ q => False.elim q)
      obtain ⟨rfl, rfl, rfl⟩ := q_200
      refine J_lastore d_Ref_applied_203 (zqs_r (j := 13) (by unfold zqi; decide)) (by omega) (by decide) ?_
      refine V_goto 232 d_Ref_applied_204 (by decide) ?_
      refine J_iinc d_Ref_applied_232 rfl (by decide) ?_
      refine V_goto 166 d_Ref_applied_235 (by decide) ?_
      exact V_w (by rw [zqs_lu (by unfold zqi; decide), zlu_s, zif_s (by omega) rfl, zlu_lu] <;> rfl) ih
    refine zfor nn (fun i : Nat => V G M_Ref_applied (zdet none (zqs G C th kd nn t tu ch ke (zqAp nn a L 6) w0) sz) (zR 2 0 0 53) 0 0 sz 166 [(0, .ref C), (1, .int (Int32.ofInt (a : Int))), (2, .int (Int32.ofInt (k : Int))), (3, .int (Int32.ofInt 0)), (4, .int (Int32.ofInt (i : Int)))] [] (zqs G C th kd nn t tu ch ke (zlu (zqRd nn 11 16 17 (zqSl nn a k 4 (zqX nn k (zqAp nn a L k)))) 13 (zif (i : Int) (fun i => ((zqRd nn 11 16 17 (zqSl nn a k 4 (zqX nn k (zqAp nn a L k)))) 13 i + (zqRd nn 11 16 17 (zqSl nn a k 4 (zqX nn k (zqAp nn a L k)))) 17 i) % 268435399) ((zqRd nn 11 16 17 (zqSl nn a k 4 (zqX nn k (zqAp nn a L k)))) 13))) w0)) ?_ st_166 0 (Nat.zero_le nn)
    refine V_iload d_Ref_applied_166 rfl ?_
    refine V_aload_n d_Ref_applied_168 rfl ?_
    refine V_getf d_Ref_applied_169 ff_Ref_7 zqs_o rfl ?_
    refine J_icmp_ge 238 d_Ref_applied_172 (by decide) (by omega) (by omega) (fun c_172 => ?_) (fun c_172 => absurd c_172 (by omega))
    refine J_iinc d_Ref_applied_238 rfl (by decide) ?_
    refine V_goto 76 d_Ref_applied_241 (by decide) ?_
    refine V_lo [0, 1, 2, 3] rfl ?_
    refine V_iload_n d_Ref_applied_76 rfl ?_
    refine V_iconst d_Ref_applied_77 ?_
    refine J_icmp_ge 244 d_Ref_applied_78 (by decide) (by omega) (by omega) (fun c_78 => absurd c_78 (by decide)) (fun c_78 => ?_)
    refine V_iconst d_Ref_applied_81 ?_
    refine V_istore d_Ref_applied_82 (by decide) ?_
    refine V_w (w' := (zqs G C th kd nn t tu ch ke (zlu (zqA nn a k 4 13 (zqX nn k (zqAp nn a L k))) 11 (zif ((0 : Nat) : Int) (fun i => (zqA nn a k 4 13 (zqX nn k (zqAp nn a L k))) 5 (((a : Int) * 6 + k) * 32 + i)) ((zqA nn a k 4 13 (zqX nn k (zqAp nn a L k))) 11))) w0)) (by rw [show ((0 : Nat) : Int) = 0 from rfl, zif_0, zlu_self] <;> rfl) ?_
    have st_84 : ∀ i : Nat, i < nn → (fun i : Nat => V G M_Ref_applied (zdet none (zqs G C th kd nn t tu ch ke (zqAp nn a L 6) w0) sz) (zR 2 0 0 53) 0 0 sz 84 [(0, .ref C), (1, .int (Int32.ofInt (a : Int))), (2, .int (Int32.ofInt (k : Int))), (3, .int (Int32.ofInt 1)), (4, .int (Int32.ofInt (i : Int)))] [] (zqs G C th kd nn t tu ch ke (zlu (zqA nn a k 4 13 (zqX nn k (zqAp nn a L k))) 11 (zif (i : Int) (fun i => (zqA nn a k 4 13 (zqX nn k (zqAp nn a L k))) 5 (((a : Int) * 6 + k) * 32 + i)) ((zqA nn a k 4 13 (zqX nn k (zqAp nn a L k))) 11))) w0)) (i + 1) → (fun i : Nat => V G M_Ref_applied (zdet none (zqs G C th kd nn t tu ch ke (zqAp nn a L 6) w0) sz) (zR 2 0 0 53) 0 0 sz 84 [(0, .ref C), (1, .int (Int32.ofInt (a : Int))), (2, .int (Int32.ofInt (k : Int))), (3, .int (Int32.ofInt 1)), (4, .int (Int32.ofInt (i : Int)))] [] (zqs G C th kd nn t tu ch ke (zlu (zqA nn a k 4 13 (zqX nn k (zqAp nn a L k))) 11 (zif (i : Int) (fun i => (zqA nn a k 4 13 (zqX nn k (zqAp nn a L k))) 5 (((a : Int) * 6 + k) * 32 + i)) ((zqA nn a k 4 13 (zqX nn k (zqAp nn a L k))) 11))) w0)) i := by
      intro i hi ih
      refine V_iload d_Ref_applied_84 rfl ?_
      refine V_aload_n d_Ref_applied_86 rfl ?_
      refine V_getf d_Ref_applied_87 ff_Ref_7 zqs_o rfl ?_
      refine J_icmp_ge 147 d_Ref_applied_90 (by decide) (by omega) (by omega) (fun c_90 => absurd c_90 (by omega)) (fun c_90 => ?_)
      refine V_aload_n d_Ref_applied_93 rfl ?_
      refine V_getf d_Ref_applied_94 ff_Ref_48 zqs_o rfl ?_
      refine V_iload d_Ref_applied_97 rfl ?_
      refine V_iload_n d_Ref_applied_99 rfl ?_
      refine J_if_ne 123 d_Ref_applied_100 (by decide) (by decide) (fun c_100 => ?_) (fun c_100 => absurd c_100 (by decide))
      refine V_aload_n d_Ref_applied_123 rfl ?_
      refine V_getf d_Ref_applied_124 ff_Ref_29 zqs_o rfl ?_
      refine V_iload_n d_Ref_applied_127 rfl ?_
      refine J_bipush d_Ref_applied_128 (by decide) ?_
      refine J_imul d_Ref_applied_130 ?_
      refine V_iload_n d_Ref_applied_131 rfl ?_
      refine J_iadd d_Ref_applied_132 ?_
      refine J_bipush d_Ref_applied_133 (by decide) ?_
      refine J_imul d_Ref_applied_135 ?_
      refine V_iload d_Ref_applied_136 rfl ?_
      refine J_iadd d_Ref_applied_138 ?_
      refine J_laload d_Ref_applied_139 zqs_a5 (by omega) (by decide) ?_
      rw [zlu_n (show 5 ≠ 11 by decide)]
      refine J_lastore d_Ref_applied_140 (zqs_r (j := 11) (by unfold zqi; decide)) (by omega) (by decide) ?_
      refine J_iinc d_Ref_applied_141 rfl (by decide) ?_
      refine V_goto 84 d_Ref_applied_144 (by decide) ?_
      exact V_w (by rw [zqs_lu (by unfold zqi; decide), zlu_s, zif_s (by omega) rfl, zlu_lu] <;> rfl) ih
    refine zfor nn (fun i : Nat => V G M_Ref_applied (zdet none (zqs G C th kd nn t tu ch ke (zqAp nn a L 6) w0) sz) (zR 2 0 0 53) 0 0 sz 84 [(0, .ref C), (1, .int (Int32.ofInt (a : Int))), (2, .int (Int32.ofInt (k : Int))), (3, .int (Int32.ofInt 1)), (4, .int (Int32.ofInt (i : Int)))] [] (zqs G C th kd nn t tu ch ke (zlu (zqA nn a k 4 13 (zqX nn k (zqAp nn a L k))) 11 (zif (i : Int) (fun i => (zqA nn a k 4 13 (zqX nn k (zqAp nn a L k))) 5 (((a : Int) * 6 + k) * 32 + i)) ((zqA nn a k 4 13 (zqX nn k (zqAp nn a L k))) 11))) w0)) ?_ st_84 0 (Nat.zero_le nn)
    refine V_iload d_Ref_applied_84 rfl ?_
    refine V_aload_n d_Ref_applied_86 rfl ?_
    refine V_getf d_Ref_applied_87 ff_Ref_7 zqs_o rfl ?_
    refine J_icmp_ge 147 d_Ref_applied_90 (by decide) (by omega) (by omega) (fun c_90 => ?_) (fun c_90 => absurd c_90 (by omega))
    refine V_aload_n d_Ref_applied_147 rfl ?_
    refine V_aload_n d_Ref_applied_148 rfl ?_
    refine V_getf d_Ref_applied_149 ff_Ref_48 zqs_o rfl ?_
    refine V_aload_n d_Ref_applied_152 rfl ?_
    refine V_getf d_Ref_applied_153 ff_Ref_63 zqs_o rfl ?_
    refine V_aload_n d_Ref_applied_156 rfl ?_
    refine V_getf d_Ref_applied_157 ff_Ref_66 zqs_o rfl ?_
    refine V_callV (n := 3) d_Ref_applied_160 g_Ref_98 rfl zqs_o rfl (r_reduced G _ C th kd nn t tu ch ke (zqSl nn a k 5 (zqA nn a k 4 13 (zqX nn k (zqAp nn a L k)))) w0 nn rfl hn 11 16 17 (by unfold zqi; decide) (by unfold zqi; decide) (by unfold zqi; decide) (by decide) (by decide) (fun j hj => by have h := zqSl_b (X := (zqA nn a k 4 13 (zqX nn k (zqAp nn a L k)))) (j := 5) ha hk hn (by show ∀ q : Int, 0 ≤ q → q < 960 → 0 ≤ (zqAp nn a L k) 5 q ∧ (zqAp nn a L k) 5 q < 268435399; rw [h5]; exact hSe) hj; exact ⟨by omega, by omega⟩) (fun j h1 h2 => by have h := hdig j h1 h2; show -9223372036854775808 ≤ (zqX nn k (zqAp nn a L k)) 16 j ∧ (zqX nn k (zqAp nn a L k)) 16 j < 9223372036854775808; exact ⟨by omega, by omega⟩)) ⟨co_Ref_reduced, by decide +kernel, Nat.le_of_ble_eq_true rfl⟩ ⟨Nat.le_of_ble_eq_true rfl, Nat.le_of_ble_eq_true rfl, Nat.le_of_ble_eq_true rfl, Nat.le_of_ble_eq_true rfl⟩ (Nat.le_of_ble_eq_true rfl) (fun r_160 w_160 s_160 q_160 => ?_) (fun _ _ _ q => False.elim q)
    obtain ⟨rfl, rfl, rfl⟩ := q_160
    refine V_iconst d_Ref_applied_163 ?_
    refine V_istore d_Ref_applied_164 (by decide) ?_
    refine V_w (w' := (zqs G C th kd nn t tu ch ke (zlu (zqRd nn 11 16 17 (zqSl nn a k 5 (zqA nn a k 4 13 (zqX nn k (zqAp nn a L k))))) 14 (zif ((0 : Nat) : Int) (fun i => ((zqRd nn 11 16 17 (zqSl nn a k 5 (zqA nn a k 4 13 (zqX nn k (zqAp nn a L k))))) 14 i + (zqRd nn 11 16 17 (zqSl nn a k 5 (zqA nn a k 4 13 (zqX nn k (zqAp nn a L k))))) 17 i) % 268435399) ((zqRd nn 11 16 17 (zqSl nn a k 5 (zqA nn a k 4 13 (zqX nn k (zqAp nn a L k))))) 14))) w0)) (by rw [show ((0 : Nat) : Int) = 0 from rfl, zif_0, zlu_self] <;> rfl) ?_
    have st_166 : ∀ i : Nat, i < nn → (fun i : Nat => V G M_Ref_applied (zdet none (zqs G C th kd nn t tu ch ke (zqAp nn a L 6) w0) sz) (zR 2 0 0 53) 0 0 sz 166 [(0, .ref C), (1, .int (Int32.ofInt (a : Int))), (2, .int (Int32.ofInt (k : Int))), (3, .int (Int32.ofInt 1)), (4, .int (Int32.ofInt (i : Int)))] [] (zqs G C th kd nn t tu ch ke (zlu (zqRd nn 11 16 17 (zqSl nn a k 5 (zqA nn a k 4 13 (zqX nn k (zqAp nn a L k))))) 14 (zif (i : Int) (fun i => ((zqRd nn 11 16 17 (zqSl nn a k 5 (zqA nn a k 4 13 (zqX nn k (zqAp nn a L k))))) 14 i + (zqRd nn 11 16 17 (zqSl nn a k 5 (zqA nn a k 4 13 (zqX nn k (zqAp nn a L k))))) 17 i) % 268435399) ((zqRd nn 11 16 17 (zqSl nn a k 5 (zqA nn a k 4 13 (zqX nn k (zqAp nn a L k))))) 14))) w0)) (i + 1) → (fun i : Nat => V G M_Ref_applied (zdet none (zqs G C th kd nn t tu ch ke (zqAp nn a L 6) w0) sz) (zR 2 0 0 53) 0 0 sz 166 [(0, .ref C), (1, .int (Int32.ofInt (a : Int))), (2, .int (Int32.ofInt (k : Int))), (3, .int (Int32.ofInt 1)), (4, .int (Int32.ofInt (i : Int)))] [] (zqs G C th kd nn t tu ch ke (zlu (zqRd nn 11 16 17 (zqSl nn a k 5 (zqA nn a k 4 13 (zqX nn k (zqAp nn a L k))))) 14 (zif (i : Int) (fun i => ((zqRd nn 11 16 17 (zqSl nn a k 5 (zqA nn a k 4 13 (zqX nn k (zqAp nn a L k))))) 14 i + (zqRd nn 11 16 17 (zqSl nn a k 5 (zqA nn a k 4 13 (zqX nn k (zqAp nn a L k))))) 17 i) % 268435399) ((zqRd nn 11 16 17 (zqSl nn a k 5 (zqA nn a k 4 13 (zqX nn k (zqAp nn a L k))))) 14))) w0)) i := by
      intro i hi ih
      have hd1 : 0 ≤ (zqRd nn 11 16 17 (zqSl nn a k 5 (zqA nn a k 4 13 (zqX nn k (zqAp nn a L k))))) 14 i ∧ (zqRd nn 11 16 17 (zqSl nn a k 5 (zqA nn a k 4 13 (zqX nn k (zqAp nn a L k))))) 14 i < 268435399 := (zqAp_v hi k)
      have hd2 : 0 ≤ (zqRd nn 11 16 17 (zqSl nn a k 5 (zqA nn a k 4 13 (zqX nn k (zqAp nn a L k))))) 17 i ∧ (zqRd nn 11 16 17 (zqSl nn a k 5 (zqA nn a k 4 13 (zqX nn k (zqAp nn a L k))))) 17 i < 268435399 := zqRd_b hi
      refine V_iload d_Ref_applied_166 rfl ?_
      refine V_aload_n d_Ref_applied_168 rfl ?_
      refine V_getf d_Ref_applied_169 ff_Ref_7 zqs_o rfl ?_
      refine J_icmp_ge 238 d_Ref_applied_172 (by decide) (by omega) (by omega) (fun c_172 => absurd c_172 (by omega)) (fun c_172 => ?_)
      refine V_iload_n d_Ref_applied_175 rfl ?_
      refine J_if_ne 207 d_Ref_applied_176 (by decide) (by decide) (fun c_176 => ?_) (fun c_176 => absurd c_176 (by decide))
      refine V_aload_n d_Ref_applied_207 rfl ?_
      refine V_getf d_Ref_applied_208 ff_Ref_57 zqs_o rfl ?_
      refine V_iload d_Ref_applied_211 rfl ?_
      refine V_aload_n d_Ref_applied_213 rfl ?_
      refine V_getf d_Ref_applied_214 ff_Ref_57 zqs_o rfl ?_
      refine V_iload d_Ref_applied_217 rfl ?_
      refine J_laload d_Ref_applied_219 (zqs_r (j := 14) (by unfold zqi; decide)) (by omega) (by decide) ?_
      refine V_aload_n d_Ref_applied_220 rfl ?_
      refine V_getf d_Ref_applied_221 ff_Ref_66 zqs_o rfl ?_
      refine V_iload d_Ref_applied_224 rfl ?_
      refine J_laload d_Ref_applied_226 (zqs_r (j := 17) (by unfold zqi; decide)) (by omega) (by decide) ?_
      rw [zlu_s, zlu_n (show 17 ≠ 14 by decide), zif_r (show ¬ (0 ≤ (i : Int) ∧ (i : Int) < i) by omega)]
      refine J_ladd d_Ref_applied_227 ?_
      refine V_callS (n := 1) d_Ref_applied_228 g_Ref_74 rfl (r_of G _ _ ((zqRd nn 11 16 17 (zqSl nn a k 5 (zqA nn a k 4 13 (zqX nn k (zqAp nn a L k))))) 14 i + (zqRd nn 11 16 17 (zqSl nn a k 5 (zqA nn a k 4 13 (zqX nn k (zqAp nn a L k))))) 17 i) (by omega)) ⟨co_Ref_of, by decide +kernel, Nat.le_of_ble_eq_true rfl⟩ ⟨Nat.le_of_ble_eq_true rfl, Nat.le_of_ble_eq_true rfl, Nat.le_of_ble_eq_true rfl, Nat.le_of_ble_eq_true rfl⟩ (Nat.le_of_ble_eq_true rfl) (fun r_228 w_228 s_228 q_228 => ?_) (fun _ _ _ q => False.elim q)
      obtain ⟨rfl, rfl, rfl⟩ := q_228
      refine J_lastore d_Ref_applied_231 (zqs_r (j := 14) (by unfold zqi; decide)) (by omega) (by decide) ?_
      refine J_iinc d_Ref_applied_232 rfl (by decide) ?_
      refine V_goto 166 d_Ref_applied_235 (by decide) ?_
      exact V_w (by rw [zqs_lu (by unfold zqi; decide), zlu_s, zif_s (by omega) rfl, zlu_lu] <;> rfl) ih
    refine zfor nn (fun i : Nat => V G M_Ref_applied (zdet none (zqs G C th kd nn t tu ch ke (zqAp nn a L 6) w0) sz) (zR 2 0 0 53) 0 0 sz 166 [(0, .ref C), (1, .int (Int32.ofInt (a : Int))), (2, .int (Int32.ofInt (k : Int))), (3, .int (Int32.ofInt 1)), (4, .int (Int32.ofInt (i : Int)))] [] (zqs G C th kd nn t tu ch ke (zlu (zqRd nn 11 16 17 (zqSl nn a k 5 (zqA nn a k 4 13 (zqX nn k (zqAp nn a L k))))) 14 (zif (i : Int) (fun i => ((zqRd nn 11 16 17 (zqSl nn a k 5 (zqA nn a k 4 13 (zqX nn k (zqAp nn a L k))))) 14 i + (zqRd nn 11 16 17 (zqSl nn a k 5 (zqA nn a k 4 13 (zqX nn k (zqAp nn a L k))))) 17 i) % 268435399) ((zqRd nn 11 16 17 (zqSl nn a k 5 (zqA nn a k 4 13 (zqX nn k (zqAp nn a L k))))) 14))) w0)) ?_ st_166 0 (Nat.zero_le nn)
    refine V_iload d_Ref_applied_166 rfl ?_
    refine V_aload_n d_Ref_applied_168 rfl ?_
    refine V_getf d_Ref_applied_169 ff_Ref_7 zqs_o rfl ?_
    refine J_icmp_ge 238 d_Ref_applied_172 (by decide) (by omega) (by omega) (fun c_172 => ?_) (fun c_172 => absurd c_172 (by omega))
    refine J_iinc d_Ref_applied_238 rfl (by decide) ?_
    refine V_goto 76 d_Ref_applied_241 (by decide) ?_
    refine V_lo [0, 1, 2, 3] rfl ?_
    refine V_iload_n d_Ref_applied_76 rfl ?_
    refine V_iconst d_Ref_applied_77 ?_
    refine J_icmp_ge 244 d_Ref_applied_78 (by decide) (by omega) (by omega) (fun c_78 => ?_) (fun c_78 => absurd c_78 (by decide))
    refine J_iinc d_Ref_applied_244 rfl (by decide) ?_
    refine V_goto 32 d_Ref_applied_247 (by decide) ?_
    exact V_lo [0, 1, 2] rfl ih
  refine zfor 6 (fun k : Nat => V G M_Ref_applied (zdet none (zqs G C th kd nn t tu ch ke (zqAp nn a L 6) w0) sz) (zR 2 0 0 53) 0 0 sz 32 [(0, .ref C), (1, .int (Int32.ofInt (a : Int))), (2, .int (Int32.ofInt (k : Int)))] [] (zqs G C th kd nn t tu ch ke (zqAp nn a L k) w0)) ?_ stk 0 (Nat.zero_le 6)
  refine V_iload_n d_Ref_applied_32 rfl ?_
  refine J_bipush d_Ref_applied_33 (by decide) ?_
  refine J_icmp_ge 250 d_Ref_applied_35 (by decide) (by omega) (by omega) (fun c_35 => ?_) (fun c_35 => absurd c_35 (by omega))
  exact V_return d_Ref_applied_250 rfl ⟨Nat.le_of_ble_eq_true rfl, Nat.le_of_ble_eq_true rfl⟩ ⟨rfl, rfl, rfl⟩

