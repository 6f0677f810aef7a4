set_option maxRecDepth 100000 in
set_option maxHeartbeats 4000000 in
theorem r_phase (G : zG) (sz C : Nat) (th kd n t tu : Int) (ch : Int32) (ke : Int) (L : Nat → Int → Int) (w0 : zW) (nn : Nat) (hnn : n = (nn : Int)) (hn : nn ≤ 32) (c : Nat) (hc : c < 16) (hpc : 0 ≤ L 8 c ∧ L 8 c ≤ 3) (hPa : ∀ j : Int, 0 ≤ j → j < 1536 → 0 ≤ L 9 j ∧ L 9 j < 268435399) (hSa : ∀ j : Int, 0 ≤ j → j < 32 → -1 ≤ L 1 j ∧ L 1 j ≤ 1) : zCt G M_Ref_phase (zR 2 0 0 53) [.ref C, .int (Int32.ofInt (c : Int))] sz (zqs G C th kd n t tu ch ke L w0) (zdet none (zqs G C th kd n t tu ch ke (zqPh nn c L) w0) sz) := by
  subst hnn
  refine V_aload_n d_Ref_phase_0 rfl ?_
  refine V_iload_n d_Ref_phase_1 rfl ?_
  refine V_iconst d_Ref_phase_2 ?_
  refine V_aload_n d_Ref_phase_3 rfl ?_
  refine V_getf d_Ref_phase_4 ff_Ref_51 zqs_o rfl ?_
  refine V_callV (n := 3) d_Ref_phase_7 g_Ref_159 rfl zqs_o rfl (r_take G _ C th kd nn t tu ch ke L w0 nn rfl hn c 0 12 hc (by decide) (by unfold zqi; decide) (by show _ ≤ L 8 c ∧ L 8 c < _; omega)) ⟨co_Ref_take, by decide +kernel, Nat.le_of_ble_eq_true rfl⟩ ⟨Nat.le_of_ble_eq_true rfl, Nat.le_of_ble_eq_true rfl, Nat.le_of_ble_eq_true rfl, Nat.le_of_ble_eq_true rfl⟩ (Nat.le_of_ble_eq_true rfl) (fun r_7 w_7 s_7 q_7 => ?_) (fun _ _ _ q => False.elim q)
  obtain ⟨rfl, rfl, rfl⟩ := q_7
  refine V_aload_n d_Ref_phase_10 rfl ?_
  refine V_iload_n d_Ref_phase_11 rfl ?_
  refine V_iconst d_Ref_phase_12 ?_
  refine V_aload_n d_Ref_phase_13 rfl ?_
  refine V_getf d_Ref_phase_14 ff_Ref_45 zqs_o rfl ?_
  refine V_callV (n := 3) d_Ref_phase_17 g_Ref_159 rfl zqs_o rfl (r_take G _ C th kd nn t tu ch ke (zqTk nn c 0 12 L) w0 nn rfl hn c 1 10 hc (by decide) (by unfold zqi; decide) (by show _ ≤ L 8 c ∧ L 8 c < _; omega)) ⟨co_Ref_take, by decide +kernel, Nat.le_of_ble_eq_true rfl⟩ ⟨Nat.le_of_ble_eq_true rfl, Nat.le_of_ble_eq_true rfl, Nat.le_of_ble_eq_true rfl, Nat.le_of_ble_eq_true rfl⟩ (Nat.le_of_ble_eq_true rfl) (fun r_17 w_17 s_17 q_17 => ?_) (fun _ _ _ q => False.elim q)
  obtain ⟨rfl, rfl, rfl⟩ := q_17
  refine V_aload_n d_Ref_phase_20 rfl ?_
  refine V_aload_n d_Ref_phase_21 rfl ?_
  refine V_getf d_Ref_phase_22 ff_Ref_45 zqs_o rfl ?_
  refine V_aload_n d_Ref_phase_25 rfl ?_
  refine V_getf d_Ref_phase_26 ff_Ref_16 zqs_o rfl ?_
  refine V_aload_n d_Ref_phase_29 rfl ?_
  refine V_getf d_Ref_phase_30 ff_Ref_48 zqs_o rfl ?_
  refine V_callV (n := 3) d_Ref_phase_33 g_Ref_98 rfl zqs_o rfl (r_reduced G _ C th kd nn t tu ch ke (zqTk nn c 1 10 (zqTk nn c 0 12 L)) w0 nn rfl hn 10 1 11 (by unfold zqi; decide) (by unfold zqi; decide) (by unfold zqi; decide) (by decide) (by decide) (fun j hj => by have := zqTk_b (d := 10) (L := (zqTk nn c 0 12 L)) hc (show 1 < 3 by decide) hn hPa hj; exact ⟨by omega, by omega⟩) (fun j h1 h2 => by have h := hSa j h1 (by omega); show -9223372036854775808 ≤ L 1 j ∧ L 1 j < 9223372036854775808; exact ⟨by omega, by omega⟩)) ⟨co_Ref_reduced, by decide +kernel, Nat.le_of_ble_eq_true rfl⟩ ⟨Nat.le_of_ble_eq_true rfl, Nat.le_of_ble_eq_true rfl, Nat.le_of_ble_eq_true rfl, Nat.le_of_ble_eq_true rfl⟩ (Nat.le_of_ble_eq_true rfl) (fun r_33 w_33 s_33 q_33 => ?_) (fun _ _ _ q => False.elim q)
  obtain ⟨rfl, rfl, rfl⟩ := q_33
  refine V_iconst d_Ref_phase_36 ?_
  refine V_istore_n d_Ref_phase_37 (by decide) ?_
  refine V_w (w' := (zqs G C th kd nn t tu ch ke (zlu (zqh1 nn c L) 12 (zif ((0 : Nat) : Int) (fun i => (zqh1 nn c L) 12 i + (zqh1 nn c L) 11 i) ((zqh1 nn c L) 12))) w0)) (by rw [show ((0 : Nat) : Int) = 0 from rfl, zif_0, zlu_self] <;> rfl) ?_
  have st_38 : ∀ i : Nat, i < nn → (fun i : Nat => V G M_Ref_phase (zdet none (zqs G C th kd nn t tu ch ke (zqPh nn c L) w0) sz) (zR 2 0 0 53) 0 0 sz 38 [(0, .ref C), (1, .int (Int32.ofInt (c : Int))), (2, .int (Int32.ofInt (i : Int)))] [] (zqs G C th kd nn t tu ch ke (zlu (zqh1 nn c L) 12 (zif (i : Int) (fun i => (zqh1 nn c L) 12 i + (zqh1 nn c L) 11 i) ((zqh1 nn c L) 12))) w0)) (i + 1) → (fun i : Nat => V G M_Ref_phase (zdet none (zqs G C th kd nn t tu ch ke (zqPh nn c L) w0) sz) (zR 2 0 0 53) 0 0 sz 38 [(0, .ref C), (1, .int (Int32.ofInt (c : Int))), (2, .int (Int32.ofInt (i : Int)))] [] (zqs G C th kd nn t tu ch ke (zlu (zqh1 nn c L) 12 (zif (i : Int) (fun i => (zqh1 nn c L) 12 i + (zqh1 nn c L) 11 i) ((zqh1 nn c L) 12))) w0)) i := by
    intro i hi ih
    refine V_iload_n d_Ref_phase_38 rfl ?_
    refine V_aload_n d_Ref_phase_39 rfl ?_
    refine V_getf d_Ref_phase_40 ff_Ref_7 zqs_o rfl ?_
    refine J_icmp_ge 67 d_Ref_phase_43 (by decide) (by omega) (by omega) (fun c_43 => absurd c_43 (by omega)) (fun c_43 => ?_)
    refine V_aload_n d_Ref_phase_46 rfl ?_
    refine V_getf d_Ref_phase_47 ff_Ref_51 zqs_o rfl ?_
    refine V_iload_n d_Ref_phase_50 rfl ?_
    refine V_dup2 d_Ref_phase_51 rfl rfl ?_
    refine J_laload d_Ref_phase_52 (zqs_r (j := 12) (by unfold zqi; decide)) (by omega) (by decide) ?_
    refine V_aload_n d_Ref_phase_53 rfl ?_
    refine V_getf d_Ref_phase_54 ff_Ref_48 zqs_o rfl ?_
    refine V_iload_n d_Ref_phase_57 rfl ?_
    refine J_laload d_Ref_phase_58 (zqs_r (j := 11) (by unfold zqi; decide)) (by omega) (by decide) ?_
    rw [zlu_s, zlu_n (show 11 ≠ 12 by decide), zif_r (show ¬ (0 ≤ (i : Int) ∧ (i : Int) < i) by omega)]
    refine J_ladd d_Ref_phase_59 ?_
    refine J_lastore d_Ref_phase_60 (zqs_r (j := 12) (by unfold zqi; decide)) (by omega) (by decide) ?_
    refine J_iinc d_Ref_phase_61 rfl (by decide) ?_
    refine V_goto 38 d_Ref_phase_64 (by decide) ?_
    exact V_w (by rw [zqs_lu (by unfold zqi; decide), zlu_s, zif_s (by omega) rfl, zlu_lu] <;> rfl) ih
  refine zfor nn (fun i : Nat => V G M_Ref_phase (zdet none (zqs G C th kd nn t tu ch ke (zqPh nn c L) w0) sz) (zR 2 0 0 53) 0 0 sz 38 [(0, .ref C), (1, .int (Int32.ofInt (c : Int))), (2, .int (Int32.ofInt (i : Int)))] [] (zqs G C th kd nn t tu ch ke (zlu (zqh1 nn c L) 12 (zif (i : Int) (fun i => (zqh1 nn c L) 12 i + (zqh1 nn c L) 11 i) ((zqh1 nn c L) 12))) w0)) ?_ st_38 0 (Nat.zero_le nn)
  refine V_iload_n d_Ref_phase_38 rfl ?_
  refine V_aload_n d_Ref_phase_39 rfl ?_
  refine V_getf d_Ref_phase_40 ff_Ref_7 zqs_o rfl ?_
  refine J_icmp_ge 67 d_Ref_phase_43 (by decide) (by omega) (by omega) (fun c_43 => ?_) (fun c_43 => absurd c_43 (by omega))
  refine V_aload_n d_Ref_phase_67 rfl ?_
  refine V_iload_n d_Ref_phase_68 rfl ?_
  refine V_iconst d_Ref_phase_69 ?_
  refine V_aload_n d_Ref_phase_70 rfl ?_
  refine V_getf d_Ref_phase_71 ff_Ref_45 zqs_o rfl ?_
  refine V_callV (n := 3) d_Ref_phase_74 g_Ref_159 rfl zqs_o rfl (r_take G _ C th kd nn t tu ch ke (zqh2 nn c L) w0 nn rfl hn c 2 10 hc (by decide) (by unfold zqi; decide) (by show _ ≤ L 8 c ∧ L 8 c < _; omega)) ⟨co_Ref_take, by decide +kernel, Nat.le_of_ble_eq_true rfl⟩ ⟨Nat.le_of_ble_eq_true rfl, Nat.le_of_ble_eq_true rfl, Nat.le_of_ble_eq_true rfl, Nat.le_of_ble_eq_true rfl⟩ (Nat.le_of_ble_eq_true rfl) (fun r_74 w_74 s_74 q_74 => ?_) (fun _ _ _ q => False.elim q)
  obtain ⟨rfl, rfl, rfl⟩ := q_74
  refine V_aload_n d_Ref_phase_77 rfl ?_
  refine V_aload_n d_Ref_phase_78 rfl ?_
  refine V_getf d_Ref_phase_79 ff_Ref_45 zqs_o rfl ?_
  refine V_aload_n d_Ref_phase_82 rfl ?_
  refine V_getf d_Ref_phase_83 ff_Ref_16 zqs_o rfl ?_
  refine V_aload_n d_Ref_phase_86 rfl ?_
  refine V_getf d_Ref_phase_87 ff_Ref_48 zqs_o rfl ?_
  refine V_callV (n := 3) d_Ref_phase_90 g_Ref_98 rfl zqs_o rfl (r_reduced G _ C th kd nn t tu ch ke (zqTk nn c 2 10 (zqh2 nn c L)) w0 nn rfl hn 10 1 11 (by unfold zqi; decide) (by unfold zqi; decide) (by unfold zqi; decide) (by decide) (by decide) (fun j hj => by have := zqTk_b (d := 10) (L := (zqh2 nn c L)) hc (show 2 < 3 by decide) hn hPa hj; exact ⟨by omega, by omega⟩) (fun j h1 h2 => by have h := hSa j h1 (by omega); show -9223372036854775808 ≤ L 1 j ∧ L 1 j < 9223372036854775808; exact ⟨by omega, by omega⟩)) ⟨co_Ref_reduced, by decide +kernel, Nat.le_of_ble_eq_true rfl⟩ ⟨Nat.le_of_ble_eq_true rfl, Nat.le_of_ble_eq_true rfl, Nat.le_of_ble_eq_true rfl, Nat.le_of_ble_eq_true rfl⟩ (Nat.le_of_ble_eq_true rfl) (fun r_90 w_90 s_90 q_90 => ?_) (fun _ _ _ q => False.elim q)
  obtain ⟨rfl, rfl, rfl⟩ := q_90
  refine V_iconst d_Ref_phase_93 ?_
  refine V_istore_n d_Ref_phase_94 (by decide) ?_
  refine V_w (w' := (zqs G C th kd nn t tu ch ke (zlu (zqh3 nn c L) 10 (zif ((0 : Nat) : Int) ((zqh3 nn c L) 11) ((zqh3 nn c L) 10))) w0)) (by rw [show ((0 : Nat) : Int) = 0 from rfl, zif_0, zlu_self] <;> rfl) ?_
  have st_95 : ∀ i : Nat, i < nn → (fun i : Nat => V G M_Ref_phase (zdet none (zqs G C th kd nn t tu ch ke (zqPh nn c L) w0) sz) (zR 2 0 0 53) 0 0 sz 95 [(0, .ref C), (1, .int (Int32.ofInt (c : Int))), (2, .int (Int32.ofInt (i : Int)))] [] (zqs G C th kd nn t tu ch ke (zlu (zqh3 nn c L) 10 (zif (i : Int) ((zqh3 nn c L) 11) ((zqh3 nn c L) 10))) w0)) (i + 1) → (fun i : Nat => V G M_Ref_phase (zdet none (zqs G C th kd nn t tu ch ke (zqPh nn c L) w0) sz) (zR 2 0 0 53) 0 0 sz 95 [(0, .ref C), (1, .int (Int32.ofInt (c : Int))), (2, .int (Int32.ofInt (i : Int)))] [] (zqs G C th kd nn t tu ch ke (zlu (zqh3 nn c L) 10 (zif (i : Int) ((zqh3 nn c L) 11) ((zqh3 nn c L) 10))) w0)) i := by
    intro i hi ih
    refine V_iload_n d_Ref_phase_95 rfl ?_
    refine V_aload_n d_Ref_phase_96 rfl ?_
    refine V_getf d_Ref_phase_97 ff_Ref_7 zqs_o rfl ?_
    refine J_icmp_ge 121 d_Ref_phase_100 (by decide) (by omega) (by omega) (fun c_100 => absurd c_100 (by omega)) (fun c_100 => ?_)
    refine V_aload_n d_Ref_phase_103 rfl ?_
    refine V_getf d_Ref_phase_104 ff_Ref_45 zqs_o rfl ?_
    refine V_iload_n d_Ref_phase_107 rfl ?_
    refine V_aload_n d_Ref_phase_108 rfl ?_
    refine V_getf d_Ref_phase_109 ff_Ref_48 zqs_o rfl ?_
    refine V_iload_n d_Ref_phase_112 rfl ?_
    refine J_laload d_Ref_phase_113 (zqs_r (j := 11) (by unfold zqi; decide)) (by omega) (by decide) ?_
    rw [zlu_n (show 11 ≠ 10 by decide)]
    refine J_lastore d_Ref_phase_114 (zqs_r (j := 10) (by unfold zqi; decide)) (by omega) (by decide) ?_
    refine J_iinc d_Ref_phase_115 rfl (by decide) ?_
    refine V_goto 95 d_Ref_phase_118 (by decide) ?_
    exact V_w (by rw [zqs_lu (by unfold zqi; decide), zlu_s, zif_s (by omega) rfl, zlu_lu] <;> rfl) ih
  refine zfor nn (fun i : Nat => V G M_Ref_phase (zdet none (zqs G C th kd nn t tu ch ke (zqPh nn c L) w0) sz) (zR 2 0 0 53) 0 0 sz 95 [(0, .ref C), (1, .int (Int32.ofInt (c : Int))), (2, .int (Int32.ofInt (i : Int)))] [] (zqs G C th kd nn t tu ch ke (zlu (zqh3 nn c L) 10 (zif (i : Int) ((zqh3 nn c L) 11) ((zqh3 nn c L) 10))) w0)) ?_ st_95 0 (Nat.zero_le nn)
  refine V_iload_n d_Ref_phase_95 rfl ?_
  refine V_aload_n d_Ref_phase_96 rfl ?_
  refine V_getf d_Ref_phase_97 ff_Ref_7 zqs_o rfl ?_
  refine J_icmp_ge 121 d_Ref_phase_100 (by decide) (by omega) (by omega) (fun c_100 => ?_) (fun c_100 => absurd c_100 (by omega))
  refine V_aload_n d_Ref_phase_121 rfl ?_
  refine V_aload_n d_Ref_phase_122 rfl ?_
  refine V_getf d_Ref_phase_123 ff_Ref_45 zqs_o rfl ?_
  refine V_aload_n d_Ref_phase_126 rfl ?_
  refine V_getf d_Ref_phase_127 ff_Ref_16 zqs_o rfl ?_
  refine V_aload_n d_Ref_phase_130 rfl ?_
  refine V_getf d_Ref_phase_131 ff_Ref_48 zqs_o rfl ?_
  refine V_callV (n := 3) d_Ref_phase_134 g_Ref_98 rfl zqs_o rfl (r_reduced G _ C th kd nn t tu ch ke (zCy nn 10 11 (zqh3 nn c L)) w0 nn rfl hn 10 1 11 (by unfold zqi; decide) (by unfold zqi; decide) (by unfold zqi; decide) (by decide) (by decide) (fun j hj => by have h0 : 0 ≤ (zqh3 nn c L) 11 j ∧ (zqh3 nn c L) 11 j < 268435399 := zqRd_b hj; show -9223372036854775808 ≤ zCy nn 10 11 (zqh3 nn c L) 10 j ∧ zCy nn 10 11 (zqh3 nn c L) 10 j < 9223372036854775808; unfold zCy; rw [zlu_s, zif_l (by omega)]; exact ⟨by omega, by omega⟩) (fun j h1 h2 => by have h := hSa j h1 (by omega); show -9223372036854775808 ≤ L 1 j ∧ L 1 j < 9223372036854775808; exact ⟨by omega, by omega⟩)) ⟨co_Ref_reduced, by decide +kernel, Nat.le_of_ble_eq_true rfl⟩ ⟨Nat.le_of_ble_eq_true rfl, Nat.le_of_ble_eq_true rfl, Nat.le_of_ble_eq_true rfl, Nat.le_of_ble_eq_true rfl⟩ (Nat.le_of_ble_eq_true rfl) (fun r_134 w_134 s_134 q_134 => ?_) (fun _ _ _ q => False.elim q)
  obtain ⟨rfl, rfl, rfl⟩ := q_134
  refine V_iconst d_Ref_phase_137 ?_
  refine V_istore_n d_Ref_phase_138 (by decide) ?_
  refine V_w (w' := (zqs G C th kd nn t tu ch ke (zlu (zqh4 nn c L) 12 (zif ((0 : Nat) : Int) (fun i => zct ((zqh4 nn c L) 12 i + (zqh4 nn c L) 11 i)) ((zqh4 nn c L) 12))) w0)) (by rw [show ((0 : Nat) : Int) = 0 from rfl, zif_0, zlu_self] <;> rfl) ?_
  have st_139 : ∀ i : Nat, i < nn → (fun i : Nat => V G M_Ref_phase (zdet none (zqs G C th kd nn t tu ch ke (zqPh nn c L) w0) sz) (zR 2 0 0 53) 0 0 sz 139 [(0, .ref C), (1, .int (Int32.ofInt (c : Int))), (2, .int (Int32.ofInt (i : Int)))] [] (zqs G C th kd nn t tu ch ke (zlu (zqh4 nn c L) 12 (zif (i : Int) (fun i => zct ((zqh4 nn c L) 12 i + (zqh4 nn c L) 11 i)) ((zqh4 nn c L) 12))) w0)) (i + 1) → (fun i : Nat => V G M_Ref_phase (zdet none (zqs G C th kd nn t tu ch ke (zqPh nn c L) w0) sz) (zR 2 0 0 53) 0 0 sz 139 [(0, .ref C), (1, .int (Int32.ofInt (c : Int))), (2, .int (Int32.ofInt (i : Int)))] [] (zqs G C th kd nn t tu ch ke (zlu (zqh4 nn c L) 12 (zif (i : Int) (fun i => zct ((zqh4 nn c L) 12 i + (zqh4 nn c L) 11 i)) ((zqh4 nn c L) 12))) w0)) i := by
    intro i hi ih
    have hb := zqh4_b (L := L) hc hn hPa hi
    refine V_iload_n d_Ref_phase_139 rfl ?_
    refine V_aload_n d_Ref_phase_140 rfl ?_
    refine V_getf d_Ref_phase_141 ff_Ref_7 zqs_o rfl ?_
    refine J_icmp_ge 175 d_Ref_phase_144 (by decide) (by omega) (by omega) (fun c_144 => absurd c_144 (by omega)) (fun c_144 => ?_)
    refine V_aload_n d_Ref_phase_147 rfl ?_
    refine V_getf d_Ref_phase_148 ff_Ref_51 zqs_o rfl ?_
    refine V_iload_n d_Ref_phase_151 rfl ?_
    refine V_aload_n d_Ref_phase_152 rfl ?_
    refine V_getf d_Ref_phase_153 ff_Ref_51 zqs_o rfl ?_
    refine V_iload_n d_Ref_phase_156 rfl ?_
    refine J_laload d_Ref_phase_157 (zqs_r (j := 12) (by unfold zqi; decide)) (by omega) (by decide) ?_
    refine V_aload_n d_Ref_phase_158 rfl ?_
    refine V_getf d_Ref_phase_159 ff_Ref_48 zqs_o rfl ?_
    refine V_iload_n d_Ref_phase_162 rfl ?_
    refine J_laload d_Ref_phase_163 (zqs_r (j := 11) (by unfold zqi; decide)) (by omega) (by decide) ?_
    rw [zlu_s, zlu_n (show 11 ≠ 12 by decide), zif_r (show ¬ (0 ≤ (i : Int) ∧ (i : Int) < i) by omega)]
    refine J_ladd d_Ref_phase_164 ?_
    refine V_callS (n := 1) d_Ref_phase_165 g_Ref_162 rfl (r_centred G _ _ ((zqh4 nn c L) 12 i + (zqh4 nn c L) 11 i) (by omega)) ⟨co_Ref_centred, by decide +kernel, Nat.le_of_ble_eq_true rfl⟩ ⟨Nat.le_of_ble_eq_true rfl, Nat.le_of_ble_eq_true rfl, Nat.le_of_ble_eq_true rfl, Nat.le_of_ble_eq_true rfl⟩ (Nat.le_of_ble_eq_true rfl) (fun r_165 w_165 s_165 q_165 => ?_) (fun _ _ _ q => False.elim q)
    obtain ⟨rfl, rfl, rfl⟩ := q_165
    refine J_lastore d_Ref_phase_168 (zqs_r (j := 12) (by unfold zqi; decide)) (by omega) (by decide) ?_
    refine J_iinc d_Ref_phase_169 rfl (by decide) ?_
    refine V_goto 139 d_Ref_phase_172 (by decide) ?_
    exact V_w (by rw [zqs_lu (by unfold zqi; decide), zlu_s, zif_s (by omega) rfl, zlu_lu] <;> rfl) ih
  refine zfor nn (fun i : Nat => V G M_Ref_phase (zdet none (zqs G C th kd nn t tu ch ke (zqPh nn c L) w0) sz) (zR 2 0 0 53) 0 0 sz 139 [(0, .ref C), (1, .int (Int32.ofInt (c : Int))), (2, .int (Int32.ofInt (i : Int)))] [] (zqs G C th kd nn t tu ch ke (zlu (zqh4 nn c L) 12 (zif (i : Int) (fun i => zct ((zqh4 nn c L) 12 i + (zqh4 nn c L) 11 i)) ((zqh4 nn c L) 12))) w0)) ?_ st_139 0 (Nat.zero_le nn)
  refine V_iload_n d_Ref_phase_139 rfl ?_
  refine V_aload_n d_Ref_phase_140 rfl ?_
  refine V_getf d_Ref_phase_141 ff_Ref_7 zqs_o rfl ?_
  refine J_icmp_ge 175 d_Ref_phase_144 (by decide) (by omega) (by omega) (fun c_144 => ?_) (fun c_144 => absurd c_144 (by omega))
  exact V_return d_Ref_phase_175 rfl ⟨Nat.le_of_ble_eq_true rfl, Nat.le_of_ble_eq_true rfl⟩ ⟨rfl, rfl, rfl⟩

set_option maxRecDepth 100000 in
set_option maxHeartbeats 4000000 in
theorem r_noise (G : zG) (sz C : Nat) (th kd n t tu : Int) (ch : Int32) (ke : Int) (L : Nat → Int → Int) (w0 : zW) (nn : Nat) (hnn : n = (nn : Int)) (hn : nn ≤ 32) (c : Nat) (hc : c < 16) (hpc : 0 ≤ L 8 c ∧ L 8 c ≤ 3) (hPa : ∀ j : Int, 0 ≤ j → j < 1536 → 0 ≤ L 9 j ∧ L 9 j < 268435399) (hSa : ∀ j : Int, 0 ≤ j → j < 32 → -1 ≤ L 1 j ∧ L 1 j ≤ 1) (ht : 0 < t ∧ t ≤ 1000) : zCt G M_Ref_noise (zR 3 0 0 75) [.ref C, .int (Int32.ofInt (c : Int))] sz (zqs G C th kd n t tu ch ke L w0) (zdet (some (.long (Int64.ofInt (zNz t ((zqPh nn c L) 12) nn)))) (zqs G C th kd n t tu ch ke (zqPh nn c L) w0) sz) := by
  subst hnn
  refine V_aload_n d_Ref_noise_0 rfl ?_
  refine V_iload_n d_Ref_noise_1 rfl ?_
  refine V_callV (n := 1) d_Ref_noise_2 g_Ref_165 rfl zqs_o rfl (r_phase G _ C th kd nn t tu ch ke L w0 nn rfl hn c hc hpc hPa hSa) ⟨co_Ref_phase, by decide +kernel, Nat.le_of_ble_eq_true rfl⟩ ⟨Nat.le_of_ble_eq_true rfl, Nat.le_of_ble_eq_true rfl, Nat.le_of_ble_eq_true rfl, Nat.le_of_ble_eq_true rfl⟩ (Nat.le_of_ble_eq_true rfl) (fun r_2 w_2 s_2 q_2 => ?_) (fun _ _ _ q => False.elim q)
  obtain ⟨rfl, rfl, rfl⟩ := q_2
  refine J_lconst (z := 0) d_Ref_noise_5 rfl ?_
  refine V_lstore_n d_Ref_noise_6 (by decide) ?_
  refine V_iconst d_Ref_noise_7 ?_
  refine V_istore d_Ref_noise_8 (by decide) ?_
  have st : ∀ i, i < nn → (fun i => V G M_Ref_noise (zdet (some (.long (Int64.ofInt (zNz t ((zqPh nn c L) 12) nn)))) (zqs G C th kd nn t tu ch ke (zqPh nn c L) w0) sz) (zR 3 0 0 75) 0 0 sz 10 [(0, .ref C), (1, .int (Int32.ofInt (c : Int))), (2, .long (Int64.ofInt (zNz t ((zqPh nn c L) 12) i))), (4, .int (Int32.ofInt (i : Int)))] [] (zqs G C th kd nn t tu ch ke (zqPh nn c L) w0)) (i + 1) → (fun i => V G M_Ref_noise (zdet (some (.long (Int64.ofInt (zNz t ((zqPh nn c L) 12) nn)))) (zqs G C th kd nn t tu ch ke (zqPh nn c L) w0) sz) (zR 3 0 0 75) 0 0 sz 10 [(0, .ref C), (1, .int (Int32.ofInt (c : Int))), (2, .long (Int64.ofInt (zNz t ((zqPh nn c L) 12) i))), (4, .int (Int32.ofInt (i : Int)))] [] (zqs G C th kd nn t tu ch ke (zqPh nn c L) w0)) i := by
    intro i hi ih
    have hz := zNz_b t ((zqPh nn c L) 12) i
    have hz2 := zct_b (t * (zqPh nn c L) 12 i)
    have hm := zmul_b ht (zqPh_b (c := c) (L := L) hi)
    by_cases hs : zct (t * (zqPh nn c L) 12 i) < 0
    · skip
      refine V_iload d_Ref_noise_10 rfl ?_
      refine V_aload_n d_Ref_noise_12 rfl ?_
      refine V_getf d_Ref_noise_13 ff_Ref_7 zqs_o rfl ?_
      refine J_icmp_ge 63 d_Ref_noise_16 (by decide) (by omega) (by omega) (fun c_16 => absurd c_16 (by omega)) (fun c_16 => ?_)
      refine V_aload_n d_Ref_noise_19 rfl ?_
      refine V_getf d_Ref_noise_20 ff_Ref_13 zqs_o rfl ?_
      refine J_i2l d_Ref_noise_23 (by omega) ?_
      refine V_aload_n d_Ref_noise_24 rfl ?_
      refine V_getf d_Ref_noise_25 ff_Ref_51 zqs_o rfl ?_
      refine V_iload d_Ref_noise_28 rfl ?_
      refine J_laload d_Ref_noise_30 (zqs_r (j := 12) (by unfold zqi; decide)) (by omega) (by decide) ?_
      refine J_lmul d_Ref_noise_31 ?_
      refine V_callS (n := 1) d_Ref_noise_32 g_Ref_162 rfl (r_centred G _ _ (t * (zqPh nn c L) 12 i) hm) ⟨co_Ref_centred, by decide +kernel, Nat.le_of_ble_eq_true rfl⟩ ⟨Nat.le_of_ble_eq_true rfl, Nat.le_of_ble_eq_true rfl, Nat.le_of_ble_eq_true rfl, Nat.le_of_ble_eq_true rfl⟩ (Nat.le_of_ble_eq_true rfl) (fun r_32 w_32 s_32 q_32 => ?_) (fun _ _ _ q => False.elim q)
      obtain ⟨rfl, rfl, rfl⟩ := q_32
      refine V_lstore d_Ref_noise_35 (by decide) ?_
      refine V_lload_n d_Ref_noise_37 rfl ?_
      refine V_lload d_Ref_noise_38 rfl ?_
      refine J_lconst (z := 0) d_Ref_noise_40 rfl ?_
      refine JL_ge 51 d_Ref_noise_41 d_Ref_noise_42 (by decide) (by omega) (by omega) (fun c_41 => absurd c_41 (by omega)) (fun c_41 => ?_)
      refine V_lload d_Ref_noise_45 rfl ?_
      refine J_lneg d_Ref_noise_47 ?_
      refine V_goto 53 d_Ref_noise_48 (by decide) ?_
      refine V_callS (n := 2) d_Ref_noise_53 g_Ref_168 rfl (c_maxJ G _ _ (zNz t ((zqPh nn c L) 12) i) (-(zct (t * (zqPh nn c L) 12 i))) (by omega) (by omega)) ⟨co_Math_max_JJ, by decide +kernel, Nat.le_of_ble_eq_true rfl⟩ ⟨Nat.le_of_ble_eq_true rfl, Nat.le_of_ble_eq_true rfl, Nat.le_of_ble_eq_true rfl, Nat.le_of_ble_eq_true rfl⟩ (Nat.le_of_ble_eq_true rfl) (fun r_53 w_53 s_53 q_53 => ?_) (fun _ _ _ q => False.elim q)
      obtain ⟨rfl, rfl, rfl⟩ := q_53
      refine V_lstore_n d_Ref_noise_56 (by decide) ?_
      refine J_iinc d_Ref_noise_57 rfl (by decide) ?_
      refine V_goto 10 d_Ref_noise_60 (by decide) ?_
      rw [show zNz t ((zqPh nn c L) 12) (i + 1) = zmx (zNz t ((zqPh nn c L) 12) i) (-(zct (t * (zqPh nn c L) 12 i))) from by show zmx _ (zab _) = _; unfold zab; rw [if_pos hs]] at ih
      exact V_lo [0, 1, 2, 4] rfl ih
    · skip
      refine V_iload d_Ref_noise_10 rfl ?_
      refine V_aload_n d_Ref_noise_12 rfl ?_
      refine V_getf d_Ref_noise_13 ff_Ref_7 zqs_o rfl ?_
      refine J_icmp_ge 63 d_Ref_noise_16 (by decide) (by omega) (by omega) (fun c_16 => absurd c_16 (by omega)) (fun c_16 => ?_)
      refine V_aload_n d_Ref_noise_19 rfl ?_
      refine V_getf d_Ref_noise_20 ff_Ref_13 zqs_o rfl ?_
      refine J_i2l d_Ref_noise_23 (by omega) ?_
      refine V_aload_n d_Ref_noise_24 rfl ?_
      refine V_getf d_Ref_noise_25 ff_Ref_51 zqs_o rfl ?_
      refine V_iload d_Ref_noise_28 rfl ?_
      refine J_laload d_Ref_noise_30 (zqs_r (j := 12) (by unfold zqi; decide)) (by omega) (by decide) ?_
      refine J_lmul d_Ref_noise_31 ?_
      refine V_callS (n := 1) d_Ref_noise_32 g_Ref_162 rfl (r_centred G _ _ (t * (zqPh nn c L) 12 i) hm) ⟨co_Ref_centred, by decide +kernel, Nat.le_of_ble_eq_true rfl⟩ ⟨Nat.le_of_ble_eq_true rfl, Nat.le_of_ble_eq_true rfl, Nat.le_of_ble_eq_true rfl, Nat.le_of_ble_eq_true rfl⟩ (Nat.le_of_ble_eq_true rfl) (fun r_32 w_32 s_32 q_32 => ?_) (fun _ _ _ q => False.elim q)
      obtain ⟨rfl, rfl, rfl⟩ := q_32
      refine V_lstore d_Ref_noise_35 (by decide) ?_
      refine V_lload_n d_Ref_noise_37 rfl ?_
      refine V_lload d_Ref_noise_38 rfl ?_
      refine J_lconst (z := 0) d_Ref_noise_40 rfl ?_
      refine JL_ge 51 d_Ref_noise_41 d_Ref_noise_42 (by decide) (by omega) (by omega) (fun c_41 => ?_) (fun c_41 => absurd c_41 (by omega))
      refine V_lload d_Ref_noise_51 rfl ?_
      refine V_callS (n := 2) d_Ref_noise_53 g_Ref_168 rfl (c_maxJ G _ _ (zNz t ((zqPh nn c L) 12) i) ((zct (t * (zqPh nn c L) 12 i))) (by omega) (by omega)) ⟨co_Math_max_JJ, by decide +kernel, Nat.le_of_ble_eq_true rfl⟩ ⟨Nat.le_of_ble_eq_true rfl, Nat.le_of_ble_eq_true rfl, Nat.le_of_ble_eq_true rfl, Nat.le_of_ble_eq_true rfl⟩ (Nat.le_of_ble_eq_true rfl) (fun r_53 w_53 s_53 q_53 => ?_) (fun _ _ _ q => False.elim q)
      obtain ⟨rfl, rfl, rfl⟩ := q_53
      refine V_lstore_n d_Ref_noise_56 (by decide) ?_
      refine J_iinc d_Ref_noise_57 rfl (by decide) ?_
      refine V_goto 10 d_Ref_noise_60 (by decide) ?_
      rw [show zNz t ((zqPh nn c L) 12) (i + 1) = zmx (zNz t ((zqPh nn c L) 12) i) ((zct (t * (zqPh nn c L) 12 i))) from by show zmx _ (zab _) = _; unfold zab; rw [if_neg hs]] at ih
      exact V_lo [0, 1, 2, 4] rfl ih
  refine zfor nn (fun i => V G M_Ref_noise (zdet (some (.long (Int64.ofInt (zNz t ((zqPh nn c L) 12) nn)))) (zqs G C th kd nn t tu ch ke (zqPh nn c L) w0) sz) (zR 3 0 0 75) 0 0 sz 10 [(0, .ref C), (1, .int (Int32.ofInt (c : Int))), (2, .long (Int64.ofInt (zNz t ((zqPh nn c L) 12) i))), (4, .int (Int32.ofInt (i : Int)))] [] (zqs G C th kd nn t tu ch ke (zqPh nn c L) w0)) ?_ st 0 (Nat.zero_le nn)
  refine V_iload d_Ref_noise_10 rfl ?_
  refine V_aload_n d_Ref_noise_12 rfl ?_
  refine V_getf d_Ref_noise_13 ff_Ref_7 zqs_o rfl ?_
  refine J_icmp_ge 63 d_Ref_noise_16 (by decide) (by omega) (by omega) (fun c_16 => ?_) (fun c_16 => absurd c_16 (by omega))
  refine V_lload_n d_Ref_noise_63 rfl ?_
  exact V_lreturn d_Ref_noise_64 rfl ⟨Nat.le_of_ble_eq_true rfl, Nat.le_of_ble_eq_true rfl⟩ ⟨rfl, rfl, rfl⟩

set_option maxRecDepth 100000 in
set_option maxHeartbeats 4000000 in
theorem r_budget (G : zG) (sz C : Nat) (th kd n t tu : Int) (ch : Int32) (ke : Int) (L : Nat → Int → Int) (w0 : zW) (nn : Nat) (hnn : n = (nn : Int)) (hn : nn ≤ 32) (c : Nat) (hc : c < 16) (hpc : 0 ≤ L 8 c ∧ L 8 c ≤ 3) (hPa : ∀ j : Int, 0 ≤ j → j < 1536 → 0 ≤ L 9 j ∧ L 9 j < 268435399) (hSa : ∀ j : Int, 0 ≤ j → j < 32 → -1 ≤ L 1 j ∧ L 1 j ≤ 1) (ht : 0 < t ∧ t ≤ 1000) : zCt G M_Ref_budget (zR 4 0 0 101) [.ref C, .int (Int32.ofInt (c : Int))] sz (zqs G C th kd n t tu ch ke L w0) (zdet (some (.int (Int32.ofInt ((zBu (zNz t ((zqPh nn c L) 12) nn) 27 : Nat) : Int)))) (zqs G C th kd n t tu ch ke (zqPh nn c L) w0) sz) := by
  subst hnn
  refine V_aload_n d_Ref_budget_0 rfl ?_
  refine V_iload_n d_Ref_budget_1 rfl ?_
  refine V_callV (n := 1) d_Ref_budget_2 g_Ref_174 rfl zqs_o rfl (r_noise G _ C th kd nn t tu ch ke L w0 nn rfl hn c hc hpc hPa hSa ht) ⟨co_Ref_noise, by decide +kernel, Nat.le_of_ble_eq_true rfl⟩ ⟨Nat.le_of_ble_eq_true rfl, Nat.le_of_ble_eq_true rfl, Nat.le_of_ble_eq_true rfl, Nat.le_of_ble_eq_true rfl⟩ (Nat.le_of_ble_eq_true rfl) (fun r_2 w_2 s_2 q_2 => ?_) (fun _ _ _ q => False.elim q)
  obtain ⟨rfl, rfl, rfl⟩ := q_2
  refine V_lstore_n d_Ref_budget_5 (by decide) ?_
  refine J_bipush d_Ref_budget_6 (by decide) ?_
  refine V_istore d_Ref_budget_8 (by decide) ?_
  have hx := zNz_b t ((zqPh nn c L) 12) nn
  have key : ∀ b : Nat, b ≤ 27 → zBu (zNz t ((zqPh nn c L) 12) nn) 27 = zBu (zNz t ((zqPh nn c L) 12) nn) b → V G M_Ref_budget (zdet (some (.int (Int32.ofInt ((zBu (zNz t ((zqPh nn c L) 12) nn) 27 : Nat) : Int)))) (zqs G C th kd nn t tu ch ke (zqPh nn c L) w0) sz) (zR 4 0 0 101) 0 0 sz 10 [(0, .ref C), (1, .int (Int32.ofInt (c : Int))), (2, .long (Int64.ofInt (zNz t ((zqPh nn c L) 12) nn))), (4, .int (Int32.ofInt (b : Int)))] [] (zqs G C th kd nn t tu ch ke (zqPh nn c L) w0) := by
    generalize (zNz t ((zqPh nn c L) 12) nn) = x at hx ⊢
    intro b
    induction b with
    | zero =>
      intro _ h5
      refine V_iload d_Ref_budget_10 rfl ?_
      refine J_if_le 34 d_Ref_budget_12 (by decide) (by omega) (fun c_12 => ?_) (fun c_12 => absurd c_12 (by decide))
      refine V_iload d_Ref_budget_34 rfl ?_
      exact V_ireturn d_Ref_budget_36 rfl ⟨Nat.le_of_ble_eq_true rfl, Nat.le_of_ble_eq_true rfl⟩ ⟨by rw [h5]; rfl, rfl, rfl⟩
    | succ b ih =>
      intro h4 h5
      have hx2 : 0 ≤ x * 2 ^ (b + 1 + 1) ∧ x * 2 ^ (b + 1 + 1) < 9223372036854775808 := by
        have h6 : (2 : Int) ^ (b + 1 + 1) ≤ 2 ^ 28 := (show ∀ b : Nat, b < 27 → (2 : Int) ^ (b + 1 + 1) ≤ 2 ^ 28 by decide +kernel) b (by omega)
        have h7 : (0 : Int) < 2 ^ (b + 1 + 1) := Int.pow_pos (by decide)
        have h8 : x * 2 ^ (b + 1 + 1) ≤ 134217699 * 2 ^ 28 := Int.mul_le_mul hx.2 h6 (Int.le_of_lt h7) (by decide)
        have h9 := Int.mul_nonneg hx.1 (Int.le_of_lt h7)
        omega
      refine V_iload d_Ref_budget_10 rfl ?_
      refine J_if_le 34 d_Ref_budget_12 (by decide) (by omega) (fun c_12 => absurd c_12 (by omega)) (fun c_12 => ?_)
      refine V_lload_n d_Ref_budget_15 rfl ?_
      refine V_iload d_Ref_budget_16 rfl ?_
      refine V_iconst d_Ref_budget_18 ?_
      refine J_iadd d_Ref_budget_19 ?_
      rw [show ((b + 1 : Nat) : Int) + 1 = ((b + 1 + 1 : Nat) : Int) from rfl]
      refine V_lshl d_Ref_budget_20 ?_
      rw [zshl2 (b := b + 1 + 1) (by omega)]
      refine J_ldc2 d_Ref_budget_21 k_Ref_72 ?_
      refine JL_lt 34 d_Ref_budget_24 d_Ref_budget_25 (by decide) (by omega) (by omega) (fun c_24 => ?_) (fun c_24 => ?_)
      · skip
        refine V_iload d_Ref_budget_34 rfl ?_
        exact V_ireturn d_Ref_budget_36 rfl ⟨Nat.le_of_ble_eq_true rfl, Nat.le_of_ble_eq_true rfl⟩ ⟨by rw [h5]; show some (Value.int (Int32.ofInt (((if _ then b + 1 else _) : Nat) : Int))) = _; rw [if_pos c_24], rfl, rfl⟩
      · skip
        have e : zBu x 27 = zBu x b := by rw [h5]; show (if _ then _ else _) = _; rw [if_neg (show ¬ x * 2 ^ (b + 1 + 1) < 268435399 by omega)]
        have e9 : ((b + 1 : Nat) : Int) + -1 = (b : Int) := by omega
        refine J_iinc d_Ref_budget_28 rfl (by decide) ?_
        rw [e9]
        refine V_goto 10 d_Ref_budget_31 (by decide) ?_
        exact ih (by omega) e
  exact key 27 (Nat.le_refl _) rfl

