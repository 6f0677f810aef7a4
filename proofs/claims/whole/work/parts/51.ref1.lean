set_option maxRecDepth 100000 in
set_option maxHeartbeats 4000000 in
theorem r_thrown (G : zG) (sz C : Nat) (th kd n t tu : Int) (ch : Int32) (ke : Int) (L : Nat → Int → Int) (w0 : zW) : zCt G M_Ref_thrown (zR 0 0 0 0) [.ref C] sz (zqs G C th kd n t tu ch ke L w0) (zdet (some (.int (Int32.ofInt th))) (zqs G C th kd n t tu ch ke L w0) sz) := by
  refine V_aload_n d_Ref_thrown_0 rfl ?_
  refine V_getf d_Ref_thrown_1 ff_Ref_69 zqs_o rfl ?_
  exact V_ireturn d_Ref_thrown_4 rfl ⟨Nat.le_of_ble_eq_true rfl, Nat.le_of_ble_eq_true rfl⟩ ⟨rfl, rfl, rfl⟩

set_option maxRecDepth 100000 in
set_option maxHeartbeats 4000000 in
theorem r_fail (G : zG) (sz C : Nat) (th kd n t tu : Int) (ch : Int32) (ke : Int) (L : Nat → Int → Int) (w0 : zW) (x : Int) : zCt G M_Ref_fail (zR 0 0 0 0) [.ref C, .int (Int32.ofInt x)] sz (zqs G C th kd n t tu ch ke L w0) (zdet (some (.int (Int32.ofInt 0))) (zqs G C x kd n t tu ch ke L w0) sz) := by
  refine V_aload_n d_Ref_fail_0 rfl ?_
  refine V_iload_n d_Ref_fail_1 rfl ?_
  refine V_putf d_Ref_fail_2 ff_Ref_69 zqs_o ⟨_, _, _, _, rfl, rfl, rfl, rfl, rfl⟩ (Nat.le_of_ble_eq_true rfl) ?_
  refine V_w (zqs_f (th' := x) rfl) ?_
  refine V_iconst d_Ref_fail_5 ?_
  exact V_ireturn d_Ref_fail_6 rfl ⟨Nat.le_of_ble_eq_true rfl, Nat.le_of_ble_eq_true rfl⟩ ⟨rfl, rfl, rfl⟩

set_option maxRecDepth 100000 in
set_option maxHeartbeats 4000000 in
theorem r_of (G : zG) (sz : Nat) (w : zW) (v : Int) (hv : -9223372036854775808 ≤ v ∧ v < 9223372036854775808) : zCt G M_Ref_of (zR 0 0 0 0) [.long (Int64.ofInt v)] sz w (zdet (some (.long (Int64.ofInt (v % 268435399)))) w sz) := by
  refine V_lload_n d_Ref_of_0 rfl ?_
  refine J_ldc2 d_Ref_of_1 k_Ref_72 ?_
  refine J_lrem d_Ref_of_4 (by omega) (by omega) ?_
  refine V_lstore_n d_Ref_of_5 (by decide) ?_
  refine V_lload_n d_Ref_of_6 rfl ?_
  refine J_lconst (z := 0) d_Ref_of_7 rfl ?_
  refine JL_ge 20 d_Ref_of_8 d_Ref_of_9 (by decide) (by have := ztmQ v; omega) (by omega) (fun c_8 => ?_) (fun c_8 => ?_)
  · skip
    refine V_lload_n d_Ref_of_20 rfl ?_
    exact V_lreturn d_Ref_of_21 rfl ⟨Nat.le_of_ble_eq_true rfl, Nat.le_of_ble_eq_true rfl⟩ ⟨by rw [zof1 c_8], rfl, rfl⟩
  · skip
    refine V_lload_n d_Ref_of_12 rfl ?_
    refine J_ldc2 d_Ref_of_13 k_Ref_72 ?_
    refine J_ladd d_Ref_of_16 ?_
    refine V_goto 21 d_Ref_of_17 (by decide) ?_
    exact V_lreturn d_Ref_of_21 rfl ⟨Nat.le_of_ble_eq_true rfl, Nat.le_of_ble_eq_true rfl⟩ ⟨by rw [zof2 c_8], rfl, rfl⟩

set_option maxRecDepth 100000 in
set_option maxHeartbeats 4000000 in
theorem r_centred (G : zG) (sz : Nat) (w : zW) (v : Int) (hv : -9223372036854775808 ≤ v ∧ v < 9223372036854775808) : zCt G M_Ref_centred (zR 1 0 0 23) [.long (Int64.ofInt v)] sz w (zdet (some (.long (Int64.ofInt (zct v)))) w sz) := by
  refine V_lload_n d_Ref_centred_0 rfl ?_
  refine V_callS (n := 1) d_Ref_centred_1 g_Ref_74 rfl (r_of G _ _ v hv) ⟨co_Ref_of, by decide +kernel, Nat.le_of_ble_eq_true rfl⟩ ⟨Nat.le_of_ble_eq_true rfl, Nat.le_of_ble_eq_true rfl, Nat.le_of_ble_eq_true rfl, Nat.le_of_ble_eq_true rfl⟩ (Nat.le_of_ble_eq_true rfl) (fun r_1 w_1 s_1 q_1 => ?_) (fun _ _ _ q => False.elim q)
  obtain ⟨rfl, rfl, rfl⟩ := q_1
  refine V_lstore_n d_Ref_centred_4 (by decide) ?_
  refine V_lload_n d_Ref_centred_5 rfl ?_
  refine J_ldc2 d_Ref_centred_6 k_Ref_78 ?_
  refine JL_le 21 d_Ref_centred_9 d_Ref_centred_10 (by decide) (by omega) (by omega) (fun c_9 => ?_) (fun c_9 => ?_)
  · skip
    refine V_lload_n d_Ref_centred_21 rfl ?_
    exact V_lreturn d_Ref_centred_22 rfl ⟨Nat.le_of_ble_eq_true rfl, Nat.le_of_ble_eq_true rfl⟩ ⟨by unfold zct; rw [if_neg (by omega)], rfl, rfl⟩
  · skip
    refine V_lload_n d_Ref_centred_13 rfl ?_
    refine J_ldc2 d_Ref_centred_14 k_Ref_72 ?_
    refine J_lsub d_Ref_centred_17 ?_
    refine V_goto 22 d_Ref_centred_18 (by decide) ?_
    exact V_lreturn d_Ref_centred_22 rfl ⟨Nat.le_of_ble_eq_true rfl, Nat.le_of_ble_eq_true rfl⟩ ⟨by unfold zct; rw [if_pos (by omega)], rfl, rfl⟩

set_option maxRecDepth 100000 in
set_option maxHeartbeats 4000000 in
theorem r_product (G : zG) (sz C : Nat) (th kd n t tu : Int) (ch : Int32) (ke : Int) (L : Nat → Int → Int) (w0 : zW) (nn : Nat) (hnn : n = (nn : Int)) (hn : nn ≤ 32) (a b d : Nat) (ha : zqi a) (hb : zqi b) (hd : zqi d) (had : a ≠ d) (hbd : b ≠ d) : zCt G M_Ref_product (zR 0 0 0 0) [.ref C, .ref (C + a), .ref (C + b), .ref (C + d)] sz (zqs G C th kd n t tu ch ke L w0) (zdet none (zqs G C th kd n t tu ch ke (zlu L d (zif nn (fun i => (zcp (nn : Int) (L a) (L b) i nn)) (L d))) w0) sz) := by
  subst hnn
  refine V_iconst d_Ref_product_0 ?_
  refine V_istore d_Ref_product_1 (by decide) ?_
  refine V_w (w' := (zqs G C th kd nn t tu ch ke (zlu L d (zif ((0 : Nat) : Int) (fun i => (zcp (nn : Int) (L a) (L b) i nn)) (L d))) w0)) (by rw [show ((0 : Nat) : Int) = 0 from rfl, zif_0, ← zqs_lu hd, zset_self (zqs_r hd)]) ?_
  refine zfor nn (fun i => V G M_Ref_product (zdet none (zqs G C th kd nn t tu ch ke (zlu L d (zif nn (fun i => (zcp (nn : Int) (L a) (L b) i nn)) (L d))) w0) sz) (zR 0 0 0 0) 0 0 sz 3 [(0, .ref C), (1, .ref (C + a)), (2, .ref (C + b)), (3, .ref (C + d)), (4, .int (Int32.ofInt (i : Int)))] [] (zqs G C th kd nn t tu ch ke (zlu L d (zif (i : Int) (fun i => (zcp (nn : Int) (L a) (L b) i nn)) (L d))) w0)) ?_ (fun i hi ih => ?_) 0 (Nat.zero_le nn)
  · skip
    refine V_iload d_Ref_product_3 rfl ?_
    refine V_aload_n d_Ref_product_5 rfl ?_
    refine V_getf d_Ref_product_6 ff_Ref_7 zqs_o rfl ?_
    refine J_icmp_ge 103 d_Ref_product_9 (by decide) (by omega) (by omega) (fun c_9 => ?_) (fun c_9 => absurd c_9 (by omega))
    exact V_return d_Ref_product_103 rfl ⟨Nat.le_of_ble_eq_true rfl, Nat.le_of_ble_eq_true rfl⟩ ⟨rfl, rfl, rfl⟩
  · skip
    refine V_iload d_Ref_product_3 rfl ?_
    refine V_aload_n d_Ref_product_5 rfl ?_
    refine V_getf d_Ref_product_6 ff_Ref_7 zqs_o rfl ?_
    refine J_icmp_ge 103 d_Ref_product_9 (by decide) (by omega) (by omega) (fun c_9 => absurd c_9 (by omega)) (fun c_9 => ?_)
    refine J_lconst (z := 0) d_Ref_product_12 rfl ?_
    refine V_lstore d_Ref_product_13 (by decide) ?_
    refine V_iconst d_Ref_product_15 ?_
    refine V_istore d_Ref_product_16 (by decide) ?_
    refine zfor (i + 1) (fun j => V G M_Ref_product (zdet none (zqs G C th kd nn t tu ch ke (zlu L d (zif nn (fun i => (zcp (nn : Int) (L a) (L b) i nn)) (L d))) w0) sz) (zR 0 0 0 0) 0 0 sz 18 [(0, .ref C), (1, .ref (C + a)), (2, .ref (C + b)), (3, .ref (C + d)), (4, .int (Int32.ofInt (i : Int))), (5, .long (Int64.ofInt (zcp (nn : Int) (L a) (L b) (i : Int) j))), (7, .int (Int32.ofInt (j : Int)))] [] (zqs G C th kd nn t tu ch ke (zlu L d (zif (i : Int) (fun i => (zcp (nn : Int) (L a) (L b) i nn)) (L d))) w0)) ?_ (fun j hj ih2 => ?_) 0 (Nat.zero_le _)
    · skip
      refine V_iload d_Ref_product_18 rfl ?_
      refine V_iload d_Ref_product_20 rfl ?_
      refine J_icmp_gt 48 d_Ref_product_22 (by decide) (by omega) (by omega) (fun c_22 => ?_) (fun c_22 => absurd c_22 (by omega))
      refine V_iload d_Ref_product_48 rfl ?_
      refine V_iconst d_Ref_product_50 ?_
      refine J_iadd d_Ref_product_51 ?_
      refine V_istore d_Ref_product_52 (by decide) ?_
      refine V_pc rfl ?_
      refine zforF (i + 1) nn (fun j => V G M_Ref_product (zdet none (zqs G C th kd nn t tu ch ke (zlu L d (zif nn (fun i => (zcp (nn : Int) (L a) (L b) i nn)) (L d))) w0) sz) (zR 0 0 0 0) 0 0 sz 54 [(0, .ref C), (1, .ref (C + a)), (2, .ref (C + b)), (3, .ref (C + d)), (4, .int (Int32.ofInt (i : Int))), (5, .long (Int64.ofInt (zcp (nn : Int) (L a) (L b) (i : Int) j))), (7, .int (Int32.ofInt (j : Int)))] [] (zqs G C th kd nn t tu ch ke (zlu L d (zif (i : Int) (fun i => (zcp (nn : Int) (L a) (L b) i nn)) (L d))) w0)) ?_ (fun j hj1 hj ih2 => ?_) (i + 1) (Nat.le_refl _) (by omega)
      · skip
        refine V_iload d_Ref_product_54 rfl ?_
        refine V_aload_n d_Ref_product_56 rfl ?_
        refine V_getf d_Ref_product_57 ff_Ref_7 zqs_o rfl ?_
        refine J_icmp_ge 91 d_Ref_product_60 (by decide) (by omega) (by omega) (fun c_60 => ?_) (fun c_60 => absurd c_60 (by omega))
        refine V_aload_n d_Ref_product_91 rfl ?_
        refine V_iload d_Ref_product_92 rfl ?_
        refine V_lload d_Ref_product_94 rfl ?_
        refine J_lastore d_Ref_product_96 (zqs_r hd) (by omega) (by decide) ?_
        refine J_iinc d_Ref_product_97 rfl (by decide) ?_
        refine V_goto 3 d_Ref_product_100 (by decide) ?_
        exact V_lo [0, 1, 2, 3, 4] rfl (V_w (by rw [zqs_lu hd, zlu_s, zif_s (by omega) rfl, zlu_lu]; rfl) ih)
      · skip
        refine V_iload d_Ref_product_54 rfl ?_
        refine V_aload_n d_Ref_product_56 rfl ?_
        refine V_getf d_Ref_product_57 ff_Ref_7 zqs_o rfl ?_
        refine J_icmp_ge 91 d_Ref_product_60 (by decide) (by omega) (by omega) (fun c_60 => absurd c_60 (by omega)) (fun c_60 => ?_)
        refine V_lload d_Ref_product_63 rfl ?_
        refine V_aload_n d_Ref_product_65 rfl ?_
        refine V_iload d_Ref_product_66 rfl ?_
        refine J_laload d_Ref_product_68 (zqs_r ha) (by omega) (by decide) ?_
        refine V_aload_n d_Ref_product_69 rfl ?_
        refine V_aload_n d_Ref_product_70 rfl ?_
        refine V_getf d_Ref_product_71 ff_Ref_7 zqs_o rfl ?_
        refine V_iload d_Ref_product_74 rfl ?_
        refine J_iadd d_Ref_product_76 ?_
        refine V_iload d_Ref_product_77 rfl ?_
        refine J_isub d_Ref_product_79 ?_
        refine J_laload d_Ref_product_80 (zqs_r hb) (by omega) (by decide) ?_
        refine J_lmul d_Ref_product_81 ?_
        rw [zlu_n had, zlu_n hbd]
        refine J_lsub d_Ref_product_82 ?_
        refine V_lstore d_Ref_product_83 (by decide) ?_
        refine J_iinc d_Ref_product_85 rfl (by decide) ?_
        refine V_goto 54 d_Ref_product_88 (by decide) ?_
        exact (show zcp (nn : Int) (L a) (L b) (i : Int) (j + 1) = zcp (nn : Int) (L a) (L b) (i : Int) j - L a j * L b (nn + i - j) from by show _ + _ = _; rw [if_neg (by omega)]; omega) ▸ ih2
    · skip
      refine V_iload d_Ref_product_18 rfl ?_
      refine V_iload d_Ref_product_20 rfl ?_
      refine J_icmp_gt 48 d_Ref_product_22 (by decide) (by omega) (by omega) (fun c_22 => absurd c_22 (by omega)) (fun c_22 => ?_)
      refine V_lload d_Ref_product_25 rfl ?_
      refine V_aload_n d_Ref_product_27 rfl ?_
      refine V_iload d_Ref_product_28 rfl ?_
      refine J_laload d_Ref_product_30 (zqs_r ha) (by omega) (by decide) ?_
      refine V_aload_n d_Ref_product_31 rfl ?_
      refine V_iload d_Ref_product_32 rfl ?_
      refine V_iload d_Ref_product_34 rfl ?_
      refine J_isub d_Ref_product_36 ?_
      refine J_laload d_Ref_product_37 (zqs_r hb) (by omega) (by decide) ?_
      refine J_lmul d_Ref_product_38 ?_
      rw [zlu_n had, zlu_n hbd]
      refine J_ladd d_Ref_product_39 ?_
      refine V_lstore d_Ref_product_40 (by decide) ?_
      refine J_iinc d_Ref_product_42 rfl (by decide) ?_
      refine V_goto 18 d_Ref_product_45 (by decide) ?_
      exact (show zcp (nn : Int) (L a) (L b) (i : Int) (j + 1) = zcp (nn : Int) (L a) (L b) (i : Int) j + L a j * L b (i - j) from by show _ + _ = _; rw [if_pos (by omega)]) ▸ ih2

set_option maxRecDepth 100000 in
set_option maxHeartbeats 4000000 in
theorem r_reduced (G : zG) (sz C : Nat) (th kd n t tu : Int) (ch : Int32) (ke : Int) (L : Nat → Int → Int) (w0 : zW) (nn : Nat) (hnn : n = (nn : Int)) (hn : nn ≤ 32) (a b d : Nat) (ha : zqi a) (hb : zqi b) (hd : zqi d) (had : a ≠ d) (hbd : b ≠ d) (hA : ∀ j : Nat, j < nn → -9223372036854775808 ≤ L a j ∧ L a j < 9223372036854775808) (hB : ∀ j : Int, 0 ≤ j → j < nn → -9223372036854775808 ≤ L b j ∧ L b j < 9223372036854775808) : zCt G M_Ref_reduced (zR 1 0 0 23) [.ref C, .ref (C + a), .ref (C + b), .ref (C + d)] sz (zqs G C th kd n t tu ch ke L w0) (zdet none (zqs G C th kd n t tu ch ke (zlu L d (zif nn (fun i => (zrd (nn : Int) (L a) (L b) i nn) % 268435399) (L d))) w0) sz) := by
  subst hnn
  refine V_iconst d_Ref_reduced_0 ?_
  refine V_istore d_Ref_reduced_1 (by decide) ?_
  refine V_w (w' := (zqs G C th kd nn t tu ch ke (zlu L d (zif ((0 : Nat) : Int) (fun i => (zrd (nn : Int) (L a) (L b) i nn) % 268435399) (L d))) w0)) (by rw [show ((0 : Nat) : Int) = 0 from rfl, zif_0, ← zqs_lu hd, zset_self (zqs_r hd)]) ?_
  refine zfor nn (fun i => V G M_Ref_reduced (zdet none (zqs G C th kd nn t tu ch ke (zlu L d (zif nn (fun i => (zrd (nn : Int) (L a) (L b) i nn) % 268435399) (L d))) w0) sz) (zR 1 0 0 23) 0 0 sz 3 [(0, .ref C), (1, .ref (C + a)), (2, .ref (C + b)), (3, .ref (C + d)), (4, .int (Int32.ofInt (i : Int)))] [] (zqs G C th kd nn t tu ch ke (zlu L d (zif (i : Int) (fun i => (zrd (nn : Int) (L a) (L b) i nn) % 268435399) (L d))) w0)) ?_ (fun i hi ih => ?_) 0 (Nat.zero_le nn)
  · skip
    refine V_iload d_Ref_reduced_3 rfl ?_
    refine V_aload_n d_Ref_reduced_5 rfl ?_
    refine V_getf d_Ref_reduced_6 ff_Ref_7 zqs_o rfl ?_
    refine J_icmp_ge 111 d_Ref_reduced_9 (by decide) (by omega) (by omega) (fun c_9 => ?_) (fun c_9 => absurd c_9 (by omega))
    exact V_return d_Ref_reduced_111 rfl ⟨Nat.le_of_ble_eq_true rfl, Nat.le_of_ble_eq_true rfl⟩ ⟨rfl, rfl, rfl⟩
  · skip
    refine V_iload d_Ref_reduced_3 rfl ?_
    refine V_aload_n d_Ref_reduced_5 rfl ?_
    refine V_getf d_Ref_reduced_6 ff_Ref_7 zqs_o rfl ?_
    refine J_icmp_ge 111 d_Ref_reduced_9 (by decide) (by omega) (by omega) (fun c_9 => absurd c_9 (by omega)) (fun c_9 => ?_)
    refine J_lconst (z := 0) d_Ref_reduced_12 rfl ?_
    refine V_lstore d_Ref_reduced_13 (by decide) ?_
    refine V_iconst d_Ref_reduced_15 ?_
    refine V_istore d_Ref_reduced_16 (by decide) ?_
    refine zfor nn (fun j => V G M_Ref_reduced (zdet none (zqs G C th kd nn t tu ch ke (zlu L d (zif nn (fun i => (zrd (nn : Int) (L a) (L b) i nn) % 268435399) (L d))) w0) sz) (zR 1 0 0 23) 0 0 sz 18 [(0, .ref C), (1, .ref (C + a)), (2, .ref (C + b)), (3, .ref (C + d)), (4, .int (Int32.ofInt (i : Int))), (5, .long (Int64.ofInt (zrd (nn : Int) (L a) (L b) (i : Int) j))), (7, .int (Int32.ofInt (j : Int)))] [] (zqs G C th kd nn t tu ch ke (zlu L d (zif (i : Int) (fun i => (zrd (nn : Int) (L a) (L b) i nn) % 268435399) (L d))) w0)) ?_ (fun j hj ih2 => ?_) 0 (Nat.zero_le _)
    · have hzb := zrd_b (n := (nn : Int)) (f := L a) (g := L b) (i := (i : Int)) nn
      refine V_iload d_Ref_reduced_18 rfl ?_
      refine V_aload_n d_Ref_reduced_20 rfl ?_
      refine V_getf d_Ref_reduced_21 ff_Ref_7 zqs_o rfl ?_
      refine J_icmp_ge 96 d_Ref_reduced_24 (by decide) (by omega) (by omega) (fun c_24 => ?_) (fun c_24 => absurd c_24 (by omega))
      refine V_aload_n d_Ref_reduced_96 rfl ?_
      refine V_iload d_Ref_reduced_97 rfl ?_
      refine V_lload d_Ref_reduced_99 rfl ?_
      refine V_callS (n := 1) d_Ref_reduced_101 g_Ref_74 rfl (r_of G _ _ _ (by omega)) ⟨co_Ref_of, by decide +kernel, Nat.le_of_ble_eq_true rfl⟩ ⟨Nat.le_of_ble_eq_true rfl, Nat.le_of_ble_eq_true rfl, Nat.le_of_ble_eq_true rfl, Nat.le_of_ble_eq_true rfl⟩ (Nat.le_of_ble_eq_true rfl) (fun r_101 w_101 s_101 q_101 => ?_) (fun _ _ _ q => False.elim q)
      obtain ⟨rfl, rfl, rfl⟩ := q_101
      refine J_lastore d_Ref_reduced_104 (zqs_r hd) (by omega) (by decide) ?_
      refine J_iinc d_Ref_reduced_105 rfl (by decide) ?_
      refine V_goto 3 d_Ref_reduced_108 (by decide) ?_
      exact V_lo [0, 1, 2, 3, 4] rfl (V_w (by rw [zqs_lu hd, zlu_s, zif_s (by omega) rfl, zlu_lu]; rfl) ih)
    · have hra := hA j hj
      have hp1 := zprd (L a j) (L b ((i : Int) - j + nn))
      have hp2 := zprd (L a j) (L b ((i : Int) - j))
      by_cases hs : (i : Int) - j < 0
      · skip
        refine V_iload d_Ref_reduced_18 rfl ?_
        refine V_aload_n d_Ref_reduced_20 rfl ?_
        refine V_getf d_Ref_reduced_21 ff_Ref_7 zqs_o rfl ?_
        refine J_icmp_ge 96 d_Ref_reduced_24 (by decide) (by omega) (by omega) (fun c_24 => absurd c_24 (by omega)) (fun c_24 => ?_)
        refine V_iload d_Ref_reduced_27 rfl ?_
        refine V_iload d_Ref_reduced_29 rfl ?_
        refine J_isub d_Ref_reduced_31 ?_
        refine V_istore d_Ref_reduced_32 (by decide) ?_
        refine V_aload_n d_Ref_reduced_34 rfl ?_
        refine V_iload d_Ref_reduced_35 rfl ?_
        refine J_laload d_Ref_reduced_37 (zqs_r ha) (by omega) (by decide) ?_
        rw [zlu_n had]
        refine J_ldc2 d_Ref_reduced_38 k_Ref_72 ?_
        refine J_lrem d_Ref_reduced_41 hra (by omega) ?_
        refine V_aload_n d_Ref_reduced_42 rfl ?_
        refine V_iload d_Ref_reduced_43 rfl ?_
        refine J_if_ge 58 d_Ref_reduced_45 (by decide) (by omega) (fun c_45 => absurd c_45 (by omega)) (fun c_45 => ?_)
        refine V_iload d_Ref_reduced_48 rfl ?_
        refine V_aload_n d_Ref_reduced_50 rfl ?_
        refine V_getf d_Ref_reduced_51 ff_Ref_7 zqs_o rfl ?_
        refine J_iadd d_Ref_reduced_54 ?_
        refine V_goto 60 d_Ref_reduced_55 (by decide) ?_
        refine J_laload d_Ref_reduced_60 (zqs_r hb) (by omega) (by decide) ?_
        rw [zlu_n hbd]
        refine J_ldc2 d_Ref_reduced_61 k_Ref_72 ?_
        refine J_lrem d_Ref_reduced_64 (hB _ (by omega) (by omega)) (by omega) ?_
        refine J_lmul d_Ref_reduced_65 ?_
        refine J_ldc2 d_Ref_reduced_66 k_Ref_72 ?_
        refine J_lrem d_Ref_reduced_69 hp1 (by omega) ?_
        refine V_lstore d_Ref_reduced_70 (by decide) ?_
        refine V_lload d_Ref_reduced_72 rfl ?_
        refine V_iload d_Ref_reduced_74 rfl ?_
        refine J_if_ge 85 d_Ref_reduced_76 (by decide) (by omega) (fun c_76 => absurd c_76 (by omega)) (fun c_76 => ?_)
        refine V_lload d_Ref_reduced_79 rfl ?_
        refine J_lneg d_Ref_reduced_81 ?_
        refine V_goto 87 d_Ref_reduced_82 (by decide) ?_
        refine J_ladd d_Ref_reduced_87 ?_
        refine V_lstore d_Ref_reduced_88 (by decide) ?_
        refine J_iinc d_Ref_reduced_90 rfl (by decide) ?_
        refine V_goto 18 d_Ref_reduced_93 (by decide) ?_
        refine V_lo [0, 1, 2, 3, 4, 5, 7] rfl ?_
        rw [show zrd (nn : Int) (L a) (L b) (i : Int) (j + 1) = zrd (nn : Int) (L a) (L b) (i : Int) j + -(zrt (L a j) (L b ((i : Int) - j + nn))) from by show _ + _ = _; rw [if_pos hs]] at ih2
        exact ih2
      · skip
        refine V_iload d_Ref_reduced_18 rfl ?_
        refine V_aload_n d_Ref_reduced_20 rfl ?_
        refine V_getf d_Ref_reduced_21 ff_Ref_7 zqs_o rfl ?_
        refine J_icmp_ge 96 d_Ref_reduced_24 (by decide) (by omega) (by omega) (fun c_24 => absurd c_24 (by omega)) (fun c_24 => ?_)
        refine V_iload d_Ref_reduced_27 rfl ?_
        refine V_iload d_Ref_reduced_29 rfl ?_
        refine J_isub d_Ref_reduced_31 ?_
        refine V_istore d_Ref_reduced_32 (by decide) ?_
        refine V_aload_n d_Ref_reduced_34 rfl ?_
        refine V_iload d_Ref_reduced_35 rfl ?_
        refine J_laload d_Ref_reduced_37 (zqs_r ha) (by omega) (by decide) ?_
        rw [zlu_n had]
        refine J_ldc2 d_Ref_reduced_38 k_Ref_72 ?_
        refine J_lrem d_Ref_reduced_41 hra (by omega) ?_
        refine V_aload_n d_Ref_reduced_42 rfl ?_
        refine V_iload d_Ref_reduced_43 rfl ?_
        refine J_if_ge 58 d_Ref_reduced_45 (by decide) (by omega) (fun c_45 => ?_) (fun c_45 => absurd c_45 (by omega))
        refine V_iload d_Ref_reduced_58 rfl ?_
        refine J_laload d_Ref_reduced_60 (zqs_r hb) (by omega) (by decide) ?_
        rw [zlu_n hbd]
        refine J_ldc2 d_Ref_reduced_61 k_Ref_72 ?_
        refine J_lrem d_Ref_reduced_64 (hB _ (by omega) (by omega)) (by omega) ?_
        refine J_lmul d_Ref_reduced_65 ?_
        refine J_ldc2 d_Ref_reduced_66 k_Ref_72 ?_
        refine J_lrem d_Ref_reduced_69 hp2 (by omega) ?_
        refine V_lstore d_Ref_reduced_70 (by decide) ?_
        refine V_lload d_Ref_reduced_72 rfl ?_
        refine V_iload d_Ref_reduced_74 rfl ?_
        refine J_if_ge 85 d_Ref_reduced_76 (by decide) (by omega) (fun c_76 => ?_) (fun c_76 => absurd c_76 (by omega))
        refine V_lload d_Ref_reduced_85 rfl ?_
        refine J_ladd d_Ref_reduced_87 ?_
        refine V_lstore d_Ref_reduced_88 (by decide) ?_
        refine J_iinc d_Ref_reduced_90 rfl (by decide) ?_
        refine V_goto 18 d_Ref_reduced_93 (by decide) ?_
        refine V_lo [0, 1, 2, 3, 4, 5, 7] rfl ?_
        rw [show zrd (nn : Int) (L a) (L b) (i : Int) (j + 1) = zrd (nn : Int) (L a) (L b) (i : Int) j + zrt (L a j) (L b ((i : Int) - j)) from by show _ + _ = _; rw [if_neg hs]] at ih2
        exact ih2

set_option maxRecDepth 100000 in
set_option maxHeartbeats 4000000 in
theorem r_reduce (G : zG) (sz C : Nat) (th kd n t tu : Int) (ch : Int32) (ke : Int) (L : Nat → Int → Int) (w0 : zW) (nn : Nat) (hnn : n = (nn : Int)) (hn : nn ≤ 32) (a : Nat) (ha : zqi a) (hA : ∀ j : Nat, j < nn → -9223372036854775808 ≤ L a j ∧ L a j < 9223372036854775808) : zCt G M_Ref_reduce (zR 1 0 0 23) [.ref C, .ref (C + a)] sz (zqs G C th kd n t tu ch ke L w0) (zdet none (zqs G C th kd n t tu ch ke (zlu L a (zif nn (fun i => L a i % 268435399) (L a))) w0) sz) := by
  subst hnn
  refine V_iconst d_Ref_reduce_0 ?_
  refine V_istore_n d_Ref_reduce_1 (by decide) ?_
  refine V_w (w' := (zqs G C th kd nn t tu ch ke (zlu L a (zif ((0 : Nat) : Int) (fun i => L a i % 268435399) (L a))) w0)) (by rw [show ((0 : Nat) : Int) = 0 from rfl, zif_0, ← zqs_lu ha, zset_self (zqs_r ha)]) ?_
  refine zfor nn (fun i => V G M_Ref_reduce (zdet none (zqs G C th kd nn t tu ch ke (zlu L a (zif nn (fun i => L a i % 268435399) (L a))) w0) sz) (zR 1 0 0 23) 0 0 sz 2 [(0, .ref C), (1, .ref (C + a)), (2, .int (Int32.ofInt (i : Int)))] [] (zqs G C th kd nn t tu ch ke (zlu L a (zif (i : Int) (fun i => L a i % 268435399) (L a))) w0)) ?_ (fun i hi ih => ?_) 0 (Nat.zero_le nn)
  · skip
    refine V_iload_n d_Ref_reduce_2 rfl ?_
    refine V_aload_n d_Ref_reduce_3 rfl ?_
    refine V_getf d_Ref_reduce_4 ff_Ref_7 zqs_o rfl ?_
    refine J_icmp_ge 25 d_Ref_reduce_7 (by decide) (by omega) (by omega) (fun c_7 => ?_) (fun c_7 => absurd c_7 (by omega))
    exact V_return d_Ref_reduce_25 rfl ⟨Nat.le_of_ble_eq_true rfl, Nat.le_of_ble_eq_true rfl⟩ ⟨rfl, rfl, rfl⟩
  · skip
    refine V_iload_n d_Ref_reduce_2 rfl ?_
    refine V_aload_n d_Ref_reduce_3 rfl ?_
    refine V_getf d_Ref_reduce_4 ff_Ref_7 zqs_o rfl ?_
    refine J_icmp_ge 25 d_Ref_reduce_7 (by decide) (by omega) (by omega) (fun c_7 => absurd c_7 (by omega)) (fun c_7 => ?_)
    refine V_aload_n d_Ref_reduce_10 rfl ?_
    refine V_iload_n d_Ref_reduce_11 rfl ?_
    refine V_aload_n d_Ref_reduce_12 rfl ?_
    refine V_iload_n d_Ref_reduce_13 rfl ?_
    refine J_laload d_Ref_reduce_14 (zqs_r ha) (by omega) (by decide) ?_
    rw [zlu_s, zif_r (show ¬ (0 ≤ (i : Int) ∧ (i : Int) < i) by omega)]
    refine V_callS (n := 1) d_Ref_reduce_15 g_Ref_74 rfl (r_of G _ _ (L a i) (hA i hi)) ⟨co_Ref_of, by decide +kernel, Nat.le_of_ble_eq_true rfl⟩ ⟨Nat.le_of_ble_eq_true rfl, Nat.le_of_ble_eq_true rfl, Nat.le_of_ble_eq_true rfl, Nat.le_of_ble_eq_true rfl⟩ (Nat.le_of_ble_eq_true rfl) (fun r_15 w_15 s_15 q_15 => ?_) (fun _ _ _ q => False.elim q)
    obtain ⟨rfl, rfl, rfl⟩ := q_15
    refine J_lastore d_Ref_reduce_18 (zqs_r ha) (by omega) (by decide) ?_
    refine J_iinc d_Ref_reduce_19 rfl (by decide) ?_
    refine V_goto 2 d_Ref_reduce_22 (by decide) ?_
    exact V_w (by rw [zqs_lu ha, zlu_s, zif_s (by omega) rfl, zlu_lu]; rfl) ih

set_option maxRecDepth 100000 in
set_option maxHeartbeats 4000000 in
theorem r_draw (G : zG) (sz C : Nat) (th kd n t tu : Int) (ch : Int32) (ke : Int) (L : Nat → Int → Int) (w0 : zW) : zCt G M_Ref_draw (zR 0 0 0 0) [.ref C] sz (zqs G C th kd n t tu ch ke L w0) (zdet (some (.int (Int32.ofInt (zup (zlc ch))))) (zqs G C th kd n t tu (zlc ch) ke L w0) sz) := by
  refine V_aload_n d_Ref_draw_0 rfl ?_
  refine V_ldc d_Ref_draw_1 k_Ref_80 ?_
  refine V_aload_n d_Ref_draw_3 rfl ?_
  refine V_getf d_Ref_draw_4 ff_Ref_81 zqs_o rfl ?_
  refine V_imul d_Ref_draw_7 ?_
  refine V_ldc d_Ref_draw_8 k_Ref_84 ?_
  refine V_iadd d_Ref_draw_10 ?_
  refine V_putf d_Ref_draw_11 ff_Ref_81 zqs_o ⟨_, _, _, _, rfl, rfl, rfl, rfl, rfl⟩ (Nat.le_of_ble_eq_true rfl) ?_
  refine V_w (zqs_f (ch' := zlc ch) rfl) ?_
  refine V_aload_n d_Ref_draw_14 rfl ?_
  refine V_getf d_Ref_draw_15 ff_Ref_81 zqs_o rfl ?_
  refine J_bipush d_Ref_draw_18 (by decide) ?_
  refine V_iushr d_Ref_draw_20 ?_
  exact V_ireturn d_Ref_draw_21 rfl ⟨Nat.le_of_ble_eq_true rfl, Nat.le_of_ble_eq_true rfl⟩ ⟨by rw [← zup_of]; rfl, rfl, rfl⟩

set_option maxRecDepth 100000 in
set_option maxHeartbeats 4000000 in
theorem r_ternary (G : zG) (sz C : Nat) (th kd n t tu : Int) (ch : Int32) (ke : Int) (L : Nat → Int → Int) (w0 : zW) (nn : Nat) (hnn : n = (nn : Int)) (hn : nn ≤ 32) (a : Nat) (ha : zqi a) : zCt G M_Ref_ternary (zR 1 0 0 20) [.ref C, .ref (C + a)] sz (zqs G C th kd n t tu ch ke L w0) (zdet none (zqs G C th kd n t tu (zlcN ch nn) ke (zlu L a (zif nn (zrT ch) (L a))) w0) sz) := by
  subst hnn
  refine V_iconst d_Ref_ternary_0 ?_
  refine V_istore_n d_Ref_ternary_1 (by decide) ?_
  refine V_w (w' := (zqs G C th kd nn t tu ch ke (zlu L a (zif ((0 : Nat) : Int) (zrT ch) (L a))) w0)) (by rw [show ((0 : Nat) : Int) = 0 from rfl, zif_0, ← zqs_lu ha, zset_self (zqs_r ha)]) ?_
  refine zfor nn (fun i => V G M_Ref_ternary (zdet none (zqs G C th kd nn t tu (zlcN ch nn) ke (zlu L a (zif nn (zrT ch) (L a))) w0) sz) (zR 1 0 0 20) 0 0 sz 2 [(0, .ref C), (1, .ref (C + a)), (2, .int (Int32.ofInt (i : Int)))] [] (zqs G C th kd nn t tu (zlcN ch i) ke (zlu L a (zif (i : Int) (zrT ch) (L a))) w0)) ?_ (fun i hi ih => ?_) 0 (Nat.zero_le nn)
  · skip
    refine V_iload_n d_Ref_ternary_2 rfl ?_
    refine V_aload_n d_Ref_ternary_3 rfl ?_
    refine V_getf d_Ref_ternary_4 ff_Ref_7 zqs_o rfl ?_
    refine J_icmp_ge 28 d_Ref_ternary_7 (by decide) (by omega) (by omega) (fun c_7 => ?_) (fun c_7 => absurd c_7 (by omega))
    exact V_return d_Ref_ternary_28 rfl ⟨Nat.le_of_ble_eq_true rfl, Nat.le_of_ble_eq_true rfl⟩ ⟨rfl, rfl, rfl⟩
  · skip
    have hu := zup_b (zlc (zlcN ch i))
    refine V_iload_n d_Ref_ternary_2 rfl ?_
    refine V_aload_n d_Ref_ternary_3 rfl ?_
    refine V_getf d_Ref_ternary_4 ff_Ref_7 zqs_o rfl ?_
    refine J_icmp_ge 28 d_Ref_ternary_7 (by decide) (by omega) (by omega) (fun c_7 => absurd c_7 (by omega)) (fun c_7 => ?_)
    refine V_aload_n d_Ref_ternary_10 rfl ?_
    refine V_iload_n d_Ref_ternary_11 rfl ?_
    refine V_aload_n d_Ref_ternary_12 rfl ?_
    refine V_callV (n := 0) d_Ref_ternary_13 g_Ref_85 rfl zqs_o rfl (r_draw G _ C th kd nn t tu (zlcN ch i) ke (zlu L a (zif (i : Int) (zrT ch) (L a))) w0) ⟨co_Ref_draw, by decide +kernel, Nat.le_of_ble_eq_true rfl⟩ ⟨Nat.le_of_ble_eq_true rfl, Nat.le_of_ble_eq_true rfl, Nat.le_of_ble_eq_true rfl, Nat.le_of_ble_eq_true rfl⟩ (Nat.le_of_ble_eq_true rfl) (fun r_13 w_13 s_13 q_13 => ?_) (fun _ _ _ q => False.elim q)
    obtain ⟨rfl, rfl, rfl⟩ := q_13
    refine V_iconst d_Ref_ternary_16 ?_
    refine J_iremP d_Ref_ternary_17 (by omega) (by omega) ?_
    refine V_iconst d_Ref_ternary_18 ?_
    refine J_isub d_Ref_ternary_19 ?_
    refine J_i2l d_Ref_ternary_20 (by omega) ?_
    refine J_lastore d_Ref_ternary_21 (zqs_r ha) (by omega) (by decide) ?_
    refine J_iinc d_Ref_ternary_22 rfl (by decide) ?_
    refine V_goto 2 d_Ref_ternary_25 (by decide) ?_
    exact V_w (by rw [zqs_lu ha, zlu_s, zif_s (by omega) (show _ = zrT ch i from by unfold zrT; rw [show ((i : Int)).toNat = i by omega]; rfl), zlu_lu]; rfl) ih

set_option maxRecDepth 100000 in
set_option maxHeartbeats 4000000 in
theorem r_error (G : zG) (sz C : Nat) (th kd n t tu : Int) (ch : Int32) (ke : Int) (L : Nat → Int → Int) (w0 : zW) (nn : Nat) (hnn : n = (nn : Int)) (hn : nn ≤ 32) (a : Nat) (ha : zqi a) : zCt G M_Ref_error (zR 1 0 0 20) [.ref C, .ref (C + a)] sz (zqs G C th kd n t tu ch ke L w0) (zdet none (zqs G C th kd n t tu (zlcN ch nn) ke (zlu L a (zif nn (zrE ch) (L a))) w0) sz) := by
  subst hnn
  refine V_iconst d_Ref_error_0 ?_
  refine V_istore_n d_Ref_error_1 (by decide) ?_
  refine V_w (w' := (zqs G C th kd nn t tu ch ke (zlu L a (zif ((0 : Nat) : Int) (zrE ch) (L a))) w0)) (by rw [show ((0 : Nat) : Int) = 0 from rfl, zif_0, ← zqs_lu ha, zset_self (zqs_r ha)]) ?_
  refine zfor nn (fun i => V G M_Ref_error (zdet none (zqs G C th kd nn t tu (zlcN ch nn) ke (zlu L a (zif nn (zrE ch) (L a))) w0) sz) (zR 1 0 0 20) 0 0 sz 2 [(0, .ref C), (1, .ref (C + a)), (2, .int (Int32.ofInt (i : Int)))] [] (zqs G C th kd nn t tu (zlcN ch i) ke (zlu L a (zif (i : Int) (zrE ch) (L a))) w0)) ?_ (fun i hi ih => ?_) 0 (Nat.zero_le nn)
  · skip
    refine V_iload_n d_Ref_error_2 rfl ?_
    refine V_aload_n d_Ref_error_3 rfl ?_
    refine V_getf d_Ref_error_4 ff_Ref_7 zqs_o rfl ?_
    refine J_icmp_ge 58 d_Ref_error_7 (by decide) (by omega) (by omega) (fun c_7 => ?_) (fun c_7 => absurd c_7 (by omega))
    exact V_return d_Ref_error_58 rfl ⟨Nat.le_of_ble_eq_true rfl, Nat.le_of_ble_eq_true rfl⟩ ⟨rfl, rfl, rfl⟩
  · skip
    have hu := zup_b (zlc (zlcN ch i))
    refine V_iload_n d_Ref_error_2 rfl ?_
    refine V_aload_n d_Ref_error_3 rfl ?_
    refine V_getf d_Ref_error_4 ff_Ref_7 zqs_o rfl ?_
    refine J_icmp_ge 58 d_Ref_error_7 (by decide) (by omega) (by omega) (fun c_7 => absurd c_7 (by omega)) (fun c_7 => ?_)
    refine V_aload_n d_Ref_error_10 rfl ?_
    refine V_callV (n := 0) d_Ref_error_11 g_Ref_85 rfl zqs_o rfl (r_draw G _ C th kd nn t tu (zlcN ch i) ke (zlu L a (zif (i : Int) (zrE ch) (L a))) w0) ⟨co_Ref_draw, by decide +kernel, Nat.le_of_ble_eq_true rfl⟩ ⟨Nat.le_of_ble_eq_true rfl, Nat.le_of_ble_eq_true rfl, Nat.le_of_ble_eq_true rfl, Nat.le_of_ble_eq_true rfl⟩ (Nat.le_of_ble_eq_true rfl) (fun r_11 w_11 s_11 q_11 => ?_) (fun _ _ _ q => False.elim q)
    obtain ⟨rfl, rfl, rfl⟩ := q_11
    refine V_istore_n d_Ref_error_14 (by decide) ?_
    refine V_aload_n d_Ref_error_15 rfl ?_
    refine V_iload_n d_Ref_error_16 rfl ?_
    refine V_iload_n d_Ref_error_17 rfl ?_
    refine V_iconst d_Ref_error_18 ?_
    refine V_iand d_Ref_error_19 ?_
    rw [zbi0 hu]
    refine V_iload_n d_Ref_error_20 rfl ?_
    refine V_iconst d_Ref_error_21 ?_
    refine V_ishr d_Ref_error_22 ?_
    refine V_iconst d_Ref_error_23 ?_
    refine V_iand d_Ref_error_24 ?_
    rw [show Int32.ofInt (zup (zlc (zlcN ch i))) >>> (Int32.ofInt 1 &&& 31) &&& Int32.ofInt 1 = Int32.ofInt (zup (zlc (zlcN ch i)) / 2 % 2) from zbi (k := 1) hu (by decide)]
    refine J_iadd d_Ref_error_25 ?_
    refine V_iload_n d_Ref_error_26 rfl ?_
    refine V_iconst d_Ref_error_27 ?_
    refine V_ishr d_Ref_error_28 ?_
    refine V_iconst d_Ref_error_29 ?_
    refine V_iand d_Ref_error_30 ?_
    rw [show Int32.ofInt (zup (zlc (zlcN ch i))) >>> (Int32.ofInt 2 &&& 31) &&& Int32.ofInt 1 = Int32.ofInt (zup (zlc (zlcN ch i)) / 4 % 2) from zbi (k := 2) hu (by decide)]
    refine J_iadd d_Ref_error_31 ?_
    refine V_iload_n d_Ref_error_32 rfl ?_
    refine V_iconst d_Ref_error_33 ?_
    refine V_ishr d_Ref_error_34 ?_
    refine V_iconst d_Ref_error_35 ?_
    refine V_iand d_Ref_error_36 ?_
    rw [show Int32.ofInt (zup (zlc (zlcN ch i))) >>> (Int32.ofInt 3 &&& 31) &&& Int32.ofInt 1 = Int32.ofInt (zup (zlc (zlcN ch i)) / 8 % 2) from zbi (k := 3) hu (by decide)]
    refine J_isub d_Ref_error_37 ?_
    refine V_iload_n d_Ref_error_38 rfl ?_
    refine V_iconst d_Ref_error_39 ?_
    refine V_ishr d_Ref_error_40 ?_
    refine V_iconst d_Ref_error_41 ?_
    refine V_iand d_Ref_error_42 ?_
    rw [show Int32.ofInt (zup (zlc (zlcN ch i))) >>> (Int32.ofInt 4 &&& 31) &&& Int32.ofInt 1 = Int32.ofInt (zup (zlc (zlcN ch i)) / 16 % 2) from zbi (k := 4) hu (by decide)]
    refine J_isub d_Ref_error_43 ?_
    refine V_iload_n d_Ref_error_44 rfl ?_
    refine V_iconst d_Ref_error_45 ?_
    refine V_ishr d_Ref_error_46 ?_
    refine V_iconst d_Ref_error_47 ?_
    refine V_iand d_Ref_error_48 ?_
    rw [show Int32.ofInt (zup (zlc (zlcN ch i))) >>> (Int32.ofInt 5 &&& 31) &&& Int32.ofInt 1 = Int32.ofInt (zup (zlc (zlcN ch i)) / 32 % 2) from zbi (k := 5) hu (by decide)]
    refine J_isub d_Ref_error_49 ?_
    refine J_i2l d_Ref_error_50 (zer_r _) ?_
    refine J_lastore d_Ref_error_51 (zqs_r ha) (by omega) (by decide) ?_
    refine J_iinc d_Ref_error_52 rfl (by decide) ?_
    refine V_goto 2 d_Ref_error_55 (by decide) ?_
    exact V_lo [0, 1, 2] rfl (V_w (by rw [zqs_lu ha, zlu_s, zif_s (by omega) (show _ = zrE ch i from by rw [zer_e]; unfold zrE; rw [show ((i : Int)).toNat = i by omega]; rfl), zlu_lu]; rfl) ih)

set_option maxRecDepth 100000 in
set_option maxHeartbeats 4000000 in
theorem r_uniform (G : zG) (sz C : Nat) (th kd n t tu : Int) (ch : Int32) (ke : Int) (L : Nat → Int → Int) (w0 : zW) (nn : Nat) (hnn : n = (nn : Int)) (hn : nn ≤ 32) (a : Nat) (ha : zqi a) : zCt G M_Ref_uniform (zR 1 0 0 20) [.ref C, .ref (C + a)] sz (zqs G C th kd n t tu ch ke L w0) (zdet none (zqs G C th kd n t tu (zlcN ch (2 * nn)) ke (zlu L a (zif nn (zrU ch) (L a))) w0) sz) := by
  subst hnn
  refine V_iconst d_Ref_uniform_0 ?_
  refine V_istore_n d_Ref_uniform_1 (by decide) ?_
  refine V_w (w' := (zqs G C th kd nn t tu ch ke (zlu L a (zif ((0 : Nat) : Int) (zrU ch) (L a))) w0)) (by rw [show ((0 : Nat) : Int) = 0 from rfl, zif_0, ← zqs_lu ha, zset_self (zqs_r ha)]) ?_
  refine zfor nn (fun i => V G M_Ref_uniform (zdet none (zqs G C th kd nn t tu (zlcN ch (2 * nn)) ke (zlu L a (zif nn (zrU ch) (L a))) w0) sz) (zR 1 0 0 20) 0 0 sz 2 [(0, .ref C), (1, .ref (C + a)), (2, .int (Int32.ofInt (i : Int)))] [] (zqs G C th kd nn t tu (zlcN ch (2 * i)) ke (zlu L a (zif (i : Int) (zrU ch) (L a))) w0)) ?_ (fun i hi ih => ?_) 0 (Nat.zero_le nn)
  · skip
    refine V_iload_n d_Ref_uniform_2 rfl ?_
    refine V_aload_n d_Ref_uniform_3 rfl ?_
    refine V_getf d_Ref_uniform_4 ff_Ref_7 zqs_o rfl ?_
    refine J_icmp_ge 40 d_Ref_uniform_7 (by decide) (by omega) (by omega) (fun c_7 => ?_) (fun c_7 => absurd c_7 (by omega))
    exact V_return d_Ref_uniform_40 rfl ⟨Nat.le_of_ble_eq_true rfl, Nat.le_of_ble_eq_true rfl⟩ ⟨rfl, rfl, rfl⟩
  · skip
    have hu := zup_b (zlc (zlcN ch (2 * i)))
    have hu2 := zup_b (zlc (zlc (zlcN ch (2 * i))))
    refine V_iload_n d_Ref_uniform_2 rfl ?_
    refine V_aload_n d_Ref_uniform_3 rfl ?_
    refine V_getf d_Ref_uniform_4 ff_Ref_7 zqs_o rfl ?_
    refine J_icmp_ge 40 d_Ref_uniform_7 (by decide) (by omega) (by omega) (fun c_7 => absurd c_7 (by omega)) (fun c_7 => ?_)
    refine V_aload_n d_Ref_uniform_10 rfl ?_
    refine V_callV (n := 0) d_Ref_uniform_11 g_Ref_85 rfl zqs_o rfl (r_draw G _ C th kd nn t tu (zlcN ch (2 * i)) ke (zlu L a (zif (i : Int) (zrU ch) (L a))) w0) ⟨co_Ref_draw, by decide +kernel, Nat.le_of_ble_eq_true rfl⟩ ⟨Nat.le_of_ble_eq_true rfl, Nat.le_of_ble_eq_true rfl, Nat.le_of_ble_eq_true rfl, Nat.le_of_ble_eq_true rfl⟩ (Nat.le_of_ble_eq_true rfl) (fun r_11 w_11 s_11 q_11 => ?_) (fun _ _ _ q => False.elim q)
    obtain ⟨rfl, rfl, rfl⟩ := q_11
    refine J_i2l d_Ref_uniform_14 (by omega) ?_
    refine V_lstore_n d_Ref_uniform_15 (by decide) ?_
    refine V_aload_n d_Ref_uniform_16 rfl ?_
    refine V_iload_n d_Ref_uniform_17 rfl ?_
    refine J_ldc2 d_Ref_uniform_18 k_Ref_89 ?_
    refine V_lload_n d_Ref_uniform_21 rfl ?_
    refine J_lmul d_Ref_uniform_22 ?_
    refine V_aload_n d_Ref_uniform_23 rfl ?_
    refine V_callV (n := 0) d_Ref_uniform_24 g_Ref_85 rfl zqs_o rfl (r_draw G _ C th kd nn t tu (zlc (zlcN ch (2 * i))) ke (zlu L a (zif (i : Int) (zrU ch) (L a))) w0) ⟨co_Ref_draw, by decide +kernel, Nat.le_of_ble_eq_true rfl⟩ ⟨Nat.le_of_ble_eq_true rfl, Nat.le_of_ble_eq_true rfl, Nat.le_of_ble_eq_true rfl, Nat.le_of_ble_eq_true rfl⟩ (Nat.le_of_ble_eq_true rfl) (fun r_24 w_24 s_24 q_24 => ?_) (fun _ _ _ q => False.elim q)
    obtain ⟨rfl, rfl, rfl⟩ := q_24
    refine J_i2l d_Ref_uniform_27 (by omega) ?_
    refine J_ladd d_Ref_uniform_28 ?_
    refine J_ldc2 d_Ref_uniform_29 k_Ref_72 ?_
    refine J_lremP d_Ref_uniform_32 (by omega) (by omega) ?_
    refine J_lastore d_Ref_uniform_33 (zqs_r ha) (by omega) (by decide) ?_
    refine J_iinc d_Ref_uniform_34 rfl (by decide) ?_
    refine V_goto 2 d_Ref_uniform_37 (by decide) ?_
    exact V_lo [0, 1, 2] rfl (V_w (by rw [zqs_lu ha, zlu_s, zif_s (by omega) (show _ = zrU ch i from by unfold zrU; rw [show ((i : Int)).toNat = i by omega]; rfl), zlu_lu]; rfl) ih)

