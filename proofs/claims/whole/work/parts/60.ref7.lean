set_option maxRecDepth 100000 in
set_option maxHeartbeats 4000000 in
theorem r_begin_no (G : zG) (sz C : Nat) (th kd n t tu : Int) (ch : Int32) (ke : Int) (L : Nat → Int → Int) (w0 : zW) (k : Int) (s : Int32) (hk : -2147483648 ≤ k ∧ k < 2147483648) (hb : k < 0 ∨ 2 < k) : zCt G M_Ref_begin (zR 1 0 0 21) [.ref C, .int (Int32.ofInt k), .int s] sz (zqs G C th kd n t tu ch ke L w0) (zdet (some (.int (Int32.ofInt 0))) (zqs G C 1 kd n t tu ch ke L w0) sz) := by
  by_cases h0 : k < 0
  · skip
    refine V_aload_n d_Ref_begin_0 rfl ?_
    refine V_iload_n d_Ref_begin_1 rfl ?_
    refine J_if_lt 10 d_Ref_begin_2 (by decide) (by omega) (fun c_2 => ?_) (fun c_2 => absurd c_2 (by omega))
    refine V_iconst d_Ref_begin_10 ?_
    refine V_goto 15 d_Ref_begin_11 (by decide) ?_
    refine V_putf d_Ref_begin_15 ff_Ref_69 zqs_o ⟨_, _, _, _, rfl, rfl, rfl, rfl, rfl⟩ (Nat.le_of_ble_eq_true rfl) ?_
    refine V_w (zqs_f (th' := 1) rfl) ?_
    refine V_aload_n d_Ref_begin_18 rfl ?_
    refine V_getf d_Ref_begin_19 ff_Ref_69 zqs_o rfl ?_
    refine J_if_le 27 d_Ref_begin_22 (by decide) (by decide) (fun c_22 => absurd c_22 (by decide)) (fun c_22 => ?_)
    refine V_iconst d_Ref_begin_25 ?_
    exact V_ireturn d_Ref_begin_26 rfl ⟨Nat.le_of_ble_eq_true rfl, Nat.le_of_ble_eq_true rfl⟩ ⟨rfl, rfl, rfl⟩
  · skip
    refine V_aload_n d_Ref_begin_0 rfl ?_
    refine V_iload_n d_Ref_begin_1 rfl ?_
    refine J_if_lt 10 d_Ref_begin_2 (by decide) (by omega) (fun c_2 => absurd c_2 (by omega)) (fun c_2 => ?_)
    refine V_iload_n d_Ref_begin_5 rfl ?_
    refine V_iconst d_Ref_begin_6 ?_
    refine J_icmp_le 14 d_Ref_begin_7 (by decide) (by omega) (by omega) (fun c_7 => absurd c_7 (by omega)) (fun c_7 => ?_)
    refine V_iconst d_Ref_begin_10 ?_
    refine V_goto 15 d_Ref_begin_11 (by decide) ?_
    refine V_putf d_Ref_begin_15 ff_Ref_69 zqs_o ⟨_, _, _, _, rfl, rfl, rfl, rfl, rfl⟩ (Nat.le_of_ble_eq_true rfl) ?_
    refine V_w (zqs_f (th' := 1) rfl) ?_
    refine V_aload_n d_Ref_begin_18 rfl ?_
    refine V_getf d_Ref_begin_19 ff_Ref_69 zqs_o rfl ?_
    refine J_if_le 27 d_Ref_begin_22 (by decide) (by decide) (fun c_22 => absurd c_22 (by decide)) (fun c_22 => ?_)
    refine V_iconst d_Ref_begin_25 ?_
    exact V_ireturn d_Ref_begin_26 rfl ⟨Nat.le_of_ble_eq_true rfl, Nat.le_of_ble_eq_true rfl⟩ ⟨rfl, rfl, rfl⟩

set_option maxRecDepth 100000 in
set_option maxHeartbeats 4000000 in
theorem r_begin (G : zG) (sz C : Nat) (th kd n t tu : Int) (ch : Int32) (ke : Int) (L : Nat → Int → Int) (w0 : zW) (k : Int) (s : Int32) (hk : 0 ≤ k ∧ k ≤ 2) : zCt G M_Ref_begin (zR 1 0 0 21) [.ref C, .int (Int32.ofInt k), .int s] sz (zqs G C th kd n t tu ch ke L w0) (zdet (some (.int (Int32.ofInt (zszI k)))) (zqs G C 0 k (zszI k) (zmoI k) 0 s 0 (zlu (zlu L 8 (zif 16 (fun _ => 0) (L 8))) 7 (zif ((256 : Nat) : Int) (fun _ => 0) (L 7))) w0) sz) := by
  have hk3 : k = 0 ∨ k = 1 ∨ k = 2 := by omega
  rcases hk3 with rfl | rfl | rfl
  · skip
    refine V_aload_n d_Ref_begin_0 rfl ?_
    refine V_iload_n d_Ref_begin_1 rfl ?_
    refine J_if_lt 10 d_Ref_begin_2 (by decide) (by omega) (fun c_2 => absurd c_2 (by decide)) (fun c_2 => ?_)
    refine V_iload_n d_Ref_begin_5 rfl ?_
    refine V_iconst d_Ref_begin_6 ?_
    refine J_icmp_le 14 d_Ref_begin_7 (by decide) (by omega) (by omega) (fun c_7 => ?_) (fun c_7 => absurd c_7 (by decide))
    refine V_iconst d_Ref_begin_14 ?_
    refine V_putf d_Ref_begin_15 ff_Ref_69 zqs_o ⟨_, _, _, _, rfl, rfl, rfl, rfl, rfl⟩ (Nat.le_of_ble_eq_true rfl) ?_
    refine V_w (zqs_f (th' := 0) rfl) ?_
    refine V_aload_n d_Ref_begin_18 rfl ?_
    refine V_getf d_Ref_begin_19 ff_Ref_69 zqs_o rfl ?_
    refine J_if_le 27 d_Ref_begin_22 (by decide) (by decide) (fun c_22 => ?_) (fun c_22 => absurd c_22 (by decide))
    refine V_aload_n d_Ref_begin_27 rfl ?_
    refine V_iload_n d_Ref_begin_28 rfl ?_
    refine V_putf d_Ref_begin_29 ff_Ref_104 zqs_o ⟨_, _, _, _, rfl, rfl, rfl, rfl, rfl⟩ (Nat.le_of_ble_eq_true rfl) ?_
    refine V_w (zqs_f (kd' := 0) rfl) ?_
    refine V_aload_n d_Ref_begin_32 rfl ?_
    refine J_bipush d_Ref_begin_33 (by decide) ?_
    refine V_iload_n d_Ref_begin_35 rfl ?_
    refine V_ishl d_Ref_begin_36 ?_
    rw [show Int32.ofInt 8 <<< (Int32.ofInt 0 &&& 31) = Int32.ofInt (zszI 0) from by decide +kernel]
    refine V_putf d_Ref_begin_37 ff_Ref_7 zqs_o ⟨_, _, _, _, rfl, rfl, rfl, rfl, rfl⟩ (Nat.le_of_ble_eq_true rfl) ?_
    refine V_w (zqs_f (n' := zszI 0) rfl) ?_
    refine V_aload_n d_Ref_begin_40 rfl ?_
    refine V_iload_n d_Ref_begin_41 rfl ?_
    refine J_if_ne 50 d_Ref_begin_42 (by decide) (by omega) (fun c_42 => absurd rfl c_42) (fun c_42 => ?_)
    refine J_bipush d_Ref_begin_45 (by decide) ?_
    refine V_goto 63 d_Ref_begin_47 (by decide) ?_
    refine V_putf d_Ref_begin_63 ff_Ref_13 zqs_o ⟨_, _, _, _, rfl, rfl, rfl, rfl, rfl⟩ (Nat.le_of_ble_eq_true rfl) ?_
    refine V_w (zqs_f (t' := zmoI 0) rfl) ?_
    refine V_aload_n d_Ref_begin_66 rfl ?_
    refine V_iload_n d_Ref_begin_67 rfl ?_
    refine V_putf d_Ref_begin_68 ff_Ref_81 zqs_o ⟨_, _, _, _, rfl, rfl, rfl, rfl, rfl⟩ (Nat.le_of_ble_eq_true rfl) ?_
    refine V_w (zqs_f (ch' := s) rfl) ?_
    refine V_aload_n d_Ref_begin_71 rfl ?_
    refine V_iconst d_Ref_begin_72 ?_
    refine V_putf d_Ref_begin_73 ff_Ref_107 zqs_o ⟨_, _, _, _, rfl, rfl, rfl, rfl, rfl⟩ (Nat.le_of_ble_eq_true rfl) ?_
    refine V_w (zqs_f (ke' := 0) rfl) ?_
    refine V_aload_n d_Ref_begin_76 rfl ?_
    refine V_iconst d_Ref_begin_77 ?_
    refine V_putf d_Ref_begin_78 ff_Ref_111 zqs_o ⟨_, _, _, _, rfl, rfl, rfl, rfl, rfl⟩ (Nat.le_of_ble_eq_true rfl) ?_
    refine V_w (zqs_f (tu' := 0) rfl) ?_
    refine V_aload_n d_Ref_begin_81 rfl ?_
    refine V_callV (n := 0) d_Ref_begin_82 g_Ref_114 rfl zqs_o rfl (r_empty G _ C 0 0 (zszI 0) (zmoI 0) 0 s 0 L w0) ⟨co_Ref_empty_, by decide +kernel, Nat.le_of_ble_eq_true rfl⟩ ⟨Nat.le_of_ble_eq_true rfl, Nat.le_of_ble_eq_true rfl, Nat.le_of_ble_eq_true rfl, Nat.le_of_ble_eq_true rfl⟩ (Nat.le_of_ble_eq_true rfl) (fun r_82 w_82 s_82 q_82 => ?_) (fun _ _ _ q => False.elim q)
    obtain ⟨rfl, rfl, rfl⟩ := q_82
    refine V_iconst d_Ref_begin_85 ?_
    refine V_istore_n d_Ref_begin_86 (by decide) ?_
    refine V_w (w' := (zqs G C 0 0 (zszI 0) (zmoI 0) 0 s 0 (zlu (zlu L 8 (zif 16 (fun _ => 0) (L 8))) 7 (zif ((0 : Nat) : Int) (fun _ => 0) ((zlu L 8 (zif 16 (fun _ => 0) (L 8))) 7))) w0)) (by rw [show ((0 : Nat) : Int) = 0 from rfl, zif_0, zlu_self] <;> rfl) ?_
    have st : ∀ i : Nat, i < 256 → (fun i : Nat => V G M_Ref_begin (zdet (some (.int (Int32.ofInt (zszI 0)))) (zqs G C 0 0 (zszI 0) (zmoI 0) 0 s 0 (zlu (zlu L 8 (zif 16 (fun _ => 0) (L 8))) 7 (zif ((256 : Nat) : Int) (fun _ => 0) (L 7))) w0) sz) (zR 1 0 0 21) 0 0 sz 87 [(0, .ref C), (1, .int (Int32.ofInt 0)), (2, .int s), (3, .int (Int32.ofInt (i : Int)))] [] (zqs G C 0 0 (zszI 0) (zmoI 0) 0 s 0 (zlu (zlu L 8 (zif 16 (fun _ => 0) (L 8))) 7 (zif (i : Int) (fun _ => 0) ((zlu L 8 (zif 16 (fun _ => 0) (L 8))) 7))) w0)) (i + 1) → (fun i : Nat => V G M_Ref_begin (zdet (some (.int (Int32.ofInt (zszI 0)))) (zqs G C 0 0 (zszI 0) (zmoI 0) 0 s 0 (zlu (zlu L 8 (zif 16 (fun _ => 0) (L 8))) 7 (zif ((256 : Nat) : Int) (fun _ => 0) (L 7))) w0) sz) (zR 1 0 0 21) 0 0 sz 87 [(0, .ref C), (1, .int (Int32.ofInt 0)), (2, .int s), (3, .int (Int32.ofInt (i : Int)))] [] (zqs G C 0 0 (zszI 0) (zmoI 0) 0 s 0 (zlu (zlu L 8 (zif 16 (fun _ => 0) (L 8))) 7 (zif (i : Int) (fun _ => 0) ((zlu L 8 (zif 16 (fun _ => 0) (L 8))) 7))) w0)) i := by
      intro i hi ih
      refine V_iload_n d_Ref_begin_87 rfl ?_
      refine J_sipush d_Ref_begin_88 (by decide) ?_
      refine J_icmp_ge 107 d_Ref_begin_91 (by decide) (by omega) (by omega) (fun c_91 => absurd c_91 (by omega)) (fun c_91 => ?_)
      refine V_aload_n d_Ref_begin_94 rfl ?_
      refine V_getf d_Ref_begin_95 ff_Ref_36 zqs_o rfl ?_
      refine V_iload_n d_Ref_begin_98 rfl ?_
      refine V_iconst d_Ref_begin_99 ?_
      refine J_iastore d_Ref_begin_100 zqs_a7 (by omega) (by decide) ?_
      refine J_iinc d_Ref_begin_101 rfl (by decide) ?_
      refine V_goto 87 d_Ref_begin_104 (by decide) ?_
      exact V_w (by rw [zqs_u7, zlu_s, zif_s (by omega) rfl, zlu_lu] <;> rfl) ih
    refine zfor 256 (fun i : Nat => V G M_Ref_begin (zdet (some (.int (Int32.ofInt (zszI 0)))) (zqs G C 0 0 (zszI 0) (zmoI 0) 0 s 0 (zlu (zlu L 8 (zif 16 (fun _ => 0) (L 8))) 7 (zif ((256 : Nat) : Int) (fun _ => 0) (L 7))) w0) sz) (zR 1 0 0 21) 0 0 sz 87 [(0, .ref C), (1, .int (Int32.ofInt 0)), (2, .int s), (3, .int (Int32.ofInt (i : Int)))] [] (zqs G C 0 0 (zszI 0) (zmoI 0) 0 s 0 (zlu (zlu L 8 (zif 16 (fun _ => 0) (L 8))) 7 (zif (i : Int) (fun _ => 0) ((zlu L 8 (zif 16 (fun _ => 0) (L 8))) 7))) w0)) ?_ st 0 (Nat.zero_le 256)
    refine V_iload_n d_Ref_begin_87 rfl ?_
    refine J_sipush d_Ref_begin_88 (by decide) ?_
    refine J_icmp_ge 107 d_Ref_begin_91 (by decide) (by omega) (by omega) (fun c_91 => ?_) (fun c_91 => absurd c_91 (by omega))
    refine V_aload_n d_Ref_begin_107 rfl ?_
    refine V_getf d_Ref_begin_108 ff_Ref_7 zqs_o rfl ?_
    exact V_ireturn d_Ref_begin_111 rfl ⟨Nat.le_of_ble_eq_true rfl, Nat.le_of_ble_eq_true rfl⟩ ⟨rfl, rfl, rfl⟩
  · skip
    refine V_aload_n d_Ref_begin_0 rfl ?_
    refine V_iload_n d_Ref_begin_1 rfl ?_
    refine J_if_lt 10 d_Ref_begin_2 (by decide) (by omega) (fun c_2 => absurd c_2 (by decide)) (fun c_2 => ?_)
    refine V_iload_n d_Ref_begin_5 rfl ?_
    refine V_iconst d_Ref_begin_6 ?_
    refine J_icmp_le 14 d_Ref_begin_7 (by decide) (by omega) (by omega) (fun c_7 => ?_) (fun c_7 => absurd c_7 (by decide))
    refine V_iconst d_Ref_begin_14 ?_
    refine V_putf d_Ref_begin_15 ff_Ref_69 zqs_o ⟨_, _, _, _, rfl, rfl, rfl, rfl, rfl⟩ (Nat.le_of_ble_eq_true rfl) ?_
    refine V_w (zqs_f (th' := 0) rfl) ?_
    refine V_aload_n d_Ref_begin_18 rfl ?_
    refine V_getf d_Ref_begin_19 ff_Ref_69 zqs_o rfl ?_
    refine J_if_le 27 d_Ref_begin_22 (by decide) (by decide) (fun c_22 => ?_) (fun c_22 => absurd c_22 (by decide))
    refine V_aload_n d_Ref_begin_27 rfl ?_
    refine V_iload_n d_Ref_begin_28 rfl ?_
    refine V_putf d_Ref_begin_29 ff_Ref_104 zqs_o ⟨_, _, _, _, rfl, rfl, rfl, rfl, rfl⟩ (Nat.le_of_ble_eq_true rfl) ?_
    refine V_w (zqs_f (kd' := 1) rfl) ?_
    refine V_aload_n d_Ref_begin_32 rfl ?_
    refine J_bipush d_Ref_begin_33 (by decide) ?_
    refine V_iload_n d_Ref_begin_35 rfl ?_
    refine V_ishl d_Ref_begin_36 ?_
    rw [show Int32.ofInt 8 <<< (Int32.ofInt 1 &&& 31) = Int32.ofInt (zszI 1) from by decide +kernel]
    refine V_putf d_Ref_begin_37 ff_Ref_7 zqs_o ⟨_, _, _, _, rfl, rfl, rfl, rfl, rfl⟩ (Nat.le_of_ble_eq_true rfl) ?_
    refine V_w (zqs_f (n' := zszI 1) rfl) ?_
    refine V_aload_n d_Ref_begin_40 rfl ?_
    refine V_iload_n d_Ref_begin_41 rfl ?_
    refine J_if_ne 50 d_Ref_begin_42 (by decide) (by omega) (fun c_42 => ?_) (fun c_42 => absurd c_42 (by decide))
    refine V_iload_n d_Ref_begin_50 rfl ?_
    refine V_iconst d_Ref_begin_51 ?_
    refine J_icmp_ne 60 d_Ref_begin_52 (by decide) (by omega) (by omega) (fun c_52 => absurd rfl c_52) (fun c_52 => ?_)
    refine J_bipush d_Ref_begin_55 (by decide) ?_
    refine V_goto 63 d_Ref_begin_57 (by decide) ?_
    refine V_putf d_Ref_begin_63 ff_Ref_13 zqs_o ⟨_, _, _, _, rfl, rfl, rfl, rfl, rfl⟩ (Nat.le_of_ble_eq_true rfl) ?_
    refine V_w (zqs_f (t' := zmoI 1) rfl) ?_
    refine V_aload_n d_Ref_begin_66 rfl ?_
    refine V_iload_n d_Ref_begin_67 rfl ?_
    refine V_putf d_Ref_begin_68 ff_Ref_81 zqs_o ⟨_, _, _, _, rfl, rfl, rfl, rfl, rfl⟩ (Nat.le_of_ble_eq_true rfl) ?_
    refine V_w (zqs_f (ch' := s) rfl) ?_
    refine V_aload_n d_Ref_begin_71 rfl ?_
    refine V_iconst d_Ref_begin_72 ?_
    refine V_putf d_Ref_begin_73 ff_Ref_107 zqs_o ⟨_, _, _, _, rfl, rfl, rfl, rfl, rfl⟩ (Nat.le_of_ble_eq_true rfl) ?_
    refine V_w (zqs_f (ke' := 0) rfl) ?_
    refine V_aload_n d_Ref_begin_76 rfl ?_
    refine V_iconst d_Ref_begin_77 ?_
    refine V_putf d_Ref_begin_78 ff_Ref_111 zqs_o ⟨_, _, _, _, rfl, rfl, rfl, rfl, rfl⟩ (Nat.le_of_ble_eq_true rfl) ?_
    refine V_w (zqs_f (tu' := 0) rfl) ?_
    refine V_aload_n d_Ref_begin_81 rfl ?_
    refine V_callV (n := 0) d_Ref_begin_82 g_Ref_114 rfl zqs_o rfl (r_empty G _ C 0 1 (zszI 1) (zmoI 1) 0 s 0 L w0) ⟨co_Ref_empty_, by decide +kernel, Nat.le_of_ble_eq_true rfl⟩ ⟨Nat.le_of_ble_eq_true rfl, Nat.le_of_ble_eq_true rfl, Nat.le_of_ble_eq_true rfl, Nat.le_of_ble_eq_true rfl⟩ (Nat.le_of_ble_eq_true rfl) (fun r_82 w_82 s_82 q_82 => ?_) (fun _ _ _ q => False.elim q)
    obtain ⟨rfl, rfl, rfl⟩ := q_82
    refine V_iconst d_Ref_begin_85 ?_
    refine V_istore_n d_Ref_begin_86 (by decide) ?_
    refine V_w (w' := (zqs G C 0 1 (zszI 1) (zmoI 1) 0 s 0 (zlu (zlu L 8 (zif 16 (fun _ => 0) (L 8))) 7 (zif ((0 : Nat) : Int) (fun _ => 0) ((zlu L 8 (zif 16 (fun _ => 0) (L 8))) 7))) w0)) (by rw [show ((0 : Nat) : Int) = 0 from rfl, zif_0, zlu_self] <;> rfl) ?_
    have st : ∀ i : Nat, i < 256 → (fun i : Nat => V G M_Ref_begin (zdet (some (.int (Int32.ofInt (zszI 1)))) (zqs G C 0 1 (zszI 1) (zmoI 1) 0 s 0 (zlu (zlu L 8 (zif 16 (fun _ => 0) (L 8))) 7 (zif ((256 : Nat) : Int) (fun _ => 0) (L 7))) w0) sz) (zR 1 0 0 21) 0 0 sz 87 [(0, .ref C), (1, .int (Int32.ofInt 1)), (2, .int s), (3, .int (Int32.ofInt (i : Int)))] [] (zqs G C 0 1 (zszI 1) (zmoI 1) 0 s 0 (zlu (zlu L 8 (zif 16 (fun _ => 0) (L 8))) 7 (zif (i : Int) (fun _ => 0) ((zlu L 8 (zif 16 (fun _ => 0) (L 8))) 7))) w0)) (i + 1) → (fun i : Nat => V G M_Ref_begin (zdet (some (.int (Int32.ofInt (zszI 1)))) (zqs G C 0 1 (zszI 1) (zmoI 1) 0 s 0 (zlu (zlu L 8 (zif 16 (fun _ => 0) (L 8))) 7 (zif ((256 : Nat) : Int) (fun _ => 0) (L 7))) w0) sz) (zR 1 0 0 21) 0 0 sz 87 [(0, .ref C), (1, .int (Int32.ofInt 1)), (2, .int s), (3, .int (Int32.ofInt (i : Int)))] [] (zqs G C 0 1 (zszI 1) (zmoI 1) 0 s 0 (zlu (zlu L 8 (zif 16 (fun _ => 0) (L 8))) 7 (zif (i : Int) (fun _ => 0) ((zlu L 8 (zif 16 (fun _ => 0) (L 8))) 7))) w0)) i := by
      intro i hi ih
      refine V_iload_n d_Ref_begin_87 rfl ?_
      refine J_sipush d_Ref_begin_88 (by decide) ?_
      refine J_icmp_ge 107 d_Ref_begin_91 (by decide) (by omega) (by omega) (fun c_91 => absurd c_91 (by omega)) (fun c_91 => ?_)
      refine V_aload_n d_Ref_begin_94 rfl ?_
      refine V_getf d_Ref_begin_95 ff_Ref_36 zqs_o rfl ?_
      refine V_iload_n d_Ref_begin_98 rfl ?_
      refine V_iconst d_Ref_begin_99 ?_
      refine J_iastore d_Ref_begin_100 zqs_a7 (by omega) (by decide) ?_
      refine J_iinc d_Ref_begin_101 rfl (by decide) ?_
      refine V_goto 87 d_Ref_begin_104 (by decide) ?_
      exact V_w (by rw [zqs_u7, zlu_s, zif_s (by omega) rfl, zlu_lu] <;> rfl) ih
    refine zfor 256 (fun i : Nat => V G M_Ref_begin (zdet (some (.int (Int32.ofInt (zszI 1)))) (zqs G C 0 1 (zszI 1) (zmoI 1) 0 s 0 (zlu (zlu L 8 (zif 16 (fun _ => 0) (L 8))) 7 (zif ((256 : Nat) : Int) (fun _ => 0) (L 7))) w0) sz) (zR 1 0 0 21) 0 0 sz 87 [(0, .ref C), (1, .int (Int32.ofInt 1)), (2, .int s), (3, .int (Int32.ofInt (i : Int)))] [] (zqs G C 0 1 (zszI 1) (zmoI 1) 0 s 0 (zlu (zlu L 8 (zif 16 (fun _ => 0) (L 8))) 7 (zif (i : Int) (fun _ => 0) ((zlu L 8 (zif 16 (fun _ => 0) (L 8))) 7))) w0)) ?_ st 0 (Nat.zero_le 256)
    refine V_iload_n d_Ref_begin_87 rfl ?_
    refine J_sipush d_Ref_begin_88 (by decide) ?_
    refine J_icmp_ge 107 d_Ref_begin_91 (by decide) (by omega) (by omega) (fun c_91 => ?_) (fun c_91 => absurd c_91 (by omega))
    refine V_aload_n d_Ref_begin_107 rfl ?_
    refine V_getf d_Ref_begin_108 ff_Ref_7 zqs_o rfl ?_
    exact V_ireturn d_Ref_begin_111 rfl ⟨Nat.le_of_ble_eq_true rfl, Nat.le_of_ble_eq_true rfl⟩ ⟨rfl, rfl, rfl⟩
  · skip
    refine V_aload_n d_Ref_begin_0 rfl ?_
    refine V_iload_n d_Ref_begin_1 rfl ?_
    refine J_if_lt 10 d_Ref_begin_2 (by decide) (by omega) (fun c_2 => absurd c_2 (by decide)) (fun c_2 => ?_)
    refine V_iload_n d_Ref_begin_5 rfl ?_
    refine V_iconst d_Ref_begin_6 ?_
    refine J_icmp_le 14 d_Ref_begin_7 (by decide) (by omega) (by omega) (fun c_7 => ?_) (fun c_7 => absurd c_7 (by decide))
    refine V_iconst d_Ref_begin_14 ?_
    refine V_putf d_Ref_begin_15 ff_Ref_69 zqs_o ⟨_, _, _, _, rfl, rfl, rfl, rfl, rfl⟩ (Nat.le_of_ble_eq_true rfl) ?_
    refine V_w (zqs_f (th' := 0) rfl) ?_
    refine V_aload_n d_Ref_begin_18 rfl ?_
    refine V_getf d_Ref_begin_19 ff_Ref_69 zqs_o rfl ?_
    refine J_if_le 27 d_Ref_begin_22 (by decide) (by decide) (fun c_22 => ?_) (fun c_22 => absurd c_22 (by decide))
    refine V_aload_n d_Ref_begin_27 rfl ?_
    refine V_iload_n d_Ref_begin_28 rfl ?_
    refine V_putf d_Ref_begin_29 ff_Ref_104 zqs_o ⟨_, _, _, _, rfl, rfl, rfl, rfl, rfl⟩ (Nat.le_of_ble_eq_true rfl) ?_
    refine V_w (zqs_f (kd' := 2) rfl) ?_
    refine V_aload_n d_Ref_begin_32 rfl ?_
    refine J_bipush d_Ref_begin_33 (by decide) ?_
    refine V_iload_n d_Ref_begin_35 rfl ?_
    refine V_ishl d_Ref_begin_36 ?_
    rw [show Int32.ofInt 8 <<< (Int32.ofInt 2 &&& 31) = Int32.ofInt (zszI 2) from by decide +kernel]
    refine V_putf d_Ref_begin_37 ff_Ref_7 zqs_o ⟨_, _, _, _, rfl, rfl, rfl, rfl, rfl⟩ (Nat.le_of_ble_eq_true rfl) ?_
    refine V_w (zqs_f (n' := zszI 2) rfl) ?_
    refine V_aload_n d_Ref_begin_40 rfl ?_
    refine V_iload_n d_Ref_begin_41 rfl ?_
    refine J_if_ne 50 d_Ref_begin_42 (by decide) (by omega) (fun c_42 => ?_) (fun c_42 => absurd c_42 (by decide))
    refine V_iload_n d_Ref_begin_50 rfl ?_
    refine V_iconst d_Ref_begin_51 ?_
    refine J_icmp_ne 60 d_Ref_begin_52 (by decide) (by omega) (by omega) (fun c_52 => ?_) (fun c_52 => absurd c_52 (by decide))
    refine J_sipush d_Ref_begin_60 (by decide) ?_
    refine V_putf d_Ref_begin_63 ff_Ref_13 zqs_o ⟨_, _, _, _, rfl, rfl, rfl, rfl, rfl⟩ (Nat.le_of_ble_eq_true rfl) ?_
    refine V_w (zqs_f (t' := zmoI 2) rfl) ?_
    refine V_aload_n d_Ref_begin_66 rfl ?_
    refine V_iload_n d_Ref_begin_67 rfl ?_
    refine V_putf d_Ref_begin_68 ff_Ref_81 zqs_o ⟨_, _, _, _, rfl, rfl, rfl, rfl, rfl⟩ (Nat.le_of_ble_eq_true rfl) ?_
    refine V_w (zqs_f (ch' := s) rfl) ?_
    refine V_aload_n d_Ref_begin_71 rfl ?_
    refine V_iconst d_Ref_begin_72 ?_
    refine V_putf d_Ref_begin_73 ff_Ref_107 zqs_o ⟨_, _, _, _, rfl, rfl, rfl, rfl, rfl⟩ (Nat.le_of_ble_eq_true rfl) ?_
    refine V_w (zqs_f (ke' := 0) rfl) ?_
    refine V_aload_n d_Ref_begin_76 rfl ?_
    refine V_iconst d_Ref_begin_77 ?_
    refine V_putf d_Ref_begin_78 ff_Ref_111 zqs_o ⟨_, _, _, _, rfl, rfl, rfl, rfl, rfl⟩ (Nat.le_of_ble_eq_true rfl) ?_
    refine V_w (zqs_f (tu' := 0) rfl) ?_
    refine V_aload_n d_Ref_begin_81 rfl ?_
    refine V_callV (n := 0) d_Ref_begin_82 g_Ref_114 rfl zqs_o rfl (r_empty G _ C 0 2 (zszI 2) (zmoI 2) 0 s 0 L w0) ⟨co_Ref_empty_, by decide +kernel, Nat.le_of_ble_eq_true rfl⟩ ⟨Nat.le_of_ble_eq_true rfl, Nat.le_of_ble_eq_true rfl, Nat.le_of_ble_eq_true rfl, Nat.le_of_ble_eq_true rfl⟩ (Nat.le_of_ble_eq_true rfl) (fun r_82 w_82 s_82 q_82 => ?_) (fun _ _ _ q => False.elim q)
    obtain ⟨rfl, rfl, rfl⟩ := q_82
    refine V_iconst d_Ref_begin_85 ?_
    refine V_istore_n d_Ref_begin_86 (by decide) ?_
    refine V_w (w' := (zqs G C 0 2 (zszI 2) (zmoI 2) 0 s 0 (zlu (zlu L 8 (zif 16 (fun _ => 0) (L 8))) 7 (zif ((0 : Nat) : Int) (fun _ => 0) ((zlu L 8 (zif 16 (fun _ => 0) (L 8))) 7))) w0)) (by rw [show ((0 : Nat) : Int) = 0 from rfl, zif_0, zlu_self] <;> rfl) ?_
    have st : ∀ i : Nat, i < 256 → (fun i : Nat => V G M_Ref_begin (zdet (some (.int (Int32.ofInt (zszI 2)))) (zqs G C 0 2 (zszI 2) (zmoI 2) 0 s 0 (zlu (zlu L 8 (zif 16 (fun _ => 0) (L 8))) 7 (zif ((256 : Nat) : Int) (fun _ => 0) (L 7))) w0) sz) (zR 1 0 0 21) 0 0 sz 87 [(0, .ref C), (1, .int (Int32.ofInt 2)), (2, .int s), (3, .int (Int32.ofInt (i : Int)))] [] (zqs G C 0 2 (zszI 2) (zmoI 2) 0 s 0 (zlu (zlu L 8 (zif 16 (fun _ => 0) (L 8))) 7 (zif (i : Int) (fun _ => 0) ((zlu L 8 (zif 16 (fun _ => 0) (L 8))) 7))) w0)) (i + 1) → (fun i : Nat => V G M_Ref_begin (zdet (some (.int (Int32.ofInt (zszI 2)))) (zqs G C 0 2 (zszI 2) (zmoI 2) 0 s 0 (zlu (zlu L 8 (zif 16 (fun _ => 0) (L 8))) 7 (zif ((256 : Nat) : Int) (fun _ => 0) (L 7))) w0) sz) (zR 1 0 0 21) 0 0 sz 87 [(0, .ref C), (1, .int (Int32.ofInt 2)), (2, .int s), (3, .int (Int32.ofInt (i : Int)))] [] (zqs G C 0 2 (zszI 2) (zmoI 2) 0 s 0 (zlu (zlu L 8 (zif 16 (fun _ => 0) (L 8))) 7 (zif (i : Int) (fun _ => 0) ((zlu L 8 (zif 16 (fun _ => 0) (L 8))) 7))) w0)) i := by
      intro i hi ih
      refine V_iload_n d_Ref_begin_87 rfl ?_
      refine J_sipush d_Ref_begin_88 (by decide) ?_
      refine J_icmp_ge 107 d_Ref_begin_91 (by decide) (by omega) (by omega) (fun c_91 => absurd c_91 (by omega)) (fun c_91 => ?_)
      refine V_aload_n d_Ref_begin_94 rfl ?_
      refine V_getf d_Ref_begin_95 ff_Ref_36 zqs_o rfl ?_
      refine V_iload_n d_Ref_begin_98 rfl ?_
      refine V_iconst d_Ref_begin_99 ?_
      refine J_iastore d_Ref_begin_100 zqs_a7 (by omega) (by decide) ?_
      refine J_iinc d_Ref_begin_101 rfl (by decide) ?_
      refine V_goto 87 d_Ref_begin_104 (by decide) ?_
      exact V_w (by rw [zqs_u7, zlu_s, zif_s (by omega) rfl, zlu_lu] <;> rfl) ih
    refine zfor 256 (fun i : Nat => V G M_Ref_begin (zdet (some (.int (Int32.ofInt (zszI 2)))) (zqs G C 0 2 (zszI 2) (zmoI 2) 0 s 0 (zlu (zlu L 8 (zif 16 (fun _ => 0) (L 8))) 7 (zif ((256 : Nat) : Int) (fun _ => 0) (L 7))) w0) sz) (zR 1 0 0 21) 0 0 sz 87 [(0, .ref C), (1, .int (Int32.ofInt 2)), (2, .int s), (3, .int (Int32.ofInt (i : Int)))] [] (zqs G C 0 2 (zszI 2) (zmoI 2) 0 s 0 (zlu (zlu L 8 (zif 16 (fun _ => 0) (L 8))) 7 (zif (i : Int) (fun _ => 0) ((zlu L 8 (zif 16 (fun _ => 0) (L 8))) 7))) w0)) ?_ st 0 (Nat.zero_le 256)
    refine V_iload_n d_Ref_begin_87 rfl ?_
    refine J_sipush d_Ref_begin_88 (by decide) ?_
    refine J_icmp_ge 107 d_Ref_begin_91 (by decide) (by omega) (by omega) (fun c_91 => ?_) (fun c_91 => absurd c_91 (by omega))
    refine V_aload_n d_Ref_begin_107 rfl ?_
    refine V_getf d_Ref_begin_108 ff_Ref_7 zqs_o rfl ?_
    exact V_ireturn d_Ref_begin_111 rfl ⟨Nat.le_of_ble_eq_true rfl, Nat.le_of_ble_eq_true rfl⟩ ⟨rfl, rfl, rfl⟩

