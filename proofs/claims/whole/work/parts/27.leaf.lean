set_option maxRecDepth 100000 in
set_option maxHeartbeats 4000000 in
theorem c_draw (G : zG) (sz : Nat) (w : zW) (a : Nat) (c : Int32) (h : w a = some (zobj cChance [.int c])) : zCt G M_Chance_draw zR0 [.ref a] sz w (zdet (some (.int (Int32.ofInt (zup (zlc c))))) (zset w a (zobj cChance [.int (zlc c)])) sz) := by
  refine V_aload_n d_Chance_draw_0 rfl ?_
  refine V_ldc d_Chance_draw_1 k_Chance_15 ?_
  refine V_aload_n d_Chance_draw_3 rfl ?_
  refine V_getf d_Chance_draw_4 ff_Chance_9 h rfl ?_
  refine V_imul d_Chance_draw_7 ?_
  refine V_ldc d_Chance_draw_8 k_Chance_16 ?_
  refine V_iadd d_Chance_draw_10 ?_
  refine V_putf d_Chance_draw_11 ff_Chance_9 h ⟨_, _, _, _, rfl, rfl, rfl, rfl, rfl⟩ (Nat.le_of_ble_eq_true rfl) ?_
  refine V_aload_n d_Chance_draw_14 rfl ?_
  refine V_getf d_Chance_draw_15 ff_Chance_9 zset_s rfl ?_
  refine J_bipush d_Chance_draw_18 (by decide) ?_
  refine V_iushr d_Chance_draw_20 ?_
  exact V_ireturn d_Chance_draw_21 rfl ⟨Nat.le_of_ble_eq_true rfl, Nat.le_of_ble_eq_true rfl⟩ ⟨by rw [show (Int32.ofInt 16).toUInt32 &&& Int32.toUInt32 31 = 16 by decide, zup_of]; rfl, rfl, rfl⟩

set_option maxRecDepth 100000 in
set_option maxHeartbeats 4000000 in
theorem c_restart (G : zG) (sz : Nat) (w : zW) (a : Nat) (c v : Int32) (h : w a = some (zobj cChance [.int c])) : zCt G M_Chance_restart zR0 [.ref a, .int v] sz w (zdet none (zset w a (zobj cChance [.int v])) sz) := by
  refine V_aload_n d_Chance_restart_0 rfl ?_
  refine V_iload_n d_Chance_restart_1 rfl ?_
  refine V_putf d_Chance_restart_2 ff_Chance_9 h ⟨_, _, _, _, rfl, rfl, rfl, rfl, rfl⟩ (Nat.le_of_ble_eq_true rfl) ?_
  exact V_return d_Chance_restart_5 rfl ⟨Nat.le_of_ble_eq_true rfl, Nat.le_of_ble_eq_true rfl⟩ ⟨rfl, rfl, rfl⟩

set_option maxRecDepth 100000 in
set_option maxHeartbeats 4000000 in
theorem c_upper (G : zG) (sz : Nat) (w : zW) (a : Nat) (c : Int32) (h : w a = some (zobj cChance [.int c])) : zCt G M_Chance_upperHalf zR0 [.ref a] sz w (zdet (some (.int (Int32.ofInt (zup c)))) w sz) := by
  refine V_aload_n d_Chance_upperHalf_0 rfl ?_
  refine V_getf d_Chance_upperHalf_1 ff_Chance_9 h rfl ?_
  refine J_bipush d_Chance_upperHalf_4 (by decide) ?_
  refine V_iushr d_Chance_upperHalf_6 ?_
  exact V_ireturn d_Chance_upperHalf_7 rfl ⟨Nat.le_of_ble_eq_true rfl, Nat.le_of_ble_eq_true rfl⟩ ⟨by rw [show (Int32.ofInt 16).toUInt32 &&& Int32.toUInt32 31 = 16 by decide, zup_of], rfl, rfl⟩

set_option maxRecDepth 100000 in
set_option maxHeartbeats 4000000 in
theorem c_scale (G : zG) (sz : Nat) (w : zW) (r pw : Nat) (kd n t zz : Int) (h : w r = some (zobj cRing [.int (Int32.ofInt kd), .int (Int32.ofInt n), .int (Int32.ofInt t), .int (Int32.ofInt zz), .ref pw])) (ht : 0 < t ∧ t < 1000) : zCt G M_Ring_scale zR0 [.ref r] sz w (zdet (some (.long (Int64.ofInt (268435399 / t)))) w sz) := by
  refine J_ldc2 d_Ring_scale_0 k_Ring_47 ?_
  refine V_aload_n d_Ring_scale_3 rfl ?_
  refine V_getf d_Ring_scale_4 ff_Ring_33 h rfl ?_
  refine J_i2l d_Ring_scale_7 (by omega) ?_
  refine J_ldivP d_Ring_scale_8 (by omega) (by omega) ?_
  exact V_lreturn d_Ring_scale_9 rfl ⟨Nat.le_of_ble_eq_true rfl, Nat.le_of_ble_eq_true rfl⟩ ⟨rfl, rfl, rfl⟩

set_option maxRecDepth 100000 in
set_option maxHeartbeats 4000000 in
theorem c_addScaled (G : zG) (sz : Nat) (w : zW) (r pw : Nat) (kd n t zz : Int) (s a : Nat) (f : Int) (g h : Int → Int) (hr : w r = some (zobj cRing [.int (Int32.ofInt kd), .int (Int32.ofInt n), .int (Int32.ofInt t), .int (Int32.ofInt zz), .ref pw])) (hs : w s = some (zro G 32 g)) (ha : w a = some (zro G 32 h)) (has : a ≠ s) (hn : 0 ≤ n ∧ n ≤ 32) : zCt G M_Ring_addScaled zR0 [.ref r, .ref s, .ref a, .long (Int64.ofInt f)] sz w (zdet none (zset w s (zro G 32 (zif n (fun j => g j + f * h j) g))) sz) := by
  have hrs : r ≠ s := fun q => by rw [q, hs] at hr; cases hr
  obtain ⟨nn, rfl⟩ : ∃ k : Nat, n = (k : Int) := ⟨n.toNat, by omega⟩
  refine V_iconst d_Ring_addScaled_0 ?_
  refine V_istore d_Ring_addScaled_1 (by decide) ?_
  refine V_w (w' := zset w s (zro G 32 (zif ((0 : Nat) : Int) (fun j => g j + f * h j) g))) (by rw [show ((0 : Nat) : Int) = 0 from rfl, zif_0, zset_self hs]) ?_
  refine zfor nn (fun i => V G M_Ring_addScaled (zdet none (zset w s (zro G 32 (zif nn (fun j => g j + f * h j) g))) sz) zR0 0 0 sz 3 [(0, .ref r), (1, .ref s), (2, .ref a), (3, .long (Int64.ofInt f)), (5, .int (Int32.ofInt (i : Int)))] [] (zset w s (zro G 32 (zif (i : Int) (fun j => g j + f * h j) g)))) ?_ (fun i hi ih => ?_) 0 (Nat.zero_le nn)
  · skip
    refine V_iload d_Ring_addScaled_3 rfl ?_
    refine V_aload_n d_Ring_addScaled_5 rfl ?_
    refine V_getf d_Ring_addScaled_6 ff_Ring_27 ((zset_n hrs).trans hr) rfl ?_
    refine J_icmp_ge 31 d_Ring_addScaled_9 (by decide) (by omega) (by omega) (fun c_9 => ?_) (fun c_9 => absurd c_9 (by omega))
    exact V_return d_Ring_addScaled_31 rfl ⟨Nat.le_of_ble_eq_true rfl, Nat.le_of_ble_eq_true rfl⟩ ⟨rfl, rfl, rfl⟩
  · skip
    refine V_iload d_Ring_addScaled_3 rfl ?_
    refine V_aload_n d_Ring_addScaled_5 rfl ?_
    refine V_getf d_Ring_addScaled_6 ff_Ring_27 ((zset_n hrs).trans hr) rfl ?_
    refine J_icmp_ge 31 d_Ring_addScaled_9 (by decide) (by omega) (by omega) (fun c_9 => absurd c_9 (by omega)) (fun c_9 => ?_)
    refine V_aload_n d_Ring_addScaled_12 rfl ?_
    refine V_iload d_Ring_addScaled_13 rfl ?_
    refine V_dup2 d_Ring_addScaled_15 rfl rfl ?_
    refine J_laload d_Ring_addScaled_16 zset_s (by omega) (by decide) ?_
    refine V_lload_n d_Ring_addScaled_17 rfl ?_
    refine V_aload_n d_Ring_addScaled_18 rfl ?_
    refine V_iload d_Ring_addScaled_19 rfl ?_
    refine J_laload d_Ring_addScaled_21 ((zset_n has).trans ha) (by omega) (by decide) ?_
    refine J_lmul d_Ring_addScaled_22 ?_
    refine J_ladd d_Ring_addScaled_23 ?_
    refine J_lastore d_Ring_addScaled_24 zset_s (by omega) (by decide) ?_
    refine J_iinc d_Ring_addScaled_25 rfl (by decide) ?_
    refine V_goto 3 d_Ring_addScaled_28 (by decide) ?_
    exact V_w (by rw [zset_zset, zif_s (by omega) (by rw [zif_r (by omega)])]; rfl) ih

set_option maxRecDepth 100000 in
set_option maxHeartbeats 4000000 in
theorem c_addProduct (G : zG) (sz : Nat) (w : zW) (r pw : Nat) (kd n t zz : Int) (s a b nn : Nat) (g fa fb : Int → Int) (hr : w r = some (zobj cRing [.int (Int32.ofInt kd), .int (Int32.ofInt n), .int (Int32.ofInt t), .int (Int32.ofInt zz), .ref pw])) (hs : w s = some (zro G 32 g)) (ha : w a = some (zro G 32 fa)) (hb : w b = some (zro G 32 fb)) (has : a ≠ s) (hbs : b ≠ s) (hnn : n = (nn : Int)) (hn : nn ≤ 32) : zCt G M_Ring_addProduct zR0 [.ref r, .ref s, .ref a, .ref b] sz w (zdet none (zset w s (zro G 32 (zap n fa fb g nn))) sz) := by
  have hrs : r ≠ s := fun q => by rw [q, hs] at hr; cases hr
  subst hnn
  refine V_iconst d_Ring_addProduct_0 ?_
  refine V_istore d_Ring_addProduct_1 (by decide) ?_
  refine V_w (w' := zset w s (zro G 32 (zap nn fa fb g 0))) (by rw [zap_0, zset_self hs]) ?_
  refine zfor nn (fun i => V G M_Ring_addProduct (zdet none (zset w s (zro G 32 (zap nn fa fb g nn))) sz) zR0 0 0 sz 3 [(0, .ref r), (1, .ref s), (2, .ref a), (3, .ref b), (4, .int (Int32.ofInt (i : Int)))] [] (zset w s (zro G 32 (zap nn fa fb g i)))) ?_ (fun i hi ih => ?_) 0 (Nat.zero_le nn)
  · skip
    refine V_iload d_Ring_addProduct_3 rfl ?_
    refine V_aload_n d_Ring_addProduct_5 rfl ?_
    refine V_getf d_Ring_addProduct_6 ff_Ring_27 ((zset_n hrs).trans hr) rfl ?_
    refine J_icmp_ge 108 d_Ring_addProduct_9 (by decide) (by omega) (by omega) (fun c_9 => ?_) (fun c_9 => absurd c_9 (by omega))
    exact V_return d_Ring_addProduct_108 rfl ⟨Nat.le_of_ble_eq_true rfl, Nat.le_of_ble_eq_true rfl⟩ ⟨rfl, rfl, rfl⟩
  · skip
    refine V_iload d_Ring_addProduct_3 rfl ?_
    refine V_aload_n d_Ring_addProduct_5 rfl ?_
    refine V_getf d_Ring_addProduct_6 ff_Ring_27 ((zset_n hrs).trans hr) rfl ?_
    refine J_icmp_ge 108 d_Ring_addProduct_9 (by decide) (by omega) (by omega) (fun c_9 => absurd c_9 (by omega)) (fun c_9 => ?_)
    refine V_aload_n d_Ring_addProduct_12 rfl ?_
    refine V_iload d_Ring_addProduct_13 rfl ?_
    refine J_laload d_Ring_addProduct_15 ((zset_n has).trans ha) (by omega) (by decide) ?_
    refine V_lstore d_Ring_addProduct_16 (by decide) ?_
    refine V_iconst d_Ring_addProduct_18 ?_
    refine V_istore d_Ring_addProduct_19 (by decide) ?_
    refine V_w (w' := zset w s (zro G 32 (zap1 nn fa fb g i 0))) (by rw [zap1_0]) ?_
    refine zfor (nn - i) (fun j => V G M_Ring_addProduct (zdet none (zset w s (zro G 32 (zap nn fa fb g nn))) sz) zR0 0 0 sz 21 [(0, .ref r), (1, .ref s), (2, .ref a), (3, .ref b), (4, .int (Int32.ofInt (i : Int))), (5, .long (Int64.ofInt (fa i))), (7, .int (Int32.ofInt (j : Int)))] [] (zset w s (zro G 32 (zap1 nn fa fb g i j)))) ?_ (fun j hj ih1 => ?_) 0 (Nat.zero_le _)
    · skip
      refine V_iload d_Ring_addProduct_21 rfl ?_
      refine V_aload_n d_Ring_addProduct_23 rfl ?_
      refine V_getf d_Ring_addProduct_24 ff_Ring_27 ((zset_n hrs).trans hr) rfl ?_
      refine V_iload d_Ring_addProduct_27 rfl ?_
      refine J_isub d_Ring_addProduct_29 ?_
      refine J_icmp_ge 56 d_Ring_addProduct_30 (by decide) (by omega) (by omega) (fun c_30 => ?_) (fun c_30 => absurd c_30 (by omega))
      refine V_aload_n d_Ring_addProduct_56 rfl ?_
      refine V_getf d_Ring_addProduct_57 ff_Ring_27 ((zset_n hrs).trans hr) rfl ?_
      refine V_iload d_Ring_addProduct_60 rfl ?_
      refine J_isub d_Ring_addProduct_62 ?_
      refine V_istore d_Ring_addProduct_63 (by decide) ?_
      refine V_w (w' := zset w s (zro G 32 (zap2 nn fa fb g i (nn - i : Nat)))) (by rw [zap2_0 (by omega)]) ?_
      refine V_lo [0, 1, 2, 3, 4, 5, 7] (lo' := [(0, .ref r), (1, .ref s), (2, .ref a), (3, .ref b), (4, .int (Int32.ofInt (i : Int))), (5, .long (Int64.ofInt (fa i))), (7, .int (Int32.ofInt ((nn - i : Nat) : Int)))]) (by rw [show ((nn - i : Nat) : Int) = (nn : Int) - (i : Int) by omega]; rfl) ?_
      refine zforF (nn - i) nn (fun j => V G M_Ring_addProduct (zdet none (zset w s (zro G 32 (zap nn fa fb g nn))) sz) zR0 0 0 sz 65 [(0, .ref r), (1, .ref s), (2, .ref a), (3, .ref b), (4, .int (Int32.ofInt (i : Int))), (5, .long (Int64.ofInt (fa i))), (7, .int (Int32.ofInt (j : Int)))] [] (zset w s (zro G 32 (zap2 nn fa fb g i j)))) ?_ (fun j hj2 hj ih2 => ?_) (nn - i) (Nat.le_refl _) (Nat.sub_le _ _)
      · skip
        refine V_iload d_Ring_addProduct_65 rfl ?_
        refine V_aload_n d_Ring_addProduct_67 rfl ?_
        refine V_getf d_Ring_addProduct_68 ff_Ring_27 ((zset_n hrs).trans hr) rfl ?_
        refine J_icmp_ge 102 d_Ring_addProduct_71 (by decide) (by omega) (by omega) (fun c_71 => ?_) (fun c_71 => absurd c_71 (by omega))
        refine J_iinc d_Ring_addProduct_102 rfl (by decide) ?_
        refine V_goto 3 d_Ring_addProduct_105 (by decide) ?_
        exact V_lo [0, 1, 2, 3, 4] rfl (V_w (by rw [zap2_n hi]) ih)
      · skip
        refine V_iload d_Ring_addProduct_65 rfl ?_
        refine V_aload_n d_Ring_addProduct_67 rfl ?_
        refine V_getf d_Ring_addProduct_68 ff_Ring_27 ((zset_n hrs).trans hr) rfl ?_
        refine J_icmp_ge 102 d_Ring_addProduct_71 (by decide) (by omega) (by omega) (fun c_71 => absurd c_71 (by omega)) (fun c_71 => ?_)
        refine V_aload_n d_Ring_addProduct_74 rfl ?_
        refine V_iload d_Ring_addProduct_75 rfl ?_
        refine V_iload d_Ring_addProduct_77 rfl ?_
        refine J_iadd d_Ring_addProduct_79 ?_
        refine V_aload_n d_Ring_addProduct_80 rfl ?_
        refine V_getf d_Ring_addProduct_81 ff_Ring_27 ((zset_n hrs).trans hr) rfl ?_
        refine J_isub d_Ring_addProduct_84 ?_
        refine V_dup2 d_Ring_addProduct_85 rfl rfl ?_
        refine J_laload d_Ring_addProduct_86 zset_s (by omega) (by decide) ?_
        refine V_lload d_Ring_addProduct_87 rfl ?_
        refine V_aload_n d_Ring_addProduct_89 rfl ?_
        refine V_iload d_Ring_addProduct_90 rfl ?_
        refine J_laload d_Ring_addProduct_92 ((zset_n hbs).trans hb) (by omega) (by decide) ?_
        refine J_lmul d_Ring_addProduct_93 ?_
        refine J_lsub d_Ring_addProduct_94 ?_
        refine J_lastore d_Ring_addProduct_95 zset_s (by omega) (by decide) ?_
        refine J_iinc d_Ring_addProduct_96 rfl (by decide) ?_
        refine V_goto 65 d_Ring_addProduct_99 (by decide) ?_
        exact V_w (by rw [zset_zset, zap2_s hj2 hj hi]) ih2
    · skip
      refine V_iload d_Ring_addProduct_21 rfl ?_
      refine V_aload_n d_Ring_addProduct_23 rfl ?_
      refine V_getf d_Ring_addProduct_24 ff_Ring_27 ((zset_n hrs).trans hr) rfl ?_
      refine V_iload d_Ring_addProduct_27 rfl ?_
      refine J_isub d_Ring_addProduct_29 ?_
      refine J_icmp_ge 56 d_Ring_addProduct_30 (by decide) (by omega) (by omega) (fun c_30 => absurd c_30 (by omega)) (fun c_30 => ?_)
      refine V_aload_n d_Ring_addProduct_33 rfl ?_
      refine V_iload d_Ring_addProduct_34 rfl ?_
      refine V_iload d_Ring_addProduct_36 rfl ?_
      refine J_iadd d_Ring_addProduct_38 ?_
      refine V_dup2 d_Ring_addProduct_39 rfl rfl ?_
      refine J_laload d_Ring_addProduct_40 zset_s (by omega) (by decide) ?_
      refine V_lload d_Ring_addProduct_41 rfl ?_
      refine V_aload_n d_Ring_addProduct_43 rfl ?_
      refine V_iload d_Ring_addProduct_44 rfl ?_
      refine J_laload d_Ring_addProduct_46 ((zset_n hbs).trans hb) (by omega) (by decide) ?_
      refine J_lmul d_Ring_addProduct_47 ?_
      refine J_ladd d_Ring_addProduct_48 ?_
      refine J_lastore d_Ring_addProduct_49 zset_s (by omega) (by decide) ?_
      refine J_iinc d_Ring_addProduct_50 rfl (by decide) ?_
      refine V_goto 21 d_Ring_addProduct_53 (by decide) ?_
      exact V_w (by rw [zset_zset, zap1_s (by omega)]) ih1

