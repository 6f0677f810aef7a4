set_option maxRecDepth 100000 in
set_option maxHeartbeats 4000000 in
theorem c_bitCount (G : zG) (sz : Nat) (w : zW) (x : Int32) : zCt G M_Integer_bitCount (zR 0 0 0 0) [.int x] sz w (zdet (some (.int (zbc x))) w sz) := by
  refine V_iload_n d_Integer_bitCount_0 rfl ?_
  refine V_iload_n d_Integer_bitCount_1 rfl ?_
  refine V_iconst d_Integer_bitCount_2 ?_
  refine V_iushr d_Integer_bitCount_3 ?_
  refine V_ldc_w d_Integer_bitCount_4 k_Integer_265 ?_
  refine V_iand d_Integer_bitCount_7 ?_
  refine V_isub d_Integer_bitCount_8 ?_
  refine V_istore_n d_Integer_bitCount_9 (by decide) ?_
  refine V_iload_n d_Integer_bitCount_10 rfl ?_
  refine V_ldc_w d_Integer_bitCount_11 k_Integer_266 ?_
  refine V_iand d_Integer_bitCount_14 ?_
  refine V_iload_n d_Integer_bitCount_15 rfl ?_
  refine V_iconst d_Integer_bitCount_16 ?_
  refine V_iushr d_Integer_bitCount_17 ?_
  refine V_ldc_w d_Integer_bitCount_18 k_Integer_266 ?_
  refine V_iand d_Integer_bitCount_21 ?_
  refine V_iadd d_Integer_bitCount_22 ?_
  refine V_istore_n d_Integer_bitCount_23 (by decide) ?_
  refine V_iload_n d_Integer_bitCount_24 rfl ?_
  refine V_iload_n d_Integer_bitCount_25 rfl ?_
  refine V_iconst d_Integer_bitCount_26 ?_
  refine V_iushr d_Integer_bitCount_27 ?_
  refine V_iadd d_Integer_bitCount_28 ?_
  refine V_ldc_w d_Integer_bitCount_29 k_Integer_267 ?_
  refine V_iand d_Integer_bitCount_32 ?_
  refine V_istore_n d_Integer_bitCount_33 (by decide) ?_
  refine V_iload_n d_Integer_bitCount_34 rfl ?_
  refine V_iload_n d_Integer_bitCount_35 rfl ?_
  refine J_bipush d_Integer_bitCount_36 (by decide) ?_
  refine V_iushr d_Integer_bitCount_38 ?_
  refine V_iadd d_Integer_bitCount_39 ?_
  refine V_istore_n d_Integer_bitCount_40 (by decide) ?_
  refine V_iload_n d_Integer_bitCount_41 rfl ?_
  refine V_iload_n d_Integer_bitCount_42 rfl ?_
  refine J_bipush d_Integer_bitCount_43 (by decide) ?_
  refine V_iushr d_Integer_bitCount_45 ?_
  refine V_iadd d_Integer_bitCount_46 ?_
  refine V_istore_n d_Integer_bitCount_47 (by decide) ?_
  refine V_iload_n d_Integer_bitCount_48 rfl ?_
  refine J_bipush d_Integer_bitCount_49 (by decide) ?_
  refine V_iand d_Integer_bitCount_51 ?_
  exact V_ireturn d_Integer_bitCount_52 rfl ⟨Nat.le_of_ble_eq_true rfl, Nat.le_of_ble_eq_true rfl⟩ ⟨rfl, rfl, rfl⟩

set_option maxRecDepth 100000 in
set_option maxHeartbeats 4000000 in
theorem c_fillTernary (G : zG) (sz : Nat) (w : zW) (a s nn : Nat) (c : Int32) (g : Int → Int) (h : w a = some (zobj cChance [.int c])) (hs : w s = some (zro G 32 g)) (hn : nn ≤ 32) : zCt G M_Chance_fillTernary (zR 1 0 0 20) [.ref a, .ref s, .int (Int32.ofInt (nn : Int))] sz w (zdet none (zset (zset w a (zobj cChance [.int (zlcN c nn)])) s (zro G 32 (zif (nn : Int) (zrT c) g))) sz) := by
  have hne : a ≠ s := fun q => by rw [q, hs] at h; cases h
  refine V_iconst d_Chance_fillTernary_0 ?_
  refine V_istore_n d_Chance_fillTernary_1 (by decide) ?_
  refine V_w (w' := (zset (zset w a (zobj cChance [.int (zlcN c 0)])) s (zro G 32 (zif ((0 : Nat) : Int) (zrT c) g)))) (by rw [show ((0 : Nat) : Int) = 0 from rfl, zif_0, show zlcN c 0 = c from rfl, zset_self h, zset_self hs]) ?_
  refine zfor nn (fun i => V G M_Chance_fillTernary (zdet none (zset (zset w a (zobj cChance [.int (zlcN c nn)])) s (zro G 32 (zif (nn : Int) (zrT c) g))) sz) (zR 1 0 0 20) 0 0 sz 2 [(0, .ref a), (1, .ref s), (2, .int (Int32.ofInt (nn : Int))), (3, .int (Int32.ofInt (i : Int)))] [] (zset (zset w a (zobj cChance [.int (zlcN c i)])) s (zro G 32 (zif (i : Int) (zrT c) g)))) ?_ (fun i hi ih => ?_) 0 (Nat.zero_le nn)
  · skip
    refine V_iload_n d_Chance_fillTernary_2 rfl ?_
    refine V_iload_n d_Chance_fillTernary_3 rfl ?_
    refine J_icmp_ge 25 d_Chance_fillTernary_4 (by decide) (by omega) (by omega) (fun c_4 => ?_) (fun c_4 => absurd c_4 (by omega))
    exact V_return d_Chance_fillTernary_25 rfl ⟨Nat.le_of_ble_eq_true rfl, Nat.le_of_ble_eq_true rfl⟩ ⟨rfl, rfl, rfl⟩
  · skip
    refine V_iload_n d_Chance_fillTernary_2 rfl ?_
    refine V_iload_n d_Chance_fillTernary_3 rfl ?_
    refine J_icmp_ge 25 d_Chance_fillTernary_4 (by decide) (by omega) (by omega) (fun c_4 => absurd c_4 (by omega)) (fun c_4 => ?_)
    refine V_aload_n d_Chance_fillTernary_7 rfl ?_
    refine V_iload_n d_Chance_fillTernary_8 rfl ?_
    refine V_aload_n d_Chance_fillTernary_9 rfl ?_
    refine V_callV (n := 0) d_Chance_fillTernary_10 g_Chance_17 rfl ((zset_n hne).trans zset_s) rfl (c_draw G _ _ a (zlcN c i) ((zset_n hne).trans zset_s)) ⟨co_Chance_draw, by decide +kernel, Nat.le_of_ble_eq_true rfl⟩ ⟨Nat.le_of_ble_eq_true rfl, Nat.le_of_ble_eq_true rfl, Nat.le_of_ble_eq_true rfl, Nat.le_of_ble_eq_true rfl⟩ (Nat.le_of_ble_eq_true rfl) (fun r_10 w_10 s_10 q_10 => ?_) (fun _ _ _ q => False.elim q)
    obtain ⟨rfl, rfl, rfl⟩ := q_10
    refine V_w (zset_3 hne) ?_
    have hb := zup_b (zlc (zlcN c i))
    refine V_iconst d_Chance_fillTernary_13 ?_
    refine J_iremP d_Chance_fillTernary_14 (by omega) (by omega) ?_
    refine V_iconst d_Chance_fillTernary_15 ?_
    refine J_isub d_Chance_fillTernary_16 ?_
    refine J_i2l d_Chance_fillTernary_17 (by omega) ?_
    refine J_lastore d_Chance_fillTernary_18 zset_s (by omega) (by decide) ?_
    refine J_iinc d_Chance_fillTernary_19 rfl (by decide) ?_
    refine V_goto 2 d_Chance_fillTernary_22 (by decide) ?_
    exact V_w (by rw [zset_zset, show zlc (zlcN c i) = zlcN c (i + 1) from rfl, zif_s (by omega) (by unfold zrT; rw [show ((i : Int)).toNat + 1 = i + 1 by omega])]; rfl) ih

set_option maxRecDepth 100000 in
set_option maxHeartbeats 4000000 in
theorem c_fillErrors (G : zG) (sz : Nat) (w : zW) (a s nn : Nat) (c : Int32) (g : Int → Int) (h : w a = some (zobj cChance [.int c])) (hs : w s = some (zro G 32 g)) (hn : nn ≤ 32) : zCt G M_Chance_fillErrors (zR 1 0 0 20) [.ref a, .ref s, .int (Int32.ofInt (nn : Int))] sz w (zdet none (zset (zset w a (zobj cChance [.int (zlcN c nn)])) s (zro G 32 (zif (nn : Int) (zrE c) g))) sz) := by
  have hne : a ≠ s := fun q => by rw [q, hs] at h; cases h
  refine V_iconst d_Chance_fillErrors_0 ?_
  refine V_istore_n d_Chance_fillErrors_1 (by decide) ?_
  refine V_w (w' := (zset (zset w a (zobj cChance [.int (zlcN c 0)])) s (zro G 32 (zif ((0 : Nat) : Int) (zrE c) g)))) (by rw [show ((0 : Nat) : Int) = 0 from rfl, zif_0, show zlcN c 0 = c from rfl, zset_self h, zset_self hs]) ?_
  refine zfor nn (fun i => V G M_Chance_fillErrors (zdet none (zset (zset w a (zobj cChance [.int (zlcN c nn)])) s (zro G 32 (zif (nn : Int) (zrE c) g))) sz) (zR 1 0 0 20) 0 0 sz 2 [(0, .ref a), (1, .ref s), (2, .int (Int32.ofInt (nn : Int))), (3, .int (Int32.ofInt (i : Int)))] [] (zset (zset w a (zobj cChance [.int (zlcN c i)])) s (zro G 32 (zif (i : Int) (zrE c) g)))) ?_ (fun i hi ih => ?_) 0 (Nat.zero_le nn)
  · skip
    refine V_iload_n d_Chance_fillErrors_2 rfl ?_
    refine V_iload_n d_Chance_fillErrors_3 rfl ?_
    refine J_icmp_ge 40 d_Chance_fillErrors_4 (by decide) (by omega) (by omega) (fun c_4 => ?_) (fun c_4 => absurd c_4 (by omega))
    exact V_return d_Chance_fillErrors_40 rfl ⟨Nat.le_of_ble_eq_true rfl, Nat.le_of_ble_eq_true rfl⟩ ⟨rfl, rfl, rfl⟩
  · skip
    refine V_iload_n d_Chance_fillErrors_2 rfl ?_
    refine V_iload_n d_Chance_fillErrors_3 rfl ?_
    refine J_icmp_ge 40 d_Chance_fillErrors_4 (by decide) (by omega) (by omega) (fun c_4 => absurd c_4 (by omega)) (fun c_4 => ?_)
    refine V_aload_n d_Chance_fillErrors_7 rfl ?_
    refine V_callV (n := 0) d_Chance_fillErrors_8 g_Chance_17 rfl ((zset_n hne).trans zset_s) rfl (c_draw G _ _ a (zlcN c i) ((zset_n hne).trans zset_s)) ⟨co_Chance_draw, by decide +kernel, Nat.le_of_ble_eq_true rfl⟩ ⟨Nat.le_of_ble_eq_true rfl, Nat.le_of_ble_eq_true rfl, Nat.le_of_ble_eq_true rfl, Nat.le_of_ble_eq_true rfl⟩ (Nat.le_of_ble_eq_true rfl) (fun r_8 w_8 s_8 q_8 => ?_) (fun _ _ _ q => False.elim q)
    obtain ⟨rfl, rfl, rfl⟩ := q_8
    refine V_w (zset_3 hne) ?_
    have hb := zup_b (zlc (zlcN c i))
    refine V_istore d_Chance_fillErrors_11 (by decide) ?_
    refine V_aload_n d_Chance_fillErrors_13 rfl ?_
    refine V_iload_n d_Chance_fillErrors_14 rfl ?_
    refine V_iload d_Chance_fillErrors_15 rfl ?_
    refine J_bipush d_Chance_fillErrors_17 (by decide) ?_
    refine V_iand d_Chance_fillErrors_19 ?_
    refine V_callS (n := 1) d_Chance_fillErrors_20 g_Chance_21 rfl (c_bitCount G _ _ _) ⟨co_Integer_bitCount, by decide +kernel, Nat.le_of_ble_eq_true rfl⟩ ⟨Nat.le_of_ble_eq_true rfl, Nat.le_of_ble_eq_true rfl, Nat.le_of_ble_eq_true rfl, Nat.le_of_ble_eq_true rfl⟩ (Nat.le_of_ble_eq_true rfl) (fun r_20 w_20 s_20 q_20 => ?_) (fun _ _ _ q => False.elim q)
    obtain ⟨rfl, rfl, rfl⟩ := q_20
    refine V_iload d_Chance_fillErrors_23 rfl ?_
    refine J_bipush d_Chance_fillErrors_25 (by decide) ?_
    refine V_iand d_Chance_fillErrors_27 ?_
    refine V_callS (n := 1) d_Chance_fillErrors_28 g_Chance_21 rfl (c_bitCount G _ _ _) ⟨co_Integer_bitCount, by decide +kernel, Nat.le_of_ble_eq_true rfl⟩ ⟨Nat.le_of_ble_eq_true rfl, Nat.le_of_ble_eq_true rfl, Nat.le_of_ble_eq_true rfl, Nat.le_of_ble_eq_true rfl⟩ (Nat.le_of_ble_eq_true rfl) (fun r_28 w_28 s_28 q_28 => ?_) (fun _ _ _ q => False.elim q)
    obtain ⟨rfl, rfl, rfl⟩ := q_28
    show V _ _ _ _ _ _ _ _ _ (Value.int (zbc (Int32.ofInt _ &&& Int32.ofInt 56)) :: Value.int (zbc (Int32.ofInt _ &&& Int32.ofInt 7)) :: _) _
    rw [zand_56 (by omega), zand_7 (by omega), zbc_h hb.1, zbc_l hb.1]
    have hb3 := zlo_b (zup (zlc (zlcN c i)))
    have hb4 := zhi_b (zup (zlc (zlcN c i)))
    refine J_isub d_Chance_fillErrors_31 ?_
    refine J_i2l d_Chance_fillErrors_32 (by omega) ?_
    refine J_lastore d_Chance_fillErrors_33 zset_s (by omega) (by decide) ?_
    refine J_iinc d_Chance_fillErrors_34 rfl (by decide) ?_
    refine V_goto 2 d_Chance_fillErrors_37 (by decide) ?_
    exact V_lo [0, 1, 2, 3] rfl (V_w (by rw [zset_zset, show zlc (zlcN c i) = zlcN c (i + 1) from rfl, zif_s (by omega) (by unfold zrE zer; rw [show ((i : Int)).toNat + 1 = i + 1 by omega])]; rfl) ih)

set_option maxRecDepth 100000 in
set_option maxHeartbeats 4000000 in
theorem c_fillUniform (G : zG) (sz : Nat) (w : zW) (a s nn : Nat) (c : Int32) (g : Int → Int) (h : w a = some (zobj cChance [.int c])) (hs : w s = some (zro G 32 g)) (hn : nn ≤ 32) : zCt G M_Chance_fillUniform (zR 1 0 0 20) [.ref a, .ref s, .int (Int32.ofInt (nn : Int))] sz w (zdet none (zset (zset w a (zobj cChance [.int (zlcN c (2 * nn))])) s (zro G 32 (zif (nn : Int) (zrU c) g))) sz) := by
  have hne : a ≠ s := fun q => by rw [q, hs] at h; cases h
  refine V_iconst d_Chance_fillUniform_0 ?_
  refine V_istore_n d_Chance_fillUniform_1 (by decide) ?_
  refine V_w (w' := (zset (zset w a (zobj cChance [.int (zlcN c (2 * 0))])) s (zro G 32 (zif ((0 : Nat) : Int) (zrU c) g)))) (by rw [show ((0 : Nat) : Int) = 0 from rfl, zif_0, show zlcN c (2 * 0) = c from rfl, zset_self h, zset_self hs]) ?_
  refine zfor nn (fun i => V G M_Chance_fillUniform (zdet none (zset (zset w a (zobj cChance [.int (zlcN c (2 * nn))])) s (zro G 32 (zif (nn : Int) (zrU c) g))) sz) (zR 1 0 0 20) 0 0 sz 2 [(0, .ref a), (1, .ref s), (2, .int (Int32.ofInt (nn : Int))), (3, .int (Int32.ofInt (i : Int)))] [] (zset (zset w a (zobj cChance [.int (zlcN c (2 * i))])) s (zro G 32 (zif (i : Int) (zrU c) g)))) ?_ (fun i hi ih => ?_) 0 (Nat.zero_le nn)
  · skip
    refine V_iload_n d_Chance_fillUniform_2 rfl ?_
    refine V_iload_n d_Chance_fillUniform_3 rfl ?_
    refine J_icmp_ge 39 d_Chance_fillUniform_4 (by decide) (by omega) (by omega) (fun c_4 => ?_) (fun c_4 => absurd c_4 (by omega))
    exact V_return d_Chance_fillUniform_39 rfl ⟨Nat.le_of_ble_eq_true rfl, Nat.le_of_ble_eq_true rfl⟩ ⟨rfl, rfl, rfl⟩
  · skip
    refine V_iload_n d_Chance_fillUniform_2 rfl ?_
    refine V_iload_n d_Chance_fillUniform_3 rfl ?_
    refine J_icmp_ge 39 d_Chance_fillUniform_4 (by decide) (by omega) (by omega) (fun c_4 => absurd c_4 (by omega)) (fun c_4 => ?_)
    refine V_aload_n d_Chance_fillUniform_7 rfl ?_
    refine V_callV (n := 0) d_Chance_fillUniform_8 g_Chance_17 rfl ((zset_n hne).trans zset_s) rfl (c_draw G _ _ a (zlcN c (2 * i)) ((zset_n hne).trans zset_s)) ⟨co_Chance_draw, by decide +kernel, Nat.le_of_ble_eq_true rfl⟩ ⟨Nat.le_of_ble_eq_true rfl, Nat.le_of_ble_eq_true rfl, Nat.le_of_ble_eq_true rfl, Nat.le_of_ble_eq_true rfl⟩ (Nat.le_of_ble_eq_true rfl) (fun r_8 w_8 s_8 q_8 => ?_) (fun _ _ _ q => False.elim q)
    obtain ⟨rfl, rfl, rfl⟩ := q_8
    refine V_w (zset_3 hne) ?_
    have hb := zup_b (zlc (zlcN c (2 * i)))
    refine J_i2l d_Chance_fillUniform_11 (by omega) ?_
    refine V_lstore d_Chance_fillUniform_12 (by decide) ?_
    refine V_aload_n d_Chance_fillUniform_14 rfl ?_
    refine V_iload_n d_Chance_fillUniform_15 rfl ?_
    refine J_ldc2 d_Chance_fillUniform_16 k_Chance_27 ?_
    refine V_lload d_Chance_fillUniform_19 rfl ?_
    refine J_lmul d_Chance_fillUniform_21 ?_
    refine V_aload_n d_Chance_fillUniform_22 rfl ?_
    refine V_callV (n := 0) d_Chance_fillUniform_23 g_Chance_17 rfl ((zset_n hne).trans zset_s) rfl (c_draw G _ _ a (zlc (zlcN c (2 * i))) ((zset_n hne).trans zset_s)) ⟨co_Chance_draw, by decide +kernel, Nat.le_of_ble_eq_true rfl⟩ ⟨Nat.le_of_ble_eq_true rfl, Nat.le_of_ble_eq_true rfl, Nat.le_of_ble_eq_true rfl, Nat.le_of_ble_eq_true rfl⟩ (Nat.le_of_ble_eq_true rfl) (fun r_23 w_23 s_23 q_23 => ?_) (fun _ _ _ q => False.elim q)
    obtain ⟨rfl, rfl, rfl⟩ := q_23
    refine V_w (zset_3 hne) ?_
    have hb2 := zup_b (zlc (zlc (zlcN c (2 * i))))
    refine J_i2l d_Chance_fillUniform_26 (by omega) ?_
    refine J_ladd d_Chance_fillUniform_27 ?_
    refine J_ldc2 d_Chance_fillUniform_28 k_Chance_29 ?_
    refine J_lremP d_Chance_fillUniform_31 (by omega) (by omega) ?_
    refine J_lastore d_Chance_fillUniform_32 zset_s (by omega) (by decide) ?_
    refine J_iinc d_Chance_fillUniform_33 rfl (by decide) ?_
    refine V_goto 2 d_Chance_fillUniform_36 (by decide) ?_
    exact V_lo [0, 1, 2, 3] rfl (V_w (by rw [zset_zset, show zlc (zlc (zlcN c (2 * i))) = zlcN c (2 * (i + 1)) from rfl, zif_s (by omega) (by unfold zrU; rw [show ((i : Int)).toNat = i by omega]; rfl)]; rfl) ih)

