set_option maxRecDepth 100000 in
set_option maxHeartbeats 4000000 in
theorem c_powerModT (G : zG) (sz : Nat) (w : zW) (r pw : Nat) (kd n t zz : Int) (b : Int) (e : Nat) (h : w r = some (zobj cRing [.int (Int32.ofInt kd), .int (Int32.ofInt n), .int (Int32.ofInt t), .int (Int32.ofInt zz), .ref pw])) (ht : 1 < t ∧ t ≤ 1000) (hb : 0 ≤ b ∧ b ≤ 1000) (he : e < 100000) : zCt G M_Ring_powerModT (zR 0 0 0 0) [.ref r, .long (Int64.ofInt b), .int (Int32.ofInt (e : Int))] sz w (zdet (some (.long (Int64.ofInt (zpm t b e)))) w sz) := by
  refine J_lconst (z := 1) d_Ring_powerModT_0 rfl ?_
  refine V_lstore d_Ring_powerModT_1 (by decide) ?_
  refine V_iconst d_Ring_powerModT_3 ?_
  refine V_istore d_Ring_powerModT_4 (by decide) ?_
  refine zfor e (fun i => V G M_Ring_powerModT (zdet (some (.long (Int64.ofInt (zpm t b e)))) w sz) (zR 0 0 0 0) 0 0 sz 6 [(0, .ref r), (1, .long (Int64.ofInt b)), (3, .int (Int32.ofInt (e : Int))), (4, .long (Int64.ofInt (zpm t b i))), (6, .int (Int32.ofInt (i : Int)))] [] w) ?_ (fun i hi ih => ?_) 0 (Nat.zero_le e)
  · skip
    refine V_iload d_Ring_powerModT_6 rfl ?_
    refine V_iload_n d_Ring_powerModT_8 rfl ?_
    refine J_icmp_ge 30 d_Ring_powerModT_9 (by decide) (by omega) (by omega) (fun c_9 => ?_) (fun c_9 => absurd c_9 (by omega))
    refine V_lload d_Ring_powerModT_30 rfl ?_
    exact V_lreturn d_Ring_powerModT_32 rfl ⟨Nat.le_of_ble_eq_true rfl, Nat.le_of_ble_eq_true rfl⟩ ⟨rfl, rfl, rfl⟩
  · have hp := zpm_b (b := b) ht.1 i
    have hm := zmulb (a := zpm t b i) (b := b) (A := 1000) (B := 1000) (by omega) (by omega)
    refine V_iload d_Ring_powerModT_6 rfl ?_
    refine V_iload_n d_Ring_powerModT_8 rfl ?_
    refine J_icmp_ge 30 d_Ring_powerModT_9 (by decide) (by omega) (by omega) (fun c_9 => absurd c_9 (by omega)) (fun c_9 => ?_)
    refine V_lload d_Ring_powerModT_12 rfl ?_
    refine V_lload_n d_Ring_powerModT_14 rfl ?_
    refine J_lmul d_Ring_powerModT_15 ?_
    refine V_aload_n d_Ring_powerModT_16 rfl ?_
    refine V_getf d_Ring_powerModT_17 ff_Ring_33 h rfl ?_
    refine J_i2l d_Ring_powerModT_20 (by omega) ?_
    refine J_lremP d_Ring_powerModT_21 (by omega) (by omega) ?_
    refine V_lstore d_Ring_powerModT_22 (by decide) ?_
    refine J_iinc d_Ring_powerModT_24 rfl (by decide) ?_
    refine V_goto 6 d_Ring_powerModT_27 (by decide) ?_
    exact ih

set_option maxRecDepth 100000 in
set_option maxHeartbeats 4000000 in
theorem c_timesTOverQ (G : zG) (sz : Nat) (w : zW) (r pw : Nat) (kd n t zz : Int) (x : Int) (h : w r = some (zobj cRing [.int (Int32.ofInt kd), .int (Int32.ofInt n), .int (Int32.ofInt t), .int (Int32.ofInt zz), .ref pw])) (ht : 1 < t ∧ t ≤ 1000) (hx : -4611686018427387904 ≤ x ∧ x ≤ 4611686018427387904) : zCt G M_Ring_timesTOverQ (zR 1 0 0 25) [.ref r, .long (Int64.ofInt x)] sz w (zdet (some (.long (Int64.ofInt (zts t x)))) w sz) := by
  have h1 : 0 ≤ x % 268435399 ∧ x % 268435399 < 268435399 := by omega
  have h2 : -34359738368 ≤ x / 268435399 ∧ x / 268435399 ≤ 34359738368 := by omega
  have h3 := zmulb (a := 2 * t) (b := x % 268435399) (A := 2000) (B := 268435399) (by omega) (by omega)
  refine V_lload_n d_Ring_timesTOverQ_0 rfl ?_
  refine J_ldc2 d_Ring_timesTOverQ_1 k_Ring_47 ?_
  refine V_callS (n := 2) d_Ring_timesTOverQ_4 g_Ring_49 rfl (c_fdivJ G _ _ x 268435399 (by omega) (by decide)) ⟨co_Math_floorDiv, by decide +kernel, Nat.le_of_ble_eq_true rfl⟩ ⟨Nat.le_of_ble_eq_true rfl, Nat.le_of_ble_eq_true rfl, Nat.le_of_ble_eq_true rfl, Nat.le_of_ble_eq_true rfl⟩ (Nat.le_of_ble_eq_true rfl) (fun r_4 w_4 s_4 q_4 => ?_) (fun _ _ _ q => False.elim q)
  obtain ⟨rfl, rfl, rfl⟩ := q_4
  refine V_lstore_n d_Ring_timesTOverQ_7 (by decide) ?_
  refine V_lload_n d_Ring_timesTOverQ_8 rfl ?_
  refine J_ldc2 d_Ring_timesTOverQ_9 k_Ring_47 ?_
  refine V_callS (n := 2) d_Ring_timesTOverQ_12 g_Ring_55 rfl (c_fmodJ G _ _ x 268435399 (by omega) (by decide)) ⟨co_Math_floorMod_JJ, by decide +kernel, Nat.le_of_ble_eq_true rfl⟩ ⟨Nat.le_of_ble_eq_true rfl, Nat.le_of_ble_eq_true rfl, Nat.le_of_ble_eq_true rfl, Nat.le_of_ble_eq_true rfl⟩ (Nat.le_of_ble_eq_true rfl) (fun r_12 w_12 s_12 q_12 => ?_) (fun _ _ _ q => False.elim q)
  obtain ⟨rfl, rfl, rfl⟩ := q_12
  refine V_lstore d_Ring_timesTOverQ_15 (by decide) ?_
  refine V_aload_n d_Ring_timesTOverQ_17 rfl ?_
  refine V_getf d_Ring_timesTOverQ_18 ff_Ring_33 h rfl ?_
  refine J_i2l d_Ring_timesTOverQ_21 (by omega) ?_
  refine V_lload_n d_Ring_timesTOverQ_22 rfl ?_
  refine J_lmul d_Ring_timesTOverQ_23 ?_
  refine V_iconst d_Ring_timesTOverQ_24 ?_
  refine V_aload_n d_Ring_timesTOverQ_25 rfl ?_
  refine V_getf d_Ring_timesTOverQ_26 ff_Ring_33 h rfl ?_
  refine J_imul d_Ring_timesTOverQ_29 ?_
  refine J_i2l d_Ring_timesTOverQ_30 (by omega) ?_
  refine V_lload d_Ring_timesTOverQ_31 rfl ?_
  refine J_lmul d_Ring_timesTOverQ_33 ?_
  refine J_ldc2 d_Ring_timesTOverQ_34 k_Ring_47 ?_
  refine J_ladd d_Ring_timesTOverQ_37 ?_
  refine J_ldc2 d_Ring_timesTOverQ_38 k_Ring_58 ?_
  refine J_ldivP d_Ring_timesTOverQ_41 (by omega) (by omega) ?_
  refine J_ladd d_Ring_timesTOverQ_42 ?_
  exact V_lreturn d_Ring_timesTOverQ_43 rfl ⟨Nat.le_of_ble_eq_true rfl, Nat.le_of_ble_eq_true rfl⟩ ⟨rfl, rfl, rfl⟩

set_option maxRecDepth 100000 in
set_option maxHeartbeats 4000000 in
theorem c_centred (G : zG) (sz : Nat) (w : zW) (x : Int) (hx : -9223372036854775808 ≤ x ∧ x < 9223372036854775808) : zCt G M_X_centred (zR 1 0 0 25) [.long (Int64.ofInt x)] sz w (zdet (some (.long (Int64.ofInt (zct x)))) w sz) := by
  have h1 : 0 ≤ x % 268435399 ∧ x % 268435399 < 268435399 := by omega
  refine V_lload_n d_X_centred_0 rfl ?_
  refine J_ldc2 d_X_centred_1 k_X_306 ?_
  refine V_callS (n := 2) d_X_centred_4 g_X_184 rfl (c_fmodJ G _ _ x 268435399 hx (by decide)) ⟨co_Math_floorMod_JJ, by decide +kernel, Nat.le_of_ble_eq_true rfl⟩ ⟨Nat.le_of_ble_eq_true rfl, Nat.le_of_ble_eq_true rfl, Nat.le_of_ble_eq_true rfl, Nat.le_of_ble_eq_true rfl⟩ (Nat.le_of_ble_eq_true rfl) (fun r_4 w_4 s_4 q_4 => ?_) (fun _ _ _ q => False.elim q)
  obtain ⟨rfl, rfl, rfl⟩ := q_4
  refine V_lstore_n d_X_centred_7 (by decide) ?_
  refine V_lload_n d_X_centred_8 rfl ?_
  refine J_ldc2 d_X_centred_9 k_X_308 ?_
  refine JL_le 24 d_X_centred_12 d_X_centred_13 (by decide) (by omega) (by omega) (fun c_12 => ?_) (fun c_12 => ?_)
  · skip
    refine V_lload_n d_X_centred_24 rfl ?_
    exact V_lreturn d_X_centred_25 rfl ⟨Nat.le_of_ble_eq_true rfl, Nat.le_of_ble_eq_true rfl⟩ ⟨by unfold zct; (first | rw [if_pos (by omega)] | rw [if_neg (by omega)]), rfl, rfl⟩
  · skip
    refine V_lload_n d_X_centred_16 rfl ?_
    refine J_ldc2 d_X_centred_17 k_X_306 ?_
    refine J_lsub d_X_centred_20 ?_
    refine V_goto 25 d_X_centred_21 (by decide) ?_
    exact V_lreturn d_X_centred_25 rfl ⟨Nat.le_of_ble_eq_true rfl, Nat.le_of_ble_eq_true rfl⟩ ⟨by unfold zct; (first | rw [if_pos (by omega)] | rw [if_neg (by omega)]), rfl, rfl⟩

set_option maxRecDepth 100000 in
set_option maxHeartbeats 4000000 in
theorem c_reduce (G : zG) (sz : Nat) (w : zW) (r pw : Nat) (kd n t zz : Int) (s a nn : Nat) (g h : Int → Int) (hr : w r = some (zobj cRing [.int (Int32.ofInt kd), .int (Int32.ofInt n), .int (Int32.ofInt t), .int (Int32.ofInt zz), .ref pw])) (hs : w s = some (zro G 32 g)) (ha : w a = some (zro G 32 h)) (has : a ≠ s) (hnn : n = (nn : Int)) (hn : nn ≤ 32) (hh : ∀ j : Nat, j < nn → -9223372036854775808 ≤ h j ∧ h j < 9223372036854775808) : zCt G M_Ring_reduce (zR 1 0 0 25) [.ref r, .ref s, .ref a] sz w (zdet none (zset w s (zro G 32 (zif (nn : Int) (fun j => h j % 268435399) g))) sz) := by
  have hrs : r ≠ s := fun q => by rw [q, hs] at hr; cases hr
  subst hnn
  refine V_iconst d_Ring_reduce_0 ?_
  refine V_istore_n d_Ring_reduce_1 (by decide) ?_
  refine V_w (w' := zset w s (zro G 32 (zif ((0 : Nat) : Int) (fun j => h j % 268435399) g))) (by rw [show ((0 : Nat) : Int) = 0 from rfl, zif_0, zset_self hs]) ?_
  refine zfor nn (fun i => V G M_Ring_reduce (zdet none (zset w s (zro G 32 (zif (nn : Int) (fun j => h j % 268435399) g))) sz) (zR 1 0 0 25) 0 0 sz 2 [(0, .ref r), (1, .ref s), (2, .ref a), (3, .int (Int32.ofInt (i : Int)))] [] (zset w s (zro G 32 (zif (i : Int) (fun j => h j % 268435399) g)))) ?_ (fun i hi ih => ?_) 0 (Nat.zero_le nn)
  · skip
    refine V_iload_n d_Ring_reduce_2 rfl ?_
    refine V_aload_n d_Ring_reduce_3 rfl ?_
    refine V_getf d_Ring_reduce_4 ff_Ring_27 ((zset_n hrs).trans hr) rfl ?_
    refine J_icmp_ge 28 d_Ring_reduce_7 (by decide) (by omega) (by omega) (fun c_7 => ?_) (fun c_7 => absurd c_7 (by omega))
    exact V_return d_Ring_reduce_28 rfl ⟨Nat.le_of_ble_eq_true rfl, Nat.le_of_ble_eq_true rfl⟩ ⟨rfl, rfl, rfl⟩
  · skip
    refine V_iload_n d_Ring_reduce_2 rfl ?_
    refine V_aload_n d_Ring_reduce_3 rfl ?_
    refine V_getf d_Ring_reduce_4 ff_Ring_27 ((zset_n hrs).trans hr) rfl ?_
    refine J_icmp_ge 28 d_Ring_reduce_7 (by decide) (by omega) (by omega) (fun c_7 => absurd c_7 (by omega)) (fun c_7 => ?_)
    refine V_aload_n d_Ring_reduce_10 rfl ?_
    refine V_iload_n d_Ring_reduce_11 rfl ?_
    refine V_aload_n d_Ring_reduce_12 rfl ?_
    refine V_iload_n d_Ring_reduce_13 rfl ?_
    refine J_laload d_Ring_reduce_14 ((zset_n has).trans ha) (by omega) (by decide) ?_
    refine J_ldc2 d_Ring_reduce_15 k_Ring_47 ?_
    refine V_callS (n := 2) d_Ring_reduce_18 g_Ring_55 rfl (c_fmodJ G _ _ (h i) 268435399 (hh i hi) (by decide)) ⟨co_Math_floorMod_JJ, by decide +kernel, Nat.le_of_ble_eq_true rfl⟩ ⟨Nat.le_of_ble_eq_true rfl, Nat.le_of_ble_eq_true rfl, Nat.le_of_ble_eq_true rfl, Nat.le_of_ble_eq_true rfl⟩ (Nat.le_of_ble_eq_true rfl) (fun r_18 w_18 s_18 q_18 => ?_) (fun _ _ _ q => False.elim q)
    obtain ⟨rfl, rfl, rfl⟩ := q_18
    refine J_lastore d_Ring_reduce_21 zset_s (by omega) (by decide) ?_
    refine J_iinc d_Ring_reduce_22 rfl (by decide) ?_
    refine V_goto 2 d_Ring_reduce_25 (by decide) ?_
    exact V_w (by rw [zset_zset, zif_s (by omega) rfl]; rfl) ih

set_option maxRecDepth 100000 in
set_option maxHeartbeats 4000000 in
theorem c_centre (G : zG) (sz : Nat) (w : zW) (r pw : Nat) (kd n t zz : Int) (s a nn : Nat) (g h : Int → Int) (hr : w r = some (zobj cRing [.int (Int32.ofInt kd), .int (Int32.ofInt n), .int (Int32.ofInt t), .int (Int32.ofInt zz), .ref pw])) (hs : w s = some (zro G 32 g)) (ha : w a = some (zro G 32 h)) (has : a ≠ s) (hnn : n = (nn : Int)) (hn : nn ≤ 32) (hh : ∀ j : Nat, j < nn → -9223372036854775808 ≤ h j ∧ h j < 9223372036854775808) : zCt G M_Ring_centre (zR 2 0 0 48) [.ref r, .ref s, .ref a] sz w (zdet none (zset w s (zro G 32 (zif (nn : Int) (fun j => zct (h j)) g))) sz) := by
  have hrs : r ≠ s := fun q => by rw [q, hs] at hr; cases hr
  subst hnn
  refine V_iconst d_Ring_centre_0 ?_
  refine V_istore_n d_Ring_centre_1 (by decide) ?_
  refine V_w (w' := zset w s (zro G 32 (zif ((0 : Nat) : Int) (fun j => zct (h j)) g))) (by rw [show ((0 : Nat) : Int) = 0 from rfl, zif_0, zset_self hs]) ?_
  refine zfor nn (fun i => V G M_Ring_centre (zdet none (zset w s (zro G 32 (zif (nn : Int) (fun j => zct (h j)) g))) sz) (zR 2 0 0 48) 0 0 sz 2 [(0, .ref r), (1, .ref s), (2, .ref a), (3, .int (Int32.ofInt (i : Int)))] [] (zset w s (zro G 32 (zif (i : Int) (fun j => zct (h j)) g)))) ?_ (fun i hi ih => ?_) 0 (Nat.zero_le nn)
  · skip
    refine V_iload_n d_Ring_centre_2 rfl ?_
    refine V_aload_n d_Ring_centre_3 rfl ?_
    refine V_getf d_Ring_centre_4 ff_Ring_27 ((zset_n hrs).trans hr) rfl ?_
    refine J_icmp_ge 25 d_Ring_centre_7 (by decide) (by omega) (by omega) (fun c_7 => ?_) (fun c_7 => absurd c_7 (by omega))
    exact V_return d_Ring_centre_25 rfl ⟨Nat.le_of_ble_eq_true rfl, Nat.le_of_ble_eq_true rfl⟩ ⟨rfl, rfl, rfl⟩
  · skip
    refine V_iload_n d_Ring_centre_2 rfl ?_
    refine V_aload_n d_Ring_centre_3 rfl ?_
    refine V_getf d_Ring_centre_4 ff_Ring_27 ((zset_n hrs).trans hr) rfl ?_
    refine J_icmp_ge 25 d_Ring_centre_7 (by decide) (by omega) (by omega) (fun c_7 => absurd c_7 (by omega)) (fun c_7 => ?_)
    refine V_aload_n d_Ring_centre_10 rfl ?_
    refine V_iload_n d_Ring_centre_11 rfl ?_
    refine V_aload_n d_Ring_centre_12 rfl ?_
    refine V_iload_n d_Ring_centre_13 rfl ?_
    refine J_laload d_Ring_centre_14 ((zset_n has).trans ha) (by omega) (by decide) ?_
    refine V_callS (n := 1) d_Ring_centre_15 g_Ring_66 rfl (c_centred G _ _ (h i) (hh i hi)) ⟨co_X_centred, by decide +kernel, Nat.le_of_ble_eq_true rfl⟩ ⟨Nat.le_of_ble_eq_true rfl, Nat.le_of_ble_eq_true rfl, Nat.le_of_ble_eq_true rfl, Nat.le_of_ble_eq_true rfl⟩ (Nat.le_of_ble_eq_true rfl) (fun r_15 w_15 s_15 q_15 => ?_) (fun _ _ _ q => False.elim q)
    obtain ⟨rfl, rfl, rfl⟩ := q_15
    refine J_lastore d_Ring_centre_18 zset_s (by omega) (by decide) ?_
    refine J_iinc d_Ring_centre_19 rfl (by decide) ?_
    refine V_goto 2 d_Ring_centre_22 (by decide) ?_
    exact V_w (by rw [zset_zset, zif_s (by omega) rfl]; rfl) ih

set_option maxRecDepth 100000 in
set_option maxHeartbeats 4000000 in
theorem c_copy (G : zG) (sz : Nat) (w : zW) (r pw : Nat) (kd n t zz : Int) (s a : Nat) (g h : Int → Int) (hr : w r = some (zobj cRing [.int (Int32.ofInt kd), .int (Int32.ofInt n), .int (Int32.ofInt t), .int (Int32.ofInt zz), .ref pw])) (hs : w s = some (zro G 32 g)) (ha : w a = some (zro G 32 h)) (hn : 0 ≤ n ∧ n ≤ 32) : zCt G M_Ring_copy (zR 1 0 0 26) [.ref r, .ref s, .ref a] sz w (zdet none (zset w s (zro G 32 (zif n h g))) sz) := by
  refine V_aload_n d_Ring_copy_0 rfl ?_
  refine V_iconst d_Ring_copy_1 ?_
  refine V_aload_n d_Ring_copy_2 rfl ?_
  refine V_iconst d_Ring_copy_3 ?_
  refine V_aload_n d_Ring_copy_4 rfl ?_
  refine V_getf d_Ring_copy_5 ff_Ring_27 hr rfl ?_
  refine J_copy d_Ring_copy_8 cp_Ring_60 cp_nat cp_st cp_ini ha hs ⟨by omega, by omega, by omega, by omega⟩ (Nat.le_of_ble_eq_true rfl) (Nat.le_of_ble_eq_true rfl) ?_
  exact V_return d_Ring_copy_11 rfl ⟨Nat.le_of_ble_eq_true rfl, Nat.le_of_ble_eq_true rfl⟩ ⟨rfl, rfl, rfl⟩

set_option maxRecDepth 100000 in
set_option maxHeartbeats 4000000 in
theorem c_substitute (G : zG) (sz : Nat) (w : zW) (r pw : Nat) (kd n t zz : Int) (s a nn : Nat) (gg : Int) (g h : Int → Int) (hr : w r = some (zobj cRing [.int (Int32.ofInt kd), .int (Int32.ofInt n), .int (Int32.ofInt t), .int (Int32.ofInt zz), .ref pw])) (hs : w s = some (zro G 32 g)) (ha : w a = some (zro G 32 h)) (has : a ≠ s) (hnn : n = (nn : Int)) (hn : nn ≤ 32) (hg : 0 ≤ gg ∧ gg ≤ 64) (hh : ∀ j : Nat, j < nn → -9223372036854775808 < h j ∧ h j < 9223372036854775808) : zCt G M_Ring_substitute (zR 1 0 0 25) [.ref r, .ref s, .ref a, .int (Int32.ofInt gg)] sz w (zdet none (zset w s (zro G 32 (zsb (nn : Int) gg h g nn))) sz) := by
  have hrs : r ≠ s := fun q => by rw [q, hs] at hr; cases hr
  subst hnn
  refine V_iconst d_Ring_substitute_0 ?_
  refine V_istore d_Ring_substitute_1 (by decide) ?_
  refine V_w (w' := zset w s (zro G 32 (zsb (nn : Int) gg h g 0))) (by rw [show zsb (nn : Int) gg h g 0 = g from rfl, zset_self hs]) ?_
  refine zfor nn (fun i => V G M_Ring_substitute (zdet none (zset w s (zro G 32 (zsb (nn : Int) gg h g nn))) sz) (zR 1 0 0 25) 0 0 sz 3 [(0, .ref r), (1, .ref s), (2, .ref a), (3, .int (Int32.ofInt gg)), (4, .int (Int32.ofInt (i : Int)))] [] (zset w s (zro G 32 (zsb (nn : Int) gg h g i)))) ?_ (fun i hi ih => ?_) 0 (Nat.zero_le nn)
  · skip
    refine V_iload d_Ring_substitute_3 rfl ?_
    refine V_aload_n d_Ring_substitute_5 rfl ?_
    refine V_getf d_Ring_substitute_6 ff_Ring_27 ((zset_n hrs).trans hr) rfl ?_
    refine J_icmp_ge 77 d_Ring_substitute_9 (by decide) (by omega) (by omega) (fun c_9 => ?_) (fun c_9 => absurd c_9 (by omega))
    exact V_return d_Ring_substitute_77 rfl ⟨Nat.le_of_ble_eq_true rfl, Nat.le_of_ble_eq_true rfl⟩ ⟨rfl, rfl, rfl⟩
  · have hm := zmulb (a := gg) (b := (i : Int)) (A := 64) (B := 32) (by omega) (by omega)
    have he : 0 ≤ gg * (i : Int) % (2 * (nn : Int)) ∧ gg * (i : Int) % (2 * (nn : Int)) < 2 * (nn : Int) := ⟨Int.emod_nonneg _ (by omega), Int.emod_lt_of_pos _ (by omega)⟩
    have hv := hh i hi
    refine V_iload d_Ring_substitute_3 rfl ?_
    refine V_aload_n d_Ring_substitute_5 rfl ?_
    refine V_getf d_Ring_substitute_6 ff_Ring_27 ((zset_n hrs).trans hr) rfl ?_
    refine J_icmp_ge 77 d_Ring_substitute_9 (by decide) (by omega) (by omega) (fun c_9 => absurd c_9 (by omega)) (fun c_9 => ?_)
    refine V_iload_n d_Ring_substitute_12 rfl ?_
    refine V_iload d_Ring_substitute_13 rfl ?_
    refine J_imul d_Ring_substitute_15 ?_
    refine V_iconst d_Ring_substitute_16 ?_
    refine V_aload_n d_Ring_substitute_17 rfl ?_
    refine V_getf d_Ring_substitute_18 ff_Ring_27 ((zset_n hrs).trans hr) rfl ?_
    refine J_imul d_Ring_substitute_21 ?_
    refine J_iremP d_Ring_substitute_22 (by omega) (by omega) ?_
    refine V_istore d_Ring_substitute_23 (by decide) ?_
    refine V_iload d_Ring_substitute_25 rfl ?_
    refine V_aload_n d_Ring_substitute_27 rfl ?_
    refine V_getf d_Ring_substitute_28 ff_Ring_27 ((zset_n hrs).trans hr) rfl ?_
    refine J_icmp_ge 51 d_Ring_substitute_31 (by decide) (by omega) (by omega) (fun c_31 => ?_) (fun c_31 => ?_)
    · skip
      refine V_aload_n d_Ring_substitute_51 rfl ?_
      refine V_iload d_Ring_substitute_52 rfl ?_
      refine V_aload_n d_Ring_substitute_54 rfl ?_
      refine V_getf d_Ring_substitute_55 ff_Ring_27 ((zset_n hrs).trans hr) rfl ?_
      refine J_isub d_Ring_substitute_58 ?_
      refine V_aload_n d_Ring_substitute_59 rfl ?_
      refine V_iload d_Ring_substitute_60 rfl ?_
      refine J_laload d_Ring_substitute_62 ((zset_n has).trans ha) (by omega) (by decide) ?_
      refine J_lneg d_Ring_substitute_63 ?_
      refine J_ldc2 d_Ring_substitute_64 k_Ring_47 ?_
      refine V_callS (n := 2) d_Ring_substitute_67 g_Ring_55 rfl (c_fmodJ G _ _ (-h i) 268435399 (by omega) (by decide)) ⟨co_Math_floorMod_JJ, by decide +kernel, Nat.le_of_ble_eq_true rfl⟩ ⟨Nat.le_of_ble_eq_true rfl, Nat.le_of_ble_eq_true rfl, Nat.le_of_ble_eq_true rfl, Nat.le_of_ble_eq_true rfl⟩ (Nat.le_of_ble_eq_true rfl) (fun r_67 w_67 s_67 q_67 => ?_) (fun _ _ _ q => False.elim q)
      obtain ⟨rfl, rfl, rfl⟩ := q_67
      refine J_lastore d_Ring_substitute_70 zset_s (by omega) (by decide) ?_
      refine J_iinc d_Ring_substitute_71 rfl (by decide) ?_
      refine V_goto 3 d_Ring_substitute_74 (by decide) ?_
      exact V_lo [0, 1, 2, 3, 4] rfl (V_w (by rw [zset_zset, show zsb (nn : Int) gg h g (i + 1) = zu (zsb (nn : Int) gg h g i) (zsp (nn : Int) gg i) (zsv (nn : Int) gg h i) from rfl]; unfold zsp zsv; rw [if_neg (by omega), if_neg (by omega)]) ih)
    · skip
      refine V_aload_n d_Ring_substitute_34 rfl ?_
      refine V_iload d_Ring_substitute_35 rfl ?_
      refine V_aload_n d_Ring_substitute_37 rfl ?_
      refine V_iload d_Ring_substitute_38 rfl ?_
      refine J_laload d_Ring_substitute_40 ((zset_n has).trans ha) (by omega) (by decide) ?_
      refine J_ldc2 d_Ring_substitute_41 k_Ring_47 ?_
      refine V_callS (n := 2) d_Ring_substitute_44 g_Ring_55 rfl (c_fmodJ G _ _ (h i) 268435399 (by omega) (by decide)) ⟨co_Math_floorMod_JJ, by decide +kernel, Nat.le_of_ble_eq_true rfl⟩ ⟨Nat.le_of_ble_eq_true rfl, Nat.le_of_ble_eq_true rfl, Nat.le_of_ble_eq_true rfl, Nat.le_of_ble_eq_true rfl⟩ (Nat.le_of_ble_eq_true rfl) (fun r_44 w_44 s_44 q_44 => ?_) (fun _ _ _ q => False.elim q)
      obtain ⟨rfl, rfl, rfl⟩ := q_44
      refine J_lastore d_Ring_substitute_47 zset_s (by omega) (by decide) ?_
      refine V_goto 71 d_Ring_substitute_48 (by decide) ?_
      refine J_iinc d_Ring_substitute_71 rfl (by decide) ?_
      refine V_goto 3 d_Ring_substitute_74 (by decide) ?_
      exact V_lo [0, 1, 2, 3, 4] rfl (V_w (by rw [zset_zset, show zsb (nn : Int) gg h g (i + 1) = zu (zsb (nn : Int) gg h g i) (zsp (nn : Int) gg i) (zsv (nn : Int) gg h i) from rfl]; unfold zsp zsv; rw [if_pos (by omega), if_pos (by omega)]) ih)

set_option maxRecDepth 100000 in
set_option maxHeartbeats 4000000 in
theorem c_evaluate (G : zG) (sz : Nat) (w : zW) (r pw : Nat) (kd n t zz : Int) (s a nn : Nat) (g : Int → Int) (h p : Int → Int) (hr : w r = some (zobj cRing [.int (Int32.ofInt kd), .int (Int32.ofInt n), .int (Int32.ofInt t), .int (Int32.ofInt zz), .ref pw])) (hs : w s = some (zro G 32 g)) (ha : w a = some (zro G 32 h)) (hpw : w pw = some (zro G 64 p)) (has : a ≠ s) (hps : pw ≠ s) (hnn : n = (nn : Int)) (hn : nn ≤ 32) (ht : 1 < t ∧ t ≤ 1000) (hh : ∀ j : Nat, j < nn → 0 ≤ h j ∧ h j ≤ 1000) (hp : ∀ j : Int, 0 ≤ j → j < 2 * nn → 0 ≤ p j ∧ p j ≤ 1000) : zCt G M_Ring_evaluate (zR 0 0 0 0) [.ref r, .ref s, .ref a] sz w (zdet none (zset w s (zro G 32 (zif (nn : Int) (fun (x : Int) => zes h p (fun j => (2 * x + 1) * (j : Int) % (2 * (nn : Int))) nn % t) g))) sz) := by
  have hrs : r ≠ s := fun q => by rw [q, hs] at hr; cases hr
  subst hnn
  refine V_iconst d_Ring_evaluate_0 ?_
  refine V_istore_n d_Ring_evaluate_1 (by decide) ?_
  refine V_w (w' := zset w s (zro G 32 (zif ((0 : Nat) : Int) (fun (x : Int) => zes h p (fun j => (2 * x + 1) * (j : Int) % (2 * (nn : Int))) nn % t) g))) (by rw [show ((0 : Nat) : Int) = 0 from rfl, zif_0, zset_self hs]) ?_
  refine zfor nn (fun i => V G M_Ring_evaluate (zdet none (zset w s (zro G 32 (zif (nn : Int) (fun (x : Int) => zes h p (fun j => (2 * x + 1) * (j : Int) % (2 * (nn : Int))) nn % t) g))) sz) (zR 0 0 0 0) 0 0 sz 2 [(0, .ref r), (1, .ref s), (2, .ref a), (3, .int (Int32.ofInt (i : Int)))] [] (zset w s (zro G 32 (zif (i : Int) (fun (x : Int) => zes h p (fun j => (2 * x + 1) * (j : Int) % (2 * (nn : Int))) nn % t) g)))) ?_ (fun i hi ih => ?_) 0 (Nat.zero_le nn)
  · skip
    refine V_iload_n d_Ring_evaluate_2 rfl ?_
    refine V_aload_n d_Ring_evaluate_3 rfl ?_
    refine V_getf d_Ring_evaluate_4 ff_Ring_27 ((zset_n hrs).trans hr) rfl ?_
    refine J_icmp_ge 78 d_Ring_evaluate_7 (by decide) (by omega) (by omega) (fun c_7 => ?_) (fun c_7 => absurd c_7 (by omega))
    exact V_return d_Ring_evaluate_78 rfl ⟨Nat.le_of_ble_eq_true rfl, Nat.le_of_ble_eq_true rfl⟩ ⟨rfl, rfl, rfl⟩
  · have hb := zes_b (f := h) (pw := p) (ix := fun j => (2 * (i : Int) + 1) * (j : Int) % (2 * (nn : Int))) hh (fun j hj => hp _ (Int.emod_nonneg _ (by omega)) (Int.emod_lt_of_pos _ (by omega)))
    refine V_iload_n d_Ring_evaluate_2 rfl ?_
    refine V_aload_n d_Ring_evaluate_3 rfl ?_
    refine V_getf d_Ring_evaluate_4 ff_Ring_27 ((zset_n hrs).trans hr) rfl ?_
    refine J_icmp_ge 78 d_Ring_evaluate_7 (by decide) (by omega) (by omega) (fun c_7 => absurd c_7 (by omega)) (fun c_7 => ?_)
    refine J_lconst (z := 0) d_Ring_evaluate_10 rfl ?_
    refine V_lstore d_Ring_evaluate_11 (by decide) ?_
    refine V_iconst d_Ring_evaluate_13 ?_
    refine V_istore d_Ring_evaluate_14 (by decide) ?_
    refine zfor nn (fun j => V G M_Ring_evaluate (zdet none (zset w s (zro G 32 (zif (nn : Int) (fun (x : Int) => zes h p (fun j => (2 * x + 1) * (j : Int) % (2 * (nn : Int))) nn % t) g))) sz) (zR 0 0 0 0) 0 0 sz 16 [(0, .ref r), (1, .ref s), (2, .ref a), (3, .int (Int32.ofInt (i : Int))), (4, .long (Int64.ofInt (zes h p (fun j => (2 * (i : Int) + 1) * (j : Int) % (2 * (nn : Int))) j))), (6, .int (Int32.ofInt (j : Int)))] [] (zset w s (zro G 32 (zif (i : Int) (fun (x : Int) => zes h p (fun j => (2 * x + 1) * (j : Int) % (2 * (nn : Int))) nn % t) g)))) ?_ (fun j hj ih2 => ?_) 0 (Nat.zero_le nn)
    · have hb1 := hb nn (Nat.le_refl nn)
      refine V_iload d_Ring_evaluate_16 rfl ?_
      refine V_aload_n d_Ring_evaluate_18 rfl ?_
      refine V_getf d_Ring_evaluate_19 ff_Ring_27 ((zset_n hrs).trans hr) rfl ?_
      refine J_icmp_ge 61 d_Ring_evaluate_22 (by decide) (by omega) (by omega) (fun c_22 => ?_) (fun c_22 => absurd c_22 (by omega))
      refine V_aload_n d_Ring_evaluate_61 rfl ?_
      refine V_iload_n d_Ring_evaluate_62 rfl ?_
      refine V_lload d_Ring_evaluate_63 rfl ?_
      refine V_aload_n d_Ring_evaluate_65 rfl ?_
      refine V_getf d_Ring_evaluate_66 ff_Ring_33 ((zset_n hrs).trans hr) rfl ?_
      refine J_i2l d_Ring_evaluate_69 (by omega) ?_
      refine J_lremP d_Ring_evaluate_70 (by omega) (by omega) ?_
      refine J_lastore d_Ring_evaluate_71 zset_s (by omega) (by decide) ?_
      refine J_iinc d_Ring_evaluate_72 rfl (by decide) ?_
      refine V_goto 2 d_Ring_evaluate_75 (by decide) ?_
      exact V_lo [0, 1, 2, 3] rfl (V_w (by rw [zset_zset, zif_s (by omega) rfl]; rfl) ih)
    · have hm := zmulb (a := 2 * (i : Int) + 1) (b := (j : Int)) (A := 65) (B := 32) (by omega) (by omega)
      have he : 0 ≤ (2 * (i : Int) + 1) * (j : Int) % (2 * (nn : Int)) ∧ (2 * (i : Int) + 1) * (j : Int) % (2 * (nn : Int)) < 2 * (nn : Int) := ⟨Int.emod_nonneg _ (by omega), Int.emod_lt_of_pos _ (by omega)⟩
      refine V_iload d_Ring_evaluate_16 rfl ?_
      refine V_aload_n d_Ring_evaluate_18 rfl ?_
      refine V_getf d_Ring_evaluate_19 ff_Ring_27 ((zset_n hrs).trans hr) rfl ?_
      refine J_icmp_ge 61 d_Ring_evaluate_22 (by decide) (by omega) (by omega) (fun c_22 => absurd c_22 (by omega)) (fun c_22 => ?_)
      refine V_lload d_Ring_evaluate_25 rfl ?_
      refine V_aload_n d_Ring_evaluate_27 rfl ?_
      refine V_iload d_Ring_evaluate_28 rfl ?_
      refine J_laload d_Ring_evaluate_30 ((zset_n has).trans ha) (by omega) (by decide) ?_
      refine V_aload_n d_Ring_evaluate_31 rfl ?_
      refine V_getf d_Ring_evaluate_32 ff_Ring_9 ((zset_n hrs).trans hr) rfl ?_
      refine V_iconst d_Ring_evaluate_35 ?_
      refine V_iload_n d_Ring_evaluate_36 rfl ?_
      refine J_imul d_Ring_evaluate_37 ?_
      refine V_iconst d_Ring_evaluate_38 ?_
      refine J_iadd d_Ring_evaluate_39 ?_
      refine V_iload d_Ring_evaluate_40 rfl ?_
      refine J_imul d_Ring_evaluate_42 ?_
      refine V_iconst d_Ring_evaluate_43 ?_
      refine V_aload_n d_Ring_evaluate_44 rfl ?_
      refine V_getf d_Ring_evaluate_45 ff_Ring_27 ((zset_n hrs).trans hr) rfl ?_
      refine J_imul d_Ring_evaluate_48 ?_
      refine J_iremP d_Ring_evaluate_49 (by omega) (by omega) ?_
      refine J_laload d_Ring_evaluate_50 ((zset_n hps).trans hpw) (by omega) (by decide) ?_
      refine J_lmul d_Ring_evaluate_51 ?_
      refine J_ladd d_Ring_evaluate_52 ?_
      refine V_lstore d_Ring_evaluate_53 (by decide) ?_
      refine J_iinc d_Ring_evaluate_55 rfl (by decide) ?_
      refine V_goto 16 d_Ring_evaluate_58 (by decide) ?_
      exact ih2

set_option maxRecDepth 100000 in
set_option maxHeartbeats 4000000 in
theorem c_interpolate (G : zG) (sz : Nat) (w : zW) (r pw : Nat) (kd n t zz : Int) (s a nn : Nat) (g : Int → Int) (h p : Int → Int) (hr : w r = some (zobj cRing [.int (Int32.ofInt kd), .int (Int32.ofInt n), .int (Int32.ofInt t), .int (Int32.ofInt zz), .ref pw])) (hs : w s = some (zro G 32 g)) (ha : w a = some (zro G 32 h)) (hpw : w pw = some (zro G 64 p)) (has : a ≠ s) (hps : pw ≠ s) (hnn : n = (nn : Int)) (hn : nn ≤ 32) (ht : 1 < t ∧ t ≤ 1000) (hh : ∀ j : Nat, j < nn → 0 ≤ h j ∧ h j ≤ 1000) (hp : ∀ j : Int, 0 ≤ j → j < 2 * nn → 0 ≤ p j ∧ p j ≤ 1000) : zCt G M_Ring_interpolate (zR 1 0 0 26) [.ref r, .ref s, .ref a] sz w (zdet none (zset w s (zro G 32 (zif (nn : Int) (fun (x : Int) => zes h p (fun j => (2 * (nn : Int) - 1) * (2 * (j : Int) + 1) * x % (2 * (nn : Int))) nn % t * zpm t nn (t - 2).toNat % t) g))) sz) := by
  have hrs : r ≠ s := fun q => by rw [q, hs] at hr; cases hr
  subst hnn
  have hiv := zpm_b (b := (nn : Int)) ht.1 (t - 2).toNat
  refine V_aload_n d_Ring_interpolate_0 rfl ?_
  refine V_aload_n d_Ring_interpolate_1 rfl ?_
  refine V_getf d_Ring_interpolate_2 ff_Ring_27 hr rfl ?_
  refine J_i2l d_Ring_interpolate_5 (by omega) ?_
  refine V_aload_n d_Ring_interpolate_6 rfl ?_
  refine V_getf d_Ring_interpolate_7 ff_Ring_33 hr rfl ?_
  refine V_iconst d_Ring_interpolate_10 ?_
  refine J_isub d_Ring_interpolate_11 ?_
  rw [show t - 2 = (((t - 2).toNat : Nat) : Int) by omega]
  refine V_callV (n := 2) d_Ring_interpolate_12 g_Ring_43 rfl hr rfl (c_powerModT G _ _ r pw kd nn t zz nn (t - 2).toNat hr ht (by omega) (by omega)) ⟨co_Ring_powerModT, by decide +kernel, Nat.le_of_ble_eq_true rfl⟩ ⟨Nat.le_of_ble_eq_true rfl, Nat.le_of_ble_eq_true rfl, Nat.le_of_ble_eq_true rfl, Nat.le_of_ble_eq_true rfl⟩ (Nat.le_of_ble_eq_true rfl) (fun r_12 w_12 s_12 q_12 => ?_) (fun _ _ _ q => False.elim q)
  obtain ⟨rfl, rfl, rfl⟩ := q_12
  refine V_lstore_n d_Ring_interpolate_15 (by decide) ?_
  refine V_iconst d_Ring_interpolate_16 ?_
  refine V_istore d_Ring_interpolate_17 (by decide) ?_
  refine V_w (w' := zset w s (zro G 32 (zif ((0 : Nat) : Int) (fun (x : Int) => zes h p (fun j => (2 * (nn : Int) - 1) * (2 * (j : Int) + 1) * x % (2 * (nn : Int))) nn % t * zpm t nn (t - 2).toNat % t) g))) (by rw [show ((0 : Nat) : Int) = 0 from rfl, zif_0, zset_self hs]) ?_
  refine zfor nn (fun i => V G M_Ring_interpolate (zdet none (zset w s (zro G 32 (zif (nn : Int) (fun (x : Int) => zes h p (fun j => (2 * (nn : Int) - 1) * (2 * (j : Int) + 1) * x % (2 * (nn : Int))) nn % t * zpm t nn (t - 2).toNat % t) g))) sz) (zR 1 0 0 26) 0 0 _ 19 [(0, .ref r), (1, .ref s), (2, .ref a), (3, .long (Int64.ofInt (zpm t nn (t - 2).toNat))), (5, .int (Int32.ofInt (i : Int)))] [] (zset w s (zro G 32 (zif (i : Int) (fun (x : Int) => zes h p (fun j => (2 * (nn : Int) - 1) * (2 * (j : Int) + 1) * x % (2 * (nn : Int))) nn % t * zpm t nn (t - 2).toNat % t) g)))) ?_ (fun i hi ih => ?_) 0 (Nat.zero_le nn)
  · skip
    refine V_iload d_Ring_interpolate_19 rfl ?_
    refine V_aload_n d_Ring_interpolate_21 rfl ?_
    refine V_getf d_Ring_interpolate_22 ff_Ring_27 ((zset_n hrs).trans hr) rfl ?_
    refine J_icmp_ge 115 d_Ring_interpolate_25 (by decide) (by omega) (by omega) (fun c_25 => ?_) (fun c_25 => absurd c_25 (by omega))
    exact V_return d_Ring_interpolate_115 rfl ⟨Nat.le_of_ble_eq_true rfl, Nat.le_of_ble_eq_true rfl⟩ ⟨rfl, rfl, rfl⟩
  · have hb := zes_b (f := h) (pw := p) (ix := (fun j => (2 * (nn : Int) - 1) * (2 * (j : Int) + 1) * (i : Int) % (2 * (nn : Int)))) hh (fun j hj => hp _ (Int.emod_nonneg _ (by omega)) (Int.emod_lt_of_pos _ (by omega)))
    refine V_iload d_Ring_interpolate_19 rfl ?_
    refine V_aload_n d_Ring_interpolate_21 rfl ?_
    refine V_getf d_Ring_interpolate_22 ff_Ring_27 ((zset_n hrs).trans hr) rfl ?_
    refine J_icmp_ge 115 d_Ring_interpolate_25 (by decide) (by omega) (by omega) (fun c_25 => absurd c_25 (by omega)) (fun c_25 => ?_)
    refine J_lconst (z := 0) d_Ring_interpolate_28 rfl ?_
    refine V_lstore d_Ring_interpolate_29 (by decide) ?_
    refine V_iconst d_Ring_interpolate_31 ?_
    refine V_istore d_Ring_interpolate_32 (by decide) ?_
    refine zfor nn (fun j => V G M_Ring_interpolate (zdet none (zset w s (zro G 32 (zif (nn : Int) (fun (x : Int) => zes h p (fun j => (2 * (nn : Int) - 1) * (2 * (j : Int) + 1) * x % (2 * (nn : Int))) nn % t * zpm t nn (t - 2).toNat % t) g))) sz) (zR 1 0 0 26) 0 0 _ 34 [(0, .ref r), (1, .ref s), (2, .ref a), (3, .long (Int64.ofInt (zpm t nn (t - 2).toNat))), (5, .int (Int32.ofInt (i : Int))), (6, .long (Int64.ofInt (zes h p (fun j => (2 * (nn : Int) - 1) * (2 * (j : Int) + 1) * (i : Int) % (2 * (nn : Int))) j))), (8, .int (Int32.ofInt (j : Int)))] [] (zset w s (zro G 32 (zif (i : Int) (fun (x : Int) => zes h p (fun j => (2 * (nn : Int) - 1) * (2 * (j : Int) + 1) * x % (2 * (nn : Int))) nn % t * zpm t nn (t - 2).toNat % t) g)))) ?_ (fun j hj ih2 => ?_) 0 (Nat.zero_le nn)
    · have hb1 := hb nn (Nat.le_refl nn)
      have hb2 : 0 ≤ zes h p (fun j => (2 * (nn : Int) - 1) * (2 * (j : Int) + 1) * (i : Int) % (2 * (nn : Int))) nn % t ∧ zes h p (fun j => (2 * (nn : Int) - 1) * (2 * (j : Int) + 1) * (i : Int) % (2 * (nn : Int))) nn % t < t := ⟨Int.emod_nonneg _ (by omega), Int.emod_lt_of_pos _ (by omega)⟩
      have hb3 := zmulb (a := zes h p (fun j => (2 * (nn : Int) - 1) * (2 * (j : Int) + 1) * (i : Int) % (2 * (nn : Int))) nn % t) (b := zpm t nn (t - 2).toNat) (A := 1000) (B := 1000) (by omega) (by omega)
      refine V_iload d_Ring_interpolate_34 rfl ?_
      refine V_aload_n d_Ring_interpolate_36 rfl ?_
      refine V_getf d_Ring_interpolate_37 ff_Ring_27 ((zset_n hrs).trans hr) rfl ?_
      refine J_icmp_ge 89 d_Ring_interpolate_40 (by decide) (by omega) (by omega) (fun c_40 => ?_) (fun c_40 => absurd c_40 (by omega))
      refine V_aload_n d_Ring_interpolate_89 rfl ?_
      refine V_iload d_Ring_interpolate_90 rfl ?_
      refine V_lload d_Ring_interpolate_92 rfl ?_
      refine V_aload_n d_Ring_interpolate_94 rfl ?_
      refine V_getf d_Ring_interpolate_95 ff_Ring_33 ((zset_n hrs).trans hr) rfl ?_
      refine J_i2l d_Ring_interpolate_98 (by omega) ?_
      refine J_lremP d_Ring_interpolate_99 (by omega) (by omega) ?_
      refine V_lload_n d_Ring_interpolate_100 rfl ?_
      refine J_lmul d_Ring_interpolate_101 ?_
      refine V_aload_n d_Ring_interpolate_102 rfl ?_
      refine V_getf d_Ring_interpolate_103 ff_Ring_33 ((zset_n hrs).trans hr) rfl ?_
      refine J_i2l d_Ring_interpolate_106 (by omega) ?_
      refine J_lremP d_Ring_interpolate_107 (by omega) (by omega) ?_
      refine J_lastore d_Ring_interpolate_108 zset_s (by omega) (by decide) ?_
      refine J_iinc d_Ring_interpolate_109 rfl (by decide) ?_
      refine V_goto 19 d_Ring_interpolate_112 (by decide) ?_
      exact V_lo [0, 1, 2, 3, 5] rfl (V_w (by rw [zset_zset, zif_s (by omega) rfl]; rfl) ih)
    · have hm0 := zmulb (a := 2 * (nn : Int) - 1) (b := 2 * (j : Int) + 1) (A := 63) (B := 65) (by omega) (by omega)
      have hm := zmulb (a := (2 * (nn : Int) - 1) * (2 * (j : Int) + 1)) (b := (i : Int)) (A := 4095) (B := 32) (by omega) (by omega)
      have he : 0 ≤ (2 * (nn : Int) - 1) * (2 * (j : Int) + 1) * (i : Int) % (2 * (nn : Int)) ∧ (2 * (nn : Int) - 1) * (2 * (j : Int) + 1) * (i : Int) % (2 * (nn : Int)) < 2 * (nn : Int) := ⟨Int.emod_nonneg _ (by omega), Int.emod_lt_of_pos _ (by omega)⟩
      refine V_iload d_Ring_interpolate_34 rfl ?_
      refine V_aload_n d_Ring_interpolate_36 rfl ?_
      refine V_getf d_Ring_interpolate_37 ff_Ring_27 ((zset_n hrs).trans hr) rfl ?_
      refine J_icmp_ge 89 d_Ring_interpolate_40 (by decide) (by omega) (by omega) (fun c_40 => absurd c_40 (by omega)) (fun c_40 => ?_)
      refine V_lload d_Ring_interpolate_43 rfl ?_
      refine V_aload_n d_Ring_interpolate_45 rfl ?_
      refine V_iload d_Ring_interpolate_46 rfl ?_
      refine J_laload d_Ring_interpolate_48 ((zset_n has).trans ha) (by omega) (by decide) ?_
      refine V_aload_n d_Ring_interpolate_49 rfl ?_
      refine V_getf d_Ring_interpolate_50 ff_Ring_9 ((zset_n hrs).trans hr) rfl ?_
      refine V_iconst d_Ring_interpolate_53 ?_
      refine V_aload_n d_Ring_interpolate_54 rfl ?_
      refine V_getf d_Ring_interpolate_55 ff_Ring_27 ((zset_n hrs).trans hr) rfl ?_
      refine J_imul d_Ring_interpolate_58 ?_
      refine V_iconst d_Ring_interpolate_59 ?_
      refine J_isub d_Ring_interpolate_60 ?_
      refine V_iconst d_Ring_interpolate_61 ?_
      refine V_iload d_Ring_interpolate_62 rfl ?_
      refine J_imul d_Ring_interpolate_64 ?_
      refine V_iconst d_Ring_interpolate_65 ?_
      refine J_iadd d_Ring_interpolate_66 ?_
      refine J_imul d_Ring_interpolate_67 ?_
      refine V_iload d_Ring_interpolate_68 rfl ?_
      refine J_imul d_Ring_interpolate_70 ?_
      refine V_iconst d_Ring_interpolate_71 ?_
      refine V_aload_n d_Ring_interpolate_72 rfl ?_
      refine V_getf d_Ring_interpolate_73 ff_Ring_27 ((zset_n hrs).trans hr) rfl ?_
      refine J_imul d_Ring_interpolate_76 ?_
      refine J_iremP d_Ring_interpolate_77 (by omega) (by omega) ?_
      refine J_laload d_Ring_interpolate_78 ((zset_n hps).trans hpw) (by omega) (by decide) ?_
      refine J_lmul d_Ring_interpolate_79 ?_
      refine J_ladd d_Ring_interpolate_80 ?_
      refine V_lstore d_Ring_interpolate_81 (by decide) ?_
      refine J_iinc d_Ring_interpolate_83 rfl (by decide) ?_
      refine V_goto 34 d_Ring_interpolate_86 (by decide) ?_
      exact ih2

