set_option maxRecDepth 100000 in
set_option maxHeartbeats 4000000 in
theorem c_fmodJ (G : zG) (sz : Nat) (w : zW) (a b : Int) (ha : -9223372036854775808 ≤ a ∧ a < 9223372036854775808) (hb : 0 < b ∧ b < 9223372036854775808) : zCt G M_Math_floorMod_JJ (zR 0 0 0 0) [.long (Int64.ofInt a), .long (Int64.ofInt b)] sz w (zdet (some (.long (Int64.ofInt (a % b)))) w sz) := by
  have hm := ztmod_b (a := a) hb.1
  have hz := zfm (a := a) hb.1
  obtain ⟨x, hx, hxr, hxn⟩ := zxor64 ha hb
  refine V_lload_n d_Math_floorMod_JJ_0 rfl ?_
  refine V_lload_n d_Math_floorMod_JJ_1 rfl ?_
  refine J_lrem d_Math_floorMod_JJ_2 (by omega) (by omega) ?_
  refine V_lstore d_Math_floorMod_JJ_3 (by decide) ?_
  refine V_lload_n d_Math_floorMod_JJ_5 rfl ?_
  refine V_lload_n d_Math_floorMod_JJ_6 rfl ?_
  refine V_lxor d_Math_floorMod_JJ_7 ?_
  rw [hx]
  refine J_lconst (z := 0) d_Math_floorMod_JJ_8 rfl ?_
  refine JL_ge 25 d_Math_floorMod_JJ_9 d_Math_floorMod_JJ_10 (by decide) (by omega) (by omega) (fun c_9 => ?_) (fun c_9 => ?_)
  · skip
    refine V_lload d_Math_floorMod_JJ_25 rfl ?_
    exact V_lreturn d_Math_floorMod_JJ_27 rfl ⟨Nat.le_of_ble_eq_true rfl, Nat.le_of_ble_eq_true rfl⟩ ⟨by rw [hz, if_pos (by omega), Int.add_zero], rfl, rfl⟩
  · skip
    refine V_lload d_Math_floorMod_JJ_13 rfl ?_
    refine J_lconst (z := 0) d_Math_floorMod_JJ_15 rfl ?_
    refine JL_eq 25 d_Math_floorMod_JJ_16 d_Math_floorMod_JJ_17 (by decide) (by omega) (by omega) (fun c_16 => ?_) (fun c_16 => ?_)
    · skip
      refine V_lload d_Math_floorMod_JJ_25 rfl ?_
      exact V_lreturn d_Math_floorMod_JJ_27 rfl ⟨Nat.le_of_ble_eq_true rfl, Nat.le_of_ble_eq_true rfl⟩ ⟨by rw [hz, if_pos (by omega), Int.add_zero], rfl, rfl⟩
    · skip
      refine V_lload d_Math_floorMod_JJ_20 rfl ?_
      refine V_lload_n d_Math_floorMod_JJ_22 rfl ?_
      refine J_ladd d_Math_floorMod_JJ_23 ?_
      exact V_lreturn d_Math_floorMod_JJ_24 rfl ⟨Nat.le_of_ble_eq_true rfl, Nat.le_of_ble_eq_true rfl⟩ ⟨by rw [hz, if_neg (by omega)], rfl, rfl⟩

set_option maxRecDepth 100000 in
set_option maxHeartbeats 4000000 in
theorem c_fdivJ (G : zG) (sz : Nat) (w : zW) (a b : Int) (ha : -9223372036854775808 < a ∧ a < 9223372036854775808) (hb : 0 < b ∧ b < 9223372036854775808) : zCt G M_Math_floorDiv (zR 0 0 0 0) [.long (Int64.ofInt a), .long (Int64.ofInt b)] sz w (zdet (some (.long (Int64.ofInt (a / b)))) w sz) := by
  have hm := ztmod_b (a := a) hb.1
  have hq := ztd_b (a := a) hb.1 (by omega)
  have ht := Int.tmod_add_mul_tdiv a b
  rw [Int.mul_comm b] at ht
  have hz := zfd (a := a) hb.1
  have hnp : a ≤ 0 → a.tmod b ≤ 0 := ztm_np b
  obtain ⟨x, hx, hxr, hxn⟩ := zxor64 (a := a) (by omega) hb
  refine V_lload_n d_Math_floorDiv_0 rfl ?_
  refine V_lload_n d_Math_floorDiv_1 rfl ?_
  refine J_ldiv d_Math_floorDiv_2 (by omega) (by omega) ?_
  refine V_lstore d_Math_floorDiv_3 (by decide) ?_
  refine V_lload_n d_Math_floorDiv_5 rfl ?_
  refine V_lload_n d_Math_floorDiv_6 rfl ?_
  refine V_lxor d_Math_floorDiv_7 ?_
  rw [hx]
  refine J_lconst (z := 0) d_Math_floorDiv_8 rfl ?_
  refine JL_ge 27 d_Math_floorDiv_9 d_Math_floorDiv_10 (by decide) (by omega) (by omega) (fun c_9 => ?_) (fun c_9 => ?_)
  · skip
    refine V_lload d_Math_floorDiv_27 rfl ?_
    exact V_lreturn d_Math_floorDiv_29 rfl ⟨Nat.le_of_ble_eq_true rfl, Nat.le_of_ble_eq_true rfl⟩ ⟨by rw [hz, if_pos (by omega), Int.sub_zero], rfl, rfl⟩
  · skip
    refine V_lload d_Math_floorDiv_13 rfl ?_
    refine V_lload_n d_Math_floorDiv_15 rfl ?_
    refine J_lmul d_Math_floorDiv_16 ?_
    refine V_lload_n d_Math_floorDiv_17 rfl ?_
    refine JL_eq 27 d_Math_floorDiv_18 d_Math_floorDiv_19 (by decide) (by omega) (by omega) (fun c_18 => ?_) (fun c_18 => ?_)
    · skip
      refine V_lload d_Math_floorDiv_27 rfl ?_
      exact V_lreturn d_Math_floorDiv_29 rfl ⟨Nat.le_of_ble_eq_true rfl, Nat.le_of_ble_eq_true rfl⟩ ⟨by rw [hz, if_pos (by omega), Int.sub_zero], rfl, rfl⟩
    · skip
      refine V_lload d_Math_floorDiv_22 rfl ?_
      refine J_lconst (z := 1) d_Math_floorDiv_24 rfl ?_
      refine J_lsub d_Math_floorDiv_25 ?_
      exact V_lreturn d_Math_floorDiv_26 rfl ⟨Nat.le_of_ble_eq_true rfl, Nat.le_of_ble_eq_true rfl⟩ ⟨by rw [hz, if_neg (by omega)], rfl, rfl⟩

set_option maxRecDepth 100000 in
set_option maxHeartbeats 4000000 in
theorem c_fmodI (G : zG) (sz : Nat) (w : zW) (a b : Int) (ha : -2147483648 ≤ a ∧ a < 2147483648) (hb : 0 < b ∧ b < 2147483648) : zCt G M_Math_floorMod_II (zR 0 0 0 0) [.int (Int32.ofInt a), .int (Int32.ofInt b)] sz w (zdet (some (.int (Int32.ofInt (a % b)))) w sz) := by
  have hm := ztmod_b (a := a) hb.1
  have hz := zfm (a := a) hb.1
  obtain ⟨x, hx, hxr, hxn⟩ := zxor32 ha hb
  refine V_iload_n d_Math_floorMod_II_0 rfl ?_
  refine V_iload_n d_Math_floorMod_II_1 rfl ?_
  refine J_irem d_Math_floorMod_II_2 (by omega) (by omega) ?_
  refine V_istore_n d_Math_floorMod_II_3 (by decide) ?_
  refine V_iload_n d_Math_floorMod_II_4 rfl ?_
  refine V_iload_n d_Math_floorMod_II_5 rfl ?_
  refine V_ixor d_Math_floorMod_II_6 ?_
  rw [hx]
  refine J_if_ge 18 d_Math_floorMod_II_7 (by decide) (by omega) (fun c_7 => ?_) (fun c_7 => ?_)
  · skip
    refine V_iload_n d_Math_floorMod_II_18 rfl ?_
    exact V_ireturn d_Math_floorMod_II_19 rfl ⟨Nat.le_of_ble_eq_true rfl, Nat.le_of_ble_eq_true rfl⟩ ⟨by rw [hz, if_pos (by omega), Int.add_zero], rfl, rfl⟩
  · skip
    refine V_iload_n d_Math_floorMod_II_10 rfl ?_
    refine J_if_eq 18 d_Math_floorMod_II_11 (by decide) (by omega) (fun c_11 => ?_) (fun c_11 => ?_)
    · skip
      refine V_iload_n d_Math_floorMod_II_18 rfl ?_
      exact V_ireturn d_Math_floorMod_II_19 rfl ⟨Nat.le_of_ble_eq_true rfl, Nat.le_of_ble_eq_true rfl⟩ ⟨by rw [hz, if_pos (by omega), Int.add_zero], rfl, rfl⟩
    · skip
      refine V_iload_n d_Math_floorMod_II_14 rfl ?_
      refine V_iload_n d_Math_floorMod_II_15 rfl ?_
      refine J_iadd d_Math_floorMod_II_16 ?_
      exact V_ireturn d_Math_floorMod_II_17 rfl ⟨Nat.le_of_ble_eq_true rfl, Nat.le_of_ble_eq_true rfl⟩ ⟨by rw [hz, if_neg (by omega)], rfl, rfl⟩

set_option maxRecDepth 100000 in
set_option maxHeartbeats 4000000 in
theorem c_maxI (G : zG) (sz : Nat) (w : zW) (a b : Int) (ha : -2147483648 ≤ a ∧ a < 2147483648) (hb : -2147483648 ≤ b ∧ b < 2147483648) : zCt G M_Math_max_II (zR 0 0 0 0) [.int (Int32.ofInt a), .int (Int32.ofInt b)] sz w (zdet (some (.int (Int32.ofInt (if a < b then b else a)))) w sz) := by
  refine V_iload_n d_Math_max_II_0 rfl ?_
  refine V_iload_n d_Math_max_II_1 rfl ?_
  refine J_icmp_lt 9 d_Math_max_II_2 (by decide) (by omega) (by omega) (fun c_2 => ?_) (fun c_2 => ?_)
  · skip
    refine V_iload_n d_Math_max_II_9 rfl ?_
    exact V_ireturn d_Math_max_II_10 rfl ⟨Nat.le_of_ble_eq_true rfl, Nat.le_of_ble_eq_true rfl⟩ ⟨by (first | rw [if_pos (by omega)] | rw [if_neg (by omega)]), rfl, rfl⟩
  · skip
    refine V_iload_n d_Math_max_II_5 rfl ?_
    refine V_goto 10 d_Math_max_II_6 (by decide) ?_
    exact V_ireturn d_Math_max_II_10 rfl ⟨Nat.le_of_ble_eq_true rfl, Nat.le_of_ble_eq_true rfl⟩ ⟨by (first | rw [if_pos (by omega)] | rw [if_neg (by omega)]), rfl, rfl⟩

set_option maxRecDepth 100000 in
set_option maxHeartbeats 4000000 in
theorem c_maxJ (G : zG) (sz : Nat) (w : zW) (a b : Int) (ha : -9223372036854775808 ≤ a ∧ a < 9223372036854775808) (hb : -9223372036854775808 ≤ b ∧ b < 9223372036854775808) : zCt G M_Math_max_JJ (zR 0 0 0 0) [.long (Int64.ofInt a), .long (Int64.ofInt b)] sz w (zdet (some (.long (Int64.ofInt (if a < b then b else a)))) w sz) := by
  refine V_lload_n d_Math_max_JJ_0 rfl ?_
  refine V_lload_n d_Math_max_JJ_1 rfl ?_
  refine JL_lt 10 d_Math_max_JJ_2 d_Math_max_JJ_3 (by decide) (by omega) (by omega) (fun c_2 => ?_) (fun c_2 => ?_)
  · skip
    refine V_lload_n d_Math_max_JJ_10 rfl ?_
    exact V_lreturn d_Math_max_JJ_11 rfl ⟨Nat.le_of_ble_eq_true rfl, Nat.le_of_ble_eq_true rfl⟩ ⟨by (first | rw [if_pos (by omega)] | rw [if_neg (by omega)]), rfl, rfl⟩
  · skip
    refine V_lload_n d_Math_max_JJ_6 rfl ?_
    refine V_goto 11 d_Math_max_JJ_7 (by decide) ?_
    exact V_lreturn d_Math_max_JJ_11 rfl ⟨Nat.le_of_ble_eq_true rfl, Nat.le_of_ble_eq_true rfl⟩ ⟨by (first | rw [if_pos (by omega)] | rw [if_neg (by omega)]), rfl, rfl⟩

set_option maxRecDepth 100000 in
set_option maxHeartbeats 4000000 in
theorem c_absJ (G : zG) (sz : Nat) (w : zW) (a : Int) (ha : -9223372036854775808 ≤ a ∧ a < 9223372036854775808) : zCt G M_Math_abs (zR 0 0 0 0) [.long (Int64.ofInt a)] sz w (zdet (some (.long (Int64.ofInt (if a < 0 then -a else a)))) w sz) := by
  refine V_lload_n d_Math_abs_0 rfl ?_
  refine J_lconst (z := 0) d_Math_abs_1 rfl ?_
  refine JL_ge 11 d_Math_abs_2 d_Math_abs_3 (by decide) (by omega) (by omega) (fun c_2 => ?_) (fun c_2 => ?_)
  · skip
    refine V_lload_n d_Math_abs_11 rfl ?_
    exact V_lreturn d_Math_abs_12 rfl ⟨Nat.le_of_ble_eq_true rfl, Nat.le_of_ble_eq_true rfl⟩ ⟨by (first | rw [if_pos (by omega)] | rw [if_neg (by omega)]), rfl, rfl⟩
  · skip
    refine V_lload_n d_Math_abs_6 rfl ?_
    refine J_lneg d_Math_abs_7 ?_
    refine V_goto 12 d_Math_abs_8 (by decide) ?_
    exact V_lreturn d_Math_abs_12 rfl ⟨Nat.le_of_ble_eq_true rfl, Nat.le_of_ble_eq_true rfl⟩ ⟨by (first | rw [if_pos (by omega)] | rw [if_neg (by omega)]), rfl, rfl⟩

set_option maxRecDepth 100000 in
set_option maxHeartbeats 4000000 in
theorem c_fill (G : zG) (sz : Nat) (w : zW) (s n : Nat) (v : Int) (g : Int → Int) (hs : w s = some (zro G n g)) (hn : n < 2147483648) : zCt G M_Arrays_fill (zR 0 0 0 0) [.ref s, .long (Int64.ofInt v)] sz w (zdet none (zset w s (zro G n (zif n (fun _ => v) g))) sz) := by
  have hnn : Int32.ofNat n = Int32.ofInt (n : Int) := Int32.ofInt_eq_ofNat.symm
  refine V_iconst d_Arrays_fill_0 ?_
  refine V_istore_n d_Arrays_fill_1 (by decide) ?_
  refine V_aload_n d_Arrays_fill_2 rfl ?_
  refine V_alen d_Arrays_fill_3 hs rfl ?_
  show V G _ _ _ _ _ _ _ _ (.int (Int32.ofNat n) :: []) _
  rw [hnn]
  refine V_istore d_Arrays_fill_4 (by decide) ?_
  refine V_w (w' := zset w s (zro G n (zif ((0 : Nat) : Int) (fun _ => v) g))) (by rw [show ((0 : Nat) : Int) = 0 from rfl, zif_0, zset_self hs]) ?_
  refine zfor n (fun i => V G M_Arrays_fill (zdet none (zset w s (zro G n (zif n (fun _ => v) g))) sz) (zR 0 0 0 0) 0 0 sz 6 [(0, .ref s), (1, .long (Int64.ofInt v)), (3, .int (Int32.ofInt (i : Int))), (4, .int (Int32.ofInt (n : Int)))] [] (zset w s (zro G n (zif (i : Int) (fun _ => v) g)))) ?_ (fun i hi ih => ?_) 0 (Nat.zero_le n)
  · skip
    refine V_iload_n d_Arrays_fill_6 rfl ?_
    refine V_iload d_Arrays_fill_7 rfl ?_
    refine J_icmp_ge 22 d_Arrays_fill_9 (by decide) (by omega) (by omega) (fun c_9 => ?_) (fun c_9 => absurd c_9 (by omega))
    exact V_return d_Arrays_fill_22 rfl ⟨Nat.le_of_ble_eq_true rfl, Nat.le_of_ble_eq_true rfl⟩ ⟨rfl, rfl, rfl⟩
  · skip
    refine V_iload_n d_Arrays_fill_6 rfl ?_
    refine V_iload d_Arrays_fill_7 rfl ?_
    refine J_icmp_ge 22 d_Arrays_fill_9 (by decide) (by omega) (by omega) (fun c_9 => absurd c_9 (by omega)) (fun c_9 => ?_)
    refine V_aload_n d_Arrays_fill_12 rfl ?_
    refine V_iload_n d_Arrays_fill_13 rfl ?_
    refine V_lload_n d_Arrays_fill_14 rfl ?_
    refine J_lastore d_Arrays_fill_15 zset_s (by omega) hn ?_
    refine J_iinc d_Arrays_fill_16 rfl (by decide) ?_
    refine V_goto 6 d_Arrays_fill_19 (by decide) ?_
    exact V_w (by rw [zset_zset, zif_s (by omega) rfl]; rfl) ih

