set_option maxRecDepth 100000 in
set_option maxHeartbeats 4000000 in
theorem c_leastRoot (G : zG) (sz : Nat) (w : zW) (r pw : Nat) (kd n t zz : Int) (nn : Nat) (h : w r = some (zobj cRing [.int (Int32.ofInt kd), .int (Int32.ofInt n), .int (Int32.ofInt t), .int (Int32.ofInt zz), .ref pw])) (hnn : n = (nn : Int)) (hn : nn ≤ 32) (ht : 1 < t ∧ t ≤ 1000) (ht2 : 2 ≤ t) : zCt G M_Ring_leastRoot (zR 1 0 0 26) [.ref r] sz w (zdet (some (.int (Int32.ofInt (zlr t nn 1000 2)))) w sz) := by
  subst hnn
  have key : ∀ (f : Nat) (c : Int), 2 ≤ c → c ≤ t → t - c ≤ f → zlr t nn 1000 2 = zlr t nn f c → V G M_Ring_leastRoot (zdet (some (.int (Int32.ofInt (zlr t nn 1000 2)))) w sz) (zR 1 0 0 26) 0 0 sz 2 [(0, .ref r), (1, .int (Int32.ofInt c))] [] w := by
    intro f
    induction f with
    | zero =>
      intro c h2 h3 h4 h5
      refine V_iload_n d_Ring_leastRoot_2 rfl ?_
      refine V_aload_n d_Ring_leastRoot_3 rfl ?_
      refine V_getf d_Ring_leastRoot_4 ff_Ring_33 h rfl ?_
      refine J_icmp_ge 37 d_Ring_leastRoot_7 (by decide) (by omega) (by omega) (fun c_7 => ?_) (fun c_7 => absurd c_7 (by omega))
      refine V_iload_n d_Ring_leastRoot_37 rfl ?_
      exact V_ireturn d_Ring_leastRoot_38 rfl ⟨Nat.le_of_ble_eq_true rfl, Nat.le_of_ble_eq_true rfl⟩ ⟨by rw [h5]; rfl, rfl, rfl⟩
    | succ f ih =>
      intro c h2 h3 h4 h5
      have hp := zpm_b (b := c) ht.1 nn
      refine V_iload_n d_Ring_leastRoot_2 rfl ?_
      refine V_aload_n d_Ring_leastRoot_3 rfl ?_
      refine V_getf d_Ring_leastRoot_4 ff_Ring_33 h rfl ?_
      refine J_icmp_ge 37 d_Ring_leastRoot_7 (by decide) (by omega) (by omega) (fun c_7 => ?_) (fun c_7 => ?_)
      · skip
        refine V_iload_n d_Ring_leastRoot_37 rfl ?_
        exact V_ireturn d_Ring_leastRoot_38 rfl ⟨Nat.le_of_ble_eq_true rfl, Nat.le_of_ble_eq_true rfl⟩ ⟨by rw [h5]; unfold zlr; rw [if_neg (by omega)], rfl, rfl⟩
      · skip
        refine V_aload_n d_Ring_leastRoot_10 rfl ?_
        refine V_iload_n d_Ring_leastRoot_11 rfl ?_
        refine J_i2l d_Ring_leastRoot_12 (by omega) ?_
        refine V_aload_n d_Ring_leastRoot_13 rfl ?_
        refine V_getf d_Ring_leastRoot_14 ff_Ring_27 h rfl ?_
        refine V_callV (n := 2) d_Ring_leastRoot_17 g_Ring_43 rfl h rfl (c_powerModT G _ _ r pw kd nn t zz c nn h ht (by omega) (by omega)) ⟨co_Ring_powerModT, by decide +kernel, Nat.le_of_ble_eq_true rfl⟩ ⟨Nat.le_of_ble_eq_true rfl, Nat.le_of_ble_eq_true rfl, Nat.le_of_ble_eq_true rfl, Nat.le_of_ble_eq_true rfl⟩ (Nat.le_of_ble_eq_true rfl) (fun r_17 w_17 s_17 q_17 => ?_) (fun _ _ _ q => False.elim q)
        obtain ⟨rfl, rfl, rfl⟩ := q_17
        refine V_aload_n d_Ring_leastRoot_20 rfl ?_
        refine V_getf d_Ring_leastRoot_21 ff_Ring_33 h rfl ?_
        refine V_iconst d_Ring_leastRoot_24 ?_
        refine J_isub d_Ring_leastRoot_25 ?_
        refine J_i2l d_Ring_leastRoot_26 (by omega) ?_
        refine JL_eq 37 d_Ring_leastRoot_27 d_Ring_leastRoot_28 (by decide) (by omega) (by omega) (fun c_27 => ?_) (fun c_27 => ?_)
        · skip
          refine V_iload_n d_Ring_leastRoot_37 rfl ?_
          exact V_ireturn d_Ring_leastRoot_38 rfl ⟨Nat.le_of_ble_eq_true rfl, Nat.le_of_ble_eq_true rfl⟩ ⟨by rw [h5]; unfold zlr; rw [if_neg (fun q => q.2 c_27)], rfl, rfl⟩
        · skip
          refine J_iinc d_Ring_leastRoot_31 rfl (by decide) ?_
          refine V_goto 2 d_Ring_leastRoot_34 (by decide) ?_
          exact ih (c + 1) (by omega) (by omega) (by omega) (by rw [h5]; conv => { lhs; unfold zlr }; rw [if_pos ⟨c_7, c_27⟩])
  refine V_iconst d_Ring_leastRoot_0 ?_
  refine V_istore_n d_Ring_leastRoot_1 (by decide) ?_
  exact key 1000 2 (by omega) (by omega) (by omega) rfl

set_option maxRecDepth 100000 in
set_option maxHeartbeats 4000000 in
theorem c_choose (G : zG) (sz : Nat) (w : zW) (r pw : Nat) (kd n t zz : Int) (kk : Int) (p : Int → Int) (h : w r = some (zobj cRing [.int (Int32.ofInt kd), .int (Int32.ofInt n), .int (Int32.ofInt t), .int (Int32.ofInt zz), .ref pw])) (hp : w pw = some (zro G 64 p)) (hk : 0 ≤ kk ∧ kk ≤ 2) : zCt G M_Ring_choose (zR 2 0 0 47) [.ref r, .int (Int32.ofInt kk)] sz w (zdet none (zset (zset w r (zobj cRing [.int (Int32.ofInt kk), .int (Int32.ofInt (zszI kk)), .int (Int32.ofInt (zmoI kk)), .int (Int32.ofInt (zlr (zmoI kk) (zszI kk).toNat 1000 2)), .ref pw])) pw (zro G 64 (zif (2 * zszI kk) (fun j => zpm (zmoI kk) (zlr (zmoI kk) (zszI kk).toNat 1000 2) j.toNat) p))) sz) := by
  have hrp : r ≠ pw := fun q => by rw [q, hp] at h; cases h
  have hz := zki hk
  have hzr := zlr_b hk
  obtain ⟨nn, hnn⟩ : ∃ nn : Nat, zszI kk = (nn : Int) := ⟨(zszI kk).toNat, by omega⟩
  refine V_aload_n d_Ring_choose_0 rfl ?_
  refine V_iload_n d_Ring_choose_1 rfl ?_
  refine V_putf d_Ring_choose_2 ff_Ring_19 h ⟨_, _, _, _, rfl, rfl, rfl, rfl, rfl⟩ (Nat.le_of_ble_eq_true rfl) ?_
  refine V_aload_n d_Ring_choose_5 rfl ?_
  refine V_getSz d_Ring_choose_6 gs_Ring_23 ?_
  refine V_iload_n d_Ring_choose_9 rfl ?_
  refine V_ldSz d_Ring_choose_10 (z32_in (by omega) (by decide)) (zSz_of hk) ?_
  refine V_putf d_Ring_choose_11 ff_Ring_27 zset_s ⟨_, _, _, _, rfl, rfl, rfl, rfl, rfl⟩ (Nat.le_of_ble_eq_true rfl) ?_
  refine V_w zset_zset ?_
  refine V_aload_n d_Ring_choose_14 rfl ?_
  refine V_getMo d_Ring_choose_15 gs_Ring_30 ?_
  refine V_iload_n d_Ring_choose_18 rfl ?_
  refine V_ldMo d_Ring_choose_19 (z32_in (by omega) (by decide)) (zMo_of hk) ?_
  refine V_putf d_Ring_choose_20 ff_Ring_33 zset_s ⟨_, _, _, _, rfl, rfl, rfl, rfl, rfl⟩ (Nat.le_of_ble_eq_true rfl) ?_
  refine V_w zset_zset ?_
  refine V_w (w' := zset w r (zobj cRing [.int (Int32.ofInt kk), .int (Int32.ofInt (zszI kk)), .int (Int32.ofInt (zmoI kk)), .int (Int32.ofInt zz), .ref pw])) rfl ?_
  refine V_aload_n d_Ring_choose_23 rfl ?_
  refine V_aload_n d_Ring_choose_24 rfl ?_
  refine V_callV (n := 0) d_Ring_choose_25 g_Ring_36 rfl zset_s rfl (c_leastRoot G _ _ r pw kk (zszI kk) (zmoI kk) zz (zszI kk).toNat zset_s (by omega) (by omega) (by omega) (by omega)) ⟨co_Ring_leastRoot, by decide +kernel, Nat.le_of_ble_eq_true rfl⟩ ⟨Nat.le_of_ble_eq_true rfl, Nat.le_of_ble_eq_true rfl, Nat.le_of_ble_eq_true rfl, Nat.le_of_ble_eq_true rfl⟩ (Nat.le_of_ble_eq_true rfl) (fun r_25 w_25 s_25 q_25 => ?_) (fun _ _ _ q => False.elim q)
  obtain ⟨rfl, rfl, rfl⟩ := q_25
  refine V_putf d_Ring_choose_28 ff_Ring_40 zset_s ⟨_, _, _, _, rfl, rfl, rfl, rfl, rfl⟩ (Nat.le_of_ble_eq_true rfl) ?_
  refine V_w zset_zset ?_
  refine V_w (w' := zset w r (zobj cRing [.int (Int32.ofInt kk), .int (Int32.ofInt (zszI kk)), .int (Int32.ofInt (zmoI kk)), .int (Int32.ofInt (zlr (zmoI kk) (zszI kk).toNat 1000 2)), .ref pw])) rfl ?_
  refine J_lconst (z := 1) d_Ring_choose_31 rfl ?_
  refine V_lstore_n d_Ring_choose_32 (by decide) ?_
  refine V_iconst d_Ring_choose_33 ?_
  refine V_istore d_Ring_choose_34 (by decide) ?_
  refine V_w (w' := zset (zset w r (zobj cRing [.int (Int32.ofInt kk), .int (Int32.ofInt (zszI kk)), .int (Int32.ofInt (zmoI kk)), .int (Int32.ofInt (zlr (zmoI kk) (zszI kk).toNat 1000 2)), .ref pw])) pw (zro G 64 (zif ((0 : Nat) : Int) (fun j => zpm (zmoI kk) (zlr (zmoI kk) (zszI kk).toNat 1000 2) j.toNat) p))) (by rw [show ((0 : Nat) : Int) = 0 from rfl, zif_0, zset_self ((zset_n (Ne.symm hrp)).trans hp)]) ?_
  refine V_lo [0, 1, 2, 4] rfl ?_
  refine zfor (2 * nn) (fun i => V G M_Ring_choose (zdet none (zset (zset w r (zobj cRing [.int (Int32.ofInt kk), .int (Int32.ofInt (zszI kk)), .int (Int32.ofInt (zmoI kk)), .int (Int32.ofInt (zlr (zmoI kk) (zszI kk).toNat 1000 2)), .ref pw])) pw (zro G 64 (zif (2 * zszI kk) (fun j => zpm (zmoI kk) (zlr (zmoI kk) (zszI kk).toNat 1000 2) j.toNat) p))) sz) (zR 2 0 0 47) 0 0 _ 36 [(0, .ref r), (1, .int (Int32.ofInt kk)), (2, .long (Int64.ofInt (zpm (zmoI kk) (zlr (zmoI kk) (zszI kk).toNat 1000 2) i))), (4, .int (Int32.ofInt (i : Int)))] [] (zset (zset w r (zobj cRing [.int (Int32.ofInt kk), .int (Int32.ofInt (zszI kk)), .int (Int32.ofInt (zmoI kk)), .int (Int32.ofInt (zlr (zmoI kk) (zszI kk).toNat 1000 2)), .ref pw])) pw (zro G 64 (zif (i : Int) (fun j => zpm (zmoI kk) (zlr (zmoI kk) (zszI kk).toNat 1000 2) j.toNat) p)))) ?_ (fun i hi ih => ?_) 0 (Nat.zero_le _)
  · skip
    refine V_iload d_Ring_choose_36 rfl ?_
    refine V_iconst d_Ring_choose_38 ?_
    refine V_aload_n d_Ring_choose_39 rfl ?_
    refine V_getf d_Ring_choose_40 ff_Ring_27 ((zset_n hrp).trans zset_s) rfl ?_
    refine J_imul d_Ring_choose_43 ?_
    refine J_icmp_ge 75 d_Ring_choose_44 (by decide) (by omega) (by omega) (fun c_44 => ?_) (fun c_44 => absurd c_44 (by omega))
    exact V_return d_Ring_choose_75 rfl ⟨Nat.le_of_ble_eq_true rfl, Nat.le_of_ble_eq_true rfl⟩ ⟨rfl, by rw [show (((2 * nn : Nat)) : Int) = 2 * zszI kk by omega], rfl⟩
  · have hb := zpm_b (t := zmoI kk) (b := zlr (zmoI kk) (zszI kk).toNat 1000 2) (by omega) i
    have hm := zmulb (a := zpm (zmoI kk) (zlr (zmoI kk) (zszI kk).toNat 1000 2) i) (b := zlr (zmoI kk) (zszI kk).toNat 1000 2) (A := 1000) (B := 1000) (by omega) (by omega)
    refine V_iload d_Ring_choose_36 rfl ?_
    refine V_iconst d_Ring_choose_38 ?_
    refine V_aload_n d_Ring_choose_39 rfl ?_
    refine V_getf d_Ring_choose_40 ff_Ring_27 ((zset_n hrp).trans zset_s) rfl ?_
    refine J_imul d_Ring_choose_43 ?_
    refine J_icmp_ge 75 d_Ring_choose_44 (by decide) (by omega) (by omega) (fun c_44 => absurd c_44 (by omega)) (fun c_44 => ?_)
    refine V_aload_n d_Ring_choose_47 rfl ?_
    refine V_getf d_Ring_choose_48 ff_Ring_9 ((zset_n hrp).trans zset_s) rfl ?_
    refine V_iload d_Ring_choose_51 rfl ?_
    refine V_lload_n d_Ring_choose_53 rfl ?_
    refine J_lastore d_Ring_choose_54 zset_s (by omega) (by decide) ?_
    refine V_w zset_zset ?_
    refine V_lload_n d_Ring_choose_55 rfl ?_
    refine V_aload_n d_Ring_choose_56 rfl ?_
    refine V_getf d_Ring_choose_57 ff_Ring_40 ((zset_n hrp).trans zset_s) rfl ?_
    refine J_i2l d_Ring_choose_60 (by omega) ?_
    refine J_lmul d_Ring_choose_61 ?_
    refine V_aload_n d_Ring_choose_62 rfl ?_
    refine V_getf d_Ring_choose_63 ff_Ring_33 ((zset_n hrp).trans zset_s) rfl ?_
    refine J_i2l d_Ring_choose_66 (by omega) ?_
    refine J_lremP d_Ring_choose_67 (by omega) (by omega) ?_
    refine V_lstore_n d_Ring_choose_68 (by decide) ?_
    refine J_iinc d_Ring_choose_69 rfl (by decide) ?_
    refine V_goto 36 d_Ring_choose_72 (by decide) ?_
    exact V_w (by rw [zif_s (by omega) (by simp)]; rfl) ih

