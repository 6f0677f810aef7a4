/-! RingCipher's public methods, a row for each way that a call may go -/
theorem zmr {v t : Int} (ht : 0 < t ∧ t ≤ 1000) : -2147483648 ≤ v % t ∧ v % t < 2147483648 := by
  have h1 := Int.emod_nonneg v (show t ≠ 0 by omega)
  have h2 := Int.emod_lt_of_pos v ht.1
  omega
/-- the ring's numbers and its powers -/
theorem zsys_rg {G : zG} {B : Nat} {kd n t zz kd' n' t' zz' : Int} {ch : Int32} {md tc : Int} {tg pt : Nat → Int} {L : Nat → Int → Int} {w0 : zW} {g : Int → Int} :
    zset (zset (zsys G B kd n t zz ch md tc tg pt L w0) (B + 1) (zobj cRing [.int (Int32.ofInt kd'), .int (Int32.ofInt n'), .int (Int32.ofInt t'), .int (Int32.ofInt zz'), .ref (B + 2)])) (B + 2) (zro G 64 g) = zsys G B kd' n' t' zz' ch md tc tg pt (zlu L 2 g) w0 := by
  have e1 : zset (zsys G B kd n t zz ch md tc tg pt L w0) (B + 1) (zobj cRing [.int (Int32.ofInt kd'), .int (Int32.ofInt n'), .int (Int32.ofInt t'), .int (Int32.ofInt zz'), .ref (B + 2)]) = zsys G B kd' n' t' zz' ch md tc tg pt L w0 :=
    zsys_set (by decide) rfl (fun i _ hi => by
      unfold zlay
      by_cases h : i = 1
      · exact absurd h hi
      · simp only [if_neg h])
  rw [e1]
  exact zsys_set (by decide) (by show zro G 64 (zlu L 2 g 2) = _; rw [zlu_s]) (fun i _ hi => zlay_lu hi)

set_option maxRecDepth 100000 in
set_option maxHeartbeats 4000000 in
theorem c_set_p (G : zG) (sz B : Nat) (kd n t zz : Int) (ch : Int32) (md tc : Int) (tg pt : Nat → Int) (L : Nat → Int → Int) (w0 : zW) (p : Int) (hp : -2147483648 ≤ p ∧ p < 2147483648) (hb : p < 0 ∨ 8 ≤ p) (i v : Int) : zCt G M_X_set (zR 7 1 6 117) [.ref B, .int (Int32.ofInt p), .int (Int32.ofInt i), .int (Int32.ofInt v)] sz (zsys G B kd n t zz ch md tc tg pt L w0) (zOut (.inr zNSE) (zsys G B kd n t zz ch md tc tg pt L w0) (sz + 1)) := by
  refine V_aload_n d_X_set_0 rfl ?_
  refine V_iload_n d_X_set_1 rfl ?_
  refine V_callV (n := 1) d_X_set_2 g_X_110 rfl zsys_x0 rfl (c_plainAt_no G _ B kd n t zz ch md tc tg pt L w0 p hp hb) ⟨co_X_plainAt, by decide +kernel, Nat.le_of_ble_eq_true rfl⟩ ⟨Nat.le_of_ble_eq_true rfl, Nat.le_of_ble_eq_true rfl, Nat.le_of_ble_eq_true rfl, Nat.le_of_ble_eq_true rfl⟩ (Nat.le_of_ble_eq_true rfl) (fun r_2 w_2 s_2 q_2 => ?_) (fun _ _ _ q => ⟨⟨Nat.le_of_ble_eq_true rfl, Nat.le_of_ble_eq_true rfl⟩, q⟩)
  cases q_2.1

set_option maxRecDepth 100000 in
set_option maxHeartbeats 4000000 in
theorem c_set_i (G : zG) (sz B : Nat) (kd n t zz : Int) (ch : Int32) (md tc : Int) (tg pt : Nat → Int) (L : Nat → Int → Int) (w0 : zW) (p : Nat) (hp : p < 8) (i v : Int) (hi : -2147483648 ≤ i ∧ i < 2147483648) (hn : 0 ≤ n ∧ n ≤ 32) (hb : i < 0 ∨ n ≤ i) : zCt G M_X_set (zR 7 1 6 117) [.ref B, .int (Int32.ofInt (p : Int)), .int (Int32.ofInt i), .int (Int32.ofInt v)] sz (zsys G B kd n t zz ch md tc tg pt L w0) (zOut (.inr zNSE) (zsys G B kd n t zz ch md tc tg pt L w0) (sz + 1)) := by
  refine V_aload_n d_X_set_0 rfl ?_
  refine V_iload_n d_X_set_1 rfl ?_
  refine V_callV (n := 1) d_X_set_2 g_X_110 rfl zsys_x0 rfl (c_plainAt G _ B kd n t zz ch md tc tg pt L w0 p hp) ⟨co_X_plainAt, by decide +kernel, Nat.le_of_ble_eq_true rfl⟩ ⟨Nat.le_of_ble_eq_true rfl, Nat.le_of_ble_eq_true rfl, Nat.le_of_ble_eq_true rfl, Nat.le_of_ble_eq_true rfl⟩ (Nat.le_of_ble_eq_true rfl) (fun r_2 w_2 s_2 q_2 => ?_) (fun _ _ _ q => False.elim q)
  obtain ⟨rfl, rfl, rfl⟩ := q_2
  refine V_astore d_X_set_5 (by decide) ?_
  refine V_aload_n d_X_set_7 rfl ?_
  refine V_iload_n d_X_set_8 rfl ?_
  refine V_callV (n := 1) d_X_set_9 g_X_114 rfl zsys_x0 rfl (c_checkC_no G _ B kd n t zz ch md tc tg pt L w0 i hi hn hb) ⟨co_X_checkCoefficient, by decide +kernel, Nat.le_of_ble_eq_true rfl⟩ ⟨Nat.le_of_ble_eq_true rfl, Nat.le_of_ble_eq_true rfl, Nat.le_of_ble_eq_true rfl, Nat.le_of_ble_eq_true rfl⟩ (Nat.le_of_ble_eq_true rfl) (fun r_9 w_9 s_9 q_9 => ?_) (fun _ _ _ q => ⟨⟨Nat.le_of_ble_eq_true rfl, Nat.le_of_ble_eq_true rfl⟩, q⟩)
  cases q_9.1

set_option maxRecDepth 100000 in
set_option maxHeartbeats 4000000 in
theorem c_set (G : zG) (sz B : Nat) (kd n t zz : Int) (ch : Int32) (md tc : Int) (tg pt : Nat → Int) (L : Nat → Int → Int) (w0 : zW) (p : Nat) (hp : p < 8) (i v : Int) (hn : 0 ≤ n ∧ n ≤ 32) (hi : 0 ≤ i ∧ i < n) (hv : -2147483648 ≤ v ∧ v < 2147483648) (ht : 0 < t ∧ t ≤ 1000) : zCt G M_X_set (zR 7 1 6 117) [.ref B, .int (Int32.ofInt (p : Int)), .int (Int32.ofInt i), .int (Int32.ofInt v)] sz (zsys G B kd n t zz ch md tc tg pt L w0) (zdet (some (.int (Int32.ofInt (L (88 + p) i)))) (zsys G B kd n t zz ch md tc tg pt (zlu L (88 + p) (zu (L (88 + p)) i (v % t))) w0) sz) := by
  refine V_aload_n d_X_set_0 rfl ?_
  refine V_iload_n d_X_set_1 rfl ?_
  refine V_callV (n := 1) d_X_set_2 g_X_110 rfl zsys_x0 rfl (c_plainAt G _ B kd n t zz ch md tc tg pt L w0 p hp) ⟨co_X_plainAt, by decide +kernel, Nat.le_of_ble_eq_true rfl⟩ ⟨Nat.le_of_ble_eq_true rfl, Nat.le_of_ble_eq_true rfl, Nat.le_of_ble_eq_true rfl, Nat.le_of_ble_eq_true rfl⟩ (Nat.le_of_ble_eq_true rfl) (fun r_2 w_2 s_2 q_2 => ?_) (fun _ _ _ q => False.elim q)
  obtain ⟨rfl, rfl, rfl⟩ := q_2
  refine V_astore d_X_set_5 (by decide) ?_
  refine V_aload_n d_X_set_7 rfl ?_
  refine V_iload_n d_X_set_8 rfl ?_
  refine V_callV (n := 1) d_X_set_9 g_X_114 rfl zsys_x0 rfl (c_checkC G _ B kd n t zz ch md tc tg pt L w0 i hn.2 hi) ⟨co_X_checkCoefficient, by decide +kernel, Nat.le_of_ble_eq_true rfl⟩ ⟨Nat.le_of_ble_eq_true rfl, Nat.le_of_ble_eq_true rfl, Nat.le_of_ble_eq_true rfl, Nat.le_of_ble_eq_true rfl⟩ (Nat.le_of_ble_eq_true rfl) (fun r_9 w_9 s_9 q_9 => ?_) (fun _ _ _ q => False.elim q)
  obtain ⟨rfl, rfl, rfl⟩ := q_9
  refine V_aload d_X_set_12 rfl ?_
  refine V_iload_n d_X_set_14 rfl ?_
  refine J_laload d_X_set_15 (zsys_row (zir_p hp)) (by omega) (by decide) ?_
  refine V_lstore d_X_set_16 (by decide) ?_
  refine V_aload d_X_set_18 rfl ?_
  refine V_iload_n d_X_set_20 rfl ?_
  refine V_iload_n d_X_set_21 rfl ?_
  refine V_aload_n d_X_set_22 rfl ?_
  refine V_getf d_X_set_23 ff_X_12 zsys_x0 rfl ?_
  refine V_getf d_X_set_26 ff_X_117 zsys_r rfl ?_
  refine V_callS (n := 2) d_X_set_29 g_X_120 rfl (c_fmodI G _ _ v t hv (by omega)) ⟨co_Math_floorMod_II, by decide +kernel, Nat.le_of_ble_eq_true rfl⟩ ⟨Nat.le_of_ble_eq_true rfl, Nat.le_of_ble_eq_true rfl, Nat.le_of_ble_eq_true rfl, Nat.le_of_ble_eq_true rfl⟩ (Nat.le_of_ble_eq_true rfl) (fun r_29 w_29 s_29 q_29 => ?_) (fun _ _ _ q => False.elim q)
  obtain ⟨rfl, rfl, rfl⟩ := q_29
  refine J_i2l d_X_set_32 (zmr ht) ?_
  refine J_lastore d_X_set_33 (zsys_row (zir_p hp)) (by omega) (by decide) ?_
  refine V_w (zsys_lu (zir_p hp)) ?_
  refine V_lload d_X_set_34 rfl ?_
  refine J_l2i d_X_set_36 ?_
  exact V_ireturn d_X_set_37 rfl ⟨Nat.le_of_ble_eq_true rfl, Nat.le_of_ble_eq_true rfl⟩ ⟨rfl, rfl, rfl⟩

set_option maxRecDepth 100000 in
set_option maxHeartbeats 4000000 in
theorem c_get_p (G : zG) (sz B : Nat) (kd n t zz : Int) (ch : Int32) (md tc : Int) (tg pt : Nat → Int) (L : Nat → Int → Int) (w0 : zW) (p : Int) (hp : -2147483648 ≤ p ∧ p < 2147483648) (hb : p < 0 ∨ 8 ≤ p) (i : Int) : zCt G M_X_get (zR 7 1 6 117) [.ref B, .int (Int32.ofInt p), .int (Int32.ofInt i)] sz (zsys G B kd n t zz ch md tc tg pt L w0) (zOut (.inr zNSE) (zsys G B kd n t zz ch md tc tg pt L w0) (sz + 1)) := by
  refine V_aload_n d_X_get_0 rfl ?_
  refine V_iload_n d_X_get_1 rfl ?_
  refine V_callV (n := 1) d_X_get_2 g_X_110 rfl zsys_x0 rfl (c_plainAt_no G _ B kd n t zz ch md tc tg pt L w0 p hp hb) ⟨co_X_plainAt, by decide +kernel, Nat.le_of_ble_eq_true rfl⟩ ⟨Nat.le_of_ble_eq_true rfl, Nat.le_of_ble_eq_true rfl, Nat.le_of_ble_eq_true rfl, Nat.le_of_ble_eq_true rfl⟩ (Nat.le_of_ble_eq_true rfl) (fun r_2 w_2 s_2 q_2 => ?_) (fun _ _ _ q => ⟨⟨Nat.le_of_ble_eq_true rfl, Nat.le_of_ble_eq_true rfl⟩, q⟩)
  cases q_2.1

set_option maxRecDepth 100000 in
set_option maxHeartbeats 4000000 in
theorem c_get_i (G : zG) (sz B : Nat) (kd n t zz : Int) (ch : Int32) (md tc : Int) (tg pt : Nat → Int) (L : Nat → Int → Int) (w0 : zW) (p : Nat) (hp : p < 8) (i : Int) (hi : -2147483648 ≤ i ∧ i < 2147483648) (hn : 0 ≤ n ∧ n ≤ 32) (hb : i < 0 ∨ n ≤ i) : zCt G M_X_get (zR 7 1 6 117) [.ref B, .int (Int32.ofInt (p : Int)), .int (Int32.ofInt i)] sz (zsys G B kd n t zz ch md tc tg pt L w0) (zOut (.inr zNSE) (zsys G B kd n t zz ch md tc tg pt L w0) (sz + 1)) := by
  refine V_aload_n d_X_get_0 rfl ?_
  refine V_iload_n d_X_get_1 rfl ?_
  refine V_callV (n := 1) d_X_get_2 g_X_110 rfl zsys_x0 rfl (c_plainAt G _ B kd n t zz ch md tc tg pt L w0 p hp) ⟨co_X_plainAt, by decide +kernel, Nat.le_of_ble_eq_true rfl⟩ ⟨Nat.le_of_ble_eq_true rfl, Nat.le_of_ble_eq_true rfl, Nat.le_of_ble_eq_true rfl, Nat.le_of_ble_eq_true rfl⟩ (Nat.le_of_ble_eq_true rfl) (fun r_2 w_2 s_2 q_2 => ?_) (fun _ _ _ q => False.elim q)
  obtain ⟨rfl, rfl, rfl⟩ := q_2
  refine V_astore_n d_X_get_5 (by decide) ?_
  refine V_aload_n d_X_get_6 rfl ?_
  refine V_iload_n d_X_get_7 rfl ?_
  refine V_callV (n := 1) d_X_get_8 g_X_114 rfl zsys_x0 rfl (c_checkC_no G _ B kd n t zz ch md tc tg pt L w0 i hi hn hb) ⟨co_X_checkCoefficient, by decide +kernel, Nat.le_of_ble_eq_true rfl⟩ ⟨Nat.le_of_ble_eq_true rfl, Nat.le_of_ble_eq_true rfl, Nat.le_of_ble_eq_true rfl, Nat.le_of_ble_eq_true rfl⟩ (Nat.le_of_ble_eq_true rfl) (fun r_8 w_8 s_8 q_8 => ?_) (fun _ _ _ q => ⟨⟨Nat.le_of_ble_eq_true rfl, Nat.le_of_ble_eq_true rfl⟩, q⟩)
  cases q_8.1

set_option maxRecDepth 100000 in
set_option maxHeartbeats 4000000 in
theorem c_get (G : zG) (sz B : Nat) (kd n t zz : Int) (ch : Int32) (md tc : Int) (tg pt : Nat → Int) (L : Nat → Int → Int) (w0 : zW) (p : Nat) (hp : p < 8) (i : Int) (hn : 0 ≤ n ∧ n ≤ 32) (hi : 0 ≤ i ∧ i < n) : zCt G M_X_get (zR 7 1 6 117) [.ref B, .int (Int32.ofInt (p : Int)), .int (Int32.ofInt i)] sz (zsys G B kd n t zz ch md tc tg pt L w0) (zdet (some (.int (Int32.ofInt (L (88 + p) i)))) (zsys G B kd n t zz ch md tc tg pt L w0) sz) := by
  refine V_aload_n d_X_get_0 rfl ?_
  refine V_iload_n d_X_get_1 rfl ?_
  refine V_callV (n := 1) d_X_get_2 g_X_110 rfl zsys_x0 rfl (c_plainAt G _ B kd n t zz ch md tc tg pt L w0 p hp) ⟨co_X_plainAt, by decide +kernel, Nat.le_of_ble_eq_true rfl⟩ ⟨Nat.le_of_ble_eq_true rfl, Nat.le_of_ble_eq_true rfl, Nat.le_of_ble_eq_true rfl, Nat.le_of_ble_eq_true rfl⟩ (Nat.le_of_ble_eq_true rfl) (fun r_2 w_2 s_2 q_2 => ?_) (fun _ _ _ q => False.elim q)
  obtain ⟨rfl, rfl, rfl⟩ := q_2
  refine V_astore_n d_X_get_5 (by decide) ?_
  refine V_aload_n d_X_get_6 rfl ?_
  refine V_iload_n d_X_get_7 rfl ?_
  refine V_callV (n := 1) d_X_get_8 g_X_114 rfl zsys_x0 rfl (c_checkC G _ B kd n t zz ch md tc tg pt L w0 i hn.2 hi) ⟨co_X_checkCoefficient, by decide +kernel, Nat.le_of_ble_eq_true rfl⟩ ⟨Nat.le_of_ble_eq_true rfl, Nat.le_of_ble_eq_true rfl, Nat.le_of_ble_eq_true rfl, Nat.le_of_ble_eq_true rfl⟩ (Nat.le_of_ble_eq_true rfl) (fun r_8 w_8 s_8 q_8 => ?_) (fun _ _ _ q => False.elim q)
  obtain ⟨rfl, rfl, rfl⟩ := q_8
  refine V_aload_n d_X_get_11 rfl ?_
  refine V_iload_n d_X_get_12 rfl ?_
  refine J_laload d_X_get_13 (zsys_row (zir_p hp)) (by omega) (by decide) ?_
  refine J_l2i d_X_get_14 ?_
  exact V_ireturn d_X_get_15 rfl ⟨Nat.le_of_ble_eq_true rfl, Nat.le_of_ble_eq_true rfl⟩ ⟨rfl, rfl, rfl⟩

set_option maxRecDepth 100000 in
set_option maxHeartbeats 4000000 in
theorem c_drop_no (G : zG) (sz B : Nat) (kd n t zz : Int) (ch : Int32) (md tc : Int) (tg pt : Nat → Int) (L : Nat → Int → Int) (w0 : zW) (c : Int) (hc : -2147483648 ≤ c ∧ c < 2147483648) (hb : c < 0 ∨ 16 ≤ c) : zCt G M_X_drop (zR 7 1 6 117) [.ref B, .int (Int32.ofInt c)] sz (zsys G B kd n t zz ch md tc tg pt L w0) (zOut (.inr zNSE) (zsys G B kd n t zz ch md tc tg pt L w0) (sz + 1)) := by
  refine V_aload_n d_X_drop_0 rfl ?_
  refine V_iload_n d_X_drop_1 rfl ?_
  refine V_callV (n := 1) d_X_drop_2 g_X_139 rfl zsys_x0 rfl (c_placeAt_no G _ B kd n t zz ch md tc tg pt L w0 c hc hb) ⟨co_X_placeAt, by decide +kernel, Nat.le_of_ble_eq_true rfl⟩ ⟨Nat.le_of_ble_eq_true rfl, Nat.le_of_ble_eq_true rfl, Nat.le_of_ble_eq_true rfl, Nat.le_of_ble_eq_true rfl⟩ (Nat.le_of_ble_eq_true rfl) (fun r_2 w_2 s_2 q_2 => ?_) (fun _ _ _ q => ⟨⟨Nat.le_of_ble_eq_true rfl, Nat.le_of_ble_eq_true rfl⟩, q⟩)
  cases q_2.1

set_option maxRecDepth 100000 in
set_option maxHeartbeats 4000000 in
theorem c_drop (G : zG) (sz B : Nat) (kd n t zz : Int) (ch : Int32) (md tc : Int) (tg pt : Nat → Int) (L : Nat → Int → Int) (w0 : zW) (c : Nat) (hc : c < 16) : zCt G M_X_drop (zR 7 1 6 117) [.ref B, .int (Int32.ofInt (c : Int))] sz (zsys G B kd n t zz ch md tc tg pt L w0) (zdet (some (.int (Int32.ofInt (pt (97 + 5 * c))))) (zsys G B kd n t zz ch md tc tg (zpu pt (97 + 5 * c) 0) L w0) sz) := by
  refine V_aload_n d_X_drop_0 rfl ?_
  refine V_iload_n d_X_drop_1 rfl ?_
  refine V_callV (n := 1) d_X_drop_2 g_X_139 rfl zsys_x0 rfl (c_placeAt G _ B kd n t zz ch md tc tg pt L w0 c hc) ⟨co_X_placeAt, by decide +kernel, Nat.le_of_ble_eq_true rfl⟩ ⟨Nat.le_of_ble_eq_true rfl, Nat.le_of_ble_eq_true rfl, Nat.le_of_ble_eq_true rfl, Nat.le_of_ble_eq_true rfl⟩ (Nat.le_of_ble_eq_true rfl) (fun r_2 w_2 s_2 q_2 => ?_) (fun _ _ _ q => False.elim q)
  obtain ⟨rfl, rfl, rfl⟩ := q_2
  refine V_astore_n d_X_drop_5 (by decide) ?_
  refine V_aload_n d_X_drop_6 rfl ?_
  refine V_getf d_X_drop_7 ff_X_197 (zsys_at (by omega) (zlay_cip hc)) rfl ?_
  refine V_istore_n d_X_drop_10 (by decide) ?_
  refine V_aload_n d_X_drop_11 rfl ?_
  refine V_iconst d_X_drop_12 ?_
  refine V_putf d_X_drop_13 ff_X_197 (zsys_at (by omega) (zlay_cip hc)) ⟨_, _, _, _, rfl, rfl, rfl, rfl, rfl⟩ (Nat.le_of_ble_eq_true rfl) ?_
  refine V_w (zsys_pt (v := 0) hc rfl) ?_
  refine V_iload_n d_X_drop_16 rfl ?_
  exact V_ireturn d_X_drop_17 rfl ⟨Nat.le_of_ble_eq_true rfl, Nat.le_of_ble_eq_true rfl⟩ ⟨rfl, rfl, rfl⟩

set_option maxRecDepth 100000 in
set_option maxHeartbeats 4000000 in
theorem c_part_no (G : zG) (sz B : Nat) (kd n t zz : Int) (ch : Int32) (md tc : Int) (tg pt : Nat → Int) (L : Nat → Int → Int) (w0 : zW) (c : Int) (hc : -2147483648 ≤ c ∧ c < 2147483648) (hb : c < 0 ∨ 16 ≤ c) (k i : Int) : zCt G M_X_part (zR 8 1 6 139) [.ref B, .int (Int32.ofInt c), .int (Int32.ofInt k), .int (Int32.ofInt i)] sz (zsys G B kd n t zz ch md tc tg pt L w0) (zOut (.inr zNSE) (zsys G B kd n t zz ch md tc tg pt L w0) (sz + 1)) := by
  refine V_aload_n d_X_part_0 rfl ?_
  refine V_iload_n d_X_part_1 rfl ?_
  refine V_callV (n := 1) d_X_part_2 g_X_173 rfl zsys_x0 rfl (c_takenAt_no G _ B kd n t zz ch md tc tg pt L w0 c hc hb) ⟨co_X_takenAt, by decide +kernel, Nat.le_of_ble_eq_true rfl⟩ ⟨Nat.le_of_ble_eq_true rfl, Nat.le_of_ble_eq_true rfl, Nat.le_of_ble_eq_true rfl, Nat.le_of_ble_eq_true rfl⟩ (Nat.le_of_ble_eq_true rfl) (fun r_2 w_2 s_2 q_2 => ?_) (fun _ _ _ q => ⟨⟨Nat.le_of_ble_eq_true rfl, Nat.le_of_ble_eq_true rfl⟩, q⟩)
  cases q_2.1

set_option maxRecDepth 100000 in
set_option maxHeartbeats 4000000 in
theorem c_part_em (G : zG) (sz B : Nat) (kd n t zz : Int) (ch : Int32) (md tc : Int) (tg pt : Nat → Int) (L : Nat → Int → Int) (w0 : zW) (c : Nat) (hc : c < 16) (he : pt (97 + 5 * c) = 0) (k i : Int) : zCt G M_X_part (zR 8 1 6 139) [.ref B, .int (Int32.ofInt (c : Int)), .int (Int32.ofInt k), .int (Int32.ofInt i)] sz (zsys G B kd n t zz ch md tc tg pt L w0) (zOut (.inr zNSE) (zsys G B kd n t zz ch md tc tg pt L w0) (sz + 1)) := by
  refine V_aload_n d_X_part_0 rfl ?_
  refine V_iload_n d_X_part_1 rfl ?_
  refine V_callV (n := 1) d_X_part_2 g_X_173 rfl zsys_x0 rfl (c_takenAt_em G _ B kd n t zz ch md tc tg pt L w0 c hc he) ⟨co_X_takenAt, by decide +kernel, Nat.le_of_ble_eq_true rfl⟩ ⟨Nat.le_of_ble_eq_true rfl, Nat.le_of_ble_eq_true rfl, Nat.le_of_ble_eq_true rfl, Nat.le_of_ble_eq_true rfl⟩ (Nat.le_of_ble_eq_true rfl) (fun r_2 w_2 s_2 q_2 => ?_) (fun _ _ _ q => ⟨⟨Nat.le_of_ble_eq_true rfl, Nat.le_of_ble_eq_true rfl⟩, q⟩)
  cases q_2.1

set_option maxRecDepth 100000 in
set_option maxHeartbeats 4000000 in
theorem c_part_k1 (G : zG) (sz B : Nat) (kd n t zz : Int) (ch : Int32) (md tc : Int) (tg pt : Nat → Int) (L : Nat → Int → Int) (w0 : zW) (c : Nat) (hc : c < 16) (hfc : 0 < pt (97 + 5 * c) ∧ pt (97 + 5 * c) ≤ 3) (k i : Int) (hk : -2147483648 ≤ k ∧ k < 2147483648) (hb : k < 0) : zCt G M_X_part (zR 8 1 6 139) [.ref B, .int (Int32.ofInt (c : Int)), .int (Int32.ofInt k), .int (Int32.ofInt i)] sz (zsys G B kd n t zz ch md tc tg pt L w0) (zOut (.inr zNSE) (zsys G B kd n t zz ch md tc tg pt L w0) (sz + 1)) := by
  refine V_aload_n d_X_part_0 rfl ?_
  refine V_iload_n d_X_part_1 rfl ?_
  refine V_callV (n := 1) d_X_part_2 g_X_173 rfl zsys_x0 rfl (c_takenAt G _ B kd n t zz ch md tc tg pt L w0 c hc hfc) ⟨co_X_takenAt, by decide +kernel, Nat.le_of_ble_eq_true rfl⟩ ⟨Nat.le_of_ble_eq_true rfl, Nat.le_of_ble_eq_true rfl, Nat.le_of_ble_eq_true rfl, Nat.le_of_ble_eq_true rfl⟩ (Nat.le_of_ble_eq_true rfl) (fun r_2 w_2 s_2 q_2 => ?_) (fun _ _ _ q => False.elim q)
  obtain ⟨rfl, rfl, rfl⟩ := q_2
  refine V_astore d_X_part_5 (by decide) ?_
  refine V_iload_n d_X_part_7 rfl ?_
  refine J_if_lt 20 d_X_part_8 (by decide) (by omega) (fun c_8 => ?_) (fun c_8 => absurd c_8 (by omega))
  exact V_throwN (tx := "no such part") d_X_part_20 d_X_part_23 (Or.inl ⟨d_X_part_24, rfl⟩) d_X_part_26 d_X_part_29 rfl (by decide) rfl (Nat.le_of_ble_eq_true rfl) (Nat.le_of_ble_eq_true rfl) (Nat.le_of_ble_eq_true rfl) (Nat.le_of_ble_eq_true rfl) ⟨Nat.le_of_ble_eq_true rfl, Nat.le_of_ble_eq_true rfl⟩ ⟨rfl, rfl, rfl⟩

set_option maxRecDepth 100000 in
set_option maxHeartbeats 4000000 in
theorem c_part_k2 (G : zG) (sz B : Nat) (kd n t zz : Int) (ch : Int32) (md tc : Int) (tg pt : Nat → Int) (L : Nat → Int → Int) (w0 : zW) (c : Nat) (hc : c < 16) (hfc : 0 < pt (97 + 5 * c) ∧ pt (97 + 5 * c) ≤ 3) (k i : Int) (hk : -2147483648 ≤ k ∧ k < 2147483648) (hb : pt (97 + 5 * c) ≤ k) : zCt G M_X_part (zR 8 1 6 139) [.ref B, .int (Int32.ofInt (c : Int)), .int (Int32.ofInt k), .int (Int32.ofInt i)] sz (zsys G B kd n t zz ch md tc tg pt L w0) (zOut (.inr zNSE) (zsys G B kd n t zz ch md tc tg pt L w0) (sz + 1)) := by
  refine V_aload_n d_X_part_0 rfl ?_
  refine V_iload_n d_X_part_1 rfl ?_
  refine V_callV (n := 1) d_X_part_2 g_X_173 rfl zsys_x0 rfl (c_takenAt G _ B kd n t zz ch md tc tg pt L w0 c hc hfc) ⟨co_X_takenAt, by decide +kernel, Nat.le_of_ble_eq_true rfl⟩ ⟨Nat.le_of_ble_eq_true rfl, Nat.le_of_ble_eq_true rfl, Nat.le_of_ble_eq_true rfl, Nat.le_of_ble_eq_true rfl⟩ (Nat.le_of_ble_eq_true rfl) (fun r_2 w_2 s_2 q_2 => ?_) (fun _ _ _ q => False.elim q)
  obtain ⟨rfl, rfl, rfl⟩ := q_2
  refine V_astore d_X_part_5 (by decide) ?_
  refine V_iload_n d_X_part_7 rfl ?_
  refine J_if_lt 20 d_X_part_8 (by decide) (by omega) (fun c_8 => absurd c_8 (by omega)) (fun c_8 => ?_)
  refine V_iload_n d_X_part_11 rfl ?_
  refine V_aload d_X_part_12 rfl ?_
  refine V_getf d_X_part_14 ff_X_197 (zsys_at (by omega) (zlay_cip hc)) rfl ?_
  refine J_icmp_lt 30 d_X_part_17 (by decide) (by omega) (by omega) (fun c_17 => absurd c_17 (by omega)) (fun c_17 => ?_)
  exact V_throwN (tx := "no such part") d_X_part_20 d_X_part_23 (Or.inl ⟨d_X_part_24, rfl⟩) d_X_part_26 d_X_part_29 rfl (by decide) rfl (Nat.le_of_ble_eq_true rfl) (Nat.le_of_ble_eq_true rfl) (Nat.le_of_ble_eq_true rfl) (Nat.le_of_ble_eq_true rfl) ⟨Nat.le_of_ble_eq_true rfl, Nat.le_of_ble_eq_true rfl⟩ ⟨rfl, rfl, rfl⟩

set_option maxRecDepth 100000 in
set_option maxHeartbeats 4000000 in
theorem c_part_i (G : zG) (sz B : Nat) (kd n t zz : Int) (ch : Int32) (md tc : Int) (tg pt : Nat → Int) (L : Nat → Int → Int) (w0 : zW) (c : Nat) (hc : c < 16) (hfc : 0 < pt (97 + 5 * c) ∧ pt (97 + 5 * c) ≤ 3) (k i : Int) (hk : 0 ≤ k ∧ k < pt (97 + 5 * c)) (hi : -2147483648 ≤ i ∧ i < 2147483648) (hn : 0 ≤ n ∧ n ≤ 32) (hb : i < 0 ∨ n ≤ i) : zCt G M_X_part (zR 8 1 6 139) [.ref B, .int (Int32.ofInt (c : Int)), .int (Int32.ofInt k), .int (Int32.ofInt i)] sz (zsys G B kd n t zz ch md tc tg pt L w0) (zOut (.inr zNSE) (zsys G B kd n t zz ch md tc tg pt L w0) (sz + 1)) := by
  refine V_aload_n d_X_part_0 rfl ?_
  refine V_iload_n d_X_part_1 rfl ?_
  refine V_callV (n := 1) d_X_part_2 g_X_173 rfl zsys_x0 rfl (c_takenAt G _ B kd n t zz ch md tc tg pt L w0 c hc hfc) ⟨co_X_takenAt, by decide +kernel, Nat.le_of_ble_eq_true rfl⟩ ⟨Nat.le_of_ble_eq_true rfl, Nat.le_of_ble_eq_true rfl, Nat.le_of_ble_eq_true rfl, Nat.le_of_ble_eq_true rfl⟩ (Nat.le_of_ble_eq_true rfl) (fun r_2 w_2 s_2 q_2 => ?_) (fun _ _ _ q => False.elim q)
  obtain ⟨rfl, rfl, rfl⟩ := q_2
  refine V_astore d_X_part_5 (by decide) ?_
  refine V_iload_n d_X_part_7 rfl ?_
  refine J_if_lt 20 d_X_part_8 (by decide) (by omega) (fun c_8 => absurd c_8 (by omega)) (fun c_8 => ?_)
  refine V_iload_n d_X_part_11 rfl ?_
  refine V_aload d_X_part_12 rfl ?_
  refine V_getf d_X_part_14 ff_X_197 (zsys_at (by omega) (zlay_cip hc)) rfl ?_
  refine J_icmp_lt 30 d_X_part_17 (by decide) (by omega) (by omega) (fun c_17 => ?_) (fun c_17 => absurd c_17 (by omega))
  refine V_aload_n d_X_part_30 rfl ?_
  refine V_iload_n d_X_part_31 rfl ?_
  refine V_callV (n := 1) d_X_part_32 g_X_114 rfl zsys_x0 rfl (c_checkC_no G _ B kd n t zz ch md tc tg pt L w0 i hi hn hb) ⟨co_X_checkCoefficient, by decide +kernel, Nat.le_of_ble_eq_true rfl⟩ ⟨Nat.le_of_ble_eq_true rfl, Nat.le_of_ble_eq_true rfl, Nat.le_of_ble_eq_true rfl, Nat.le_of_ble_eq_true rfl⟩ (Nat.le_of_ble_eq_true rfl) (fun r_32 w_32 s_32 q_32 => ?_) (fun _ _ _ q => ⟨⟨Nat.le_of_ble_eq_true rfl, Nat.le_of_ble_eq_true rfl⟩, q⟩)
  cases q_32.1

set_option maxRecDepth 100000 in
set_option maxHeartbeats 4000000 in
theorem c_part (G : zG) (sz B : Nat) (kd n t zz : Int) (ch : Int32) (md tc : Int) (tg pt : Nat → Int) (L : Nat → Int → Int) (w0 : zW) (c : Nat) (hc : c < 16) (hfc : 0 < pt (97 + 5 * c) ∧ pt (97 + 5 * c) ≤ 3) (k : Nat) (i : Int) (hk : (k : Int) < pt (97 + 5 * c)) (hn : 0 ≤ n ∧ n ≤ 32) (hi : 0 ≤ i ∧ i < n) : zCt G M_X_part (zR 8 1 6 139) [.ref B, .int (Int32.ofInt (c : Int)), .int (Int32.ofInt (k : Int)), .int (Int32.ofInt i)] sz (zsys G B kd n t zz ch md tc tg pt L w0) (zdet (some (.int (Int32.ofInt (L (97 + 5 * c + 1 + 1 + k) i)))) (zsys G B kd n t zz ch md tc tg pt L w0) sz) := by
  refine V_aload_n d_X_part_0 rfl ?_
  refine V_iload_n d_X_part_1 rfl ?_
  refine V_callV (n := 1) d_X_part_2 g_X_173 rfl zsys_x0 rfl (c_takenAt G _ B kd n t zz ch md tc tg pt L w0 c hc hfc) ⟨co_X_takenAt, by decide +kernel, Nat.le_of_ble_eq_true rfl⟩ ⟨Nat.le_of_ble_eq_true rfl, Nat.le_of_ble_eq_true rfl, Nat.le_of_ble_eq_true rfl, Nat.le_of_ble_eq_true rfl⟩ (Nat.le_of_ble_eq_true rfl) (fun r_2 w_2 s_2 q_2 => ?_) (fun _ _ _ q => False.elim q)
  obtain ⟨rfl, rfl, rfl⟩ := q_2
  refine V_astore d_X_part_5 (by decide) ?_
  refine V_iload_n d_X_part_7 rfl ?_
  refine J_if_lt 20 d_X_part_8 (by decide) (by omega) (fun c_8 => absurd c_8 (by omega)) (fun c_8 => ?_)
  refine V_iload_n d_X_part_11 rfl ?_
  refine V_aload d_X_part_12 rfl ?_
  refine V_getf d_X_part_14 ff_X_197 (zsys_at (by omega) (zlay_cip hc)) rfl ?_
  refine J_icmp_lt 30 d_X_part_17 (by decide) (by omega) (by omega) (fun c_17 => ?_) (fun c_17 => absurd c_17 (by omega))
  refine V_aload_n d_X_part_30 rfl ?_
  refine V_iload_n d_X_part_31 rfl ?_
  refine V_callV (n := 1) d_X_part_32 g_X_114 rfl zsys_x0 rfl (c_checkC G _ B kd n t zz ch md tc tg pt L w0 i hn.2 hi) ⟨co_X_checkCoefficient, by decide +kernel, Nat.le_of_ble_eq_true rfl⟩ ⟨Nat.le_of_ble_eq_true rfl, Nat.le_of_ble_eq_true rfl, Nat.le_of_ble_eq_true rfl, Nat.le_of_ble_eq_true rfl⟩ (Nat.le_of_ble_eq_true rfl) (fun r_32 w_32 s_32 q_32 => ?_) (fun _ _ _ q => False.elim q)
  obtain ⟨rfl, rfl, rfl⟩ := q_32
  refine V_aload d_X_part_35 rfl ?_
  refine V_getf d_X_part_37 ff_X_221 (zsys_at (by omega) (zlay_cip hc)) rfl ?_
  refine V_iload_n d_X_part_40 rfl ?_
  refine J_aaload d_X_part_41 (zsys_at (by omega) (zlay_cir hc)) rfl rfl (by omega) (by decide) ((zel (a := fun k => B + (97 + 5 * c + 1 + 1 + k)) (show k < 3 by omega)).trans rfl : _ = some (B + (97 + 5 * c + 1 + 1 + k))) ?_
  refine V_iload_n d_X_part_42 rfl ?_
  refine J_laload d_X_part_43 (zsys_row (zir_c hc (show k < 3 by omega))) (by omega) (by decide) ?_
  refine J_l2i d_X_part_44 ?_
  exact V_ireturn d_X_part_45 rfl ⟨Nat.le_of_ble_eq_true rfl, Nat.le_of_ble_eq_true rfl⟩ ⟨rfl, rfl, rfl⟩

set_option maxRecDepth 100000 in
set_option maxHeartbeats 4000000 in
theorem c_count_0 (G : zG) (sz B : Nat) (kd n t zz : Int) (ch : Int32) (md tc : Int) (tg pt : Nat → Int) (L : Nat → Int → Int) (w0 : zW)  : zCt G M_X_count (zR 1 0 0 22) [.ref B, .int (Int32.ofInt 0)] sz (zsys G B kd n t zz ch md tc tg pt L w0) (zdet (some (.int (Int32.ofInt kd))) (zsys G B kd n t zz ch md tc tg pt L w0) sz) := by
  refine V_iload_n d_X_count_0 rfl ?_
  refine V_tableIn (off := 47) 48 d_X_count_1 (by decide) (by decide) (by decide +kernel) (by decide) ?_
  refine V_aload_n d_X_count_48 rfl ?_
  refine V_getf d_X_count_49 ff_X_12 zsys_x0 rfl ?_
  refine V_getf d_X_count_52 ff_X_250 zsys_r rfl ?_
  exact V_ireturn d_X_count_55 rfl ⟨Nat.le_of_ble_eq_true rfl, Nat.le_of_ble_eq_true rfl⟩ ⟨rfl, rfl, rfl⟩

set_option maxRecDepth 100000 in
set_option maxHeartbeats 4000000 in
theorem c_count_1 (G : zG) (sz B : Nat) (kd n t zz : Int) (ch : Int32) (md tc : Int) (tg pt : Nat → Int) (L : Nat → Int → Int) (w0 : zW)  : zCt G M_X_count (zR 1 0 0 22) [.ref B, .int (Int32.ofInt 1)] sz (zsys G B kd n t zz ch md tc tg pt L w0) (zdet (some (.int (Int32.ofInt n))) (zsys G B kd n t zz ch md tc tg pt L w0) sz) := by
  refine V_iload_n d_X_count_0 rfl ?_
  refine V_tableIn (off := 55) 56 d_X_count_1 (by decide) (by decide) (by decide +kernel) (by decide) ?_
  refine V_aload_n d_X_count_56 rfl ?_
  refine V_getf d_X_count_57 ff_X_12 zsys_x0 rfl ?_
  refine V_getf d_X_count_60 ff_X_78 zsys_r rfl ?_
  exact V_ireturn d_X_count_63 rfl ⟨Nat.le_of_ble_eq_true rfl, Nat.le_of_ble_eq_true rfl⟩ ⟨rfl, rfl, rfl⟩

set_option maxRecDepth 100000 in
set_option maxHeartbeats 4000000 in
theorem c_count_2 (G : zG) (sz B : Nat) (kd n t zz : Int) (ch : Int32) (md tc : Int) (tg pt : Nat → Int) (L : Nat → Int → Int) (w0 : zW)  : zCt G M_X_count (zR 1 0 0 22) [.ref B, .int (Int32.ofInt 2)] sz (zsys G B kd n t zz ch md tc tg pt L w0) (zdet (some (.int (Int32.ofInt t))) (zsys G B kd n t zz ch md tc tg pt L w0) sz) := by
  refine V_iload_n d_X_count_0 rfl ?_
  refine V_tableIn (off := 63) 64 d_X_count_1 (by decide) (by decide) (by decide +kernel) (by decide) ?_
  refine V_aload_n d_X_count_64 rfl ?_
  refine V_getf d_X_count_65 ff_X_12 zsys_x0 rfl ?_
  refine V_getf d_X_count_68 ff_X_117 zsys_r rfl ?_
  exact V_ireturn d_X_count_71 rfl ⟨Nat.le_of_ble_eq_true rfl, Nat.le_of_ble_eq_true rfl⟩ ⟨rfl, rfl, rfl⟩

set_option maxRecDepth 100000 in
set_option maxHeartbeats 4000000 in
theorem c_count_3 (G : zG) (sz B : Nat) (kd n t zz : Int) (ch : Int32) (md tc : Int) (tg pt : Nat → Int) (L : Nat → Int → Int) (w0 : zW)  : zCt G M_X_count (zR 1 0 0 22) [.ref B, .int (Int32.ofInt 3)] sz (zsys G B kd n t zz ch md tc tg pt L w0) (zdet (some (.int (Int32.ofInt zz))) (zsys G B kd n t zz ch md tc tg pt L w0) sz) := by
  refine V_iload_n d_X_count_0 rfl ?_
  refine V_tableIn (off := 71) 72 d_X_count_1 (by decide) (by decide) (by decide +kernel) (by decide) ?_
  refine V_aload_n d_X_count_72 rfl ?_
  refine V_getf d_X_count_73 ff_X_12 zsys_x0 rfl ?_
  refine V_getf d_X_count_76 ff_X_253 zsys_r rfl ?_
  exact V_ireturn d_X_count_79 rfl ⟨Nat.le_of_ble_eq_true rfl, Nat.le_of_ble_eq_true rfl⟩ ⟨rfl, rfl, rfl⟩

set_option maxRecDepth 100000 in
set_option maxHeartbeats 4000000 in
theorem c_count_5 (G : zG) (sz B : Nat) (kd n t zz : Int) (ch : Int32) (md tc : Int) (tg pt : Nat → Int) (L : Nat → Int → Int) (w0 : zW)  : zCt G M_X_count (zR 1 0 0 22) [.ref B, .int (Int32.ofInt 5)] sz (zsys G B kd n t zz ch md tc tg pt L w0) (zdet (some (.int (Int32.ofInt tc))) (zsys G B kd n t zz ch md tc tg pt L w0) sz) := by
  refine V_iload_n d_X_count_0 rfl ?_
  refine V_tableIn (off := 95) 96 d_X_count_1 (by decide) (by decide) (by decide +kernel) (by decide) ?_
  refine V_aload_n d_X_count_96 rfl ?_
  refine V_getf d_X_count_97 ff_X_26 zsys_x0 rfl ?_
  refine V_getf d_X_count_100 ff_X_107 zsys_k rfl ?_
  exact V_ireturn d_X_count_103 rfl ⟨Nat.le_of_ble_eq_true rfl, Nat.le_of_ble_eq_true rfl⟩ ⟨rfl, rfl, rfl⟩

set_option maxRecDepth 100000 in
set_option maxHeartbeats 4000000 in
theorem c_count_6 (G : zG) (sz B : Nat) (kd n t zz : Int) (ch : Int32) (md tc : Int) (tg pt : Nat → Int) (L : Nat → Int → Int) (w0 : zW) (hpt : ∀ c : Nat, c < 16 → 0 ≤ pt (97 + 5 * c) ∧ pt (97 + 5 * c) ≤ 3) : zCt G M_X_count (zR 1 0 0 22) [.ref B, .int (Int32.ofInt 6)] sz (zsys G B kd n t zz ch md tc tg pt L w0) (zdet (some (.int (Int32.ofInt (zfc pt 16)))) (zsys G B kd n t zz ch md tc tg pt L w0) sz) := by
  refine V_iload_n d_X_count_0 rfl ?_
  refine V_tableIn (off := 103) 104 d_X_count_1 (by decide) (by decide) (by decide +kernel) (by decide) ?_
  refine V_aload_n d_X_count_104 rfl ?_
  refine V_callV (n := 0) d_X_count_105 g_X_256 rfl zsys_x0 rfl (c_fullCiphers G _ B kd n t zz ch md tc tg pt L w0 hpt) ⟨co_X_fullCiphers, by decide +kernel, Nat.le_of_ble_eq_true rfl⟩ ⟨Nat.le_of_ble_eq_true rfl, Nat.le_of_ble_eq_true rfl, Nat.le_of_ble_eq_true rfl, Nat.le_of_ble_eq_true rfl⟩ (Nat.le_of_ble_eq_true rfl) (fun r_105 w_105 s_105 q_105 => ?_) (fun _ _ _ q => False.elim q)
  obtain ⟨rfl, rfl, rfl⟩ := q_105
  exact V_ireturn d_X_count_108 rfl ⟨Nat.le_of_ble_eq_true rfl, Nat.le_of_ble_eq_true rfl⟩ ⟨rfl, rfl, rfl⟩

set_option maxRecDepth 100000 in
set_option maxHeartbeats 4000000 in
theorem c_count_7 (G : zG) (sz B : Nat) (kd n t zz : Int) (ch : Int32) (md tc : Int) (tg pt : Nat → Int) (L : Nat → Int → Int) (w0 : zW)  : zCt G M_X_count (zR 1 0 0 22) [.ref B, .int (Int32.ofInt 7)] sz (zsys G B kd n t zz ch md tc tg pt L w0) (zdet (some (.int (Int32.ofInt (zup ch)))) (zsys G B kd n t zz ch md tc tg pt L w0) sz) := by
  refine V_iload_n d_X_count_0 rfl ?_
  refine V_tableIn (off := 108) 109 d_X_count_1 (by decide) (by decide) (by decide +kernel) (by decide) ?_
  refine V_aload_n d_X_count_109 rfl ?_
  refine V_getf d_X_count_110 ff_X_19 zsys_x0 rfl ?_
  refine V_callV (n := 0) d_X_count_113 g_X_260 rfl zsys_c rfl (c_upper G _ _ (B + 3) ch zsys_c) ⟨co_Chance_upperHalf, by decide +kernel, Nat.le_of_ble_eq_true rfl⟩ ⟨Nat.le_of_ble_eq_true rfl, Nat.le_of_ble_eq_true rfl, Nat.le_of_ble_eq_true rfl, Nat.le_of_ble_eq_true rfl⟩ (Nat.le_of_ble_eq_true rfl) (fun r_113 w_113 s_113 q_113 => ?_) (fun _ _ _ q => False.elim q)
  obtain ⟨rfl, rfl, rfl⟩ := q_113
  exact V_ireturn d_X_count_116 rfl ⟨Nat.le_of_ble_eq_true rfl, Nat.le_of_ble_eq_true rfl⟩ ⟨rfl, rfl, rfl⟩

set_option maxRecDepth 100000 in
set_option maxHeartbeats 4000000 in
theorem c_count_x (G : zG) (sz B : Nat) (kd n t zz : Int) (ch : Int32) (md tc : Int) (tg pt : Nat → Int) (L : Nat → Int → Int) (w0 : zW) (x : Int) (hx : -2147483648 ≤ x ∧ x < 2147483648) (hb : x < 0 ∨ 7 < x) : zCt G M_X_count (zR 1 0 0 22) [.ref B, .int (Int32.ofInt x)] sz (zsys G B kd n t zz ch md tc tg pt L w0) (zdet (some (.int (Int32.ofInt (-1)))) (zsys G B kd n t zz ch md tc tg pt L w0) sz) := by
  refine V_iload_n d_X_count_0 rfl ?_
  refine V_tableOut 117 d_X_count_1 (by rw [z32 hx]; omega) (by decide) ?_
  refine V_iconst d_X_count_117 ?_
  exact V_ireturn d_X_count_118 rfl ⟨Nat.le_of_ble_eq_true rfl, Nat.le_of_ble_eq_true rfl⟩ ⟨rfl, rfl, rfl⟩

set_option maxRecDepth 100000 in
set_option maxHeartbeats 4000000 in
theorem c_count_4 (G : zG) (sz B : Nat) (kd n t zz : Int) (ch : Int32) (md tc : Int) (tg pt : Nat → Int) (L : Nat → Int → Int) (w0 : zW) (hmd : md = 0 ∨ md = 1) : zCt G M_X_count (zR 1 0 0 22) [.ref B, .int (Int32.ofInt 4)] sz (zsys G B kd n t zz ch md tc tg pt L w0) (zdet (some (.int (Int32.ofInt md))) (zsys G B kd n t zz ch md tc tg pt L w0) sz) := by
  refine V_iload_n d_X_count_0 rfl ?_
  refine V_tableIn (off := 79) 80 d_X_count_1 (by decide) (by decide) (by decide +kernel) (by decide) ?_
  rcases hmd with rfl | rfl
  · skip
    refine V_aload_n d_X_count_80 rfl ?_
    refine V_getf d_X_count_81 ff_X_26 zsys_x0 rfl ?_
    refine V_getf d_X_count_84 ff_X_88 zsys_k rfl ?_
    refine J_if_eq 94 d_X_count_87 (by decide) (by omega) (fun c_87 => ?_) (fun c_87 => absurd c_87 (by decide))
    refine V_iconst d_X_count_94 ?_
    exact V_ireturn d_X_count_95 rfl ⟨Nat.le_of_ble_eq_true rfl, Nat.le_of_ble_eq_true rfl⟩ ⟨rfl, rfl, rfl⟩
  · skip
    refine V_aload_n d_X_count_80 rfl ?_
    refine V_getf d_X_count_81 ff_X_26 zsys_x0 rfl ?_
    refine V_getf d_X_count_84 ff_X_88 zsys_k rfl ?_
    refine J_if_eq 94 d_X_count_87 (by decide) (by omega) (fun c_87 => absurd c_87 (by decide)) (fun c_87 => ?_)
    refine V_iconst d_X_count_90 ?_
    refine V_goto 95 d_X_count_91 (by decide) ?_
    exact V_ireturn d_X_count_95 rfl ⟨Nat.le_of_ble_eq_true rfl, Nat.le_of_ble_eq_true rfl⟩ ⟨rfl, rfl, rfl⟩

set_option maxRecDepth 100000 in
set_option maxHeartbeats 4000000 in
theorem c_begin_no (G : zG) (sz B : Nat) (kd n t zz : Int) (ch : Int32) (md tc : Int) (tg pt : Nat → Int) (L : Nat → Int → Int) (w0 : zW) (k : Int) (hk : -2147483648 ≤ k ∧ k < 2147483648) (s : Int32) (hb : k < 0 ∨ 2 < k) : zCt G M_X_begin (zR 6 1 6 96) [.ref B, .int (Int32.ofInt k), .int s] sz (zsys G B kd n t zz ch md tc tg pt L w0) (zOut (.inr zIAE) (zsys G B kd n t zz ch md tc tg pt L w0) (sz + 1)) := by
  by_cases h0 : k < 0
  · skip
    refine V_iload_n d_X_begin_0 rfl ?_
    refine J_if_lt 12 d_X_begin_1 (by decide) (by omega) (fun c_1 => ?_) (fun c_1 => absurd c_1 (by omega))
    exact V_throwA (tx := "no such kind") d_X_begin_12 d_X_begin_15 (Or.inl ⟨d_X_begin_16, rfl⟩) d_X_begin_18 d_X_begin_21 rfl (by decide) rfl (Nat.le_of_ble_eq_true rfl) (Nat.le_of_ble_eq_true rfl) (Nat.le_of_ble_eq_true rfl) (Nat.le_of_ble_eq_true rfl) ⟨Nat.le_of_ble_eq_true rfl, Nat.le_of_ble_eq_true rfl⟩ ⟨rfl, rfl, rfl⟩
  · skip
    refine V_iload_n d_X_begin_0 rfl ?_
    refine J_if_lt 12 d_X_begin_1 (by decide) (by omega) (fun c_1 => absurd c_1 (by omega)) (fun c_1 => ?_)
    refine V_iload_n d_X_begin_4 rfl ?_
    refine V_getSz d_X_begin_5 gs_X_48 ?_
    refine V_lenSz d_X_begin_8 ?_
    refine J_icmp_lt 22 d_X_begin_9 (by decide) (by omega) (by omega) (fun c_9 => absurd c_9 (by omega)) (fun c_9 => ?_)
    exact V_throwA (tx := "no such kind") d_X_begin_12 d_X_begin_15 (Or.inl ⟨d_X_begin_16, rfl⟩) d_X_begin_18 d_X_begin_21 rfl (by decide) rfl (Nat.le_of_ble_eq_true rfl) (Nat.le_of_ble_eq_true rfl) (Nat.le_of_ble_eq_true rfl) (Nat.le_of_ble_eq_true rfl) ⟨Nat.le_of_ble_eq_true rfl, Nat.le_of_ble_eq_true rfl⟩ ⟨rfl, rfl, rfl⟩

def zPw (k : Int) (L : Nat → Int → Int) : Int → Int := zif (2 * zszI k) (fun j => zpm (zmoI k) (zlr (zmoI k) (zszI k).toNat 1000 2) j.toNat) (L 2)
def zPf (L : Nat → Int → Int) : Nat → Nat → Int → Int
  | 0 => L
  | i + 1 => zFl (88 + i) 0 (zPf L i)

set_option maxRecDepth 100000 in
set_option maxHeartbeats 4000000 in
theorem c_begin (G : zG) (sz B : Nat) (kd n t zz : Int) (ch : Int32) (md tc : Int) (tg pt : Nat → Int) (L : Nat → Int → Int) (w0 : zW) (k : Int) (s : Int32) (hk : 0 ≤ k ∧ k ≤ 2) : zCt G M_X_begin (zR 6 1 6 96) [.ref B, .int (Int32.ofInt k), .int s] sz (zsys G B kd n t zz ch md tc tg pt L w0) (zdet (some (.int (Int32.ofInt (zszI k)))) (zsys G B k (zszI k) (zmoI k) (zlr (zmoI k) (zszI k).toNat 1000 2) s 0 0 tg (zpe pt 16) (zPf (zlu L 2 (zPw k L)) 8) w0) sz) := by
  refine V_iload_n d_X_begin_0 rfl ?_
  refine J_if_lt 12 d_X_begin_1 (by decide) (by omega) (fun c_1 => absurd c_1 (by omega)) (fun c_1 => ?_)
  refine V_iload_n d_X_begin_4 rfl ?_
  refine V_getSz d_X_begin_5 gs_X_48 ?_
  refine V_lenSz d_X_begin_8 ?_
  refine J_icmp_lt 22 d_X_begin_9 (by decide) (by omega) (by omega) (fun c_9 => ?_) (fun c_9 => absurd c_9 (by omega))
  refine V_aload_n d_X_begin_22 rfl ?_
  refine V_getf d_X_begin_23 ff_X_12 zsys_x0 rfl ?_
  refine V_iload_n d_X_begin_26 rfl ?_
  refine V_callV (n := 1) d_X_begin_27 g_X_59 rfl zsys_r rfl (c_choose G _ _ (B + 1) (B + 2) kd n t zz k (L 2) zsys_r (zsys_at (by decide) rfl) hk) ⟨co_Ring_choose, by decide +kernel, Nat.le_of_ble_eq_true rfl⟩ ⟨Nat.le_of_ble_eq_true rfl, Nat.le_of_ble_eq_true rfl, Nat.le_of_ble_eq_true rfl, Nat.le_of_ble_eq_true rfl⟩ (Nat.le_of_ble_eq_true rfl) (fun r_27 w_27 s_27 q_27 => ?_) (fun _ _ _ q => False.elim q)
  obtain ⟨rfl, rfl, rfl⟩ := q_27
  refine V_w zsys_rg ?_
  refine V_aload_n d_X_begin_30 rfl ?_
  refine V_getf d_X_begin_31 ff_X_19 zsys_x0 rfl ?_
  refine V_iload_n d_X_begin_34 rfl ?_
  refine V_callV (n := 1) d_X_begin_35 g_X_63 rfl zsys_c rfl (c_restart G _ _ (B + 3) ch s zsys_c) ⟨co_Chance_restart, by decide +kernel, Nat.le_of_ble_eq_true rfl⟩ ⟨Nat.le_of_ble_eq_true rfl, Nat.le_of_ble_eq_true rfl, Nat.le_of_ble_eq_true rfl, Nat.le_of_ble_eq_true rfl⟩ (Nat.le_of_ble_eq_true rfl) (fun r_35 w_35 s_35 q_35 => ?_) (fun _ _ _ q => False.elim q)
  obtain ⟨rfl, rfl, rfl⟩ := q_35
  refine V_w zsys_ch ?_
  refine V_aload_n d_X_begin_38 rfl ?_
  refine V_getf d_X_begin_39 ff_X_26 zsys_x0 rfl ?_
  refine V_callV (n := 0) d_X_begin_42 g_X_66 rfl zsys_k rfl (c_forget G _ B k (zszI k) (zmoI k) (zlr (zmoI k) (zszI k).toNat 1000 2) s md tc tg pt (zlu L 2 (zPw k L)) w0) ⟨co_KeyRing_forget, by decide +kernel, Nat.le_of_ble_eq_true rfl⟩ ⟨Nat.le_of_ble_eq_true rfl, Nat.le_of_ble_eq_true rfl, Nat.le_of_ble_eq_true rfl, Nat.le_of_ble_eq_true rfl⟩ (Nat.le_of_ble_eq_true rfl) (fun r_42 w_42 s_42 q_42 => ?_) (fun _ _ _ q => False.elim q)
  obtain ⟨rfl, rfl, rfl⟩ := q_42
  refine V_aload_n d_X_begin_45 rfl ?_
  refine V_callV (n := 0) d_X_begin_46 g_X_69 rfl zsys_x0 rfl (c_emptyCiphers G _ B k (zszI k) (zmoI k) (zlr (zmoI k) (zszI k).toNat 1000 2) s 0 0 tg pt (zlu L 2 (zPw k L)) w0) ⟨co_X_emptyCiphers, by decide +kernel, Nat.le_of_ble_eq_true rfl⟩ ⟨Nat.le_of_ble_eq_true rfl, Nat.le_of_ble_eq_true rfl, Nat.le_of_ble_eq_true rfl, Nat.le_of_ble_eq_true rfl⟩ (Nat.le_of_ble_eq_true rfl) (fun r_46 w_46 s_46 q_46 => ?_) (fun _ _ _ q => False.elim q)
  obtain ⟨rfl, rfl, rfl⟩ := q_46
  refine V_iconst d_X_begin_49 ?_
  refine V_istore_n d_X_begin_50 (by decide) ?_
  refine zfor 8 (fun i => V G M_X_begin (zdet (some (.int (Int32.ofInt (zszI k)))) (zsys G B k (zszI k) (zmoI k) (zlr (zmoI k) (zszI k).toNat 1000 2) s 0 0 tg (zpe pt 16) (zPf (zlu L 2 (zPw k L)) 8) w0) sz) (zR 6 1 6 96) 0 0 sz 51 [(0, .ref B), (1, .int (Int32.ofInt k)), (2, .int s), (3, .int (Int32.ofInt (i : Int)))] [] (zsys G B k (zszI k) (zmoI k) (zlr (zmoI k) (zszI k).toNat 1000 2) s 0 0 tg (zpe pt 16) (zPf (zlu L 2 (zPw k L)) i) w0)) ?_ (fun i hi ih => ?_) 0 (Nat.zero_le 8)
  · skip
    refine V_iload_n d_X_begin_51 rfl ?_
    refine J_bipush d_X_begin_52 (by decide) ?_
    refine J_icmp_ge 73 d_X_begin_54 (by decide) (by omega) (by omega) (fun c_54 => ?_) (fun c_54 => absurd c_54 (by omega))
    refine V_aload_n d_X_begin_73 rfl ?_
    refine V_getf d_X_begin_74 ff_X_12 zsys_x0 rfl ?_
    refine V_getf d_X_begin_77 ff_X_78 zsys_r rfl ?_
    exact V_ireturn d_X_begin_80 rfl ⟨Nat.le_of_ble_eq_true rfl, Nat.le_of_ble_eq_true rfl⟩ ⟨rfl, rfl, rfl⟩
  · skip
    refine V_iload_n d_X_begin_51 rfl ?_
    refine J_bipush d_X_begin_52 (by decide) ?_
    refine J_icmp_ge 73 d_X_begin_54 (by decide) (by omega) (by omega) (fun c_54 => absurd c_54 (by omega)) (fun c_54 => ?_)
    refine V_aload_n d_X_begin_57 rfl ?_
    refine V_getf d_X_begin_58 ff_X_32 zsys_x0 rfl ?_
    refine V_iload_n d_X_begin_61 rfl ?_
    refine J_aaload d_X_begin_62 (zsys_at (by decide) rfl) rfl rfl (by omega) (by decide) ((zel (a := fun k => B + (88 + k)) hi).trans rfl : _ = some (B + (88 + i))) ?_
    refine J_lconst (z := 0) d_X_begin_63 rfl ?_
    refine V_callS (n := 2) d_X_begin_64 g_X_72 rfl (c_fill G _ _ (B + (88 + i)) 32 0 _ (zsys_row (zir_p hi)) (by decide)) ⟨co_Arrays_fill, by decide +kernel, Nat.le_of_ble_eq_true rfl⟩ ⟨Nat.le_of_ble_eq_true rfl, Nat.le_of_ble_eq_true rfl, Nat.le_of_ble_eq_true rfl, Nat.le_of_ble_eq_true rfl⟩ (Nat.le_of_ble_eq_true rfl) (fun r_64 w_64 s_64 q_64 => ?_) (fun _ _ _ q => False.elim q)
    obtain ⟨rfl, rfl, rfl⟩ := q_64
    refine V_w (zsys_lu (zir_p hi)) ?_
    refine J_iinc d_X_begin_67 rfl (by decide) ?_
    refine V_goto 51 d_X_begin_70 (by decide) ?_
    exact ih

set_option maxRecDepth 100000 in
set_option maxHeartbeats 4000000 in
theorem c_keys (G : zG) (sz B : Nat) (kd n t zz : Int) (ch : Int32) (md tc : Int) (tg pt : Nat → Int) (L : Nat → Int → Int) (w0 : zW) (nn : Nat) (hnn : n = (nn : Int)) (hn : nn ≤ 32) (h1 : ∀ i : Nat, i < nn → -9223372036854775808 < zMk nn (zlcN ch nn) 8 (zAp nn 6 5 5 (zFl 6 0 (zlu L 5 (zif nn (zrT ch) (L 5))))) 85 i ∧ zMk nn (zlcN ch nn) 8 (zAp nn 6 5 5 (zFl 6 0 (zlu L 5 (zif nn (zrT ch) (L 5))))) 85 i < 9223372036854775808) (h2 : ∀ k : Nat, k < 6 → ∀ i : Nat, i < nn → -9223372036854775808 < zAs nn 85 6 (-(32 ^ k)) (zMk nn (zSwc nn (zMkc nn (zlcN ch nn)) k) (9 + 8 + 1 + k) (zSwL nn (zMkc nn (zlcN ch nn)) 9 6 (zHb nn 7 (zMk nn (zlcN ch nn) 8 (zAp nn 6 5 5 (zFl 6 0 (zlu L 5 (zif nn (zrT ch) (L 5))))))) k)) 85 i ∧ zAs nn 85 6 (-(32 ^ k)) (zMk nn (zSwc nn (zMkc nn (zlcN ch nn)) k) (9 + 8 + 1 + k) (zSwL nn (zMkc nn (zlcN ch nn)) 9 6 (zHb nn 7 (zMk nn (zlcN ch nn) 8 (zAp nn 6 5 5 (zFl 6 0 (zlu L 5 (zif nn (zrT ch) (L 5))))))) k)) 85 i < 9223372036854775808) : zCt G M_X_keys (zR 5 0 0 115) [.ref B] sz (zsys G B kd n t zz ch md tc tg pt L w0) (zdet (some (.int (Int32.ofInt n))) (zsys G B kd n t zz (zRnc nn ch) 1 0 tg (zpe pt 16) (zRnL nn ch L) w0) sz) := by
  subst hnn
  refine V_aload_n d_X_keys_0 rfl ?_
  refine V_getf d_X_keys_1 ff_X_26 zsys_x0 rfl ?_
  refine V_aload_n d_X_keys_4 rfl ?_
  refine V_getf d_X_keys_5 ff_X_12 zsys_x0 rfl ?_
  refine V_aload_n d_X_keys_8 rfl ?_
  refine V_getf d_X_keys_9 ff_X_19 zsys_x0 rfl ?_
  refine V_callV (n := 2) d_X_keys_12 g_X_82 rfl zsys_k rfl (c_renew G _ B kd nn t zz ch md tc tg pt L w0 nn rfl hn h1 h2) ⟨co_KeyRing_renew, by decide +kernel, Nat.le_of_ble_eq_true rfl⟩ ⟨Nat.le_of_ble_eq_true rfl, Nat.le_of_ble_eq_true rfl, Nat.le_of_ble_eq_true rfl, Nat.le_of_ble_eq_true rfl⟩ (Nat.le_of_ble_eq_true rfl) (fun r_12 w_12 s_12 q_12 => ?_) (fun _ _ _ q => False.elim q)
  obtain ⟨rfl, rfl, rfl⟩ := q_12
  refine V_aload_n d_X_keys_15 rfl ?_
  refine V_callV (n := 0) d_X_keys_16 g_X_69 rfl zsys_x0 rfl (c_emptyCiphers G _ B kd nn t zz (zRnc nn ch) 1 0 tg pt (zRnL nn ch L) w0) ⟨co_X_emptyCiphers, by decide +kernel, Nat.le_of_ble_eq_true rfl⟩ ⟨Nat.le_of_ble_eq_true rfl, Nat.le_of_ble_eq_true rfl, Nat.le_of_ble_eq_true rfl, Nat.le_of_ble_eq_true rfl⟩ (Nat.le_of_ble_eq_true rfl) (fun r_16 w_16 s_16 q_16 => ?_) (fun _ _ _ q => False.elim q)
  obtain ⟨rfl, rfl, rfl⟩ := q_16
  refine V_aload_n d_X_keys_19 rfl ?_
  refine V_getf d_X_keys_20 ff_X_12 zsys_x0 rfl ?_
  refine V_getf d_X_keys_23 ff_X_78 zsys_r rfl ?_
  exact V_ireturn d_X_keys_26 rfl ⟨Nat.le_of_ble_eq_true rfl, Nat.le_of_ble_eq_true rfl⟩ ⟨rfl, rfl, rfl⟩

