theorem za_long : zin (.arrayClass .long) := ⟨List.mem_append_right _ (List.mem_of_getElem? (i := 69) (by decide +kernel)), by decide +kernel⟩
theorem za_int : zin (.arrayClass .int) := ⟨List.mem_append_right _ (List.mem_of_getElem? (i := 704) (by decide +kernel)), by decide +kernel⟩
theorem zo_long : zin (.arrayOver (.array .long)) := ⟨List.mem_append_right _ (List.mem_of_getElem? (i := 93) (by decide +kernel)), by decide +kernel⟩
theorem zj_i : zin (.instanceMethod Lib.objectInit) := ⟨List.mem_append_right _ (List.mem_of_getElem? (i := 24) (by decide +kernel)), by decide +kernel⟩
theorem zj_c : zin (.code Lib.objectInit ⟨#[0xb1]⟩ 1 none) := ⟨List.mem_append_right _ (List.mem_of_getElem? (i := 25) (by decide +kernel)), by decide +kernel⟩
theorem zj_Chance_3 : zin (.methodLink "RingCipher$Chance" 3 Lib.objectInit) := ⟨List.mem_append_right _ (List.mem_of_getElem? (i := 75) (by decide +kernel)), by decide +kernel⟩
set_option maxRecDepth 100000 in
set_option maxHeartbeats 4000000 in
theorem c_Chance_init (G : zG) (sz a : Nat) (w : zW) : zCt G M_Chance_init (zR 1 0 0 20) [.ref a] sz w (zdet none w sz) := by
  refine V_aload_n d_Chance_init_0 rfl ?_
  refine V_objInit d_Chance_init_1 zj_Chance_3 zj_i zj_c (Nat.le_of_ble_eq_true rfl) (Nat.le_of_ble_eq_true rfl) ?_
  exact V_return d_Chance_init_4 rfl ⟨(Nat.le_of_ble_eq_true rfl), (Nat.le_of_ble_eq_true rfl)⟩ ⟨rfl, rfl, rfl⟩

theorem zj_Cipher_3 : zin (.methodLink "RingCipher$Cipher" 3 Lib.objectInit) := ⟨List.mem_append_right _ (List.mem_of_getElem? (i := 153) (by decide +kernel)), by decide +kernel⟩
theorem zk_Cipher_9 : zin (.classLink "RingCipher$Cipher" 9 "[[J") := ⟨List.mem_append_right _ (List.mem_of_getElem? (i := 154) (by decide +kernel)), by decide +kernel⟩
set_option maxRecDepth 100000 in
set_option maxHeartbeats 4000000 in
theorem c_Cipher_init (G : zG) (w : zW) (f : Nat → va_E) (B : Nat) (j : Nat) (h0 : f j = (zobj cCipher [.int (Int32.ofInt 0), .ref (B + (j + 1))])) (h1 : f (j + 1) = zrefs G 1 3 (fun k => if k < 3 then some (B + (j + 1 + 1 + k)) else none)) (h2 : ∀ i, i < 3 → f (j + 1 + 1 + i) = zro G 32 (fun _ => 0)) (hw : w (B + j) = some (zobj cCipher [.int (Int32.ofInt 0), .null])) : zCt G M_Cipher_init (zR 1 4 99 20) [.ref (B + j)] (B + (j + 1)) w (zsup none (zbk f B j 5 w) (B + (j + 5)) 4 99) := by
  refine V_aload_n d_Cipher_init_0 rfl ?_
  refine V_objInit d_Cipher_init_1 zj_Cipher_3 zj_i zj_c (Nat.le_of_ble_eq_true rfl) (Nat.le_of_ble_eq_true rfl) ?_
  refine V_aload_n d_Cipher_init_4 rfl ?_
  refine V_iconst d_Cipher_init_5 ?_
  refine J_bipush d_Cipher_init_6 (by decide) ?_
  refine V_mna (n' := 3) (k' := 32) d_Cipher_init_8 zk_Cipher_9 zo_long za_long (by decide) (by decide) rfl rfl (by decide) (by decide) (Nat.le_of_ble_eq_true rfl) (Nat.le_of_ble_eq_true rfl) ?_
  refine V_sub (w' := zbk f B (j + 1) 4 w) (zbk_m (G := G) (f := f) (B := B) (hi := j + 1) (n := 3) (k := 32) (w := w) (h1.trans (zrf (fun k => by omega))) h2) ?_
  refine V_putF d_Cipher_init_12 ff_Cipher_11 ((zbk_o (by omega)).trans hw) rfl rfl rfl rfl rfl rfl rfl (Nat.le_of_ble_eq_true rfl) ?_
  refine V_return d_Cipher_init_15 rfl ⟨Nat.le_of_ble_eq_true rfl, Nat.le_of_ble_eq_true rfl⟩ ⟨rfl, by omega, fun q e hq => ?_⟩
  unfold zbk at hq
  unfold zset zbk
  by_cases h3 : q = B + j
  · rw [if_pos (by omega), show q - B = j by omega, h0] at hq
    rw [if_pos h3]
    exact hq
  · rw [if_neg h3]
    by_cases h4 : B + j ≤ q ∧ q < B + j + 5
    · rw [if_pos h4] at hq
      rw [if_pos (by omega)]
      exact hq
    · rw [if_neg h4] at hq
      rw [if_neg (by omega)]
      exact hq

theorem zj_SwitchKey_3 : zin (.methodLink "RingCipher$SwitchKey" 3 Lib.objectInit) := ⟨List.mem_append_right _ (List.mem_of_getElem? (i := 91) (by decide +kernel)), by decide +kernel⟩
theorem zk_SwitchKey_9 : zin (.classLink "RingCipher$SwitchKey" 9 "[[J") := ⟨List.mem_append_right _ (List.mem_of_getElem? (i := 92) (by decide +kernel)), by decide +kernel⟩
set_option maxRecDepth 100000 in
set_option maxHeartbeats 4000000 in
theorem c_SwitchKey_init (G : zG) (w : zW) (f : Nat → va_E) (B : Nat) (j : Nat) (h0 : f j = (zobj cSwitchKey [.int (Int32.ofInt 0), .ref (B + (j + 1)), .ref (B + (j + 8))])) (h1 : f (j + 1) = zrefs G 1 6 (fun k => if k < 6 then some (B + (j + 1 + 1 + k)) else none)) (h2 : ∀ i, i < 6 → f (j + 1 + 1 + i) = zro G 32 (fun _ => 0)) (h3 : f (j + 8) = zrefs G 1 6 (fun k => if k < 6 then some (B + (j + 8 + 1 + k)) else none)) (h4 : ∀ i, i < 6 → f (j + 8 + 1 + i) = zro G 32 (fun _ => 0)) (hw : w (B + j) = some (zobj cSwitchKey [.int (Int32.ofInt 0), .null, .null])) : zCt G M_SwitchKey_init (zR 1 14 396 20) [.ref (B + j)] (B + (j + 1)) w (zsup none (zbk f B j 15 w) (B + (j + 15)) 14 396) := by
  refine V_aload_n d_SwitchKey_init_0 rfl ?_
  refine V_objInit d_SwitchKey_init_1 zj_SwitchKey_3 zj_i zj_c (Nat.le_of_ble_eq_true rfl) (Nat.le_of_ble_eq_true rfl) ?_
  refine V_aload_n d_SwitchKey_init_4 rfl ?_
  refine J_bipush d_SwitchKey_init_5 (by decide) ?_
  refine J_bipush d_SwitchKey_init_7 (by decide) ?_
  refine V_mna (n' := 6) (k' := 32) d_SwitchKey_init_9 zk_SwitchKey_9 zo_long za_long (by decide) (by decide) rfl rfl (by decide) (by decide) (Nat.le_of_ble_eq_true rfl) (Nat.le_of_ble_eq_true rfl) ?_
  refine V_sub (w' := zbk f B (j + 1) 7 w) (zbk_m (G := G) (f := f) (B := B) (hi := j + 1) (n := 6) (k := 32) (w := w) (h1.trans (zrf (fun k => by omega))) h2) ?_
  refine V_putF d_SwitchKey_init_13 ff_SwitchKey_11 ((zbk_o (by omega)).trans hw) rfl rfl rfl rfl rfl rfl rfl (Nat.le_of_ble_eq_true rfl) ?_
  refine V_aload_n d_SwitchKey_init_16 rfl ?_
  refine J_bipush d_SwitchKey_init_17 (by decide) ?_
  refine J_bipush d_SwitchKey_init_19 (by decide) ?_
  refine V_mna (n' := 6) (k' := 32) d_SwitchKey_init_21 zk_SwitchKey_9 zo_long za_long (by decide) (by decide) rfl rfl (by decide) (by decide) (Nat.le_of_ble_eq_true rfl) (Nat.le_of_ble_eq_true rfl) ?_
  refine V_sub (w' := zbk f B (j + 8) 7 (zset (zbk f B (j + 1) 7 w) (B + j) (zobj cSwitchKey [.int (Int32.ofInt 0), .ref (B + (j + 1)), .null]))) (zbk_m (G := G) (f := f) (B := B) (hi := j + 8) (n := 6) (k := 32) (w := (zset (zbk f B (j + 1) 7 w) (B + j) (zobj cSwitchKey [.int (Int32.ofInt 0), .ref (B + (j + 1)), .null]))) (h3.trans (zrf (fun k => by omega))) h4) ?_
  refine V_putF d_SwitchKey_init_25 ff_SwitchKey_16 ((zbk_o (by omega)).trans zset_s) rfl rfl rfl rfl rfl rfl rfl (Nat.le_of_ble_eq_true rfl) ?_
  refine V_return d_SwitchKey_init_28 rfl ⟨Nat.le_of_ble_eq_true rfl, Nat.le_of_ble_eq_true rfl⟩ ⟨rfl, by omega, fun q e hq => ?_⟩
  unfold zbk at hq
  unfold zset zbk
  dsimp only
  by_cases h5 : q = B + j
  · rw [if_pos (by omega), show q - B = j by omega, h0] at hq
    rw [if_pos h5]
    exact hq
  · rw [if_neg h5]
    by_cases h6 : B + j ≤ q ∧ q < B + j + 15
    · rw [if_pos h6] at hq
      by_cases h7 : B + (j + 8) ≤ q ∧ q < B + (j + 8) + 7
      · rw [if_pos h7]
        exact hq
      · rw [if_neg h7, if_neg h5, if_pos (by omega)]
        exact hq
    · rw [if_neg h6] at hq
      rw [if_neg (by omega), if_neg h5, if_neg (by omega)]
      exact hq

theorem zk_KeyRing_24 : zin (.classLink "RingCipher$KeyRing" 24 "RingCipher$SwitchKey") := ⟨List.mem_append_right _ (List.mem_of_getElem? (i := 86) (by decide +kernel)), by decide +kernel⟩
theorem zn_SwitchKey : zin (.instantiable "RingCipher$SwitchKey" 3) := ⟨List.mem_append_right _ (List.mem_of_getElem? (i := 87) (by decide +kernel)), by decide +kernel⟩
theorem zi_SwitchKey : zin (.initialized "RingCipher$SwitchKey") := ⟨List.mem_append_right _ (List.mem_of_getElem? (i := 5) (by decide +kernel)), by decide +kernel⟩
theorem zj_KeyRing_3 : zin (.methodLink "RingCipher$KeyRing" 3 Lib.objectInit) := ⟨List.mem_append_right _ (List.mem_of_getElem? (i := 85) (by decide +kernel)), by decide +kernel⟩
theorem zo_SwitchKey : zin (.arrayOver (.object "RingCipher$SwitchKey")) := ⟨List.mem_append_right _ (List.mem_of_getElem? (i := 108) (by decide +kernel)), by decide +kernel⟩
set_option maxRecDepth 100000 in
set_option maxHeartbeats 4000000 in
theorem c_KeyRing_init (G : zG) (w : zW) (B : Nat) (zz : Int) (P : Int → Int) (hw : w (B + 4) = some (zobj cKeyRing [.int (Int32.ofInt 0), .int (Int32.ofInt 0), .null, .null, .null, .null, .null, .null, .null, .null])) : zCt G M_KeyRing_init (zR 2 82 2191 40) [.ref (B + 4)] (B + 5) w (zsup none (zbk (zf0 G B zz P) B 4 83 w) (B + 87) 82 2191) := by
  refine V_aload_n d_KeyRing_init_0 rfl ?_
  refine V_objInit d_KeyRing_init_1 zj_KeyRing_3 zj_i zj_c (Nat.le_of_ble_eq_true rfl) (Nat.le_of_ble_eq_true rfl) ?_
  refine V_sub (w' := (zc2 (zf0 G B zz P) B 4 (zobj cKeyRing [.int (Int32.ofInt 0), .int (Int32.ofInt 0), .null, .null, .null, .null, .null, .null, .null, .null]) 4 (zobj cKeyRing [.int (Int32.ofInt 0), .int (Int32.ofInt 0), .null, .null, .null, .null, .null, .null, .null, .null]) 5 5 w)) (zc2_0 hw) ?_
  refine V_aload_n d_KeyRing_init_4 rfl ?_
  refine J_bipush d_KeyRing_init_5 (by decide) ?_
  refine V_newl (n' := 32) d_KeyRing_init_7 za_long (by decide) rfl (by decide) (Nat.le_of_ble_eq_true rfl) (Nat.le_of_ble_eq_true rfl) ?_
  refine V_sub (w' := zbk (zf0 G B zz P) B 5 1 (zc2 (zf0 G B zz P) B 4 (zobj cKeyRing [.int (Int32.ofInt 0), .int (Int32.ofInt 0), .null, .null, .null, .null, .null, .null, .null, .null]) 4 (zobj cKeyRing [.int (Int32.ofInt 0), .int (Int32.ofInt 0), .null, .null, .null, .null, .null, .null, .null, .null]) 5 5 w)) (zbk_1 (zf_row (by unfold zir; omega))) ?_
  refine V_putF d_KeyRing_init_9 ff_KeyRing_9 ((zbk_o (by omega)).trans zc2_a) rfl rfl rfl rfl rfl rfl rfl (Nat.le_of_ble_eq_true rfl) ?_
  refine V_sub (w' := (zc2 (zf0 G B zz P) B 4 (zobj cKeyRing [.int (Int32.ofInt 0), .int (Int32.ofInt 0), .ref (B + 5), .null, .null, .null, .null, .null, .null, .null]) 4 (zobj cKeyRing [.int (Int32.ofInt 0), .int (Int32.ofInt 0), .null, .null, .null, .null, .null, .null, .null, .null]) 5 6 w)) (zc2_put (a := 4) (t := 4) (lo := 5) (hi := 5) (n := 1) (by decide) (by decide) (by decide)) ?_
  refine V_aload_n d_KeyRing_init_12 rfl ?_
  refine J_bipush d_KeyRing_init_13 (by decide) ?_
  refine V_newl (n' := 32) d_KeyRing_init_15 za_long (by decide) rfl (by decide) (Nat.le_of_ble_eq_true rfl) (Nat.le_of_ble_eq_true rfl) ?_
  refine V_sub (w' := zbk (zf0 G B zz P) B 6 1 (zc2 (zf0 G B zz P) B 4 (zobj cKeyRing [.int (Int32.ofInt 0), .int (Int32.ofInt 0), .ref (B + 5), .null, .null, .null, .null, .null, .null, .null]) 4 (zobj cKeyRing [.int (Int32.ofInt 0), .int (Int32.ofInt 0), .null, .null, .null, .null, .null, .null, .null, .null]) 5 6 w)) (zbk_1 (zf_row (by unfold zir; omega))) ?_
  refine V_putF d_KeyRing_init_17 ff_KeyRing_15 ((zbk_o (by omega)).trans zc2_a) rfl rfl rfl rfl rfl rfl rfl (Nat.le_of_ble_eq_true rfl) ?_
  refine V_sub (w' := (zc2 (zf0 G B zz P) B 4 (zobj cKeyRing [.int (Int32.ofInt 0), .int (Int32.ofInt 0), .ref (B + 5), .ref (B + 6), .null, .null, .null, .null, .null, .null]) 4 (zobj cKeyRing [.int (Int32.ofInt 0), .int (Int32.ofInt 0), .null, .null, .null, .null, .null, .null, .null, .null]) 5 7 w)) (zc2_put (a := 4) (t := 4) (lo := 5) (hi := 6) (n := 1) (by decide) (by decide) (by decide)) ?_
  refine V_aload_n d_KeyRing_init_20 rfl ?_
  refine J_bipush d_KeyRing_init_21 (by decide) ?_
  refine V_newl (n' := 32) d_KeyRing_init_23 za_long (by decide) rfl (by decide) (Nat.le_of_ble_eq_true rfl) (Nat.le_of_ble_eq_true rfl) ?_
  refine V_sub (w' := zbk (zf0 G B zz P) B 7 1 (zc2 (zf0 G B zz P) B 4 (zobj cKeyRing [.int (Int32.ofInt 0), .int (Int32.ofInt 0), .ref (B + 5), .ref (B + 6), .null, .null, .null, .null, .null, .null]) 4 (zobj cKeyRing [.int (Int32.ofInt 0), .int (Int32.ofInt 0), .null, .null, .null, .null, .null, .null, .null, .null]) 5 7 w)) (zbk_1 (zf_row (by unfold zir; omega))) ?_
  refine V_putF d_KeyRing_init_25 ff_KeyRing_18 ((zbk_o (by omega)).trans zc2_a) rfl rfl rfl rfl rfl rfl rfl (Nat.le_of_ble_eq_true rfl) ?_
  refine V_sub (w' := (zc2 (zf0 G B zz P) B 4 (zobj cKeyRing [.int (Int32.ofInt 0), .int (Int32.ofInt 0), .ref (B + 5), .ref (B + 6), .ref (B + 7), .null, .null, .null, .null, .null]) 4 (zobj cKeyRing [.int (Int32.ofInt 0), .int (Int32.ofInt 0), .null, .null, .null, .null, .null, .null, .null, .null]) 5 8 w)) (zc2_put (a := 4) (t := 4) (lo := 5) (hi := 7) (n := 1) (by decide) (by decide) (by decide)) ?_
  refine V_aload_n d_KeyRing_init_28 rfl ?_
  refine J_bipush d_KeyRing_init_29 (by decide) ?_
  refine V_newl (n' := 32) d_KeyRing_init_31 za_long (by decide) rfl (by decide) (Nat.le_of_ble_eq_true rfl) (Nat.le_of_ble_eq_true rfl) ?_
  refine V_sub (w' := zbk (zf0 G B zz P) B 8 1 (zc2 (zf0 G B zz P) B 4 (zobj cKeyRing [.int (Int32.ofInt 0), .int (Int32.ofInt 0), .ref (B + 5), .ref (B + 6), .ref (B + 7), .null, .null, .null, .null, .null]) 4 (zobj cKeyRing [.int (Int32.ofInt 0), .int (Int32.ofInt 0), .null, .null, .null, .null, .null, .null, .null, .null]) 5 8 w)) (zbk_1 (zf_row (by unfold zir; omega))) ?_
  refine V_putF d_KeyRing_init_33 ff_KeyRing_21 ((zbk_o (by omega)).trans zc2_a) rfl rfl rfl rfl rfl rfl rfl (Nat.le_of_ble_eq_true rfl) ?_
  refine V_sub (w' := (zc2 (zf0 G B zz P) B 4 (zobj cKeyRing [.int (Int32.ofInt 0), .int (Int32.ofInt 0), .ref (B + 5), .ref (B + 6), .ref (B + 7), .ref (B + 8), .null, .null, .null, .null]) 4 (zobj cKeyRing [.int (Int32.ofInt 0), .int (Int32.ofInt 0), .null, .null, .null, .null, .null, .null, .null, .null]) 5 9 w)) (zc2_put (a := 4) (t := 4) (lo := 5) (hi := 8) (n := 1) (by decide) (by decide) (by decide)) ?_
  refine V_aload_n d_KeyRing_init_36 rfl ?_
  refine V_new (ci := cSwitchKey) [.int (Int32.ofInt 0), .null, .null] d_KeyRing_init_37 rfl zk_KeyRing_24 zn_SwitchKey zi_SwitchKey i_SwitchKey t_SwitchKey_ok (by decide +kernel) (Nat.le_of_ble_eq_true rfl) (Nat.le_of_ble_eq_true rfl) ?_
  refine V_dup d_KeyRing_init_40 rfl ?_
  refine V_callI (n := 0) d_KeyRing_init_41 g_KeyRing_26 rfl (c_SwitchKey_init G (zset (zc2 (zf0 G B zz P) B 4 (zobj cKeyRing [.int (Int32.ofInt 0), .int (Int32.ofInt 0), .ref (B + 5), .ref (B + 6), .ref (B + 7), .ref (B + 8), .null, .null, .null, .null]) 4 (zobj cKeyRing [.int (Int32.ofInt 0), .int (Int32.ofInt 0), .null, .null, .null, .null, .null, .null, .null, .null]) 5 9 w) (B + 9) (zobj cSwitchKey [.int (Int32.ofInt 0), .null, .null])) (zf0 G B zz P) B 9 (zf_swk (by omega)) (zf_swr (by omega)) (fun i hi => zf_row (by unfold zir; omega)) (zf_swr (by omega)) (fun i hi => zf_row (by unfold zir; omega)) zset_s) ⟨co_SwitchKey_init, by decide +kernel, Nat.le_of_ble_eq_true rfl⟩ ⟨Nat.le_of_ble_eq_true rfl, Nat.le_of_ble_eq_true rfl, Nat.le_of_ble_eq_true rfl, Nat.le_of_ble_eq_true rfl⟩ (Nat.le_of_ble_eq_true rfl) (fun r_41 w_41 s_41 q_41 => ?_) (fun _ _ _ q => False.elim q)
  obtain ⟨rfl, rfl, hq_41⟩ := q_41
  refine V_sub (w' := zbk (zf0 G B zz P) B 9 15 (zc2 (zf0 G B zz P) B 4 (zobj cKeyRing [.int (Int32.ofInt 0), .int (Int32.ofInt 0), .ref (B + 5), .ref (B + 6), .ref (B + 7), .ref (B + 8), .null, .null, .null, .null]) 4 (zobj cKeyRing [.int (Int32.ofInt 0), .int (Int32.ofInt 0), .null, .null, .null, .null, .null, .null, .null, .null]) 5 9 w)) (zbk_z (by decide) hq_41) ?_
  refine V_putF d_KeyRing_init_44 ff_KeyRing_27 ((zbk_o (by omega)).trans zc2_a) rfl rfl rfl rfl rfl rfl rfl (Nat.le_of_ble_eq_true rfl) ?_
  refine V_sub (w' := (zc2 (zf0 G B zz P) B 4 (zobj cKeyRing [.int (Int32.ofInt 0), .int (Int32.ofInt 0), .ref (B + 5), .ref (B + 6), .ref (B + 7), .ref (B + 8), .ref (B + 9), .null, .null, .null]) 4 (zobj cKeyRing [.int (Int32.ofInt 0), .int (Int32.ofInt 0), .null, .null, .null, .null, .null, .null, .null, .null]) 5 24 w)) (zc2_put (a := 4) (t := 4) (lo := 5) (hi := 9) (n := 15) (by decide) (by decide) (by decide)) ?_
  refine V_aload_n d_KeyRing_init_47 rfl ?_
  refine V_iconst d_KeyRing_init_48 ?_
  refine V_newr (n' := 4) (ka := 4) d_KeyRing_init_49 rfl zk_KeyRing_24 zo_SwitchKey (by decide) rfl (by decide) (Nat.le_of_ble_eq_true rfl) (Nat.le_of_ble_eq_true rfl) ?_
  refine V_putF d_KeyRing_init_52 ff_KeyRing_31 ((zset_n (by omega)).trans zc2_a) rfl rfl rfl rfl rfl rfl rfl (Nat.le_of_ble_eq_true rfl) ?_
  refine V_sub (w' := (zc2 (zf0 G B zz P) B 4 (zobj cKeyRing [.int (Int32.ofInt 0), .int (Int32.ofInt 0), .ref (B + 5), .ref (B + 6), .ref (B + 7), .ref (B + 8), .ref (B + 9), .ref (B + 24), .null, .null]) 24 (zrefs G 4 4 (fun _ => none)) 5 25 w)) (zc2_arr (by decide) (by decide)) ?_
  refine V_w (w' := (zc2 (zf0 G B zz P) B 4 (zobj cKeyRing [.int (Int32.ofInt 0), .int (Int32.ofInt 0), .ref (B + 5), .ref (B + 6), .ref (B + 7), .ref (B + 8), .ref (B + 9), .ref (B + 24), .null, .null]) 24 (zrefs G 4 4 (fun k => if k < 0 then some (B + (25 + 15 * k)) else none)) 5 25 w)) (by rw [show (fun k : Nat => if k < 0 then some (B + (25 + 15 * k)) else none) = fun _ => none from funext fun k => if_neg (Nat.not_lt_zero k)]) ?_
  refine V_iconst d_KeyRing_init_55 ?_
  refine V_istore_n d_KeyRing_init_56 (by decide) ?_
  have st : ∀ i : Nat, i < 4 → (fun i : Nat => V G M_KeyRing_init (zsup none (zbk (zf0 G B zz P) B 4 83 w) (B + 87) 82 2191) (zR 2 82 2191 40) (20 + 15 * i) (531 + 399 * i) (B + (25 + 15 * i)) 57 [(0, .ref (B + 4)), (1, .int (Int32.ofInt (i : Int)))] [] (zc2 (zf0 G B zz P) B 4 (zobj cKeyRing [.int (Int32.ofInt 0), .int (Int32.ofInt 0), .ref (B + 5), .ref (B + 6), .ref (B + 7), .ref (B + 8), .ref (B + 9), .ref (B + 24), .null, .null]) 24 (zrefs G 4 4 (fun k => if k < i then some (B + (25 + 15 * k)) else none)) 5 (25 + 15 * i) w)) (i + 1) → (fun i : Nat => V G M_KeyRing_init (zsup none (zbk (zf0 G B zz P) B 4 83 w) (B + 87) 82 2191) (zR 2 82 2191 40) (20 + 15 * i) (531 + 399 * i) (B + (25 + 15 * i)) 57 [(0, .ref (B + 4)), (1, .int (Int32.ofInt (i : Int)))] [] (zc2 (zf0 G B zz P) B 4 (zobj cKeyRing [.int (Int32.ofInt 0), .int (Int32.ofInt 0), .ref (B + 5), .ref (B + 6), .ref (B + 7), .ref (B + 8), .ref (B + 9), .ref (B + 24), .null, .null]) 24 (zrefs G 4 4 (fun k => if k < i then some (B + (25 + 15 * k)) else none)) 5 (25 + 15 * i) w)) i := by
    intro i hi ih
    refine V_iload_n d_KeyRing_init_57 rfl ?_
    refine V_iconst d_KeyRing_init_58 ?_
    refine J_icmp_ge 81 d_KeyRing_init_59 (by decide) (by omega) (by omega) (fun c_59 => absurd c_59 (by omega)) (fun c_59 => ?_)
    refine V_aload_n d_KeyRing_init_62 rfl ?_
    refine V_getf d_KeyRing_init_63 ff_KeyRing_31 zc2_a rfl ?_
    refine V_iload_n d_KeyRing_init_66 rfl ?_
    refine V_new (ci := cSwitchKey) [.int (Int32.ofInt 0), .null, .null] d_KeyRing_init_67 rfl zk_KeyRing_24 zn_SwitchKey zi_SwitchKey i_SwitchKey t_SwitchKey_ok (by decide +kernel) (by show _ ≤ (82 : Nat); omega) (by show _ ≤ (2191 : Nat); omega) ?_
    refine V_dup d_KeyRing_init_70 rfl ?_
    refine V_callI (n := 0) d_KeyRing_init_71 g_KeyRing_26 rfl (c_SwitchKey_init G (zset (zc2 (zf0 G B zz P) B 4 (zobj cKeyRing [.int (Int32.ofInt 0), .int (Int32.ofInt 0), .ref (B + 5), .ref (B + 6), .ref (B + 7), .ref (B + 8), .ref (B + 9), .ref (B + 24), .null, .null]) 24 (zrefs G 4 4 (fun k => if k < i then some (B + (25 + 15 * k)) else none)) 5 (25 + 15 * i) w) (B + (25 + 15 * i)) (zobj cSwitchKey [.int (Int32.ofInt 0), .null, .null])) (zf0 G B zz P) B (25 + 15 * i) (zf_swk (by omega)) (zf_swr (by omega)) (fun i hi => zf_row (by unfold zir; omega)) (zf_swr (by omega)) (fun i hi => zf_row (by unfold zir; omega)) zset_s) ⟨co_SwitchKey_init, by decide +kernel, Nat.le_of_ble_eq_true rfl⟩ ⟨Nat.le_of_ble_eq_true rfl, Nat.le_of_ble_eq_true rfl, (by show _ + (14 : Nat) ≤ (82 : Nat); omega), (by show _ + (396 : Nat) ≤ (2191 : Nat); omega)⟩ (Nat.le_of_ble_eq_true rfl) (fun r_71 w_71 s_71 q_71 => ?_) (fun _ _ _ q => False.elim q)
    obtain ⟨rfl, rfl, hq_71⟩ := q_71
    refine V_sub (w' := zbk (zf0 G B zz P) B (25 + 15 * i) 15 (zc2 (zf0 G B zz P) B 4 (zobj cKeyRing [.int (Int32.ofInt 0), .int (Int32.ofInt 0), .ref (B + 5), .ref (B + 6), .ref (B + 7), .ref (B + 8), .ref (B + 9), .ref (B + 24), .null, .null]) 24 (zrefs G 4 4 (fun k => if k < i then some (B + (25 + 15 * k)) else none)) 5 (25 + 15 * i) w)) (zbk_z (by decide) hq_71) ?_
    refine V_aastore d_KeyRing_init_74 ((zbk_o (by omega)).trans (zc2_t (by decide))) rfl ((zbk_i (by omega)).trans (congrArg some (zf_swk (by omega)))) rfl (z32_in (by omega) (by decide)) ?_
    refine V_sub (w' := (zc2 (zf0 G B zz P) B 4 (zobj cKeyRing [.int (Int32.ofInt 0), .int (Int32.ofInt 0), .ref (B + 5), .ref (B + 6), .ref (B + 7), .ref (B + 8), .ref (B + 9), .ref (B + 24), .null, .null]) 24 (zrefs G 4 4 (va_up (fun k => if k < i then some (B + (25 + 15 * k)) else none) (Int32.ofInt (i : Int)).toNatClampNeg (some (B + (25 + 15 * i))))) 5 (25 + 15 * i + 15) w)) (zc2_st (by omega) (by decide) (by omega)) ?_
    rw [zaa (a := fun k => B + (25 + 15 * k)) (by omega)]
    refine J_iinc d_KeyRing_init_75 rfl (by decide) ?_
    refine V_goto 57 d_KeyRing_init_78 (by decide) ?_
    refine V_k (by show 20 + 15 * i + 1 + 14 = 20 + 15 * (i + 1); omega) (by show 531 + 399 * i + 3 + 396 = 531 + 399 * (i + 1); omega) (by omega) (V_w ?_ ih)
    rw [show 25 + 15 * (i + 1) = 25 + 15 * i + 15 by omega]
  refine zfor 4 (fun i : Nat => V G M_KeyRing_init (zsup none (zbk (zf0 G B zz P) B 4 83 w) (B + 87) 82 2191) (zR 2 82 2191 40) (20 + 15 * i) (531 + 399 * i) (B + (25 + 15 * i)) 57 [(0, .ref (B + 4)), (1, .int (Int32.ofInt (i : Int)))] [] (zc2 (zf0 G B zz P) B 4 (zobj cKeyRing [.int (Int32.ofInt 0), .int (Int32.ofInt 0), .ref (B + 5), .ref (B + 6), .ref (B + 7), .ref (B + 8), .ref (B + 9), .ref (B + 24), .null, .null]) 24 (zrefs G 4 4 (fun k => if k < i then some (B + (25 + 15 * k)) else none)) 5 (25 + 15 * i) w)) ?_ st 0 (Nat.zero_le 4)
  refine V_iload_n d_KeyRing_init_57 rfl ?_
  refine V_iconst d_KeyRing_init_58 ?_
  refine J_icmp_ge 81 d_KeyRing_init_59 (by decide) (by omega) (by omega) (fun c_59 => ?_) (fun c_59 => absurd c_59 (by omega))
  refine V_aload_n d_KeyRing_init_81 rfl ?_
  refine J_bipush d_KeyRing_init_82 (by decide) ?_
  refine V_newl (n' := 32) d_KeyRing_init_84 za_long (by decide) rfl (by decide) (Nat.le_of_ble_eq_true rfl) (Nat.le_of_ble_eq_true rfl) ?_
  refine V_sub (w' := zbk (zf0 G B zz P) B 85 1 (zc2 (zf0 G B zz P) B 4 (zobj cKeyRing [.int (Int32.ofInt 0), .int (Int32.ofInt 0), .ref (B + 5), .ref (B + 6), .ref (B + 7), .ref (B + 8), .ref (B + 9), .ref (B + 24), .null, .null]) 24 (zrefs G 4 4 (fun k => if k < 4 then some (B + (25 + 15 * k)) else none)) 5 85 w)) (zbk_1 (zf_row (by unfold zir; omega))) ?_
  refine V_putF d_KeyRing_init_86 ff_KeyRing_35 ((zbk_o (by omega)).trans zc2_a) rfl rfl rfl rfl rfl rfl rfl (Nat.le_of_ble_eq_true rfl) ?_
  refine V_sub (w' := (zc2 (zf0 G B zz P) B 4 (zobj cKeyRing [.int (Int32.ofInt 0), .int (Int32.ofInt 0), .ref (B + 5), .ref (B + 6), .ref (B + 7), .ref (B + 8), .ref (B + 9), .ref (B + 24), .ref (B + 85), .null]) 24 (zrefs G 4 4 (fun k => if k < 4 then some (B + (25 + 15 * k)) else none)) 5 86 w)) (zc2_put (a := 4) (t := 24) (lo := 5) (hi := 85) (n := 1) (by decide) (by decide) (by decide)) ?_
  refine V_aload_n d_KeyRing_init_89 rfl ?_
  refine J_bipush d_KeyRing_init_90 (by decide) ?_
  refine V_newl (n' := 32) d_KeyRing_init_92 za_long (by decide) rfl (by decide) (Nat.le_of_ble_eq_true rfl) (Nat.le_of_ble_eq_true rfl) ?_
  refine V_sub (w' := zbk (zf0 G B zz P) B 86 1 (zc2 (zf0 G B zz P) B 4 (zobj cKeyRing [.int (Int32.ofInt 0), .int (Int32.ofInt 0), .ref (B + 5), .ref (B + 6), .ref (B + 7), .ref (B + 8), .ref (B + 9), .ref (B + 24), .ref (B + 85), .null]) 24 (zrefs G 4 4 (fun k => if k < 4 then some (B + (25 + 15 * k)) else none)) 5 86 w)) (zbk_1 (zf_row (by unfold zir; omega))) ?_
  refine V_putF d_KeyRing_init_94 ff_KeyRing_38 ((zbk_o (by omega)).trans zc2_a) rfl rfl rfl rfl rfl rfl rfl (Nat.le_of_ble_eq_true rfl) ?_
  refine V_sub (w' := (zc2 (zf0 G B zz P) B 4 (zobj cKeyRing [.int (Int32.ofInt 0), .int (Int32.ofInt 0), .ref (B + 5), .ref (B + 6), .ref (B + 7), .ref (B + 8), .ref (B + 9), .ref (B + 24), .ref (B + 85), .ref (B + 86)]) 24 (zrefs G 4 4 (fun k => if k < 4 then some (B + (25 + 15 * k)) else none)) 5 87 w)) (zc2_put (a := 4) (t := 24) (lo := 5) (hi := 86) (n := 1) (by decide) (by decide) (by decide)) ?_
  exact V_return d_KeyRing_init_97 rfl ⟨(Nat.le_of_ble_eq_true rfl), (Nat.le_of_ble_eq_true rfl)⟩ ⟨rfl, rfl, zc2_end (a := 4) (t := 24) (lo := 5) (hi := 87) rfl rfl (Or.inr ⟨by decide, by decide, rfl⟩) (by decide)⟩

theorem zj_Ring_3 : zin (.methodLink "RingCipher$Ring" 3 Lib.objectInit) := ⟨List.mem_append_right _ (List.mem_of_getElem? (i := 31) (by decide +kernel)), by decide +kernel⟩
set_option maxRecDepth 100000 in
set_option maxHeartbeats 4000000 in
theorem c_Ring_init (G : zG) (w : zW) (B : Nat) (hw : w (B + 1) = some (zobj cRing [.int (Int32.ofInt 0), .int (Int32.ofInt 0), .int (Int32.ofInt 0), .int (Int32.ofInt 0), .null])) : zCt G M_Ring_init (zR 3 1 64 71) [.ref (B + 1)] (B + 2) w (zsup none (zbk (zf0 G B (zlr (zmoI 0) (zszI 0).toNat 1000 2) (zif (2 * zszI 0) (fun j => zpm (zmoI 0) (zlr (zmoI 0) (zszI 0).toNat 1000 2) j.toNat) (fun _ => 0))) B 1 2 w) (B + 3) 1 64) := by
  refine V_aload_n d_Ring_init_0 rfl ?_
  refine V_objInit d_Ring_init_1 zj_Ring_3 zj_i zj_c (Nat.le_of_ble_eq_true rfl) (Nat.le_of_ble_eq_true rfl) ?_
  refine V_aload_n d_Ring_init_4 rfl ?_
  refine J_bipush d_Ring_init_5 (by decide) ?_
  refine V_newl (n' := 64) d_Ring_init_7 za_long (by decide) rfl (by decide) (Nat.le_of_ble_eq_true rfl) (Nat.le_of_ble_eq_true rfl) ?_
  refine V_putF d_Ring_init_9 ff_Ring_9 ((zset_n (by omega)).trans hw) rfl rfl rfl rfl rfl rfl rfl (Nat.le_of_ble_eq_true rfl) ?_
  refine V_aload_n d_Ring_init_12 rfl ?_
  refine V_iconst d_Ring_init_13 ?_
  refine V_callV (n := 1) d_Ring_init_14 g_Ring_15 rfl zset_s rfl (c_choose G _ _ (B + 1) (B + 2) 0 0 0 0 0 (fun _ => 0) zset_s ((zset_n (by omega)).trans zset_s) (by decide)) ⟨co_Ring_choose, by decide +kernel, Nat.le_of_ble_eq_true rfl⟩ ⟨Nat.le_of_ble_eq_true rfl, Nat.le_of_ble_eq_true rfl, Nat.le_of_ble_eq_true rfl, Nat.le_of_ble_eq_true rfl⟩ (Nat.le_of_ble_eq_true rfl) (fun r_14 w_14 s_14 q_14 => ?_) (fun _ _ _ q => False.elim q)
  obtain ⟨rfl, rfl, rfl⟩ := q_14
  refine V_return d_Ring_init_17 rfl ⟨Nat.le_of_ble_eq_true rfl, Nat.le_of_ble_eq_true rfl⟩ ⟨rfl, rfl, fun q e hq => ?_⟩
  unfold zbk at hq
  unfold zset
  by_cases h2 : q = B + 2
  · rw [if_pos (by omega), show q - B = 2 by omega] at hq
    rw [if_pos h2]
    exact hq
  · rw [if_neg h2]
    by_cases h1 : q = B + 1
    · rw [if_pos (by omega), show q - B = 1 by omega] at hq
      rw [if_pos h1]
      exact hq
    · rw [if_neg (by omega)] at hq
      rw [if_neg h1, if_neg h1, if_neg h2]
      exact hq

theorem zk_X_35 : zin (.classLink "RingCipher" 35 "RingCipher$Cipher") := ⟨List.mem_append_right _ (List.mem_of_getElem? (i := 147) (by decide +kernel)), by decide +kernel⟩
theorem zn_Cipher : zin (.instantiable "RingCipher$Cipher" 2) := ⟨List.mem_append_right _ (List.mem_of_getElem? (i := 149) (by decide +kernel)), by decide +kernel⟩
theorem zi_Cipher : zin (.initialized "RingCipher$Cipher") := ⟨List.mem_append_right _ (List.mem_of_getElem? (i := 6) (by decide +kernel)), by decide +kernel⟩
theorem zj_X_3 : zin (.methodLink "RingCipher" 3 Lib.objectInit) := ⟨List.mem_append_right _ (List.mem_of_getElem? (i := 23) (by decide +kernel)), by decide +kernel⟩
theorem zk_X_9 : zin (.classLink "RingCipher" 9 "RingCipher$Ring") := ⟨List.mem_append_right _ (List.mem_of_getElem? (i := 26) (by decide +kernel)), by decide +kernel⟩
theorem zn_Ring : zin (.instantiable "RingCipher$Ring" 5) := ⟨List.mem_append_right _ (List.mem_of_getElem? (i := 27) (by decide +kernel)), by decide +kernel⟩
theorem zi_Ring : zin (.initialized "RingCipher$Ring") := ⟨List.mem_append_right _ (List.mem_of_getElem? (i := 2) (by decide +kernel)), by decide +kernel⟩
theorem zk_X_16 : zin (.classLink "RingCipher" 16 "RingCipher$Chance") := ⟨List.mem_append_right _ (List.mem_of_getElem? (i := 70) (by decide +kernel)), by decide +kernel⟩
theorem zn_Chance : zin (.instantiable "RingCipher$Chance" 1) := ⟨List.mem_append_right _ (List.mem_of_getElem? (i := 71) (by decide +kernel)), by decide +kernel⟩
theorem zi_Chance : zin (.initialized "RingCipher$Chance") := ⟨List.mem_append_right _ (List.mem_of_getElem? (i := 3) (by decide +kernel)), by decide +kernel⟩
theorem zk_X_23 : zin (.classLink "RingCipher" 23 "RingCipher$KeyRing") := ⟨List.mem_append_right _ (List.mem_of_getElem? (i := 80) (by decide +kernel)), by decide +kernel⟩
theorem zn_KeyRing : zin (.instantiable "RingCipher$KeyRing" 10) := ⟨List.mem_append_right _ (List.mem_of_getElem? (i := 81) (by decide +kernel)), by decide +kernel⟩
theorem zi_KeyRing : zin (.initialized "RingCipher$KeyRing") := ⟨List.mem_append_right _ (List.mem_of_getElem? (i := 4) (by decide +kernel)), by decide +kernel⟩
theorem zk_X_30 : zin (.classLink "RingCipher" 30 "[[J") := ⟨List.mem_append_right _ (List.mem_of_getElem? (i := 146) (by decide +kernel)), by decide +kernel⟩
theorem zo_Cipher : zin (.arrayOver (.object "RingCipher$Cipher")) := ⟨List.mem_append_right _ (List.mem_of_getElem? (i := 148) (by decide +kernel)), by decide +kernel⟩
set_option maxRecDepth 100000 in
set_option maxHeartbeats 4000000 in
theorem c_X_init (G : zG) (w : zW) (B : Nat) (hw : w B = some (zobj cX [.null, .null, .null, .null, .null, .null, .null])) : zCt G M_X_init (zR 4 185 4398 91) [.ref B] (B + 1) w (zsup none (zbk (zf0 G B (zlr (zmoI 0) (zszI 0).toNat 1000 2) (zif (2 * zszI 0) (fun j => zpm (zmoI 0) (zlr (zmoI 0) (zszI 0).toNat 1000 2) j.toNat) (fun _ => 0))) B 0 186 w) (B + 186) 185 4398) := by
  refine V_aload_n d_X_init_0 rfl ?_
  refine V_objInit d_X_init_1 zj_X_3 zj_i zj_c (Nat.le_of_ble_eq_true rfl) (Nat.le_of_ble_eq_true rfl) ?_
  refine V_sub (w' := (zc2 (zf0 G B (zlr (zmoI 0) (zszI 0).toNat 1000 2) (zif (2 * zszI 0) (fun j => zpm (zmoI 0) (zlr (zmoI 0) (zszI 0).toNat 1000 2) j.toNat) (fun _ => 0))) B 0 (zobj cX [.null, .null, .null, .null, .null, .null, .null]) 0 (zobj cX [.null, .null, .null, .null, .null, .null, .null]) 1 1 w)) (zc2_0 hw) ?_
  refine V_aload_n d_X_init_4 rfl ?_
  refine V_new (ci := cRing) [.int (Int32.ofInt 0), .int (Int32.ofInt 0), .int (Int32.ofInt 0), .int (Int32.ofInt 0), .null] d_X_init_5 rfl zk_X_9 zn_Ring zi_Ring i_Ring t_Ring_ok (by decide +kernel) (Nat.le_of_ble_eq_true rfl) (Nat.le_of_ble_eq_true rfl) ?_
  refine V_dup d_X_init_8 rfl ?_
  refine V_callI (n := 0) d_X_init_9 g_X_11 rfl (c_Ring_init G (zset (zc2 (zf0 G B (zlr (zmoI 0) (zszI 0).toNat 1000 2) (zif (2 * zszI 0) (fun j => zpm (zmoI 0) (zlr (zmoI 0) (zszI 0).toNat 1000 2) j.toNat) (fun _ => 0))) B 0 (zobj cX [.null, .null, .null, .null, .null, .null, .null]) 0 (zobj cX [.null, .null, .null, .null, .null, .null, .null]) 1 1 w) (B + 1) (zobj cRing [.int (Int32.ofInt 0), .int (Int32.ofInt 0), .int (Int32.ofInt 0), .int (Int32.ofInt 0), .null])) B zset_s) ⟨co_Ring_init, by decide +kernel, Nat.le_of_ble_eq_true rfl⟩ ⟨Nat.le_of_ble_eq_true rfl, Nat.le_of_ble_eq_true rfl, Nat.le_of_ble_eq_true rfl, Nat.le_of_ble_eq_true rfl⟩ (Nat.le_of_ble_eq_true rfl) (fun r_9 w_9 s_9 q_9 => ?_) (fun _ _ _ q => False.elim q)
  obtain ⟨rfl, rfl, hq_9⟩ := q_9
  refine V_sub (w' := zbk (zf0 G B (zlr (zmoI 0) (zszI 0).toNat 1000 2) (zif (2 * zszI 0) (fun j => zpm (zmoI 0) (zlr (zmoI 0) (zszI 0).toNat 1000 2) j.toNat) (fun _ => 0))) B 1 2 (zc2 (zf0 G B (zlr (zmoI 0) (zszI 0).toNat 1000 2) (zif (2 * zszI 0) (fun j => zpm (zmoI 0) (zlr (zmoI 0) (zszI 0).toNat 1000 2) j.toNat) (fun _ => 0))) B 0 (zobj cX [.null, .null, .null, .null, .null, .null, .null]) 0 (zobj cX [.null, .null, .null, .null, .null, .null, .null]) 1 1 w)) (zbk_z (by decide) hq_9) ?_
  refine V_putF d_X_init_12 ff_X_12 ((zbk_o (by omega)).trans zc2_a) rfl rfl rfl rfl rfl rfl rfl (Nat.le_of_ble_eq_true rfl) ?_
  refine V_sub (w' := (zc2 (zf0 G B (zlr (zmoI 0) (zszI 0).toNat 1000 2) (zif (2 * zszI 0) (fun j => zpm (zmoI 0) (zlr (zmoI 0) (zszI 0).toNat 1000 2) j.toNat) (fun _ => 0))) B 0 (zobj cX [.ref (B + 1), .null, .null, .null, .null, .null, .null]) 0 (zobj cX [.null, .null, .null, .null, .null, .null, .null]) 1 3 w)) (zc2_put (a := 0) (t := 0) (lo := 1) (hi := 1) (n := 2) (by decide) (by decide) (by decide)) ?_
  refine V_aload_n d_X_init_15 rfl ?_
  refine V_new (ci := cChance) [.int (Int32.ofInt 0)] d_X_init_16 rfl zk_X_16 zn_Chance zi_Chance i_Chance t_Chance_ok (by decide +kernel) (Nat.le_of_ble_eq_true rfl) (Nat.le_of_ble_eq_true rfl) ?_
  refine V_dup d_X_init_19 rfl ?_
  refine V_callI (n := 0) d_X_init_20 g_X_18 rfl (c_Chance_init G (B + 3 + 1) (B + 3) (zset (zc2 (zf0 G B (zlr (zmoI 0) (zszI 0).toNat 1000 2) (zif (2 * zszI 0) (fun j => zpm (zmoI 0) (zlr (zmoI 0) (zszI 0).toNat 1000 2) j.toNat) (fun _ => 0))) B 0 (zobj cX [.ref (B + 1), .null, .null, .null, .null, .null, .null]) 0 (zobj cX [.null, .null, .null, .null, .null, .null, .null]) 1 3 w) (B + 3) (zobj cChance [.int (Int32.ofInt 0)]))) ⟨co_Chance_init, by decide +kernel, Nat.le_of_ble_eq_true rfl⟩ ⟨Nat.le_of_ble_eq_true rfl, Nat.le_of_ble_eq_true rfl, Nat.le_of_ble_eq_true rfl, Nat.le_of_ble_eq_true rfl⟩ (Nat.le_of_ble_eq_true rfl) (fun r_20 w_20 s_20 q_20 => ?_) (fun _ _ _ q => False.elim q)
  obtain ⟨rfl, rfl, rfl⟩ := q_20
  refine V_sub (w' := zbk (zf0 G B (zlr (zmoI 0) (zszI 0).toNat 1000 2) (zif (2 * zszI 0) (fun j => zpm (zmoI 0) (zlr (zmoI 0) (zszI 0).toNat 1000 2) j.toNat) (fun _ => 0))) B 3 1 (zc2 (zf0 G B (zlr (zmoI 0) (zszI 0).toNat 1000 2) (zif (2 * zszI 0) (fun j => zpm (zmoI 0) (zlr (zmoI 0) (zszI 0).toNat 1000 2) j.toNat) (fun _ => 0))) B 0 (zobj cX [.ref (B + 1), .null, .null, .null, .null, .null, .null]) 0 (zobj cX [.null, .null, .null, .null, .null, .null, .null]) 1 3 w)) (zbk_1 rfl) ?_
  refine V_putF d_X_init_23 ff_X_19 ((zbk_o (by omega)).trans zc2_a) rfl rfl rfl rfl rfl rfl rfl (Nat.le_of_ble_eq_true rfl) ?_
  refine V_sub (w' := (zc2 (zf0 G B (zlr (zmoI 0) (zszI 0).toNat 1000 2) (zif (2 * zszI 0) (fun j => zpm (zmoI 0) (zlr (zmoI 0) (zszI 0).toNat 1000 2) j.toNat) (fun _ => 0))) B 0 (zobj cX [.ref (B + 1), .ref (B + 3), .null, .null, .null, .null, .null]) 0 (zobj cX [.null, .null, .null, .null, .null, .null, .null]) 1 4 w)) (zc2_put (a := 0) (t := 0) (lo := 1) (hi := 3) (n := 1) (by decide) (by decide) (by decide)) ?_
  refine V_aload_n d_X_init_26 rfl ?_
  refine V_new (ci := cKeyRing) [.int (Int32.ofInt 0), .int (Int32.ofInt 0), .null, .null, .null, .null, .null, .null, .null, .null] d_X_init_27 rfl zk_X_23 zn_KeyRing zi_KeyRing i_KeyRing t_KeyRing_ok (by decide +kernel) (Nat.le_of_ble_eq_true rfl) (Nat.le_of_ble_eq_true rfl) ?_
  refine V_dup d_X_init_30 rfl ?_
  refine V_callI (n := 0) d_X_init_31 g_X_25 rfl (c_KeyRing_init G (zset (zc2 (zf0 G B (zlr (zmoI 0) (zszI 0).toNat 1000 2) (zif (2 * zszI 0) (fun j => zpm (zmoI 0) (zlr (zmoI 0) (zszI 0).toNat 1000 2) j.toNat) (fun _ => 0))) B 0 (zobj cX [.ref (B + 1), .ref (B + 3), .null, .null, .null, .null, .null]) 0 (zobj cX [.null, .null, .null, .null, .null, .null, .null]) 1 4 w) (B + 4) (zobj cKeyRing [.int (Int32.ofInt 0), .int (Int32.ofInt 0), .null, .null, .null, .null, .null, .null, .null, .null])) B (zlr (zmoI 0) (zszI 0).toNat 1000 2) (zif (2 * zszI 0) (fun j => zpm (zmoI 0) (zlr (zmoI 0) (zszI 0).toNat 1000 2) j.toNat) (fun _ => 0)) zset_s) ⟨co_KeyRing_init, by decide +kernel, Nat.le_of_ble_eq_true rfl⟩ ⟨Nat.le_of_ble_eq_true rfl, Nat.le_of_ble_eq_true rfl, Nat.le_of_ble_eq_true rfl, Nat.le_of_ble_eq_true rfl⟩ (Nat.le_of_ble_eq_true rfl) (fun r_31 w_31 s_31 q_31 => ?_) (fun _ _ _ q => False.elim q)
  obtain ⟨rfl, rfl, hq_31⟩ := q_31
  refine V_sub (w' := zbk (zf0 G B (zlr (zmoI 0) (zszI 0).toNat 1000 2) (zif (2 * zszI 0) (fun j => zpm (zmoI 0) (zlr (zmoI 0) (zszI 0).toNat 1000 2) j.toNat) (fun _ => 0))) B 4 83 (zc2 (zf0 G B (zlr (zmoI 0) (zszI 0).toNat 1000 2) (zif (2 * zszI 0) (fun j => zpm (zmoI 0) (zlr (zmoI 0) (zszI 0).toNat 1000 2) j.toNat) (fun _ => 0))) B 0 (zobj cX [.ref (B + 1), .ref (B + 3), .null, .null, .null, .null, .null]) 0 (zobj cX [.null, .null, .null, .null, .null, .null, .null]) 1 4 w)) (zbk_z (by decide) hq_31) ?_
  refine V_putF d_X_init_34 ff_X_26 ((zbk_o (by omega)).trans zc2_a) rfl rfl rfl rfl rfl rfl rfl (Nat.le_of_ble_eq_true rfl) ?_
  refine V_sub (w' := (zc2 (zf0 G B (zlr (zmoI 0) (zszI 0).toNat 1000 2) (zif (2 * zszI 0) (fun j => zpm (zmoI 0) (zlr (zmoI 0) (zszI 0).toNat 1000 2) j.toNat) (fun _ => 0))) B 0 (zobj cX [.ref (B + 1), .ref (B + 3), .ref (B + 4), .null, .null, .null, .null]) 0 (zobj cX [.null, .null, .null, .null, .null, .null, .null]) 1 87 w)) (zc2_put (a := 0) (t := 0) (lo := 1) (hi := 4) (n := 83) (by decide) (by decide) (by decide)) ?_
  refine V_aload_n d_X_init_37 rfl ?_
  refine J_bipush d_X_init_38 (by decide) ?_
  refine J_bipush d_X_init_40 (by decide) ?_
  refine V_mna (n' := 8) (k' := 32) d_X_init_42 zk_X_30 zo_long za_long (by decide) (by decide) rfl rfl (by decide) (by decide) (Nat.le_of_ble_eq_true rfl) (Nat.le_of_ble_eq_true rfl) ?_
  refine V_sub (w' := zbk (zf0 G B (zlr (zmoI 0) (zszI 0).toNat 1000 2) (zif (2 * zszI 0) (fun j => zpm (zmoI 0) (zlr (zmoI 0) (zszI 0).toNat 1000 2) j.toNat) (fun _ => 0))) B 87 9 (zc2 (zf0 G B (zlr (zmoI 0) (zszI 0).toNat 1000 2) (zif (2 * zszI 0) (fun j => zpm (zmoI 0) (zlr (zmoI 0) (zszI 0).toNat 1000 2) j.toNat) (fun _ => 0))) B 0 (zobj cX [.ref (B + 1), .ref (B + 3), .ref (B + 4), .null, .null, .null, .null]) 0 (zobj cX [.null, .null, .null, .null, .null, .null, .null]) 1 87 w)) (zbk_m (G := G) (hi := 87) (n := 8) (k := 32) ((rfl : (zf0 G B (zlr (zmoI 0) (zszI 0).toNat 1000 2) (zif (2 * zszI 0) (fun j => zpm (zmoI 0) (zlr (zmoI 0) (zszI 0).toNat 1000 2) j.toNat) (fun _ => 0))) 87 = zrefs G 1 8 (fun k => if k < 8 then some (B + (88 + k)) else none)).trans (zrf (fun k => by omega))) (fun i hi => zf_row (by unfold zir; omega))) ?_
  refine V_putF d_X_init_46 ff_X_32 ((zbk_o (by omega)).trans zc2_a) rfl rfl rfl rfl rfl rfl rfl (Nat.le_of_ble_eq_true rfl) ?_
  refine V_sub (w' := (zc2 (zf0 G B (zlr (zmoI 0) (zszI 0).toNat 1000 2) (zif (2 * zszI 0) (fun j => zpm (zmoI 0) (zlr (zmoI 0) (zszI 0).toNat 1000 2) j.toNat) (fun _ => 0))) B 0 (zobj cX [.ref (B + 1), .ref (B + 3), .ref (B + 4), .ref (B + 87), .null, .null, .null]) 0 (zobj cX [.null, .null, .null, .null, .null, .null, .null]) 1 96 w)) (zc2_put (a := 0) (t := 0) (lo := 1) (hi := 87) (n := 9) (by decide) (by decide) (by decide)) ?_
  refine V_aload_n d_X_init_49 rfl ?_
  refine J_bipush d_X_init_50 (by decide) ?_
  refine V_newr (n' := 16) (ka := 3) d_X_init_52 rfl zk_X_35 zo_Cipher (by decide) rfl (by decide) (Nat.le_of_ble_eq_true rfl) (Nat.le_of_ble_eq_true rfl) ?_
  refine V_putF d_X_init_55 ff_X_37 ((zset_n (by omega)).trans zc2_a) rfl rfl rfl rfl rfl rfl rfl (Nat.le_of_ble_eq_true rfl) ?_
  refine V_sub (w' := (zc2 (zf0 G B (zlr (zmoI 0) (zszI 0).toNat 1000 2) (zif (2 * zszI 0) (fun j => zpm (zmoI 0) (zlr (zmoI 0) (zszI 0).toNat 1000 2) j.toNat) (fun _ => 0))) B 0 (zobj cX [.ref (B + 1), .ref (B + 3), .ref (B + 4), .ref (B + 87), .ref (B + 96), .null, .null]) 96 (zrefs G 3 16 (fun _ => none)) 1 97 w)) (zc2_arr (by decide) (by decide)) ?_
  refine V_w (w' := (zc2 (zf0 G B (zlr (zmoI 0) (zszI 0).toNat 1000 2) (zif (2 * zszI 0) (fun j => zpm (zmoI 0) (zlr (zmoI 0) (zszI 0).toNat 1000 2) j.toNat) (fun _ => 0))) B 0 (zobj cX [.ref (B + 1), .ref (B + 3), .ref (B + 4), .ref (B + 87), .ref (B + 96), .null, .null]) 96 (zrefs G 3 16 (fun k => if k < 0 then some (B + (97 + 5 * k)) else none)) 1 97 w)) (by rw [show (fun k : Nat => if k < 0 then some (B + (97 + 5 * k)) else none) = fun _ => none from funext fun k => if_neg (Nat.not_lt_zero k)]) ?_
  refine V_iconst d_X_init_58 ?_
  refine V_istore_n d_X_init_59 (by decide) ?_
  have st : ∀ i : Nat, i < 16 → (fun i : Nat => V G M_X_init (zsup none (zbk (zf0 G B (zlr (zmoI 0) (zszI 0).toNat 1000 2) (zif (2 * zszI 0) (fun j => zpm (zmoI 0) (zlr (zmoI 0) (zszI 0).toNat 1000 2) j.toNat) (fun _ => 0))) B 0 186 w) (B + 186) 185 4398) (zR 4 185 4398 91) (96 + 5 * i) (2551 + 101 * i) (B + (97 + 5 * i)) 60 [(0, .ref B), (1, .int (Int32.ofInt (i : Int)))] [] (zc2 (zf0 G B (zlr (zmoI 0) (zszI 0).toNat 1000 2) (zif (2 * zszI 0) (fun j => zpm (zmoI 0) (zlr (zmoI 0) (zszI 0).toNat 1000 2) j.toNat) (fun _ => 0))) B 0 (zobj cX [.ref (B + 1), .ref (B + 3), .ref (B + 4), .ref (B + 87), .ref (B + 96), .null, .null]) 96 (zrefs G 3 16 (fun k => if k < i then some (B + (97 + 5 * k)) else none)) 1 (97 + 5 * i) w)) (i + 1) → (fun i : Nat => V G M_X_init (zsup none (zbk (zf0 G B (zlr (zmoI 0) (zszI 0).toNat 1000 2) (zif (2 * zszI 0) (fun j => zpm (zmoI 0) (zlr (zmoI 0) (zszI 0).toNat 1000 2) j.toNat) (fun _ => 0))) B 0 186 w) (B + 186) 185 4398) (zR 4 185 4398 91) (96 + 5 * i) (2551 + 101 * i) (B + (97 + 5 * i)) 60 [(0, .ref B), (1, .int (Int32.ofInt (i : Int)))] [] (zc2 (zf0 G B (zlr (zmoI 0) (zszI 0).toNat 1000 2) (zif (2 * zszI 0) (fun j => zpm (zmoI 0) (zlr (zmoI 0) (zszI 0).toNat 1000 2) j.toNat) (fun _ => 0))) B 0 (zobj cX [.ref (B + 1), .ref (B + 3), .ref (B + 4), .ref (B + 87), .ref (B + 96), .null, .null]) 96 (zrefs G 3 16 (fun k => if k < i then some (B + (97 + 5 * k)) else none)) 1 (97 + 5 * i) w)) i := by
    intro i hi ih
    refine V_iload_n d_X_init_60 rfl ?_
    refine J_bipush d_X_init_61 (by decide) ?_
    refine J_icmp_ge 85 d_X_init_63 (by decide) (by omega) (by omega) (fun c_63 => absurd c_63 (by omega)) (fun c_63 => ?_)
    refine V_aload_n d_X_init_66 rfl ?_
    refine V_getf d_X_init_67 ff_X_37 zc2_a rfl ?_
    refine V_iload_n d_X_init_70 rfl ?_
    refine V_new (ci := cCipher) [.int (Int32.ofInt 0), .null] d_X_init_71 rfl zk_X_35 zn_Cipher zi_Cipher i_Cipher t_Cipher_ok (by decide +kernel) (by show _ ≤ (185 : Nat); omega) (by show _ ≤ (4398 : Nat); omega) ?_
    refine V_dup d_X_init_74 rfl ?_
    refine V_callI (n := 0) d_X_init_75 g_X_41 rfl (c_Cipher_init G (zset (zc2 (zf0 G B (zlr (zmoI 0) (zszI 0).toNat 1000 2) (zif (2 * zszI 0) (fun j => zpm (zmoI 0) (zlr (zmoI 0) (zszI 0).toNat 1000 2) j.toNat) (fun _ => 0))) B 0 (zobj cX [.ref (B + 1), .ref (B + 3), .ref (B + 4), .ref (B + 87), .ref (B + 96), .null, .null]) 96 (zrefs G 3 16 (fun k => if k < i then some (B + (97 + 5 * k)) else none)) 1 (97 + 5 * i) w) (B + (97 + 5 * i)) (zobj cCipher [.int (Int32.ofInt 0), .null])) (zf0 G B (zlr (zmoI 0) (zszI 0).toNat 1000 2) (zif (2 * zszI 0) (fun j => zpm (zmoI 0) (zlr (zmoI 0) (zszI 0).toNat 1000 2) j.toNat) (fun _ => 0))) B (97 + 5 * i) (zf_cip hi) (zf_cir hi) (fun m hm => zf_row (by unfold zir; omega)) zset_s) ⟨co_Cipher_init, by decide +kernel, Nat.le_of_ble_eq_true rfl⟩ ⟨Nat.le_of_ble_eq_true rfl, Nat.le_of_ble_eq_true rfl, (by show _ + (4 : Nat) ≤ (185 : Nat); omega), (by show _ + (99 : Nat) ≤ (4398 : Nat); omega)⟩ (Nat.le_of_ble_eq_true rfl) (fun r_75 w_75 s_75 q_75 => ?_) (fun _ _ _ q => False.elim q)
    obtain ⟨rfl, rfl, hq_75⟩ := q_75
    refine V_sub (w' := zbk (zf0 G B (zlr (zmoI 0) (zszI 0).toNat 1000 2) (zif (2 * zszI 0) (fun j => zpm (zmoI 0) (zlr (zmoI 0) (zszI 0).toNat 1000 2) j.toNat) (fun _ => 0))) B (97 + 5 * i) 5 (zc2 (zf0 G B (zlr (zmoI 0) (zszI 0).toNat 1000 2) (zif (2 * zszI 0) (fun j => zpm (zmoI 0) (zlr (zmoI 0) (zszI 0).toNat 1000 2) j.toNat) (fun _ => 0))) B 0 (zobj cX [.ref (B + 1), .ref (B + 3), .ref (B + 4), .ref (B + 87), .ref (B + 96), .null, .null]) 96 (zrefs G 3 16 (fun k => if k < i then some (B + (97 + 5 * k)) else none)) 1 (97 + 5 * i) w)) (zbk_z (by decide) hq_75) ?_
    refine V_aastore d_X_init_78 ((zbk_o (by omega)).trans (zc2_t (by decide))) rfl ((zbk_i (by omega)).trans (congrArg some (zf_cip hi))) rfl (z32_in (by omega) (by decide)) ?_
    refine V_sub (w' := (zc2 (zf0 G B (zlr (zmoI 0) (zszI 0).toNat 1000 2) (zif (2 * zszI 0) (fun j => zpm (zmoI 0) (zlr (zmoI 0) (zszI 0).toNat 1000 2) j.toNat) (fun _ => 0))) B 0 (zobj cX [.ref (B + 1), .ref (B + 3), .ref (B + 4), .ref (B + 87), .ref (B + 96), .null, .null]) 96 (zrefs G 3 16 (va_up (fun k => if k < i then some (B + (97 + 5 * k)) else none) (Int32.ofInt (i : Int)).toNatClampNeg (some (B + (97 + 5 * i))))) 1 (97 + 5 * i + 5) w)) (zc2_st (by omega) (by decide) (by omega)) ?_
    rw [zaa (a := fun k => B + (97 + 5 * k)) (by omega)]
    refine J_iinc d_X_init_79 rfl (by decide) ?_
    refine V_goto 60 d_X_init_82 (by decide) ?_
    refine V_k (by show 96 + 5 * i + 1 + 4 = 96 + 5 * (i + 1); omega) (by show 2551 + 101 * i + 2 + 99 = 2551 + 101 * (i + 1); omega) (by omega) (V_w ?_ ih)
    rw [show 97 + 5 * (i + 1) = 97 + 5 * i + 5 by omega]
  refine zfor 16 (fun i : Nat => V G M_X_init (zsup none (zbk (zf0 G B (zlr (zmoI 0) (zszI 0).toNat 1000 2) (zif (2 * zszI 0) (fun j => zpm (zmoI 0) (zlr (zmoI 0) (zszI 0).toNat 1000 2) j.toNat) (fun _ => 0))) B 0 186 w) (B + 186) 185 4398) (zR 4 185 4398 91) (96 + 5 * i) (2551 + 101 * i) (B + (97 + 5 * i)) 60 [(0, .ref B), (1, .int (Int32.ofInt (i : Int)))] [] (zc2 (zf0 G B (zlr (zmoI 0) (zszI 0).toNat 1000 2) (zif (2 * zszI 0) (fun j => zpm (zmoI 0) (zlr (zmoI 0) (zszI 0).toNat 1000 2) j.toNat) (fun _ => 0))) B 0 (zobj cX [.ref (B + 1), .ref (B + 3), .ref (B + 4), .ref (B + 87), .ref (B + 96), .null, .null]) 96 (zrefs G 3 16 (fun k => if k < i then some (B + (97 + 5 * k)) else none)) 1 (97 + 5 * i) w)) ?_ st 0 (Nat.zero_le 16)
  refine V_iload_n d_X_init_60 rfl ?_
  refine J_bipush d_X_init_61 (by decide) ?_
  refine J_icmp_ge 85 d_X_init_63 (by decide) (by omega) (by omega) (fun c_63 => ?_) (fun c_63 => absurd c_63 (by omega))
  refine V_aload_n d_X_init_85 rfl ?_
  refine V_iconst d_X_init_86 ?_
  refine J_bipush d_X_init_87 (by decide) ?_
  refine V_mna (n' := 3) (k' := 32) d_X_init_89 zk_X_30 zo_long za_long (by decide) (by decide) rfl rfl (by decide) (by decide) (Nat.le_of_ble_eq_true rfl) (Nat.le_of_ble_eq_true rfl) ?_
  refine V_sub (w' := zbk (zf0 G B (zlr (zmoI 0) (zszI 0).toNat 1000 2) (zif (2 * zszI 0) (fun j => zpm (zmoI 0) (zlr (zmoI 0) (zszI 0).toNat 1000 2) j.toNat) (fun _ => 0))) B 177 4 (zc2 (zf0 G B (zlr (zmoI 0) (zszI 0).toNat 1000 2) (zif (2 * zszI 0) (fun j => zpm (zmoI 0) (zlr (zmoI 0) (zszI 0).toNat 1000 2) j.toNat) (fun _ => 0))) B 0 (zobj cX [.ref (B + 1), .ref (B + 3), .ref (B + 4), .ref (B + 87), .ref (B + 96), .null, .null]) 96 (zrefs G 3 16 (fun k => if k < 16 then some (B + (97 + 5 * k)) else none)) 1 177 w)) (zbk_m (G := G) (hi := 177) (n := 3) (k := 32) ((rfl : (zf0 G B (zlr (zmoI 0) (zszI 0).toNat 1000 2) (zif (2 * zszI 0) (fun j => zpm (zmoI 0) (zlr (zmoI 0) (zszI 0).toNat 1000 2) j.toNat) (fun _ => 0))) 177 = zrefs G 1 3 (fun k => if k < 3 then some (B + (178 + k)) else none)).trans (zrf (fun k => by omega))) (fun i hi => zf_row (by unfold zir; omega))) ?_
  refine V_putF d_X_init_93 ff_X_42 ((zbk_o (by omega)).trans zc2_a) rfl rfl rfl rfl rfl rfl rfl (Nat.le_of_ble_eq_true rfl) ?_
  refine V_sub (w' := (zc2 (zf0 G B (zlr (zmoI 0) (zszI 0).toNat 1000 2) (zif (2 * zszI 0) (fun j => zpm (zmoI 0) (zlr (zmoI 0) (zszI 0).toNat 1000 2) j.toNat) (fun _ => 0))) B 0 (zobj cX [.ref (B + 1), .ref (B + 3), .ref (B + 4), .ref (B + 87), .ref (B + 96), .ref (B + 177), .null]) 96 (zrefs G 3 16 (fun k => if k < 16 then some (B + (97 + 5 * k)) else none)) 1 181 w)) (zc2_put (a := 0) (t := 96) (lo := 1) (hi := 177) (n := 4) (by decide) (by decide) (by decide)) ?_
  refine V_aload_n d_X_init_96 rfl ?_
  refine V_iconst d_X_init_97 ?_
  refine J_bipush d_X_init_98 (by decide) ?_
  refine V_mna (n' := 4) (k' := 32) d_X_init_100 zk_X_30 zo_long za_long (by decide) (by decide) rfl rfl (by decide) (by decide) (Nat.le_of_ble_eq_true rfl) (Nat.le_of_ble_eq_true rfl) ?_
  refine V_sub (w' := zbk (zf0 G B (zlr (zmoI 0) (zszI 0).toNat 1000 2) (zif (2 * zszI 0) (fun j => zpm (zmoI 0) (zlr (zmoI 0) (zszI 0).toNat 1000 2) j.toNat) (fun _ => 0))) B 181 5 (zc2 (zf0 G B (zlr (zmoI 0) (zszI 0).toNat 1000 2) (zif (2 * zszI 0) (fun j => zpm (zmoI 0) (zlr (zmoI 0) (zszI 0).toNat 1000 2) j.toNat) (fun _ => 0))) B 0 (zobj cX [.ref (B + 1), .ref (B + 3), .ref (B + 4), .ref (B + 87), .ref (B + 96), .ref (B + 177), .null]) 96 (zrefs G 3 16 (fun k => if k < 16 then some (B + (97 + 5 * k)) else none)) 1 181 w)) (zbk_m (G := G) (hi := 181) (n := 4) (k := 32) ((rfl : (zf0 G B (zlr (zmoI 0) (zszI 0).toNat 1000 2) (zif (2 * zszI 0) (fun j => zpm (zmoI 0) (zlr (zmoI 0) (zszI 0).toNat 1000 2) j.toNat) (fun _ => 0))) 181 = zrefs G 1 4 (fun k => if k < 4 then some (B + (182 + k)) else none)).trans (zrf (fun k => by omega))) (fun i hi => zf_row (by unfold zir; omega))) ?_
  refine V_putF d_X_init_104 ff_X_45 ((zbk_o (by omega)).trans zc2_a) rfl rfl rfl rfl rfl rfl rfl (Nat.le_of_ble_eq_true rfl) ?_
  refine V_sub (w' := (zc2 (zf0 G B (zlr (zmoI 0) (zszI 0).toNat 1000 2) (zif (2 * zszI 0) (fun j => zpm (zmoI 0) (zlr (zmoI 0) (zszI 0).toNat 1000 2) j.toNat) (fun _ => 0))) B 0 (zobj cX [.ref (B + 1), .ref (B + 3), .ref (B + 4), .ref (B + 87), .ref (B + 96), .ref (B + 177), .ref (B + 181)]) 96 (zrefs G 3 16 (fun k => if k < 16 then some (B + (97 + 5 * k)) else none)) 1 186 w)) (zc2_put (a := 0) (t := 96) (lo := 1) (hi := 181) (n := 5) (by decide) (by decide) (by decide)) ?_
  exact V_return d_X_init_107 rfl ⟨(Nat.le_of_ble_eq_true rfl), (Nat.le_of_ble_eq_true rfl)⟩ ⟨rfl, rfl, zc2_end (a := 0) (t := 96) (lo := 1) (hi := 186) rfl rfl (Or.inr ⟨by decide, by decide, rfl⟩) (by decide)⟩

theorem zj_Ref_1 : zin (.methodLink "RingCipherModel" 1 Lib.objectInit) := ⟨List.mem_append_right _ (List.mem_of_getElem? (i := 630) (by decide +kernel)), by decide +kernel⟩
set_option maxRecDepth 100000 in
set_option maxHeartbeats 4000000 in
theorem c_Ref_init (G : zG) (w : zW) (B : Nat) (hw : w B = some (zobj cRef [.int (Int32.ofInt 0), .int (Int32.ofInt 0), .int (Int32.ofInt 0), .int (Int32.ofInt 0), .int (Int32.ofInt 0), .int (Int32.ofInt 0), .int (Int32.ofInt 0), .null, .null, .null, .null, .null, .null, .null, .null, .null, .null, .null, .null, .null, .null, .null, .null, .null])) : zCt G M_Ref_init (zR 1 17 4149 20) [.ref B] (B + 1) w (zsup none (zqs G B 0 0 8 17 0 (Int32.ofInt 0) 0 (fun _ _ => 0) w) (B + 18) 17 4149) := by
  refine V_aload_n d_Ref_init_0 rfl ?_
  refine V_objInit d_Ref_init_1 zj_Ref_1 zj_i zj_c (Nat.le_of_ble_eq_true rfl) (Nat.le_of_ble_eq_true rfl) ?_
  refine V_sub (w' := (zc2 (fun j => zqarr G j (fun _ => 0)) B 0 (zobj cRef [.int (Int32.ofInt 0), .int (Int32.ofInt 0), .int (Int32.ofInt 0), .int (Int32.ofInt 0), .int (Int32.ofInt 0), .int (Int32.ofInt 0), .int (Int32.ofInt 0), .null, .null, .null, .null, .null, .null, .null, .null, .null, .null, .null, .null, .null, .null, .null, .null, .null]) 0 (zobj cRef [.int (Int32.ofInt 0), .int (Int32.ofInt 0), .int (Int32.ofInt 0), .int (Int32.ofInt 0), .int (Int32.ofInt 0), .int (Int32.ofInt 0), .int (Int32.ofInt 0), .null, .null, .null, .null, .null, .null, .null, .null, .null, .null, .null, .null, .null, .null, .null, .null, .null]) 1 1 w)) (zc2_0 hw) ?_
  refine V_aload_n d_Ref_init_4 rfl ?_
  refine J_bipush d_Ref_init_5 (by decide) ?_
  refine V_putf d_Ref_init_7 ff_Ref_7 zc2_a ⟨_, _, _, _, rfl, rfl, rfl, rfl, rfl⟩ (Nat.le_of_ble_eq_true rfl) ?_
  refine V_sub (w' := (zc2 (fun j => zqarr G j (fun _ => 0)) B 0 (zobj cRef [.int (Int32.ofInt 0), .int (Int32.ofInt 0), .int (Int32.ofInt 8), .int (Int32.ofInt 0), .int (Int32.ofInt 0), .int (Int32.ofInt 0), .int (Int32.ofInt 0), .null, .null, .null, .null, .null, .null, .null, .null, .null, .null, .null, .null, .null, .null, .null, .null, .null]) 0 (zobj cRef [.int (Int32.ofInt 0), .int (Int32.ofInt 0), .int (Int32.ofInt 0), .int (Int32.ofInt 0), .int (Int32.ofInt 0), .int (Int32.ofInt 0), .int (Int32.ofInt 0), .null, .null, .null, .null, .null, .null, .null, .null, .null, .null, .null, .null, .null, .null, .null, .null, .null]) 1 1 w)) (zc2_set) ?_
  refine V_aload_n d_Ref_init_10 rfl ?_
  refine J_bipush d_Ref_init_11 (by decide) ?_
  refine V_putf d_Ref_init_13 ff_Ref_13 zc2_a ⟨_, _, _, _, rfl, rfl, rfl, rfl, rfl⟩ (Nat.le_of_ble_eq_true rfl) ?_
  refine V_sub (w' := (zc2 (fun j => zqarr G j (fun _ => 0)) B 0 (zobj cRef [.int (Int32.ofInt 0), .int (Int32.ofInt 0), .int (Int32.ofInt 8), .int (Int32.ofInt 17), .int (Int32.ofInt 0), .int (Int32.ofInt 0), .int (Int32.ofInt 0), .null, .null, .null, .null, .null, .null, .null, .null, .null, .null, .null, .null, .null, .null, .null, .null, .null]) 0 (zobj cRef [.int (Int32.ofInt 0), .int (Int32.ofInt 0), .int (Int32.ofInt 0), .int (Int32.ofInt 0), .int (Int32.ofInt 0), .int (Int32.ofInt 0), .int (Int32.ofInt 0), .null, .null, .null, .null, .null, .null, .null, .null, .null, .null, .null, .null, .null, .null, .null, .null, .null]) 1 1 w)) (zc2_set) ?_
  refine V_aload_n d_Ref_init_16 rfl ?_
  refine J_bipush d_Ref_init_17 (by decide) ?_
  refine V_newl (n' := 32) d_Ref_init_19 za_long (by decide) rfl (by decide) (Nat.le_of_ble_eq_true rfl) (Nat.le_of_ble_eq_true rfl) ?_
  refine V_sub (w' := zbk (fun j => zqarr G j (fun _ => 0)) B 1 1 (zc2 (fun j => zqarr G j (fun _ => 0)) B 0 (zobj cRef [.int (Int32.ofInt 0), .int (Int32.ofInt 0), .int (Int32.ofInt 8), .int (Int32.ofInt 17), .int (Int32.ofInt 0), .int (Int32.ofInt 0), .int (Int32.ofInt 0), .null, .null, .null, .null, .null, .null, .null, .null, .null, .null, .null, .null, .null, .null, .null, .null, .null]) 0 (zobj cRef [.int (Int32.ofInt 0), .int (Int32.ofInt 0), .int (Int32.ofInt 0), .int (Int32.ofInt 0), .int (Int32.ofInt 0), .int (Int32.ofInt 0), .int (Int32.ofInt 0), .null, .null, .null, .null, .null, .null, .null, .null, .null, .null, .null, .null, .null, .null, .null, .null, .null]) 1 1 w)) (zbk_1 rfl) ?_
  refine V_putF d_Ref_init_21 ff_Ref_16 ((zbk_o (by omega)).trans zc2_a) rfl rfl rfl rfl rfl rfl rfl (Nat.le_of_ble_eq_true rfl) ?_
  refine V_sub (w' := (zc2 (fun j => zqarr G j (fun _ => 0)) B 0 (zobj cRef [.int (Int32.ofInt 0), .int (Int32.ofInt 0), .int (Int32.ofInt 8), .int (Int32.ofInt 17), .int (Int32.ofInt 0), .int (Int32.ofInt 0), .int (Int32.ofInt 0), .ref (B + 1), .null, .null, .null, .null, .null, .null, .null, .null, .null, .null, .null, .null, .null, .null, .null, .null]) 0 (zobj cRef [.int (Int32.ofInt 0), .int (Int32.ofInt 0), .int (Int32.ofInt 0), .int (Int32.ofInt 0), .int (Int32.ofInt 0), .int (Int32.ofInt 0), .int (Int32.ofInt 0), .null, .null, .null, .null, .null, .null, .null, .null, .null, .null, .null, .null, .null, .null, .null, .null, .null]) 1 2 w)) (zc2_put (a := 0) (t := 0) (lo := 1) (hi := 1) (n := 1) (by decide) (by decide) (by decide)) ?_
  refine V_aload_n d_Ref_init_24 rfl ?_
  refine J_bipush d_Ref_init_25 (by decide) ?_
  refine V_newl (n' := 32) d_Ref_init_27 za_long (by decide) rfl (by decide) (Nat.le_of_ble_eq_true rfl) (Nat.le_of_ble_eq_true rfl) ?_
  refine V_sub (w' := zbk (fun j => zqarr G j (fun _ => 0)) B 2 1 (zc2 (fun j => zqarr G j (fun _ => 0)) B 0 (zobj cRef [.int (Int32.ofInt 0), .int (Int32.ofInt 0), .int (Int32.ofInt 8), .int (Int32.ofInt 17), .int (Int32.ofInt 0), .int (Int32.ofInt 0), .int (Int32.ofInt 0), .ref (B + 1), .null, .null, .null, .null, .null, .null, .null, .null, .null, .null, .null, .null, .null, .null, .null, .null]) 0 (zobj cRef [.int (Int32.ofInt 0), .int (Int32.ofInt 0), .int (Int32.ofInt 0), .int (Int32.ofInt 0), .int (Int32.ofInt 0), .int (Int32.ofInt 0), .int (Int32.ofInt 0), .null, .null, .null, .null, .null, .null, .null, .null, .null, .null, .null, .null, .null, .null, .null, .null, .null]) 1 2 w)) (zbk_1 rfl) ?_
  refine V_putF d_Ref_init_29 ff_Ref_20 ((zbk_o (by omega)).trans zc2_a) rfl rfl rfl rfl rfl rfl rfl (Nat.le_of_ble_eq_true rfl) ?_
  refine V_sub (w' := (zc2 (fun j => zqarr G j (fun _ => 0)) B 0 (zobj cRef [.int (Int32.ofInt 0), .int (Int32.ofInt 0), .int (Int32.ofInt 8), .int (Int32.ofInt 17), .int (Int32.ofInt 0), .int (Int32.ofInt 0), .int (Int32.ofInt 0), .ref (B + 1), .ref (B + 2), .null, .null, .null, .null, .null, .null, .null, .null, .null, .null, .null, .null, .null, .null, .null]) 0 (zobj cRef [.int (Int32.ofInt 0), .int (Int32.ofInt 0), .int (Int32.ofInt 0), .int (Int32.ofInt 0), .int (Int32.ofInt 0), .int (Int32.ofInt 0), .int (Int32.ofInt 0), .null, .null, .null, .null, .null, .null, .null, .null, .null, .null, .null, .null, .null, .null, .null, .null, .null]) 1 3 w)) (zc2_put (a := 0) (t := 0) (lo := 1) (hi := 2) (n := 1) (by decide) (by decide) (by decide)) ?_
  refine V_aload_n d_Ref_init_32 rfl ?_
  refine J_bipush d_Ref_init_33 (by decide) ?_
  refine V_newl (n' := 32) d_Ref_init_35 za_long (by decide) rfl (by decide) (Nat.le_of_ble_eq_true rfl) (Nat.le_of_ble_eq_true rfl) ?_
  refine V_sub (w' := zbk (fun j => zqarr G j (fun _ => 0)) B 3 1 (zc2 (fun j => zqarr G j (fun _ => 0)) B 0 (zobj cRef [.int (Int32.ofInt 0), .int (Int32.ofInt 0), .int (Int32.ofInt 8), .int (Int32.ofInt 17), .int (Int32.ofInt 0), .int (Int32.ofInt 0), .int (Int32.ofInt 0), .ref (B + 1), .ref (B + 2), .null, .null, .null, .null, .null, .null, .null, .null, .null, .null, .null, .null, .null, .null, .null]) 0 (zobj cRef [.int (Int32.ofInt 0), .int (Int32.ofInt 0), .int (Int32.ofInt 0), .int (Int32.ofInt 0), .int (Int32.ofInt 0), .int (Int32.ofInt 0), .int (Int32.ofInt 0), .null, .null, .null, .null, .null, .null, .null, .null, .null, .null, .null, .null, .null, .null, .null, .null, .null]) 1 3 w)) (zbk_1 rfl) ?_
  refine V_putF d_Ref_init_37 ff_Ref_23 ((zbk_o (by omega)).trans zc2_a) rfl rfl rfl rfl rfl rfl rfl (Nat.le_of_ble_eq_true rfl) ?_
  refine V_sub (w' := (zc2 (fun j => zqarr G j (fun _ => 0)) B 0 (zobj cRef [.int (Int32.ofInt 0), .int (Int32.ofInt 0), .int (Int32.ofInt 8), .int (Int32.ofInt 17), .int (Int32.ofInt 0), .int (Int32.ofInt 0), .int (Int32.ofInt 0), .ref (B + 1), .ref (B + 2), .ref (B + 3), .null, .null, .null, .null, .null, .null, .null, .null, .null, .null, .null, .null, .null, .null]) 0 (zobj cRef [.int (Int32.ofInt 0), .int (Int32.ofInt 0), .int (Int32.ofInt 0), .int (Int32.ofInt 0), .int (Int32.ofInt 0), .int (Int32.ofInt 0), .int (Int32.ofInt 0), .null, .null, .null, .null, .null, .null, .null, .null, .null, .null, .null, .null, .null, .null, .null, .null, .null]) 1 4 w)) (zc2_put (a := 0) (t := 0) (lo := 1) (hi := 3) (n := 1) (by decide) (by decide) (by decide)) ?_
  refine V_aload_n d_Ref_init_40 rfl ?_
  refine J_sipush d_Ref_init_41 (by decide) ?_
  refine V_newl (n' := 960) d_Ref_init_44 za_long (by decide) rfl (by decide) (Nat.le_of_ble_eq_true rfl) (Nat.le_of_ble_eq_true rfl) ?_
  refine V_sub (w' := zbk (fun j => zqarr G j (fun _ => 0)) B 4 1 (zc2 (fun j => zqarr G j (fun _ => 0)) B 0 (zobj cRef [.int (Int32.ofInt 0), .int (Int32.ofInt 0), .int (Int32.ofInt 8), .int (Int32.ofInt 17), .int (Int32.ofInt 0), .int (Int32.ofInt 0), .int (Int32.ofInt 0), .ref (B + 1), .ref (B + 2), .ref (B + 3), .null, .null, .null, .null, .null, .null, .null, .null, .null, .null, .null, .null, .null, .null]) 0 (zobj cRef [.int (Int32.ofInt 0), .int (Int32.ofInt 0), .int (Int32.ofInt 0), .int (Int32.ofInt 0), .int (Int32.ofInt 0), .int (Int32.ofInt 0), .int (Int32.ofInt 0), .null, .null, .null, .null, .null, .null, .null, .null, .null, .null, .null, .null, .null, .null, .null, .null, .null]) 1 4 w)) (zbk_1 rfl) ?_
  refine V_putF d_Ref_init_46 ff_Ref_26 ((zbk_o (by omega)).trans zc2_a) rfl rfl rfl rfl rfl rfl rfl (Nat.le_of_ble_eq_true rfl) ?_
  refine V_sub (w' := (zc2 (fun j => zqarr G j (fun _ => 0)) B 0 (zobj cRef [.int (Int32.ofInt 0), .int (Int32.ofInt 0), .int (Int32.ofInt 8), .int (Int32.ofInt 17), .int (Int32.ofInt 0), .int (Int32.ofInt 0), .int (Int32.ofInt 0), .ref (B + 1), .ref (B + 2), .ref (B + 3), .ref (B + 4), .null, .null, .null, .null, .null, .null, .null, .null, .null, .null, .null, .null, .null]) 0 (zobj cRef [.int (Int32.ofInt 0), .int (Int32.ofInt 0), .int (Int32.ofInt 0), .int (Int32.ofInt 0), .int (Int32.ofInt 0), .int (Int32.ofInt 0), .int (Int32.ofInt 0), .null, .null, .null, .null, .null, .null, .null, .null, .null, .null, .null, .null, .null, .null, .null, .null, .null]) 1 5 w)) (zc2_put (a := 0) (t := 0) (lo := 1) (hi := 4) (n := 1) (by decide) (by decide) (by decide)) ?_
  refine V_aload_n d_Ref_init_49 rfl ?_
  refine J_sipush d_Ref_init_50 (by decide) ?_
  refine V_newl (n' := 960) d_Ref_init_53 za_long (by decide) rfl (by decide) (Nat.le_of_ble_eq_true rfl) (Nat.le_of_ble_eq_true rfl) ?_
  refine V_sub (w' := zbk (fun j => zqarr G j (fun _ => 0)) B 5 1 (zc2 (fun j => zqarr G j (fun _ => 0)) B 0 (zobj cRef [.int (Int32.ofInt 0), .int (Int32.ofInt 0), .int (Int32.ofInt 8), .int (Int32.ofInt 17), .int (Int32.ofInt 0), .int (Int32.ofInt 0), .int (Int32.ofInt 0), .ref (B + 1), .ref (B + 2), .ref (B + 3), .ref (B + 4), .null, .null, .null, .null, .null, .null, .null, .null, .null, .null, .null, .null, .null]) 0 (zobj cRef [.int (Int32.ofInt 0), .int (Int32.ofInt 0), .int (Int32.ofInt 0), .int (Int32.ofInt 0), .int (Int32.ofInt 0), .int (Int32.ofInt 0), .int (Int32.ofInt 0), .null, .null, .null, .null, .null, .null, .null, .null, .null, .null, .null, .null, .null, .null, .null, .null, .null]) 1 5 w)) (zbk_1 rfl) ?_
  refine V_putF d_Ref_init_55 ff_Ref_29 ((zbk_o (by omega)).trans zc2_a) rfl rfl rfl rfl rfl rfl rfl (Nat.le_of_ble_eq_true rfl) ?_
  refine V_sub (w' := (zc2 (fun j => zqarr G j (fun _ => 0)) B 0 (zobj cRef [.int (Int32.ofInt 0), .int (Int32.ofInt 0), .int (Int32.ofInt 8), .int (Int32.ofInt 17), .int (Int32.ofInt 0), .int (Int32.ofInt 0), .int (Int32.ofInt 0), .ref (B + 1), .ref (B + 2), .ref (B + 3), .ref (B + 4), .ref (B + 5), .null, .null, .null, .null, .null, .null, .null, .null, .null, .null, .null, .null]) 0 (zobj cRef [.int (Int32.ofInt 0), .int (Int32.ofInt 0), .int (Int32.ofInt 0), .int (Int32.ofInt 0), .int (Int32.ofInt 0), .int (Int32.ofInt 0), .int (Int32.ofInt 0), .null, .null, .null, .null, .null, .null, .null, .null, .null, .null, .null, .null, .null, .null, .null, .null, .null]) 1 6 w)) (zc2_put (a := 0) (t := 0) (lo := 1) (hi := 5) (n := 1) (by decide) (by decide) (by decide)) ?_
  refine V_aload_n d_Ref_init_58 rfl ?_
  refine V_iconst d_Ref_init_59 ?_
  refine V_newi (n' := 5) d_Ref_init_60 za_int (by decide) rfl (by decide) (Nat.le_of_ble_eq_true rfl) (Nat.le_of_ble_eq_true rfl) ?_
  refine V_sub (w' := zbk (fun j => zqarr G j (fun _ => 0)) B 6 1 (zc2 (fun j => zqarr G j (fun _ => 0)) B 0 (zobj cRef [.int (Int32.ofInt 0), .int (Int32.ofInt 0), .int (Int32.ofInt 8), .int (Int32.ofInt 17), .int (Int32.ofInt 0), .int (Int32.ofInt 0), .int (Int32.ofInt 0), .ref (B + 1), .ref (B + 2), .ref (B + 3), .ref (B + 4), .ref (B + 5), .null, .null, .null, .null, .null, .null, .null, .null, .null, .null, .null, .null]) 0 (zobj cRef [.int (Int32.ofInt 0), .int (Int32.ofInt 0), .int (Int32.ofInt 0), .int (Int32.ofInt 0), .int (Int32.ofInt 0), .int (Int32.ofInt 0), .int (Int32.ofInt 0), .null, .null, .null, .null, .null, .null, .null, .null, .null, .null, .null, .null, .null, .null, .null, .null, .null]) 1 6 w)) (zbk_1 rfl) ?_
  refine V_putF d_Ref_init_62 ff_Ref_32 ((zbk_o (by omega)).trans zc2_a) rfl rfl rfl rfl rfl rfl rfl (Nat.le_of_ble_eq_true rfl) ?_
  refine V_sub (w' := (zc2 (fun j => zqarr G j (fun _ => 0)) B 0 (zobj cRef [.int (Int32.ofInt 0), .int (Int32.ofInt 0), .int (Int32.ofInt 8), .int (Int32.ofInt 17), .int (Int32.ofInt 0), .int (Int32.ofInt 0), .int (Int32.ofInt 0), .ref (B + 1), .ref (B + 2), .ref (B + 3), .ref (B + 4), .ref (B + 5), .ref (B + 6), .null, .null, .null, .null, .null, .null, .null, .null, .null, .null, .null]) 0 (zobj cRef [.int (Int32.ofInt 0), .int (Int32.ofInt 0), .int (Int32.ofInt 0), .int (Int32.ofInt 0), .int (Int32.ofInt 0), .int (Int32.ofInt 0), .int (Int32.ofInt 0), .null, .null, .null, .null, .null, .null, .null, .null, .null, .null, .null, .null, .null, .null, .null, .null, .null]) 1 7 w)) (zc2_put (a := 0) (t := 0) (lo := 1) (hi := 6) (n := 1) (by decide) (by decide) (by decide)) ?_
  refine V_aload_n d_Ref_init_65 rfl ?_
  refine J_sipush d_Ref_init_66 (by decide) ?_
  refine V_newi (n' := 256) d_Ref_init_69 za_int (by decide) rfl (by decide) (Nat.le_of_ble_eq_true rfl) (Nat.le_of_ble_eq_true rfl) ?_
  refine V_sub (w' := zbk (fun j => zqarr G j (fun _ => 0)) B 7 1 (zc2 (fun j => zqarr G j (fun _ => 0)) B 0 (zobj cRef [.int (Int32.ofInt 0), .int (Int32.ofInt 0), .int (Int32.ofInt 8), .int (Int32.ofInt 17), .int (Int32.ofInt 0), .int (Int32.ofInt 0), .int (Int32.ofInt 0), .ref (B + 1), .ref (B + 2), .ref (B + 3), .ref (B + 4), .ref (B + 5), .ref (B + 6), .null, .null, .null, .null, .null, .null, .null, .null, .null, .null, .null]) 0 (zobj cRef [.int (Int32.ofInt 0), .int (Int32.ofInt 0), .int (Int32.ofInt 0), .int (Int32.ofInt 0), .int (Int32.ofInt 0), .int (Int32.ofInt 0), .int (Int32.ofInt 0), .null, .null, .null, .null, .null, .null, .null, .null, .null, .null, .null, .null, .null, .null, .null, .null, .null]) 1 7 w)) (zbk_1 rfl) ?_
  refine V_putF d_Ref_init_71 ff_Ref_36 ((zbk_o (by omega)).trans zc2_a) rfl rfl rfl rfl rfl rfl rfl (Nat.le_of_ble_eq_true rfl) ?_
  refine V_sub (w' := (zc2 (fun j => zqarr G j (fun _ => 0)) B 0 (zobj cRef [.int (Int32.ofInt 0), .int (Int32.ofInt 0), .int (Int32.ofInt 8), .int (Int32.ofInt 17), .int (Int32.ofInt 0), .int (Int32.ofInt 0), .int (Int32.ofInt 0), .ref (B + 1), .ref (B + 2), .ref (B + 3), .ref (B + 4), .ref (B + 5), .ref (B + 6), .ref (B + 7), .null, .null, .null, .null, .null, .null, .null, .null, .null, .null]) 0 (zobj cRef [.int (Int32.ofInt 0), .int (Int32.ofInt 0), .int (Int32.ofInt 0), .int (Int32.ofInt 0), .int (Int32.ofInt 0), .int (Int32.ofInt 0), .int (Int32.ofInt 0), .null, .null, .null, .null, .null, .null, .null, .null, .null, .null, .null, .null, .null, .null, .null, .null, .null]) 1 8 w)) (zc2_put (a := 0) (t := 0) (lo := 1) (hi := 7) (n := 1) (by decide) (by decide) (by decide)) ?_
  refine V_aload_n d_Ref_init_74 rfl ?_
  refine J_bipush d_Ref_init_75 (by decide) ?_
  refine V_newi (n' := 16) d_Ref_init_77 za_int (by decide) rfl (by decide) (Nat.le_of_ble_eq_true rfl) (Nat.le_of_ble_eq_true rfl) ?_
  refine V_sub (w' := zbk (fun j => zqarr G j (fun _ => 0)) B 8 1 (zc2 (fun j => zqarr G j (fun _ => 0)) B 0 (zobj cRef [.int (Int32.ofInt 0), .int (Int32.ofInt 0), .int (Int32.ofInt 8), .int (Int32.ofInt 17), .int (Int32.ofInt 0), .int (Int32.ofInt 0), .int (Int32.ofInt 0), .ref (B + 1), .ref (B + 2), .ref (B + 3), .ref (B + 4), .ref (B + 5), .ref (B + 6), .ref (B + 7), .null, .null, .null, .null, .null, .null, .null, .null, .null, .null]) 0 (zobj cRef [.int (Int32.ofInt 0), .int (Int32.ofInt 0), .int (Int32.ofInt 0), .int (Int32.ofInt 0), .int (Int32.ofInt 0), .int (Int32.ofInt 0), .int (Int32.ofInt 0), .null, .null, .null, .null, .null, .null, .null, .null, .null, .null, .null, .null, .null, .null, .null, .null, .null]) 1 8 w)) (zbk_1 rfl) ?_
  refine V_putF d_Ref_init_79 ff_Ref_39 ((zbk_o (by omega)).trans zc2_a) rfl rfl rfl rfl rfl rfl rfl (Nat.le_of_ble_eq_true rfl) ?_
  refine V_sub (w' := (zc2 (fun j => zqarr G j (fun _ => 0)) B 0 (zobj cRef [.int (Int32.ofInt 0), .int (Int32.ofInt 0), .int (Int32.ofInt 8), .int (Int32.ofInt 17), .int (Int32.ofInt 0), .int (Int32.ofInt 0), .int (Int32.ofInt 0), .ref (B + 1), .ref (B + 2), .ref (B + 3), .ref (B + 4), .ref (B + 5), .ref (B + 6), .ref (B + 7), .ref (B + 8), .null, .null, .null, .null, .null, .null, .null, .null, .null]) 0 (zobj cRef [.int (Int32.ofInt 0), .int (Int32.ofInt 0), .int (Int32.ofInt 0), .int (Int32.ofInt 0), .int (Int32.ofInt 0), .int (Int32.ofInt 0), .int (Int32.ofInt 0), .null, .null, .null, .null, .null, .null, .null, .null, .null, .null, .null, .null, .null, .null, .null, .null, .null]) 1 9 w)) (zc2_put (a := 0) (t := 0) (lo := 1) (hi := 8) (n := 1) (by decide) (by decide) (by decide)) ?_
  refine V_aload_n d_Ref_init_82 rfl ?_
  refine J_sipush d_Ref_init_83 (by decide) ?_
  refine V_newl (n' := 1536) d_Ref_init_86 za_long (by decide) rfl (by decide) (Nat.le_of_ble_eq_true rfl) (Nat.le_of_ble_eq_true rfl) ?_
  refine V_sub (w' := zbk (fun j => zqarr G j (fun _ => 0)) B 9 1 (zc2 (fun j => zqarr G j (fun _ => 0)) B 0 (zobj cRef [.int (Int32.ofInt 0), .int (Int32.ofInt 0), .int (Int32.ofInt 8), .int (Int32.ofInt 17), .int (Int32.ofInt 0), .int (Int32.ofInt 0), .int (Int32.ofInt 0), .ref (B + 1), .ref (B + 2), .ref (B + 3), .ref (B + 4), .ref (B + 5), .ref (B + 6), .ref (B + 7), .ref (B + 8), .null, .null, .null, .null, .null, .null, .null, .null, .null]) 0 (zobj cRef [.int (Int32.ofInt 0), .int (Int32.ofInt 0), .int (Int32.ofInt 0), .int (Int32.ofInt 0), .int (Int32.ofInt 0), .int (Int32.ofInt 0), .int (Int32.ofInt 0), .null, .null, .null, .null, .null, .null, .null, .null, .null, .null, .null, .null, .null, .null, .null, .null, .null]) 1 9 w)) (zbk_1 rfl) ?_
  refine V_putF d_Ref_init_88 ff_Ref_42 ((zbk_o (by omega)).trans zc2_a) rfl rfl rfl rfl rfl rfl rfl (Nat.le_of_ble_eq_true rfl) ?_
  refine V_sub (w' := (zc2 (fun j => zqarr G j (fun _ => 0)) B 0 (zobj cRef [.int (Int32.ofInt 0), .int (Int32.ofInt 0), .int (Int32.ofInt 8), .int (Int32.ofInt 17), .int (Int32.ofInt 0), .int (Int32.ofInt 0), .int (Int32.ofInt 0), .ref (B + 1), .ref (B + 2), .ref (B + 3), .ref (B + 4), .ref (B + 5), .ref (B + 6), .ref (B + 7), .ref (B + 8), .ref (B + 9), .null, .null, .null, .null, .null, .null, .null, .null]) 0 (zobj cRef [.int (Int32.ofInt 0), .int (Int32.ofInt 0), .int (Int32.ofInt 0), .int (Int32.ofInt 0), .int (Int32.ofInt 0), .int (Int32.ofInt 0), .int (Int32.ofInt 0), .null, .null, .null, .null, .null, .null, .null, .null, .null, .null, .null, .null, .null, .null, .null, .null, .null]) 1 10 w)) (zc2_put (a := 0) (t := 0) (lo := 1) (hi := 9) (n := 1) (by decide) (by decide) (by decide)) ?_
  refine V_aload_n d_Ref_init_91 rfl ?_
  refine J_bipush d_Ref_init_92 (by decide) ?_
  refine V_newl (n' := 32) d_Ref_init_94 za_long (by decide) rfl (by decide) (Nat.le_of_ble_eq_true rfl) (Nat.le_of_ble_eq_true rfl) ?_
  refine V_sub (w' := zbk (fun j => zqarr G j (fun _ => 0)) B 10 1 (zc2 (fun j => zqarr G j (fun _ => 0)) B 0 (zobj cRef [.int (Int32.ofInt 0), .int (Int32.ofInt 0), .int (Int32.ofInt 8), .int (Int32.ofInt 17), .int (Int32.ofInt 0), .int (Int32.ofInt 0), .int (Int32.ofInt 0), .ref (B + 1), .ref (B + 2), .ref (B + 3), .ref (B + 4), .ref (B + 5), .ref (B + 6), .ref (B + 7), .ref (B + 8), .ref (B + 9), .null, .null, .null, .null, .null, .null, .null, .null]) 0 (zobj cRef [.int (Int32.ofInt 0), .int (Int32.ofInt 0), .int (Int32.ofInt 0), .int (Int32.ofInt 0), .int (Int32.ofInt 0), .int (Int32.ofInt 0), .int (Int32.ofInt 0), .null, .null, .null, .null, .null, .null, .null, .null, .null, .null, .null, .null, .null, .null, .null, .null, .null]) 1 10 w)) (zbk_1 rfl) ?_
  refine V_putF d_Ref_init_96 ff_Ref_45 ((zbk_o (by omega)).trans zc2_a) rfl rfl rfl rfl rfl rfl rfl (Nat.le_of_ble_eq_true rfl) ?_
  refine V_sub (w' := (zc2 (fun j => zqarr G j (fun _ => 0)) B 0 (zobj cRef [.int (Int32.ofInt 0), .int (Int32.ofInt 0), .int (Int32.ofInt 8), .int (Int32.ofInt 17), .int (Int32.ofInt 0), .int (Int32.ofInt 0), .int (Int32.ofInt 0), .ref (B + 1), .ref (B + 2), .ref (B + 3), .ref (B + 4), .ref (B + 5), .ref (B + 6), .ref (B + 7), .ref (B + 8), .ref (B + 9), .ref (B + 10), .null, .null, .null, .null, .null, .null, .null]) 0 (zobj cRef [.int (Int32.ofInt 0), .int (Int32.ofInt 0), .int (Int32.ofInt 0), .int (Int32.ofInt 0), .int (Int32.ofInt 0), .int (Int32.ofInt 0), .int (Int32.ofInt 0), .null, .null, .null, .null, .null, .null, .null, .null, .null, .null, .null, .null, .null, .null, .null, .null, .null]) 1 11 w)) (zc2_put (a := 0) (t := 0) (lo := 1) (hi := 10) (n := 1) (by decide) (by decide) (by decide)) ?_
  refine V_aload_n d_Ref_init_99 rfl ?_
  refine J_bipush d_Ref_init_100 (by decide) ?_
  refine V_newl (n' := 32) d_Ref_init_102 za_long (by decide) rfl (by decide) (Nat.le_of_ble_eq_true rfl) (Nat.le_of_ble_eq_true rfl) ?_
  refine V_sub (w' := zbk (fun j => zqarr G j (fun _ => 0)) B 11 1 (zc2 (fun j => zqarr G j (fun _ => 0)) B 0 (zobj cRef [.int (Int32.ofInt 0), .int (Int32.ofInt 0), .int (Int32.ofInt 8), .int (Int32.ofInt 17), .int (Int32.ofInt 0), .int (Int32.ofInt 0), .int (Int32.ofInt 0), .ref (B + 1), .ref (B + 2), .ref (B + 3), .ref (B + 4), .ref (B + 5), .ref (B + 6), .ref (B + 7), .ref (B + 8), .ref (B + 9), .ref (B + 10), .null, .null, .null, .null, .null, .null, .null]) 0 (zobj cRef [.int (Int32.ofInt 0), .int (Int32.ofInt 0), .int (Int32.ofInt 0), .int (Int32.ofInt 0), .int (Int32.ofInt 0), .int (Int32.ofInt 0), .int (Int32.ofInt 0), .null, .null, .null, .null, .null, .null, .null, .null, .null, .null, .null, .null, .null, .null, .null, .null, .null]) 1 11 w)) (zbk_1 rfl) ?_
  refine V_putF d_Ref_init_104 ff_Ref_48 ((zbk_o (by omega)).trans zc2_a) rfl rfl rfl rfl rfl rfl rfl (Nat.le_of_ble_eq_true rfl) ?_
  refine V_sub (w' := (zc2 (fun j => zqarr G j (fun _ => 0)) B 0 (zobj cRef [.int (Int32.ofInt 0), .int (Int32.ofInt 0), .int (Int32.ofInt 8), .int (Int32.ofInt 17), .int (Int32.ofInt 0), .int (Int32.ofInt 0), .int (Int32.ofInt 0), .ref (B + 1), .ref (B + 2), .ref (B + 3), .ref (B + 4), .ref (B + 5), .ref (B + 6), .ref (B + 7), .ref (B + 8), .ref (B + 9), .ref (B + 10), .ref (B + 11), .null, .null, .null, .null, .null, .null]) 0 (zobj cRef [.int (Int32.ofInt 0), .int (Int32.ofInt 0), .int (Int32.ofInt 0), .int (Int32.ofInt 0), .int (Int32.ofInt 0), .int (Int32.ofInt 0), .int (Int32.ofInt 0), .null, .null, .null, .null, .null, .null, .null, .null, .null, .null, .null, .null, .null, .null, .null, .null, .null]) 1 12 w)) (zc2_put (a := 0) (t := 0) (lo := 1) (hi := 11) (n := 1) (by decide) (by decide) (by decide)) ?_
  refine V_aload_n d_Ref_init_107 rfl ?_
  refine J_bipush d_Ref_init_108 (by decide) ?_
  refine V_newl (n' := 32) d_Ref_init_110 za_long (by decide) rfl (by decide) (Nat.le_of_ble_eq_true rfl) (Nat.le_of_ble_eq_true rfl) ?_
  refine V_sub (w' := zbk (fun j => zqarr G j (fun _ => 0)) B 12 1 (zc2 (fun j => zqarr G j (fun _ => 0)) B 0 (zobj cRef [.int (Int32.ofInt 0), .int (Int32.ofInt 0), .int (Int32.ofInt 8), .int (Int32.ofInt 17), .int (Int32.ofInt 0), .int (Int32.ofInt 0), .int (Int32.ofInt 0), .ref (B + 1), .ref (B + 2), .ref (B + 3), .ref (B + 4), .ref (B + 5), .ref (B + 6), .ref (B + 7), .ref (B + 8), .ref (B + 9), .ref (B + 10), .ref (B + 11), .null, .null, .null, .null, .null, .null]) 0 (zobj cRef [.int (Int32.ofInt 0), .int (Int32.ofInt 0), .int (Int32.ofInt 0), .int (Int32.ofInt 0), .int (Int32.ofInt 0), .int (Int32.ofInt 0), .int (Int32.ofInt 0), .null, .null, .null, .null, .null, .null, .null, .null, .null, .null, .null, .null, .null, .null, .null, .null, .null]) 1 12 w)) (zbk_1 rfl) ?_
  refine V_putF d_Ref_init_112 ff_Ref_51 ((zbk_o (by omega)).trans zc2_a) rfl rfl rfl rfl rfl rfl rfl (Nat.le_of_ble_eq_true rfl) ?_
  refine V_sub (w' := (zc2 (fun j => zqarr G j (fun _ => 0)) B 0 (zobj cRef [.int (Int32.ofInt 0), .int (Int32.ofInt 0), .int (Int32.ofInt 8), .int (Int32.ofInt 17), .int (Int32.ofInt 0), .int (Int32.ofInt 0), .int (Int32.ofInt 0), .ref (B + 1), .ref (B + 2), .ref (B + 3), .ref (B + 4), .ref (B + 5), .ref (B + 6), .ref (B + 7), .ref (B + 8), .ref (B + 9), .ref (B + 10), .ref (B + 11), .ref (B + 12), .null, .null, .null, .null, .null]) 0 (zobj cRef [.int (Int32.ofInt 0), .int (Int32.ofInt 0), .int (Int32.ofInt 0), .int (Int32.ofInt 0), .int (Int32.ofInt 0), .int (Int32.ofInt 0), .int (Int32.ofInt 0), .null, .null, .null, .null, .null, .null, .null, .null, .null, .null, .null, .null, .null, .null, .null, .null, .null]) 1 13 w)) (zc2_put (a := 0) (t := 0) (lo := 1) (hi := 12) (n := 1) (by decide) (by decide) (by decide)) ?_
  refine V_aload_n d_Ref_init_115 rfl ?_
  refine J_bipush d_Ref_init_116 (by decide) ?_
  refine V_newl (n' := 32) d_Ref_init_118 za_long (by decide) rfl (by decide) (Nat.le_of_ble_eq_true rfl) (Nat.le_of_ble_eq_true rfl) ?_
  refine V_sub (w' := zbk (fun j => zqarr G j (fun _ => 0)) B 13 1 (zc2 (fun j => zqarr G j (fun _ => 0)) B 0 (zobj cRef [.int (Int32.ofInt 0), .int (Int32.ofInt 0), .int (Int32.ofInt 8), .int (Int32.ofInt 17), .int (Int32.ofInt 0), .int (Int32.ofInt 0), .int (Int32.ofInt 0), .ref (B + 1), .ref (B + 2), .ref (B + 3), .ref (B + 4), .ref (B + 5), .ref (B + 6), .ref (B + 7), .ref (B + 8), .ref (B + 9), .ref (B + 10), .ref (B + 11), .ref (B + 12), .null, .null, .null, .null, .null]) 0 (zobj cRef [.int (Int32.ofInt 0), .int (Int32.ofInt 0), .int (Int32.ofInt 0), .int (Int32.ofInt 0), .int (Int32.ofInt 0), .int (Int32.ofInt 0), .int (Int32.ofInt 0), .null, .null, .null, .null, .null, .null, .null, .null, .null, .null, .null, .null, .null, .null, .null, .null, .null]) 1 13 w)) (zbk_1 rfl) ?_
  refine V_putF d_Ref_init_120 ff_Ref_54 ((zbk_o (by omega)).trans zc2_a) rfl rfl rfl rfl rfl rfl rfl (Nat.le_of_ble_eq_true rfl) ?_
  refine V_sub (w' := (zc2 (fun j => zqarr G j (fun _ => 0)) B 0 (zobj cRef [.int (Int32.ofInt 0), .int (Int32.ofInt 0), .int (Int32.ofInt 8), .int (Int32.ofInt 17), .int (Int32.ofInt 0), .int (Int32.ofInt 0), .int (Int32.ofInt 0), .ref (B + 1), .ref (B + 2), .ref (B + 3), .ref (B + 4), .ref (B + 5), .ref (B + 6), .ref (B + 7), .ref (B + 8), .ref (B + 9), .ref (B + 10), .ref (B + 11), .ref (B + 12), .ref (B + 13), .null, .null, .null, .null]) 0 (zobj cRef [.int (Int32.ofInt 0), .int (Int32.ofInt 0), .int (Int32.ofInt 0), .int (Int32.ofInt 0), .int (Int32.ofInt 0), .int (Int32.ofInt 0), .int (Int32.ofInt 0), .null, .null, .null, .null, .null, .null, .null, .null, .null, .null, .null, .null, .null, .null, .null, .null, .null]) 1 14 w)) (zc2_put (a := 0) (t := 0) (lo := 1) (hi := 13) (n := 1) (by decide) (by decide) (by decide)) ?_
  refine V_aload_n d_Ref_init_123 rfl ?_
  refine J_bipush d_Ref_init_124 (by decide) ?_
  refine V_newl (n' := 32) d_Ref_init_126 za_long (by decide) rfl (by decide) (Nat.le_of_ble_eq_true rfl) (Nat.le_of_ble_eq_true rfl) ?_
  refine V_sub (w' := zbk (fun j => zqarr G j (fun _ => 0)) B 14 1 (zc2 (fun j => zqarr G j (fun _ => 0)) B 0 (zobj cRef [.int (Int32.ofInt 0), .int (Int32.ofInt 0), .int (Int32.ofInt 8), .int (Int32.ofInt 17), .int (Int32.ofInt 0), .int (Int32.ofInt 0), .int (Int32.ofInt 0), .ref (B + 1), .ref (B + 2), .ref (B + 3), .ref (B + 4), .ref (B + 5), .ref (B + 6), .ref (B + 7), .ref (B + 8), .ref (B + 9), .ref (B + 10), .ref (B + 11), .ref (B + 12), .ref (B + 13), .null, .null, .null, .null]) 0 (zobj cRef [.int (Int32.ofInt 0), .int (Int32.ofInt 0), .int (Int32.ofInt 0), .int (Int32.ofInt 0), .int (Int32.ofInt 0), .int (Int32.ofInt 0), .int (Int32.ofInt 0), .null, .null, .null, .null, .null, .null, .null, .null, .null, .null, .null, .null, .null, .null, .null, .null, .null]) 1 14 w)) (zbk_1 rfl) ?_
  refine V_putF d_Ref_init_128 ff_Ref_57 ((zbk_o (by omega)).trans zc2_a) rfl rfl rfl rfl rfl rfl rfl (Nat.le_of_ble_eq_true rfl) ?_
  refine V_sub (w' := (zc2 (fun j => zqarr G j (fun _ => 0)) B 0 (zobj cRef [.int (Int32.ofInt 0), .int (Int32.ofInt 0), .int (Int32.ofInt 8), .int (Int32.ofInt 17), .int (Int32.ofInt 0), .int (Int32.ofInt 0), .int (Int32.ofInt 0), .ref (B + 1), .ref (B + 2), .ref (B + 3), .ref (B + 4), .ref (B + 5), .ref (B + 6), .ref (B + 7), .ref (B + 8), .ref (B + 9), .ref (B + 10), .ref (B + 11), .ref (B + 12), .ref (B + 13), .ref (B + 14), .null, .null, .null]) 0 (zobj cRef [.int (Int32.ofInt 0), .int (Int32.ofInt 0), .int (Int32.ofInt 0), .int (Int32.ofInt 0), .int (Int32.ofInt 0), .int (Int32.ofInt 0), .int (Int32.ofInt 0), .null, .null, .null, .null, .null, .null, .null, .null, .null, .null, .null, .null, .null, .null, .null, .null, .null]) 1 15 w)) (zc2_put (a := 0) (t := 0) (lo := 1) (hi := 14) (n := 1) (by decide) (by decide) (by decide)) ?_
  refine V_aload_n d_Ref_init_131 rfl ?_
  refine J_bipush d_Ref_init_132 (by decide) ?_
  refine V_newl (n' := 96) d_Ref_init_134 za_long (by decide) rfl (by decide) (Nat.le_of_ble_eq_true rfl) (Nat.le_of_ble_eq_true rfl) ?_
  refine V_sub (w' := zbk (fun j => zqarr G j (fun _ => 0)) B 15 1 (zc2 (fun j => zqarr G j (fun _ => 0)) B 0 (zobj cRef [.int (Int32.ofInt 0), .int (Int32.ofInt 0), .int (Int32.ofInt 8), .int (Int32.ofInt 17), .int (Int32.ofInt 0), .int (Int32.ofInt 0), .int (Int32.ofInt 0), .ref (B + 1), .ref (B + 2), .ref (B + 3), .ref (B + 4), .ref (B + 5), .ref (B + 6), .ref (B + 7), .ref (B + 8), .ref (B + 9), .ref (B + 10), .ref (B + 11), .ref (B + 12), .ref (B + 13), .ref (B + 14), .null, .null, .null]) 0 (zobj cRef [.int (Int32.ofInt 0), .int (Int32.ofInt 0), .int (Int32.ofInt 0), .int (Int32.ofInt 0), .int (Int32.ofInt 0), .int (Int32.ofInt 0), .int (Int32.ofInt 0), .null, .null, .null, .null, .null, .null, .null, .null, .null, .null, .null, .null, .null, .null, .null, .null, .null]) 1 15 w)) (zbk_1 rfl) ?_
  refine V_putF d_Ref_init_136 ff_Ref_60 ((zbk_o (by omega)).trans zc2_a) rfl rfl rfl rfl rfl rfl rfl (Nat.le_of_ble_eq_true rfl) ?_
  refine V_sub (w' := (zc2 (fun j => zqarr G j (fun _ => 0)) B 0 (zobj cRef [.int (Int32.ofInt 0), .int (Int32.ofInt 0), .int (Int32.ofInt 8), .int (Int32.ofInt 17), .int (Int32.ofInt 0), .int (Int32.ofInt 0), .int (Int32.ofInt 0), .ref (B + 1), .ref (B + 2), .ref (B + 3), .ref (B + 4), .ref (B + 5), .ref (B + 6), .ref (B + 7), .ref (B + 8), .ref (B + 9), .ref (B + 10), .ref (B + 11), .ref (B + 12), .ref (B + 13), .ref (B + 14), .ref (B + 15), .null, .null]) 0 (zobj cRef [.int (Int32.ofInt 0), .int (Int32.ofInt 0), .int (Int32.ofInt 0), .int (Int32.ofInt 0), .int (Int32.ofInt 0), .int (Int32.ofInt 0), .int (Int32.ofInt 0), .null, .null, .null, .null, .null, .null, .null, .null, .null, .null, .null, .null, .null, .null, .null, .null, .null]) 1 16 w)) (zc2_put (a := 0) (t := 0) (lo := 1) (hi := 15) (n := 1) (by decide) (by decide) (by decide)) ?_
  refine V_aload_n d_Ref_init_139 rfl ?_
  refine J_bipush d_Ref_init_140 (by decide) ?_
  refine V_newl (n' := 32) d_Ref_init_142 za_long (by decide) rfl (by decide) (Nat.le_of_ble_eq_true rfl) (Nat.le_of_ble_eq_true rfl) ?_
  refine V_sub (w' := zbk (fun j => zqarr G j (fun _ => 0)) B 16 1 (zc2 (fun j => zqarr G j (fun _ => 0)) B 0 (zobj cRef [.int (Int32.ofInt 0), .int (Int32.ofInt 0), .int (Int32.ofInt 8), .int (Int32.ofInt 17), .int (Int32.ofInt 0), .int (Int32.ofInt 0), .int (Int32.ofInt 0), .ref (B + 1), .ref (B + 2), .ref (B + 3), .ref (B + 4), .ref (B + 5), .ref (B + 6), .ref (B + 7), .ref (B + 8), .ref (B + 9), .ref (B + 10), .ref (B + 11), .ref (B + 12), .ref (B + 13), .ref (B + 14), .ref (B + 15), .null, .null]) 0 (zobj cRef [.int (Int32.ofInt 0), .int (Int32.ofInt 0), .int (Int32.ofInt 0), .int (Int32.ofInt 0), .int (Int32.ofInt 0), .int (Int32.ofInt 0), .int (Int32.ofInt 0), .null, .null, .null, .null, .null, .null, .null, .null, .null, .null, .null, .null, .null, .null, .null, .null, .null]) 1 16 w)) (zbk_1 rfl) ?_
  refine V_putF d_Ref_init_144 ff_Ref_63 ((zbk_o (by omega)).trans zc2_a) rfl rfl rfl rfl rfl rfl rfl (Nat.le_of_ble_eq_true rfl) ?_
  refine V_sub (w' := (zc2 (fun j => zqarr G j (fun _ => 0)) B 0 (zobj cRef [.int (Int32.ofInt 0), .int (Int32.ofInt 0), .int (Int32.ofInt 8), .int (Int32.ofInt 17), .int (Int32.ofInt 0), .int (Int32.ofInt 0), .int (Int32.ofInt 0), .ref (B + 1), .ref (B + 2), .ref (B + 3), .ref (B + 4), .ref (B + 5), .ref (B + 6), .ref (B + 7), .ref (B + 8), .ref (B + 9), .ref (B + 10), .ref (B + 11), .ref (B + 12), .ref (B + 13), .ref (B + 14), .ref (B + 15), .ref (B + 16), .null]) 0 (zobj cRef [.int (Int32.ofInt 0), .int (Int32.ofInt 0), .int (Int32.ofInt 0), .int (Int32.ofInt 0), .int (Int32.ofInt 0), .int (Int32.ofInt 0), .int (Int32.ofInt 0), .null, .null, .null, .null, .null, .null, .null, .null, .null, .null, .null, .null, .null, .null, .null, .null, .null]) 1 17 w)) (zc2_put (a := 0) (t := 0) (lo := 1) (hi := 16) (n := 1) (by decide) (by decide) (by decide)) ?_
  refine V_aload_n d_Ref_init_147 rfl ?_
  refine J_bipush d_Ref_init_148 (by decide) ?_
  refine V_newl (n' := 32) d_Ref_init_150 za_long (by decide) rfl (by decide) (Nat.le_of_ble_eq_true rfl) (Nat.le_of_ble_eq_true rfl) ?_
  refine V_sub (w' := zbk (fun j => zqarr G j (fun _ => 0)) B 17 1 (zc2 (fun j => zqarr G j (fun _ => 0)) B 0 (zobj cRef [.int (Int32.ofInt 0), .int (Int32.ofInt 0), .int (Int32.ofInt 8), .int (Int32.ofInt 17), .int (Int32.ofInt 0), .int (Int32.ofInt 0), .int (Int32.ofInt 0), .ref (B + 1), .ref (B + 2), .ref (B + 3), .ref (B + 4), .ref (B + 5), .ref (B + 6), .ref (B + 7), .ref (B + 8), .ref (B + 9), .ref (B + 10), .ref (B + 11), .ref (B + 12), .ref (B + 13), .ref (B + 14), .ref (B + 15), .ref (B + 16), .null]) 0 (zobj cRef [.int (Int32.ofInt 0), .int (Int32.ofInt 0), .int (Int32.ofInt 0), .int (Int32.ofInt 0), .int (Int32.ofInt 0), .int (Int32.ofInt 0), .int (Int32.ofInt 0), .null, .null, .null, .null, .null, .null, .null, .null, .null, .null, .null, .null, .null, .null, .null, .null, .null]) 1 17 w)) (zbk_1 rfl) ?_
  refine V_putF d_Ref_init_152 ff_Ref_66 ((zbk_o (by omega)).trans zc2_a) rfl rfl rfl rfl rfl rfl rfl (Nat.le_of_ble_eq_true rfl) ?_
  refine V_sub (w' := (zc2 (fun j => zqarr G j (fun _ => 0)) B 0 (zobj cRef [.int (Int32.ofInt 0), .int (Int32.ofInt 0), .int (Int32.ofInt 8), .int (Int32.ofInt 17), .int (Int32.ofInt 0), .int (Int32.ofInt 0), .int (Int32.ofInt 0), .ref (B + 1), .ref (B + 2), .ref (B + 3), .ref (B + 4), .ref (B + 5), .ref (B + 6), .ref (B + 7), .ref (B + 8), .ref (B + 9), .ref (B + 10), .ref (B + 11), .ref (B + 12), .ref (B + 13), .ref (B + 14), .ref (B + 15), .ref (B + 16), .ref (B + 17)]) 0 (zobj cRef [.int (Int32.ofInt 0), .int (Int32.ofInt 0), .int (Int32.ofInt 0), .int (Int32.ofInt 0), .int (Int32.ofInt 0), .int (Int32.ofInt 0), .int (Int32.ofInt 0), .null, .null, .null, .null, .null, .null, .null, .null, .null, .null, .null, .null, .null, .null, .null, .null, .null]) 1 18 w)) (zc2_put (a := 0) (t := 0) (lo := 1) (hi := 17) (n := 1) (by decide) (by decide) (by decide)) ?_
  refine V_return d_Ref_init_155 rfl ⟨Nat.le_of_ble_eq_true rfl, Nat.le_of_ble_eq_true rfl⟩ ⟨rfl, rfl, fun q e hq => ?_⟩
  unfold zqs at hq
  unfold zc2
  by_cases h1 : q = B + 0
  · rw [if_pos (show q = B from h1)] at hq
    rw [if_pos h1]
    exact hq
  · rw [if_neg (show ¬ q = B from h1)] at hq
    rw [if_neg h1, if_neg h1]
    by_cases h2 : B < q ∧ q < B + 18
    · rw [if_pos h2] at hq
      rw [if_pos (by omega)]
      exact hq
    · rw [if_neg h2] at hq
      rw [if_neg (by omega)]
      exact hq

