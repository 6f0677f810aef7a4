theorem zk_Law_8 : zin (.classLink "RingCipherLaw" 8 "RingCipher") := ⟨List.mem_append_right _ (List.mem_of_getElem? (i := 18) (by decide +kernel)), by decide +kernel⟩
theorem zk_Law_63 : zin (.classLink "RingCipherLaw" 63 "RingCipherModel") := ⟨List.mem_append_right _ (List.mem_of_getElem? (i := 625) (by decide +kernel)), by decide +kernel⟩
theorem zn_X : zin (.instantiable "RingCipher" 7) := ⟨List.mem_append_right _ (List.mem_of_getElem? (i := 19) (by decide +kernel)), by decide +kernel⟩
theorem zn_Ref : zin (.instantiable "RingCipherModel" 24) := ⟨List.mem_append_right _ (List.mem_of_getElem? (i := 626) (by decide +kernel)), by decide +kernel⟩
theorem zi_X : zin (.initialized "RingCipher") := ⟨List.mem_append_right _ (List.mem_of_getElem? (i := 1) (by decide +kernel)), by decide +kernel⟩
theorem zi_Ref : zin (.initialized "RingCipherModel") := ⟨List.mem_append_right _ (List.mem_of_getElem? (i := 7) (by decide +kernel)), by decide +kernel⟩
set_option maxHeartbeats 4000000 in
theorem l_loop (G : zG) (B : Nat) (w : zW) (hL : G.2.2.2 100001 ≤ 2560) : ∀ k i : Nat, i ≤ 2560 → G.2.2.2 100001 ≤ i + k → zQl G B w i := by
  intro k
  induction k using Nat.strongRecOn with
  | ind k ih =>
    intro i hi0 hk kc ks sz kd n t zz ch md tc tg pt L R nn th o hkc hks h
    refine V_iload d_law_23 rfl ?_
    refine V_aload_n d_law_25 rfl ?_
    refine V_slen d_law_26 ?_
    refine V_iconst d_law_27 ?_
    refine J_isub d_law_28 ?_
    refine J_icmp_gt 1188 d_law_29 (by decide) (by omega) (by omega) (fun c_29 => ?_) (fun c_29 => ?_)
    · refine V_iconst d_law_1188 ?_
      exact V_zreturn d_law_1189 rfl (by decide) ⟨(by show kc ≤ (601024 : Nat); omega), (by show ks ≤ (7293033 : Nat); omega)⟩ rfl
    · have hi : i + 5 ≤ G.2.2.2 100001 := by omega
      have hq : zQl G B w (i + 5) := ih (k - 5) (by omega) (i + 5) (by omega) (by omega)
      refine V_aload_n d_law_32 rfl ?_
      refine V_iload d_law_33 rfl ?_
      refine V_sld (j := i) d_law_35 rfl (by omega) hL ?_
      refine J_bipush d_law_36 (by decide) ?_
      refine V_iand d_law_38 ?_
      rw [zand15]
      have hz : zsx G i % 16 = 0 ∨ zsx G i % 16 = 1 ∨ zsx G i % 16 = 2 ∨ zsx G i % 16 = 3 ∨ zsx G i % 16 = 4 ∨ zsx G i % 16 = 5 ∨ zsx G i % 16 = 6 ∨ zsx G i % 16 = 7 ∨ zsx G i % 16 = 8 ∨ zsx G i % 16 = 9 ∨ zsx G i % 16 = 10 ∨ zsx G i % 16 = 11 ∨ zsx G i % 16 = 12 ∨ zsx G i % 16 = 13 ∨ zsx G i % 16 = 14 ∨ zsx G i % 16 = 15 := by omega
      rcases hz with hz | hz | hz | hz | hz | hz | hz | hz | hz | hz | hz | hz | hz | hz | hz | hz
      · rw [hz]
        exact V_tableIn (off := 77) 116 d_law_39 (by decide) (by decide) (by decide +kernel) (by decide) (l_begin G B w hL i hi hq kc ks sz kd n t zz ch md tc tg pt L R nn th o hkc hks h)
      · rw [hz]
        exact V_tableIn (off := 145) 184 d_law_39 (by decide) (by decide) (by decide +kernel) (by decide) (l_keys G B w hL i hi hq kc ks sz kd n t zz ch md tc tg pt L R nn th o hkc hks h)
      · rw [hz]
        exact V_tableIn (off := 158) 197 d_law_39 (by decide) (by decide) (by decide +kernel) (by decide) (l_turnKey G B w hL i hi hq kc ks sz kd n t zz ch md tc tg pt L R nn th o hkc hks h)
      · rw [hz]
        exact V_tableIn (off := 214) 253 d_law_39 (by decide) (by decide) (by decide +kernel) (by decide) (l_set G B w hL i hi hq kc ks sz kd n t zz ch md tc tg pt L R nn th o hkc hks h)
      · rw [hz]
        exact V_tableIn (off := 294) 333 d_law_39 (by decide) (by decide) (by decide +kernel) (by decide) (l_get G B w hL i hi hq kc ks sz kd n t zz ch md tc tg pt L R nn th o hkc hks h)
      · rw [hz]
        exact V_tableIn (off := 362) 401 d_law_39 (by decide) (by decide) (by decide +kernel) (by decide) (l_batch G B w hL i hi hq kc ks sz kd n t zz ch md tc tg pt L R nn th o hkc hks h)
      · rw [hz]
        exact V_tableIn (off := 446) 485 d_law_39 (by decide) (by decide) (by decide +kernel) (by decide) (l_seal G B w hL i hi hq kc ks sz kd n t zz ch md tc tg pt L R nn th o hkc hks h)
      · rw [hz]
        exact V_tableIn (off := 514) 553 d_law_39 (by decide) (by decide) (by decide +kernel) (by decide) (l_open G B w hL i hi hq kc ks sz kd n t zz ch md tc tg pt L R nn th o hkc hks h)
      · rw [hz]
        exact V_tableIn (off := 582) 621 d_law_39 (by decide) (by decide) (by decide +kernel) (by decide) (l_join G B w hL i hi hq kc ks sz kd n t zz ch md tc tg pt L R nn th o hkc hks h)
      · rw [hz]
        exact V_tableIn (off := 674) 713 d_law_39 (by decide) (by decide) (by decide +kernel) (by decide) (l_plain G B w hL i hi hq kc ks sz kd n t zz ch md tc tg pt L R nn th o hkc hks h)
      · rw [hz]
        exact V_tableIn (off := 766) 805 d_law_39 (by decide) (by decide) (by decide +kernel) (by decide) (l_shrink G B w hL i hi hq kc ks sz kd n t zz ch md tc tg pt L R nn th o hkc hks h)
      · rw [hz]
        exact V_tableIn (off := 834) 873 d_law_39 (by decide) (by decide) (by decide +kernel) (by decide) (l_turn G B w hL i hi hq kc ks sz kd n t zz ch md tc tg pt L R nn th o hkc hks h)
      · rw [hz]
        exact V_tableIn (off := 914) 953 d_law_39 (by decide) (by decide) (by decide +kernel) (by decide) (l_part G B w hL i hi hq kc ks sz kd n t zz ch md tc tg pt L R nn th o hkc hks h)
      · rw [hz]
        exact V_tableIn (off := 994) 1033 d_law_39 (by decide) (by decide) (by decide +kernel) (by decide) (l_about G B w hL i hi hq kc ks sz kd n t zz ch md tc tg pt L R nn th o hkc hks h)
      · rw [hz]
        exact V_tableIn (off := 1062) 1101 d_law_39 (by decide) (by decide) (by decide +kernel) (by decide) (l_drop G B w hL i hi hq kc ks sz kd n t zz ch md tc tg pt L R nn th o hkc hks h)
      · rw [hz]
        exact V_tableIn (off := 1118) 1157 d_law_39 (by decide) (by decide) (by decide +kernel) (by decide) (l_count G B w hL i hi hq kc ks sz kd n t zz ch md tc tg pt L R nn th o hkc hks h)

theorem zI_0 : zI 0 8 17 (zlr (zmoI 0) (zszI 0).toNat 1000 2) 0 0 (fun _ => 0) (fun _ => 0) (zL0 (zif (2 * zszI 0) (fun j => zpm (zmoI 0) (zlr (zmoI 0) (zszI 0).toNat 1000 2) j.toNat) (fun _ => 0))) (fun _ _ => 0) 8 := by
  refine ⟨Or.inl rfl, ⟨by decide, rfl, rfl, rfl, rfl, fun j j0 j1 => ?_⟩, ⟨by decide, fun p hp => rfl, fun p hp => (show -2147483648 ≤ (0 : Int) ∧ (0 : Int) < 2147483648 by decide), fun p hp => by omega⟩, ⟨fun i a b => ⟨rfl, (show (-1 : Int) ≤ 0 by decide), (show (0 : Int) ≤ 1 by decide)⟩, fun h => absurd h (by decide), fun i a b => ⟨rfl, Int.le_refl 0, (show (0 : Int) < 268435399 by decide)⟩, fun i a b => ⟨rfl, Int.le_refl 0, (show (0 : Int) < 268435399 by decide)⟩⟩, ⟨fun a k ha hk i h0 h1 => ?_, fun q _ _ => (show (0 : Int) ≤ 0 ∧ (0 : Int) < 268435399 by decide), fun q _ _ => (show (0 : Int) ≤ 0 ∧ (0 : Int) < 268435399 by decide)⟩, ⟨fun p hp i h0 h1 => ?_, fun j _ _ => (show (0 : Int) ≤ 0 ∧ (0 : Int) < 17 by decide)⟩, ⟨fun _ c hc => rfl, fun c hc => ⟨rfl, Or.inl rfl⟩, fun j _ _ => (show (0 : Int) ≤ 0 ∧ (0 : Int) < 268435399 by decide), fun c k hc hk h3 => absurd h3 (by show ¬ (k : Int) < 0; omega)⟩⟩
  · show (zif (2 * zszI 0) (fun j => zpm (zmoI 0) (zlr (zmoI 0) (zszI 0).toNat 1000 2) j.toNat) (fun _ => 0)) j = _
    rw [zif_l (n := 2 * zszI 0) ⟨j0, j1⟩]
    rfl
  · have hb := zkj_b ha
    unfold zL0
    rw [if_neg (by omega), if_neg (by omega)]
    exact ⟨rfl, rfl⟩
  · unfold zL0
    rw [if_neg (by omega)]

set_option maxRecDepth 100000 in
set_option maxHeartbeats 4000000 in
theorem l_init (G : zG) (B : Nat) (hL : G.2.2.2 100001 ≤ 2560) : V G M_law zKl room_1 0 0 B 0 [(0, .ref (G.2.2.2 100000))] [] (fun _ => none) := by
  refine V_new (ci := cX) [.null, .null, .null, .null, .null, .null, .null] d_law_0 rfl zk_Law_8 zn_X zi_X i_X t_X_ok (by decide +kernel) (Nat.le_of_ble_eq_true rfl) (Nat.le_of_ble_eq_true rfl) ?_
  refine V_dup d_law_3 rfl ?_
  refine V_callI (n := 0) d_law_4 g_Law_62 rfl (c_X_init G (zset (fun _ => none) B (zobj cX [.null, .null, .null, .null, .null, .null, .null])) B zset_s) ⟨co_X_init, by decide +kernel, (Nat.le_of_ble_eq_true rfl)⟩ ⟨Nat.le_of_ble_eq_true rfl, Nat.le_of_ble_eq_true rfl, Nat.le_of_ble_eq_true rfl, Nat.le_of_ble_eq_true rfl⟩ (Nat.le_of_ble_eq_true rfl) (fun r1 w1 s1 q1 => ?_) (fun _ _ _ q => False.elim q)
  obtain ⟨rfl, rfl, h1⟩ := q1
  refine V_astore_n d_law_7 (by decide) ?_
  refine V_new (ci := cRef) [.int (Int32.ofInt 0), .int (Int32.ofInt 0), .int (Int32.ofInt 0), .int (Int32.ofInt 0), .int (Int32.ofInt 0), .int (Int32.ofInt 0), .int (Int32.ofInt 0), .null, .null, .null, .null, .null, .null, .null, .null, .null, .null, .null, .null, .null, .null, .null, .null, .null] d_law_8 rfl zk_Law_63 zn_Ref zi_Ref i_Ref t_Ref_ok (by decide +kernel) (Nat.le_of_ble_eq_true rfl) (Nat.le_of_ble_eq_true rfl) ?_
  refine V_dup d_law_11 rfl ?_
  refine V_callI (n := 0) d_law_12 g_Law_65 rfl (c_Ref_init G (zset w1 (B + 186) (zobj cRef [.int (Int32.ofInt 0), .int (Int32.ofInt 0), .int (Int32.ofInt 0), .int (Int32.ofInt 0), .int (Int32.ofInt 0), .int (Int32.ofInt 0), .int (Int32.ofInt 0), .null, .null, .null, .null, .null, .null, .null, .null, .null, .null, .null, .null, .null, .null, .null, .null, .null])) (B + 186) zset_s) ⟨co_Ref_init, by decide +kernel, (Nat.le_of_ble_eq_true rfl)⟩ ⟨Nat.le_of_ble_eq_true rfl, Nat.le_of_ble_eq_true rfl, Nat.le_of_ble_eq_true rfl, Nat.le_of_ble_eq_true rfl⟩ (Nat.le_of_ble_eq_true rfl) (fun r2 w2 s2 q2 => ?_) (fun _ _ _ q => False.elim q)
  obtain ⟨rfl, rfl, h2⟩ := q2
  refine V_astore_n d_law_15 (by decide) ?_
  refine V_iconst d_law_16 ?_
  refine V_newl (n' := 1) d_law_17 za_long (by decide) rfl (by decide) (Nat.le_of_ble_eq_true rfl) (Nat.le_of_ble_eq_true rfl) ?_
  refine V_astore_n d_law_19 (by decide) ?_
  refine V_iconst d_law_20 ?_
  refine V_istore d_law_21 (by decide) ?_
  refine V_sub (w' := (zWl G B 0 8 17 (zlr (zmoI 0) (zszI 0).toNat 1000 2) (Int32.ofInt 0) 0 0 (fun _ => 0) (fun _ => 0) (zL0 (zif (2 * zszI 0) (fun j => zpm (zmoI 0) (zlr (zmoI 0) (zszI 0).toNat 1000 2) j.toNat) (fun _ => 0))) 0 0 8 17 0 (Int32.ofInt 0) 0 (fun _ _ => 0) (fun _ => 0) (fun _ => none))) (fun q e hq => ?_) ?_
  · by_cases h4 : q = B + 204
    · rw [h4, zWl_D] at hq
      rw [h4]
      exact (show zset w2 (B + 204) (zro G 1 (fun _ => 0)) (B + 204) = some e from by rw [zset_s]; exact hq)
    · refine (zset_n (show q ≠ B + 186 + 18 from by omega)).trans (h2 q e ?_)
      unfold zWl at hq
      by_cases h5 : B + 186 ≤ q ∧ q < B + 204
      · rw [zsys_n (by omega)] at hq
        unfold zqs at hq ⊢
        by_cases h6 : q = B + 186
        · rw [if_pos h6] at hq ⊢
          exact hq
        · rw [if_neg h6, if_pos (by omega)] at hq ⊢
          exact hq
      · rw [zqs_n (by omega), zset_n (by omega)]
        refine h1 q e ?_
        by_cases h7 : B ≤ q ∧ q < B + 186
        · unfold zsys at hq
          rw [if_pos h7] at hq
          unfold zbk
          rw [if_pos (show B + 0 ≤ q ∧ q < B + 0 + 186 from by omega)]
          exact hq
        · rw [zsys_n (by omega), zqs_n (by omega), zset_n h4] at hq
          cases hq
  · refine V_lo (lo' := zloc G B 0) [0, 1, 2, 3, 4] rfl ?_
    exact l_loop G B (fun _ => none) hL 2560 0 (by decide) (by omega) _ _ _ _ _ _ _ _ _ _ _ _ _ _ _ _ _ (Nat.le_of_ble_eq_true rfl) (Nat.le_of_ble_eq_true rfl) zI_0

