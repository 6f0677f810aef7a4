set_option maxRecDepth 100000 in
set_option maxHeartbeats 4000000 in
theorem c_turnKey_1 (G : zG) (sz B : Nat) (kd n t zz : Int) (ch : Int32) (md tc : Int) (tg pt : Nat → Int) (L : Nat → Int → Int) (w0 : zW) (g : Int) (hg : -2147483648 ≤ g ∧ g < 2147483648) (hn : 0 ≤ n ∧ n ≤ 32) (hb : g < 3) : zCt G M_X_turnKey (zR 6 1 6 117) [.ref B, .int (Int32.ofInt g)] sz (zsys G B kd n t zz ch md tc tg pt L w0) (zOut (.inr zIAE) (zsys G B kd n t zz ch md tc tg pt L w0) (sz + 1)) := by
  refine V_iload_n d_X_turnKey_0 rfl ?_
  refine V_iconst d_X_turnKey_1 ?_
  refine J_icmp_lt 26 d_X_turnKey_2 (by decide) (by omega) (by omega) (fun c_2 => ?_) (fun c_2 => absurd c_2 (by omega))
  exact V_throwA (tx := "no such turn") d_X_turnKey_26 d_X_turnKey_29 (Or.inl ⟨d_X_turnKey_30, rfl⟩) d_X_turnKey_32 d_X_turnKey_35 rfl (by decide) rfl (Nat.le_of_ble_eq_true rfl) (Nat.le_of_ble_eq_true rfl) (Nat.le_of_ble_eq_true rfl) (Nat.le_of_ble_eq_true rfl) ⟨Nat.le_of_ble_eq_true rfl, Nat.le_of_ble_eq_true rfl⟩ ⟨rfl, rfl, rfl⟩

set_option maxRecDepth 100000 in
set_option maxHeartbeats 4000000 in
theorem c_turnKey_2 (G : zG) (sz B : Nat) (kd n t zz : Int) (ch : Int32) (md tc : Int) (tg pt : Nat → Int) (L : Nat → Int → Int) (w0 : zW) (g : Int) (hg : -2147483648 ≤ g ∧ g < 2147483648) (hn : 0 ≤ n ∧ n ≤ 32) (h3 : 3 ≤ g) (hb : 2 * n ≤ g) : zCt G M_X_turnKey (zR 6 1 6 117) [.ref B, .int (Int32.ofInt g)] sz (zsys G B kd n t zz ch md tc tg pt L w0) (zOut (.inr zIAE) (zsys G B kd n t zz ch md tc tg pt L w0) (sz + 1)) := by
  refine V_iload_n d_X_turnKey_0 rfl ?_
  refine V_iconst d_X_turnKey_1 ?_
  refine J_icmp_lt 26 d_X_turnKey_2 (by decide) (by omega) (by omega) (fun c_2 => absurd c_2 (by omega)) (fun c_2 => ?_)
  refine V_iload_n d_X_turnKey_5 rfl ?_
  refine V_iconst d_X_turnKey_6 ?_
  refine V_aload_n d_X_turnKey_7 rfl ?_
  refine V_getf d_X_turnKey_8 ff_X_12 zsys_x0 rfl ?_
  refine V_getf d_X_turnKey_11 ff_X_78 zsys_r rfl ?_
  refine J_imul d_X_turnKey_14 ?_
  refine V_iconst d_X_turnKey_15 ?_
  refine J_isub d_X_turnKey_16 ?_
  refine J_icmp_gt 26 d_X_turnKey_17 (by decide) (by omega) (by omega) (fun c_17 => ?_) (fun c_17 => absurd c_17 (by omega))
  exact V_throwA (tx := "no such turn") d_X_turnKey_26 d_X_turnKey_29 (Or.inl ⟨d_X_turnKey_30, rfl⟩) d_X_turnKey_32 d_X_turnKey_35 rfl (by decide) rfl (Nat.le_of_ble_eq_true rfl) (Nat.le_of_ble_eq_true rfl) (Nat.le_of_ble_eq_true rfl) (Nat.le_of_ble_eq_true rfl) ⟨Nat.le_of_ble_eq_true rfl, Nat.le_of_ble_eq_true rfl⟩ ⟨rfl, rfl, rfl⟩

set_option maxRecDepth 100000 in
set_option maxHeartbeats 4000000 in
theorem c_turnKey_3 (G : zG) (sz B : Nat) (kd n t zz : Int) (ch : Int32) (md tc : Int) (tg pt : Nat → Int) (L : Nat → Int → Int) (w0 : zW) (g : Int) (hn : 0 ≤ n ∧ n ≤ 32) (h3 : 3 ≤ g ∧ g < 2 * n) (hb : g % 2 = 0) : zCt G M_X_turnKey (zR 6 1 6 117) [.ref B, .int (Int32.ofInt g)] sz (zsys G B kd n t zz ch md tc tg pt L w0) (zOut (.inr zIAE) (zsys G B kd n t zz ch md tc tg pt L w0) (sz + 1)) := by
  refine V_iload_n d_X_turnKey_0 rfl ?_
  refine V_iconst d_X_turnKey_1 ?_
  refine J_icmp_lt 26 d_X_turnKey_2 (by decide) (by omega) (by omega) (fun c_2 => absurd c_2 (by omega)) (fun c_2 => ?_)
  refine V_iload_n d_X_turnKey_5 rfl ?_
  refine V_iconst d_X_turnKey_6 ?_
  refine V_aload_n d_X_turnKey_7 rfl ?_
  refine V_getf d_X_turnKey_8 ff_X_12 zsys_x0 rfl ?_
  refine V_getf d_X_turnKey_11 ff_X_78 zsys_r rfl ?_
  refine J_imul d_X_turnKey_14 ?_
  refine V_iconst d_X_turnKey_15 ?_
  refine J_isub d_X_turnKey_16 ?_
  refine J_icmp_gt 26 d_X_turnKey_17 (by decide) (by omega) (by omega) (fun c_17 => absurd c_17 (by omega)) (fun c_17 => ?_)
  refine V_iload_n d_X_turnKey_20 rfl ?_
  refine V_iconst d_X_turnKey_21 ?_
  refine J_iremP d_X_turnKey_22 (by omega) (by omega) ?_
  refine J_if_ne 36 d_X_turnKey_23 (by decide) (by omega) (fun c_23 => absurd hb c_23) (fun c_23 => ?_)
  exact V_throwA (tx := "no such turn") d_X_turnKey_26 d_X_turnKey_29 (Or.inl ⟨d_X_turnKey_30, rfl⟩) d_X_turnKey_32 d_X_turnKey_35 rfl (by decide) rfl (Nat.le_of_ble_eq_true rfl) (Nat.le_of_ble_eq_true rfl) (Nat.le_of_ble_eq_true rfl) (Nat.le_of_ble_eq_true rfl) ⟨Nat.le_of_ble_eq_true rfl, Nat.le_of_ble_eq_true rfl⟩ ⟨rfl, rfl, rfl⟩

set_option maxRecDepth 100000 in
set_option maxHeartbeats 4000000 in
theorem c_turnKey_4 (G : zG) (sz B : Nat) (kd n t zz : Int) (ch : Int32) (md tc : Int) (tg pt : Nat → Int) (L : Nat → Int → Int) (w0 : zW) (g : Int) (hn : 0 ≤ n ∧ n ≤ 32) (h3 : 3 ≤ g ∧ g < 2 * n) (ho : g % 2 = 1) (hb : md = 0) : zCt G M_X_turnKey (zR 6 1 6 117) [.ref B, .int (Int32.ofInt g)] sz (zsys G B kd n t zz ch md tc tg pt L w0) (zOut (.inr zISE) (zsys G B kd n t zz ch md tc tg pt L w0) (sz + 1)) := by
  refine V_iload_n d_X_turnKey_0 rfl ?_
  refine V_iconst d_X_turnKey_1 ?_
  refine J_icmp_lt 26 d_X_turnKey_2 (by decide) (by omega) (by omega) (fun c_2 => absurd c_2 (by omega)) (fun c_2 => ?_)
  refine V_iload_n d_X_turnKey_5 rfl ?_
  refine V_iconst d_X_turnKey_6 ?_
  refine V_aload_n d_X_turnKey_7 rfl ?_
  refine V_getf d_X_turnKey_8 ff_X_12 zsys_x0 rfl ?_
  refine V_getf d_X_turnKey_11 ff_X_78 zsys_r rfl ?_
  refine J_imul d_X_turnKey_14 ?_
  refine V_iconst d_X_turnKey_15 ?_
  refine J_isub d_X_turnKey_16 ?_
  refine J_icmp_gt 26 d_X_turnKey_17 (by decide) (by omega) (by omega) (fun c_17 => absurd c_17 (by omega)) (fun c_17 => ?_)
  refine V_iload_n d_X_turnKey_20 rfl ?_
  refine V_iconst d_X_turnKey_21 ?_
  refine J_iremP d_X_turnKey_22 (by omega) (by omega) ?_
  refine J_if_ne 36 d_X_turnKey_23 (by decide) (by omega) (fun c_23 => ?_) (fun c_23 => absurd c_23 (by omega))
  refine V_aload_n d_X_turnKey_36 rfl ?_
  refine V_getf d_X_turnKey_37 ff_X_26 zsys_x0 rfl ?_
  refine V_getf d_X_turnKey_40 ff_X_88 zsys_k rfl ?_
  refine J_if_ne 56 d_X_turnKey_43 (by decide) (by omega) (fun c_43 => absurd hb c_43) (fun c_43 => ?_)
  exact V_throwS (tx := "no keys") d_X_turnKey_46 d_X_turnKey_49 (Or.inl ⟨d_X_turnKey_50, rfl⟩) d_X_turnKey_52 d_X_turnKey_55 rfl (by decide) rfl (Nat.le_of_ble_eq_true rfl) (Nat.le_of_ble_eq_true rfl) (Nat.le_of_ble_eq_true rfl) (Nat.le_of_ble_eq_true rfl) ⟨Nat.le_of_ble_eq_true rfl, Nat.le_of_ble_eq_true rfl⟩ ⟨rfl, rfl, rfl⟩

set_option maxRecDepth 100000 in
set_option maxHeartbeats 4000000 in
theorem c_turnKey_5 (G : zG) (sz B : Nat) (kd n t zz : Int) (ch : Int32) (md tc : Int) (tg pt : Nat → Int) (L : Nat → Int → Int) (w0 : zW) (g : Int) (hn : 0 ≤ n ∧ n ≤ 32) (h3 : 3 ≤ g ∧ g < 2 * n) (ho : g % 2 = 1) (hmd : md = 1) (htc : 0 ≤ tc ∧ tc ≤ 4) (htg : ∀ p : Nat, p < 4 → -2147483648 ≤ tg (25 + 15 * p) ∧ tg (25 + 15 * p) < 2147483648) (hpl : zplc tg tc g 5 0 = 4) : zCt G M_X_turnKey (zR 6 1 6 117) [.ref B, .int (Int32.ofInt g)] sz (zsys G B kd n t zz ch md tc tg pt L w0) (zOut (.inr zISE) (zsys G B kd n t zz ch md tc tg pt L w0) (sz + 1)) := by
  refine V_iload_n d_X_turnKey_0 rfl ?_
  refine V_iconst d_X_turnKey_1 ?_
  refine J_icmp_lt 26 d_X_turnKey_2 (by decide) (by omega) (by omega) (fun c_2 => absurd c_2 (by omega)) (fun c_2 => ?_)
  refine V_iload_n d_X_turnKey_5 rfl ?_
  refine V_iconst d_X_turnKey_6 ?_
  refine V_aload_n d_X_turnKey_7 rfl ?_
  refine V_getf d_X_turnKey_8 ff_X_12 zsys_x0 rfl ?_
  refine V_getf d_X_turnKey_11 ff_X_78 zsys_r rfl ?_
  refine J_imul d_X_turnKey_14 ?_
  refine V_iconst d_X_turnKey_15 ?_
  refine J_isub d_X_turnKey_16 ?_
  refine J_icmp_gt 26 d_X_turnKey_17 (by decide) (by omega) (by omega) (fun c_17 => absurd c_17 (by omega)) (fun c_17 => ?_)
  refine V_iload_n d_X_turnKey_20 rfl ?_
  refine V_iconst d_X_turnKey_21 ?_
  refine J_iremP d_X_turnKey_22 (by omega) (by omega) ?_
  refine J_if_ne 36 d_X_turnKey_23 (by decide) (by omega) (fun c_23 => ?_) (fun c_23 => absurd c_23 (by omega))
  refine V_aload_n d_X_turnKey_36 rfl ?_
  refine V_getf d_X_turnKey_37 ff_X_26 zsys_x0 rfl ?_
  refine V_getf d_X_turnKey_40 ff_X_88 zsys_k rfl ?_
  refine J_if_ne 56 d_X_turnKey_43 (by decide) (by omega) (fun c_43 => ?_) (fun c_43 => absurd c_43 (by omega))
  refine V_aload_n d_X_turnKey_56 rfl ?_
  refine V_getf d_X_turnKey_57 ff_X_26 zsys_x0 rfl ?_
  refine V_iload_n d_X_turnKey_60 rfl ?_
  refine V_callV (n := 1) d_X_turnKey_61 g_X_97 rfl zsys_k rfl (c_placeOfTurn G _ B kd n t zz ch md tc tg pt L w0 g (by omega) htc htg) ⟨co_KeyRing_placeOfTurn, by decide +kernel, Nat.le_of_ble_eq_true rfl⟩ ⟨Nat.le_of_ble_eq_true rfl, Nat.le_of_ble_eq_true rfl, Nat.le_of_ble_eq_true rfl, Nat.le_of_ble_eq_true rfl⟩ (Nat.le_of_ble_eq_true rfl) (fun r_61 w_61 s_61 q_61 => ?_) (fun _ _ _ q => False.elim q)
  obtain ⟨rfl, rfl, rfl⟩ := q_61
  rw [hpl]
  refine V_istore_n d_X_turnKey_64 (by decide) ?_
  refine V_iload_n d_X_turnKey_65 rfl ?_
  refine V_iconst d_X_turnKey_66 ?_
  refine J_icmp_ne 80 d_X_turnKey_67 (by decide) (by omega) (by omega) (fun c_67 => absurd c_67 (by decide)) (fun c_67 => ?_)
  exact V_throwS (tx := "four other turns") d_X_turnKey_70 d_X_turnKey_73 (Or.inl ⟨d_X_turnKey_74, rfl⟩) d_X_turnKey_76 d_X_turnKey_79 rfl (by decide) rfl (Nat.le_of_ble_eq_true rfl) (Nat.le_of_ble_eq_true rfl) (Nat.le_of_ble_eq_true rfl) (Nat.le_of_ble_eq_true rfl) ⟨Nat.le_of_ble_eq_true rfl, Nat.le_of_ble_eq_true rfl⟩ ⟨rfl, rfl, rfl⟩

set_option maxRecDepth 100000 in
set_option maxHeartbeats 4000000 in
theorem c_turnKey (G : zG) (sz B : Nat) (kd n t zz : Int) (ch : Int32) (md tc : Int) (tg pt : Nat → Int) (L : Nat → Int → Int) (w0 : zW) (nn : Nat) (hnn : n = (nn : Int)) (hn : nn ≤ 32) (g : Int) (h3 : 3 ≤ g ∧ g < 2 * n) (ho : g % 2 = 1) (hmd : md = 1) (htc : 0 ≤ tc ∧ tc ≤ 4) (htg : ∀ p : Nat, p < 4 → -2147483648 ≤ tg (25 + 15 * p) ∧ tg (25 + 15 * p) < 2147483648) (p : Nat) (hpl : zplc tg tc g 5 0 = p) (hp : p < 4) (h1 : ∀ i : Nat, i < nn → -9223372036854775808 < L 5 i ∧ L 5 i < 9223372036854775808) (h2 : ∀ k : Nat, k < 6 → ∀ i : Nat, i < nn → -9223372036854775808 < zAs nn 85 86 (-(32 ^ k)) (zMk nn (zSwc nn ch k) (25 + 15 * p + 8 + 1 + k) (zSwL nn ch (25 + 15 * p) 86 (zSs nn 86 5 g L) k)) 85 i ∧ zAs nn 85 86 (-(32 ^ k)) (zMk nn (zSwc nn ch k) (25 + 15 * p + 8 + 1 + k) (zSwL nn ch (25 + 15 * p) 86 (zSs nn 86 5 g L) k)) 85 i < 9223372036854775808) : zCt G M_X_turnKey (zR 6 1 6 117) [.ref B, .int (Int32.ofInt g)] sz (zsys G B kd n t zz ch md tc tg pt L w0) (zdet (some (.int (Int32.ofInt (if tc < (p : Int) + 1 then (p : Int) + 1 else tc)))) (zsys G B kd n t zz (zSwc nn ch 6) md (if tc < (p : Int) + 1 then (p : Int) + 1 else tc) (zpu tg (25 + 15 * p) g) pt (zSwL nn ch (25 + 15 * p) 86 (zSs nn 86 5 g L) 6) w0) sz) := by
  subst hnn
  refine V_iload_n d_X_turnKey_0 rfl ?_
  refine V_iconst d_X_turnKey_1 ?_
  refine J_icmp_lt 26 d_X_turnKey_2 (by decide) (by omega) (by omega) (fun c_2 => absurd c_2 (by omega)) (fun c_2 => ?_)
  refine V_iload_n d_X_turnKey_5 rfl ?_
  refine V_iconst d_X_turnKey_6 ?_
  refine V_aload_n d_X_turnKey_7 rfl ?_
  refine V_getf d_X_turnKey_8 ff_X_12 zsys_x0 rfl ?_
  refine V_getf d_X_turnKey_11 ff_X_78 zsys_r rfl ?_
  refine J_imul d_X_turnKey_14 ?_
  refine V_iconst d_X_turnKey_15 ?_
  refine J_isub d_X_turnKey_16 ?_
  refine J_icmp_gt 26 d_X_turnKey_17 (by decide) (by omega) (by omega) (fun c_17 => absurd c_17 (by omega)) (fun c_17 => ?_)
  refine V_iload_n d_X_turnKey_20 rfl ?_
  refine V_iconst d_X_turnKey_21 ?_
  refine J_iremP d_X_turnKey_22 (by omega) (by omega) ?_
  refine J_if_ne 36 d_X_turnKey_23 (by decide) (by omega) (fun c_23 => ?_) (fun c_23 => absurd c_23 (by omega))
  refine V_aload_n d_X_turnKey_36 rfl ?_
  refine V_getf d_X_turnKey_37 ff_X_26 zsys_x0 rfl ?_
  refine V_getf d_X_turnKey_40 ff_X_88 zsys_k rfl ?_
  refine J_if_ne 56 d_X_turnKey_43 (by decide) (by omega) (fun c_43 => ?_) (fun c_43 => absurd c_43 (by omega))
  refine V_aload_n d_X_turnKey_56 rfl ?_
  refine V_getf d_X_turnKey_57 ff_X_26 zsys_x0 rfl ?_
  refine V_iload_n d_X_turnKey_60 rfl ?_
  refine V_callV (n := 1) d_X_turnKey_61 g_X_97 rfl zsys_k rfl (c_placeOfTurn G _ B kd nn t zz ch md tc tg pt L w0 g (by omega) htc htg) ⟨co_KeyRing_placeOfTurn, by decide +kernel, Nat.le_of_ble_eq_true rfl⟩ ⟨Nat.le_of_ble_eq_true rfl, Nat.le_of_ble_eq_true rfl, Nat.le_of_ble_eq_true rfl, Nat.le_of_ble_eq_true rfl⟩ (Nat.le_of_ble_eq_true rfl) (fun r_61 w_61 s_61 q_61 => ?_) (fun _ _ _ q => False.elim q)
  obtain ⟨rfl, rfl, rfl⟩ := q_61
  rw [hpl]
  refine V_istore_n d_X_turnKey_64 (by decide) ?_
  refine V_iload_n d_X_turnKey_65 rfl ?_
  refine V_iconst d_X_turnKey_66 ?_
  refine J_icmp_ne 80 d_X_turnKey_67 (by decide) (by omega) (by omega) (fun c_67 => ?_) (fun c_67 => absurd c_67 (by omega))
  refine V_aload_n d_X_turnKey_80 rfl ?_
  refine V_getf d_X_turnKey_81 ff_X_26 zsys_x0 rfl ?_
  refine V_aload_n d_X_turnKey_84 rfl ?_
  refine V_getf d_X_turnKey_85 ff_X_12 zsys_x0 rfl ?_
  refine V_aload_n d_X_turnKey_88 rfl ?_
  refine V_getf d_X_turnKey_89 ff_X_19 zsys_x0 rfl ?_
  refine V_iload_n d_X_turnKey_92 rfl ?_
  refine V_iload_n d_X_turnKey_93 rfl ?_
  refine V_callV (n := 4) d_X_turnKey_94 g_X_103 rfl zsys_k rfl (c_makeTurn G _ B kd nn t zz ch md tc tg pt L w0 nn rfl hn p g hp (by omega) htc h1 h2) ⟨co_KeyRing_makeTurn, by decide +kernel, Nat.le_of_ble_eq_true rfl⟩ ⟨Nat.le_of_ble_eq_true rfl, Nat.le_of_ble_eq_true rfl, Nat.le_of_ble_eq_true rfl, Nat.le_of_ble_eq_true rfl⟩ (Nat.le_of_ble_eq_true rfl) (fun r_94 w_94 s_94 q_94 => ?_) (fun _ _ _ q => False.elim q)
  obtain ⟨rfl, rfl, rfl⟩ := q_94
  refine V_aload_n d_X_turnKey_97 rfl ?_
  refine V_getf d_X_turnKey_98 ff_X_26 zsys_x0 rfl ?_
  refine V_getf d_X_turnKey_101 ff_X_107 zsys_k rfl ?_
  exact V_ireturn d_X_turnKey_104 rfl ⟨Nat.le_of_ble_eq_true rfl, Nat.le_of_ble_eq_true rfl⟩ ⟨rfl, rfl, rfl⟩

set_option maxRecDepth 100000 in
set_option maxHeartbeats 4000000 in
theorem c_batch_no (G : zG) (sz B : Nat) (kd n t zz : Int) (ch : Int32) (md tc : Int) (tg pt : Nat → Int) (L : Nat → Int → Int) (w0 : zW) (p : Int) (hp : -2147483648 ≤ p ∧ p < 2147483648) (hb : p < 0 ∨ 8 ≤ p) (b : Int) : zCt G M_X_batch (zR 7 1 6 117) [.ref B, .int (Int32.ofInt p), .int (Int32.ofInt b)] sz (zsys G B kd n t zz ch md tc tg pt L w0) (zOut (.inr zNSE) (zsys G B kd n t zz ch md tc tg pt L w0) (sz + 1)) := by
  refine V_aload_n d_X_batch_0 rfl ?_
  refine V_iload_n d_X_batch_1 rfl ?_
  refine V_callV (n := 1) d_X_batch_2 g_X_110 rfl zsys_x0 rfl (c_plainAt_no G _ B kd n t zz ch md tc tg pt L w0 p hp hb) ⟨co_X_plainAt, by decide +kernel, Nat.le_of_ble_eq_true rfl⟩ ⟨Nat.le_of_ble_eq_true rfl, Nat.le_of_ble_eq_true rfl, Nat.le_of_ble_eq_true rfl, Nat.le_of_ble_eq_true rfl⟩ (Nat.le_of_ble_eq_true rfl) (fun r_2 w_2 s_2 q_2 => ?_) (fun _ _ _ q => ⟨⟨Nat.le_of_ble_eq_true rfl, Nat.le_of_ble_eq_true rfl⟩, q⟩)
  cases q_2.1

set_option maxRecDepth 100000 in
set_option maxHeartbeats 4000000 in
theorem c_batch_1 (G : zG) (sz B : Nat) (kd n t zz : Int) (ch : Int32) (md tc : Int) (tg pt : Nat → Int) (L : Nat → Int → Int) (w0 : zW) (nn : Nat) (hnn : n = (nn : Int)) (hn : nn ≤ 32) (p : Nat) (hp : p < 8) (ht : 1 < t ∧ t ≤ 1000) (hR : ∀ j : Nat, j < nn → 0 ≤ L (88 + p) j ∧ L (88 + p) j ≤ 1000) (hW : ∀ j : Int, 0 ≤ j → j < 2 * nn → 0 ≤ L 2 j ∧ L 2 j ≤ 1000) : zCt G M_X_batch (zR 7 1 6 117) [.ref B, .int (Int32.ofInt (p : Int)), .int (Int32.ofInt 1)] sz (zsys G B kd n t zz ch md tc tg pt L w0) (zdet (some (.int (Int32.ofInt ((zCy nn (88 + p) (182 + 0) (zlu L (182 + 0) (zif nn (fun (x : Int) => zes (L (88 + p)) (L 2) (fun j => (2 * x + 1) * (j : Int) % (2 * (nn : Int))) nn % t) (L (182 + 0))))) (88 + p) 0)))) (zsys G B kd n t zz ch md tc tg pt (zCy nn (88 + p) (182 + 0) (zlu L (182 + 0) (zif nn (fun (x : Int) => zes (L (88 + p)) (L 2) (fun j => (2 * x + 1) * (j : Int) % (2 * (nn : Int))) nn % t) (L (182 + 0))))) w0) sz) := by
  subst hnn
  refine V_aload_n d_X_batch_0 rfl ?_
  refine V_iload_n d_X_batch_1 rfl ?_
  refine V_callV (n := 1) d_X_batch_2 g_X_110 rfl zsys_x0 rfl (c_plainAt G _ B kd nn t zz ch md tc tg pt L w0 p hp) ⟨co_X_plainAt, by decide +kernel, Nat.le_of_ble_eq_true rfl⟩ ⟨Nat.le_of_ble_eq_true rfl, Nat.le_of_ble_eq_true rfl, Nat.le_of_ble_eq_true rfl, Nat.le_of_ble_eq_true rfl⟩ (Nat.le_of_ble_eq_true rfl) (fun r_2 w_2 s_2 q_2 => ?_) (fun _ _ _ q => False.elim q)
  obtain ⟨rfl, rfl, rfl⟩ := q_2
  refine V_astore_n d_X_batch_5 (by decide) ?_
  refine V_iload_n d_X_batch_6 rfl ?_
  refine J_if_eq 27 d_X_batch_7 (by decide) (by omega) (fun c_7 => absurd c_7 (by decide)) (fun c_7 => ?_)
  refine V_aload_n d_X_batch_10 rfl ?_
  refine V_getf d_X_batch_11 ff_X_12 zsys_x0 rfl ?_
  refine V_aload_n d_X_batch_14 rfl ?_
  refine V_getf d_X_batch_15 ff_X_45 zsys_x0 rfl ?_
  refine V_iconst d_X_batch_18 ?_
  refine J_aaload d_X_batch_19 (zsys_at (by decide) rfl) rfl rfl (by omega) (by decide) (show _ = some (B + (182 + 0)) from rfl) ?_
  refine V_aload_n d_X_batch_20 rfl ?_
  refine V_callV (n := 2) d_X_batch_21 g_X_126 rfl zsys_r rfl (c_evaluate G _ _ (B + 1) (B + 2) kd nn t zz (B + (182 + 0)) (B + (88 + p)) nn _ _ (L 2) zsys_r (zsys_row (zir_w (by decide))) (zsys_row (zir_p hp)) (zsys_at (by decide) rfl) (by omega) (by omega) rfl hn ht hR hW) ⟨co_Ring_evaluate, by decide +kernel, Nat.le_of_ble_eq_true rfl⟩ ⟨Nat.le_of_ble_eq_true rfl, Nat.le_of_ble_eq_true rfl, Nat.le_of_ble_eq_true rfl, Nat.le_of_ble_eq_true rfl⟩ (Nat.le_of_ble_eq_true rfl) (fun r_21 w_21 s_21 q_21 => ?_) (fun _ _ _ q => False.elim q)
  obtain ⟨rfl, rfl, rfl⟩ := q_21
  refine V_w (zsys_lu (zir_w (by decide))) ?_
  refine V_goto 41 d_X_batch_24 (by decide) ?_
  refine V_aload_n d_X_batch_41 rfl ?_
  refine V_getf d_X_batch_42 ff_X_45 zsys_x0 rfl ?_
  refine V_iconst d_X_batch_45 ?_
  refine J_aaload d_X_batch_46 (zsys_at (by decide) rfl) rfl rfl (by omega) (by decide) (show _ = some (B + (182 + 0)) from rfl) ?_
  refine V_iconst d_X_batch_47 ?_
  refine V_aload_n d_X_batch_48 rfl ?_
  refine V_iconst d_X_batch_49 ?_
  refine V_aload_n d_X_batch_50 rfl ?_
  refine V_getf d_X_batch_51 ff_X_12 zsys_x0 rfl ?_
  refine V_getf d_X_batch_54 ff_X_78 zsys_r rfl ?_
  refine J_copy d_X_batch_57 cp_X_133 cp_nat cp_st cp_ini (zsys_row (zir_w (by decide))) (zsys_row (zir_p hp)) ⟨by omega, by omega, by omega, by omega⟩ (Nat.le_of_ble_eq_true rfl) (Nat.le_of_ble_eq_true rfl) ?_
  refine V_w (zsys_lu (zir_p hp)) ?_
  refine V_aload_n d_X_batch_60 rfl ?_
  refine V_iconst d_X_batch_61 ?_
  refine J_laload d_X_batch_62 (zsys_row (zir_p hp)) (by omega) (by decide) ?_
  refine J_l2i d_X_batch_63 ?_
  exact V_ireturn d_X_batch_64 rfl ⟨Nat.le_of_ble_eq_true rfl, Nat.le_of_ble_eq_true rfl⟩ ⟨rfl, rfl, rfl⟩

set_option maxRecDepth 100000 in
set_option maxHeartbeats 4000000 in
theorem c_batch_0 (G : zG) (sz B : Nat) (kd n t zz : Int) (ch : Int32) (md tc : Int) (tg pt : Nat → Int) (L : Nat → Int → Int) (w0 : zW) (nn : Nat) (hnn : n = (nn : Int)) (hn : nn ≤ 32) (p : Nat) (hp : p < 8) (ht : 1 < t ∧ t ≤ 1000) (hR : ∀ j : Nat, j < nn → 0 ≤ L (88 + p) j ∧ L (88 + p) j ≤ 1000) (hW : ∀ j : Int, 0 ≤ j → j < 2 * nn → 0 ≤ L 2 j ∧ L 2 j ≤ 1000) : zCt G M_X_batch (zR 7 1 6 117) [.ref B, .int (Int32.ofInt (p : Int)), .int (Int32.ofInt 0)] sz (zsys G B kd n t zz ch md tc tg pt L w0) (zdet (some (.int (Int32.ofInt ((zCy nn (88 + p) (182 + 0) (zlu L (182 + 0) (zif nn (fun (x : Int) => zes (L (88 + p)) (L 2) (fun j => (2 * (nn : Int) - 1) * (2 * (j : Int) + 1) * x % (2 * (nn : Int))) nn % t * zpm t nn (t - 2).toNat % t) (L (182 + 0))))) (88 + p) 0)))) (zsys G B kd n t zz ch md tc tg pt (zCy nn (88 + p) (182 + 0) (zlu L (182 + 0) (zif nn (fun (x : Int) => zes (L (88 + p)) (L 2) (fun j => (2 * (nn : Int) - 1) * (2 * (j : Int) + 1) * x % (2 * (nn : Int))) nn % t * zpm t nn (t - 2).toNat % t) (L (182 + 0))))) w0) sz) := by
  subst hnn
  refine V_aload_n d_X_batch_0 rfl ?_
  refine V_iload_n d_X_batch_1 rfl ?_
  refine V_callV (n := 1) d_X_batch_2 g_X_110 rfl zsys_x0 rfl (c_plainAt G _ B kd nn t zz ch md tc tg pt L w0 p hp) ⟨co_X_plainAt, by decide +kernel, Nat.le_of_ble_eq_true rfl⟩ ⟨Nat.le_of_ble_eq_true rfl, Nat.le_of_ble_eq_true rfl, Nat.le_of_ble_eq_true rfl, Nat.le_of_ble_eq_true rfl⟩ (Nat.le_of_ble_eq_true rfl) (fun r_2 w_2 s_2 q_2 => ?_) (fun _ _ _ q => False.elim q)
  obtain ⟨rfl, rfl, rfl⟩ := q_2
  refine V_astore_n d_X_batch_5 (by decide) ?_
  refine V_iload_n d_X_batch_6 rfl ?_
  refine J_if_eq 27 d_X_batch_7 (by decide) (by omega) (fun c_7 => ?_) (fun c_7 => absurd c_7 (by decide))
  refine V_aload_n d_X_batch_27 rfl ?_
  refine V_getf d_X_batch_28 ff_X_12 zsys_x0 rfl ?_
  refine V_aload_n d_X_batch_31 rfl ?_
  refine V_getf d_X_batch_32 ff_X_45 zsys_x0 rfl ?_
  refine V_iconst d_X_batch_35 ?_
  refine J_aaload d_X_batch_36 (zsys_at (by decide) rfl) rfl rfl (by omega) (by decide) (show _ = some (B + (182 + 0)) from rfl) ?_
  refine V_aload_n d_X_batch_37 rfl ?_
  refine V_callV (n := 2) d_X_batch_38 g_X_130 rfl zsys_r rfl (c_interpolate G _ _ (B + 1) (B + 2) kd nn t zz (B + (182 + 0)) (B + (88 + p)) nn _ _ (L 2) zsys_r (zsys_row (zir_w (by decide))) (zsys_row (zir_p hp)) (zsys_at (by decide) rfl) (by omega) (by omega) rfl hn ht hR hW) ⟨co_Ring_interpolate, by decide +kernel, Nat.le_of_ble_eq_true rfl⟩ ⟨Nat.le_of_ble_eq_true rfl, Nat.le_of_ble_eq_true rfl, Nat.le_of_ble_eq_true rfl, Nat.le_of_ble_eq_true rfl⟩ (Nat.le_of_ble_eq_true rfl) (fun r_38 w_38 s_38 q_38 => ?_) (fun _ _ _ q => False.elim q)
  obtain ⟨rfl, rfl, rfl⟩ := q_38
  refine V_w (zsys_lu (zir_w (by decide))) ?_
  refine V_aload_n d_X_batch_41 rfl ?_
  refine V_getf d_X_batch_42 ff_X_45 zsys_x0 rfl ?_
  refine V_iconst d_X_batch_45 ?_
  refine J_aaload d_X_batch_46 (zsys_at (by decide) rfl) rfl rfl (by omega) (by decide) (show _ = some (B + (182 + 0)) from rfl) ?_
  refine V_iconst d_X_batch_47 ?_
  refine V_aload_n d_X_batch_48 rfl ?_
  refine V_iconst d_X_batch_49 ?_
  refine V_aload_n d_X_batch_50 rfl ?_
  refine V_getf d_X_batch_51 ff_X_12 zsys_x0 rfl ?_
  refine V_getf d_X_batch_54 ff_X_78 zsys_r rfl ?_
  refine J_copy d_X_batch_57 cp_X_133 cp_nat cp_st cp_ini (zsys_row (zir_w (by decide))) (zsys_row (zir_p hp)) ⟨by omega, by omega, by omega, by omega⟩ (Nat.le_of_ble_eq_true rfl) (Nat.le_of_ble_eq_true rfl) ?_
  refine V_w (zsys_lu (zir_p hp)) ?_
  refine V_aload_n d_X_batch_60 rfl ?_
  refine V_iconst d_X_batch_61 ?_
  refine J_laload d_X_batch_62 (zsys_row (zir_p hp)) (by omega) (by decide) ?_
  refine J_l2i d_X_batch_63 ?_
  exact V_ireturn d_X_batch_64 rfl ⟨Nat.le_of_ble_eq_true rfl, Nat.le_of_ble_eq_true rfl⟩ ⟨rfl, rfl, rfl⟩

set_option maxRecDepth 100000 in
set_option maxHeartbeats 4000000 in
theorem c_seal_c (G : zG) (sz B : Nat) (kd n t zz : Int) (ch : Int32) (md tc : Int) (tg pt : Nat → Int) (L : Nat → Int → Int) (w0 : zW) (c : Int) (hc : -2147483648 ≤ c ∧ c < 2147483648) (hb : c < 0 ∨ 16 ≤ c) (p : Int) : zCt G M_X_seal (zR 7 1 6 137) [.ref B, .int (Int32.ofInt c), .int (Int32.ofInt p)] sz (zsys G B kd n t zz ch md tc tg pt L w0) (zOut (.inr zNSE) (zsys G B kd n t zz ch md tc tg pt L w0) (sz + 1)) := by
  refine V_aload_n d_X_seal_0 rfl ?_
  refine V_iload_n d_X_seal_1 rfl ?_
  refine V_callV (n := 1) d_X_seal_2 g_X_139 rfl zsys_x0 rfl (c_placeAt_no G _ B kd n t zz ch md tc tg pt L w0 c hc hb) ⟨co_X_placeAt, by decide +kernel, Nat.le_of_ble_eq_true rfl⟩ ⟨Nat.le_of_ble_eq_true rfl, Nat.le_of_ble_eq_true rfl, Nat.le_of_ble_eq_true rfl, Nat.le_of_ble_eq_true rfl⟩ (Nat.le_of_ble_eq_true rfl) (fun r_2 w_2 s_2 q_2 => ?_) (fun _ _ _ q => ⟨⟨Nat.le_of_ble_eq_true rfl, Nat.le_of_ble_eq_true rfl⟩, q⟩)
  cases q_2.1

set_option maxRecDepth 100000 in
set_option maxHeartbeats 4000000 in
theorem c_seal_p (G : zG) (sz B : Nat) (kd n t zz : Int) (ch : Int32) (md tc : Int) (tg pt : Nat → Int) (L : Nat → Int → Int) (w0 : zW) (c : Nat) (hc : c < 16) (p : Int) (hp : -2147483648 ≤ p ∧ p < 2147483648) (hb : p < 0 ∨ 8 ≤ p) : zCt G M_X_seal (zR 7 1 6 137) [.ref B, .int (Int32.ofInt (c : Int)), .int (Int32.ofInt p)] sz (zsys G B kd n t zz ch md tc tg pt L w0) (zOut (.inr zNSE) (zsys G B kd n t zz ch md tc tg pt L w0) (sz + 1)) := by
  refine V_aload_n d_X_seal_0 rfl ?_
  refine V_iload_n d_X_seal_1 rfl ?_
  refine V_callV (n := 1) d_X_seal_2 g_X_139 rfl zsys_x0 rfl (c_placeAt G _ B kd n t zz ch md tc tg pt L w0 c hc) ⟨co_X_placeAt, by decide +kernel, Nat.le_of_ble_eq_true rfl⟩ ⟨Nat.le_of_ble_eq_true rfl, Nat.le_of_ble_eq_true rfl, Nat.le_of_ble_eq_true rfl, Nat.le_of_ble_eq_true rfl⟩ (Nat.le_of_ble_eq_true rfl) (fun r_2 w_2 s_2 q_2 => ?_) (fun _ _ _ q => False.elim q)
  obtain ⟨rfl, rfl, rfl⟩ := q_2
  refine V_astore_n d_X_seal_5 (by decide) ?_
  refine V_aload_n d_X_seal_6 rfl ?_
  refine V_iload_n d_X_seal_7 rfl ?_
  refine V_callV (n := 1) d_X_seal_8 g_X_110 rfl zsys_x0 rfl (c_plainAt_no G _ B kd n t zz ch md tc tg pt L w0 p hp hb) ⟨co_X_plainAt, by decide +kernel, Nat.le_of_ble_eq_true rfl⟩ ⟨Nat.le_of_ble_eq_true rfl, Nat.le_of_ble_eq_true rfl, Nat.le_of_ble_eq_true rfl, Nat.le_of_ble_eq_true rfl⟩ (Nat.le_of_ble_eq_true rfl) (fun r_8 w_8 s_8 q_8 => ?_) (fun _ _ _ q => ⟨⟨Nat.le_of_ble_eq_true rfl, Nat.le_of_ble_eq_true rfl⟩, q⟩)
  cases q_8.1

set_option maxRecDepth 100000 in
set_option maxHeartbeats 4000000 in
theorem c_seal_k (G : zG) (sz B : Nat) (kd n t zz : Int) (ch : Int32) (md tc : Int) (tg pt : Nat → Int) (L : Nat → Int → Int) (w0 : zW) (c : Nat) (hc : c < 16) (p : Nat) (hp : p < 8) (hb : md = 0) : zCt G M_X_seal (zR 7 1 6 137) [.ref B, .int (Int32.ofInt (c : Int)), .int (Int32.ofInt (p : Int))] sz (zsys G B kd n t zz ch md tc tg pt L w0) (zOut (.inr zISE) (zsys G B kd n t zz ch md tc tg pt L w0) (sz + 1)) := by
  refine V_aload_n d_X_seal_0 rfl ?_
  refine V_iload_n d_X_seal_1 rfl ?_
  refine V_callV (n := 1) d_X_seal_2 g_X_139 rfl zsys_x0 rfl (c_placeAt G _ B kd n t zz ch md tc tg pt L w0 c hc) ⟨co_X_placeAt, by decide +kernel, Nat.le_of_ble_eq_true rfl⟩ ⟨Nat.le_of_ble_eq_true rfl, Nat.le_of_ble_eq_true rfl, Nat.le_of_ble_eq_true rfl, Nat.le_of_ble_eq_true rfl⟩ (Nat.le_of_ble_eq_true rfl) (fun r_2 w_2 s_2 q_2 => ?_) (fun _ _ _ q => False.elim q)
  obtain ⟨rfl, rfl, rfl⟩ := q_2
  refine V_astore_n d_X_seal_5 (by decide) ?_
  refine V_aload_n d_X_seal_6 rfl ?_
  refine V_iload_n d_X_seal_7 rfl ?_
  refine V_callV (n := 1) d_X_seal_8 g_X_110 rfl zsys_x0 rfl (c_plainAt G _ B kd n t zz ch md tc tg pt L w0 p hp) ⟨co_X_plainAt, by decide +kernel, Nat.le_of_ble_eq_true rfl⟩ ⟨Nat.le_of_ble_eq_true rfl, Nat.le_of_ble_eq_true rfl, Nat.le_of_ble_eq_true rfl, Nat.le_of_ble_eq_true rfl⟩ (Nat.le_of_ble_eq_true rfl) (fun r_8 w_8 s_8 q_8 => ?_) (fun _ _ _ q => False.elim q)
  obtain ⟨rfl, rfl, rfl⟩ := q_8
  refine V_astore d_X_seal_11 (by decide) ?_
  refine V_aload_n d_X_seal_13 rfl ?_
  refine V_getf d_X_seal_14 ff_X_26 zsys_x0 rfl ?_
  refine V_getf d_X_seal_17 ff_X_88 zsys_k rfl ?_
  refine J_if_ne 33 d_X_seal_20 (by decide) (by omega) (fun c_20 => absurd hb c_20) (fun c_20 => ?_)
  exact V_throwS (tx := "no keys") d_X_seal_23 d_X_seal_26 (Or.inl ⟨d_X_seal_27, rfl⟩) d_X_seal_29 d_X_seal_32 rfl (by decide) rfl (Nat.le_of_ble_eq_true rfl) (Nat.le_of_ble_eq_true rfl) (Nat.le_of_ble_eq_true rfl) (Nat.le_of_ble_eq_true rfl) ⟨Nat.le_of_ble_eq_true rfl, Nat.le_of_ble_eq_true rfl⟩ ⟨rfl, rfl, rfl⟩

set_option maxRecDepth 100000 in
set_option maxHeartbeats 4000000 in
theorem c_seal (G : zG) (sz B : Nat) (kd n t zz : Int) (ch : Int32) (md tc : Int) (tg pt : Nat → Int) (L : Nat → Int → Int) (w0 : zW) (nn : Nat) (hnn : n = (nn : Int)) (hn : nn ≤ 32) (c : Nat) (hc : c < 16) (p : Nat) (hp : p < 8) (hmd : md = 1) (ht : 0 < t ∧ t < 1000) (hR : ∀ k : Nat, k < 2 → ∀ i : Nat, i < nn → -9223372036854775808 ≤ (zSe nn ch p t L) (178 + k) i ∧ (zSe nn ch p t L) (178 + k) i < 9223372036854775808) (hP : ∀ i : Nat, i < nn → -9223372036854775808 ≤ zPs nn c 2 (zSt nn c (zSe nn ch p t L) 2) 85 i ∧ zPs nn c 2 (zSt nn c (zSe nn ch p t L) 2) 85 i < 9223372036854775808) : zCt G M_X_seal (zR 7 1 6 137) [.ref B, .int (Int32.ofInt (c : Int)), .int (Int32.ofInt (p : Int))] sz (zsys G B kd n t zz ch md tc tg pt L w0) (zdet (some (.int (Int32.ofInt ((zBu (zNz t ((zPL nn c 2 (zSt nn c (zSe nn ch p t L) 2)) (182 + 0)) nn) 27 : Nat) : Int)))) (zsys G B kd n t zz (zlcN (zlcN (zlcN ch nn) nn) nn) md tc tg (zpu pt (97 + 5 * c) 2) (zPL nn c 2 (zSt nn c (zSe nn ch p t L) 2)) w0) sz) := by
  subst hnn
  have ht2 : 0 < t ∧ t ≤ 1000 := by omega
  refine V_aload_n d_X_seal_0 rfl ?_
  refine V_iload_n d_X_seal_1 rfl ?_
  refine V_callV (n := 1) d_X_seal_2 g_X_139 rfl zsys_x0 rfl (c_placeAt G _ B kd nn t zz ch md tc tg pt L w0 c hc) ⟨co_X_placeAt, by decide +kernel, Nat.le_of_ble_eq_true rfl⟩ ⟨Nat.le_of_ble_eq_true rfl, Nat.le_of_ble_eq_true rfl, Nat.le_of_ble_eq_true rfl, Nat.le_of_ble_eq_true rfl⟩ (Nat.le_of_ble_eq_true rfl) (fun r_2 w_2 s_2 q_2 => ?_) (fun _ _ _ q => False.elim q)
  obtain ⟨rfl, rfl, rfl⟩ := q_2
  refine V_astore_n d_X_seal_5 (by decide) ?_
  refine V_aload_n d_X_seal_6 rfl ?_
  refine V_iload_n d_X_seal_7 rfl ?_
  refine V_callV (n := 1) d_X_seal_8 g_X_110 rfl zsys_x0 rfl (c_plainAt G _ B kd nn t zz ch md tc tg pt L w0 p hp) ⟨co_X_plainAt, by decide +kernel, Nat.le_of_ble_eq_true rfl⟩ ⟨Nat.le_of_ble_eq_true rfl, Nat.le_of_ble_eq_true rfl, Nat.le_of_ble_eq_true rfl, Nat.le_of_ble_eq_true rfl⟩ (Nat.le_of_ble_eq_true rfl) (fun r_8 w_8 s_8 q_8 => ?_) (fun _ _ _ q => False.elim q)
  obtain ⟨rfl, rfl, rfl⟩ := q_8
  refine V_astore d_X_seal_11 (by decide) ?_
  refine V_aload_n d_X_seal_13 rfl ?_
  refine V_getf d_X_seal_14 ff_X_26 zsys_x0 rfl ?_
  refine V_getf d_X_seal_17 ff_X_88 zsys_k rfl ?_
  refine J_if_ne 33 d_X_seal_20 (by decide) (by omega) (fun c_20 => ?_) (fun c_20 => absurd c_20 (by omega))
  refine V_aload_n d_X_seal_33 rfl ?_
  refine V_getf d_X_seal_34 ff_X_45 zsys_x0 rfl ?_
  refine V_iconst d_X_seal_37 ?_
  refine J_aaload d_X_seal_38 (zsys_at (by decide) rfl) rfl rfl (by omega) (by decide) (show _ = some (B + (182 + 0)) from rfl) ?_
  refine V_astore d_X_seal_39 (by decide) ?_
  refine V_aload_n d_X_seal_41 rfl ?_
  refine V_getf d_X_seal_42 ff_X_19 zsys_x0 rfl ?_
  refine V_aload d_X_seal_45 rfl ?_
  refine V_aload_n d_X_seal_47 rfl ?_
  refine V_getf d_X_seal_48 ff_X_12 zsys_x0 rfl ?_
  refine V_getf d_X_seal_51 ff_X_78 zsys_r rfl ?_
  refine V_callV (n := 2) d_X_seal_54 g_X_143 rfl zsys_c rfl (c_fillTernary G _ _ (B + 3) (B + (182 + 0)) nn ch _ zsys_c (zsys_row (zir_w (by decide))) hn) ⟨co_Chance_fillTernary, by decide +kernel, Nat.le_of_ble_eq_true rfl⟩ ⟨Nat.le_of_ble_eq_true rfl, Nat.le_of_ble_eq_true rfl, Nat.le_of_ble_eq_true rfl, Nat.le_of_ble_eq_true rfl⟩ (Nat.le_of_ble_eq_true rfl) (fun r_54 w_54 s_54 q_54 => ?_) (fun _ _ _ q => False.elim q)
  obtain ⟨rfl, rfl, rfl⟩ := q_54
  refine V_w (by rw [zsys_ch, zsys_lu (zir_w (by decide))]) ?_
  refine V_aload_n d_X_seal_57 rfl ?_
  refine V_getf d_X_seal_58 ff_X_19 zsys_x0 rfl ?_
  refine V_aload_n d_X_seal_61 rfl ?_
  refine V_getf d_X_seal_62 ff_X_42 zsys_x0 rfl ?_
  refine V_iconst d_X_seal_65 ?_
  refine J_aaload d_X_seal_66 (zsys_at (by decide) rfl) rfl rfl (by omega) (by decide) (show _ = some (B + (178 + 0)) from rfl) ?_
  refine V_aload_n d_X_seal_67 rfl ?_
  refine V_getf d_X_seal_68 ff_X_12 zsys_x0 rfl ?_
  refine V_getf d_X_seal_71 ff_X_78 zsys_r rfl ?_
  refine V_callV (n := 2) d_X_seal_74 g_X_147 rfl zsys_c rfl (c_fillErrors G _ _ (B + 3) (B + (178 + 0)) nn (zlcN ch nn) _ zsys_c (zsys_row (zir_s (by decide))) hn) ⟨co_Chance_fillErrors, by decide +kernel, Nat.le_of_ble_eq_true rfl⟩ ⟨Nat.le_of_ble_eq_true rfl, Nat.le_of_ble_eq_true rfl, Nat.le_of_ble_eq_true rfl, Nat.le_of_ble_eq_true rfl⟩ (Nat.le_of_ble_eq_true rfl) (fun r_74 w_74 s_74 q_74 => ?_) (fun _ _ _ q => False.elim q)
  obtain ⟨rfl, rfl, rfl⟩ := q_74
  refine V_w (by rw [zsys_ch, zsys_lu (zir_s (by decide)), zlu_n (show 178 + 0 ≠ 182 + 0 by decide)]) ?_
  refine V_aload_n d_X_seal_77 rfl ?_
  refine V_getf d_X_seal_78 ff_X_19 zsys_x0 rfl ?_
  refine V_aload_n d_X_seal_81 rfl ?_
  refine V_getf d_X_seal_82 ff_X_42 zsys_x0 rfl ?_
  refine V_iconst d_X_seal_85 ?_
  refine J_aaload d_X_seal_86 (zsys_at (by decide) rfl) rfl rfl (by omega) (by decide) (show _ = some (B + (178 + 1)) from rfl) ?_
  refine V_aload_n d_X_seal_87 rfl ?_
  refine V_getf d_X_seal_88 ff_X_12 zsys_x0 rfl ?_
  refine V_getf d_X_seal_91 ff_X_78 zsys_r rfl ?_
  refine V_callV (n := 2) d_X_seal_94 g_X_147 rfl zsys_c rfl (c_fillErrors G _ _ (B + 3) (B + (178 + 1)) nn (zlcN (zlcN ch nn) nn) _ zsys_c (zsys_row (zir_s (by decide))) hn) ⟨co_Chance_fillErrors, by decide +kernel, Nat.le_of_ble_eq_true rfl⟩ ⟨Nat.le_of_ble_eq_true rfl, Nat.le_of_ble_eq_true rfl, Nat.le_of_ble_eq_true rfl, Nat.le_of_ble_eq_true rfl⟩ (Nat.le_of_ble_eq_true rfl) (fun r_94 w_94 s_94 q_94 => ?_) (fun _ _ _ q => False.elim q)
  obtain ⟨rfl, rfl, rfl⟩ := q_94
  refine V_w (by rw [zsys_ch, zsys_lu (zir_s (by decide)), zlu_n (show 178 + 1 ≠ 178 + 0 by decide), zlu_n (show 178 + 1 ≠ 182 + 0 by decide)]) ?_
  refine V_aload_n d_X_seal_97 rfl ?_
  refine V_getf d_X_seal_98 ff_X_12 zsys_x0 rfl ?_
  refine V_aload_n d_X_seal_101 rfl ?_
  refine V_getf d_X_seal_102 ff_X_42 zsys_x0 rfl ?_
  refine V_iconst d_X_seal_105 ?_
  refine J_aaload d_X_seal_106 (zsys_at (by decide) rfl) rfl rfl (by omega) (by decide) (show _ = some (B + (178 + 0)) from rfl) ?_
  refine V_aload_n d_X_seal_107 rfl ?_
  refine V_getf d_X_seal_108 ff_X_26 zsys_x0 rfl ?_
  refine V_getf d_X_seal_111 ff_X_150 zsys_k rfl ?_
  refine V_aload d_X_seal_114 rfl ?_
  refine V_callV (n := 3) d_X_seal_116 g_X_154 rfl zsys_r rfl (c_addProduct G _ _ (B + 1) (B + 2) kd nn t zz (B + (178 + 0)) (B + 7) (B + (182 + 0)) nn _ _ _ zsys_r (zsys_row (zir_s (by decide))) (zsys_row zir_7) (zsys_row (zir_w (by decide))) (by omega) (by omega) rfl hn) ⟨co_Ring_addProduct, by decide +kernel, Nat.le_of_ble_eq_true rfl⟩ ⟨Nat.le_of_ble_eq_true rfl, Nat.le_of_ble_eq_true rfl, Nat.le_of_ble_eq_true rfl, Nat.le_of_ble_eq_true rfl⟩ (Nat.le_of_ble_eq_true rfl) (fun r_116 w_116 s_116 q_116 => ?_) (fun _ _ _ q => False.elim q)
  obtain ⟨rfl, rfl, rfl⟩ := q_116
  refine V_w (zsys_lu (zir_s (by decide))) ?_
  refine V_aload_n d_X_seal_119 rfl ?_
  refine V_getf d_X_seal_120 ff_X_12 zsys_x0 rfl ?_
  refine V_aload_n d_X_seal_123 rfl ?_
  refine V_getf d_X_seal_124 ff_X_42 zsys_x0 rfl ?_
  refine V_iconst d_X_seal_127 ?_
  refine J_aaload d_X_seal_128 (zsys_at (by decide) rfl) rfl rfl (by omega) (by decide) (show _ = some (B + (178 + 0)) from rfl) ?_
  refine V_aload d_X_seal_129 rfl ?_
  refine V_aload_n d_X_seal_131 rfl ?_
  refine V_getf d_X_seal_132 ff_X_12 zsys_x0 rfl ?_
  refine V_callV (n := 0) d_X_seal_135 g_X_158 rfl zsys_r rfl (c_scale G _ _ (B + 1) (B + 2) kd nn t zz zsys_r (by omega)) ⟨co_Ring_scale, by decide +kernel, Nat.le_of_ble_eq_true rfl⟩ ⟨Nat.le_of_ble_eq_true rfl, Nat.le_of_ble_eq_true rfl, Nat.le_of_ble_eq_true rfl, Nat.le_of_ble_eq_true rfl⟩ (Nat.le_of_ble_eq_true rfl) (fun r_135 w_135 s_135 q_135 => ?_) (fun _ _ _ q => False.elim q)
  obtain ⟨rfl, rfl, rfl⟩ := q_135
  refine V_callV (n := 3) d_X_seal_138 g_X_162 rfl zsys_r rfl (c_addScaled G _ _ (B + 1) (B + 2) kd nn t zz (B + (178 + 0)) (B + (88 + p)) (268435399 / t) _ _ zsys_r (zsys_row (zir_s (by decide))) (zsys_row (zir_p hp)) (by omega) (by omega)) ⟨co_Ring_addScaled, by decide +kernel, Nat.le_of_ble_eq_true rfl⟩ ⟨Nat.le_of_ble_eq_true rfl, Nat.le_of_ble_eq_true rfl, Nat.le_of_ble_eq_true rfl, Nat.le_of_ble_eq_true rfl⟩ (Nat.le_of_ble_eq_true rfl) (fun r_138 w_138 s_138 q_138 => ?_) (fun _ _ _ q => False.elim q)
  obtain ⟨rfl, rfl, rfl⟩ := q_138
  refine V_w (zsys_lu (zir_s (by decide))) ?_
  refine V_aload_n d_X_seal_141 rfl ?_
  refine V_getf d_X_seal_142 ff_X_12 zsys_x0 rfl ?_
  refine V_aload_n d_X_seal_145 rfl ?_
  refine V_getf d_X_seal_146 ff_X_42 zsys_x0 rfl ?_
  refine V_iconst d_X_seal_149 ?_
  refine J_aaload d_X_seal_150 (zsys_at (by decide) rfl) rfl rfl (by omega) (by decide) (show _ = some (B + (178 + 1)) from rfl) ?_
  refine V_aload_n d_X_seal_151 rfl ?_
  refine V_getf d_X_seal_152 ff_X_26 zsys_x0 rfl ?_
  refine V_getf d_X_seal_155 ff_X_166 zsys_k rfl ?_
  refine V_aload d_X_seal_158 rfl ?_
  refine V_callV (n := 3) d_X_seal_160 g_X_154 rfl zsys_r rfl (c_addProduct G _ _ (B + 1) (B + 2) kd nn t zz (B + (178 + 1)) (B + 8) (B + (182 + 0)) nn _ _ _ zsys_r (zsys_row (zir_s (by decide))) (zsys_row zir_8) (zsys_row (zir_w (by decide))) (by omega) (by omega) rfl hn) ⟨co_Ring_addProduct, by decide +kernel, Nat.le_of_ble_eq_true rfl⟩ ⟨Nat.le_of_ble_eq_true rfl, Nat.le_of_ble_eq_true rfl, Nat.le_of_ble_eq_true rfl, Nat.le_of_ble_eq_true rfl⟩ (Nat.le_of_ble_eq_true rfl) (fun r_160 w_160 s_160 q_160 => ?_) (fun _ _ _ q => False.elim q)
  obtain ⟨rfl, rfl, rfl⟩ := q_160
  refine V_w (zsys_lu (zir_s (by decide))) ?_
  refine V_aload_n d_X_seal_163 rfl ?_
  refine V_aload_n d_X_seal_164 rfl ?_
  refine V_callV (n := 1) d_X_seal_165 g_X_169 rfl zsys_x0 rfl (c_storeTwoParts G _ B kd nn t zz (zlcN (zlcN (zlcN ch nn) nn) nn) md tc tg pt (zSe nn ch p t L) w0 nn rfl hn c hc ht2 hR hP (fun i hi => zmul_b ht2 (zPL_b hi))) ⟨co_X_storeTwoParts, by decide +kernel, Nat.le_of_ble_eq_true rfl⟩ ⟨Nat.le_of_ble_eq_true rfl, Nat.le_of_ble_eq_true rfl, Nat.le_of_ble_eq_true rfl, Nat.le_of_ble_eq_true rfl⟩ (Nat.le_of_ble_eq_true rfl) (fun r_165 w_165 s_165 q_165 => ?_) (fun _ _ _ q => False.elim q)
  obtain ⟨rfl, rfl, rfl⟩ := q_165
  exact V_ireturn d_X_seal_168 rfl ⟨Nat.le_of_ble_eq_true rfl, Nat.le_of_ble_eq_true rfl⟩ ⟨rfl, rfl, rfl⟩

set_option maxRecDepth 100000 in
set_option maxHeartbeats 4000000 in
theorem c_open_p (G : zG) (sz B : Nat) (kd n t zz : Int) (ch : Int32) (md tc : Int) (tg pt : Nat → Int) (L : Nat → Int → Int) (w0 : zW) (p : Int) (hp : -2147483648 ≤ p ∧ p < 2147483648) (hb : p < 0 ∨ 8 ≤ p) (c : Int) : zCt G M_X_open (zR 8 1 6 139) [.ref B, .int (Int32.ofInt p), .int (Int32.ofInt c)] sz (zsys G B kd n t zz ch md tc tg pt L w0) (zOut (.inr zNSE) (zsys G B kd n t zz ch md tc tg pt L w0) (sz + 1)) := by
  refine V_aload_n d_X_open_0 rfl ?_
  refine V_iload_n d_X_open_1 rfl ?_
  refine V_callV (n := 1) d_X_open_2 g_X_110 rfl zsys_x0 rfl (c_plainAt_no G _ B kd n t zz ch md tc tg pt L w0 p hp hb) ⟨co_X_plainAt, by decide +kernel, Nat.le_of_ble_eq_true rfl⟩ ⟨Nat.le_of_ble_eq_true rfl, Nat.le_of_ble_eq_true rfl, Nat.le_of_ble_eq_true rfl, Nat.le_of_ble_eq_true rfl⟩ (Nat.le_of_ble_eq_true rfl) (fun r_2 w_2 s_2 q_2 => ?_) (fun _ _ _ q => ⟨⟨Nat.le_of_ble_eq_true rfl, Nat.le_of_ble_eq_true rfl⟩, q⟩)
  cases q_2.1

set_option maxRecDepth 100000 in
set_option maxHeartbeats 4000000 in
theorem c_open_c (G : zG) (sz B : Nat) (kd n t zz : Int) (ch : Int32) (md tc : Int) (tg pt : Nat → Int) (L : Nat → Int → Int) (w0 : zW) (p : Nat) (hp : p < 8) (c : Int) (hc : -2147483648 ≤ c ∧ c < 2147483648) (hb : c < 0 ∨ 16 ≤ c) : zCt G M_X_open (zR 8 1 6 139) [.ref B, .int (Int32.ofInt (p : Int)), .int (Int32.ofInt c)] sz (zsys G B kd n t zz ch md tc tg pt L w0) (zOut (.inr zNSE) (zsys G B kd n t zz ch md tc tg pt L w0) (sz + 1)) := by
  refine V_aload_n d_X_open_0 rfl ?_
  refine V_iload_n d_X_open_1 rfl ?_
  refine V_callV (n := 1) d_X_open_2 g_X_110 rfl zsys_x0 rfl (c_plainAt G _ B kd n t zz ch md tc tg pt L w0 p hp) ⟨co_X_plainAt, by decide +kernel, Nat.le_of_ble_eq_true rfl⟩ ⟨Nat.le_of_ble_eq_true rfl, Nat.le_of_ble_eq_true rfl, Nat.le_of_ble_eq_true rfl, Nat.le_of_ble_eq_true rfl⟩ (Nat.le_of_ble_eq_true rfl) (fun r_2 w_2 s_2 q_2 => ?_) (fun _ _ _ q => False.elim q)
  obtain ⟨rfl, rfl, rfl⟩ := q_2
  refine V_astore_n d_X_open_5 (by decide) ?_
  refine V_aload_n d_X_open_6 rfl ?_
  refine V_iload_n d_X_open_7 rfl ?_
  refine V_callV (n := 1) d_X_open_8 g_X_173 rfl zsys_x0 rfl (c_takenAt_no G _ B kd n t zz ch md tc tg pt L w0 c hc hb) ⟨co_X_takenAt, by decide +kernel, Nat.le_of_ble_eq_true rfl⟩ ⟨Nat.le_of_ble_eq_true rfl, Nat.le_of_ble_eq_true rfl, Nat.le_of_ble_eq_true rfl, Nat.le_of_ble_eq_true rfl⟩ (Nat.le_of_ble_eq_true rfl) (fun r_8 w_8 s_8 q_8 => ?_) (fun _ _ _ q => ⟨⟨Nat.le_of_ble_eq_true rfl, Nat.le_of_ble_eq_true rfl⟩, q⟩)
  cases q_8.1

set_option maxRecDepth 100000 in
set_option maxHeartbeats 4000000 in
theorem c_open_e (G : zG) (sz B : Nat) (kd n t zz : Int) (ch : Int32) (md tc : Int) (tg pt : Nat → Int) (L : Nat → Int → Int) (w0 : zW) (p : Nat) (hp : p < 8) (c : Nat) (hc : c < 16) (he : pt (97 + 5 * c) = 0) : zCt G M_X_open (zR 8 1 6 139) [.ref B, .int (Int32.ofInt (p : Int)), .int (Int32.ofInt (c : Int))] sz (zsys G B kd n t zz ch md tc tg pt L w0) (zOut (.inr zNSE) (zsys G B kd n t zz ch md tc tg pt L w0) (sz + 1)) := by
  refine V_aload_n d_X_open_0 rfl ?_
  refine V_iload_n d_X_open_1 rfl ?_
  refine V_callV (n := 1) d_X_open_2 g_X_110 rfl zsys_x0 rfl (c_plainAt G _ B kd n t zz ch md tc tg pt L w0 p hp) ⟨co_X_plainAt, by decide +kernel, Nat.le_of_ble_eq_true rfl⟩ ⟨Nat.le_of_ble_eq_true rfl, Nat.le_of_ble_eq_true rfl, Nat.le_of_ble_eq_true rfl, Nat.le_of_ble_eq_true rfl⟩ (Nat.le_of_ble_eq_true rfl) (fun r_2 w_2 s_2 q_2 => ?_) (fun _ _ _ q => False.elim q)
  obtain ⟨rfl, rfl, rfl⟩ := q_2
  refine V_astore_n d_X_open_5 (by decide) ?_
  refine V_aload_n d_X_open_6 rfl ?_
  refine V_iload_n d_X_open_7 rfl ?_
  refine V_callV (n := 1) d_X_open_8 g_X_173 rfl zsys_x0 rfl (c_takenAt_em G _ B kd n t zz ch md tc tg pt L w0 c hc he) ⟨co_X_takenAt, by decide +kernel, Nat.le_of_ble_eq_true rfl⟩ ⟨Nat.le_of_ble_eq_true rfl, Nat.le_of_ble_eq_true rfl, Nat.le_of_ble_eq_true rfl, Nat.le_of_ble_eq_true rfl⟩ (Nat.le_of_ble_eq_true rfl) (fun r_8 w_8 s_8 q_8 => ?_) (fun _ _ _ q => ⟨⟨Nat.le_of_ble_eq_true rfl, Nat.le_of_ble_eq_true rfl⟩, q⟩)
  cases q_8.1

set_option maxRecDepth 100000 in
set_option maxHeartbeats 4000000 in
theorem c_open (G : zG) (sz B : Nat) (kd n t zz : Int) (ch : Int32) (md tc : Int) (tg pt : Nat → Int) (L : Nat → Int → Int) (w0 : zW) (nn : Nat) (hnn : n = (nn : Int)) (hn : nn ≤ 32) (p : Nat) (hp : p < 8) (c : Nat) (hc : c < 16) (hfc : 0 < pt (97 + 5 * c) ∧ pt (97 + 5 * c) ≤ 3) (ht : 1 < t ∧ t ≤ 1000) (hP : ∀ i : Nat, i < nn → -9223372036854775808 ≤ zPs nn c (pt (97 + 5 * c)) L 85 i ∧ zPs nn c (pt (97 + 5 * c)) L 85 i < 9223372036854775808) : zCt G M_X_open (zR 8 1 6 139) [.ref B, .int (Int32.ofInt (p : Int)), .int (Int32.ofInt (c : Int))] sz (zsys G B kd n t zz ch md tc tg pt L w0) (zdet (some (.int (Int32.ofInt ((zBu (zNz t ((zOp nn c p (pt (97 + 5 * c)) t L) (182 + 0)) nn) 27 : Nat) : Int)))) (zsys G B kd n t zz ch md tc tg pt (zOp nn c p (pt (97 + 5 * c)) t L) w0) sz) := by
  subst hnn
  refine V_aload_n d_X_open_0 rfl ?_
  refine V_iload_n d_X_open_1 rfl ?_
  refine V_callV (n := 1) d_X_open_2 g_X_110 rfl zsys_x0 rfl (c_plainAt G _ B kd nn t zz ch md tc tg pt L w0 p hp) ⟨co_X_plainAt, by decide +kernel, Nat.le_of_ble_eq_true rfl⟩ ⟨Nat.le_of_ble_eq_true rfl, Nat.le_of_ble_eq_true rfl, Nat.le_of_ble_eq_true rfl, Nat.le_of_ble_eq_true rfl⟩ (Nat.le_of_ble_eq_true rfl) (fun r_2 w_2 s_2 q_2 => ?_) (fun _ _ _ q => False.elim q)
  obtain ⟨rfl, rfl, rfl⟩ := q_2
  refine V_astore_n d_X_open_5 (by decide) ?_
  refine V_aload_n d_X_open_6 rfl ?_
  refine V_iload_n d_X_open_7 rfl ?_
  refine V_callV (n := 1) d_X_open_8 g_X_173 rfl zsys_x0 rfl (c_takenAt G _ B kd nn t zz ch md tc tg pt L w0 c hc hfc) ⟨co_X_takenAt, by decide +kernel, Nat.le_of_ble_eq_true rfl⟩ ⟨Nat.le_of_ble_eq_true rfl, Nat.le_of_ble_eq_true rfl, Nat.le_of_ble_eq_true rfl, Nat.le_of_ble_eq_true rfl⟩ (Nat.le_of_ble_eq_true rfl) (fun r_8 w_8 s_8 q_8 => ?_) (fun _ _ _ q => False.elim q)
  obtain ⟨rfl, rfl, rfl⟩ := q_8
  refine V_astore d_X_open_11 (by decide) ?_
  refine V_aload_n d_X_open_13 rfl ?_
  refine V_aload d_X_open_14 rfl ?_
  refine V_callV (n := 1) d_X_open_16 g_X_176 rfl zsys_x0 rfl (c_phaseOf G _ B kd nn t zz ch md tc tg pt L w0 nn rfl hn c hc (by omega) hP) ⟨co_X_phaseOf, by decide +kernel, Nat.le_of_ble_eq_true rfl⟩ ⟨Nat.le_of_ble_eq_true rfl, Nat.le_of_ble_eq_true rfl, Nat.le_of_ble_eq_true rfl, Nat.le_of_ble_eq_true rfl⟩ (Nat.le_of_ble_eq_true rfl) (fun r_16 w_16 s_16 q_16 => ?_) (fun _ _ _ q => False.elim q)
  obtain ⟨rfl, rfl, rfl⟩ := q_16
  refine V_astore d_X_open_19 (by decide) ?_
  refine V_iconst d_X_open_21 ?_
  refine V_istore d_X_open_22 (by decide) ?_
  refine V_w (w' := (zsys G B kd nn t zz ch md tc tg pt (zlu (zPL nn c (pt (97 + 5 * c)) L) (88 + p) (zif ((0 : Nat) : Int) (fun i => zts t ((zPL nn c (pt (97 + 5 * c)) L) (182 + 0) i) % t) ((zPL nn c (pt (97 + 5 * c)) L) (88 + p)))) w0)) (by rw [show ((0 : Nat) : Int) = 0 from rfl, zif_0, ← zsys_lu (zir_p hp), zset_self (zsys_row (zir_p hp))]) ?_
  refine zfor nn (fun i => V G M_X_open (zdet (some (.int (Int32.ofInt ((zBu (zNz t ((zOp nn c p (pt (97 + 5 * c)) t L) (182 + 0)) nn) 27 : Nat) : Int)))) (zsys G B kd nn t zz ch md tc tg pt (zOp nn c p (pt (97 + 5 * c)) t L) w0) sz) (zR 8 1 6 139) 0 0 sz 24 [(0, .ref B), (1, .int (Int32.ofInt (p : Int))), (2, .int (Int32.ofInt (c : Int))), (3, .ref (B + (88 + p))), (4, .ref (B + (97 + 5 * c))), (5, .ref (B + (182 + 0))), (6, .int (Int32.ofInt (i : Int)))] [] (zsys G B kd nn t zz ch md tc tg pt (zlu (zPL nn c (pt (97 + 5 * c)) L) (88 + p) (zif (i : Int) (fun i => zts t ((zPL nn c (pt (97 + 5 * c)) L) (182 + 0) i) % t) ((zPL nn c (pt (97 + 5 * c)) L) (88 + p)))) w0)) ?_ (fun i hi ih => ?_) 0 (Nat.zero_le nn)
  · skip
    refine V_iload d_X_open_24 rfl ?_
    refine V_aload_n d_X_open_26 rfl ?_
    refine V_getf d_X_open_27 ff_X_12 zsys_x0 rfl ?_
    refine V_getf d_X_open_30 ff_X_78 zsys_r rfl ?_
    refine J_icmp_ge 69 d_X_open_33 (by decide) (by omega) (by omega) (fun c_33 => ?_) (fun c_33 => absurd c_33 (by omega))
    refine V_aload_n d_X_open_69 rfl ?_
    refine V_aload d_X_open_70 rfl ?_
    refine V_callV (n := 1) d_X_open_72 g_X_187 rfl zsys_x0 rfl (c_noiseIn G _ B kd nn t zz ch md tc tg pt (zOp nn c p (pt (97 + 5 * c)) t L) w0 nn rfl hn (182 + 0) (zir_w (by decide)) (by omega) (fun i hi => by unfold zOp; rw [zlu_n (by omega)]; exact zmul_b (by omega) (zPL_b hi))) ⟨co_X_noiseIn, by decide +kernel, Nat.le_of_ble_eq_true rfl⟩ ⟨Nat.le_of_ble_eq_true rfl, Nat.le_of_ble_eq_true rfl, Nat.le_of_ble_eq_true rfl, Nat.le_of_ble_eq_true rfl⟩ (Nat.le_of_ble_eq_true rfl) (fun r_72 w_72 s_72 q_72 => ?_) (fun _ _ _ q => False.elim q)
    obtain ⟨rfl, rfl, rfl⟩ := q_72
    refine V_callS (n := 1) d_X_open_75 g_X_191 rfl (c_budgetOf G _ _ (zNz t ((zOp nn c p (pt (97 + 5 * c)) t L) (182 + 0)) nn) (zNz_b _ _ _)) ⟨co_X_budgetOf, by decide +kernel, Nat.le_of_ble_eq_true rfl⟩ ⟨Nat.le_of_ble_eq_true rfl, Nat.le_of_ble_eq_true rfl, Nat.le_of_ble_eq_true rfl, Nat.le_of_ble_eq_true rfl⟩ (Nat.le_of_ble_eq_true rfl) (fun r_75 w_75 s_75 q_75 => ?_) (fun _ _ _ q => False.elim q)
    obtain ⟨rfl, rfl, rfl⟩ := q_75
    exact V_ireturn d_X_open_78 rfl ⟨Nat.le_of_ble_eq_true rfl, Nat.le_of_ble_eq_true rfl⟩ ⟨rfl, rfl, rfl⟩
  · have hb := zPL_b (c := c) (p := pt (97 + 5 * c)) (L := L) hi
    have hb2 := zts_b (t := t) (by omega) hb
    refine V_iload d_X_open_24 rfl ?_
    refine V_aload_n d_X_open_26 rfl ?_
    refine V_getf d_X_open_27 ff_X_12 zsys_x0 rfl ?_
    refine V_getf d_X_open_30 ff_X_78 zsys_r rfl ?_
    refine J_icmp_ge 69 d_X_open_33 (by decide) (by omega) (by omega) (fun c_33 => absurd c_33 (by omega)) (fun c_33 => ?_)
    refine V_aload_n d_X_open_36 rfl ?_
    refine V_iload d_X_open_37 rfl ?_
    refine V_aload_n d_X_open_39 rfl ?_
    refine V_getf d_X_open_40 ff_X_12 zsys_x0 rfl ?_
    refine V_aload d_X_open_43 rfl ?_
    refine V_iload d_X_open_45 rfl ?_
    refine J_laload d_X_open_47 (zsys_row (zir_w (by decide))) (by omega) (by decide) ?_
    rw [zlu_n (show 182 + 0 ≠ 88 + p by omega)]
    refine V_callV (n := 1) d_X_open_48 g_X_180 rfl zsys_r rfl (c_timesTOverQ G _ _ (B + 1) (B + 2) kd nn t zz ((zPL nn c (pt (97 + 5 * c)) L) (182 + 0) i) zsys_r ht (by omega)) ⟨co_Ring_timesTOverQ, by decide +kernel, Nat.le_of_ble_eq_true rfl⟩ ⟨Nat.le_of_ble_eq_true rfl, Nat.le_of_ble_eq_true rfl, Nat.le_of_ble_eq_true rfl, Nat.le_of_ble_eq_true rfl⟩ (Nat.le_of_ble_eq_true rfl) (fun r_48 w_48 s_48 q_48 => ?_) (fun _ _ _ q => False.elim q)
    obtain ⟨rfl, rfl, rfl⟩ := q_48
    refine V_aload_n d_X_open_51 rfl ?_
    refine V_getf d_X_open_52 ff_X_12 zsys_x0 rfl ?_
    refine V_getf d_X_open_55 ff_X_117 zsys_r rfl ?_
    refine J_i2l d_X_open_58 (by omega) ?_
    refine V_callS (n := 2) d_X_open_59 g_X_184 rfl (c_fmodJ G _ _ (zts t ((zPL nn c (pt (97 + 5 * c)) L) (182 + 0) i)) t hb2 (by omega)) ⟨co_Math_floorMod_JJ, by decide +kernel, Nat.le_of_ble_eq_true rfl⟩ ⟨Nat.le_of_ble_eq_true rfl, Nat.le_of_ble_eq_true rfl, Nat.le_of_ble_eq_true rfl, Nat.le_of_ble_eq_true rfl⟩ (Nat.le_of_ble_eq_true rfl) (fun r_59 w_59 s_59 q_59 => ?_) (fun _ _ _ q => False.elim q)
    obtain ⟨rfl, rfl, rfl⟩ := q_59
    refine J_lastore d_X_open_62 (zsys_row (zir_p hp)) (by omega) (by decide) ?_
    refine J_iinc d_X_open_63 rfl (by decide) ?_
    refine V_goto 24 d_X_open_66 (by decide) ?_
    exact V_w (by rw [zsys_lu (zir_p hp), zlu_s, zif_s (by omega) rfl, zlu_lu]; rfl) ih

set_option maxRecDepth 100000 in
set_option maxHeartbeats 4000000 in
theorem c_about_no (G : zG) (sz B : Nat) (kd n t zz : Int) (ch : Int32) (md tc : Int) (tg pt : Nat → Int) (L : Nat → Int → Int) (w0 : zW) (c : Int) (hc : -2147483648 ≤ c ∧ c < 2147483648) (hb : c < 0 ∨ 16 ≤ c) (x : Int) : zCt G M_X_about (zR 8 1 6 139) [.ref B, .int (Int32.ofInt c), .int (Int32.ofInt x)] sz (zsys G B kd n t zz ch md tc tg pt L w0) (zOut (.inr zNSE) (zsys G B kd n t zz ch md tc tg pt L w0) (sz + 1)) := by
  refine V_aload_n d_X_about_0 rfl ?_
  refine V_iload_n d_X_about_1 rfl ?_
  refine V_callV (n := 1) d_X_about_2 g_X_173 rfl zsys_x0 rfl (c_takenAt_no G _ B kd n t zz ch md tc tg pt L w0 c hc hb) ⟨co_X_takenAt, by decide +kernel, Nat.le_of_ble_eq_true rfl⟩ ⟨Nat.le_of_ble_eq_true rfl, Nat.le_of_ble_eq_true rfl, Nat.le_of_ble_eq_true rfl, Nat.le_of_ble_eq_true rfl⟩ (Nat.le_of_ble_eq_true rfl) (fun r_2 w_2 s_2 q_2 => ?_) (fun _ _ _ q => ⟨⟨Nat.le_of_ble_eq_true rfl, Nat.le_of_ble_eq_true rfl⟩, q⟩)
  cases q_2.1

set_option maxRecDepth 100000 in
set_option maxHeartbeats 4000000 in
theorem c_about_em (G : zG) (sz B : Nat) (kd n t zz : Int) (ch : Int32) (md tc : Int) (tg pt : Nat → Int) (L : Nat → Int → Int) (w0 : zW) (c : Nat) (hc : c < 16) (he : pt (97 + 5 * c) = 0) (x : Int) : zCt G M_X_about (zR 8 1 6 139) [.ref B, .int (Int32.ofInt (c : Int)), .int (Int32.ofInt x)] sz (zsys G B kd n t zz ch md tc tg pt L w0) (zOut (.inr zNSE) (zsys G B kd n t zz ch md tc tg pt L w0) (sz + 1)) := by
  refine V_aload_n d_X_about_0 rfl ?_
  refine V_iload_n d_X_about_1 rfl ?_
  refine V_callV (n := 1) d_X_about_2 g_X_173 rfl zsys_x0 rfl (c_takenAt_em G _ B kd n t zz ch md tc tg pt L w0 c hc he) ⟨co_X_takenAt, by decide +kernel, Nat.le_of_ble_eq_true rfl⟩ ⟨Nat.le_of_ble_eq_true rfl, Nat.le_of_ble_eq_true rfl, Nat.le_of_ble_eq_true rfl, Nat.le_of_ble_eq_true rfl⟩ (Nat.le_of_ble_eq_true rfl) (fun r_2 w_2 s_2 q_2 => ?_) (fun _ _ _ q => ⟨⟨Nat.le_of_ble_eq_true rfl, Nat.le_of_ble_eq_true rfl⟩, q⟩)
  cases q_2.1

set_option maxRecDepth 100000 in
set_option maxHeartbeats 4000000 in
theorem c_about_x (G : zG) (sz B : Nat) (kd n t zz : Int) (ch : Int32) (md tc : Int) (tg pt : Nat → Int) (L : Nat → Int → Int) (w0 : zW)  (c : Nat) (hc : c < 16) (hfc : 0 < pt (97 + 5 * c) ∧ pt (97 + 5 * c) ≤ 3) (x : Int) (hx : -2147483648 ≤ x ∧ x < 2147483648) (hb : x < 0 ∨ 2 < x) : zCt G M_X_about (zR 8 1 6 139) [.ref B, .int (Int32.ofInt (c : Int)), .int (Int32.ofInt x)] sz (zsys G B kd n t zz ch md tc tg pt L w0) (zOut (.inr zIAE) (zsys G B kd n t zz ch md tc tg pt L w0) (sz + 1)) := by
  refine V_aload_n d_X_about_0 rfl ?_
  refine V_iload_n d_X_about_1 rfl ?_
  refine V_callV (n := 1) d_X_about_2 g_X_173 rfl zsys_x0 rfl (c_takenAt G _ B kd n t zz ch md tc tg pt L w0 c hc hfc) ⟨co_X_takenAt, by decide +kernel, Nat.le_of_ble_eq_true rfl⟩ ⟨Nat.le_of_ble_eq_true rfl, Nat.le_of_ble_eq_true rfl, Nat.le_of_ble_eq_true rfl, Nat.le_of_ble_eq_true rfl⟩ (Nat.le_of_ble_eq_true rfl) (fun r_2 w_2 s_2 q_2 => ?_) (fun _ _ _ q => False.elim q)
  obtain ⟨rfl, rfl, rfl⟩ := q_2
  refine V_astore_n d_X_about_5 (by decide) ?_
  refine V_iload_n d_X_about_6 rfl ?_
  refine V_tableOut 61 d_X_about_7 (by rw [z32 hx]; omega) (by decide) ?_
  exact V_throwA (tx := "nothing to tell") d_X_about_61 d_X_about_64 (Or.inl ⟨d_X_about_65, rfl⟩) d_X_about_67 d_X_about_70 rfl (by decide) rfl (Nat.le_of_ble_eq_true rfl) (Nat.le_of_ble_eq_true rfl) (Nat.le_of_ble_eq_true rfl) (Nat.le_of_ble_eq_true rfl) ⟨Nat.le_of_ble_eq_true rfl, Nat.le_of_ble_eq_true rfl⟩ ⟨rfl, rfl, rfl⟩

set_option maxRecDepth 100000 in
set_option maxHeartbeats 4000000 in
theorem c_about_0 (G : zG) (sz B : Nat) (kd n t zz : Int) (ch : Int32) (md tc : Int) (tg pt : Nat → Int) (L : Nat → Int → Int) (w0 : zW)  (c : Nat) (hc : c < 16) (hfc : 0 < pt (97 + 5 * c) ∧ pt (97 + 5 * c) ≤ 3)  : zCt G M_X_about (zR 8 1 6 139) [.ref B, .int (Int32.ofInt (c : Int)), .int (Int32.ofInt 0)] sz (zsys G B kd n t zz ch md tc tg pt L w0) (zdet (some (.int (Int32.ofInt (pt (97 + 5 * c))))) (zsys G B kd n t zz ch md tc tg pt L w0) sz) := by
  refine V_aload_n d_X_about_0 rfl ?_
  refine V_iload_n d_X_about_1 rfl ?_
  refine V_callV (n := 1) d_X_about_2 g_X_173 rfl zsys_x0 rfl (c_takenAt G _ B kd n t zz ch md tc tg pt L w0 c hc hfc) ⟨co_X_takenAt, by decide +kernel, Nat.le_of_ble_eq_true rfl⟩ ⟨Nat.le_of_ble_eq_true rfl, Nat.le_of_ble_eq_true rfl, Nat.le_of_ble_eq_true rfl, Nat.le_of_ble_eq_true rfl⟩ (Nat.le_of_ble_eq_true rfl) (fun r_2 w_2 s_2 q_2 => ?_) (fun _ _ _ q => False.elim q)
  obtain ⟨rfl, rfl, rfl⟩ := q_2
  refine V_astore_n d_X_about_5 (by decide) ?_
  refine V_iload_n d_X_about_6 rfl ?_
  refine V_tableIn (off := 25) 32 d_X_about_7 (by decide) (by decide) (by decide +kernel) (by decide) ?_
  refine V_aload_n d_X_about_32 rfl ?_
  refine V_getf d_X_about_33 ff_X_197 (zsys_at (by omega) (zlay_cip hc)) rfl ?_
  exact V_ireturn d_X_about_36 rfl ⟨Nat.le_of_ble_eq_true rfl, Nat.le_of_ble_eq_true rfl⟩ ⟨rfl, rfl, rfl⟩

set_option maxRecDepth 100000 in
set_option maxHeartbeats 4000000 in
theorem c_about_1 (G : zG) (sz B : Nat) (kd n t zz : Int) (ch : Int32) (md tc : Int) (tg pt : Nat → Int) (L : Nat → Int → Int) (w0 : zW) (nn : Nat) (hnn : n = (nn : Int)) (hn : nn ≤ 32) (c : Nat) (hc : c < 16) (hfc : 0 < pt (97 + 5 * c) ∧ pt (97 + 5 * c) ≤ 3) (ht : 0 < t ∧ t ≤ 1000) (hP : ∀ i : Nat, i < nn → -9223372036854775808 ≤ zPs nn c (pt (97 + 5 * c)) L 85 i ∧ zPs nn c (pt (97 + 5 * c)) L 85 i < 9223372036854775808) : zCt G M_X_about (zR 8 1 6 139) [.ref B, .int (Int32.ofInt (c : Int)), .int (Int32.ofInt 1)] sz (zsys G B kd n t zz ch md tc tg pt L w0) (zdet (some (.int (Int32.ofInt ((zBu (zNz t ((zPL nn c (pt (97 + 5 * c)) L) (182 + 0)) nn) 27 : Nat) : Int)))) (zsys G B kd n t zz ch md tc tg pt (zPL nn c (pt (97 + 5 * c)) L) w0) sz) := by
  subst hnn
  refine V_aload_n d_X_about_0 rfl ?_
  refine V_iload_n d_X_about_1 rfl ?_
  refine V_callV (n := 1) d_X_about_2 g_X_173 rfl zsys_x0 rfl (c_takenAt G _ B kd nn t zz ch md tc tg pt L w0 c hc hfc) ⟨co_X_takenAt, by decide +kernel, Nat.le_of_ble_eq_true rfl⟩ ⟨Nat.le_of_ble_eq_true rfl, Nat.le_of_ble_eq_true rfl, Nat.le_of_ble_eq_true rfl, Nat.le_of_ble_eq_true rfl⟩ (Nat.le_of_ble_eq_true rfl) (fun r_2 w_2 s_2 q_2 => ?_) (fun _ _ _ q => False.elim q)
  obtain ⟨rfl, rfl, rfl⟩ := q_2
  refine V_astore_n d_X_about_5 (by decide) ?_
  refine V_iload_n d_X_about_6 rfl ?_
  refine V_tableIn (off := 30) 37 d_X_about_7 (by decide) (by decide) (by decide +kernel) (by decide) ?_
  refine V_aload_n d_X_about_37 rfl ?_
  refine V_aload_n d_X_about_38 rfl ?_
  refine V_aload_n d_X_about_39 rfl ?_
  refine V_callV (n := 1) d_X_about_40 g_X_176 rfl zsys_x0 rfl (c_phaseOf G _ B kd nn t zz ch md tc tg pt L w0 nn rfl hn c hc (by omega) hP) ⟨co_X_phaseOf, by decide +kernel, Nat.le_of_ble_eq_true rfl⟩ ⟨Nat.le_of_ble_eq_true rfl, Nat.le_of_ble_eq_true rfl, Nat.le_of_ble_eq_true rfl, Nat.le_of_ble_eq_true rfl⟩ (Nat.le_of_ble_eq_true rfl) (fun r_40 w_40 s_40 q_40 => ?_) (fun _ _ _ q => False.elim q)
  obtain ⟨rfl, rfl, rfl⟩ := q_40
  refine V_callV (n := 1) d_X_about_43 g_X_187 rfl zsys_x0 rfl (c_noiseIn G _ B kd nn t zz ch md tc tg pt (zPL nn c (pt (97 + 5 * c)) L) w0 nn rfl hn (182 + 0) (zir_w (by decide)) ht (fun i hi => zmul_b ht (zPL_b hi))) ⟨co_X_noiseIn, by decide +kernel, Nat.le_of_ble_eq_true rfl⟩ ⟨Nat.le_of_ble_eq_true rfl, Nat.le_of_ble_eq_true rfl, Nat.le_of_ble_eq_true rfl, Nat.le_of_ble_eq_true rfl⟩ (Nat.le_of_ble_eq_true rfl) (fun r_43 w_43 s_43 q_43 => ?_) (fun _ _ _ q => False.elim q)
  obtain ⟨rfl, rfl, rfl⟩ := q_43
  refine V_callS (n := 1) d_X_about_46 g_X_191 rfl (c_budgetOf G _ _ (zNz t ((zPL nn c (pt (97 + 5 * c)) L) (182 + 0)) nn) (zNz_b _ _ _)) ⟨co_X_budgetOf, by decide +kernel, Nat.le_of_ble_eq_true rfl⟩ ⟨Nat.le_of_ble_eq_true rfl, Nat.le_of_ble_eq_true rfl, Nat.le_of_ble_eq_true rfl, Nat.le_of_ble_eq_true rfl⟩ (Nat.le_of_ble_eq_true rfl) (fun r_46 w_46 s_46 q_46 => ?_) (fun _ _ _ q => False.elim q)
  obtain ⟨rfl, rfl, rfl⟩ := q_46
  exact V_ireturn d_X_about_49 rfl ⟨Nat.le_of_ble_eq_true rfl, Nat.le_of_ble_eq_true rfl⟩ ⟨rfl, rfl, rfl⟩

set_option maxRecDepth 100000 in
set_option maxHeartbeats 4000000 in
theorem c_about_2 (G : zG) (sz B : Nat) (kd n t zz : Int) (ch : Int32) (md tc : Int) (tg pt : Nat → Int) (L : Nat → Int → Int) (w0 : zW) (nn : Nat) (hnn : n = (nn : Int)) (hn : nn ≤ 32) (c : Nat) (hc : c < 16) (hfc : 0 < pt (97 + 5 * c) ∧ pt (97 + 5 * c) ≤ 3) (ht : 0 < t ∧ t ≤ 1000) (hP : ∀ i : Nat, i < nn → -9223372036854775808 ≤ zPs nn c (pt (97 + 5 * c)) L 85 i ∧ zPs nn c (pt (97 + 5 * c)) L 85 i < 9223372036854775808) : zCt G M_X_about (zR 8 1 6 139) [.ref B, .int (Int32.ofInt (c : Int)), .int (Int32.ofInt 2)] sz (zsys G B kd n t zz ch md tc tg pt L w0) (zdet (some (.int (Int32.ofInt (zNz t ((zPL nn c (pt (97 + 5 * c)) L) (182 + 0)) nn)))) (zsys G B kd n t zz ch md tc tg pt (zPL nn c (pt (97 + 5 * c)) L) w0) sz) := by
  subst hnn
  refine V_aload_n d_X_about_0 rfl ?_
  refine V_iload_n d_X_about_1 rfl ?_
  refine V_callV (n := 1) d_X_about_2 g_X_173 rfl zsys_x0 rfl (c_takenAt G _ B kd nn t zz ch md tc tg pt L w0 c hc hfc) ⟨co_X_takenAt, by decide +kernel, Nat.le_of_ble_eq_true rfl⟩ ⟨Nat.le_of_ble_eq_true rfl, Nat.le_of_ble_eq_true rfl, Nat.le_of_ble_eq_true rfl, Nat.le_of_ble_eq_true rfl⟩ (Nat.le_of_ble_eq_true rfl) (fun r_2 w_2 s_2 q_2 => ?_) (fun _ _ _ q => False.elim q)
  obtain ⟨rfl, rfl, rfl⟩ := q_2
  refine V_astore_n d_X_about_5 (by decide) ?_
  refine V_iload_n d_X_about_6 rfl ?_
  refine V_tableIn (off := 43) 50 d_X_about_7 (by decide) (by decide) (by decide +kernel) (by decide) ?_
  refine V_aload_n d_X_about_50 rfl ?_
  refine V_aload_n d_X_about_51 rfl ?_
  refine V_aload_n d_X_about_52 rfl ?_
  refine V_callV (n := 1) d_X_about_53 g_X_176 rfl zsys_x0 rfl (c_phaseOf G _ B kd nn t zz ch md tc tg pt L w0 nn rfl hn c hc (by omega) hP) ⟨co_X_phaseOf, by decide +kernel, Nat.le_of_ble_eq_true rfl⟩ ⟨Nat.le_of_ble_eq_true rfl, Nat.le_of_ble_eq_true rfl, Nat.le_of_ble_eq_true rfl, Nat.le_of_ble_eq_true rfl⟩ (Nat.le_of_ble_eq_true rfl) (fun r_53 w_53 s_53 q_53 => ?_) (fun _ _ _ q => False.elim q)
  obtain ⟨rfl, rfl, rfl⟩ := q_53
  refine V_callV (n := 1) d_X_about_56 g_X_187 rfl zsys_x0 rfl (c_noiseIn G _ B kd nn t zz ch md tc tg pt (zPL nn c (pt (97 + 5 * c)) L) w0 nn rfl hn (182 + 0) (zir_w (by decide)) ht (fun i hi => zmul_b ht (zPL_b hi))) ⟨co_X_noiseIn, by decide +kernel, Nat.le_of_ble_eq_true rfl⟩ ⟨Nat.le_of_ble_eq_true rfl, Nat.le_of_ble_eq_true rfl, Nat.le_of_ble_eq_true rfl, Nat.le_of_ble_eq_true rfl⟩ (Nat.le_of_ble_eq_true rfl) (fun r_56 w_56 s_56 q_56 => ?_) (fun _ _ _ q => False.elim q)
  obtain ⟨rfl, rfl, rfl⟩ := q_56
  refine J_l2i d_X_about_59 ?_
  exact V_ireturn d_X_about_60 rfl ⟨Nat.le_of_ble_eq_true rfl, Nat.le_of_ble_eq_true rfl⟩ ⟨rfl, rfl, rfl⟩

set_option maxRecDepth 100000 in
set_option maxHeartbeats 4000000 in
theorem c_join_c (G : zG) (sz B : Nat) (kd n t zz : Int) (ch : Int32) (md tc : Int) (tg pt : Nat → Int) (L : Nat → Int → Int) (w0 : zW) (c : Int) (hc : -2147483648 ≤ c ∧ c < 2147483648) (hb : c < 0 ∨ 16 ≤ c) (o l r : Int) : zCt G M_X_join (zR 8 1 6 139) [.ref B, .int (Int32.ofInt c), .int (Int32.ofInt o), .int (Int32.ofInt l), .int (Int32.ofInt r)] sz (zsys G B kd n t zz ch md tc tg pt L w0) (zOut (.inr zNSE) (zsys G B kd n t zz ch md tc tg pt L w0) (sz + 1)) := by
  refine V_aload_n d_X_join_0 rfl ?_
  refine V_iload_n d_X_join_1 rfl ?_
  refine V_callV (n := 1) d_X_join_2 g_X_139 rfl zsys_x0 rfl (c_placeAt_no G _ B kd n t zz ch md tc tg pt L w0 c hc hb) ⟨co_X_placeAt, by decide +kernel, Nat.le_of_ble_eq_true rfl⟩ ⟨Nat.le_of_ble_eq_true rfl, Nat.le_of_ble_eq_true rfl, Nat.le_of_ble_eq_true rfl, Nat.le_of_ble_eq_true rfl⟩ (Nat.le_of_ble_eq_true rfl) (fun r_2 w_2 s_2 q_2 => ?_) (fun _ _ _ q => ⟨⟨Nat.le_of_ble_eq_true rfl, Nat.le_of_ble_eq_true rfl⟩, q⟩)
  cases q_2.1

set_option maxRecDepth 100000 in
set_option maxHeartbeats 4000000 in
theorem c_join_l (G : zG) (sz B : Nat) (kd n t zz : Int) (ch : Int32) (md tc : Int) (tg pt : Nat → Int) (L : Nat → Int → Int) (w0 : zW) (c : Nat) (hc : c < 16) (l : Int) (hl : -2147483648 ≤ l ∧ l < 2147483648) (hb : l < 0 ∨ 16 ≤ l) (o r : Int) : zCt G M_X_join (zR 8 1 6 139) [.ref B, .int (Int32.ofInt (c : Int)), .int (Int32.ofInt o), .int (Int32.ofInt l), .int (Int32.ofInt r)] sz (zsys G B kd n t zz ch md tc tg pt L w0) (zOut (.inr zNSE) (zsys G B kd n t zz ch md tc tg pt L w0) (sz + 1)) := by
  refine V_aload_n d_X_join_0 rfl ?_
  refine V_iload_n d_X_join_1 rfl ?_
  refine V_callV (n := 1) d_X_join_2 g_X_139 rfl zsys_x0 rfl (c_placeAt G _ B kd n t zz ch md tc tg pt L w0 c hc) ⟨co_X_placeAt, by decide +kernel, Nat.le_of_ble_eq_true rfl⟩ ⟨Nat.le_of_ble_eq_true rfl, Nat.le_of_ble_eq_true rfl, Nat.le_of_ble_eq_true rfl, Nat.le_of_ble_eq_true rfl⟩ (Nat.le_of_ble_eq_true rfl) (fun r_2 w_2 s_2 q_2 => ?_) (fun _ _ _ q => False.elim q)
  obtain ⟨rfl, rfl, rfl⟩ := q_2
  refine V_astore d_X_join_5 (by decide) ?_
  refine V_aload_n d_X_join_7 rfl ?_
  refine V_iload_n d_X_join_8 rfl ?_
  refine V_callV (n := 1) d_X_join_9 g_X_173 rfl zsys_x0 rfl (c_takenAt_no G _ B kd n t zz ch md tc tg pt L w0 l hl hb) ⟨co_X_takenAt, by decide +kernel, Nat.le_of_ble_eq_true rfl⟩ ⟨Nat.le_of_ble_eq_true rfl, Nat.le_of_ble_eq_true rfl, Nat.le_of_ble_eq_true rfl, Nat.le_of_ble_eq_true rfl⟩ (Nat.le_of_ble_eq_true rfl) (fun r_9 w_9 s_9 q_9 => ?_) (fun _ _ _ q => ⟨⟨Nat.le_of_ble_eq_true rfl, Nat.le_of_ble_eq_true rfl⟩, q⟩)
  cases q_9.1

set_option maxRecDepth 100000 in
set_option maxHeartbeats 4000000 in
theorem c_join_le (G : zG) (sz B : Nat) (kd n t zz : Int) (ch : Int32) (md tc : Int) (tg pt : Nat → Int) (L : Nat → Int → Int) (w0 : zW) (c : Nat) (hc : c < 16) (l : Nat) (hl : l < 16) (he : pt (97 + 5 * l) = 0) (o r : Int) : zCt G M_X_join (zR 8 1 6 139) [.ref B, .int (Int32.ofInt (c : Int)), .int (Int32.ofInt o), .int (Int32.ofInt (l : Int)), .int (Int32.ofInt r)] sz (zsys G B kd n t zz ch md tc tg pt L w0) (zOut (.inr zNSE) (zsys G B kd n t zz ch md tc tg pt L w0) (sz + 1)) := by
  refine V_aload_n d_X_join_0 rfl ?_
  refine V_iload_n d_X_join_1 rfl ?_
  refine V_callV (n := 1) d_X_join_2 g_X_139 rfl zsys_x0 rfl (c_placeAt G _ B kd n t zz ch md tc tg pt L w0 c hc) ⟨co_X_placeAt, by decide +kernel, Nat.le_of_ble_eq_true rfl⟩ ⟨Nat.le_of_ble_eq_true rfl, Nat.le_of_ble_eq_true rfl, Nat.le_of_ble_eq_true rfl, Nat.le_of_ble_eq_true rfl⟩ (Nat.le_of_ble_eq_true rfl) (fun r_2 w_2 s_2 q_2 => ?_) (fun _ _ _ q => False.elim q)
  obtain ⟨rfl, rfl, rfl⟩ := q_2
  refine V_astore d_X_join_5 (by decide) ?_
  refine V_aload_n d_X_join_7 rfl ?_
  refine V_iload_n d_X_join_8 rfl ?_
  refine V_callV (n := 1) d_X_join_9 g_X_173 rfl zsys_x0 rfl (c_takenAt_em G _ B kd n t zz ch md tc tg pt L w0 l hl he) ⟨co_X_takenAt, by decide +kernel, Nat.le_of_ble_eq_true rfl⟩ ⟨Nat.le_of_ble_eq_true rfl, Nat.le_of_ble_eq_true rfl, Nat.le_of_ble_eq_true rfl, Nat.le_of_ble_eq_true rfl⟩ (Nat.le_of_ble_eq_true rfl) (fun r_9 w_9 s_9 q_9 => ?_) (fun _ _ _ q => ⟨⟨Nat.le_of_ble_eq_true rfl, Nat.le_of_ble_eq_true rfl⟩, q⟩)
  cases q_9.1

set_option maxRecDepth 100000 in
set_option maxHeartbeats 4000000 in
theorem c_join_r (G : zG) (sz B : Nat) (kd n t zz : Int) (ch : Int32) (md tc : Int) (tg pt : Nat → Int) (L : Nat → Int → Int) (w0 : zW) (c : Nat) (hc : c < 16) (l : Nat) (hl : l < 16) (hfl : 0 < pt (97 + 5 * l) ∧ pt (97 + 5 * l) ≤ 3) (r : Int) (hr : -2147483648 ≤ r ∧ r < 2147483648) (hb : r < 0 ∨ 16 ≤ r) (o : Int) : zCt G M_X_join (zR 8 1 6 139) [.ref B, .int (Int32.ofInt (c : Int)), .int (Int32.ofInt o), .int (Int32.ofInt (l : Int)), .int (Int32.ofInt r)] sz (zsys G B kd n t zz ch md tc tg pt L w0) (zOut (.inr zNSE) (zsys G B kd n t zz ch md tc tg pt L w0) (sz + 1)) := by
  refine V_aload_n d_X_join_0 rfl ?_
  refine V_iload_n d_X_join_1 rfl ?_
  refine V_callV (n := 1) d_X_join_2 g_X_139 rfl zsys_x0 rfl (c_placeAt G _ B kd n t zz ch md tc tg pt L w0 c hc) ⟨co_X_placeAt, by decide +kernel, Nat.le_of_ble_eq_true rfl⟩ ⟨Nat.le_of_ble_eq_true rfl, Nat.le_of_ble_eq_true rfl, Nat.le_of_ble_eq_true rfl, Nat.le_of_ble_eq_true rfl⟩ (Nat.le_of_ble_eq_true rfl) (fun r_2 w_2 s_2 q_2 => ?_) (fun _ _ _ q => False.elim q)
  obtain ⟨rfl, rfl, rfl⟩ := q_2
  refine V_astore d_X_join_5 (by decide) ?_
  refine V_aload_n d_X_join_7 rfl ?_
  refine V_iload_n d_X_join_8 rfl ?_
  refine V_callV (n := 1) d_X_join_9 g_X_173 rfl zsys_x0 rfl (c_takenAt G _ B kd n t zz ch md tc tg pt L w0 l hl hfl) ⟨co_X_takenAt, by decide +kernel, Nat.le_of_ble_eq_true rfl⟩ ⟨Nat.le_of_ble_eq_true rfl, Nat.le_of_ble_eq_true rfl, Nat.le_of_ble_eq_true rfl, Nat.le_of_ble_eq_true rfl⟩ (Nat.le_of_ble_eq_true rfl) (fun r_9 w_9 s_9 q_9 => ?_) (fun _ _ _ q => False.elim q)
  obtain ⟨rfl, rfl, rfl⟩ := q_9
  refine V_astore d_X_join_12 (by decide) ?_
  refine V_aload_n d_X_join_14 rfl ?_
  refine V_iload d_X_join_15 rfl ?_
  refine V_callV (n := 1) d_X_join_17 g_X_173 rfl zsys_x0 rfl (c_takenAt_no G _ B kd n t zz ch md tc tg pt L w0 r hr hb) ⟨co_X_takenAt, by decide +kernel, Nat.le_of_ble_eq_true rfl⟩ ⟨Nat.le_of_ble_eq_true rfl, Nat.le_of_ble_eq_true rfl, Nat.le_of_ble_eq_true rfl, Nat.le_of_ble_eq_true rfl⟩ (Nat.le_of_ble_eq_true rfl) (fun r_17 w_17 s_17 q_17 => ?_) (fun _ _ _ q => ⟨⟨Nat.le_of_ble_eq_true rfl, Nat.le_of_ble_eq_true rfl⟩, q⟩)
  cases q_17.1

set_option maxRecDepth 100000 in
set_option maxHeartbeats 4000000 in
theorem c_join_re (G : zG) (sz B : Nat) (kd n t zz : Int) (ch : Int32) (md tc : Int) (tg pt : Nat → Int) (L : Nat → Int → Int) (w0 : zW) (c : Nat) (hc : c < 16) (l : Nat) (hl : l < 16) (hfl : 0 < pt (97 + 5 * l) ∧ pt (97 + 5 * l) ≤ 3) (r : Nat) (hr : r < 16) (he : pt (97 + 5 * r) = 0) (o : Int) : zCt G M_X_join (zR 8 1 6 139) [.ref B, .int (Int32.ofInt (c : Int)), .int (Int32.ofInt o), .int (Int32.ofInt (l : Int)), .int (Int32.ofInt (r : Int))] sz (zsys G B kd n t zz ch md tc tg pt L w0) (zOut (.inr zNSE) (zsys G B kd n t zz ch md tc tg pt L w0) (sz + 1)) := by
  refine V_aload_n d_X_join_0 rfl ?_
  refine V_iload_n d_X_join_1 rfl ?_
  refine V_callV (n := 1) d_X_join_2 g_X_139 rfl zsys_x0 rfl (c_placeAt G _ B kd n t zz ch md tc tg pt L w0 c hc) ⟨co_X_placeAt, by decide +kernel, Nat.le_of_ble_eq_true rfl⟩ ⟨Nat.le_of_ble_eq_true rfl, Nat.le_of_ble_eq_true rfl, Nat.le_of_ble_eq_true rfl, Nat.le_of_ble_eq_true rfl⟩ (Nat.le_of_ble_eq_true rfl) (fun r_2 w_2 s_2 q_2 => ?_) (fun _ _ _ q => False.elim q)
  obtain ⟨rfl, rfl, rfl⟩ := q_2
  refine V_astore d_X_join_5 (by decide) ?_
  refine V_aload_n d_X_join_7 rfl ?_
  refine V_iload_n d_X_join_8 rfl ?_
  refine V_callV (n := 1) d_X_join_9 g_X_173 rfl zsys_x0 rfl (c_takenAt G _ B kd n t zz ch md tc tg pt L w0 l hl hfl) ⟨co_X_takenAt, by decide +kernel, Nat.le_of_ble_eq_true rfl⟩ ⟨Nat.le_of_ble_eq_true rfl, Nat.le_of_ble_eq_true rfl, Nat.le_of_ble_eq_true rfl, Nat.le_of_ble_eq_true rfl⟩ (Nat.le_of_ble_eq_true rfl) (fun r_9 w_9 s_9 q_9 => ?_) (fun _ _ _ q => False.elim q)
  obtain ⟨rfl, rfl, rfl⟩ := q_9
  refine V_astore d_X_join_12 (by decide) ?_
  refine V_aload_n d_X_join_14 rfl ?_
  refine V_iload d_X_join_15 rfl ?_
  refine V_callV (n := 1) d_X_join_17 g_X_173 rfl zsys_x0 rfl (c_takenAt_em G _ B kd n t zz ch md tc tg pt L w0 r hr he) ⟨co_X_takenAt, by decide +kernel, Nat.le_of_ble_eq_true rfl⟩ ⟨Nat.le_of_ble_eq_true rfl, Nat.le_of_ble_eq_true rfl, Nat.le_of_ble_eq_true rfl, Nat.le_of_ble_eq_true rfl⟩ (Nat.le_of_ble_eq_true rfl) (fun r_17 w_17 s_17 q_17 => ?_) (fun _ _ _ q => ⟨⟨Nat.le_of_ble_eq_true rfl, Nat.le_of_ble_eq_true rfl⟩, q⟩)
  cases q_17.1

set_option maxRecDepth 100000 in
set_option maxHeartbeats 4000000 in
theorem c_join_o1 (G : zG) (sz B : Nat) (kd n t zz : Int) (ch : Int32) (md tc : Int) (tg pt : Nat → Int) (L : Nat → Int → Int) (w0 : zW) (c : Nat) (hc : c < 16) (l : Nat) (hl : l < 16) (hfl : 0 < pt (97 + 5 * l) ∧ pt (97 + 5 * l) ≤ 3) (r : Nat) (hr : r < 16) (hfr : 0 < pt (97 + 5 * r) ∧ pt (97 + 5 * r) ≤ 3) (o : Int) (ho : -2147483648 ≤ o ∧ o < 2147483648) (hb : o < 0) : zCt G M_X_join (zR 8 1 6 139) [.ref B, .int (Int32.ofInt (c : Int)), .int (Int32.ofInt o), .int (Int32.ofInt (l : Int)), .int (Int32.ofInt (r : Int))] sz (zsys G B kd n t zz ch md tc tg pt L w0) (zOut (.inr zIAE) (zsys G B kd n t zz ch md tc tg pt L w0) (sz + 1)) := by
  refine V_aload_n d_X_join_0 rfl ?_
  refine V_iload_n d_X_join_1 rfl ?_
  refine V_callV (n := 1) d_X_join_2 g_X_139 rfl zsys_x0 rfl (c_placeAt G _ B kd n t zz ch md tc tg pt L w0 c hc) ⟨co_X_placeAt, by decide +kernel, Nat.le_of_ble_eq_true rfl⟩ ⟨Nat.le_of_ble_eq_true rfl, Nat.le_of_ble_eq_true rfl, Nat.le_of_ble_eq_true rfl, Nat.le_of_ble_eq_true rfl⟩ (Nat.le_of_ble_eq_true rfl) (fun r_2 w_2 s_2 q_2 => ?_) (fun _ _ _ q => False.elim q)
  obtain ⟨rfl, rfl, rfl⟩ := q_2
  refine V_astore d_X_join_5 (by decide) ?_
  refine V_aload_n d_X_join_7 rfl ?_
  refine V_iload_n d_X_join_8 rfl ?_
  refine V_callV (n := 1) d_X_join_9 g_X_173 rfl zsys_x0 rfl (c_takenAt G _ B kd n t zz ch md tc tg pt L w0 l hl hfl) ⟨co_X_takenAt, by decide +kernel, Nat.le_of_ble_eq_true rfl⟩ ⟨Nat.le_of_ble_eq_true rfl, Nat.le_of_ble_eq_true rfl, Nat.le_of_ble_eq_true rfl, Nat.le_of_ble_eq_true rfl⟩ (Nat.le_of_ble_eq_true rfl) (fun r_9 w_9 s_9 q_9 => ?_) (fun _ _ _ q => False.elim q)
  obtain ⟨rfl, rfl, rfl⟩ := q_9
  refine V_astore d_X_join_12 (by decide) ?_
  refine V_aload_n d_X_join_14 rfl ?_
  refine V_iload d_X_join_15 rfl ?_
  refine V_callV (n := 1) d_X_join_17 g_X_173 rfl zsys_x0 rfl (c_takenAt G _ B kd n t zz ch md tc tg pt L w0 r hr hfr) ⟨co_X_takenAt, by decide +kernel, Nat.le_of_ble_eq_true rfl⟩ ⟨Nat.le_of_ble_eq_true rfl, Nat.le_of_ble_eq_true rfl, Nat.le_of_ble_eq_true rfl, Nat.le_of_ble_eq_true rfl⟩ (Nat.le_of_ble_eq_true rfl) (fun r_17 w_17 s_17 q_17 => ?_) (fun _ _ _ q => False.elim q)
  obtain ⟨rfl, rfl, rfl⟩ := q_17
  refine V_astore d_X_join_20 (by decide) ?_
  refine V_iload_n d_X_join_22 rfl ?_
  refine J_if_lt 31 d_X_join_23 (by decide) (by omega) (fun c_23 => ?_) (fun c_23 => absurd c_23 (by omega))
  exact V_throwA (tx := "no such operation") d_X_join_31 d_X_join_34 (Or.inl ⟨d_X_join_35, rfl⟩) d_X_join_37 d_X_join_40 rfl (by decide) rfl (Nat.le_of_ble_eq_true rfl) (Nat.le_of_ble_eq_true rfl) (Nat.le_of_ble_eq_true rfl) (Nat.le_of_ble_eq_true rfl) ⟨Nat.le_of_ble_eq_true rfl, Nat.le_of_ble_eq_true rfl⟩ ⟨rfl, rfl, rfl⟩

set_option maxRecDepth 100000 in
set_option maxHeartbeats 4000000 in
theorem c_join_o2 (G : zG) (sz B : Nat) (kd n t zz : Int) (ch : Int32) (md tc : Int) (tg pt : Nat → Int) (L : Nat → Int → Int) (w0 : zW) (c : Nat) (hc : c < 16) (l : Nat) (hl : l < 16) (hfl : 0 < pt (97 + 5 * l) ∧ pt (97 + 5 * l) ≤ 3) (r : Nat) (hr : r < 16) (hfr : 0 < pt (97 + 5 * r) ∧ pt (97 + 5 * r) ≤ 3) (o : Int) (ho : -2147483648 ≤ o ∧ o < 2147483648) (hb : 2 < o) : zCt G M_X_join (zR 8 1 6 139) [.ref B, .int (Int32.ofInt (c : Int)), .int (Int32.ofInt o), .int (Int32.ofInt (l : Int)), .int (Int32.ofInt (r : Int))] sz (zsys G B kd n t zz ch md tc tg pt L w0) (zOut (.inr zIAE) (zsys G B kd n t zz ch md tc tg pt L w0) (sz + 1)) := by
  refine V_aload_n d_X_join_0 rfl ?_
  refine V_iload_n d_X_join_1 rfl ?_
  refine V_callV (n := 1) d_X_join_2 g_X_139 rfl zsys_x0 rfl (c_placeAt G _ B kd n t zz ch md tc tg pt L w0 c hc) ⟨co_X_placeAt, by decide +kernel, Nat.le_of_ble_eq_true rfl⟩ ⟨Nat.le_of_ble_eq_true rfl, Nat.le_of_ble_eq_true rfl, Nat.le_of_ble_eq_true rfl, Nat.le_of_ble_eq_true rfl⟩ (Nat.le_of_ble_eq_true rfl) (fun r_2 w_2 s_2 q_2 => ?_) (fun _ _ _ q => False.elim q)
  obtain ⟨rfl, rfl, rfl⟩ := q_2
  refine V_astore d_X_join_5 (by decide) ?_
  refine V_aload_n d_X_join_7 rfl ?_
  refine V_iload_n d_X_join_8 rfl ?_
  refine V_callV (n := 1) d_X_join_9 g_X_173 rfl zsys_x0 rfl (c_takenAt G _ B kd n t zz ch md tc tg pt L w0 l hl hfl) ⟨co_X_takenAt, by decide +kernel, Nat.le_of_ble_eq_true rfl⟩ ⟨Nat.le_of_ble_eq_true rfl, Nat.le_of_ble_eq_true rfl, Nat.le_of_ble_eq_true rfl, Nat.le_of_ble_eq_true rfl⟩ (Nat.le_of_ble_eq_true rfl) (fun r_9 w_9 s_9 q_9 => ?_) (fun _ _ _ q => False.elim q)
  obtain ⟨rfl, rfl, rfl⟩ := q_9
  refine V_astore d_X_join_12 (by decide) ?_
  refine V_aload_n d_X_join_14 rfl ?_
  refine V_iload d_X_join_15 rfl ?_
  refine V_callV (n := 1) d_X_join_17 g_X_173 rfl zsys_x0 rfl (c_takenAt G _ B kd n t zz ch md tc tg pt L w0 r hr hfr) ⟨co_X_takenAt, by decide +kernel, Nat.le_of_ble_eq_true rfl⟩ ⟨Nat.le_of_ble_eq_true rfl, Nat.le_of_ble_eq_true rfl, Nat.le_of_ble_eq_true rfl, Nat.le_of_ble_eq_true rfl⟩ (Nat.le_of_ble_eq_true rfl) (fun r_17 w_17 s_17 q_17 => ?_) (fun _ _ _ q => False.elim q)
  obtain ⟨rfl, rfl, rfl⟩ := q_17
  refine V_astore d_X_join_20 (by decide) ?_
  refine V_iload_n d_X_join_22 rfl ?_
  refine J_if_lt 31 d_X_join_23 (by decide) (by omega) (fun c_23 => absurd c_23 (by omega)) (fun c_23 => ?_)
  refine V_iload_n d_X_join_26 rfl ?_
  refine V_iconst d_X_join_27 ?_
  refine J_icmp_le 41 d_X_join_28 (by decide) (by omega) (by omega) (fun c_28 => absurd c_28 (by omega)) (fun c_28 => ?_)
  exact V_throwA (tx := "no such operation") d_X_join_31 d_X_join_34 (Or.inl ⟨d_X_join_35, rfl⟩) d_X_join_37 d_X_join_40 rfl (by decide) rfl (Nat.le_of_ble_eq_true rfl) (Nat.le_of_ble_eq_true rfl) (Nat.le_of_ble_eq_true rfl) (Nat.le_of_ble_eq_true rfl) ⟨Nat.le_of_ble_eq_true rfl, Nat.le_of_ble_eq_true rfl⟩ ⟨rfl, rfl, rfl⟩

set_option maxRecDepth 100000 in
set_option maxHeartbeats 4000000 in
theorem c_join_3l (G : zG) (sz B : Nat) (kd n t zz : Int) (ch : Int32) (md tc : Int) (tg pt : Nat → Int) (L : Nat → Int → Int) (w0 : zW) (c : Nat) (hc : c < 16) (l : Nat) (hl : l < 16) (hfl : 0 < pt (97 + 5 * l) ∧ pt (97 + 5 * l) ≤ 3) (r : Nat) (hr : r < 16) (hfr : 0 < pt (97 + 5 * r) ∧ pt (97 + 5 * r) ≤ 3) (hb : pt (97 + 5 * l) = 3) : zCt G M_X_join (zR 8 1 6 139) [.ref B, .int (Int32.ofInt (c : Int)), .int (Int32.ofInt 2), .int (Int32.ofInt (l : Int)), .int (Int32.ofInt (r : Int))] sz (zsys G B kd n t zz ch md tc tg pt L w0) (zOut (.inr zISE) (zsys G B kd n t zz ch md tc tg pt L w0) (sz + 1)) := by
  refine V_aload_n d_X_join_0 rfl ?_
  refine V_iload_n d_X_join_1 rfl ?_
  refine V_callV (n := 1) d_X_join_2 g_X_139 rfl zsys_x0 rfl (c_placeAt G _ B kd n t zz ch md tc tg pt L w0 c hc) ⟨co_X_placeAt, by decide +kernel, Nat.le_of_ble_eq_true rfl⟩ ⟨Nat.le_of_ble_eq_true rfl, Nat.le_of_ble_eq_true rfl, Nat.le_of_ble_eq_true rfl, Nat.le_of_ble_eq_true rfl⟩ (Nat.le_of_ble_eq_true rfl) (fun r_2 w_2 s_2 q_2 => ?_) (fun _ _ _ q => False.elim q)
  obtain ⟨rfl, rfl, rfl⟩ := q_2
  refine V_astore d_X_join_5 (by decide) ?_
  refine V_aload_n d_X_join_7 rfl ?_
  refine V_iload_n d_X_join_8 rfl ?_
  refine V_callV (n := 1) d_X_join_9 g_X_173 rfl zsys_x0 rfl (c_takenAt G _ B kd n t zz ch md tc tg pt L w0 l hl hfl) ⟨co_X_takenAt, by decide +kernel, Nat.le_of_ble_eq_true rfl⟩ ⟨Nat.le_of_ble_eq_true rfl, Nat.le_of_ble_eq_true rfl, Nat.le_of_ble_eq_true rfl, Nat.le_of_ble_eq_true rfl⟩ (Nat.le_of_ble_eq_true rfl) (fun r_9 w_9 s_9 q_9 => ?_) (fun _ _ _ q => False.elim q)
  obtain ⟨rfl, rfl, rfl⟩ := q_9
  refine V_astore d_X_join_12 (by decide) ?_
  refine V_aload_n d_X_join_14 rfl ?_
  refine V_iload d_X_join_15 rfl ?_
  refine V_callV (n := 1) d_X_join_17 g_X_173 rfl zsys_x0 rfl (c_takenAt G _ B kd n t zz ch md tc tg pt L w0 r hr hfr) ⟨co_X_takenAt, by decide +kernel, Nat.le_of_ble_eq_true rfl⟩ ⟨Nat.le_of_ble_eq_true rfl, Nat.le_of_ble_eq_true rfl, Nat.le_of_ble_eq_true rfl, Nat.le_of_ble_eq_true rfl⟩ (Nat.le_of_ble_eq_true rfl) (fun r_17 w_17 s_17 q_17 => ?_) (fun _ _ _ q => False.elim q)
  obtain ⟨rfl, rfl, rfl⟩ := q_17
  refine V_astore d_X_join_20 (by decide) ?_
  refine V_iload_n d_X_join_22 rfl ?_
  refine J_if_lt 31 d_X_join_23 (by decide) (by omega) (fun c_23 => absurd c_23 (by decide)) (fun c_23 => ?_)
  refine V_iload_n d_X_join_26 rfl ?_
  refine V_iconst d_X_join_27 ?_
  refine J_icmp_le 41 d_X_join_28 (by decide) (by omega) (by omega) (fun c_28 => ?_) (fun c_28 => absurd c_28 (by decide))
  refine V_iload_n d_X_join_41 rfl ?_
  refine V_iconst d_X_join_42 ?_
  refine J_icmp_ne 74 d_X_join_43 (by decide) (by omega) (by omega) (fun c_43 => absurd c_43 (by decide)) (fun c_43 => ?_)
  refine V_aload d_X_join_46 rfl ?_
  refine V_getf d_X_join_48 ff_X_197 (zsys_at (by omega) (zlay_cip hl)) rfl ?_
  refine V_iconst d_X_join_51 ?_
  refine J_icmp_eq 64 d_X_join_52 (by decide) (by omega) (by omega) (fun c_52 => ?_) (fun c_52 => absurd c_52 (by omega))
  exact V_throwS (tx := "a product of three parts") d_X_join_64 d_X_join_67 (Or.inl ⟨d_X_join_68, rfl⟩) d_X_join_70 d_X_join_73 rfl (by decide) rfl (Nat.le_of_ble_eq_true rfl) (Nat.le_of_ble_eq_true rfl) (Nat.le_of_ble_eq_true rfl) (Nat.le_of_ble_eq_true rfl) ⟨Nat.le_of_ble_eq_true rfl, Nat.le_of_ble_eq_true rfl⟩ ⟨rfl, rfl, rfl⟩

set_option maxRecDepth 100000 in
set_option maxHeartbeats 4000000 in
theorem c_join_3r (G : zG) (sz B : Nat) (kd n t zz : Int) (ch : Int32) (md tc : Int) (tg pt : Nat → Int) (L : Nat → Int → Int) (w0 : zW) (c : Nat) (hc : c < 16) (l : Nat) (hl : l < 16) (hfl : 0 < pt (97 + 5 * l) ∧ pt (97 + 5 * l) ≤ 3) (r : Nat) (hr : r < 16) (hfr : 0 < pt (97 + 5 * r) ∧ pt (97 + 5 * r) ≤ 3) (hl3 : ¬ pt (97 + 5 * l) = 3) (hb : pt (97 + 5 * r) = 3) : zCt G M_X_join (zR 8 1 6 139) [.ref B, .int (Int32.ofInt (c : Int)), .int (Int32.ofInt 2), .int (Int32.ofInt (l : Int)), .int (Int32.ofInt (r : Int))] sz (zsys G B kd n t zz ch md tc tg pt L w0) (zOut (.inr zISE) (zsys G B kd n t zz ch md tc tg pt L w0) (sz + 1)) := by
  refine V_aload_n d_X_join_0 rfl ?_
  refine V_iload_n d_X_join_1 rfl ?_
  refine V_callV (n := 1) d_X_join_2 g_X_139 rfl zsys_x0 rfl (c_placeAt G _ B kd n t zz ch md tc tg pt L w0 c hc) ⟨co_X_placeAt, by decide +kernel, Nat.le_of_ble_eq_true rfl⟩ ⟨Nat.le_of_ble_eq_true rfl, Nat.le_of_ble_eq_true rfl, Nat.le_of_ble_eq_true rfl, Nat.le_of_ble_eq_true rfl⟩ (Nat.le_of_ble_eq_true rfl) (fun r_2 w_2 s_2 q_2 => ?_) (fun _ _ _ q => False.elim q)
  obtain ⟨rfl, rfl, rfl⟩ := q_2
  refine V_astore d_X_join_5 (by decide) ?_
  refine V_aload_n d_X_join_7 rfl ?_
  refine V_iload_n d_X_join_8 rfl ?_
  refine V_callV (n := 1) d_X_join_9 g_X_173 rfl zsys_x0 rfl (c_takenAt G _ B kd n t zz ch md tc tg pt L w0 l hl hfl) ⟨co_X_takenAt, by decide +kernel, Nat.le_of_ble_eq_true rfl⟩ ⟨Nat.le_of_ble_eq_true rfl, Nat.le_of_ble_eq_true rfl, Nat.le_of_ble_eq_true rfl, Nat.le_of_ble_eq_true rfl⟩ (Nat.le_of_ble_eq_true rfl) (fun r_9 w_9 s_9 q_9 => ?_) (fun _ _ _ q => False.elim q)
  obtain ⟨rfl, rfl, rfl⟩ := q_9
  refine V_astore d_X_join_12 (by decide) ?_
  refine V_aload_n d_X_join_14 rfl ?_
  refine V_iload d_X_join_15 rfl ?_
  refine V_callV (n := 1) d_X_join_17 g_X_173 rfl zsys_x0 rfl (c_takenAt G _ B kd n t zz ch md tc tg pt L w0 r hr hfr) ⟨co_X_takenAt, by decide +kernel, Nat.le_of_ble_eq_true rfl⟩ ⟨Nat.le_of_ble_eq_true rfl, Nat.le_of_ble_eq_true rfl, Nat.le_of_ble_eq_true rfl, Nat.le_of_ble_eq_true rfl⟩ (Nat.le_of_ble_eq_true rfl) (fun r_17 w_17 s_17 q_17 => ?_) (fun _ _ _ q => False.elim q)
  obtain ⟨rfl, rfl, rfl⟩ := q_17
  refine V_astore d_X_join_20 (by decide) ?_
  refine V_iload_n d_X_join_22 rfl ?_
  refine J_if_lt 31 d_X_join_23 (by decide) (by omega) (fun c_23 => absurd c_23 (by decide)) (fun c_23 => ?_)
  refine V_iload_n d_X_join_26 rfl ?_
  refine V_iconst d_X_join_27 ?_
  refine J_icmp_le 41 d_X_join_28 (by decide) (by omega) (by omega) (fun c_28 => ?_) (fun c_28 => absurd c_28 (by decide))
  refine V_iload_n d_X_join_41 rfl ?_
  refine V_iconst d_X_join_42 ?_
  refine J_icmp_ne 74 d_X_join_43 (by decide) (by omega) (by omega) (fun c_43 => absurd c_43 (by decide)) (fun c_43 => ?_)
  refine V_aload d_X_join_46 rfl ?_
  refine V_getf d_X_join_48 ff_X_197 (zsys_at (by omega) (zlay_cip hl)) rfl ?_
  refine V_iconst d_X_join_51 ?_
  refine J_icmp_eq 64 d_X_join_52 (by decide) (by omega) (by omega) (fun c_52 => absurd c_52 (by omega)) (fun c_52 => ?_)
  refine V_aload d_X_join_55 rfl ?_
  refine V_getf d_X_join_57 ff_X_197 (zsys_at (by omega) (zlay_cip hr)) rfl ?_
  refine V_iconst d_X_join_60 ?_
  refine J_icmp_ne 74 d_X_join_61 (by decide) (by omega) (by omega) (fun c_61 => absurd c_61 (by omega)) (fun c_61 => ?_)
  exact V_throwS (tx := "a product of three parts") d_X_join_64 d_X_join_67 (Or.inl ⟨d_X_join_68, rfl⟩) d_X_join_70 d_X_join_73 rfl (by decide) rfl (Nat.le_of_ble_eq_true rfl) (Nat.le_of_ble_eq_true rfl) (Nat.le_of_ble_eq_true rfl) (Nat.le_of_ble_eq_true rfl) ⟨Nat.le_of_ble_eq_true rfl, Nat.le_of_ble_eq_true rfl⟩ ⟨rfl, rfl, rfl⟩

set_option maxRecDepth 100000 in
set_option maxHeartbeats 4000000 in
theorem c_join_2 (G : zG) (sz B : Nat) (kd n t zz : Int) (ch : Int32) (md tc : Int) (tg pt : Nat → Int) (L : Nat → Int → Int) (w0 : zW) (nn : Nat) (hnn : n = (nn : Int)) (hn : nn ≤ 32) (c : Nat) (hc : c < 16) (l : Nat) (hl : l < 16) (hfl : 0 < pt (97 + 5 * l) ∧ pt (97 + 5 * l) ≤ 3) (r : Nat) (hr : r < 16) (hfr : 0 < pt (97 + 5 * r) ∧ pt (97 + 5 * r) ≤ 3) (hl3 : ¬ pt (97 + 5 * l) = 3) (hr3 : ¬ pt (97 + 5 * r) = 3) (ht : 1 < t ∧ t ≤ 1000) (hL : ∀ q : Nat, q < 2 → ∀ i : Nat, i < nn → -9223372036854775808 ≤ L (97 + 5 * l + 1 + 1 + q) i ∧ L (97 + 5 * l + 1 + 1 + q) i < 9223372036854775808) (hR2 : ∀ q : Nat, q < 2 → ∀ i : Nat, i < nn → -9223372036854775808 ≤ L (97 + 5 * r + 1 + 1 + q) i ∧ L (97 + 5 * r + 1 + 1 + q) i < 9223372036854775808) (hM : ∀ k : Nat, k < 3 → ∀ i : Nat, i < nn → -4611686018427387904 ≤ zMp nn l r L (178 + k) i ∧ zMp nn l r L (178 + k) i ≤ 4611686018427387904) (hR : ∀ k : Nat, k < 3 → ∀ i : Nat, i < nn → -9223372036854775808 ≤ (zTs nn t (zMp nn l r L) 3) (178 + k) i ∧ (zTs nn t (zMp nn l r L) 3) (178 + k) i < 9223372036854775808) : zCt G M_X_join (zR 8 1 6 139) [.ref B, .int (Int32.ofInt (c : Int)), .int (Int32.ofInt 2), .int (Int32.ofInt (l : Int)), .int (Int32.ofInt (r : Int))] sz (zsys G B kd n t zz ch md tc tg pt L w0) (zdet (some (.int (Int32.ofInt 3))) (zsys G B kd n t zz ch md tc tg (zpu pt (97 + 5 * c) 3) (zSt nn c (zTs nn t (zMp nn l r L) 3) 3) w0) sz) := by
  subst hnn
  refine V_aload_n d_X_join_0 rfl ?_
  refine V_iload_n d_X_join_1 rfl ?_
  refine V_callV (n := 1) d_X_join_2 g_X_139 rfl zsys_x0 rfl (c_placeAt G _ B kd nn t zz ch md tc tg pt L w0 c hc) ⟨co_X_placeAt, by decide +kernel, Nat.le_of_ble_eq_true rfl⟩ ⟨Nat.le_of_ble_eq_true rfl, Nat.le_of_ble_eq_true rfl, Nat.le_of_ble_eq_true rfl, Nat.le_of_ble_eq_true rfl⟩ (Nat.le_of_ble_eq_true rfl) (fun r_2 w_2 s_2 q_2 => ?_) (fun _ _ _ q => False.elim q)
  obtain ⟨rfl, rfl, rfl⟩ := q_2
  refine V_astore d_X_join_5 (by decide) ?_
  refine V_aload_n d_X_join_7 rfl ?_
  refine V_iload_n d_X_join_8 rfl ?_
  refine V_callV (n := 1) d_X_join_9 g_X_173 rfl zsys_x0 rfl (c_takenAt G _ B kd nn t zz ch md tc tg pt L w0 l hl hfl) ⟨co_X_takenAt, by decide +kernel, Nat.le_of_ble_eq_true rfl⟩ ⟨Nat.le_of_ble_eq_true rfl, Nat.le_of_ble_eq_true rfl, Nat.le_of_ble_eq_true rfl, Nat.le_of_ble_eq_true rfl⟩ (Nat.le_of_ble_eq_true rfl) (fun r_9 w_9 s_9 q_9 => ?_) (fun _ _ _ q => False.elim q)
  obtain ⟨rfl, rfl, rfl⟩ := q_9
  refine V_astore d_X_join_12 (by decide) ?_
  refine V_aload_n d_X_join_14 rfl ?_
  refine V_iload d_X_join_15 rfl ?_
  refine V_callV (n := 1) d_X_join_17 g_X_173 rfl zsys_x0 rfl (c_takenAt G _ B kd nn t zz ch md tc tg pt L w0 r hr hfr) ⟨co_X_takenAt, by decide +kernel, Nat.le_of_ble_eq_true rfl⟩ ⟨Nat.le_of_ble_eq_true rfl, Nat.le_of_ble_eq_true rfl, Nat.le_of_ble_eq_true rfl, Nat.le_of_ble_eq_true rfl⟩ (Nat.le_of_ble_eq_true rfl) (fun r_17 w_17 s_17 q_17 => ?_) (fun _ _ _ q => False.elim q)
  obtain ⟨rfl, rfl, rfl⟩ := q_17
  refine V_astore d_X_join_20 (by decide) ?_
  refine V_iload_n d_X_join_22 rfl ?_
  refine J_if_lt 31 d_X_join_23 (by decide) (by omega) (fun c_23 => absurd c_23 (by decide)) (fun c_23 => ?_)
  refine V_iload_n d_X_join_26 rfl ?_
  refine V_iconst d_X_join_27 ?_
  refine J_icmp_le 41 d_X_join_28 (by decide) (by omega) (by omega) (fun c_28 => ?_) (fun c_28 => absurd c_28 (by decide))
  refine V_iload_n d_X_join_41 rfl ?_
  refine V_iconst d_X_join_42 ?_
  refine J_icmp_ne 74 d_X_join_43 (by decide) (by omega) (by omega) (fun c_43 => absurd c_43 (by decide)) (fun c_43 => ?_)
  refine V_aload d_X_join_46 rfl ?_
  refine V_getf d_X_join_48 ff_X_197 (zsys_at (by omega) (zlay_cip hl)) rfl ?_
  refine V_iconst d_X_join_51 ?_
  refine J_icmp_eq 64 d_X_join_52 (by decide) (by omega) (by omega) (fun c_52 => absurd c_52 (by omega)) (fun c_52 => ?_)
  refine V_aload d_X_join_55 rfl ?_
  refine V_getf d_X_join_57 ff_X_197 (zsys_at (by omega) (zlay_cip hr)) rfl ?_
  refine V_iconst d_X_join_60 ?_
  refine J_icmp_ne 74 d_X_join_61 (by decide) (by omega) (by omega) (fun c_61 => ?_) (fun c_61 => absurd c_61 (by omega))
  refine V_iload_n d_X_join_74 rfl ?_
  refine V_iconst d_X_join_75 ?_
  refine J_icmp_ne 92 d_X_join_76 (by decide) (by omega) (by omega) (fun c_76 => absurd c_76 (by decide)) (fun c_76 => ?_)
  refine V_aload_n d_X_join_79 rfl ?_
  refine V_aload d_X_join_80 rfl ?_
  refine V_aload d_X_join_82 rfl ?_
  refine V_aload d_X_join_84 rfl ?_
  refine V_callV (n := 3) d_X_join_86 g_X_202 rfl zsys_x0 rfl (c_multiply G _ B kd nn t zz ch md tc tg pt L w0 nn rfl hn c l r hc hl hr ht hL hR2 hM hR) ⟨co_X_multiply, by decide +kernel, Nat.le_of_ble_eq_true rfl⟩ ⟨Nat.le_of_ble_eq_true rfl, Nat.le_of_ble_eq_true rfl, Nat.le_of_ble_eq_true rfl, Nat.le_of_ble_eq_true rfl⟩ (Nat.le_of_ble_eq_true rfl) (fun r_86 w_86 s_86 q_86 => ?_) (fun _ _ _ q => False.elim q)
  obtain ⟨rfl, rfl, rfl⟩ := q_86
  refine V_goto 113 d_X_join_89 (by decide) ?_
  refine V_aload d_X_join_113 rfl ?_
  refine V_getf d_X_join_115 ff_X_197 (zsys_at (by omega) (zlay_cip hc)) rfl ?_
  exact V_ireturn d_X_join_118 rfl ⟨Nat.le_of_ble_eq_true rfl, Nat.le_of_ble_eq_true rfl⟩ ⟨by rw [zpu_s], rfl, rfl⟩

set_option maxRecDepth 100000 in
set_option maxHeartbeats 4000000 in
theorem c_join_0 (G : zG) (sz B : Nat) (kd n t zz : Int) (ch : Int32) (md tc : Int) (tg pt : Nat → Int) (L : Nat → Int → Int) (w0 : zW) (nn : Nat) (hnn : n = (nn : Int)) (hn : nn ≤ 32) (c : Nat) (hc : c < 16) (l : Nat) (hl : l < 16) (hfl : 0 < pt (97 + 5 * l) ∧ pt (97 + 5 * l) ≤ 3) (r : Nat) (hr : r < 16) (hfr : 0 < pt (97 + 5 * r) ∧ pt (97 + 5 * r) ≤ 3) (m : Nat) (hm : (if pt (97 + 5 * l) < pt (97 + 5 * r) then pt (97 + 5 * r) else pt (97 + 5 * l)) = (m : Int)) (hR : ∀ k : Nat, k < m → ∀ i : Nat, i < nn → -9223372036854775808 ≤ (zCm nn l r (pt (97 + 5 * l)) (pt (97 + 5 * r)) 1 L m) (178 + k) i ∧ (zCm nn l r (pt (97 + 5 * l)) (pt (97 + 5 * r)) 1 L m) (178 + k) i < 9223372036854775808) : zCt G M_X_join (zR 8 1 6 139) [.ref B, .int (Int32.ofInt (c : Int)), .int (Int32.ofInt 0), .int (Int32.ofInt (l : Int)), .int (Int32.ofInt (r : Int))] sz (zsys G B kd n t zz ch md tc tg pt L w0) (zdet (some (.int (Int32.ofInt (m : Int)))) (zsys G B kd n t zz ch md tc tg (zpu pt (97 + 5 * c) m) (zSt nn c (zCm nn l r (pt (97 + 5 * l)) (pt (97 + 5 * r)) 1 L m) m) w0) sz) := by
  subst hnn
  have hm3 : m ≤ 3 := by split at hm <;> omega
  refine V_aload_n d_X_join_0 rfl ?_
  refine V_iload_n d_X_join_1 rfl ?_
  refine V_callV (n := 1) d_X_join_2 g_X_139 rfl zsys_x0 rfl (c_placeAt G _ B kd nn t zz ch md tc tg pt L w0 c hc) ⟨co_X_placeAt, by decide +kernel, Nat.le_of_ble_eq_true rfl⟩ ⟨Nat.le_of_ble_eq_true rfl, Nat.le_of_ble_eq_true rfl, Nat.le_of_ble_eq_true rfl, Nat.le_of_ble_eq_true rfl⟩ (Nat.le_of_ble_eq_true rfl) (fun r_2 w_2 s_2 q_2 => ?_) (fun _ _ _ q => False.elim q)
  obtain ⟨rfl, rfl, rfl⟩ := q_2
  refine V_astore d_X_join_5 (by decide) ?_
  refine V_aload_n d_X_join_7 rfl ?_
  refine V_iload_n d_X_join_8 rfl ?_
  refine V_callV (n := 1) d_X_join_9 g_X_173 rfl zsys_x0 rfl (c_takenAt G _ B kd nn t zz ch md tc tg pt L w0 l hl hfl) ⟨co_X_takenAt, by decide +kernel, Nat.le_of_ble_eq_true rfl⟩ ⟨Nat.le_of_ble_eq_true rfl, Nat.le_of_ble_eq_true rfl, Nat.le_of_ble_eq_true rfl, Nat.le_of_ble_eq_true rfl⟩ (Nat.le_of_ble_eq_true rfl) (fun r_9 w_9 s_9 q_9 => ?_) (fun _ _ _ q => False.elim q)
  obtain ⟨rfl, rfl, rfl⟩ := q_9
  refine V_astore d_X_join_12 (by decide) ?_
  refine V_aload_n d_X_join_14 rfl ?_
  refine V_iload d_X_join_15 rfl ?_
  refine V_callV (n := 1) d_X_join_17 g_X_173 rfl zsys_x0 rfl (c_takenAt G _ B kd nn t zz ch md tc tg pt L w0 r hr hfr) ⟨co_X_takenAt, by decide +kernel, Nat.le_of_ble_eq_true rfl⟩ ⟨Nat.le_of_ble_eq_true rfl, Nat.le_of_ble_eq_true rfl, Nat.le_of_ble_eq_true rfl, Nat.le_of_ble_eq_true rfl⟩ (Nat.le_of_ble_eq_true rfl) (fun r_17 w_17 s_17 q_17 => ?_) (fun _ _ _ q => False.elim q)
  obtain ⟨rfl, rfl, rfl⟩ := q_17
  refine V_astore d_X_join_20 (by decide) ?_
  refine V_iload_n d_X_join_22 rfl ?_
  refine J_if_lt 31 d_X_join_23 (by decide) (by omega) (fun c_23 => absurd c_23 (by decide)) (fun c_23 => ?_)
  refine V_iload_n d_X_join_26 rfl ?_
  refine V_iconst d_X_join_27 ?_
  refine J_icmp_le 41 d_X_join_28 (by decide) (by omega) (by omega) (fun c_28 => ?_) (fun c_28 => absurd c_28 (by decide))
  refine V_iload_n d_X_join_41 rfl ?_
  refine V_iconst d_X_join_42 ?_
  refine J_icmp_ne 74 d_X_join_43 (by decide) (by omega) (by omega) (fun c_43 => ?_) (fun c_43 => absurd c_43 (by decide))
  refine V_iload_n d_X_join_74 rfl ?_
  refine V_iconst d_X_join_75 ?_
  refine J_icmp_ne 92 d_X_join_76 (by decide) (by omega) (by omega) (fun c_76 => ?_) (fun c_76 => absurd c_76 (by decide))
  refine V_aload_n d_X_join_92 rfl ?_
  refine V_aload d_X_join_93 rfl ?_
  refine V_aload d_X_join_95 rfl ?_
  refine V_aload d_X_join_97 rfl ?_
  refine V_iload_n d_X_join_99 rfl ?_
  refine J_if_ne 107 d_X_join_100 (by decide) (by omega) (fun c_100 => absurd c_100 (by decide)) (fun c_100 => ?_)
  refine J_lconst (z := 1) d_X_join_103 rfl ?_
  refine V_goto 110 d_X_join_104 (by decide) ?_
  refine V_callV (n := 4) d_X_join_110 g_X_208 rfl zsys_x0 rfl (c_combine G _ B kd nn t zz ch md tc tg pt L w0 nn rfl hn c l r m 1 _ _ hc hl hr rfl rfl (by omega) hm hm3 hR) ⟨co_X_combine, by decide +kernel, Nat.le_of_ble_eq_true rfl⟩ ⟨Nat.le_of_ble_eq_true rfl, Nat.le_of_ble_eq_true rfl, Nat.le_of_ble_eq_true rfl, Nat.le_of_ble_eq_true rfl⟩ (Nat.le_of_ble_eq_true rfl) (fun r_110 w_110 s_110 q_110 => ?_) (fun _ _ _ q => False.elim q)
  obtain ⟨rfl, rfl, rfl⟩ := q_110
  refine V_aload d_X_join_113 rfl ?_
  refine V_getf d_X_join_115 ff_X_197 (zsys_at (by omega) (zlay_cip hc)) rfl ?_
  exact V_ireturn d_X_join_118 rfl ⟨Nat.le_of_ble_eq_true rfl, Nat.le_of_ble_eq_true rfl⟩ ⟨by rw [zpu_s], rfl, rfl⟩

set_option maxRecDepth 100000 in
set_option maxHeartbeats 4000000 in
theorem c_join_1 (G : zG) (sz B : Nat) (kd n t zz : Int) (ch : Int32) (md tc : Int) (tg pt : Nat → Int) (L : Nat → Int → Int) (w0 : zW) (nn : Nat) (hnn : n = (nn : Int)) (hn : nn ≤ 32) (c : Nat) (hc : c < 16) (l : Nat) (hl : l < 16) (hfl : 0 < pt (97 + 5 * l) ∧ pt (97 + 5 * l) ≤ 3) (r : Nat) (hr : r < 16) (hfr : 0 < pt (97 + 5 * r) ∧ pt (97 + 5 * r) ≤ 3) (m : Nat) (hm : (if pt (97 + 5 * l) < pt (97 + 5 * r) then pt (97 + 5 * r) else pt (97 + 5 * l)) = (m : Int)) (hR : ∀ k : Nat, k < m → ∀ i : Nat, i < nn → -9223372036854775808 ≤ (zCm nn l r (pt (97 + 5 * l)) (pt (97 + 5 * r)) (-1) L m) (178 + k) i ∧ (zCm nn l r (pt (97 + 5 * l)) (pt (97 + 5 * r)) (-1) L m) (178 + k) i < 9223372036854775808) : zCt G M_X_join (zR 8 1 6 139) [.ref B, .int (Int32.ofInt (c : Int)), .int (Int32.ofInt 1), .int (Int32.ofInt (l : Int)), .int (Int32.ofInt (r : Int))] sz (zsys G B kd n t zz ch md tc tg pt L w0) (zdet (some (.int (Int32.ofInt (m : Int)))) (zsys G B kd n t zz ch md tc tg (zpu pt (97 + 5 * c) m) (zSt nn c (zCm nn l r (pt (97 + 5 * l)) (pt (97 + 5 * r)) (-1) L m) m) w0) sz) := by
  subst hnn
  have hm3 : m ≤ 3 := by split at hm <;> omega
  refine V_aload_n d_X_join_0 rfl ?_
  refine V_iload_n d_X_join_1 rfl ?_
  refine V_callV (n := 1) d_X_join_2 g_X_139 rfl zsys_x0 rfl (c_placeAt G _ B kd nn t zz ch md tc tg pt L w0 c hc) ⟨co_X_placeAt, by decide +kernel, Nat.le_of_ble_eq_true rfl⟩ ⟨Nat.le_of_ble_eq_true rfl, Nat.le_of_ble_eq_true rfl, Nat.le_of_ble_eq_true rfl, Nat.le_of_ble_eq_true rfl⟩ (Nat.le_of_ble_eq_true rfl) (fun r_2 w_2 s_2 q_2 => ?_) (fun _ _ _ q => False.elim q)
  obtain ⟨rfl, rfl, rfl⟩ := q_2
  refine V_astore d_X_join_5 (by decide) ?_
  refine V_aload_n d_X_join_7 rfl ?_
  refine V_iload_n d_X_join_8 rfl ?_
  refine V_callV (n := 1) d_X_join_9 g_X_173 rfl zsys_x0 rfl (c_takenAt G _ B kd nn t zz ch md tc tg pt L w0 l hl hfl) ⟨co_X_takenAt, by decide +kernel, Nat.le_of_ble_eq_true rfl⟩ ⟨Nat.le_of_ble_eq_true rfl, Nat.le_of_ble_eq_true rfl, Nat.le_of_ble_eq_true rfl, Nat.le_of_ble_eq_true rfl⟩ (Nat.le_of_ble_eq_true rfl) (fun r_9 w_9 s_9 q_9 => ?_) (fun _ _ _ q => False.elim q)
  obtain ⟨rfl, rfl, rfl⟩ := q_9
  refine V_astore d_X_join_12 (by decide) ?_
  refine V_aload_n d_X_join_14 rfl ?_
  refine V_iload d_X_join_15 rfl ?_
  refine V_callV (n := 1) d_X_join_17 g_X_173 rfl zsys_x0 rfl (c_takenAt G _ B kd nn t zz ch md tc tg pt L w0 r hr hfr) ⟨co_X_takenAt, by decide +kernel, Nat.le_of_ble_eq_true rfl⟩ ⟨Nat.le_of_ble_eq_true rfl, Nat.le_of_ble_eq_true rfl, Nat.le_of_ble_eq_true rfl, Nat.le_of_ble_eq_true rfl⟩ (Nat.le_of_ble_eq_true rfl) (fun r_17 w_17 s_17 q_17 => ?_) (fun _ _ _ q => False.elim q)
  obtain ⟨rfl, rfl, rfl⟩ := q_17
  refine V_astore d_X_join_20 (by decide) ?_
  refine V_iload_n d_X_join_22 rfl ?_
  refine J_if_lt 31 d_X_join_23 (by decide) (by omega) (fun c_23 => absurd c_23 (by decide)) (fun c_23 => ?_)
  refine V_iload_n d_X_join_26 rfl ?_
  refine V_iconst d_X_join_27 ?_
  refine J_icmp_le 41 d_X_join_28 (by decide) (by omega) (by omega) (fun c_28 => ?_) (fun c_28 => absurd c_28 (by decide))
  refine V_iload_n d_X_join_41 rfl ?_
  refine V_iconst d_X_join_42 ?_
  refine J_icmp_ne 74 d_X_join_43 (by decide) (by omega) (by omega) (fun c_43 => ?_) (fun c_43 => absurd c_43 (by decide))
  refine V_iload_n d_X_join_74 rfl ?_
  refine V_iconst d_X_join_75 ?_
  refine J_icmp_ne 92 d_X_join_76 (by decide) (by omega) (by omega) (fun c_76 => ?_) (fun c_76 => absurd c_76 (by decide))
  refine V_aload_n d_X_join_92 rfl ?_
  refine V_aload d_X_join_93 rfl ?_
  refine V_aload d_X_join_95 rfl ?_
  refine V_aload d_X_join_97 rfl ?_
  refine V_iload_n d_X_join_99 rfl ?_
  refine J_if_ne 107 d_X_join_100 (by decide) (by omega) (fun c_100 => ?_) (fun c_100 => absurd c_100 (by decide))
  refine J_ldc2 d_X_join_107 k_X_206 ?_
  refine V_callV (n := 4) d_X_join_110 g_X_208 rfl zsys_x0 rfl (c_combine G _ B kd nn t zz ch md tc tg pt L w0 nn rfl hn c l r m (-1) _ _ hc hl hr rfl rfl (by omega) hm hm3 hR) ⟨co_X_combine, by decide +kernel, Nat.le_of_ble_eq_true rfl⟩ ⟨Nat.le_of_ble_eq_true rfl, Nat.le_of_ble_eq_true rfl, Nat.le_of_ble_eq_true rfl, Nat.le_of_ble_eq_true rfl⟩ (Nat.le_of_ble_eq_true rfl) (fun r_110 w_110 s_110 q_110 => ?_) (fun _ _ _ q => False.elim q)
  obtain ⟨rfl, rfl, rfl⟩ := q_110
  refine V_aload d_X_join_113 rfl ?_
  refine V_getf d_X_join_115 ff_X_197 (zsys_at (by omega) (zlay_cip hc)) rfl ?_
  exact V_ireturn d_X_join_118 rfl ⟨Nat.le_of_ble_eq_true rfl, Nat.le_of_ble_eq_true rfl⟩ ⟨by rw [zpu_s], rfl, rfl⟩

set_option maxRecDepth 100000 in
set_option maxHeartbeats 4000000 in
theorem c_plain_c (G : zG) (sz B : Nat) (kd n t zz : Int) (ch : Int32) (md tc : Int) (tg pt : Nat → Int) (L : Nat → Int → Int) (w0 : zW) (c : Int) (hc : -2147483648 ≤ c ∧ c < 2147483648) (hb : c < 0 ∨ 16 ≤ c) (o l p : Int) : zCt G M_X_plain (zR 8 1 6 139) [.ref B, .int (Int32.ofInt c), .int (Int32.ofInt o), .int (Int32.ofInt l), .int (Int32.ofInt p)] sz (zsys G B kd n t zz ch md tc tg pt L w0) (zOut (.inr zNSE) (zsys G B kd n t zz ch md tc tg pt L w0) (sz + 1)) := by
  refine V_aload_n d_X_plain_0 rfl ?_
  refine V_iload_n d_X_plain_1 rfl ?_
  refine V_callV (n := 1) d_X_plain_2 g_X_139 rfl zsys_x0 rfl (c_placeAt_no G _ B kd n t zz ch md tc tg pt L w0 c hc hb) ⟨co_X_placeAt, by decide +kernel, Nat.le_of_ble_eq_true rfl⟩ ⟨Nat.le_of_ble_eq_true rfl, Nat.le_of_ble_eq_true rfl, Nat.le_of_ble_eq_true rfl, Nat.le_of_ble_eq_true rfl⟩ (Nat.le_of_ble_eq_true rfl) (fun r_2 w_2 s_2 q_2 => ?_) (fun _ _ _ q => ⟨⟨Nat.le_of_ble_eq_true rfl, Nat.le_of_ble_eq_true rfl⟩, q⟩)
  cases q_2.1

set_option maxRecDepth 100000 in
set_option maxHeartbeats 4000000 in
theorem c_plain_l (G : zG) (sz B : Nat) (kd n t zz : Int) (ch : Int32) (md tc : Int) (tg pt : Nat → Int) (L : Nat → Int → Int) (w0 : zW) (c : Nat) (hc : c < 16) (l : Int) (hl : -2147483648 ≤ l ∧ l < 2147483648) (hb : l < 0 ∨ 16 ≤ l) (o p : Int) : zCt G M_X_plain (zR 8 1 6 139) [.ref B, .int (Int32.ofInt (c : Int)), .int (Int32.ofInt o), .int (Int32.ofInt l), .int (Int32.ofInt p)] sz (zsys G B kd n t zz ch md tc tg pt L w0) (zOut (.inr zNSE) (zsys G B kd n t zz ch md tc tg pt L w0) (sz + 1)) := by
  refine V_aload_n d_X_plain_0 rfl ?_
  refine V_iload_n d_X_plain_1 rfl ?_
  refine V_callV (n := 1) d_X_plain_2 g_X_139 rfl zsys_x0 rfl (c_placeAt G _ B kd n t zz ch md tc tg pt L w0 c hc) ⟨co_X_placeAt, by decide +kernel, Nat.le_of_ble_eq_true rfl⟩ ⟨Nat.le_of_ble_eq_true rfl, Nat.le_of_ble_eq_true rfl, Nat.le_of_ble_eq_true rfl, Nat.le_of_ble_eq_true rfl⟩ (Nat.le_of_ble_eq_true rfl) (fun r_2 w_2 s_2 q_2 => ?_) (fun _ _ _ q => False.elim q)
  obtain ⟨rfl, rfl, rfl⟩ := q_2
  refine V_astore d_X_plain_5 (by decide) ?_
  refine V_aload_n d_X_plain_7 rfl ?_
  refine V_iload_n d_X_plain_8 rfl ?_
  refine V_callV (n := 1) d_X_plain_9 g_X_173 rfl zsys_x0 rfl (c_takenAt_no G _ B kd n t zz ch md tc tg pt L w0 l hl hb) ⟨co_X_takenAt, by decide +kernel, Nat.le_of_ble_eq_true rfl⟩ ⟨Nat.le_of_ble_eq_true rfl, Nat.le_of_ble_eq_true rfl, Nat.le_of_ble_eq_true rfl, Nat.le_of_ble_eq_true rfl⟩ (Nat.le_of_ble_eq_true rfl) (fun r_9 w_9 s_9 q_9 => ?_) (fun _ _ _ q => ⟨⟨Nat.le_of_ble_eq_true rfl, Nat.le_of_ble_eq_true rfl⟩, q⟩)
  cases q_9.1

set_option maxRecDepth 100000 in
set_option maxHeartbeats 4000000 in
theorem c_plain_le (G : zG) (sz B : Nat) (kd n t zz : Int) (ch : Int32) (md tc : Int) (tg pt : Nat → Int) (L : Nat → Int → Int) (w0 : zW) (c : Nat) (hc : c < 16) (l : Nat) (hl : l < 16) (he : pt (97 + 5 * l) = 0) (o p : Int) : zCt G M_X_plain (zR 8 1 6 139) [.ref B, .int (Int32.ofInt (c : Int)), .int (Int32.ofInt o), .int (Int32.ofInt (l : Int)), .int (Int32.ofInt p)] sz (zsys G B kd n t zz ch md tc tg pt L w0) (zOut (.inr zNSE) (zsys G B kd n t zz ch md tc tg pt L w0) (sz + 1)) := by
  refine V_aload_n d_X_plain_0 rfl ?_
  refine V_iload_n d_X_plain_1 rfl ?_
  refine V_callV (n := 1) d_X_plain_2 g_X_139 rfl zsys_x0 rfl (c_placeAt G _ B kd n t zz ch md tc tg pt L w0 c hc) ⟨co_X_placeAt, by decide +kernel, Nat.le_of_ble_eq_true rfl⟩ ⟨Nat.le_of_ble_eq_true rfl, Nat.le_of_ble_eq_true rfl, Nat.le_of_ble_eq_true rfl, Nat.le_of_ble_eq_true rfl⟩ (Nat.le_of_ble_eq_true rfl) (fun r_2 w_2 s_2 q_2 => ?_) (fun _ _ _ q => False.elim q)
  obtain ⟨rfl, rfl, rfl⟩ := q_2
  refine V_astore d_X_plain_5 (by decide) ?_
  refine V_aload_n d_X_plain_7 rfl ?_
  refine V_iload_n d_X_plain_8 rfl ?_
  refine V_callV (n := 1) d_X_plain_9 g_X_173 rfl zsys_x0 rfl (c_takenAt_em G _ B kd n t zz ch md tc tg pt L w0 l hl he) ⟨co_X_takenAt, by decide +kernel, Nat.le_of_ble_eq_true rfl⟩ ⟨Nat.le_of_ble_eq_true rfl, Nat.le_of_ble_eq_true rfl, Nat.le_of_ble_eq_true rfl, Nat.le_of_ble_eq_true rfl⟩ (Nat.le_of_ble_eq_true rfl) (fun r_9 w_9 s_9 q_9 => ?_) (fun _ _ _ q => ⟨⟨Nat.le_of_ble_eq_true rfl, Nat.le_of_ble_eq_true rfl⟩, q⟩)
  cases q_9.1

set_option maxRecDepth 100000 in
set_option maxHeartbeats 4000000 in
theorem c_plain_p (G : zG) (sz B : Nat) (kd n t zz : Int) (ch : Int32) (md tc : Int) (tg pt : Nat → Int) (L : Nat → Int → Int) (w0 : zW) (c : Nat) (hc : c < 16) (l : Nat) (hl : l < 16) (hfl : 0 < pt (97 + 5 * l) ∧ pt (97 + 5 * l) ≤ 3) (p : Int) (hp : -2147483648 ≤ p ∧ p < 2147483648) (hb : p < 0 ∨ 8 ≤ p) (o : Int) : zCt G M_X_plain (zR 8 1 6 139) [.ref B, .int (Int32.ofInt (c : Int)), .int (Int32.ofInt o), .int (Int32.ofInt (l : Int)), .int (Int32.ofInt p)] sz (zsys G B kd n t zz ch md tc tg pt L w0) (zOut (.inr zNSE) (zsys G B kd n t zz ch md tc tg pt L w0) (sz + 1)) := by
  refine V_aload_n d_X_plain_0 rfl ?_
  refine V_iload_n d_X_plain_1 rfl ?_
  refine V_callV (n := 1) d_X_plain_2 g_X_139 rfl zsys_x0 rfl (c_placeAt G _ B kd n t zz ch md tc tg pt L w0 c hc) ⟨co_X_placeAt, by decide +kernel, Nat.le_of_ble_eq_true rfl⟩ ⟨Nat.le_of_ble_eq_true rfl, Nat.le_of_ble_eq_true rfl, Nat.le_of_ble_eq_true rfl, Nat.le_of_ble_eq_true rfl⟩ (Nat.le_of_ble_eq_true rfl) (fun r_2 w_2 s_2 q_2 => ?_) (fun _ _ _ q => False.elim q)
  obtain ⟨rfl, rfl, rfl⟩ := q_2
  refine V_astore d_X_plain_5 (by decide) ?_
  refine V_aload_n d_X_plain_7 rfl ?_
  refine V_iload_n d_X_plain_8 rfl ?_
  refine V_callV (n := 1) d_X_plain_9 g_X_173 rfl zsys_x0 rfl (c_takenAt G _ B kd n t zz ch md tc tg pt L w0 l hl hfl) ⟨co_X_takenAt, by decide +kernel, Nat.le_of_ble_eq_true rfl⟩ ⟨Nat.le_of_ble_eq_true rfl, Nat.le_of_ble_eq_true rfl, Nat.le_of_ble_eq_true rfl, Nat.le_of_ble_eq_true rfl⟩ (Nat.le_of_ble_eq_true rfl) (fun r_9 w_9 s_9 q_9 => ?_) (fun _ _ _ q => False.elim q)
  obtain ⟨rfl, rfl, rfl⟩ := q_9
  refine V_astore d_X_plain_12 (by decide) ?_
  refine V_aload_n d_X_plain_14 rfl ?_
  refine V_iload d_X_plain_15 rfl ?_
  refine V_callV (n := 1) d_X_plain_17 g_X_110 rfl zsys_x0 rfl (c_plainAt_no G _ B kd n t zz ch md tc tg pt L w0 p hp hb) ⟨co_X_plainAt, by decide +kernel, Nat.le_of_ble_eq_true rfl⟩ ⟨Nat.le_of_ble_eq_true rfl, Nat.le_of_ble_eq_true rfl, Nat.le_of_ble_eq_true rfl, Nat.le_of_ble_eq_true rfl⟩ (Nat.le_of_ble_eq_true rfl) (fun r_17 w_17 s_17 q_17 => ?_) (fun _ _ _ q => ⟨⟨Nat.le_of_ble_eq_true rfl, Nat.le_of_ble_eq_true rfl⟩, q⟩)
  cases q_17.1

set_option maxRecDepth 100000 in
set_option maxHeartbeats 4000000 in
theorem c_plain_o1 (G : zG) (sz B : Nat) (kd n t zz : Int) (ch : Int32) (md tc : Int) (tg pt : Nat → Int) (L : Nat → Int → Int) (w0 : zW) (c : Nat) (hc : c < 16) (l : Nat) (hl : l < 16) (hfl : 0 < pt (97 + 5 * l) ∧ pt (97 + 5 * l) ≤ 3) (p : Nat) (hp : p < 8) (o : Int) (ho : -2147483648 ≤ o ∧ o < 2147483648) (hb : o < 0) : zCt G M_X_plain (zR 8 1 6 139) [.ref B, .int (Int32.ofInt (c : Int)), .int (Int32.ofInt o), .int (Int32.ofInt (l : Int)), .int (Int32.ofInt (p : Int))] sz (zsys G B kd n t zz ch md tc tg pt L w0) (zOut (.inr zIAE) (zsys G B kd n t zz ch md tc tg pt L w0) (sz + 1)) := by
  refine V_aload_n d_X_plain_0 rfl ?_
  refine V_iload_n d_X_plain_1 rfl ?_
  refine V_callV (n := 1) d_X_plain_2 g_X_139 rfl zsys_x0 rfl (c_placeAt G _ B kd n t zz ch md tc tg pt L w0 c hc) ⟨co_X_placeAt, by decide +kernel, Nat.le_of_ble_eq_true rfl⟩ ⟨Nat.le_of_ble_eq_true rfl, Nat.le_of_ble_eq_true rfl, Nat.le_of_ble_eq_true rfl, Nat.le_of_ble_eq_true rfl⟩ (Nat.le_of_ble_eq_true rfl) (fun r_2 w_2 s_2 q_2 => ?_) (fun _ _ _ q => False.elim q)
  obtain ⟨rfl, rfl, rfl⟩ := q_2
  refine V_astore d_X_plain_5 (by decide) ?_
  refine V_aload_n d_X_plain_7 rfl ?_
  refine V_iload_n d_X_plain_8 rfl ?_
  refine V_callV (n := 1) d_X_plain_9 g_X_173 rfl zsys_x0 rfl (c_takenAt G _ B kd n t zz ch md tc tg pt L w0 l hl hfl) ⟨co_X_takenAt, by decide +kernel, Nat.le_of_ble_eq_true rfl⟩ ⟨Nat.le_of_ble_eq_true rfl, Nat.le_of_ble_eq_true rfl, Nat.le_of_ble_eq_true rfl, Nat.le_of_ble_eq_true rfl⟩ (Nat.le_of_ble_eq_true rfl) (fun r_9 w_9 s_9 q_9 => ?_) (fun _ _ _ q => False.elim q)
  obtain ⟨rfl, rfl, rfl⟩ := q_9
  refine V_astore d_X_plain_12 (by decide) ?_
  refine V_aload_n d_X_plain_14 rfl ?_
  refine V_iload d_X_plain_15 rfl ?_
  refine V_callV (n := 1) d_X_plain_17 g_X_110 rfl zsys_x0 rfl (c_plainAt G _ B kd n t zz ch md tc tg pt L w0 p hp) ⟨co_X_plainAt, by decide +kernel, Nat.le_of_ble_eq_true rfl⟩ ⟨Nat.le_of_ble_eq_true rfl, Nat.le_of_ble_eq_true rfl, Nat.le_of_ble_eq_true rfl, Nat.le_of_ble_eq_true rfl⟩ (Nat.le_of_ble_eq_true rfl) (fun r_17 w_17 s_17 q_17 => ?_) (fun _ _ _ q => False.elim q)
  obtain ⟨rfl, rfl, rfl⟩ := q_17
  refine V_astore d_X_plain_20 (by decide) ?_
  refine V_iload_n d_X_plain_22 rfl ?_
  refine J_if_lt 31 d_X_plain_23 (by decide) (by omega) (fun c_23 => ?_) (fun c_23 => absurd c_23 (by omega))
  exact V_throwA (tx := "no such operation") d_X_plain_31 d_X_plain_34 (Or.inl ⟨d_X_plain_35, rfl⟩) d_X_plain_37 d_X_plain_40 rfl (by decide) rfl (Nat.le_of_ble_eq_true rfl) (Nat.le_of_ble_eq_true rfl) (Nat.le_of_ble_eq_true rfl) (Nat.le_of_ble_eq_true rfl) ⟨Nat.le_of_ble_eq_true rfl, Nat.le_of_ble_eq_true rfl⟩ ⟨rfl, rfl, rfl⟩

set_option maxRecDepth 100000 in
set_option maxHeartbeats 4000000 in
theorem c_plain_o2 (G : zG) (sz B : Nat) (kd n t zz : Int) (ch : Int32) (md tc : Int) (tg pt : Nat → Int) (L : Nat → Int → Int) (w0 : zW) (c : Nat) (hc : c < 16) (l : Nat) (hl : l < 16) (hfl : 0 < pt (97 + 5 * l) ∧ pt (97 + 5 * l) ≤ 3) (p : Nat) (hp : p < 8) (o : Int) (ho : -2147483648 ≤ o ∧ o < 2147483648) (hb : 1 < o) : zCt G M_X_plain (zR 8 1 6 139) [.ref B, .int (Int32.ofInt (c : Int)), .int (Int32.ofInt o), .int (Int32.ofInt (l : Int)), .int (Int32.ofInt (p : Int))] sz (zsys G B kd n t zz ch md tc tg pt L w0) (zOut (.inr zIAE) (zsys G B kd n t zz ch md tc tg pt L w0) (sz + 1)) := by
  refine V_aload_n d_X_plain_0 rfl ?_
  refine V_iload_n d_X_plain_1 rfl ?_
  refine V_callV (n := 1) d_X_plain_2 g_X_139 rfl zsys_x0 rfl (c_placeAt G _ B kd n t zz ch md tc tg pt L w0 c hc) ⟨co_X_placeAt, by decide +kernel, Nat.le_of_ble_eq_true rfl⟩ ⟨Nat.le_of_ble_eq_true rfl, Nat.le_of_ble_eq_true rfl, Nat.le_of_ble_eq_true rfl, Nat.le_of_ble_eq_true rfl⟩ (Nat.le_of_ble_eq_true rfl) (fun r_2 w_2 s_2 q_2 => ?_) (fun _ _ _ q => False.elim q)
  obtain ⟨rfl, rfl, rfl⟩ := q_2
  refine V_astore d_X_plain_5 (by decide) ?_
  refine V_aload_n d_X_plain_7 rfl ?_
  refine V_iload_n d_X_plain_8 rfl ?_
  refine V_callV (n := 1) d_X_plain_9 g_X_173 rfl zsys_x0 rfl (c_takenAt G _ B kd n t zz ch md tc tg pt L w0 l hl hfl) ⟨co_X_takenAt, by decide +kernel, Nat.le_of_ble_eq_true rfl⟩ ⟨Nat.le_of_ble_eq_true rfl, Nat.le_of_ble_eq_true rfl, Nat.le_of_ble_eq_true rfl, Nat.le_of_ble_eq_true rfl⟩ (Nat.le_of_ble_eq_true rfl) (fun r_9 w_9 s_9 q_9 => ?_) (fun _ _ _ q => False.elim q)
  obtain ⟨rfl, rfl, rfl⟩ := q_9
  refine V_astore d_X_plain_12 (by decide) ?_
  refine V_aload_n d_X_plain_14 rfl ?_
  refine V_iload d_X_plain_15 rfl ?_
  refine V_callV (n := 1) d_X_plain_17 g_X_110 rfl zsys_x0 rfl (c_plainAt G _ B kd n t zz ch md tc tg pt L w0 p hp) ⟨co_X_plainAt, by decide +kernel, Nat.le_of_ble_eq_true rfl⟩ ⟨Nat.le_of_ble_eq_true rfl, Nat.le_of_ble_eq_true rfl, Nat.le_of_ble_eq_true rfl, Nat.le_of_ble_eq_true rfl⟩ (Nat.le_of_ble_eq_true rfl) (fun r_17 w_17 s_17 q_17 => ?_) (fun _ _ _ q => False.elim q)
  obtain ⟨rfl, rfl, rfl⟩ := q_17
  refine V_astore d_X_plain_20 (by decide) ?_
  refine V_iload_n d_X_plain_22 rfl ?_
  refine J_if_lt 31 d_X_plain_23 (by decide) (by omega) (fun c_23 => absurd c_23 (by omega)) (fun c_23 => ?_)
  refine V_iload_n d_X_plain_26 rfl ?_
  refine V_iconst d_X_plain_27 ?_
  refine J_icmp_le 41 d_X_plain_28 (by decide) (by omega) (by omega) (fun c_28 => absurd c_28 (by omega)) (fun c_28 => ?_)
  exact V_throwA (tx := "no such operation") d_X_plain_31 d_X_plain_34 (Or.inl ⟨d_X_plain_35, rfl⟩) d_X_plain_37 d_X_plain_40 rfl (by decide) rfl (Nat.le_of_ble_eq_true rfl) (Nat.le_of_ble_eq_true rfl) (Nat.le_of_ble_eq_true rfl) (Nat.le_of_ble_eq_true rfl) ⟨Nat.le_of_ble_eq_true rfl, Nat.le_of_ble_eq_true rfl⟩ ⟨rfl, rfl, rfl⟩

set_option maxRecDepth 100000 in
set_option maxHeartbeats 4000000 in
theorem c_plain_0 (G : zG) (sz B : Nat) (kd n t zz : Int) (ch : Int32) (md tc : Int) (tg pt : Nat → Int) (L : Nat → Int → Int) (w0 : zW) (nn : Nat) (hnn : n = (nn : Int)) (hn : nn ≤ 32) (c : Nat) (hc : c < 16) (l : Nat) (hl : l < 16) (hfl : 0 < pt (97 + 5 * l) ∧ pt (97 + 5 * l) ≤ 3) (p : Nat) (hp : p < 8) (q : Nat) (hq : pt (97 + 5 * l) = (q : Int)) (ht : 0 < t ∧ t < 1000) (hR : ∀ k : Nat, k < q → ∀ i : Nat, i < nn → -9223372036854775808 ≤ (zAs nn (178 + 0) (88 + p) (268435399 / t) (zPc nn l L q)) (178 + k) i ∧ (zAs nn (178 + 0) (88 + p) (268435399 / t) (zPc nn l L q)) (178 + k) i < 9223372036854775808) : zCt G M_X_plain (zR 8 1 6 139) [.ref B, .int (Int32.ofInt (c : Int)), .int (Int32.ofInt 0), .int (Int32.ofInt (l : Int)), .int (Int32.ofInt (p : Int))] sz (zsys G B kd n t zz ch md tc tg pt L w0) (zdet (some (.int (Int32.ofInt (q : Int)))) (zsys G B kd n t zz ch md tc tg (zpu pt (97 + 5 * c) q) (zSt nn c (zAs nn (178 + 0) (88 + p) (268435399 / t) (zPc nn l L q)) q) w0) sz) := by
  subst hnn
  refine V_aload_n d_X_plain_0 rfl ?_
  refine V_iload_n d_X_plain_1 rfl ?_
  refine V_callV (n := 1) d_X_plain_2 g_X_139 rfl zsys_x0 rfl (c_placeAt G _ B kd nn t zz ch md tc tg pt L w0 c hc) ⟨co_X_placeAt, by decide +kernel, Nat.le_of_ble_eq_true rfl⟩ ⟨Nat.le_of_ble_eq_true rfl, Nat.le_of_ble_eq_true rfl, Nat.le_of_ble_eq_true rfl, Nat.le_of_ble_eq_true rfl⟩ (Nat.le_of_ble_eq_true rfl) (fun r_2 w_2 s_2 q_2 => ?_) (fun _ _ _ q => False.elim q)
  obtain ⟨rfl, rfl, rfl⟩ := q_2
  refine V_astore d_X_plain_5 (by decide) ?_
  refine V_aload_n d_X_plain_7 rfl ?_
  refine V_iload_n d_X_plain_8 rfl ?_
  refine V_callV (n := 1) d_X_plain_9 g_X_173 rfl zsys_x0 rfl (c_takenAt G _ B kd nn t zz ch md tc tg pt L w0 l hl hfl) ⟨co_X_takenAt, by decide +kernel, Nat.le_of_ble_eq_true rfl⟩ ⟨Nat.le_of_ble_eq_true rfl, Nat.le_of_ble_eq_true rfl, Nat.le_of_ble_eq_true rfl, Nat.le_of_ble_eq_true rfl⟩ (Nat.le_of_ble_eq_true rfl) (fun r_9 w_9 s_9 q_9 => ?_) (fun _ _ _ q => False.elim q)
  obtain ⟨rfl, rfl, rfl⟩ := q_9
  refine V_astore d_X_plain_12 (by decide) ?_
  refine V_aload_n d_X_plain_14 rfl ?_
  refine V_iload d_X_plain_15 rfl ?_
  refine V_callV (n := 1) d_X_plain_17 g_X_110 rfl zsys_x0 rfl (c_plainAt G _ B kd nn t zz ch md tc tg pt L w0 p hp) ⟨co_X_plainAt, by decide +kernel, Nat.le_of_ble_eq_true rfl⟩ ⟨Nat.le_of_ble_eq_true rfl, Nat.le_of_ble_eq_true rfl, Nat.le_of_ble_eq_true rfl, Nat.le_of_ble_eq_true rfl⟩ (Nat.le_of_ble_eq_true rfl) (fun r_17 w_17 s_17 q_17 => ?_) (fun _ _ _ q => False.elim q)
  obtain ⟨rfl, rfl, rfl⟩ := q_17
  refine V_astore d_X_plain_20 (by decide) ?_
  refine V_iload_n d_X_plain_22 rfl ?_
  refine J_if_lt 31 d_X_plain_23 (by decide) (by omega) (fun c_23 => absurd c_23 (by decide)) (fun c_23 => ?_)
  refine V_iload_n d_X_plain_26 rfl ?_
  refine V_iconst d_X_plain_27 ?_
  refine J_icmp_le 41 d_X_plain_28 (by decide) (by omega) (by omega) (fun c_28 => ?_) (fun c_28 => absurd c_28 (by decide))
  refine V_iload_n d_X_plain_41 rfl ?_
  refine J_if_ne 58 d_X_plain_42 (by decide) (by omega) (fun c_42 => absurd c_42 (by decide)) (fun c_42 => ?_)
  refine V_aload_n d_X_plain_45 rfl ?_
  refine V_aload d_X_plain_46 rfl ?_
  refine V_aload d_X_plain_48 rfl ?_
  refine V_aload d_X_plain_50 rfl ?_
  refine V_callV (n := 3) d_X_plain_52 g_X_212 rfl zsys_x0 rfl (c_addPlain G _ B kd nn t zz ch md tc tg pt L w0 nn rfl hn c l (88 + p) q hc hl (zir_p hp) (by omega) (by omega) hq ht hR) ⟨co_X_addPlain, by decide +kernel, Nat.le_of_ble_eq_true rfl⟩ ⟨Nat.le_of_ble_eq_true rfl, Nat.le_of_ble_eq_true rfl, Nat.le_of_ble_eq_true rfl, Nat.le_of_ble_eq_true rfl⟩ (Nat.le_of_ble_eq_true rfl) (fun r_52 w_52 s_52 q_52 => ?_) (fun _ _ _ q => False.elim q)
  obtain ⟨rfl, rfl, rfl⟩ := q_52
  refine V_goto 68 d_X_plain_55 (by decide) ?_
  refine V_aload d_X_plain_68 rfl ?_
  refine V_getf d_X_plain_70 ff_X_197 (zsys_at (by omega) (zlay_cip hc)) rfl ?_
  exact V_ireturn d_X_plain_73 rfl ⟨Nat.le_of_ble_eq_true rfl, Nat.le_of_ble_eq_true rfl⟩ ⟨by rw [zpu_s], rfl, rfl⟩

set_option maxRecDepth 100000 in
set_option maxHeartbeats 4000000 in
theorem c_plain_1 (G : zG) (sz B : Nat) (kd n t zz : Int) (ch : Int32) (md tc : Int) (tg pt : Nat → Int) (L : Nat → Int → Int) (w0 : zW) (nn : Nat) (hnn : n = (nn : Int)) (hn : nn ≤ 32) (c : Nat) (hc : c < 16) (l : Nat) (hl : l < 16) (hfl : 0 < pt (97 + 5 * l) ∧ pt (97 + 5 * l) ≤ 3) (p : Nat) (hp : p < 8) (q : Nat) (hq : pt (97 + 5 * l) = (q : Int)) (ht : 0 < t ∧ t < 1000) (hR : ∀ k : Nat, k < q → ∀ i : Nat, i < nn → -9223372036854775808 ≤ (zPm nn l (88 + p) L q) (178 + k) i ∧ (zPm nn l (88 + p) L q) (178 + k) i < 9223372036854775808) : zCt G M_X_plain (zR 8 1 6 139) [.ref B, .int (Int32.ofInt (c : Int)), .int (Int32.ofInt 1), .int (Int32.ofInt (l : Int)), .int (Int32.ofInt (p : Int))] sz (zsys G B kd n t zz ch md tc tg pt L w0) (zdet (some (.int (Int32.ofInt (q : Int)))) (zsys G B kd n t zz ch md tc tg (zpu pt (97 + 5 * c) q) (zSt nn c (zPm nn l (88 + p) L q) q) w0) sz) := by
  subst hnn
  refine V_aload_n d_X_plain_0 rfl ?_
  refine V_iload_n d_X_plain_1 rfl ?_
  refine V_callV (n := 1) d_X_plain_2 g_X_139 rfl zsys_x0 rfl (c_placeAt G _ B kd nn t zz ch md tc tg pt L w0 c hc) ⟨co_X_placeAt, by decide +kernel, Nat.le_of_ble_eq_true rfl⟩ ⟨Nat.le_of_ble_eq_true rfl, Nat.le_of_ble_eq_true rfl, Nat.le_of_ble_eq_true rfl, Nat.le_of_ble_eq_true rfl⟩ (Nat.le_of_ble_eq_true rfl) (fun r_2 w_2 s_2 q_2 => ?_) (fun _ _ _ q => False.elim q)
  obtain ⟨rfl, rfl, rfl⟩ := q_2
  refine V_astore d_X_plain_5 (by decide) ?_
  refine V_aload_n d_X_plain_7 rfl ?_
  refine V_iload_n d_X_plain_8 rfl ?_
  refine V_callV (n := 1) d_X_plain_9 g_X_173 rfl zsys_x0 rfl (c_takenAt G _ B kd nn t zz ch md tc tg pt L w0 l hl hfl) ⟨co_X_takenAt, by decide +kernel, Nat.le_of_ble_eq_true rfl⟩ ⟨Nat.le_of_ble_eq_true rfl, Nat.le_of_ble_eq_true rfl, Nat.le_of_ble_eq_true rfl, Nat.le_of_ble_eq_true rfl⟩ (Nat.le_of_ble_eq_true rfl) (fun r_9 w_9 s_9 q_9 => ?_) (fun _ _ _ q => False.elim q)
  obtain ⟨rfl, rfl, rfl⟩ := q_9
  refine V_astore d_X_plain_12 (by decide) ?_
  refine V_aload_n d_X_plain_14 rfl ?_
  refine V_iload d_X_plain_15 rfl ?_
  refine V_callV (n := 1) d_X_plain_17 g_X_110 rfl zsys_x0 rfl (c_plainAt G _ B kd nn t zz ch md tc tg pt L w0 p hp) ⟨co_X_plainAt, by decide +kernel, Nat.le_of_ble_eq_true rfl⟩ ⟨Nat.le_of_ble_eq_true rfl, Nat.le_of_ble_eq_true rfl, Nat.le_of_ble_eq_true rfl, Nat.le_of_ble_eq_true rfl⟩ (Nat.le_of_ble_eq_true rfl) (fun r_17 w_17 s_17 q_17 => ?_) (fun _ _ _ q => False.elim q)
  obtain ⟨rfl, rfl, rfl⟩ := q_17
  refine V_astore d_X_plain_20 (by decide) ?_
  refine V_iload_n d_X_plain_22 rfl ?_
  refine J_if_lt 31 d_X_plain_23 (by decide) (by omega) (fun c_23 => absurd c_23 (by decide)) (fun c_23 => ?_)
  refine V_iload_n d_X_plain_26 rfl ?_
  refine V_iconst d_X_plain_27 ?_
  refine J_icmp_le 41 d_X_plain_28 (by decide) (by omega) (by omega) (fun c_28 => ?_) (fun c_28 => absurd c_28 (by decide))
  refine V_iload_n d_X_plain_41 rfl ?_
  refine J_if_ne 58 d_X_plain_42 (by decide) (by omega) (fun c_42 => ?_) (fun c_42 => absurd c_42 (by decide))
  refine V_aload_n d_X_plain_58 rfl ?_
  refine V_aload d_X_plain_59 rfl ?_
  refine V_aload d_X_plain_61 rfl ?_
  refine V_aload d_X_plain_63 rfl ?_
  refine V_callV (n := 3) d_X_plain_65 g_X_216 rfl zsys_x0 rfl (c_multiplyByPlain G _ B kd nn t zz ch md tc tg pt L w0 nn rfl hn c l (88 + p) q hc hl (zir_p hp) (by omega) (by omega) hq hR) ⟨co_X_multiplyByPlain, by decide +kernel, Nat.le_of_ble_eq_true rfl⟩ ⟨Nat.le_of_ble_eq_true rfl, Nat.le_of_ble_eq_true rfl, Nat.le_of_ble_eq_true rfl, Nat.le_of_ble_eq_true rfl⟩ (Nat.le_of_ble_eq_true rfl) (fun r_65 w_65 s_65 q_65 => ?_) (fun _ _ _ q => False.elim q)
  obtain ⟨rfl, rfl, rfl⟩ := q_65
  refine V_aload d_X_plain_68 rfl ?_
  refine V_getf d_X_plain_70 ff_X_197 (zsys_at (by omega) (zlay_cip hc)) rfl ?_
  exact V_ireturn d_X_plain_73 rfl ⟨Nat.le_of_ble_eq_true rfl, Nat.le_of_ble_eq_true rfl⟩ ⟨by rw [zpu_s], rfl, rfl⟩

set_option maxRecDepth 100000 in
set_option maxHeartbeats 4000000 in
theorem c_shrink_c (G : zG) (sz B : Nat) (kd n t zz : Int) (ch : Int32) (md tc : Int) (tg pt : Nat → Int) (L : Nat → Int → Int) (w0 : zW) (c : Int) (hc : -2147483648 ≤ c ∧ c < 2147483648) (hb : c < 0 ∨ 16 ≤ c) (l : Int) : zCt G M_X_shrink (zR 8 1 6 139) [.ref B, .int (Int32.ofInt c), .int (Int32.ofInt l)] sz (zsys G B kd n t zz ch md tc tg pt L w0) (zOut (.inr zNSE) (zsys G B kd n t zz ch md tc tg pt L w0) (sz + 1)) := by
  refine V_aload_n d_X_shrink_0 rfl ?_
  refine V_iload_n d_X_shrink_1 rfl ?_
  refine V_callV (n := 1) d_X_shrink_2 g_X_139 rfl zsys_x0 rfl (c_placeAt_no G _ B kd n t zz ch md tc tg pt L w0 c hc hb) ⟨co_X_placeAt, by decide +kernel, Nat.le_of_ble_eq_true rfl⟩ ⟨Nat.le_of_ble_eq_true rfl, Nat.le_of_ble_eq_true rfl, Nat.le_of_ble_eq_true rfl, Nat.le_of_ble_eq_true rfl⟩ (Nat.le_of_ble_eq_true rfl) (fun r_2 w_2 s_2 q_2 => ?_) (fun _ _ _ q => ⟨⟨Nat.le_of_ble_eq_true rfl, Nat.le_of_ble_eq_true rfl⟩, q⟩)
  cases q_2.1

set_option maxRecDepth 100000 in
set_option maxHeartbeats 4000000 in
theorem c_shrink_l (G : zG) (sz B : Nat) (kd n t zz : Int) (ch : Int32) (md tc : Int) (tg pt : Nat → Int) (L : Nat → Int → Int) (w0 : zW) (c : Nat) (hc : c < 16) (l : Int) (hl : -2147483648 ≤ l ∧ l < 2147483648) (hb : l < 0 ∨ 16 ≤ l) : zCt G M_X_shrink (zR 8 1 6 139) [.ref B, .int (Int32.ofInt (c : Int)), .int (Int32.ofInt l)] sz (zsys G B kd n t zz ch md tc tg pt L w0) (zOut (.inr zNSE) (zsys G B kd n t zz ch md tc tg pt L w0) (sz + 1)) := by
  refine V_aload_n d_X_shrink_0 rfl ?_
  refine V_iload_n d_X_shrink_1 rfl ?_
  refine V_callV (n := 1) d_X_shrink_2 g_X_139 rfl zsys_x0 rfl (c_placeAt G _ B kd n t zz ch md tc tg pt L w0 c hc) ⟨co_X_placeAt, by decide +kernel, Nat.le_of_ble_eq_true rfl⟩ ⟨Nat.le_of_ble_eq_true rfl, Nat.le_of_ble_eq_true rfl, Nat.le_of_ble_eq_true rfl, Nat.le_of_ble_eq_true rfl⟩ (Nat.le_of_ble_eq_true rfl) (fun r_2 w_2 s_2 q_2 => ?_) (fun _ _ _ q => False.elim q)
  obtain ⟨rfl, rfl, rfl⟩ := q_2
  refine V_astore_n d_X_shrink_5 (by decide) ?_
  refine V_aload_n d_X_shrink_6 rfl ?_
  refine V_iload_n d_X_shrink_7 rfl ?_
  refine V_callV (n := 1) d_X_shrink_8 g_X_173 rfl zsys_x0 rfl (c_takenAt_no G _ B kd n t zz ch md tc tg pt L w0 l hl hb) ⟨co_X_takenAt, by decide +kernel, Nat.le_of_ble_eq_true rfl⟩ ⟨Nat.le_of_ble_eq_true rfl, Nat.le_of_ble_eq_true rfl, Nat.le_of_ble_eq_true rfl, Nat.le_of_ble_eq_true rfl⟩ (Nat.le_of_ble_eq_true rfl) (fun r_8 w_8 s_8 q_8 => ?_) (fun _ _ _ q => ⟨⟨Nat.le_of_ble_eq_true rfl, Nat.le_of_ble_eq_true rfl⟩, q⟩)
  cases q_8.1

set_option maxRecDepth 100000 in
set_option maxHeartbeats 4000000 in
theorem c_shrink_le (G : zG) (sz B : Nat) (kd n t zz : Int) (ch : Int32) (md tc : Int) (tg pt : Nat → Int) (L : Nat → Int → Int) (w0 : zW) (c : Nat) (hc : c < 16) (l : Nat) (hl : l < 16) (he : pt (97 + 5 * l) = 0) : zCt G M_X_shrink (zR 8 1 6 139) [.ref B, .int (Int32.ofInt (c : Int)), .int (Int32.ofInt (l : Int))] sz (zsys G B kd n t zz ch md tc tg pt L w0) (zOut (.inr zNSE) (zsys G B kd n t zz ch md tc tg pt L w0) (sz + 1)) := by
  refine V_aload_n d_X_shrink_0 rfl ?_
  refine V_iload_n d_X_shrink_1 rfl ?_
  refine V_callV (n := 1) d_X_shrink_2 g_X_139 rfl zsys_x0 rfl (c_placeAt G _ B kd n t zz ch md tc tg pt L w0 c hc) ⟨co_X_placeAt, by decide +kernel, Nat.le_of_ble_eq_true rfl⟩ ⟨Nat.le_of_ble_eq_true rfl, Nat.le_of_ble_eq_true rfl, Nat.le_of_ble_eq_true rfl, Nat.le_of_ble_eq_true rfl⟩ (Nat.le_of_ble_eq_true rfl) (fun r_2 w_2 s_2 q_2 => ?_) (fun _ _ _ q => False.elim q)
  obtain ⟨rfl, rfl, rfl⟩ := q_2
  refine V_astore_n d_X_shrink_5 (by decide) ?_
  refine V_aload_n d_X_shrink_6 rfl ?_
  refine V_iload_n d_X_shrink_7 rfl ?_
  refine V_callV (n := 1) d_X_shrink_8 g_X_173 rfl zsys_x0 rfl (c_takenAt_em G _ B kd n t zz ch md tc tg pt L w0 l hl he) ⟨co_X_takenAt, by decide +kernel, Nat.le_of_ble_eq_true rfl⟩ ⟨Nat.le_of_ble_eq_true rfl, Nat.le_of_ble_eq_true rfl, Nat.le_of_ble_eq_true rfl, Nat.le_of_ble_eq_true rfl⟩ (Nat.le_of_ble_eq_true rfl) (fun r_8 w_8 s_8 q_8 => ?_) (fun _ _ _ q => ⟨⟨Nat.le_of_ble_eq_true rfl, Nat.le_of_ble_eq_true rfl⟩, q⟩)
  cases q_8.1

set_option maxRecDepth 100000 in
set_option maxHeartbeats 4000000 in
theorem c_shrink_2 (G : zG) (sz B : Nat) (kd n t zz : Int) (ch : Int32) (md tc : Int) (tg pt : Nat → Int) (L : Nat → Int → Int) (w0 : zW) (c : Nat) (hc : c < 16) (l : Nat) (hl : l < 16) (hfl : 0 < pt (97 + 5 * l) ∧ pt (97 + 5 * l) ≤ 3) (hb : pt (97 + 5 * l) = 2) : zCt G M_X_shrink (zR 8 1 6 139) [.ref B, .int (Int32.ofInt (c : Int)), .int (Int32.ofInt (l : Int))] sz (zsys G B kd n t zz ch md tc tg pt L w0) (zOut (.inr zISE) (zsys G B kd n t zz ch md tc tg pt L w0) (sz + 1)) := by
  refine V_aload_n d_X_shrink_0 rfl ?_
  refine V_iload_n d_X_shrink_1 rfl ?_
  refine V_callV (n := 1) d_X_shrink_2 g_X_139 rfl zsys_x0 rfl (c_placeAt G _ B kd n t zz ch md tc tg pt L w0 c hc) ⟨co_X_placeAt, by decide +kernel, Nat.le_of_ble_eq_true rfl⟩ ⟨Nat.le_of_ble_eq_true rfl, Nat.le_of_ble_eq_true rfl, Nat.le_of_ble_eq_true rfl, Nat.le_of_ble_eq_true rfl⟩ (Nat.le_of_ble_eq_true rfl) (fun r_2 w_2 s_2 q_2 => ?_) (fun _ _ _ q => False.elim q)
  obtain ⟨rfl, rfl, rfl⟩ := q_2
  refine V_astore_n d_X_shrink_5 (by decide) ?_
  refine V_aload_n d_X_shrink_6 rfl ?_
  refine V_iload_n d_X_shrink_7 rfl ?_
  refine V_callV (n := 1) d_X_shrink_8 g_X_173 rfl zsys_x0 rfl (c_takenAt G _ B kd n t zz ch md tc tg pt L w0 l hl hfl) ⟨co_X_takenAt, by decide +kernel, Nat.le_of_ble_eq_true rfl⟩ ⟨Nat.le_of_ble_eq_true rfl, Nat.le_of_ble_eq_true rfl, Nat.le_of_ble_eq_true rfl, Nat.le_of_ble_eq_true rfl⟩ (Nat.le_of_ble_eq_true rfl) (fun r_8 w_8 s_8 q_8 => ?_) (fun _ _ _ q => False.elim q)
  obtain ⟨rfl, rfl, rfl⟩ := q_8
  refine V_astore d_X_shrink_11 (by decide) ?_
  refine V_aload d_X_shrink_13 rfl ?_
  refine V_getf d_X_shrink_15 ff_X_197 (zsys_at (by omega) (zlay_cip hl)) rfl ?_
  refine V_iconst d_X_shrink_18 ?_
  refine J_icmp_ne 32 d_X_shrink_19 (by decide) (by omega) (by omega) (fun c_19 => absurd hb c_19) (fun c_19 => ?_)
  exact V_throwS (tx := "nothing to shrink") d_X_shrink_22 d_X_shrink_25 (Or.inl ⟨d_X_shrink_26, rfl⟩) d_X_shrink_28 d_X_shrink_31 rfl (by decide) rfl (Nat.le_of_ble_eq_true rfl) (Nat.le_of_ble_eq_true rfl) (Nat.le_of_ble_eq_true rfl) (Nat.le_of_ble_eq_true rfl) ⟨Nat.le_of_ble_eq_true rfl, Nat.le_of_ble_eq_true rfl⟩ ⟨rfl, rfl, rfl⟩

set_option maxRecDepth 100000 in
set_option maxHeartbeats 4000000 in
theorem c_shrink (G : zG) (sz B : Nat) (kd n t zz : Int) (ch : Int32) (md tc : Int) (tg pt : Nat → Int) (L : Nat → Int → Int) (w0 : zW) (nn : Nat) (hnn : n = (nn : Int)) (hn : nn ≤ 32) (c : Nat) (hc : c < 16) (l : Nat) (hl : l < 16) (h3 : pt (97 + 5 * l) = 3) (ht : 0 < t ∧ t ≤ 1000) (hD : ∀ i : Nat, i < nn → 0 ≤ L (97 + 5 * l + 1 + 1 + 2) i ∧ L (97 + 5 * l + 1 + 1 + 2) i < 268435456) (hR : ∀ k : Nat, k < 2 → ∀ i : Nat, i < nn → -9223372036854775808 ≤ (zAw nn 9 (97 + 5 * l + 1 + 1 + 2) (zCy nn (178 + 1) (97 + 5 * l + 1 + 1 + 1) (zCy nn (178 + 0) (97 + 5 * l + 1 + 1 + 0) L)) 6) (178 + k) i ∧ (zAw nn 9 (97 + 5 * l + 1 + 1 + 2) (zCy nn (178 + 1) (97 + 5 * l + 1 + 1 + 1) (zCy nn (178 + 0) (97 + 5 * l + 1 + 1 + 0) L)) 6) (178 + k) i < 9223372036854775808) (hP : ∀ i : Nat, i < nn → -9223372036854775808 ≤ zPs nn c 2 (zSt nn c (zAw nn 9 (97 + 5 * l + 1 + 1 + 2) (zCy nn (178 + 1) (97 + 5 * l + 1 + 1 + 1) (zCy nn (178 + 0) (97 + 5 * l + 1 + 1 + 0) L)) 6) 2) 85 i ∧ zPs nn c 2 (zSt nn c (zAw nn 9 (97 + 5 * l + 1 + 1 + 2) (zCy nn (178 + 1) (97 + 5 * l + 1 + 1 + 1) (zCy nn (178 + 0) (97 + 5 * l + 1 + 1 + 0) L)) 6) 2) 85 i < 9223372036854775808) : zCt G M_X_shrink (zR 8 1 6 139) [.ref B, .int (Int32.ofInt (c : Int)), .int (Int32.ofInt (l : Int))] sz (zsys G B kd n t zz ch md tc tg pt L w0) (zdet (some (.int (Int32.ofInt ((zBu (zNz t ((zPL nn c 2 (zSt nn c (zAw nn 9 (97 + 5 * l + 1 + 1 + 2) (zCy nn (178 + 1) (97 + 5 * l + 1 + 1 + 1) (zCy nn (178 + 0) (97 + 5 * l + 1 + 1 + 0) L)) 6) 2)) (182 + 0)) nn) 27 : Nat) : Int)))) (zsys G B kd n t zz ch md tc tg (zpu pt (97 + 5 * c) 2) (zPL nn c 2 (zSt nn c (zAw nn 9 (97 + 5 * l + 1 + 1 + 2) (zCy nn (178 + 1) (97 + 5 * l + 1 + 1 + 1) (zCy nn (178 + 0) (97 + 5 * l + 1 + 1 + 0) L)) 6) 2)) w0) sz) := by
  subst hnn
  refine V_aload_n d_X_shrink_0 rfl ?_
  refine V_iload_n d_X_shrink_1 rfl ?_
  refine V_callV (n := 1) d_X_shrink_2 g_X_139 rfl zsys_x0 rfl (c_placeAt G _ B kd nn t zz ch md tc tg pt L w0 c hc) ⟨co_X_placeAt, by decide +kernel, Nat.le_of_ble_eq_true rfl⟩ ⟨Nat.le_of_ble_eq_true rfl, Nat.le_of_ble_eq_true rfl, Nat.le_of_ble_eq_true rfl, Nat.le_of_ble_eq_true rfl⟩ (Nat.le_of_ble_eq_true rfl) (fun r_2 w_2 s_2 q_2 => ?_) (fun _ _ _ q => False.elim q)
  obtain ⟨rfl, rfl, rfl⟩ := q_2
  refine V_astore_n d_X_shrink_5 (by decide) ?_
  refine V_aload_n d_X_shrink_6 rfl ?_
  refine V_iload_n d_X_shrink_7 rfl ?_
  refine V_callV (n := 1) d_X_shrink_8 g_X_173 rfl zsys_x0 rfl (c_takenAt G _ B kd nn t zz ch md tc tg pt L w0 l hl (by omega)) ⟨co_X_takenAt, by decide +kernel, Nat.le_of_ble_eq_true rfl⟩ ⟨Nat.le_of_ble_eq_true rfl, Nat.le_of_ble_eq_true rfl, Nat.le_of_ble_eq_true rfl, Nat.le_of_ble_eq_true rfl⟩ (Nat.le_of_ble_eq_true rfl) (fun r_8 w_8 s_8 q_8 => ?_) (fun _ _ _ q => False.elim q)
  obtain ⟨rfl, rfl, rfl⟩ := q_8
  refine V_astore d_X_shrink_11 (by decide) ?_
  refine V_aload d_X_shrink_13 rfl ?_
  refine V_getf d_X_shrink_15 ff_X_197 (zsys_at (by omega) (zlay_cip hl)) rfl ?_
  refine V_iconst d_X_shrink_18 ?_
  refine J_icmp_ne 32 d_X_shrink_19 (by decide) (by omega) (by omega) (fun c_19 => ?_) (fun c_19 => absurd c_19 (by omega))
  refine V_aload_n d_X_shrink_32 rfl ?_
  refine V_getf d_X_shrink_33 ff_X_12 zsys_x0 rfl ?_
  refine V_aload_n d_X_shrink_36 rfl ?_
  refine V_getf d_X_shrink_37 ff_X_42 zsys_x0 rfl ?_
  refine V_iconst d_X_shrink_40 ?_
  refine J_aaload d_X_shrink_41 (zsys_at (by decide) rfl) rfl rfl (by omega) (by decide) (show _ = some (B + (178 + 0)) from rfl) ?_
  refine V_aload d_X_shrink_42 rfl ?_
  refine V_getf d_X_shrink_44 ff_X_221 (zsys_at (by omega) (zlay_cip hl)) rfl ?_
  refine V_iconst d_X_shrink_47 ?_
  refine J_aaload d_X_shrink_48 (zsys_at (by omega) (zlay_cir hl)) rfl rfl (by omega) (by decide) (show _ = some (B + (97 + 5 * l + 1 + 1 + 0)) from rfl) ?_
  refine V_callV (n := 2) d_X_shrink_49 g_X_222 rfl zsys_r rfl (c_copy G _ _ (B + 1) (B + 2) kd nn t zz (B + (178 + 0)) (B + (97 + 5 * l + 1 + 1 + 0)) _ _ zsys_r (zsys_row (zir_s (by decide))) (zsys_row (zir_c hl (by decide))) (by omega)) ⟨co_Ring_copy, by decide +kernel, Nat.le_of_ble_eq_true rfl⟩ ⟨Nat.le_of_ble_eq_true rfl, Nat.le_of_ble_eq_true rfl, Nat.le_of_ble_eq_true rfl, Nat.le_of_ble_eq_true rfl⟩ (Nat.le_of_ble_eq_true rfl) (fun r_49 w_49 s_49 q_49 => ?_) (fun _ _ _ q => False.elim q)
  obtain ⟨rfl, rfl, rfl⟩ := q_49
  refine V_w (zsys_lu (zir_s (by decide))) ?_
  refine V_aload_n d_X_shrink_52 rfl ?_
  refine V_getf d_X_shrink_53 ff_X_12 zsys_x0 rfl ?_
  refine V_aload_n d_X_shrink_56 rfl ?_
  refine V_getf d_X_shrink_57 ff_X_42 zsys_x0 rfl ?_
  refine V_iconst d_X_shrink_60 ?_
  refine J_aaload d_X_shrink_61 (zsys_at (by decide) rfl) rfl rfl (by omega) (by decide) (show _ = some (B + (178 + 1)) from rfl) ?_
  refine V_aload d_X_shrink_62 rfl ?_
  refine V_getf d_X_shrink_64 ff_X_221 (zsys_at (by omega) (zlay_cip hl)) rfl ?_
  refine V_iconst d_X_shrink_67 ?_
  refine J_aaload d_X_shrink_68 (zsys_at (by omega) (zlay_cir hl)) rfl rfl (by omega) (by decide) (show _ = some (B + (97 + 5 * l + 1 + 1 + 1)) from rfl) ?_
  refine V_callV (n := 2) d_X_shrink_69 g_X_222 rfl zsys_r rfl (c_copy G _ _ (B + 1) (B + 2) kd nn t zz (B + (178 + 1)) (B + (97 + 5 * l + 1 + 1 + 1)) _ _ zsys_r (zsys_row (zir_s (by decide))) (zsys_row (zir_c hl (by decide))) (by omega)) ⟨co_Ring_copy, by decide +kernel, Nat.le_of_ble_eq_true rfl⟩ ⟨Nat.le_of_ble_eq_true rfl, Nat.le_of_ble_eq_true rfl, Nat.le_of_ble_eq_true rfl, Nat.le_of_ble_eq_true rfl⟩ (Nat.le_of_ble_eq_true rfl) (fun r_69 w_69 s_69 q_69 => ?_) (fun _ _ _ q => False.elim q)
  obtain ⟨rfl, rfl, rfl⟩ := q_69
  refine V_w (zsys_lu (zir_s (by decide))) ?_
  refine V_aload_n d_X_shrink_72 rfl ?_
  refine V_aload_n d_X_shrink_73 rfl ?_
  refine V_getf d_X_shrink_74 ff_X_26 zsys_x0 rfl ?_
  refine V_getf d_X_shrink_77 ff_X_225 zsys_k rfl ?_
  refine V_aload d_X_shrink_80 rfl ?_
  refine V_getf d_X_shrink_82 ff_X_221 (zsys_at (by omega) (zlay_cip hl)) rfl ?_
  refine V_iconst d_X_shrink_85 ?_
  refine J_aaload d_X_shrink_86 (zsys_at (by omega) (zlay_cir hl)) rfl rfl (by omega) (by decide) (show _ = some (B + (97 + 5 * l + 1 + 1 + 2)) from rfl) ?_
  refine V_callV (n := 2) d_X_shrink_87 g_X_229 rfl zsys_x0 rfl (c_applySwitch G _ B kd nn t zz ch md tc tg pt (zCy nn (178 + 1) (97 + 5 * l + 1 + 1 + 1) (zCy nn (178 + 0) (97 + 5 * l + 1 + 1 + 0) L)) w0 nn rfl hn 9 (97 + 5 * l + 1 + 1 + 2) (Or.inl rfl) (zir_c hl (by decide)) (by omega) (by omega) (by omega) (fun i hi => by unfold zCy; rw [zlu_n (by omega), zlu_n (by omega)]; exact hD i hi)) ⟨co_X_applySwitch, by decide +kernel, Nat.le_of_ble_eq_true rfl⟩ ⟨Nat.le_of_ble_eq_true rfl, Nat.le_of_ble_eq_true rfl, Nat.le_of_ble_eq_true rfl, Nat.le_of_ble_eq_true rfl⟩ (Nat.le_of_ble_eq_true rfl) (fun r_87 w_87 s_87 q_87 => ?_) (fun _ _ _ q => False.elim q)
  obtain ⟨rfl, rfl, rfl⟩ := q_87
  refine V_aload_n d_X_shrink_90 rfl ?_
  refine V_aload_n d_X_shrink_91 rfl ?_
  refine V_callV (n := 1) d_X_shrink_92 g_X_169 rfl zsys_x0 rfl (c_storeTwoParts G _ B kd nn t zz ch md tc tg pt (zAw nn 9 (97 + 5 * l + 1 + 1 + 2) (zCy nn (178 + 1) (97 + 5 * l + 1 + 1 + 1) (zCy nn (178 + 0) (97 + 5 * l + 1 + 1 + 0) L)) 6) w0 nn rfl hn c hc ht hR hP (fun i hi => zmul_b ht (zPL_b hi))) ⟨co_X_storeTwoParts, by decide +kernel, Nat.le_of_ble_eq_true rfl⟩ ⟨Nat.le_of_ble_eq_true rfl, Nat.le_of_ble_eq_true rfl, Nat.le_of_ble_eq_true rfl, Nat.le_of_ble_eq_true rfl⟩ (Nat.le_of_ble_eq_true rfl) (fun r_92 w_92 s_92 q_92 => ?_) (fun _ _ _ q => False.elim q)
  obtain ⟨rfl, rfl, rfl⟩ := q_92
  exact V_ireturn d_X_shrink_95 rfl ⟨Nat.le_of_ble_eq_true rfl, Nat.le_of_ble_eq_true rfl⟩ ⟨rfl, rfl, rfl⟩

set_option maxRecDepth 100000 in
set_option maxHeartbeats 4000000 in
theorem c_turn_c (G : zG) (sz B : Nat) (kd n t zz : Int) (ch : Int32) (md tc : Int) (tg pt : Nat → Int) (L : Nat → Int → Int) (w0 : zW) (c : Int) (hc : -2147483648 ≤ c ∧ c < 2147483648) (hb : c < 0 ∨ 16 ≤ c) (l g : Int) : zCt G M_X_turn (zR 8 1 6 139) [.ref B, .int (Int32.ofInt c), .int (Int32.ofInt l), .int (Int32.ofInt g)] sz (zsys G B kd n t zz ch md tc tg pt L w0) (zOut (.inr zNSE) (zsys G B kd n t zz ch md tc tg pt L w0) (sz + 1)) := by
  refine V_aload_n d_X_turn_0 rfl ?_
  refine V_iload_n d_X_turn_1 rfl ?_
  refine V_callV (n := 1) d_X_turn_2 g_X_139 rfl zsys_x0 rfl (c_placeAt_no G _ B kd n t zz ch md tc tg pt L w0 c hc hb) ⟨co_X_placeAt, by decide +kernel, Nat.le_of_ble_eq_true rfl⟩ ⟨Nat.le_of_ble_eq_true rfl, Nat.le_of_ble_eq_true rfl, Nat.le_of_ble_eq_true rfl, Nat.le_of_ble_eq_true rfl⟩ (Nat.le_of_ble_eq_true rfl) (fun r_2 w_2 s_2 q_2 => ?_) (fun _ _ _ q => ⟨⟨Nat.le_of_ble_eq_true rfl, Nat.le_of_ble_eq_true rfl⟩, q⟩)
  cases q_2.1

set_option maxRecDepth 100000 in
set_option maxHeartbeats 4000000 in
theorem c_turn_l (G : zG) (sz B : Nat) (kd n t zz : Int) (ch : Int32) (md tc : Int) (tg pt : Nat → Int) (L : Nat → Int → Int) (w0 : zW) (c : Nat) (hc : c < 16) (l : Int) (hl : -2147483648 ≤ l ∧ l < 2147483648) (hb : l < 0 ∨ 16 ≤ l) (g : Int) : zCt G M_X_turn (zR 8 1 6 139) [.ref B, .int (Int32.ofInt (c : Int)), .int (Int32.ofInt l), .int (Int32.ofInt g)] sz (zsys G B kd n t zz ch md tc tg pt L w0) (zOut (.inr zNSE) (zsys G B kd n t zz ch md tc tg pt L w0) (sz + 1)) := by
  refine V_aload_n d_X_turn_0 rfl ?_
  refine V_iload_n d_X_turn_1 rfl ?_
  refine V_callV (n := 1) d_X_turn_2 g_X_139 rfl zsys_x0 rfl (c_placeAt G _ B kd n t zz ch md tc tg pt L w0 c hc) ⟨co_X_placeAt, by decide +kernel, Nat.le_of_ble_eq_true rfl⟩ ⟨Nat.le_of_ble_eq_true rfl, Nat.le_of_ble_eq_true rfl, Nat.le_of_ble_eq_true rfl, Nat.le_of_ble_eq_true rfl⟩ (Nat.le_of_ble_eq_true rfl) (fun r_2 w_2 s_2 q_2 => ?_) (fun _ _ _ q => False.elim q)
  obtain ⟨rfl, rfl, rfl⟩ := q_2
  refine V_astore d_X_turn_5 (by decide) ?_
  refine V_aload_n d_X_turn_7 rfl ?_
  refine V_iload_n d_X_turn_8 rfl ?_
  refine V_callV (n := 1) d_X_turn_9 g_X_173 rfl zsys_x0 rfl (c_takenAt_no G _ B kd n t zz ch md tc tg pt L w0 l hl hb) ⟨co_X_takenAt, by decide +kernel, Nat.le_of_ble_eq_true rfl⟩ ⟨Nat.le_of_ble_eq_true rfl, Nat.le_of_ble_eq_true rfl, Nat.le_of_ble_eq_true rfl, Nat.le_of_ble_eq_true rfl⟩ (Nat.le_of_ble_eq_true rfl) (fun r_9 w_9 s_9 q_9 => ?_) (fun _ _ _ q => ⟨⟨Nat.le_of_ble_eq_true rfl, Nat.le_of_ble_eq_true rfl⟩, q⟩)
  cases q_9.1

set_option maxRecDepth 100000 in
set_option maxHeartbeats 4000000 in
theorem c_turn_le (G : zG) (sz B : Nat) (kd n t zz : Int) (ch : Int32) (md tc : Int) (tg pt : Nat → Int) (L : Nat → Int → Int) (w0 : zW) (c : Nat) (hc : c < 16) (l : Nat) (hl : l < 16) (he : pt (97 + 5 * l) = 0) (g : Int) : zCt G M_X_turn (zR 8 1 6 139) [.ref B, .int (Int32.ofInt (c : Int)), .int (Int32.ofInt (l : Int)), .int (Int32.ofInt g)] sz (zsys G B kd n t zz ch md tc tg pt L w0) (zOut (.inr zNSE) (zsys G B kd n t zz ch md tc tg pt L w0) (sz + 1)) := by
  refine V_aload_n d_X_turn_0 rfl ?_
  refine V_iload_n d_X_turn_1 rfl ?_
  refine V_callV (n := 1) d_X_turn_2 g_X_139 rfl zsys_x0 rfl (c_placeAt G _ B kd n t zz ch md tc tg pt L w0 c hc) ⟨co_X_placeAt, by decide +kernel, Nat.le_of_ble_eq_true rfl⟩ ⟨Nat.le_of_ble_eq_true rfl, Nat.le_of_ble_eq_true rfl, Nat.le_of_ble_eq_true rfl, Nat.le_of_ble_eq_true rfl⟩ (Nat.le_of_ble_eq_true rfl) (fun r_2 w_2 s_2 q_2 => ?_) (fun _ _ _ q => False.elim q)
  obtain ⟨rfl, rfl, rfl⟩ := q_2
  refine V_astore d_X_turn_5 (by decide) ?_
  refine V_aload_n d_X_turn_7 rfl ?_
  refine V_iload_n d_X_turn_8 rfl ?_
  refine V_callV (n := 1) d_X_turn_9 g_X_173 rfl zsys_x0 rfl (c_takenAt_em G _ B kd n t zz ch md tc tg pt L w0 l hl he) ⟨co_X_takenAt, by decide +kernel, Nat.le_of_ble_eq_true rfl⟩ ⟨Nat.le_of_ble_eq_true rfl, Nat.le_of_ble_eq_true rfl, Nat.le_of_ble_eq_true rfl, Nat.le_of_ble_eq_true rfl⟩ (Nat.le_of_ble_eq_true rfl) (fun r_9 w_9 s_9 q_9 => ?_) (fun _ _ _ q => ⟨⟨Nat.le_of_ble_eq_true rfl, Nat.le_of_ble_eq_true rfl⟩, q⟩)
  cases q_9.1

set_option maxRecDepth 100000 in
set_option maxHeartbeats 4000000 in
theorem c_turn_g (G : zG) (sz B : Nat) (kd n t zz : Int) (ch : Int32) (md tc : Int) (tg pt : Nat → Int) (L : Nat → Int → Int) (w0 : zW) (c : Nat) (hc : c < 16) (l : Nat) (hl : l < 16) (hfl : 0 < pt (97 + 5 * l) ∧ pt (97 + 5 * l) ≤ 3) (g : Int) (hg : -2147483648 ≤ g ∧ g < 2147483648) (htc : 0 ≤ tc ∧ tc ≤ 4) (htg : ∀ p : Nat, p < 4 → -2147483648 ≤ tg (25 + 15 * p) ∧ tg (25 + 15 * p) < 2147483648) (p : Nat) (hpl : zplc tg tc g 5 0 = p) (hb : (p : Int) = tc) : zCt G M_X_turn (zR 8 1 6 139) [.ref B, .int (Int32.ofInt (c : Int)), .int (Int32.ofInt (l : Int)), .int (Int32.ofInt g)] sz (zsys G B kd n t zz ch md tc tg pt L w0) (zOut (.inr zISE) (zsys G B kd n t zz ch md tc tg pt L w0) (sz + 1)) := by
  refine V_aload_n d_X_turn_0 rfl ?_
  refine V_iload_n d_X_turn_1 rfl ?_
  refine V_callV (n := 1) d_X_turn_2 g_X_139 rfl zsys_x0 rfl (c_placeAt G _ B kd n t zz ch md tc tg pt L w0 c hc) ⟨co_X_placeAt, by decide +kernel, Nat.le_of_ble_eq_true rfl⟩ ⟨Nat.le_of_ble_eq_true rfl, Nat.le_of_ble_eq_true rfl, Nat.le_of_ble_eq_true rfl, Nat.le_of_ble_eq_true rfl⟩ (Nat.le_of_ble_eq_true rfl) (fun r_2 w_2 s_2 q_2 => ?_) (fun _ _ _ q => False.elim q)
  obtain ⟨rfl, rfl, rfl⟩ := q_2
  refine V_astore d_X_turn_5 (by decide) ?_
  refine V_aload_n d_X_turn_7 rfl ?_
  refine V_iload_n d_X_turn_8 rfl ?_
  refine V_callV (n := 1) d_X_turn_9 g_X_173 rfl zsys_x0 rfl (c_takenAt G _ B kd n t zz ch md tc tg pt L w0 l hl hfl) ⟨co_X_takenAt, by decide +kernel, Nat.le_of_ble_eq_true rfl⟩ ⟨Nat.le_of_ble_eq_true rfl, Nat.le_of_ble_eq_true rfl, Nat.le_of_ble_eq_true rfl, Nat.le_of_ble_eq_true rfl⟩ (Nat.le_of_ble_eq_true rfl) (fun r_9 w_9 s_9 q_9 => ?_) (fun _ _ _ q => False.elim q)
  obtain ⟨rfl, rfl, rfl⟩ := q_9
  refine V_astore d_X_turn_12 (by decide) ?_
  refine V_aload_n d_X_turn_14 rfl ?_
  refine V_getf d_X_turn_15 ff_X_26 zsys_x0 rfl ?_
  refine V_iload_n d_X_turn_18 rfl ?_
  refine V_callV (n := 1) d_X_turn_19 g_X_97 rfl zsys_k rfl (c_placeOfTurn G _ B kd n t zz ch md tc tg pt L w0 g hg htc htg) ⟨co_KeyRing_placeOfTurn, by decide +kernel, Nat.le_of_ble_eq_true rfl⟩ ⟨Nat.le_of_ble_eq_true rfl, Nat.le_of_ble_eq_true rfl, Nat.le_of_ble_eq_true rfl, Nat.le_of_ble_eq_true rfl⟩ (Nat.le_of_ble_eq_true rfl) (fun r_19 w_19 s_19 q_19 => ?_) (fun _ _ _ q => False.elim q)
  obtain ⟨rfl, rfl, rfl⟩ := q_19
  rw [hpl]
  refine V_istore d_X_turn_22 (by decide) ?_
  refine V_iload d_X_turn_24 rfl ?_
  refine V_aload_n d_X_turn_26 rfl ?_
  refine V_getf d_X_turn_27 ff_X_26 zsys_x0 rfl ?_
  refine V_getf d_X_turn_30 ff_X_107 zsys_k rfl ?_
  refine J_icmp_ne 46 d_X_turn_33 (by decide) (by omega) (by omega) (fun c_33 => absurd hb c_33) (fun c_33 => ?_)
  exact V_throwS (tx := "no such turn") d_X_turn_36 d_X_turn_39 (Or.inl ⟨d_X_turn_40, rfl⟩) d_X_turn_42 d_X_turn_45 rfl (by decide) rfl (Nat.le_of_ble_eq_true rfl) (Nat.le_of_ble_eq_true rfl) (Nat.le_of_ble_eq_true rfl) (Nat.le_of_ble_eq_true rfl) ⟨Nat.le_of_ble_eq_true rfl, Nat.le_of_ble_eq_true rfl⟩ ⟨rfl, rfl, rfl⟩

set_option maxRecDepth 100000 in
set_option maxHeartbeats 4000000 in
theorem c_turn_3 (G : zG) (sz B : Nat) (kd n t zz : Int) (ch : Int32) (md tc : Int) (tg pt : Nat → Int) (L : Nat → Int → Int) (w0 : zW) (c : Nat) (hc : c < 16) (l : Nat) (hl : l < 16) (hfl : 0 < pt (97 + 5 * l) ∧ pt (97 + 5 * l) ≤ 3) (g : Int) (hg : -2147483648 ≤ g ∧ g < 2147483648) (htc : 0 ≤ tc ∧ tc ≤ 4) (htg : ∀ p : Nat, p < 4 → -2147483648 ≤ tg (25 + 15 * p) ∧ tg (25 + 15 * p) < 2147483648) (p : Nat) (hpl : zplc tg tc g 5 0 = p) (hne : (p : Int) < tc) (hb : pt (97 + 5 * l) = 3) : zCt G M_X_turn (zR 8 1 6 139) [.ref B, .int (Int32.ofInt (c : Int)), .int (Int32.ofInt (l : Int)), .int (Int32.ofInt g)] sz (zsys G B kd n t zz ch md tc tg pt L w0) (zOut (.inr zISE) (zsys G B kd n t zz ch md tc tg pt L w0) (sz + 1)) := by
  refine V_aload_n d_X_turn_0 rfl ?_
  refine V_iload_n d_X_turn_1 rfl ?_
  refine V_callV (n := 1) d_X_turn_2 g_X_139 rfl zsys_x0 rfl (c_placeAt G _ B kd n t zz ch md tc tg pt L w0 c hc) ⟨co_X_placeAt, by decide +kernel, Nat.le_of_ble_eq_true rfl⟩ ⟨Nat.le_of_ble_eq_true rfl, Nat.le_of_ble_eq_true rfl, Nat.le_of_ble_eq_true rfl, Nat.le_of_ble_eq_true rfl⟩ (Nat.le_of_ble_eq_true rfl) (fun r_2 w_2 s_2 q_2 => ?_) (fun _ _ _ q => False.elim q)
  obtain ⟨rfl, rfl, rfl⟩ := q_2
  refine V_astore d_X_turn_5 (by decide) ?_
  refine V_aload_n d_X_turn_7 rfl ?_
  refine V_iload_n d_X_turn_8 rfl ?_
  refine V_callV (n := 1) d_X_turn_9 g_X_173 rfl zsys_x0 rfl (c_takenAt G _ B kd n t zz ch md tc tg pt L w0 l hl hfl) ⟨co_X_takenAt, by decide +kernel, Nat.le_of_ble_eq_true rfl⟩ ⟨Nat.le_of_ble_eq_true rfl, Nat.le_of_ble_eq_true rfl, Nat.le_of_ble_eq_true rfl, Nat.le_of_ble_eq_true rfl⟩ (Nat.le_of_ble_eq_true rfl) (fun r_9 w_9 s_9 q_9 => ?_) (fun _ _ _ q => False.elim q)
  obtain ⟨rfl, rfl, rfl⟩ := q_9
  refine V_astore d_X_turn_12 (by decide) ?_
  refine V_aload_n d_X_turn_14 rfl ?_
  refine V_getf d_X_turn_15 ff_X_26 zsys_x0 rfl ?_
  refine V_iload_n d_X_turn_18 rfl ?_
  refine V_callV (n := 1) d_X_turn_19 g_X_97 rfl zsys_k rfl (c_placeOfTurn G _ B kd n t zz ch md tc tg pt L w0 g hg htc htg) ⟨co_KeyRing_placeOfTurn, by decide +kernel, Nat.le_of_ble_eq_true rfl⟩ ⟨Nat.le_of_ble_eq_true rfl, Nat.le_of_ble_eq_true rfl, Nat.le_of_ble_eq_true rfl, Nat.le_of_ble_eq_true rfl⟩ (Nat.le_of_ble_eq_true rfl) (fun r_19 w_19 s_19 q_19 => ?_) (fun _ _ _ q => False.elim q)
  obtain ⟨rfl, rfl, rfl⟩ := q_19
  rw [hpl]
  refine V_istore d_X_turn_22 (by decide) ?_
  refine V_iload d_X_turn_24 rfl ?_
  refine V_aload_n d_X_turn_26 rfl ?_
  refine V_getf d_X_turn_27 ff_X_26 zsys_x0 rfl ?_
  refine V_getf d_X_turn_30 ff_X_107 zsys_k rfl ?_
  refine J_icmp_ne 46 d_X_turn_33 (by decide) (by omega) (by omega) (fun c_33 => ?_) (fun c_33 => absurd c_33 (by omega))
  refine V_aload d_X_turn_46 rfl ?_
  refine V_getf d_X_turn_48 ff_X_197 (zsys_at (by omega) (zlay_cip hl)) rfl ?_
  refine V_iconst d_X_turn_51 ?_
  refine J_icmp_ne 65 d_X_turn_52 (by decide) (by omega) (by omega) (fun c_52 => absurd hb c_52) (fun c_52 => ?_)
  exact V_throwS (tx := "a turn of three parts") d_X_turn_55 d_X_turn_58 (Or.inl ⟨d_X_turn_59, rfl⟩) d_X_turn_61 d_X_turn_64 rfl (by decide) rfl (Nat.le_of_ble_eq_true rfl) (Nat.le_of_ble_eq_true rfl) (Nat.le_of_ble_eq_true rfl) (Nat.le_of_ble_eq_true rfl) ⟨Nat.le_of_ble_eq_true rfl, Nat.le_of_ble_eq_true rfl⟩ ⟨rfl, rfl, rfl⟩

set_option maxRecDepth 100000 in
set_option maxHeartbeats 4000000 in
theorem c_turn (G : zG) (sz B : Nat) (kd n t zz : Int) (ch : Int32) (md tc : Int) (tg pt : Nat → Int) (L : Nat → Int → Int) (w0 : zW) (nn : Nat) (hnn : n = (nn : Int)) (hn : nn ≤ 32) (c : Nat) (hc : c < 16) (l : Nat) (hl : l < 16) (hfl : 0 < pt (97 + 5 * l) ∧ pt (97 + 5 * l) ≤ 3) (g : Int) (hg : -2147483648 ≤ g ∧ g < 2147483648) (htc : 0 ≤ tc ∧ tc ≤ 4) (htg : ∀ p : Nat, p < 4 → -2147483648 ≤ tg (25 + 15 * p) ∧ tg (25 + 15 * p) < 2147483648) (p : Nat) (hpl : zplc tg tc g 5 0 = p) (hne : (p : Int) < tc) (h3 : ¬ pt (97 + 5 * l) = 3) (ht : 0 < t ∧ t ≤ 1000) (hgg : 0 ≤ g ∧ g ≤ 64) (hS : ∀ q : Nat, q < 2 → ∀ i : Nat, i < nn → -9223372036854775808 < L (97 + 5 * l + 1 + 1 + q) i ∧ L (97 + 5 * l + 1 + 1 + q) i < 9223372036854775808) (hD : ∀ i : Nat, i < nn → 0 ≤ (zFl (178 + 1) 0 (zSs nn (182 + 0) (97 + 5 * l + 1 + 1 + 1) g (zSs nn (178 + 0) (97 + 5 * l + 1 + 1 + 0) g L))) (182 + 0) i ∧ (zFl (178 + 1) 0 (zSs nn (182 + 0) (97 + 5 * l + 1 + 1 + 1) g (zSs nn (178 + 0) (97 + 5 * l + 1 + 1 + 0) g L))) (182 + 0) i < 268435456) (hR : ∀ k : Nat, k < 2 → ∀ i : Nat, i < nn → -9223372036854775808 ≤ (zAw nn (25 + 15 * p) (182 + 0) (zFl (178 + 1) 0 (zSs nn (182 + 0) (97 + 5 * l + 1 + 1 + 1) g (zSs nn (178 + 0) (97 + 5 * l + 1 + 1 + 0) g L))) 6) (178 + k) i ∧ (zAw nn (25 + 15 * p) (182 + 0) (zFl (178 + 1) 0 (zSs nn (182 + 0) (97 + 5 * l + 1 + 1 + 1) g (zSs nn (178 + 0) (97 + 5 * l + 1 + 1 + 0) g L))) 6) (178 + k) i < 9223372036854775808) (hP : ∀ i : Nat, i < nn → -9223372036854775808 ≤ zPs nn c 2 (zSt nn c (zAw nn (25 + 15 * p) (182 + 0) (zFl (178 + 1) 0 (zSs nn (182 + 0) (97 + 5 * l + 1 + 1 + 1) g (zSs nn (178 + 0) (97 + 5 * l + 1 + 1 + 0) g L))) 6) 2) 85 i ∧ zPs nn c 2 (zSt nn c (zAw nn (25 + 15 * p) (182 + 0) (zFl (178 + 1) 0 (zSs nn (182 + 0) (97 + 5 * l + 1 + 1 + 1) g (zSs nn (178 + 0) (97 + 5 * l + 1 + 1 + 0) g L))) 6) 2) 85 i < 9223372036854775808) : zCt G M_X_turn (zR 8 1 6 139) [.ref B, .int (Int32.ofInt (c : Int)), .int (Int32.ofInt (l : Int)), .int (Int32.ofInt g)] sz (zsys G B kd n t zz ch md tc tg pt L w0) (zdet (some (.int (Int32.ofInt ((zBu (zNz t ((zPL nn c 2 (zSt nn c (zAw nn (25 + 15 * p) (182 + 0) (zFl (178 + 1) 0 (zSs nn (182 + 0) (97 + 5 * l + 1 + 1 + 1) g (zSs nn (178 + 0) (97 + 5 * l + 1 + 1 + 0) g L))) 6) 2)) (182 + 0)) nn) 27 : Nat) : Int)))) (zsys G B kd n t zz ch md tc tg (zpu pt (97 + 5 * c) 2) (zPL nn c 2 (zSt nn c (zAw nn (25 + 15 * p) (182 + 0) (zFl (178 + 1) 0 (zSs nn (182 + 0) (97 + 5 * l + 1 + 1 + 1) g (zSs nn (178 + 0) (97 + 5 * l + 1 + 1 + 0) g L))) 6) 2)) w0) sz) := by
  subst hnn
  refine V_aload_n d_X_turn_0 rfl ?_
  refine V_iload_n d_X_turn_1 rfl ?_
  refine V_callV (n := 1) d_X_turn_2 g_X_139 rfl zsys_x0 rfl (c_placeAt G _ B kd nn t zz ch md tc tg pt L w0 c hc) ⟨co_X_placeAt, by decide +kernel, Nat.le_of_ble_eq_true rfl⟩ ⟨Nat.le_of_ble_eq_true rfl, Nat.le_of_ble_eq_true rfl, Nat.le_of_ble_eq_true rfl, Nat.le_of_ble_eq_true rfl⟩ (Nat.le_of_ble_eq_true rfl) (fun r_2 w_2 s_2 q_2 => ?_) (fun _ _ _ q => False.elim q)
  obtain ⟨rfl, rfl, rfl⟩ := q_2
  refine V_astore d_X_turn_5 (by decide) ?_
  refine V_aload_n d_X_turn_7 rfl ?_
  refine V_iload_n d_X_turn_8 rfl ?_
  refine V_callV (n := 1) d_X_turn_9 g_X_173 rfl zsys_x0 rfl (c_takenAt G _ B kd nn t zz ch md tc tg pt L w0 l hl hfl) ⟨co_X_takenAt, by decide +kernel, Nat.le_of_ble_eq_true rfl⟩ ⟨Nat.le_of_ble_eq_true rfl, Nat.le_of_ble_eq_true rfl, Nat.le_of_ble_eq_true rfl, Nat.le_of_ble_eq_true rfl⟩ (Nat.le_of_ble_eq_true rfl) (fun r_9 w_9 s_9 q_9 => ?_) (fun _ _ _ q => False.elim q)
  obtain ⟨rfl, rfl, rfl⟩ := q_9
  refine V_astore d_X_turn_12 (by decide) ?_
  refine V_aload_n d_X_turn_14 rfl ?_
  refine V_getf d_X_turn_15 ff_X_26 zsys_x0 rfl ?_
  refine V_iload_n d_X_turn_18 rfl ?_
  refine V_callV (n := 1) d_X_turn_19 g_X_97 rfl zsys_k rfl (c_placeOfTurn G _ B kd nn t zz ch md tc tg pt L w0 g hg htc htg) ⟨co_KeyRing_placeOfTurn, by decide +kernel, Nat.le_of_ble_eq_true rfl⟩ ⟨Nat.le_of_ble_eq_true rfl, Nat.le_of_ble_eq_true rfl, Nat.le_of_ble_eq_true rfl, Nat.le_of_ble_eq_true rfl⟩ (Nat.le_of_ble_eq_true rfl) (fun r_19 w_19 s_19 q_19 => ?_) (fun _ _ _ q => False.elim q)
  obtain ⟨rfl, rfl, rfl⟩ := q_19
  rw [hpl]
  refine V_istore d_X_turn_22 (by decide) ?_
  refine V_iload d_X_turn_24 rfl ?_
  refine V_aload_n d_X_turn_26 rfl ?_
  refine V_getf d_X_turn_27 ff_X_26 zsys_x0 rfl ?_
  refine V_getf d_X_turn_30 ff_X_107 zsys_k rfl ?_
  refine J_icmp_ne 46 d_X_turn_33 (by decide) (by omega) (by omega) (fun c_33 => ?_) (fun c_33 => absurd c_33 (by omega))
  refine V_aload d_X_turn_46 rfl ?_
  refine V_getf d_X_turn_48 ff_X_197 (zsys_at (by omega) (zlay_cip hl)) rfl ?_
  refine V_iconst d_X_turn_51 ?_
  refine J_icmp_ne 65 d_X_turn_52 (by decide) (by omega) (by omega) (fun c_52 => ?_) (fun c_52 => absurd c_52 (by omega))
  refine V_aload_n d_X_turn_65 rfl ?_
  refine V_getf d_X_turn_66 ff_X_45 zsys_x0 rfl ?_
  refine V_iconst d_X_turn_69 ?_
  refine J_aaload d_X_turn_70 (zsys_at (by decide) rfl) rfl rfl (by omega) (by decide) (show _ = some (B + (182 + 0)) from rfl) ?_
  refine V_astore d_X_turn_71 (by decide) ?_
  refine V_aload_n d_X_turn_73 rfl ?_
  refine V_getf d_X_turn_74 ff_X_12 zsys_x0 rfl ?_
  refine V_aload_n d_X_turn_77 rfl ?_
  refine V_getf d_X_turn_78 ff_X_42 zsys_x0 rfl ?_
  refine V_iconst d_X_turn_81 ?_
  refine J_aaload d_X_turn_82 (zsys_at (by decide) rfl) rfl rfl (by omega) (by decide) (show _ = some (B + (178 + 0)) from rfl) ?_
  refine V_aload d_X_turn_83 rfl ?_
  refine V_getf d_X_turn_85 ff_X_221 (zsys_at (by omega) (zlay_cip hl)) rfl ?_
  refine V_iconst d_X_turn_88 ?_
  refine J_aaload d_X_turn_89 (zsys_at (by omega) (zlay_cir hl)) rfl rfl (by omega) (by decide) (show _ = some (B + (97 + 5 * l + 1 + 1 + 0)) from rfl) ?_
  refine V_iload_n d_X_turn_90 rfl ?_
  refine V_callV (n := 3) d_X_turn_91 g_X_235 rfl zsys_r rfl (c_substitute G _ _ (B + 1) (B + 2) kd nn t zz (B + (178 + 0)) (B + (97 + 5 * l + 1 + 1 + 0)) nn g _ _ zsys_r (zsys_row (zir_s (by decide))) (zsys_row (zir_c hl (by decide))) (by omega) rfl hn hgg (hS 0 (by decide))) ⟨co_Ring_substitute, by decide +kernel, Nat.le_of_ble_eq_true rfl⟩ ⟨Nat.le_of_ble_eq_true rfl, Nat.le_of_ble_eq_true rfl, Nat.le_of_ble_eq_true rfl, Nat.le_of_ble_eq_true rfl⟩ (Nat.le_of_ble_eq_true rfl) (fun r_91 w_91 s_91 q_91 => ?_) (fun _ _ _ q => False.elim q)
  obtain ⟨rfl, rfl, rfl⟩ := q_91
  refine V_w (zsys_lu (zir_s (by decide))) ?_
  refine V_aload_n d_X_turn_94 rfl ?_
  refine V_getf d_X_turn_95 ff_X_12 zsys_x0 rfl ?_
  refine V_aload d_X_turn_98 rfl ?_
  refine V_aload d_X_turn_100 rfl ?_
  refine V_getf d_X_turn_102 ff_X_221 (zsys_at (by omega) (zlay_cip hl)) rfl ?_
  refine V_iconst d_X_turn_105 ?_
  refine J_aaload d_X_turn_106 (zsys_at (by omega) (zlay_cir hl)) rfl rfl (by omega) (by decide) (show _ = some (B + (97 + 5 * l + 1 + 1 + 1)) from rfl) ?_
  refine V_iload_n d_X_turn_107 rfl ?_
  refine V_callV (n := 3) d_X_turn_108 g_X_235 rfl zsys_r rfl (c_substitute G _ _ (B + 1) (B + 2) kd nn t zz (B + (182 + 0)) (B + (97 + 5 * l + 1 + 1 + 1)) nn g _ _ zsys_r (zsys_row (zir_w (by decide))) (zsys_row (zir_c hl (by decide))) (by omega) rfl hn hgg (fun i hi => by rw [zlu_n (by omega)]; exact hS 1 (by decide) i hi)) ⟨co_Ring_substitute, by decide +kernel, Nat.le_of_ble_eq_true rfl⟩ ⟨Nat.le_of_ble_eq_true rfl, Nat.le_of_ble_eq_true rfl, Nat.le_of_ble_eq_true rfl, Nat.le_of_ble_eq_true rfl⟩ (Nat.le_of_ble_eq_true rfl) (fun r_108 w_108 s_108 q_108 => ?_) (fun _ _ _ q => False.elim q)
  obtain ⟨rfl, rfl, rfl⟩ := q_108
  refine V_w (zsys_lu (zir_w (by decide))) ?_
  refine V_aload_n d_X_turn_111 rfl ?_
  refine V_getf d_X_turn_112 ff_X_42 zsys_x0 rfl ?_
  refine V_iconst d_X_turn_115 ?_
  refine J_aaload d_X_turn_116 (zsys_at (by decide) rfl) rfl rfl (by omega) (by decide) (show _ = some (B + (178 + 1)) from rfl) ?_
  refine J_lconst (z := 0) d_X_turn_117 rfl ?_
  refine V_callS (n := 2) d_X_turn_118 g_X_72 rfl (c_fill G _ _ (B + (178 + 1)) 32 0 _ (zsys_row (zir_s (by decide))) (by decide)) ⟨co_Arrays_fill, by decide +kernel, Nat.le_of_ble_eq_true rfl⟩ ⟨Nat.le_of_ble_eq_true rfl, Nat.le_of_ble_eq_true rfl, Nat.le_of_ble_eq_true rfl, Nat.le_of_ble_eq_true rfl⟩ (Nat.le_of_ble_eq_true rfl) (fun r_118 w_118 s_118 q_118 => ?_) (fun _ _ _ q => False.elim q)
  obtain ⟨rfl, rfl, rfl⟩ := q_118
  refine V_w (zsys_lu (zir_s (by decide))) ?_
  refine V_aload_n d_X_turn_121 rfl ?_
  refine V_aload_n d_X_turn_122 rfl ?_
  refine V_getf d_X_turn_123 ff_X_26 zsys_x0 rfl ?_
  refine V_getf d_X_turn_126 ff_X_239 zsys_k rfl ?_
  refine V_iload d_X_turn_129 rfl ?_
  refine J_aaload d_X_turn_131 (zsys_at (by decide) rfl) rfl rfl (by omega) (by decide) ((zel (a := fun k => B + (25 + 15 * k)) (show p < 4 by omega)).trans rfl : _ = some (B + (25 + 15 * p))) ?_
  refine V_aload d_X_turn_132 rfl ?_
  refine V_callV (n := 2) d_X_turn_134 g_X_229 rfl zsys_x0 rfl (c_applySwitch G _ B kd nn t zz ch md tc tg pt (zFl (178 + 1) 0 (zSs nn (182 + 0) (97 + 5 * l + 1 + 1 + 1) g (zSs nn (178 + 0) (97 + 5 * l + 1 + 1 + 0) g L))) w0 nn rfl hn (25 + 15 * p) (182 + 0) (by omega) (zir_w (by decide)) (by decide) (by decide) (by decide) hD) ⟨co_X_applySwitch, by decide +kernel, Nat.le_of_ble_eq_true rfl⟩ ⟨Nat.le_of_ble_eq_true rfl, Nat.le_of_ble_eq_true rfl, Nat.le_of_ble_eq_true rfl, Nat.le_of_ble_eq_true rfl⟩ (Nat.le_of_ble_eq_true rfl) (fun r_134 w_134 s_134 q_134 => ?_) (fun _ _ _ q => False.elim q)
  obtain ⟨rfl, rfl, rfl⟩ := q_134
  refine V_aload_n d_X_turn_137 rfl ?_
  refine V_aload d_X_turn_138 rfl ?_
  refine V_callV (n := 1) d_X_turn_140 g_X_169 rfl zsys_x0 rfl (c_storeTwoParts G _ B kd nn t zz ch md tc tg pt (zAw nn (25 + 15 * p) (182 + 0) (zFl (178 + 1) 0 (zSs nn (182 + 0) (97 + 5 * l + 1 + 1 + 1) g (zSs nn (178 + 0) (97 + 5 * l + 1 + 1 + 0) g L))) 6) w0 nn rfl hn c hc ht hR hP (fun i hi => zmul_b ht (zPL_b hi))) ⟨co_X_storeTwoParts, by decide +kernel, Nat.le_of_ble_eq_true rfl⟩ ⟨Nat.le_of_ble_eq_true rfl, Nat.le_of_ble_eq_true rfl, Nat.le_of_ble_eq_true rfl, Nat.le_of_ble_eq_true rfl⟩ (Nat.le_of_ble_eq_true rfl) (fun r_140 w_140 s_140 q_140 => ?_) (fun _ _ _ q => False.elim q)
  obtain ⟨rfl, rfl, rfl⟩ := q_140
  exact V_ireturn d_X_turn_143 rfl ⟨Nat.le_of_ble_eq_true rfl, Nat.le_of_ble_eq_true rfl⟩ ⟨rfl, rfl, rfl⟩

