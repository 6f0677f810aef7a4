set_option maxRecDepth 100000 in
set_option maxHeartbeats 4000000 in
theorem r_shrink_c (G : zG) (sz C : Nat) (th kd n t tu : Int) (ch : Int32) (ke : Int) (L : Nat → Int → Int) (w0 : zW) (c : Int) (hc : -2147483648 ≤ c ∧ c < 2147483648) (hb : c < 0 ∨ 15 < c) (l : Int) : zCt G M_Ref_shrink (zR 5 0 0 125) [.ref C, .int (Int32.ofInt c), .int (Int32.ofInt l)] sz (zqs G C th kd n t tu ch ke L w0) (zdet (some (.int (Int32.ofInt 0))) (zqs G C 1 kd n t tu ch ke L w0) sz) := by
  refine V_aload_n d_Ref_shrink_0 rfl ?_
  refine V_iload_n d_Ref_shrink_1 rfl ?_
  refine V_callS (n := 1) d_Ref_shrink_2 g_Ref_138 rfl (r_noCipher_y G _ _ c hc hb) ⟨co_Ref_noCipher, by decide +kernel, Nat.le_of_ble_eq_true rfl⟩ ⟨Nat.le_of_ble_eq_true rfl, Nat.le_of_ble_eq_true rfl, Nat.le_of_ble_eq_true rfl, Nat.le_of_ble_eq_true rfl⟩ (Nat.le_of_ble_eq_true rfl) (fun r_2 w_2 s_2 q_2 => ?_) (fun _ _ _ q => False.elim q)
  obtain ⟨rfl, rfl, rfl⟩ := q_2
  refine J_if_ne 16 d_Ref_shrink_5 (by decide) (by decide) (fun c_5 => ?_) (fun c_5 => absurd c_5 (by decide))
  refine V_iconst d_Ref_shrink_16 ?_
  refine V_goto 35 d_Ref_shrink_17 (by decide) ?_
  refine V_putf d_Ref_shrink_35 ff_Ref_69 zqs_o ⟨_, _, _, _, rfl, rfl, rfl, rfl, rfl⟩ (Nat.le_of_ble_eq_true rfl) ?_
  refine V_w (zqs_f (th' := 1) rfl) ?_
  refine V_aload_n d_Ref_shrink_38 rfl ?_
  refine V_getf d_Ref_shrink_39 ff_Ref_69 zqs_o rfl ?_
  refine J_if_le 47 d_Ref_shrink_42 (by decide) (by decide) (fun c_42 => absurd c_42 (by decide)) (fun c_42 => ?_)
  refine V_iconst d_Ref_shrink_45 ?_
  exact V_ireturn d_Ref_shrink_46 rfl ⟨Nat.le_of_ble_eq_true rfl, Nat.le_of_ble_eq_true rfl⟩ ⟨rfl, rfl, rfl⟩

set_option maxRecDepth 100000 in
set_option maxHeartbeats 4000000 in
theorem r_shrink_l (G : zG) (sz C : Nat) (th kd n t tu : Int) (ch : Int32) (ke : Int) (L : Nat → Int → Int) (w0 : zW) (c : Nat) (hc : c < 16) (l : Int) (hl : -2147483648 ≤ l ∧ l < 2147483648) (hb : l < 0 ∨ 15 < l) : zCt G M_Ref_shrink (zR 5 0 0 125) [.ref C, .int (Int32.ofInt (c : Int)), .int (Int32.ofInt l)] sz (zqs G C th kd n t tu ch ke L w0) (zdet (some (.int (Int32.ofInt 0))) (zqs G C 1 kd n t tu ch ke L w0) sz) := by
  refine V_aload_n d_Ref_shrink_0 rfl ?_
  refine V_iload_n d_Ref_shrink_1 rfl ?_
  refine V_callS (n := 1) d_Ref_shrink_2 g_Ref_138 rfl (r_noCipher_n G _ _ c (by omega)) ⟨co_Ref_noCipher, by decide +kernel, Nat.le_of_ble_eq_true rfl⟩ ⟨Nat.le_of_ble_eq_true rfl, Nat.le_of_ble_eq_true rfl, Nat.le_of_ble_eq_true rfl, Nat.le_of_ble_eq_true rfl⟩ (Nat.le_of_ble_eq_true rfl) (fun r_2 w_2 s_2 q_2 => ?_) (fun _ _ _ q => False.elim q)
  obtain ⟨rfl, rfl, rfl⟩ := q_2
  refine J_if_ne 16 d_Ref_shrink_5 (by decide) (by decide) (fun c_5 => absurd rfl c_5) (fun c_5 => ?_)
  refine V_aload_n d_Ref_shrink_8 rfl ?_
  refine V_iload_n d_Ref_shrink_9 rfl ?_
  refine V_callV (n := 1) d_Ref_shrink_10 g_Ref_180 rfl zqs_o rfl (r_emptyI_y G _ C th kd n t tu ch ke L w0 l hl hb) ⟨co_Ref_empty_I, by decide +kernel, Nat.le_of_ble_eq_true rfl⟩ ⟨Nat.le_of_ble_eq_true rfl, Nat.le_of_ble_eq_true rfl, Nat.le_of_ble_eq_true rfl, Nat.le_of_ble_eq_true rfl⟩ (Nat.le_of_ble_eq_true rfl) (fun r_10 w_10 s_10 q_10 => ?_) (fun _ _ _ q => False.elim q)
  obtain ⟨rfl, rfl, rfl⟩ := q_10
  refine J_if_eq 20 d_Ref_shrink_13 (by decide) (by decide) (fun c_13 => absurd c_13 (by decide)) (fun c_13 => ?_)
  refine V_iconst d_Ref_shrink_16 ?_
  refine V_goto 35 d_Ref_shrink_17 (by decide) ?_
  refine V_putf d_Ref_shrink_35 ff_Ref_69 zqs_o ⟨_, _, _, _, rfl, rfl, rfl, rfl, rfl⟩ (Nat.le_of_ble_eq_true rfl) ?_
  refine V_w (zqs_f (th' := 1) rfl) ?_
  refine V_aload_n d_Ref_shrink_38 rfl ?_
  refine V_getf d_Ref_shrink_39 ff_Ref_69 zqs_o rfl ?_
  refine J_if_le 47 d_Ref_shrink_42 (by decide) (by decide) (fun c_42 => absurd c_42 (by decide)) (fun c_42 => ?_)
  refine V_iconst d_Ref_shrink_45 ?_
  exact V_ireturn d_Ref_shrink_46 rfl ⟨Nat.le_of_ble_eq_true rfl, Nat.le_of_ble_eq_true rfl⟩ ⟨rfl, rfl, rfl⟩

set_option maxRecDepth 100000 in
set_option maxHeartbeats 4000000 in
theorem r_shrink_le (G : zG) (sz C : Nat) (th kd n t tu : Int) (ch : Int32) (ke : Int) (L : Nat → Int → Int) (w0 : zW) (c : Nat) (hc : c < 16) (l : Nat) (hl : l < 16) (he : L 8 l = 0) : zCt G M_Ref_shrink (zR 5 0 0 125) [.ref C, .int (Int32.ofInt (c : Int)), .int (Int32.ofInt (l : Int))] sz (zqs G C th kd n t tu ch ke L w0) (zdet (some (.int (Int32.ofInt 0))) (zqs G C 1 kd n t tu ch ke L w0) sz) := by
  refine V_aload_n d_Ref_shrink_0 rfl ?_
  refine V_iload_n d_Ref_shrink_1 rfl ?_
  refine V_callS (n := 1) d_Ref_shrink_2 g_Ref_138 rfl (r_noCipher_n G _ _ c (by omega)) ⟨co_Ref_noCipher, by decide +kernel, Nat.le_of_ble_eq_true rfl⟩ ⟨Nat.le_of_ble_eq_true rfl, Nat.le_of_ble_eq_true rfl, Nat.le_of_ble_eq_true rfl, Nat.le_of_ble_eq_true rfl⟩ (Nat.le_of_ble_eq_true rfl) (fun r_2 w_2 s_2 q_2 => ?_) (fun _ _ _ q => False.elim q)
  obtain ⟨rfl, rfl, rfl⟩ := q_2
  refine J_if_ne 16 d_Ref_shrink_5 (by decide) (by decide) (fun c_5 => absurd rfl c_5) (fun c_5 => ?_)
  refine V_aload_n d_Ref_shrink_8 rfl ?_
  refine V_iload_n d_Ref_shrink_9 rfl ?_
  refine V_callV (n := 1) d_Ref_shrink_10 g_Ref_180 rfl zqs_o rfl (r_emptyI_e G _ C th kd n t tu ch ke L w0 l (by omega) he) ⟨co_Ref_empty_I, by decide +kernel, Nat.le_of_ble_eq_true rfl⟩ ⟨Nat.le_of_ble_eq_true rfl, Nat.le_of_ble_eq_true rfl, Nat.le_of_ble_eq_true rfl, Nat.le_of_ble_eq_true rfl⟩ (Nat.le_of_ble_eq_true rfl) (fun r_10 w_10 s_10 q_10 => ?_) (fun _ _ _ q => False.elim q)
  obtain ⟨rfl, rfl, rfl⟩ := q_10
  refine J_if_eq 20 d_Ref_shrink_13 (by decide) (by decide) (fun c_13 => absurd c_13 (by decide)) (fun c_13 => ?_)
  refine V_iconst d_Ref_shrink_16 ?_
  refine V_goto 35 d_Ref_shrink_17 (by decide) ?_
  refine V_putf d_Ref_shrink_35 ff_Ref_69 zqs_o ⟨_, _, _, _, rfl, rfl, rfl, rfl, rfl⟩ (Nat.le_of_ble_eq_true rfl) ?_
  refine V_w (zqs_f (th' := 1) rfl) ?_
  refine V_aload_n d_Ref_shrink_38 rfl ?_
  refine V_getf d_Ref_shrink_39 ff_Ref_69 zqs_o rfl ?_
  refine J_if_le 47 d_Ref_shrink_42 (by decide) (by decide) (fun c_42 => absurd c_42 (by decide)) (fun c_42 => ?_)
  refine V_iconst d_Ref_shrink_45 ?_
  exact V_ireturn d_Ref_shrink_46 rfl ⟨Nat.le_of_ble_eq_true rfl, Nat.le_of_ble_eq_true rfl⟩ ⟨rfl, rfl, rfl⟩

set_option maxRecDepth 100000 in
set_option maxHeartbeats 4000000 in
theorem r_shrink_2 (G : zG) (sz C : Nat) (th kd n t tu : Int) (ch : Int32) (ke : Int) (L : Nat → Int → Int) (w0 : zW) (c : Nat) (hc : c < 16) (l : Nat) (hl : l < 16) (hfl : 0 < L 8 l ∧ L 8 l ≤ 3) (hb : L 8 l = 2) : zCt G M_Ref_shrink (zR 5 0 0 125) [.ref C, .int (Int32.ofInt (c : Int)), .int (Int32.ofInt (l : Int))] sz (zqs G C th kd n t tu ch ke L w0) (zdet (some (.int (Int32.ofInt 0))) (zqs G C 2 kd n t tu ch ke L w0) sz) := by
  refine V_aload_n d_Ref_shrink_0 rfl ?_
  refine V_iload_n d_Ref_shrink_1 rfl ?_
  refine V_callS (n := 1) d_Ref_shrink_2 g_Ref_138 rfl (r_noCipher_n G _ _ c (by omega)) ⟨co_Ref_noCipher, by decide +kernel, Nat.le_of_ble_eq_true rfl⟩ ⟨Nat.le_of_ble_eq_true rfl, Nat.le_of_ble_eq_true rfl, Nat.le_of_ble_eq_true rfl, Nat.le_of_ble_eq_true rfl⟩ (Nat.le_of_ble_eq_true rfl) (fun r_2 w_2 s_2 q_2 => ?_) (fun _ _ _ q => False.elim q)
  obtain ⟨rfl, rfl, rfl⟩ := q_2
  refine J_if_ne 16 d_Ref_shrink_5 (by decide) (by decide) (fun c_5 => absurd rfl c_5) (fun c_5 => ?_)
  refine V_aload_n d_Ref_shrink_8 rfl ?_
  refine V_iload_n d_Ref_shrink_9 rfl ?_
  refine V_callV (n := 1) d_Ref_shrink_10 g_Ref_180 rfl zqs_o rfl (r_emptyI_n G _ C th kd n t tu ch ke L w0 l (by omega) hfl) ⟨co_Ref_empty_I, by decide +kernel, Nat.le_of_ble_eq_true rfl⟩ ⟨Nat.le_of_ble_eq_true rfl, Nat.le_of_ble_eq_true rfl, Nat.le_of_ble_eq_true rfl, Nat.le_of_ble_eq_true rfl⟩ (Nat.le_of_ble_eq_true rfl) (fun r_10 w_10 s_10 q_10 => ?_) (fun _ _ _ q => False.elim q)
  obtain ⟨rfl, rfl, rfl⟩ := q_10
  refine J_if_eq 20 d_Ref_shrink_13 (by decide) (by decide) (fun c_13 => ?_) (fun c_13 => absurd rfl c_13)
  refine V_aload_n d_Ref_shrink_20 rfl ?_
  refine V_getf d_Ref_shrink_21 ff_Ref_39 zqs_o rfl ?_
  refine V_iload_n d_Ref_shrink_24 rfl ?_
  refine J_iaload d_Ref_shrink_25 zqs_a8 (by omega) (by decide) ?_
  refine V_iconst d_Ref_shrink_26 ?_
  refine J_icmp_ne 34 d_Ref_shrink_27 (by decide) (by omega) (by omega) (fun c_27 => absurd hb c_27) (fun c_27 => ?_)
  refine V_iconst d_Ref_shrink_30 ?_
  refine V_goto 35 d_Ref_shrink_31 (by decide) ?_
  refine V_putf d_Ref_shrink_35 ff_Ref_69 zqs_o ⟨_, _, _, _, rfl, rfl, rfl, rfl, rfl⟩ (Nat.le_of_ble_eq_true rfl) ?_
  refine V_w (zqs_f (th' := 2) rfl) ?_
  refine V_aload_n d_Ref_shrink_38 rfl ?_
  refine V_getf d_Ref_shrink_39 ff_Ref_69 zqs_o rfl ?_
  refine J_if_le 47 d_Ref_shrink_42 (by decide) (by decide) (fun c_42 => absurd c_42 (by decide)) (fun c_42 => ?_)
  refine V_iconst d_Ref_shrink_45 ?_
  exact V_ireturn d_Ref_shrink_46 rfl ⟨Nat.le_of_ble_eq_true rfl, Nat.le_of_ble_eq_true rfl⟩ ⟨rfl, rfl, rfl⟩

set_option maxRecDepth 100000 in
set_option maxHeartbeats 4000000 in
theorem r_shrink (G : zG) (sz C : Nat) (th kd n t tu : Int) (ch : Int32) (ke : Int) (L : Nat → Int → Int) (w0 : zW) (nn : Nat) (hnn : n = (nn : Int)) (hn : nn ≤ 32) (c : Nat) (hc : c < 16) (l : Nat) (hl : l < 16) (h3 : L 8 l = 3) (ht : 0 < t ∧ t ≤ 1000) (hPa : ∀ j : Int, 0 ≤ j → j < 1536 → 0 ≤ L 9 j ∧ L 9 j < 268435399) (hSa : ∀ j : Int, 0 ≤ j → j < 32 → -1 ≤ L 1 j ∧ L 1 j ≤ 1) (hFi : ∀ q : Int, 0 ≤ q → q < 960 → 0 ≤ L 4 q ∧ L 4 q < 268435399) (hSe : ∀ q : Int, 0 ≤ q → q < 960 → 0 ≤ L 5 q ∧ L 5 q < 268435399) : zCt G M_Ref_shrink (zR 5 0 0 125) [.ref C, .int (Int32.ofInt (c : Int)), .int (Int32.ofInt (l : Int))] sz (zqs G C th kd n t tu ch ke L w0) (zdet (some (.int (Int32.ofInt ((zBu (zNz t ((zqPh nn c (zqShA nn c l (zqAp nn 0 (zqTk nn l 2 10 L) 6))) 12) nn) 27 : Nat) : Int)))) (zqs G C 0 kd n t tu ch ke (zqPh nn c (zqShA nn c l (zqAp nn 0 (zqTk nn l 2 10 L) 6))) w0) sz) := by
  subst hnn
  have key : ∀ A : Nat → Int → Int, A 8 = L 8 → A 9 = L 9 → A 1 = L 1 → (∀ i : Nat, i < nn → 0 ≤ A 13 i ∧ A 13 i < 268435399) → (∀ i : Nat, i < nn → 0 ≤ A 14 i ∧ A 14 i < 268435399) → V G M_Ref_shrink (zdet (some (.int (Int32.ofInt ((zBu (zNz t ((zqPh nn c (zqShA nn c l A)) 12) nn) 27 : Nat) : Int)))) (zqs G C 0 kd nn t tu ch ke (zqPh nn c (zqShA nn c l A)) w0) sz) (zR 5 0 0 125) 0 0 sz 62 [(0, .ref C), (1, .int (Int32.ofInt (c : Int))), (2, .int (Int32.ofInt (l : Int)))] [] (zqs G C 0 kd nn t tu ch ke A w0) := by
    intro A a8 a9 a1 au av
    refine V_aload_n d_Ref_shrink_62 rfl ?_
    refine V_iload_n d_Ref_shrink_63 rfl ?_
    refine V_iconst d_Ref_shrink_64 ?_
    refine V_aload_n d_Ref_shrink_65 rfl ?_
    refine V_getf d_Ref_shrink_66 ff_Ref_45 zqs_o rfl ?_
    refine V_callV (n := 3) d_Ref_shrink_69 g_Ref_159 rfl zqs_o rfl (r_take G _ C 0 kd nn t tu ch ke A w0 nn rfl hn l 0 10 hl (by decide) (by unfold zqi; decide) (by show _ ≤ A 8 l ∧ A 8 l < _; rw [a8]; omega)) ⟨co_Ref_take, by decide +kernel, Nat.le_of_ble_eq_true rfl⟩ ⟨Nat.le_of_ble_eq_true rfl, Nat.le_of_ble_eq_true rfl, Nat.le_of_ble_eq_true rfl, Nat.le_of_ble_eq_true rfl⟩ (Nat.le_of_ble_eq_true rfl) (fun r_69 w_69 s_69 q_69 => ?_) (fun _ _ _ q => False.elim q)
    obtain ⟨rfl, rfl, rfl⟩ := q_69
    refine V_aload_n d_Ref_shrink_72 rfl ?_
    refine V_iload_n d_Ref_shrink_73 rfl ?_
    refine V_iconst d_Ref_shrink_74 ?_
    refine V_aload_n d_Ref_shrink_75 rfl ?_
    refine V_getf d_Ref_shrink_76 ff_Ref_48 zqs_o rfl ?_
    refine V_callV (n := 3) d_Ref_shrink_79 g_Ref_159 rfl zqs_o rfl (r_take G _ C 0 kd nn t tu ch ke (zqTk nn l 0 10 A) w0 nn rfl hn l 1 11 hl (by decide) (by unfold zqi; decide) (by show _ ≤ A 8 l ∧ A 8 l < _; rw [a8]; omega)) ⟨co_Ref_take, by decide +kernel, Nat.le_of_ble_eq_true rfl⟩ ⟨Nat.le_of_ble_eq_true rfl, Nat.le_of_ble_eq_true rfl, Nat.le_of_ble_eq_true rfl, Nat.le_of_ble_eq_true rfl⟩ (Nat.le_of_ble_eq_true rfl) (fun r_79 w_79 s_79 q_79 => ?_) (fun _ _ _ q => False.elim q)
    obtain ⟨rfl, rfl, rfl⟩ := q_79
    refine V_iconst d_Ref_shrink_82 ?_
    refine V_istore_n d_Ref_shrink_83 (by decide) ?_
    refine V_w (w' := (zqs G C 0 kd nn t tu ch ke (zq2 nn 0 10 11 (zqHf (zqHA nn l A)) (zqHg (zqHA nn l A)) (zqHA nn l A)) w0)) (by rw [zq2_0] <;> rfl) ?_
    have st_84 : ∀ i : Nat, i < nn → (fun i : Nat => V G M_Ref_shrink (zdet (some (.int (Int32.ofInt ((zBu (zNz t ((zqPh nn c (zqShA nn c l A)) 12) nn) 27 : Nat) : Int)))) (zqs G C 0 kd nn t tu ch ke (zqPh nn c (zqShA nn c l A)) w0) sz) (zR 5 0 0 125) 0 0 sz 84 [(0, .ref C), (1, .int (Int32.ofInt (c : Int))), (2, .int (Int32.ofInt (l : Int))), (3, .int (Int32.ofInt (i : Int)))] [] (zqs G C 0 kd nn t tu ch ke (zq2 nn i 10 11 (zqHf (zqHA nn l A)) (zqHg (zqHA nn l A)) (zqHA nn l A)) w0)) (i + 1) → (fun i : Nat => V G M_Ref_shrink (zdet (some (.int (Int32.ofInt ((zBu (zNz t ((zqPh nn c (zqShA nn c l A)) 12) nn) 27 : Nat) : Int)))) (zqs G C 0 kd nn t tu ch ke (zqPh nn c (zqShA nn c l A)) w0) sz) (zR 5 0 0 125) 0 0 sz 84 [(0, .ref C), (1, .int (Int32.ofInt (c : Int))), (2, .int (Int32.ofInt (l : Int))), (3, .int (Int32.ofInt (i : Int)))] [] (zqs G C 0 kd nn t tu ch ke (zq2 nn i 10 11 (zqHf (zqHA nn l A)) (zqHg (zqHA nn l A)) (zqHA nn l A)) w0)) i := by
      intro i hi ih
      refine V_iload_n d_Ref_shrink_84 rfl ?_
      refine V_aload_n d_Ref_shrink_85 rfl ?_
      refine V_getf d_Ref_shrink_86 ff_Ref_7 zqs_o rfl ?_
      refine J_icmp_ge 128 d_Ref_shrink_89 (by decide) (by omega) (by omega) (fun c_89 => absurd c_89 (by omega)) (fun c_89 => ?_)
      refine V_aload_n d_Ref_shrink_92 rfl ?_
      refine V_getf d_Ref_shrink_93 ff_Ref_45 zqs_o rfl ?_
      refine V_iload_n d_Ref_shrink_96 rfl ?_
      refine V_dup2 d_Ref_shrink_97 rfl rfl ?_
      refine J_laload d_Ref_shrink_98 (zqs_r (j := 10) (by unfold zqi; decide)) (by omega) (by decide) ?_
      refine V_aload_n d_Ref_shrink_99 rfl ?_
      refine V_getf d_Ref_shrink_100 ff_Ref_54 zqs_o rfl ?_
      refine V_iload_n d_Ref_shrink_103 rfl ?_
      refine J_laload d_Ref_shrink_104 (zqs_r (j := 13) (by unfold zqi; decide)) (by omega) (by decide) ?_
      refine J_ladd d_Ref_shrink_105 ?_
      refine J_lastore d_Ref_shrink_106 (zqs_r (j := 10) (by unfold zqi; decide)) (by omega) (by decide) ?_
      refine V_w (zqs_lu (by unfold zqi; decide)) ?_
      refine V_aload_n d_Ref_shrink_107 rfl ?_
      refine V_getf d_Ref_shrink_108 ff_Ref_48 zqs_o rfl ?_
      refine V_iload_n d_Ref_shrink_111 rfl ?_
      refine V_dup2 d_Ref_shrink_112 rfl rfl ?_
      refine J_laload d_Ref_shrink_113 (zqs_r (j := 11) (by unfold zqi; decide)) (by omega) (by decide) ?_
      refine V_aload_n d_Ref_shrink_114 rfl ?_
      refine V_getf d_Ref_shrink_115 ff_Ref_57 zqs_o rfl ?_
      refine V_iload_n d_Ref_shrink_118 rfl ?_
      refine J_laload d_Ref_shrink_119 (zqs_r (j := 14) (by unfold zqi; decide)) (by omega) (by decide) ?_
      refine J_ladd d_Ref_shrink_120 ?_
      refine J_lastore d_Ref_shrink_121 (zqs_r (j := 11) (by unfold zqi; decide)) (by omega) (by decide) ?_
      refine J_iinc d_Ref_shrink_122 rfl (by decide) ?_
      refine V_goto 84 d_Ref_shrink_125 (by decide) ?_
      refine V_w ((zqs_lu (by unfold zqi; decide)).trans ?_) ih
      exact congrArg (fun Z => zqs G C 0 kd nn t tu ch ke Z w0) (zq2_s (by decide) (show zif i (zqHf (zqHA nn l A)) ((zqHA nn l A) 10) i + (zqHA nn l A) 13 i = _ from by rw [zif_r (show ¬ (0 ≤ (i : Int) ∧ (i : Int) < i) by omega)]; rfl) (show zif i (zqHg (zqHA nn l A)) ((zqHA nn l A) 11) i + (zqHA nn l A) 14 i = _ from by rw [zif_r (show ¬ (0 ≤ (i : Int) ∧ (i : Int) < i) by omega)]; rfl))
    refine zfor nn (fun i : Nat => V G M_Ref_shrink (zdet (some (.int (Int32.ofInt ((zBu (zNz t ((zqPh nn c (zqShA nn c l A)) 12) nn) 27 : Nat) : Int)))) (zqs G C 0 kd nn t tu ch ke (zqPh nn c (zqShA nn c l A)) w0) sz) (zR 5 0 0 125) 0 0 sz 84 [(0, .ref C), (1, .int (Int32.ofInt (c : Int))), (2, .int (Int32.ofInt (l : Int))), (3, .int (Int32.ofInt (i : Int)))] [] (zqs G C 0 kd nn t tu ch ke (zq2 nn i 10 11 (zqHf (zqHA nn l A)) (zqHg (zqHA nn l A)) (zqHA nn l A)) w0)) ?_ st_84 0 (Nat.zero_le nn)
    refine V_iload_n d_Ref_shrink_84 rfl ?_
    refine V_aload_n d_Ref_shrink_85 rfl ?_
    refine V_getf d_Ref_shrink_86 ff_Ref_7 zqs_o rfl ?_
    refine J_icmp_ge 128 d_Ref_shrink_89 (by decide) (by omega) (by omega) (fun c_89 => ?_) (fun c_89 => absurd c_89 (by omega))
    refine V_aload_n d_Ref_shrink_128 rfl ?_
    refine V_getf d_Ref_shrink_129 ff_Ref_39 zqs_o rfl ?_
    refine V_iload_n d_Ref_shrink_132 rfl ?_
    refine V_iconst d_Ref_shrink_133 ?_
    refine J_iastore d_Ref_shrink_134 zqs_a8 (by omega) (by decide) ?_
    refine V_w zqs_u8 ?_
    refine V_aload_n d_Ref_shrink_135 rfl ?_
    refine V_iload_n d_Ref_shrink_136 rfl ?_
    refine V_iconst d_Ref_shrink_137 ?_
    refine V_aload_n d_Ref_shrink_138 rfl ?_
    refine V_getf d_Ref_shrink_139 ff_Ref_45 zqs_o rfl ?_
    refine V_callV (n := 3) d_Ref_shrink_142 g_Ref_152 rfl zqs_o rfl (r_put G _ C 0 kd nn t tu ch ke (zlu (zq2 nn nn 10 11 (zqHf (zqHA nn l A)) (zqHg (zqHA nn l A)) (zqHA nn l A)) 8 (zu ((zq2 nn nn 10 11 (zqHf (zqHA nn l A)) (zqHg (zqHA nn l A)) (zqHA nn l A)) 8) c 2)) w0 nn rfl hn c 0 10 hc (by decide) (by unfold zqi; decide) (fun j hj => by have h1 : 0 ≤ (zqHA nn l A) 10 j ∧ (zqHA nn l A) 10 j < 268435399 := (zqTk_b (d := 10) (L := A) hl (show 0 < 3 by decide) hn (show ∀ j : Int, 0 ≤ j → j < 1536 → 0 ≤ A 9 j ∧ A 9 j < 268435399 from by rw [a9]; exact hPa) hj); have h2 : 0 ≤ (zqHA nn l A) 13 j ∧ (zqHA nn l A) 13 j < 268435399 := au j hj; show -9223372036854775808 ≤ zif nn (zqHf (zqHA nn l A)) ((zqHA nn l A) 10) j ∧ zif nn (zqHf (zqHA nn l A)) ((zqHA nn l A) 10) j < 9223372036854775808; rw [zif_l (by omega)]; unfold zqHf; exact ⟨by omega, by omega⟩)) ⟨co_Ref_put, by decide +kernel, Nat.le_of_ble_eq_true rfl⟩ ⟨Nat.le_of_ble_eq_true rfl, Nat.le_of_ble_eq_true rfl, Nat.le_of_ble_eq_true rfl, Nat.le_of_ble_eq_true rfl⟩ (Nat.le_of_ble_eq_true rfl) (fun r_142 w_142 s_142 q_142 => ?_) (fun _ _ _ q => False.elim q)
    obtain ⟨rfl, rfl, rfl⟩ := q_142
    refine V_aload_n d_Ref_shrink_145 rfl ?_
    refine V_iload_n d_Ref_shrink_146 rfl ?_
    refine V_iconst d_Ref_shrink_147 ?_
    refine V_aload_n d_Ref_shrink_148 rfl ?_
    refine V_getf d_Ref_shrink_149 ff_Ref_48 zqs_o rfl ?_
    refine V_callV (n := 3) d_Ref_shrink_152 g_Ref_152 rfl zqs_o rfl (r_put G _ C 0 kd nn t tu ch ke (zqPu nn c 0 10 (zlu (zq2 nn nn 10 11 (zqHf (zqHA nn l A)) (zqHg (zqHA nn l A)) (zqHA nn l A)) 8 (zu ((zq2 nn nn 10 11 (zqHf (zqHA nn l A)) (zqHg (zqHA nn l A)) (zqHA nn l A)) 8) c 2))) w0 nn rfl hn c 1 11 hc (by decide) (by unfold zqi; decide) (fun j hj => by have h1 : 0 ≤ (zqHA nn l A) 11 j ∧ (zqHA nn l A) 11 j < 268435399 := (zqTk_b (d := 11) (L := (zqTk nn l 0 10 A)) hl (show 1 < 3 by decide) hn (show ∀ j : Int, 0 ≤ j → j < 1536 → 0 ≤ A 9 j ∧ A 9 j < 268435399 from by rw [a9]; exact hPa) hj); have h2 : 0 ≤ (zqHA nn l A) 14 j ∧ (zqHA nn l A) 14 j < 268435399 := av j hj; show -9223372036854775808 ≤ zif nn (zqHg (zqHA nn l A)) ((zqHA nn l A) 11) j ∧ zif nn (zqHg (zqHA nn l A)) ((zqHA nn l A) 11) j < 9223372036854775808; rw [zif_l (by omega)]; unfold zqHg; exact ⟨by omega, by omega⟩)) ⟨co_Ref_put, by decide +kernel, Nat.le_of_ble_eq_true rfl⟩ ⟨Nat.le_of_ble_eq_true rfl, Nat.le_of_ble_eq_true rfl, Nat.le_of_ble_eq_true rfl, Nat.le_of_ble_eq_true rfl⟩ (Nat.le_of_ble_eq_true rfl) (fun r_152 w_152 s_152 q_152 => ?_) (fun _ _ _ q => False.elim q)
    obtain ⟨rfl, rfl, rfl⟩ := q_152
    refine V_aload_n d_Ref_shrink_155 rfl ?_
    refine V_iload_n d_Ref_shrink_156 rfl ?_
    refine V_callV (n := 1) d_Ref_shrink_157 g_Ref_156 rfl zqs_o rfl (r_budget G _ C 0 kd nn t tu ch ke (zqPu nn c 1 11 (zqPu nn c 0 10 (zlu (zq2 nn nn 10 11 (zqHf (zqHA nn l A)) (zqHg (zqHA nn l A)) (zqHA nn l A)) 8 (zu ((zq2 nn nn 10 11 (zqHf (zqHA nn l A)) (zqHg (zqHA nn l A)) (zqHA nn l A)) 8) c 2)))) w0 nn rfl hn c hc (show 0 ≤ zu ((zq2 nn nn 10 11 (zqHf (zqHA nn l A)) (zqHg (zqHA nn l A)) (zqHA nn l A)) 8) (c : Int) 2 c ∧ zu ((zq2 nn nn 10 11 (zqHf (zqHA nn l A)) (zqHg (zqHA nn l A)) (zqHA nn l A)) 8) (c : Int) 2 c ≤ 3 from by rw [zu_s]; decide) (zqPu_b (zqPu_b (show ∀ j : Int, 0 ≤ j → j < 1536 → 0 ≤ A 9 j ∧ A 9 j < 268435399 from by rw [a9]; exact hPa))) (show ∀ j : Int, 0 ≤ j → j < 32 → -1 ≤ A 1 j ∧ A 1 j ≤ 1 from by rw [a1]; exact hSa) ht) ⟨co_Ref_budget, by decide +kernel, Nat.le_of_ble_eq_true rfl⟩ ⟨Nat.le_of_ble_eq_true rfl, Nat.le_of_ble_eq_true rfl, Nat.le_of_ble_eq_true rfl, Nat.le_of_ble_eq_true rfl⟩ (Nat.le_of_ble_eq_true rfl) (fun r_157 w_157 s_157 q_157 => ?_) (fun _ _ _ q => False.elim q)
    obtain ⟨rfl, rfl, rfl⟩ := q_157
    exact V_ireturn d_Ref_shrink_160 rfl ⟨Nat.le_of_ble_eq_true rfl, Nat.le_of_ble_eq_true rfl⟩ ⟨rfl, rfl, rfl⟩
  refine V_aload_n d_Ref_shrink_0 rfl ?_
  refine V_iload_n d_Ref_shrink_1 rfl ?_
  refine V_callS (n := 1) d_Ref_shrink_2 g_Ref_138 rfl (r_noCipher_n G _ _ c (by omega)) ⟨co_Ref_noCipher, by decide +kernel, Nat.le_of_ble_eq_true rfl⟩ ⟨Nat.le_of_ble_eq_true rfl, Nat.le_of_ble_eq_true rfl, Nat.le_of_ble_eq_true rfl, Nat.le_of_ble_eq_true rfl⟩ (Nat.le_of_ble_eq_true rfl) (fun r_2 w_2 s_2 q_2 => ?_) (fun _ _ _ q => False.elim q)
  obtain ⟨rfl, rfl, rfl⟩ := q_2
  refine J_if_ne 16 d_Ref_shrink_5 (by decide) (by decide) (fun c_5 => absurd rfl c_5) (fun c_5 => ?_)
  refine V_aload_n d_Ref_shrink_8 rfl ?_
  refine V_iload_n d_Ref_shrink_9 rfl ?_
  refine V_callV (n := 1) d_Ref_shrink_10 g_Ref_180 rfl zqs_o rfl (r_emptyI_n G _ C th kd nn t tu ch ke L w0 l (by omega) (by omega)) ⟨co_Ref_empty_I, by decide +kernel, Nat.le_of_ble_eq_true rfl⟩ ⟨Nat.le_of_ble_eq_true rfl, Nat.le_of_ble_eq_true rfl, Nat.le_of_ble_eq_true rfl, Nat.le_of_ble_eq_true rfl⟩ (Nat.le_of_ble_eq_true rfl) (fun r_10 w_10 s_10 q_10 => ?_) (fun _ _ _ q => False.elim q)
  obtain ⟨rfl, rfl, rfl⟩ := q_10
  refine J_if_eq 20 d_Ref_shrink_13 (by decide) (by decide) (fun c_13 => ?_) (fun c_13 => absurd rfl c_13)
  refine V_aload_n d_Ref_shrink_20 rfl ?_
  refine V_getf d_Ref_shrink_21 ff_Ref_39 zqs_o rfl ?_
  refine V_iload_n d_Ref_shrink_24 rfl ?_
  refine J_iaload d_Ref_shrink_25 zqs_a8 (by omega) (by decide) ?_
  refine V_iconst d_Ref_shrink_26 ?_
  refine J_icmp_ne 34 d_Ref_shrink_27 (by decide) (by omega) (by omega) (fun c_27 => ?_) (fun c_27 => absurd c_27 (by omega))
  refine V_iconst d_Ref_shrink_34 ?_
  refine V_putf d_Ref_shrink_35 ff_Ref_69 zqs_o ⟨_, _, _, _, rfl, rfl, rfl, rfl, rfl⟩ (Nat.le_of_ble_eq_true rfl) ?_
  refine V_w (zqs_f (th' := 0) rfl) ?_
  refine V_aload_n d_Ref_shrink_38 rfl ?_
  refine V_getf d_Ref_shrink_39 ff_Ref_69 zqs_o rfl ?_
  refine J_if_le 47 d_Ref_shrink_42 (by decide) (by decide) (fun c_42 => ?_) (fun c_42 => absurd c_42 (by decide))
  refine V_aload_n d_Ref_shrink_47 rfl ?_
  refine V_iload_n d_Ref_shrink_48 rfl ?_
  refine V_iconst d_Ref_shrink_49 ?_
  refine V_aload_n d_Ref_shrink_50 rfl ?_
  refine V_getf d_Ref_shrink_51 ff_Ref_45 zqs_o rfl ?_
  refine V_callV (n := 3) d_Ref_shrink_54 g_Ref_159 rfl zqs_o rfl (r_take G _ C 0 kd nn t tu ch ke L w0 nn rfl hn l 2 10 hl (by decide) (by unfold zqi; decide) (by show _ ≤ L 8 l ∧ L 8 l < _; omega)) ⟨co_Ref_take, by decide +kernel, Nat.le_of_ble_eq_true rfl⟩ ⟨Nat.le_of_ble_eq_true rfl, Nat.le_of_ble_eq_true rfl, Nat.le_of_ble_eq_true rfl, Nat.le_of_ble_eq_true rfl⟩ (Nat.le_of_ble_eq_true rfl) (fun r_54 w_54 s_54 q_54 => ?_) (fun _ _ _ q => False.elim q)
  obtain ⟨rfl, rfl, rfl⟩ := q_54
  refine V_aload_n d_Ref_shrink_57 rfl ?_
  refine V_iconst d_Ref_shrink_58 ?_
  refine V_callV (n := 1) d_Ref_shrink_59 g_Ref_192 rfl zqs_o rfl (r_applied G _ C 0 kd nn t tu ch ke (zqTk nn l 2 10 L) w0 nn rfl hn 0 (by omega) (fun i hi => by have h := zqTk_b (d := 10) (L := L) hl (show 2 < 3 by decide) hn hPa hi; exact ⟨h.1, by omega⟩) hFi hSe) ⟨co_Ref_applied, by decide +kernel, Nat.le_of_ble_eq_true rfl⟩ ⟨Nat.le_of_ble_eq_true rfl, Nat.le_of_ble_eq_true rfl, Nat.le_of_ble_eq_true rfl, Nat.le_of_ble_eq_true rfl⟩ (Nat.le_of_ble_eq_true rfl) (fun r_59 w_59 s_59 q_59 => ?_) (fun _ _ _ q => False.elim q)
  obtain ⟨rfl, rfl, rfl⟩ := q_59
  exact key (zqAp nn 0 (zqTk nn l 2 10 L) 6) (zqAp_o (by decide) 6) (zqAp_o (by decide) 6) (zqAp_o (by decide) 6) (fun i hi => zqAp_u hi 6) (fun i hi => zqAp_v hi 6)

set_option maxRecDepth 100000 in
set_option maxHeartbeats 4000000 in
theorem r_turn_c (G : zG) (sz C : Nat) (th kd n t tu : Int) (ch : Int32) (ke : Int) (L : Nat → Int → Int) (w0 : zW) (c : Int) (hc : -2147483648 ≤ c ∧ c < 2147483648) (hb : c < 0 ∨ 15 < c) (l g : Int) : zCt G M_Ref_turn (zR 5 0 0 125) [.ref C, .int (Int32.ofInt c), .int (Int32.ofInt l), .int (Int32.ofInt g)] sz (zqs G C th kd n t tu ch ke L w0) (zdet (some (.int (Int32.ofInt 0))) (zqs G C 1 kd n t tu ch ke L w0) sz) := by
  refine V_aload_n d_Ref_turn_0 rfl ?_
  refine V_iload_n d_Ref_turn_1 rfl ?_
  refine V_callS (n := 1) d_Ref_turn_2 g_Ref_138 rfl (r_noCipher_y G _ _ c hc hb) ⟨co_Ref_noCipher, by decide +kernel, Nat.le_of_ble_eq_true rfl⟩ ⟨Nat.le_of_ble_eq_true rfl, Nat.le_of_ble_eq_true rfl, Nat.le_of_ble_eq_true rfl, Nat.le_of_ble_eq_true rfl⟩ (Nat.le_of_ble_eq_true rfl) (fun r_2 w_2 s_2 q_2 => ?_) (fun _ _ _ q => False.elim q)
  obtain ⟨rfl, rfl, rfl⟩ := q_2
  refine J_if_ne 16 d_Ref_turn_5 (by decide) (by decide) (fun c_5 => ?_) (fun c_5 => absurd c_5 (by decide))
  refine V_iconst d_Ref_turn_16 ?_
  refine V_goto 43 d_Ref_turn_17 (by decide) ?_
  refine V_putf d_Ref_turn_43 ff_Ref_69 zqs_o ⟨_, _, _, _, rfl, rfl, rfl, rfl, rfl⟩ (Nat.le_of_ble_eq_true rfl) ?_
  refine V_w (zqs_f (th' := 1) rfl) ?_
  refine V_aload_n d_Ref_turn_46 rfl ?_
  refine V_getf d_Ref_turn_47 ff_Ref_69 zqs_o rfl ?_
  refine J_if_le 55 d_Ref_turn_50 (by decide) (by decide) (fun c_50 => absurd c_50 (by decide)) (fun c_50 => ?_)
  refine V_iconst d_Ref_turn_53 ?_
  exact V_ireturn d_Ref_turn_54 rfl ⟨Nat.le_of_ble_eq_true rfl, Nat.le_of_ble_eq_true rfl⟩ ⟨rfl, rfl, rfl⟩

set_option maxRecDepth 100000 in
set_option maxHeartbeats 4000000 in
theorem r_turn_l (G : zG) (sz C : Nat) (th kd n t tu : Int) (ch : Int32) (ke : Int) (L : Nat → Int → Int) (w0 : zW) (c : Nat) (hc : c < 16) (l : Int) (hl : -2147483648 ≤ l ∧ l < 2147483648) (hb : l < 0 ∨ 15 < l) (g : Int) : zCt G M_Ref_turn (zR 5 0 0 125) [.ref C, .int (Int32.ofInt (c : Int)), .int (Int32.ofInt l), .int (Int32.ofInt g)] sz (zqs G C th kd n t tu ch ke L w0) (zdet (some (.int (Int32.ofInt 0))) (zqs G C 1 kd n t tu ch ke L w0) sz) := by
  refine V_aload_n d_Ref_turn_0 rfl ?_
  refine V_iload_n d_Ref_turn_1 rfl ?_
  refine V_callS (n := 1) d_Ref_turn_2 g_Ref_138 rfl (r_noCipher_n G _ _ c (by omega)) ⟨co_Ref_noCipher, by decide +kernel, Nat.le_of_ble_eq_true rfl⟩ ⟨Nat.le_of_ble_eq_true rfl, Nat.le_of_ble_eq_true rfl, Nat.le_of_ble_eq_true rfl, Nat.le_of_ble_eq_true rfl⟩ (Nat.le_of_ble_eq_true rfl) (fun r_2 w_2 s_2 q_2 => ?_) (fun _ _ _ q => False.elim q)
  obtain ⟨rfl, rfl, rfl⟩ := q_2
  refine J_if_ne 16 d_Ref_turn_5 (by decide) (by decide) (fun c_5 => absurd rfl c_5) (fun c_5 => ?_)
  refine V_aload_n d_Ref_turn_8 rfl ?_
  refine V_iload_n d_Ref_turn_9 rfl ?_
  refine V_callV (n := 1) d_Ref_turn_10 g_Ref_180 rfl zqs_o rfl (r_emptyI_y G _ C th kd n t tu ch ke L w0 l hl hb) ⟨co_Ref_empty_I, by decide +kernel, Nat.le_of_ble_eq_true rfl⟩ ⟨Nat.le_of_ble_eq_true rfl, Nat.le_of_ble_eq_true rfl, Nat.le_of_ble_eq_true rfl, Nat.le_of_ble_eq_true rfl⟩ (Nat.le_of_ble_eq_true rfl) (fun r_10 w_10 s_10 q_10 => ?_) (fun _ _ _ q => False.elim q)
  obtain ⟨rfl, rfl, rfl⟩ := q_10
  refine J_if_eq 20 d_Ref_turn_13 (by decide) (by decide) (fun c_13 => absurd c_13 (by decide)) (fun c_13 => ?_)
  refine V_iconst d_Ref_turn_16 ?_
  refine V_goto 43 d_Ref_turn_17 (by decide) ?_
  refine V_putf d_Ref_turn_43 ff_Ref_69 zqs_o ⟨_, _, _, _, rfl, rfl, rfl, rfl, rfl⟩ (Nat.le_of_ble_eq_true rfl) ?_
  refine V_w (zqs_f (th' := 1) rfl) ?_
  refine V_aload_n d_Ref_turn_46 rfl ?_
  refine V_getf d_Ref_turn_47 ff_Ref_69 zqs_o rfl ?_
  refine J_if_le 55 d_Ref_turn_50 (by decide) (by decide) (fun c_50 => absurd c_50 (by decide)) (fun c_50 => ?_)
  refine V_iconst d_Ref_turn_53 ?_
  exact V_ireturn d_Ref_turn_54 rfl ⟨Nat.le_of_ble_eq_true rfl, Nat.le_of_ble_eq_true rfl⟩ ⟨rfl, rfl, rfl⟩

set_option maxRecDepth 100000 in
set_option maxHeartbeats 4000000 in
theorem r_turn_le (G : zG) (sz C : Nat) (th kd n t tu : Int) (ch : Int32) (ke : Int) (L : Nat → Int → Int) (w0 : zW) (c : Nat) (hc : c < 16) (l : Nat) (hl : l < 16) (he : L 8 l = 0) (g : Int) : zCt G M_Ref_turn (zR 5 0 0 125) [.ref C, .int (Int32.ofInt (c : Int)), .int (Int32.ofInt (l : Int)), .int (Int32.ofInt g)] sz (zqs G C th kd n t tu ch ke L w0) (zdet (some (.int (Int32.ofInt 0))) (zqs G C 1 kd n t tu ch ke L w0) sz) := by
  refine V_aload_n d_Ref_turn_0 rfl ?_
  refine V_iload_n d_Ref_turn_1 rfl ?_
  refine V_callS (n := 1) d_Ref_turn_2 g_Ref_138 rfl (r_noCipher_n G _ _ c (by omega)) ⟨co_Ref_noCipher, by decide +kernel, Nat.le_of_ble_eq_true rfl⟩ ⟨Nat.le_of_ble_eq_true rfl, Nat.le_of_ble_eq_true rfl, Nat.le_of_ble_eq_true rfl, Nat.le_of_ble_eq_true rfl⟩ (Nat.le_of_ble_eq_true rfl) (fun r_2 w_2 s_2 q_2 => ?_) (fun _ _ _ q => False.elim q)
  obtain ⟨rfl, rfl, rfl⟩ := q_2
  refine J_if_ne 16 d_Ref_turn_5 (by decide) (by decide) (fun c_5 => absurd rfl c_5) (fun c_5 => ?_)
  refine V_aload_n d_Ref_turn_8 rfl ?_
  refine V_iload_n d_Ref_turn_9 rfl ?_
  refine V_callV (n := 1) d_Ref_turn_10 g_Ref_180 rfl zqs_o rfl (r_emptyI_e G _ C th kd n t tu ch ke L w0 l (by omega) he) ⟨co_Ref_empty_I, by decide +kernel, Nat.le_of_ble_eq_true rfl⟩ ⟨Nat.le_of_ble_eq_true rfl, Nat.le_of_ble_eq_true rfl, Nat.le_of_ble_eq_true rfl, Nat.le_of_ble_eq_true rfl⟩ (Nat.le_of_ble_eq_true rfl) (fun r_10 w_10 s_10 q_10 => ?_) (fun _ _ _ q => False.elim q)
  obtain ⟨rfl, rfl, rfl⟩ := q_10
  refine J_if_eq 20 d_Ref_turn_13 (by decide) (by decide) (fun c_13 => absurd c_13 (by decide)) (fun c_13 => ?_)
  refine V_iconst d_Ref_turn_16 ?_
  refine V_goto 43 d_Ref_turn_17 (by decide) ?_
  refine V_putf d_Ref_turn_43 ff_Ref_69 zqs_o ⟨_, _, _, _, rfl, rfl, rfl, rfl, rfl⟩ (Nat.le_of_ble_eq_true rfl) ?_
  refine V_w (zqs_f (th' := 1) rfl) ?_
  refine V_aload_n d_Ref_turn_46 rfl ?_
  refine V_getf d_Ref_turn_47 ff_Ref_69 zqs_o rfl ?_
  refine J_if_le 55 d_Ref_turn_50 (by decide) (by decide) (fun c_50 => absurd c_50 (by decide)) (fun c_50 => ?_)
  refine V_iconst d_Ref_turn_53 ?_
  exact V_ireturn d_Ref_turn_54 rfl ⟨Nat.le_of_ble_eq_true rfl, Nat.le_of_ble_eq_true rfl⟩ ⟨rfl, rfl, rfl⟩

set_option maxRecDepth 100000 in
set_option maxHeartbeats 4000000 in
theorem r_turn_g (G : zG) (sz C : Nat) (th kd n t tu : Int) (ch : Int32) (ke : Int) (L : Nat → Int → Int) (w0 : zW) (c : Nat) (hc : c < 16) (l : Nat) (hl : l < 16) (hfl : 0 < L 8 l ∧ L 8 l ≤ 3) (g : Int) (hg : -2147483648 ≤ g ∧ g < 2147483648) (htu : 0 ≤ tu ∧ tu ≤ 4) (htr : ∀ p : Nat, p < 5 → -2147483648 ≤ L 6 p ∧ L 6 p < 2147483648) (hfd : zqf (L 6) tu g 5 1 = 0) : zCt G M_Ref_turn (zR 5 0 0 125) [.ref C, .int (Int32.ofInt (c : Int)), .int (Int32.ofInt (l : Int)), .int (Int32.ofInt g)] sz (zqs G C th kd n t tu ch ke L w0) (zdet (some (.int (Int32.ofInt 0))) (zqs G C 2 kd n t tu ch ke L w0) sz) := by
  refine V_aload_n d_Ref_turn_0 rfl ?_
  refine V_iload_n d_Ref_turn_1 rfl ?_
  refine V_callS (n := 1) d_Ref_turn_2 g_Ref_138 rfl (r_noCipher_n G _ _ c (by omega)) ⟨co_Ref_noCipher, by decide +kernel, Nat.le_of_ble_eq_true rfl⟩ ⟨Nat.le_of_ble_eq_true rfl, Nat.le_of_ble_eq_true rfl, Nat.le_of_ble_eq_true rfl, Nat.le_of_ble_eq_true rfl⟩ (Nat.le_of_ble_eq_true rfl) (fun r_2 w_2 s_2 q_2 => ?_) (fun _ _ _ q => False.elim q)
  obtain ⟨rfl, rfl, rfl⟩ := q_2
  refine J_if_ne 16 d_Ref_turn_5 (by decide) (by decide) (fun c_5 => absurd rfl c_5) (fun c_5 => ?_)
  refine V_aload_n d_Ref_turn_8 rfl ?_
  refine V_iload_n d_Ref_turn_9 rfl ?_
  refine V_callV (n := 1) d_Ref_turn_10 g_Ref_180 rfl zqs_o rfl (r_emptyI_n G _ C th kd n t tu ch ke L w0 l (by omega) hfl) ⟨co_Ref_empty_I, by decide +kernel, Nat.le_of_ble_eq_true rfl⟩ ⟨Nat.le_of_ble_eq_true rfl, Nat.le_of_ble_eq_true rfl, Nat.le_of_ble_eq_true rfl, Nat.le_of_ble_eq_true rfl⟩ (Nat.le_of_ble_eq_true rfl) (fun r_10 w_10 s_10 q_10 => ?_) (fun _ _ _ q => False.elim q)
  obtain ⟨rfl, rfl, rfl⟩ := q_10
  refine J_if_eq 20 d_Ref_turn_13 (by decide) (by decide) (fun c_13 => ?_) (fun c_13 => absurd rfl c_13)
  refine V_aload_n d_Ref_turn_20 rfl ?_
  refine V_iload_n d_Ref_turn_21 rfl ?_
  refine V_callV (n := 1) d_Ref_turn_22 g_Ref_131 rfl zqs_o rfl (r_find G _ C th kd n t tu ch ke L w0 g hg htu htr) ⟨co_Ref_find, by decide +kernel, Nat.le_of_ble_eq_true rfl⟩ ⟨Nat.le_of_ble_eq_true rfl, Nat.le_of_ble_eq_true rfl, Nat.le_of_ble_eq_true rfl, Nat.le_of_ble_eq_true rfl⟩ (Nat.le_of_ble_eq_true rfl) (fun r_22 w_22 s_22 q_22 => ?_) (fun _ _ _ q => False.elim q)
  obtain ⟨rfl, rfl, rfl⟩ := q_22
  rw [hfd]
  refine J_if_eq 38 d_Ref_turn_25 (by decide) (by decide) (fun c_25 => ?_) (fun c_25 => absurd rfl c_25)
  refine V_iconst d_Ref_turn_38 ?_
  refine V_goto 43 d_Ref_turn_39 (by decide) ?_
  refine V_putf d_Ref_turn_43 ff_Ref_69 zqs_o ⟨_, _, _, _, rfl, rfl, rfl, rfl, rfl⟩ (Nat.le_of_ble_eq_true rfl) ?_
  refine V_w (zqs_f (th' := 2) rfl) ?_
  refine V_aload_n d_Ref_turn_46 rfl ?_
  refine V_getf d_Ref_turn_47 ff_Ref_69 zqs_o rfl ?_
  refine J_if_le 55 d_Ref_turn_50 (by decide) (by decide) (fun c_50 => absurd c_50 (by decide)) (fun c_50 => ?_)
  refine V_iconst d_Ref_turn_53 ?_
  exact V_ireturn d_Ref_turn_54 rfl ⟨Nat.le_of_ble_eq_true rfl, Nat.le_of_ble_eq_true rfl⟩ ⟨rfl, rfl, rfl⟩

set_option maxRecDepth 100000 in
set_option maxHeartbeats 4000000 in
theorem r_turn_3 (G : zG) (sz C : Nat) (th kd n t tu : Int) (ch : Int32) (ke : Int) (L : Nat → Int → Int) (w0 : zW) (c : Nat) (hc : c < 16) (l : Nat) (hl : l < 16) (hfl : 0 < L 8 l ∧ L 8 l ≤ 3) (g : Int) (hg : -2147483648 ≤ g ∧ g < 2147483648) (htu : 0 ≤ tu ∧ tu ≤ 4) (htr : ∀ p : Nat, p < 5 → -2147483648 ≤ L 6 p ∧ L 6 p < 2147483648) (p : Nat) (hfd : zqf (L 6) tu g 5 1 = p) (hp : 0 < p ∧ p < 5) (hb : L 8 l = 3) : zCt G M_Ref_turn (zR 5 0 0 125) [.ref C, .int (Int32.ofInt (c : Int)), .int (Int32.ofInt (l : Int)), .int (Int32.ofInt g)] sz (zqs G C th kd n t tu ch ke L w0) (zdet (some (.int (Int32.ofInt 0))) (zqs G C 2 kd n t tu ch ke L w0) sz) := by
  refine V_aload_n d_Ref_turn_0 rfl ?_
  refine V_iload_n d_Ref_turn_1 rfl ?_
  refine V_callS (n := 1) d_Ref_turn_2 g_Ref_138 rfl (r_noCipher_n G _ _ c (by omega)) ⟨co_Ref_noCipher, by decide +kernel, Nat.le_of_ble_eq_true rfl⟩ ⟨Nat.le_of_ble_eq_true rfl, Nat.le_of_ble_eq_true rfl, Nat.le_of_ble_eq_true rfl, Nat.le_of_ble_eq_true rfl⟩ (Nat.le_of_ble_eq_true rfl) (fun r_2 w_2 s_2 q_2 => ?_) (fun _ _ _ q => False.elim q)
  obtain ⟨rfl, rfl, rfl⟩ := q_2
  refine J_if_ne 16 d_Ref_turn_5 (by decide) (by decide) (fun c_5 => absurd rfl c_5) (fun c_5 => ?_)
  refine V_aload_n d_Ref_turn_8 rfl ?_
  refine V_iload_n d_Ref_turn_9 rfl ?_
  refine V_callV (n := 1) d_Ref_turn_10 g_Ref_180 rfl zqs_o rfl (r_emptyI_n G _ C th kd n t tu ch ke L w0 l (by omega) hfl) ⟨co_Ref_empty_I, by decide +kernel, Nat.le_of_ble_eq_true rfl⟩ ⟨Nat.le_of_ble_eq_true rfl, Nat.le_of_ble_eq_true rfl, Nat.le_of_ble_eq_true rfl, Nat.le_of_ble_eq_true rfl⟩ (Nat.le_of_ble_eq_true rfl) (fun r_10 w_10 s_10 q_10 => ?_) (fun _ _ _ q => False.elim q)
  obtain ⟨rfl, rfl, rfl⟩ := q_10
  refine J_if_eq 20 d_Ref_turn_13 (by decide) (by decide) (fun c_13 => ?_) (fun c_13 => absurd rfl c_13)
  refine V_aload_n d_Ref_turn_20 rfl ?_
  refine V_iload_n d_Ref_turn_21 rfl ?_
  refine V_callV (n := 1) d_Ref_turn_22 g_Ref_131 rfl zqs_o rfl (r_find G _ C th kd n t tu ch ke L w0 g hg htu htr) ⟨co_Ref_find, by decide +kernel, Nat.le_of_ble_eq_true rfl⟩ ⟨Nat.le_of_ble_eq_true rfl, Nat.le_of_ble_eq_true rfl, Nat.le_of_ble_eq_true rfl, Nat.le_of_ble_eq_true rfl⟩ (Nat.le_of_ble_eq_true rfl) (fun r_22 w_22 s_22 q_22 => ?_) (fun _ _ _ q => False.elim q)
  obtain ⟨rfl, rfl, rfl⟩ := q_22
  rw [hfd]
  refine J_if_eq 38 d_Ref_turn_25 (by decide) (by omega) (fun c_25 => absurd c_25 (by omega)) (fun c_25 => ?_)
  refine V_aload_n d_Ref_turn_28 rfl ?_
  refine V_getf d_Ref_turn_29 ff_Ref_39 zqs_o rfl ?_
  refine V_iload_n d_Ref_turn_32 rfl ?_
  refine J_iaload d_Ref_turn_33 zqs_a8 (by omega) (by decide) ?_
  refine V_iconst d_Ref_turn_34 ?_
  refine J_icmp_ne 42 d_Ref_turn_35 (by decide) (by omega) (by omega) (fun c_35 => absurd hb c_35) (fun c_35 => ?_)
  refine V_iconst d_Ref_turn_38 ?_
  refine V_goto 43 d_Ref_turn_39 (by decide) ?_
  refine V_putf d_Ref_turn_43 ff_Ref_69 zqs_o ⟨_, _, _, _, rfl, rfl, rfl, rfl, rfl⟩ (Nat.le_of_ble_eq_true rfl) ?_
  refine V_w (zqs_f (th' := 2) rfl) ?_
  refine V_aload_n d_Ref_turn_46 rfl ?_
  refine V_getf d_Ref_turn_47 ff_Ref_69 zqs_o rfl ?_
  refine J_if_le 55 d_Ref_turn_50 (by decide) (by decide) (fun c_50 => absurd c_50 (by decide)) (fun c_50 => ?_)
  refine V_iconst d_Ref_turn_53 ?_
  exact V_ireturn d_Ref_turn_54 rfl ⟨Nat.le_of_ble_eq_true rfl, Nat.le_of_ble_eq_true rfl⟩ ⟨rfl, rfl, rfl⟩

set_option maxRecDepth 100000 in
set_option maxHeartbeats 4000000 in
theorem r_turn (G : zG) (sz C : Nat) (th kd n t tu : Int) (ch : Int32) (ke : Int) (L : Nat → Int → Int) (w0 : zW) (nn : Nat) (hnn : n = (nn : Int)) (hn : nn ≤ 32) (c : Nat) (hc : c < 16) (l : Nat) (hl : l < 16) (hfl : 0 < L 8 l ∧ L 8 l ≤ 3) (g : Int) (hg : -2147483648 ≤ g ∧ g < 2147483648) (htu : 0 ≤ tu ∧ tu ≤ 4) (htr : ∀ p : Nat, p < 5 → -2147483648 ≤ L 6 p ∧ L 6 p < 2147483648) (p : Nat) (hfd : zqf (L 6) tu g 5 1 = p) (hp : 0 < p ∧ p < 5) (h3 : ¬ L 8 l = 3) (hgg : 0 ≤ g ∧ g ≤ 64) (ht : 0 < t ∧ t ≤ 1000) (hPa : ∀ j : Int, 0 ≤ j → j < 1536 → 0 ≤ L 9 j ∧ L 9 j < 268435399) (hSa : ∀ j : Int, 0 ≤ j → j < 32 → -1 ≤ L 1 j ∧ L 1 j ≤ 1) (hFi : ∀ q : Int, 0 ≤ q → q < 960 → 0 ≤ L 4 q ∧ L 4 q < 268435399) (hSe : ∀ q : Int, 0 ≤ q → q < 960 → 0 ≤ L 5 q ∧ L 5 q < 268435399) (hW : ∀ i : Nat, i < nn → -9223372036854775808 ≤ (zqTu nn 11 10 g (zqTk nn l 1 11 L)) 10 i ∧ (zqTu nn 11 10 g (zqTk nn l 1 11 L)) 10 i < 9223372036854775808) (hW2 : (∀ i : Nat, i < nn → -1000000000 ≤ (zqT2A nn l g (zqAp nn p (zqT1 nn l g L) 6)) 10 i ∧ (zqT2A nn l g (zqAp nn p (zqT1 nn l g L) 6)) 10 i ≤ 1000000000)) : zCt G M_Ref_turn (zR 5 0 0 125) [.ref C, .int (Int32.ofInt (c : Int)), .int (Int32.ofInt (l : Int)), .int (Int32.ofInt g)] sz (zqs G C th kd n t tu ch ke L w0) (zdet (some (.int (Int32.ofInt ((zBu (zNz t ((zqPh nn c (zqTnA nn c l g (zqAp nn p (zqT1 nn l g L) 6))) 12) nn) 27 : Nat) : Int)))) (zqs G C 0 kd n t tu ch ke (zqPh nn c (zqTnA nn c l g (zqAp nn p (zqT1 nn l g L) 6))) w0) sz) := by
  subst hnn
  have key : ∀ A : Nat → Int → Int, A 8 = L 8 → A 9 = L 9 → A 1 = L 1 → (∀ i : Nat, i < nn → 0 ≤ A 13 i ∧ A 13 i < 268435399) → (∀ i : Nat, i < nn → 0 ≤ A 14 i ∧ A 14 i < 268435399) → (∀ i : Nat, i < nn → -1000000000 ≤ (zqT2A nn l g A) 10 i ∧ (zqT2A nn l g A) 10 i ≤ 1000000000) → V G M_Ref_turn (zdet (some (.int (Int32.ofInt ((zBu (zNz t ((zqPh nn c (zqTnA nn c l g A)) 12) nn) 27 : Nat) : Int)))) (zqs G C 0 kd nn t tu ch ke (zqPh nn c (zqTnA nn c l g A)) w0) sz) (zR 5 0 0 125) 0 0 sz 95 [(0, .ref C), (1, .int (Int32.ofInt (c : Int))), (2, .int (Int32.ofInt (l : Int))), (3, .int (Int32.ofInt g))] [] (zqs G C 0 kd nn t tu ch ke A w0) := by
    intro A a8 a9 a1 au av aw
    refine V_aload_n d_Ref_turn_95 rfl ?_
    refine V_iload_n d_Ref_turn_96 rfl ?_
    refine V_iconst d_Ref_turn_97 ?_
    refine V_aload_n d_Ref_turn_98 rfl ?_
    refine V_getf d_Ref_turn_99 ff_Ref_48 zqs_o rfl ?_
    refine V_callV (n := 3) d_Ref_turn_102 g_Ref_159 rfl zqs_o rfl (r_take G _ C 0 kd nn t tu ch ke A w0 nn rfl hn l 0 11 hl (by decide) (by unfold zqi; decide) (by show _ ≤ A 8 l ∧ A 8 l < _; rw [a8]; omega)) ⟨co_Ref_take, by decide +kernel, Nat.le_of_ble_eq_true rfl⟩ ⟨Nat.le_of_ble_eq_true rfl, Nat.le_of_ble_eq_true rfl, Nat.le_of_ble_eq_true rfl, Nat.le_of_ble_eq_true rfl⟩ (Nat.le_of_ble_eq_true rfl) (fun r_102 w_102 s_102 q_102 => ?_) (fun _ _ _ q => False.elim q)
    obtain ⟨rfl, rfl, rfl⟩ := q_102
    refine V_aload_n d_Ref_turn_105 rfl ?_
    refine V_aload_n d_Ref_turn_106 rfl ?_
    refine V_getf d_Ref_turn_107 ff_Ref_48 zqs_o rfl ?_
    refine V_iload_n d_Ref_turn_110 rfl ?_
    refine V_aload_n d_Ref_turn_111 rfl ?_
    refine V_getf d_Ref_turn_112 ff_Ref_45 zqs_o rfl ?_
    refine V_callV (n := 3) d_Ref_turn_115 g_Ref_134 rfl zqs_o rfl (r_turned G _ C 0 kd nn t tu ch ke (zqTk nn l 0 11 A) w0 nn rfl hn 11 10 g (by unfold zqi; decide) (by unfold zqi; decide) (by decide) hgg) ⟨co_Ref_turned, by decide +kernel, Nat.le_of_ble_eq_true rfl⟩ ⟨Nat.le_of_ble_eq_true rfl, Nat.le_of_ble_eq_true rfl, Nat.le_of_ble_eq_true rfl, Nat.le_of_ble_eq_true rfl⟩ (Nat.le_of_ble_eq_true rfl) (fun r_115 w_115 s_115 q_115 => ?_) (fun _ _ _ q => False.elim q)
    obtain ⟨rfl, rfl, rfl⟩ := q_115
    refine V_iconst d_Ref_turn_118 ?_
    refine V_istore d_Ref_turn_119 (by decide) ?_
    refine V_w (w' := (zqs G C 0 kd nn t tu ch ke (zlu (zqT2A nn l g A) 10 (zif ((0 : Nat) : Int) (fun i => (zqT2A nn l g A) 10 i + (zqT2A nn l g A) 13 i) ((zqT2A nn l g A) 10))) w0)) (by rw [show ((0 : Nat) : Int) = 0 from rfl, zif_0, zlu_self] <;> rfl) ?_
    have st_121 : ∀ i : Nat, i < nn → (fun i : Nat => V G M_Ref_turn (zdet (some (.int (Int32.ofInt ((zBu (zNz t ((zqPh nn c (zqTnA nn c l g A)) 12) nn) 27 : Nat) : Int)))) (zqs G C 0 kd nn t tu ch ke (zqPh nn c (zqTnA nn c l g A)) w0) sz) (zR 5 0 0 125) 0 0 sz 121 [(0, .ref C), (1, .int (Int32.ofInt (c : Int))), (2, .int (Int32.ofInt (l : Int))), (3, .int (Int32.ofInt g)), (4, .int (Int32.ofInt (i : Int)))] [] (zqs G C 0 kd nn t tu ch ke (zlu (zqT2A nn l g A) 10 (zif (i : Int) (fun i => (zqT2A nn l g A) 10 i + (zqT2A nn l g A) 13 i) ((zqT2A nn l g A) 10))) w0)) (i + 1) → (fun i : Nat => V G M_Ref_turn (zdet (some (.int (Int32.ofInt ((zBu (zNz t ((zqPh nn c (zqTnA nn c l g A)) 12) nn) 27 : Nat) : Int)))) (zqs G C 0 kd nn t tu ch ke (zqPh nn c (zqTnA nn c l g A)) w0) sz) (zR 5 0 0 125) 0 0 sz 121 [(0, .ref C), (1, .int (Int32.ofInt (c : Int))), (2, .int (Int32.ofInt (l : Int))), (3, .int (Int32.ofInt g)), (4, .int (Int32.ofInt (i : Int)))] [] (zqs G C 0 kd nn t tu ch ke (zlu (zqT2A nn l g A) 10 (zif (i : Int) (fun i => (zqT2A nn l g A) 10 i + (zqT2A nn l g A) 13 i) ((zqT2A nn l g A) 10))) w0)) i := by
      intro i hi ih
      refine V_iload d_Ref_turn_121 rfl ?_
      refine V_aload_n d_Ref_turn_123 rfl ?_
      refine V_getf d_Ref_turn_124 ff_Ref_7 zqs_o rfl ?_
      refine J_icmp_ge 153 d_Ref_turn_127 (by decide) (by omega) (by omega) (fun c_127 => absurd c_127 (by omega)) (fun c_127 => ?_)
      refine V_aload_n d_Ref_turn_130 rfl ?_
      refine V_getf d_Ref_turn_131 ff_Ref_45 zqs_o rfl ?_
      refine V_iload d_Ref_turn_134 rfl ?_
      refine V_dup2 d_Ref_turn_136 rfl rfl ?_
      refine J_laload d_Ref_turn_137 (zqs_r (j := 10) (by unfold zqi; decide)) (by omega) (by decide) ?_
      refine V_aload_n d_Ref_turn_138 rfl ?_
      refine V_getf d_Ref_turn_139 ff_Ref_54 zqs_o rfl ?_
      refine V_iload d_Ref_turn_142 rfl ?_
      refine J_laload d_Ref_turn_144 (zqs_r (j := 13) (by unfold zqi; decide)) (by omega) (by decide) ?_
      rw [zlu_s, zlu_n (show 13 ≠ 10 by decide), zif_r (show ¬ (0 ≤ (i : Int) ∧ (i : Int) < i) by omega)]
      refine J_ladd d_Ref_turn_145 ?_
      refine J_lastore d_Ref_turn_146 (zqs_r (j := 10) (by unfold zqi; decide)) (by omega) (by decide) ?_
      refine J_iinc d_Ref_turn_147 rfl (by decide) ?_
      refine V_goto 121 d_Ref_turn_150 (by decide) ?_
      exact V_w (by rw [zqs_lu (by unfold zqi; decide), zlu_s, zif_s (by omega) rfl, zlu_lu] <;> rfl) ih
    refine zfor nn (fun i : Nat => V G M_Ref_turn (zdet (some (.int (Int32.ofInt ((zBu (zNz t ((zqPh nn c (zqTnA nn c l g A)) 12) nn) 27 : Nat) : Int)))) (zqs G C 0 kd nn t tu ch ke (zqPh nn c (zqTnA nn c l g A)) w0) sz) (zR 5 0 0 125) 0 0 sz 121 [(0, .ref C), (1, .int (Int32.ofInt (c : Int))), (2, .int (Int32.ofInt (l : Int))), (3, .int (Int32.ofInt g)), (4, .int (Int32.ofInt (i : Int)))] [] (zqs G C 0 kd nn t tu ch ke (zlu (zqT2A nn l g A) 10 (zif (i : Int) (fun i => (zqT2A nn l g A) 10 i + (zqT2A nn l g A) 13 i) ((zqT2A nn l g A) 10))) w0)) ?_ st_121 0 (Nat.zero_le nn)
    refine V_iload d_Ref_turn_121 rfl ?_
    refine V_aload_n d_Ref_turn_123 rfl ?_
    refine V_getf d_Ref_turn_124 ff_Ref_7 zqs_o rfl ?_
    refine J_icmp_ge 153 d_Ref_turn_127 (by decide) (by omega) (by omega) (fun c_127 => ?_) (fun c_127 => absurd c_127 (by omega))
    refine V_aload_n d_Ref_turn_153 rfl ?_
    refine V_getf d_Ref_turn_154 ff_Ref_39 zqs_o rfl ?_
    refine V_iload_n d_Ref_turn_157 rfl ?_
    refine V_iconst d_Ref_turn_158 ?_
    refine J_iastore d_Ref_turn_159 zqs_a8 (by omega) (by decide) ?_
    refine V_w zqs_u8 ?_
    refine V_aload_n d_Ref_turn_160 rfl ?_
    refine V_iload_n d_Ref_turn_161 rfl ?_
    refine V_iconst d_Ref_turn_162 ?_
    refine V_aload_n d_Ref_turn_163 rfl ?_
    refine V_getf d_Ref_turn_164 ff_Ref_45 zqs_o rfl ?_
    refine V_callV (n := 3) d_Ref_turn_167 g_Ref_152 rfl zqs_o rfl (r_put G _ C 0 kd nn t tu ch ke (zlu (zqAd nn 10 13 (zqT2A nn l g A)) 8 (zu ((zqAd nn 10 13 (zqT2A nn l g A)) 8) c 2)) w0 nn rfl hn c 0 10 hc (by decide) (by unfold zqi; decide) (fun j hj => by have h1 := aw j hj; have h2 : 0 ≤ (zqT2A nn l g A) 13 j ∧ (zqT2A nn l g A) 13 j < 268435399 := au j hj; show -9223372036854775808 ≤ zif nn (fun i => (zqT2A nn l g A) 10 i + (zqT2A nn l g A) 13 i) ((zqT2A nn l g A) 10) j ∧ zif nn (fun i => (zqT2A nn l g A) 10 i + (zqT2A nn l g A) 13 i) ((zqT2A nn l g A) 10) j < 9223372036854775808; rw [zif_l (by omega)]; exact ⟨by omega, by omega⟩)) ⟨co_Ref_put, by decide +kernel, Nat.le_of_ble_eq_true rfl⟩ ⟨Nat.le_of_ble_eq_true rfl, Nat.le_of_ble_eq_true rfl, Nat.le_of_ble_eq_true rfl, Nat.le_of_ble_eq_true rfl⟩ (Nat.le_of_ble_eq_true rfl) (fun r_167 w_167 s_167 q_167 => ?_) (fun _ _ _ q => False.elim q)
    obtain ⟨rfl, rfl, rfl⟩ := q_167
    refine V_aload_n d_Ref_turn_170 rfl ?_
    refine V_iload_n d_Ref_turn_171 rfl ?_
    refine V_iconst d_Ref_turn_172 ?_
    refine V_aload_n d_Ref_turn_173 rfl ?_
    refine V_getf d_Ref_turn_174 ff_Ref_57 zqs_o rfl ?_
    refine V_callV (n := 3) d_Ref_turn_177 g_Ref_152 rfl zqs_o rfl (r_put G _ C 0 kd nn t tu ch ke (zqPu nn c 0 10 (zlu (zqAd nn 10 13 (zqT2A nn l g A)) 8 (zu ((zqAd nn 10 13 (zqT2A nn l g A)) 8) c 2))) w0 nn rfl hn c 1 14 hc (by decide) (by unfold zqi; decide) (fun j hj => by have h2 := av j hj; show -9223372036854775808 ≤ A 14 j ∧ A 14 j < 9223372036854775808; exact ⟨by omega, by omega⟩)) ⟨co_Ref_put, by decide +kernel, Nat.le_of_ble_eq_true rfl⟩ ⟨Nat.le_of_ble_eq_true rfl, Nat.le_of_ble_eq_true rfl, Nat.le_of_ble_eq_true rfl, Nat.le_of_ble_eq_true rfl⟩ (Nat.le_of_ble_eq_true rfl) (fun r_177 w_177 s_177 q_177 => ?_) (fun _ _ _ q => False.elim q)
    obtain ⟨rfl, rfl, rfl⟩ := q_177
    refine V_aload_n d_Ref_turn_180 rfl ?_
    refine V_iload_n d_Ref_turn_181 rfl ?_
    refine V_callV (n := 1) d_Ref_turn_182 g_Ref_156 rfl zqs_o rfl (r_budget G _ C 0 kd nn t tu ch ke (zqPu nn c 1 14 (zqPu nn c 0 10 (zlu (zqAd nn 10 13 (zqT2A nn l g A)) 8 (zu ((zqAd nn 10 13 (zqT2A nn l g A)) 8) c 2)))) w0 nn rfl hn c hc (show 0 ≤ zu ((zqAd nn 10 13 (zqT2A nn l g A)) 8) (c : Int) 2 c ∧ zu ((zqAd nn 10 13 (zqT2A nn l g A)) 8) (c : Int) 2 c ≤ 3 from by rw [zu_s]; decide) (zqPu_b (zqPu_b (show ∀ j : Int, 0 ≤ j → j < 1536 → 0 ≤ A 9 j ∧ A 9 j < 268435399 from by rw [a9]; exact hPa))) (show ∀ j : Int, 0 ≤ j → j < 32 → -1 ≤ A 1 j ∧ A 1 j ≤ 1 from by rw [a1]; exact hSa) ht) ⟨co_Ref_budget, by decide +kernel, Nat.le_of_ble_eq_true rfl⟩ ⟨Nat.le_of_ble_eq_true rfl, Nat.le_of_ble_eq_true rfl, Nat.le_of_ble_eq_true rfl, Nat.le_of_ble_eq_true rfl⟩ (Nat.le_of_ble_eq_true rfl) (fun r_182 w_182 s_182 q_182 => ?_) (fun _ _ _ q => False.elim q)
    obtain ⟨rfl, rfl, rfl⟩ := q_182
    exact V_ireturn d_Ref_turn_185 rfl ⟨Nat.le_of_ble_eq_true rfl, Nat.le_of_ble_eq_true rfl⟩ ⟨rfl, rfl, rfl⟩
  refine V_aload_n d_Ref_turn_0 rfl ?_
  refine V_iload_n d_Ref_turn_1 rfl ?_
  refine V_callS (n := 1) d_Ref_turn_2 g_Ref_138 rfl (r_noCipher_n G _ _ c (by omega)) ⟨co_Ref_noCipher, by decide +kernel, Nat.le_of_ble_eq_true rfl⟩ ⟨Nat.le_of_ble_eq_true rfl, Nat.le_of_ble_eq_true rfl, Nat.le_of_ble_eq_true rfl, Nat.le_of_ble_eq_true rfl⟩ (Nat.le_of_ble_eq_true rfl) (fun r_2 w_2 s_2 q_2 => ?_) (fun _ _ _ q => False.elim q)
  obtain ⟨rfl, rfl, rfl⟩ := q_2
  refine J_if_ne 16 d_Ref_turn_5 (by decide) (by decide) (fun c_5 => absurd rfl c_5) (fun c_5 => ?_)
  refine V_aload_n d_Ref_turn_8 rfl ?_
  refine V_iload_n d_Ref_turn_9 rfl ?_
  refine V_callV (n := 1) d_Ref_turn_10 g_Ref_180 rfl zqs_o rfl (r_emptyI_n G _ C th kd nn t tu ch ke L w0 l (by omega) hfl) ⟨co_Ref_empty_I, by decide +kernel, Nat.le_of_ble_eq_true rfl⟩ ⟨Nat.le_of_ble_eq_true rfl, Nat.le_of_ble_eq_true rfl, Nat.le_of_ble_eq_true rfl, Nat.le_of_ble_eq_true rfl⟩ (Nat.le_of_ble_eq_true rfl) (fun r_10 w_10 s_10 q_10 => ?_) (fun _ _ _ q => False.elim q)
  obtain ⟨rfl, rfl, rfl⟩ := q_10
  refine J_if_eq 20 d_Ref_turn_13 (by decide) (by decide) (fun c_13 => ?_) (fun c_13 => absurd rfl c_13)
  refine V_aload_n d_Ref_turn_20 rfl ?_
  refine V_iload_n d_Ref_turn_21 rfl ?_
  refine V_callV (n := 1) d_Ref_turn_22 g_Ref_131 rfl zqs_o rfl (r_find G _ C th kd nn t tu ch ke L w0 g hg htu htr) ⟨co_Ref_find, by decide +kernel, Nat.le_of_ble_eq_true rfl⟩ ⟨Nat.le_of_ble_eq_true rfl, Nat.le_of_ble_eq_true rfl, Nat.le_of_ble_eq_true rfl, Nat.le_of_ble_eq_true rfl⟩ (Nat.le_of_ble_eq_true rfl) (fun r_22 w_22 s_22 q_22 => ?_) (fun _ _ _ q => False.elim q)
  obtain ⟨rfl, rfl, rfl⟩ := q_22
  rw [hfd]
  refine J_if_eq 38 d_Ref_turn_25 (by decide) (by omega) (fun c_25 => absurd c_25 (by omega)) (fun c_25 => ?_)
  refine V_aload_n d_Ref_turn_28 rfl ?_
  refine V_getf d_Ref_turn_29 ff_Ref_39 zqs_o rfl ?_
  refine V_iload_n d_Ref_turn_32 rfl ?_
  refine J_iaload d_Ref_turn_33 zqs_a8 (by omega) (by decide) ?_
  refine V_iconst d_Ref_turn_34 ?_
  refine J_icmp_ne 42 d_Ref_turn_35 (by decide) (by omega) (by omega) (fun c_35 => ?_) (fun c_35 => absurd c_35 (by omega))
  refine V_iconst d_Ref_turn_42 ?_
  refine V_putf d_Ref_turn_43 ff_Ref_69 zqs_o ⟨_, _, _, _, rfl, rfl, rfl, rfl, rfl⟩ (Nat.le_of_ble_eq_true rfl) ?_
  refine V_w (zqs_f (th' := 0) rfl) ?_
  refine V_aload_n d_Ref_turn_46 rfl ?_
  refine V_getf d_Ref_turn_47 ff_Ref_69 zqs_o rfl ?_
  refine J_if_le 55 d_Ref_turn_50 (by decide) (by decide) (fun c_50 => ?_) (fun c_50 => absurd c_50 (by decide))
  refine V_aload_n d_Ref_turn_55 rfl ?_
  refine V_iload_n d_Ref_turn_56 rfl ?_
  refine V_iconst d_Ref_turn_57 ?_
  refine V_aload_n d_Ref_turn_58 rfl ?_
  refine V_getf d_Ref_turn_59 ff_Ref_48 zqs_o rfl ?_
  refine V_callV (n := 3) d_Ref_turn_62 g_Ref_159 rfl zqs_o rfl (r_take G _ C 0 kd nn t tu ch ke L w0 nn rfl hn l 1 11 hl (by decide) (by unfold zqi; decide) (by show _ ≤ L 8 l ∧ L 8 l < _; omega)) ⟨co_Ref_take, by decide +kernel, Nat.le_of_ble_eq_true rfl⟩ ⟨Nat.le_of_ble_eq_true rfl, Nat.le_of_ble_eq_true rfl, Nat.le_of_ble_eq_true rfl, Nat.le_of_ble_eq_true rfl⟩ (Nat.le_of_ble_eq_true rfl) (fun r_62 w_62 s_62 q_62 => ?_) (fun _ _ _ q => False.elim q)
  obtain ⟨rfl, rfl, rfl⟩ := q_62
  refine V_aload_n d_Ref_turn_65 rfl ?_
  refine V_aload_n d_Ref_turn_66 rfl ?_
  refine V_getf d_Ref_turn_67 ff_Ref_48 zqs_o rfl ?_
  refine V_iload_n d_Ref_turn_70 rfl ?_
  refine V_aload_n d_Ref_turn_71 rfl ?_
  refine V_getf d_Ref_turn_72 ff_Ref_45 zqs_o rfl ?_
  refine V_callV (n := 3) d_Ref_turn_75 g_Ref_134 rfl zqs_o rfl (r_turned G _ C 0 kd nn t tu ch ke (zqTk nn l 1 11 L) w0 nn rfl hn 11 10 g (by unfold zqi; decide) (by unfold zqi; decide) (by decide) hgg) ⟨co_Ref_turned, by decide +kernel, Nat.le_of_ble_eq_true rfl⟩ ⟨Nat.le_of_ble_eq_true rfl, Nat.le_of_ble_eq_true rfl, Nat.le_of_ble_eq_true rfl, Nat.le_of_ble_eq_true rfl⟩ (Nat.le_of_ble_eq_true rfl) (fun r_75 w_75 s_75 q_75 => ?_) (fun _ _ _ q => False.elim q)
  obtain ⟨rfl, rfl, rfl⟩ := q_75
  refine V_aload_n d_Ref_turn_78 rfl ?_
  refine V_aload_n d_Ref_turn_79 rfl ?_
  refine V_getf d_Ref_turn_80 ff_Ref_45 zqs_o rfl ?_
  refine V_callV (n := 1) d_Ref_turn_83 g_Ref_195 rfl zqs_o rfl (r_reduce G _ C 0 kd nn t tu ch ke (zqTu nn 11 10 g (zqTk nn l 1 11 L)) w0 nn rfl hn 10 (by unfold zqi; decide) hW) ⟨co_Ref_reduce, by decide +kernel, Nat.le_of_ble_eq_true rfl⟩ ⟨Nat.le_of_ble_eq_true rfl, Nat.le_of_ble_eq_true rfl, Nat.le_of_ble_eq_true rfl, Nat.le_of_ble_eq_true rfl⟩ (Nat.le_of_ble_eq_true rfl) (fun r_83 w_83 s_83 q_83 => ?_) (fun _ _ _ q => False.elim q)
  obtain ⟨rfl, rfl, rfl⟩ := q_83
  refine V_aload_n d_Ref_turn_86 rfl ?_
  refine V_aload_n d_Ref_turn_87 rfl ?_
  refine V_iload_n d_Ref_turn_88 rfl ?_
  refine V_callV (n := 1) d_Ref_turn_89 g_Ref_131 rfl zqs_o rfl (r_find G _ C 0 kd nn t tu ch ke (zqT1 nn l g L) w0 g hg htu htr) ⟨co_Ref_find, by decide +kernel, Nat.le_of_ble_eq_true rfl⟩ ⟨Nat.le_of_ble_eq_true rfl, Nat.le_of_ble_eq_true rfl, Nat.le_of_ble_eq_true rfl, Nat.le_of_ble_eq_true rfl⟩ (Nat.le_of_ble_eq_true rfl) (fun r_89 w_89 s_89 q_89 => ?_) (fun _ _ _ q => False.elim q)
  obtain ⟨rfl, rfl, rfl⟩ := q_89
  rw [show zqf ((zqT1 nn l g L) 6) tu g 5 1 = p from hfd]
  refine V_callV (n := 1) d_Ref_turn_92 g_Ref_192 rfl zqs_o rfl (r_applied G _ C 0 kd nn t tu ch ke (zqT1 nn l g L) w0 nn rfl hn p (by omega) (fun i hi => by show 0 ≤ zif nn (fun i => (zqTu nn 11 10 g (zqTk nn l 1 11 L)) 10 i % 268435399) ((zqTu nn 11 10 g (zqTk nn l 1 11 L)) 10) i ∧ zif nn (fun i => (zqTu nn 11 10 g (zqTk nn l 1 11 L)) 10 i % 268435399) ((zqTu nn 11 10 g (zqTk nn l 1 11 L)) 10) i < 268435456; rw [zif_l (by omega)]; have h := zqm ((zqTu nn 11 10 g (zqTk nn l 1 11 L)) 10 i); exact ⟨h.1, by omega⟩) hFi hSe) ⟨co_Ref_applied, by decide +kernel, Nat.le_of_ble_eq_true rfl⟩ ⟨Nat.le_of_ble_eq_true rfl, Nat.le_of_ble_eq_true rfl, Nat.le_of_ble_eq_true rfl, Nat.le_of_ble_eq_true rfl⟩ (Nat.le_of_ble_eq_true rfl) (fun r_92 w_92 s_92 q_92 => ?_) (fun _ _ _ q => False.elim q)
  obtain ⟨rfl, rfl, rfl⟩ := q_92
  exact key (zqAp nn p (zqT1 nn l g L) 6) (zqAp_o (by decide) 6) (zqAp_o (by decide) 6) (zqAp_o (by decide) 6) (fun i hi => zqAp_u hi 6) (fun i hi => zqAp_v hi 6) hW2

