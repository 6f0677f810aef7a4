set_option maxRecDepth 100000 in
set_option maxHeartbeats 4000000 in
theorem r_empty (G : zG) (sz C : Nat) (th kd n t tu : Int) (ch : Int32) (ke : Int) (L : Nat → Int → Int) (w0 : zW) : zCt G M_Ref_empty_ (zR 0 0 0 0) [.ref C] sz (zqs G C th kd n t tu ch ke L w0) (zdet none (zqs G C th kd n t tu ch ke (zlu L 8 (zif 16 (fun _ => 0) (L 8))) w0) sz) := by
  refine V_iconst d_Ref_empty__0 ?_
  refine V_istore_n d_Ref_empty__1 (by decide) ?_
  refine V_w (w' := (zqs G C th kd n t tu ch ke (zlu L 8 (zif ((0 : Nat) : Int) (fun _ => 0) (L 8))) w0)) (by rw [show ((0 : Nat) : Int) = 0 from rfl, zif_0, ← zqs_u8, zset_self zqs_a8]) ?_
  refine zfor 16 (fun i => V G M_Ref_empty_ (zdet none (zqs G C th kd n t tu ch ke (zlu L 8 (zif 16 (fun _ => 0) (L 8))) w0) sz) (zR 0 0 0 0) 0 0 sz 2 [(0, .ref C), (1, .int (Int32.ofInt (i : Int)))] [] (zqs G C th kd n t tu ch ke (zlu L 8 (zif (i : Int) (fun _ => 0) (L 8))) w0)) ?_ (fun i hi ih => ?_) 0 (Nat.zero_le 16)
  · skip
    refine V_iload_n d_Ref_empty__2 rfl ?_
    refine J_bipush d_Ref_empty__3 (by decide) ?_
    refine J_icmp_ge 21 d_Ref_empty__5 (by decide) (by omega) (by omega) (fun c_5 => ?_) (fun c_5 => absurd c_5 (by omega))
    exact V_return d_Ref_empty__21 rfl ⟨Nat.le_of_ble_eq_true rfl, Nat.le_of_ble_eq_true rfl⟩ ⟨rfl, rfl, rfl⟩
  · skip
    refine V_iload_n d_Ref_empty__2 rfl ?_
    refine J_bipush d_Ref_empty__3 (by decide) ?_
    refine J_icmp_ge 21 d_Ref_empty__5 (by decide) (by omega) (by omega) (fun c_5 => absurd c_5 (by omega)) (fun c_5 => ?_)
    refine V_aload_n d_Ref_empty__8 rfl ?_
    refine V_getf d_Ref_empty__9 ff_Ref_39 zqs_o rfl ?_
    refine V_iload_n d_Ref_empty__12 rfl ?_
    refine V_iconst d_Ref_empty__13 ?_
    refine J_iastore d_Ref_empty__14 zqs_a8 (by omega) (by decide) ?_
    refine J_iinc d_Ref_empty__15 rfl (by decide) ?_
    refine V_goto 2 d_Ref_empty__18 (by decide) ?_
    exact V_w (by rw [zqs_u8, zlu_s, zif_s (by omega) rfl, zlu_lu]; rfl) ih

set_option maxRecDepth 100000 in
set_option maxHeartbeats 4000000 in
theorem r_noPlain_y (G : zG) (sz : Nat) (w : zW) (p : Int) (hp : -2147483648 ≤ p ∧ p < 2147483648) (hb : p < 0 ∨ 7 < p) : zCt G M_Ref_noPlain (zR 0 0 0 0) [.int (Int32.ofInt p)] sz w (zdet (some (.int (Int32.ofInt 1))) w sz) := by
  by_cases h0 : p < 0
  · skip
    refine V_iload_n d_Ref_noPlain_0 rfl ?_
    refine J_if_lt 10 d_Ref_noPlain_1 (by decide) (by omega) (fun c_1 => ?_) (fun c_1 => absurd c_1 (by omega))
    refine V_iconst d_Ref_noPlain_10 ?_
    refine V_goto 15 d_Ref_noPlain_11 (by decide) ?_
    exact V_zreturn d_Ref_noPlain_15 rfl (by decide) ⟨Nat.le_of_ble_eq_true rfl, Nat.le_of_ble_eq_true rfl⟩ ⟨rfl, rfl, rfl⟩
  · skip
    refine V_iload_n d_Ref_noPlain_0 rfl ?_
    refine J_if_lt 10 d_Ref_noPlain_1 (by decide) (by omega) (fun c_1 => absurd c_1 (by omega)) (fun c_1 => ?_)
    refine V_iload_n d_Ref_noPlain_4 rfl ?_
    refine J_bipush d_Ref_noPlain_5 (by decide) ?_
    refine J_icmp_le 14 d_Ref_noPlain_7 (by decide) (by omega) (by omega) (fun c_7 => absurd c_7 (by omega)) (fun c_7 => ?_)
    refine V_iconst d_Ref_noPlain_10 ?_
    refine V_goto 15 d_Ref_noPlain_11 (by decide) ?_
    exact V_zreturn d_Ref_noPlain_15 rfl (by decide) ⟨Nat.le_of_ble_eq_true rfl, Nat.le_of_ble_eq_true rfl⟩ ⟨rfl, rfl, rfl⟩

set_option maxRecDepth 100000 in
set_option maxHeartbeats 4000000 in
theorem r_noPlain_n (G : zG) (sz : Nat) (w : zW) (p : Int) (hp : 0 ≤ p ∧ p ≤ 7) : zCt G M_Ref_noPlain (zR 0 0 0 0) [.int (Int32.ofInt p)] sz w (zdet (some (.int (Int32.ofInt 0))) w sz) := by
  refine V_iload_n d_Ref_noPlain_0 rfl ?_
  refine J_if_lt 10 d_Ref_noPlain_1 (by decide) (by omega) (fun c_1 => absurd c_1 (by omega)) (fun c_1 => ?_)
  refine V_iload_n d_Ref_noPlain_4 rfl ?_
  refine J_bipush d_Ref_noPlain_5 (by decide) ?_
  refine J_icmp_le 14 d_Ref_noPlain_7 (by decide) (by omega) (by omega) (fun c_7 => ?_) (fun c_7 => absurd c_7 (by omega))
  refine V_iconst d_Ref_noPlain_14 ?_
  exact V_zreturn d_Ref_noPlain_15 rfl (by decide) ⟨Nat.le_of_ble_eq_true rfl, Nat.le_of_ble_eq_true rfl⟩ ⟨rfl, rfl, rfl⟩

set_option maxRecDepth 100000 in
set_option maxHeartbeats 4000000 in
theorem r_noCipher_y (G : zG) (sz : Nat) (w : zW) (p : Int) (hp : -2147483648 ≤ p ∧ p < 2147483648) (hb : p < 0 ∨ 15 < p) : zCt G M_Ref_noCipher (zR 0 0 0 0) [.int (Int32.ofInt p)] sz w (zdet (some (.int (Int32.ofInt 1))) w sz) := by
  by_cases h0 : p < 0
  · skip
    refine V_iload_n d_Ref_noCipher_0 rfl ?_
    refine J_if_lt 10 d_Ref_noCipher_1 (by decide) (by omega) (fun c_1 => ?_) (fun c_1 => absurd c_1 (by omega))
    refine V_iconst d_Ref_noCipher_10 ?_
    refine V_goto 15 d_Ref_noCipher_11 (by decide) ?_
    exact V_zreturn d_Ref_noCipher_15 rfl (by decide) ⟨Nat.le_of_ble_eq_true rfl, Nat.le_of_ble_eq_true rfl⟩ ⟨rfl, rfl, rfl⟩
  · skip
    refine V_iload_n d_Ref_noCipher_0 rfl ?_
    refine J_if_lt 10 d_Ref_noCipher_1 (by decide) (by omega) (fun c_1 => absurd c_1 (by omega)) (fun c_1 => ?_)
    refine V_iload_n d_Ref_noCipher_4 rfl ?_
    refine J_bipush d_Ref_noCipher_5 (by decide) ?_
    refine J_icmp_le 14 d_Ref_noCipher_7 (by decide) (by omega) (by omega) (fun c_7 => absurd c_7 (by omega)) (fun c_7 => ?_)
    refine V_iconst d_Ref_noCipher_10 ?_
    refine V_goto 15 d_Ref_noCipher_11 (by decide) ?_
    exact V_zreturn d_Ref_noCipher_15 rfl (by decide) ⟨Nat.le_of_ble_eq_true rfl, Nat.le_of_ble_eq_true rfl⟩ ⟨rfl, rfl, rfl⟩

set_option maxRecDepth 100000 in
set_option maxHeartbeats 4000000 in
theorem r_noCipher_n (G : zG) (sz : Nat) (w : zW) (p : Int) (hp : 0 ≤ p ∧ p ≤ 15) : zCt G M_Ref_noCipher (zR 0 0 0 0) [.int (Int32.ofInt p)] sz w (zdet (some (.int (Int32.ofInt 0))) w sz) := by
  refine V_iload_n d_Ref_noCipher_0 rfl ?_
  refine J_if_lt 10 d_Ref_noCipher_1 (by decide) (by omega) (fun c_1 => absurd c_1 (by omega)) (fun c_1 => ?_)
  refine V_iload_n d_Ref_noCipher_4 rfl ?_
  refine J_bipush d_Ref_noCipher_5 (by decide) ?_
  refine J_icmp_le 14 d_Ref_noCipher_7 (by decide) (by omega) (by omega) (fun c_7 => ?_) (fun c_7 => absurd c_7 (by omega))
  refine V_iconst d_Ref_noCipher_14 ?_
  exact V_zreturn d_Ref_noCipher_15 rfl (by decide) ⟨Nat.le_of_ble_eq_true rfl, Nat.le_of_ble_eq_true rfl⟩ ⟨rfl, rfl, rfl⟩

set_option maxRecDepth 100000 in
set_option maxHeartbeats 4000000 in
theorem r_emptyI_y (G : zG) (sz C : Nat) (th kd n t tu : Int) (ch : Int32) (ke : Int) (L : Nat → Int → Int) (w0 : zW) (p : Int) (hp : -2147483648 ≤ p ∧ p < 2147483648) (hb : p < 0 ∨ 15 < p) : zCt G M_Ref_empty_I (zR 1 0 0 20) [.ref C, .int (Int32.ofInt p)] sz (zqs G C th kd n t tu ch ke L w0) (zdet (some (.int (Int32.ofInt 1))) (zqs G C th kd n t tu ch ke L w0) sz) := by
  refine V_iload_n d_Ref_empty_I_0 rfl ?_
  refine V_callS (n := 1) d_Ref_empty_I_1 g_Ref_138 rfl (r_noCipher_y G _ _ p hp hb) ⟨co_Ref_noCipher, by decide +kernel, Nat.le_of_ble_eq_true rfl⟩ ⟨Nat.le_of_ble_eq_true rfl, Nat.le_of_ble_eq_true rfl, Nat.le_of_ble_eq_true rfl, Nat.le_of_ble_eq_true rfl⟩ (Nat.le_of_ble_eq_true rfl) (fun r_1 w_1 s_1 q_1 => ?_) (fun _ _ _ q => False.elim q)
  obtain ⟨rfl, rfl, rfl⟩ := q_1
  refine J_if_ne 16 d_Ref_empty_I_4 (by decide) (by decide) (fun c_4 => ?_) (fun c_4 => absurd c_4 (by decide))
  refine V_iconst d_Ref_empty_I_16 ?_
  refine V_goto 21 d_Ref_empty_I_17 (by decide) ?_
  exact V_zreturn d_Ref_empty_I_21 rfl (by decide) ⟨Nat.le_of_ble_eq_true rfl, Nat.le_of_ble_eq_true rfl⟩ ⟨rfl, rfl, rfl⟩

set_option maxRecDepth 100000 in
set_option maxHeartbeats 4000000 in
theorem r_emptyI_e (G : zG) (sz C : Nat) (th kd n t tu : Int) (ch : Int32) (ke : Int) (L : Nat → Int → Int) (w0 : zW) (p : Int) (hp : 0 ≤ p ∧ p ≤ 15) (he : L 8 p = 0) : zCt G M_Ref_empty_I (zR 1 0 0 20) [.ref C, .int (Int32.ofInt p)] sz (zqs G C th kd n t tu ch ke L w0) (zdet (some (.int (Int32.ofInt 1))) (zqs G C th kd n t tu ch ke L w0) sz) := by
  refine V_iload_n d_Ref_empty_I_0 rfl ?_
  refine V_callS (n := 1) d_Ref_empty_I_1 g_Ref_138 rfl (r_noCipher_n G _ _ p hp) ⟨co_Ref_noCipher, by decide +kernel, Nat.le_of_ble_eq_true rfl⟩ ⟨Nat.le_of_ble_eq_true rfl, Nat.le_of_ble_eq_true rfl, Nat.le_of_ble_eq_true rfl, Nat.le_of_ble_eq_true rfl⟩ (Nat.le_of_ble_eq_true rfl) (fun r_1 w_1 s_1 q_1 => ?_) (fun _ _ _ q => False.elim q)
  obtain ⟨rfl, rfl, rfl⟩ := q_1
  refine J_if_ne 16 d_Ref_empty_I_4 (by decide) (by decide) (fun c_4 => absurd rfl c_4) (fun c_4 => ?_)
  refine V_aload_n d_Ref_empty_I_7 rfl ?_
  refine V_getf d_Ref_empty_I_8 ff_Ref_39 zqs_o rfl ?_
  refine V_iload_n d_Ref_empty_I_11 rfl ?_
  refine J_iaload d_Ref_empty_I_12 zqs_a8 (by omega) (by decide) ?_
  refine J_if_ne 20 d_Ref_empty_I_13 (by decide) (by omega) (fun c_13 => absurd he c_13) (fun c_13 => ?_)
  refine V_iconst d_Ref_empty_I_16 ?_
  refine V_goto 21 d_Ref_empty_I_17 (by decide) ?_
  exact V_zreturn d_Ref_empty_I_21 rfl (by decide) ⟨Nat.le_of_ble_eq_true rfl, Nat.le_of_ble_eq_true rfl⟩ ⟨rfl, rfl, rfl⟩

set_option maxRecDepth 100000 in
set_option maxHeartbeats 4000000 in
theorem r_emptyI_n (G : zG) (sz C : Nat) (th kd n t tu : Int) (ch : Int32) (ke : Int) (L : Nat → Int → Int) (w0 : zW) (p : Int) (hp : 0 ≤ p ∧ p ≤ 15) (he : 0 < L 8 p ∧ L 8 p ≤ 3) : zCt G M_Ref_empty_I (zR 1 0 0 20) [.ref C, .int (Int32.ofInt p)] sz (zqs G C th kd n t tu ch ke L w0) (zdet (some (.int (Int32.ofInt 0))) (zqs G C th kd n t tu ch ke L w0) sz) := by
  refine V_iload_n d_Ref_empty_I_0 rfl ?_
  refine V_callS (n := 1) d_Ref_empty_I_1 g_Ref_138 rfl (r_noCipher_n G _ _ p hp) ⟨co_Ref_noCipher, by decide +kernel, Nat.le_of_ble_eq_true rfl⟩ ⟨Nat.le_of_ble_eq_true rfl, Nat.le_of_ble_eq_true rfl, Nat.le_of_ble_eq_true rfl, Nat.le_of_ble_eq_true rfl⟩ (Nat.le_of_ble_eq_true rfl) (fun r_1 w_1 s_1 q_1 => ?_) (fun _ _ _ q => False.elim q)
  obtain ⟨rfl, rfl, rfl⟩ := q_1
  refine J_if_ne 16 d_Ref_empty_I_4 (by decide) (by decide) (fun c_4 => absurd rfl c_4) (fun c_4 => ?_)
  refine V_aload_n d_Ref_empty_I_7 rfl ?_
  refine V_getf d_Ref_empty_I_8 ff_Ref_39 zqs_o rfl ?_
  refine V_iload_n d_Ref_empty_I_11 rfl ?_
  refine J_iaload d_Ref_empty_I_12 zqs_a8 (by omega) (by decide) ?_
  refine J_if_ne 20 d_Ref_empty_I_13 (by decide) (by omega) (fun c_13 => ?_) (fun c_13 => absurd c_13 (by omega))
  refine V_iconst d_Ref_empty_I_20 ?_
  exact V_zreturn d_Ref_empty_I_21 rfl (by decide) ⟨Nat.le_of_ble_eq_true rfl, Nat.le_of_ble_eq_true rfl⟩ ⟨rfl, rfl, rfl⟩

set_option maxRecDepth 100000 in
set_option maxHeartbeats 4000000 in
theorem r_find (G : zG) (sz C : Nat) (th kd n t tu : Int) (ch : Int32) (ke : Int) (L : Nat → Int → Int) (w0 : zW) (g : Int) (hg : -2147483648 ≤ g ∧ g < 2147483648) (htu : 0 ≤ tu ∧ tu ≤ 4) (htr : ∀ p : Nat, p < 5 → -2147483648 ≤ L 6 p ∧ L 6 p < 2147483648) : zCt G M_Ref_find (zR 0 0 0 0) [.ref C, .int (Int32.ofInt g)] sz (zqs G C th kd n t tu ch ke L w0) (zdet (some (.int (Int32.ofInt ((zqf (L 6) tu g 5 1 : Nat) : Int)))) (zqs G C th kd n t tu ch ke L w0) sz) := by
  have key : ∀ (f p : Nat), 1 ≤ p → (p : Int) + f = 6 → zqf (L 6) tu g 5 1 = zqf (L 6) tu g f p → V G M_Ref_find (zdet (some (.int (Int32.ofInt ((zqf (L 6) tu g 5 1 : Nat) : Int)))) (zqs G C th kd n t tu ch ke L w0) sz) (zR 0 0 0 0) 0 0 sz 2 [(0, .ref C), (1, .int (Int32.ofInt g)), (2, .int (Int32.ofInt (p : Int)))] [] (zqs G C th kd n t tu ch ke L w0) := by
    intro f
    induction f with
    | zero =>
      intro p h0 h3 h5
      refine V_iload_n d_Ref_find_2 rfl ?_
      refine V_aload_n d_Ref_find_3 rfl ?_
      refine V_getf d_Ref_find_4 ff_Ref_111 zqs_o rfl ?_
      refine J_icmp_gt 28 d_Ref_find_7 (by decide) (by omega) (by omega) (fun c_7 => ?_) (fun c_7 => absurd c_7 (by omega))
      refine V_iconst d_Ref_find_28 ?_
      exact V_ireturn d_Ref_find_29 rfl ⟨Nat.le_of_ble_eq_true rfl, Nat.le_of_ble_eq_true rfl⟩ ⟨by rw [h5]; rfl, rfl, rfl⟩
    | succ f ih =>
      intro p h0 h3 h5
      refine V_iload_n d_Ref_find_2 rfl ?_
      refine V_aload_n d_Ref_find_3 rfl ?_
      refine V_getf d_Ref_find_4 ff_Ref_111 zqs_o rfl ?_
      refine J_icmp_gt 28 d_Ref_find_7 (by decide) (by omega) (by omega) (fun c_7 => ?_) (fun c_7 => ?_)
      · skip
        refine V_iconst d_Ref_find_28 ?_
        exact V_ireturn d_Ref_find_29 rfl ⟨Nat.le_of_ble_eq_true rfl, Nat.le_of_ble_eq_true rfl⟩ ⟨by rw [h5]; unfold zqf; rw [if_neg (by omega)]; rfl, rfl, rfl⟩
      · skip
        refine V_aload_n d_Ref_find_10 rfl ?_
        refine V_getf d_Ref_find_11 ff_Ref_32 zqs_o rfl ?_
        refine V_iload_n d_Ref_find_14 rfl ?_
        refine J_iaload d_Ref_find_15 zqs_a6 (by omega) (by decide) ?_
        refine V_iload_n d_Ref_find_16 rfl ?_
        refine J_icmp_ne 22 d_Ref_find_17 (by decide) (htr p (by omega)) (by omega) (fun c_17 => ?_) (fun c_17 => ?_)
        · skip
          refine J_iinc d_Ref_find_22 rfl (by decide) ?_
          refine V_goto 2 d_Ref_find_25 (by decide) ?_
          exact ih (p + 1) (by omega) (by omega) (by rw [h5]; conv => { lhs; unfold zqf }; rw [if_pos (by omega), if_neg c_17])
        · skip
          refine V_iload_n d_Ref_find_20 rfl ?_
          exact V_ireturn d_Ref_find_21 rfl ⟨Nat.le_of_ble_eq_true rfl, Nat.le_of_ble_eq_true rfl⟩ ⟨by rw [h5]; unfold zqf; rw [if_pos (by omega), if_pos c_17], rfl, rfl⟩
  refine V_iconst d_Ref_find_0 ?_
  refine V_istore_n d_Ref_find_1 (by decide) ?_
  exact key 5 1 (Nat.le_refl _) (by omega) rfl

set_option maxRecDepth 100000 in
set_option maxHeartbeats 4000000 in
theorem r_power (G : zG) (sz C : Nat) (th kd n t tu : Int) (ch : Int32) (ke : Int) (L : Nat → Int → Int) (w0 : zW) (b : Int) (e : Nat) (ht : 1 < t ∧ t ≤ 1000) (hb : 0 ≤ b ∧ b ≤ 1000) (he : e < 100000) : zCt G M_Ref_power (zR 0 0 0 0) [.ref C, .int (Int32.ofInt b), .int (Int32.ofInt (e : Int))] sz (zqs G C th kd n t tu ch ke L w0) (zdet (some (.int (Int32.ofInt (zpm t b e)))) (zqs G C th kd n t tu ch ke L w0) sz) := by
  refine V_iconst d_Ref_power_0 ?_
  refine V_istore_n d_Ref_power_1 (by decide) ?_
  refine V_iconst d_Ref_power_2 ?_
  refine V_istore d_Ref_power_3 (by decide) ?_
  refine zfor e (fun i => V G M_Ref_power (zdet (some (.int (Int32.ofInt (zpm t b e)))) (zqs G C th kd n t tu ch ke L w0) sz) (zR 0 0 0 0) 0 0 sz 5 [(0, .ref C), (1, .int (Int32.ofInt b)), (2, .int (Int32.ofInt (e : Int))), (3, .int (Int32.ofInt (zpm t b i))), (4, .int (Int32.ofInt (i : Int)))] [] (zqs G C th kd n t tu ch ke L w0)) ?_ (fun i hi ih => ?_) 0 (Nat.zero_le e)
  · skip
    refine V_iload d_Ref_power_5 rfl ?_
    refine V_iload_n d_Ref_power_7 rfl ?_
    refine J_icmp_ge 26 d_Ref_power_8 (by decide) (by omega) (by omega) (fun c_8 => ?_) (fun c_8 => absurd c_8 (by omega))
    refine V_iload_n d_Ref_power_26 rfl ?_
    exact V_ireturn d_Ref_power_27 rfl ⟨Nat.le_of_ble_eq_true rfl, Nat.le_of_ble_eq_true rfl⟩ ⟨rfl, rfl, rfl⟩
  · have hz := zpm_b (t := t) (b := b) ht.1 i
    have hm := Int.mul_nonneg hz.1 hb.1
    have hm2 : zpm t b i * b ≤ 1000 * 1000 := Int.mul_le_mul (by omega) hb.2 hb.1 (by decide)
    refine V_iload d_Ref_power_5 rfl ?_
    refine V_iload_n d_Ref_power_7 rfl ?_
    refine J_icmp_ge 26 d_Ref_power_8 (by decide) (by omega) (by omega) (fun c_8 => absurd c_8 (by omega)) (fun c_8 => ?_)
    refine V_iload_n d_Ref_power_11 rfl ?_
    refine V_iload_n d_Ref_power_12 rfl ?_
    refine J_imul d_Ref_power_13 ?_
    refine V_aload_n d_Ref_power_14 rfl ?_
    refine V_getf d_Ref_power_15 ff_Ref_13 zqs_o rfl ?_
    refine J_iremP d_Ref_power_18 (by omega) (by omega) ?_
    refine V_istore_n d_Ref_power_19 (by decide) ?_
    refine J_iinc d_Ref_power_20 rfl (by decide) ?_
    refine V_goto 5 d_Ref_power_23 (by decide) ?_
    exact ih

set_option maxRecDepth 100000 in
set_option maxHeartbeats 4000000 in
theorem r_root (G : zG) (sz C : Nat) (th kd n t tu : Int) (ch : Int32) (ke : Int) (L : Nat → Int → Int) (w0 : zW) (nn : Nat) (hnn : n = (nn : Int)) (hn : nn ≤ 32) (z : Int) (ht : 1 < t ∧ t ≤ 1000) (h2 : 2 ≤ z ∧ z < 1000) (hz : zpm t z nn = t - 1) (hno : ∀ c : Int, 2 ≤ c → c < z → ¬ zpm t c nn = t - 1) : zCt G M_Ref_root (zR 1 0 0 24) [.ref C] sz (zqs G C th kd n t tu ch ke L w0) (zdet (some (.int (Int32.ofInt z))) (zqs G C th kd n t tu ch ke L w0) sz) := by
  subst hnn
  have key : ∀ (f : Nat) (c : Int), 2 ≤ c → c ≤ z → z - c = f → V G M_Ref_root (zdet (some (.int (Int32.ofInt z))) (zqs G C th kd nn t tu ch ke L w0) sz) (zR 1 0 0 24) 0 0 sz 2 [(0, .ref C), (1, .int (Int32.ofInt c))] [] (zqs G C th kd nn t tu ch ke L w0) := by
    intro f
    induction f with
    | zero =>
      intro c h1 h2 h3
      have e : c = z := by omega
      subst e
      refine V_aload_n d_Ref_root_2 rfl ?_
      refine V_iload_n d_Ref_root_3 rfl ?_
      refine V_aload_n d_Ref_root_4 rfl ?_
      refine V_getf d_Ref_root_5 ff_Ref_7 zqs_o rfl ?_
      refine V_callV (n := 2) d_Ref_root_8 g_Ref_145 rfl zqs_o rfl (r_power G _ C th kd nn t tu ch ke L w0 c nn ht (by omega) (by omega)) ⟨co_Ref_power, by decide +kernel, Nat.le_of_ble_eq_true rfl⟩ ⟨Nat.le_of_ble_eq_true rfl, Nat.le_of_ble_eq_true rfl, Nat.le_of_ble_eq_true rfl, Nat.le_of_ble_eq_true rfl⟩ (Nat.le_of_ble_eq_true rfl) (fun r_8 w_8 s_8 q_8 => ?_) (fun _ _ _ q => False.elim q)
      obtain ⟨rfl, rfl, rfl⟩ := q_8
      refine V_aload_n d_Ref_root_11 rfl ?_
      refine V_getf d_Ref_root_12 ff_Ref_13 zqs_o rfl ?_
      refine V_iconst d_Ref_root_15 ?_
      refine J_isub d_Ref_root_16 ?_
      refine J_icmp_eq 26 d_Ref_root_17 (by decide) (by have := zpm_b (t := t) (b := c) ht.1 nn; omega) (by omega) (fun c_17 => ?_) (fun c_17 => absurd hz c_17)
      refine V_iload_n d_Ref_root_26 rfl ?_
      exact V_ireturn d_Ref_root_27 rfl ⟨Nat.le_of_ble_eq_true rfl, Nat.le_of_ble_eq_true rfl⟩ ⟨rfl, rfl, rfl⟩
    | succ f ih =>
      intro c h1 h2 h3
      refine V_aload_n d_Ref_root_2 rfl ?_
      refine V_iload_n d_Ref_root_3 rfl ?_
      refine V_aload_n d_Ref_root_4 rfl ?_
      refine V_getf d_Ref_root_5 ff_Ref_7 zqs_o rfl ?_
      refine V_callV (n := 2) d_Ref_root_8 g_Ref_145 rfl zqs_o rfl (r_power G _ C th kd nn t tu ch ke L w0 c nn ht (by omega) (by omega)) ⟨co_Ref_power, by decide +kernel, Nat.le_of_ble_eq_true rfl⟩ ⟨Nat.le_of_ble_eq_true rfl, Nat.le_of_ble_eq_true rfl, Nat.le_of_ble_eq_true rfl, Nat.le_of_ble_eq_true rfl⟩ (Nat.le_of_ble_eq_true rfl) (fun r_8 w_8 s_8 q_8 => ?_) (fun _ _ _ q => False.elim q)
      obtain ⟨rfl, rfl, rfl⟩ := q_8
      refine V_aload_n d_Ref_root_11 rfl ?_
      refine V_getf d_Ref_root_12 ff_Ref_13 zqs_o rfl ?_
      refine V_iconst d_Ref_root_15 ?_
      refine J_isub d_Ref_root_16 ?_
      refine J_icmp_eq 26 d_Ref_root_17 (by decide) (by have := zpm_b (t := t) (b := c) ht.1 nn; omega) (by omega) (fun c_17 => absurd c_17 (hno c h1 (by omega))) (fun c_17 => ?_)
      refine J_iinc d_Ref_root_20 rfl (by decide) ?_
      refine V_goto 2 d_Ref_root_23 (by decide) ?_
      exact ih (c + 1) (by omega) (by omega) (by omega)
  refine V_iconst d_Ref_root_0 ?_
  refine V_istore_n d_Ref_root_1 (by decide) ?_
  exact key (z - 2).toNat 2 (by omega) (by omega) (by omega)

set_option maxRecDepth 100000 in
set_option maxHeartbeats 4000000 in
theorem r_take (G : zG) (sz C : Nat) (th kd n t tu : Int) (ch : Int32) (ke : Int) (L : Nat → Int → Int) (w0 : zW) (nn : Nat) (hnn : n = (nn : Int)) (hn : nn ≤ 32) (c k d : Nat) (hc : c < 16) (hk : k < 3) (hd : zqi d) (hp : -2147483648 ≤ L 8 c ∧ L 8 c < 2147483648) : zCt G M_Ref_take (zR 0 0 0 0) [.ref C, .int (Int32.ofInt (c : Int)), .int (Int32.ofInt (k : Int)), .ref (C + d)] sz (zqs G C th kd n t tu ch ke L w0) (zdet none (zqs G C th kd n t tu ch ke (zqTk nn c k d L) w0) sz) := by
  subst hnn
  have h8 : 8 ≠ d := by unfold zqi at hd; omega
  have h9 : 9 ≠ d := by unfold zqi at hd; omega
  refine V_iconst d_Ref_take_0 ?_
  refine V_istore d_Ref_take_1 (by decide) ?_
  refine V_w (w' := (zqs G C th kd nn t tu ch ke (zlu L d (zif ((0 : Nat) : Int) (zqT c k L) (L d))) w0)) (by rw [show ((0 : Nat) : Int) = 0 from rfl, zif_0, ← zqs_lu hd, zset_self (zqs_r hd)]) ?_
  refine zfor nn (fun i => V G M_Ref_take (zdet none (zqs G C th kd nn t tu ch ke (zqTk nn c k d L) w0) sz) (zR 0 0 0 0) 0 0 sz 3 [(0, .ref C), (1, .int (Int32.ofInt (c : Int))), (2, .int (Int32.ofInt (k : Int))), (3, .ref (C + d)), (4, .int (Int32.ofInt (i : Int)))] [] (zqs G C th kd nn t tu ch ke (zlu L d (zif (i : Int) (zqT c k L) (L d))) w0)) ?_ (fun i hi ih => ?_) 0 (Nat.zero_le nn)
  · skip
    refine V_iload d_Ref_take_3 rfl ?_
    refine V_aload_n d_Ref_take_5 rfl ?_
    refine V_getf d_Ref_take_6 ff_Ref_7 zqs_o rfl ?_
    refine J_icmp_ge 52 d_Ref_take_9 (by decide) (by omega) (by omega) (fun c_9 => ?_) (fun c_9 => absurd c_9 (by omega))
    exact V_return d_Ref_take_52 rfl ⟨Nat.le_of_ble_eq_true rfl, Nat.le_of_ble_eq_true rfl⟩ ⟨rfl, rfl, rfl⟩
  · by_cases hs : (k : Int) < L 8 c
    · skip
      refine V_iload d_Ref_take_3 rfl ?_
      refine V_aload_n d_Ref_take_5 rfl ?_
      refine V_getf d_Ref_take_6 ff_Ref_7 zqs_o rfl ?_
      refine J_icmp_ge 52 d_Ref_take_9 (by decide) (by omega) (by omega) (fun c_9 => absurd c_9 (by omega)) (fun c_9 => ?_)
      refine V_aload_n d_Ref_take_12 rfl ?_
      refine V_iload d_Ref_take_13 rfl ?_
      refine V_iload_n d_Ref_take_15 rfl ?_
      refine V_aload_n d_Ref_take_16 rfl ?_
      refine V_getf d_Ref_take_17 ff_Ref_39 zqs_o rfl ?_
      refine V_iload_n d_Ref_take_20 rfl ?_
      refine J_iaload d_Ref_take_21 zqs_a8 (by omega) (by decide) ?_
      rw [zlu_n h8]
      refine J_icmp_ge 44 d_Ref_take_22 (by decide) (by omega) hp (fun c_22 => absurd c_22 (by omega)) (fun c_22 => ?_)
      refine V_aload_n d_Ref_take_25 rfl ?_
      refine V_getf d_Ref_take_26 ff_Ref_42 zqs_o rfl ?_
      refine V_iconst d_Ref_take_29 ?_
      refine V_iload_n d_Ref_take_30 rfl ?_
      refine J_imul d_Ref_take_31 ?_
      refine V_iload_n d_Ref_take_32 rfl ?_
      refine J_iadd d_Ref_take_33 ?_
      refine J_bipush d_Ref_take_34 (by decide) ?_
      refine J_imul d_Ref_take_36 ?_
      refine V_iload d_Ref_take_37 rfl ?_
      refine J_iadd d_Ref_take_39 ?_
      refine J_laload d_Ref_take_40 zqs_a9 (by omega) (by decide) ?_
      rw [zlu_n h9]
      refine V_goto 45 d_Ref_take_41 (by decide) ?_
      refine J_lastore d_Ref_take_45 (zqs_r hd) (by omega) (by decide) ?_
      refine J_iinc d_Ref_take_46 rfl (by decide) ?_
      refine V_goto 3 d_Ref_take_49 (by decide) ?_
      exact V_w (by rw [zqs_lu hd, zlu_s, zif_s (by omega) (show _ = zqT c k L i from by unfold zqT; rw [if_pos hs]), zlu_lu]; rfl) ih
    · skip
      refine V_iload d_Ref_take_3 rfl ?_
      refine V_aload_n d_Ref_take_5 rfl ?_
      refine V_getf d_Ref_take_6 ff_Ref_7 zqs_o rfl ?_
      refine J_icmp_ge 52 d_Ref_take_9 (by decide) (by omega) (by omega) (fun c_9 => absurd c_9 (by omega)) (fun c_9 => ?_)
      refine V_aload_n d_Ref_take_12 rfl ?_
      refine V_iload d_Ref_take_13 rfl ?_
      refine V_iload_n d_Ref_take_15 rfl ?_
      refine V_aload_n d_Ref_take_16 rfl ?_
      refine V_getf d_Ref_take_17 ff_Ref_39 zqs_o rfl ?_
      refine V_iload_n d_Ref_take_20 rfl ?_
      refine J_iaload d_Ref_take_21 zqs_a8 (by omega) (by decide) ?_
      rw [zlu_n h8]
      refine J_icmp_ge 44 d_Ref_take_22 (by decide) (by omega) hp (fun c_22 => ?_) (fun c_22 => absurd c_22 (by omega))
      refine J_lconst (z := 0) d_Ref_take_44 rfl ?_
      refine J_lastore d_Ref_take_45 (zqs_r hd) (by omega) (by decide) ?_
      refine J_iinc d_Ref_take_46 rfl (by decide) ?_
      refine V_goto 3 d_Ref_take_49 (by decide) ?_
      exact V_w (by rw [zqs_lu hd, zlu_s, zif_s (by omega) (show _ = zqT c k L i from by unfold zqT; rw [if_neg hs]), zlu_lu]; rfl) ih

set_option maxRecDepth 100000 in
set_option maxHeartbeats 4000000 in
theorem r_put (G : zG) (sz C : Nat) (th kd n t tu : Int) (ch : Int32) (ke : Int) (L : Nat → Int → Int) (w0 : zW) (nn : Nat) (hnn : n = (nn : Int)) (hn : nn ≤ 32) (c k a : Nat) (hc : c < 16) (hk : k < 3) (ha : zqi a) (hA : ∀ j : Nat, j < nn → -9223372036854775808 ≤ L a j ∧ L a j < 9223372036854775808) : zCt G M_Ref_put (zR 1 0 0 23) [.ref C, .int (Int32.ofInt (c : Int)), .int (Int32.ofInt (k : Int)), .ref (C + a)] sz (zqs G C th kd n t tu ch ke L w0) (zdet none (zqs G C th kd n t tu ch ke (zqPu nn c k a L) w0) sz) := by
  subst hnn
  have h9 : a ≠ 9 := by unfold zqi at ha; omega
  refine V_iconst d_Ref_put_0 ?_
  refine V_istore d_Ref_put_1 (by decide) ?_
  refine V_w (w' := (zqs G C th kd nn t tu ch ke (zlu L 9 (zsf ((3 * (c : Int) + k) * 32) ((0 : Nat) : Int) (fun i => L a i % 268435399) (L 9))) w0)) (by rw [show ((0 : Nat) : Int) = 0 from rfl, zsf_0, ← zqs_u9, zset_self zqs_a9]) ?_
  refine zfor nn (fun i => V G M_Ref_put (zdet none (zqs G C th kd nn t tu ch ke (zqPu nn c k a L) w0) sz) (zR 1 0 0 23) 0 0 sz 3 [(0, .ref C), (1, .int (Int32.ofInt (c : Int))), (2, .int (Int32.ofInt (k : Int))), (3, .ref (C + a)), (4, .int (Int32.ofInt (i : Int)))] [] (zqs G C th kd nn t tu ch ke (zlu L 9 (zsf ((3 * (c : Int) + k) * 32) (i : Int) (fun i => L a i % 268435399) (L 9))) w0)) ?_ (fun i hi ih => ?_) 0 (Nat.zero_le nn)
  · skip
    refine V_iload d_Ref_put_3 rfl ?_
    refine V_aload_n d_Ref_put_5 rfl ?_
    refine V_getf d_Ref_put_6 ff_Ref_7 zqs_o rfl ?_
    refine J_icmp_ge 41 d_Ref_put_9 (by decide) (by omega) (by omega) (fun c_9 => ?_) (fun c_9 => absurd c_9 (by omega))
    exact V_return d_Ref_put_41 rfl ⟨Nat.le_of_ble_eq_true rfl, Nat.le_of_ble_eq_true rfl⟩ ⟨rfl, rfl, rfl⟩
  · skip
    refine V_iload d_Ref_put_3 rfl ?_
    refine V_aload_n d_Ref_put_5 rfl ?_
    refine V_getf d_Ref_put_6 ff_Ref_7 zqs_o rfl ?_
    refine J_icmp_ge 41 d_Ref_put_9 (by decide) (by omega) (by omega) (fun c_9 => absurd c_9 (by omega)) (fun c_9 => ?_)
    refine V_aload_n d_Ref_put_12 rfl ?_
    refine V_getf d_Ref_put_13 ff_Ref_42 zqs_o rfl ?_
    refine V_iconst d_Ref_put_16 ?_
    refine V_iload_n d_Ref_put_17 rfl ?_
    refine J_imul d_Ref_put_18 ?_
    refine V_iload_n d_Ref_put_19 rfl ?_
    refine J_iadd d_Ref_put_20 ?_
    refine J_bipush d_Ref_put_21 (by decide) ?_
    refine J_imul d_Ref_put_23 ?_
    refine V_iload d_Ref_put_24 rfl ?_
    refine J_iadd d_Ref_put_26 ?_
    refine V_aload_n d_Ref_put_27 rfl ?_
    refine V_iload d_Ref_put_28 rfl ?_
    refine J_laload d_Ref_put_30 (zqs_r ha) (by omega) (by decide) ?_
    rw [zlu_n h9]
    refine V_callS (n := 1) d_Ref_put_31 g_Ref_74 rfl (r_of G _ _ (L a i) (hA i hi)) ⟨co_Ref_of, by decide +kernel, Nat.le_of_ble_eq_true rfl⟩ ⟨Nat.le_of_ble_eq_true rfl, Nat.le_of_ble_eq_true rfl, Nat.le_of_ble_eq_true rfl, Nat.le_of_ble_eq_true rfl⟩ (Nat.le_of_ble_eq_true rfl) (fun r_31 w_31 s_31 q_31 => ?_) (fun _ _ _ q => False.elim q)
    obtain ⟨rfl, rfl, rfl⟩ := q_31
    refine J_lastore d_Ref_put_34 zqs_a9 (by omega) (by decide) ?_
    refine J_iinc d_Ref_put_35 rfl (by decide) ?_
    refine V_goto 3 d_Ref_put_38 (by decide) ?_
    exact V_w (by rw [zqs_u9, zlu_s, zsf_s (by omega) rfl, zlu_lu]; rfl) ih

set_option maxRecDepth 100000 in
set_option maxHeartbeats 4000000 in
theorem r_scaled (G : zG) (sz C : Nat) (th kd n t tu : Int) (ch : Int32) (ke : Int) (L : Nat → Int → Int) (w0 : zW) (v : Int) (ht : 0 < t ∧ t ≤ 1000) (hv : -9223372036854775808 < v ∧ v < 9223372036854775808) : zCt G M_Ref_scaled (zR 0 0 0 0) [.ref C, .long (Int64.ofInt v)] sz (zqs G C th kd n t tu ch ke L w0) (zdet (some (.long (Int64.ofInt (zts t v)))) (zqs G C th kd n t tu ch ke L w0) sz) := by
  refine V_lload_n d_Ref_scaled_0 rfl ?_
  refine J_ldc2 d_Ref_scaled_1 k_Ref_72 ?_
  refine J_lrem d_Ref_scaled_4 (by omega) (by omega) ?_
  refine V_lstore_n d_Ref_scaled_5 (by decide) ?_
  refine V_lload_n d_Ref_scaled_6 rfl ?_
  refine J_ldc2 d_Ref_scaled_7 k_Ref_72 ?_
  refine J_ldiv d_Ref_scaled_10 (by omega) (by omega) ?_
  refine V_lstore d_Ref_scaled_11 (by decide) ?_
  refine V_lload_n d_Ref_scaled_13 rfl ?_
  refine J_lconst (z := 0) d_Ref_scaled_14 rfl ?_
  refine JL_ge 31 d_Ref_scaled_15 d_Ref_scaled_16 (by decide) (by have := ztmQ v; omega) (by omega) (fun c_15 => ?_) (fun c_15 => ?_)
  · skip
    refine V_aload_n d_Ref_scaled_31 rfl ?_
    refine V_getf d_Ref_scaled_32 ff_Ref_13 zqs_o rfl ?_
    refine J_i2l d_Ref_scaled_35 (by omega) ?_
    refine V_lload d_Ref_scaled_36 rfl ?_
    refine J_lmul d_Ref_scaled_38 ?_
    refine V_iconst d_Ref_scaled_39 ?_
    refine V_aload_n d_Ref_scaled_40 rfl ?_
    refine V_getf d_Ref_scaled_41 ff_Ref_13 zqs_o rfl ?_
    refine J_imul d_Ref_scaled_44 ?_
    refine J_i2l d_Ref_scaled_45 (by omega) ?_
    refine V_lload_n d_Ref_scaled_46 rfl ?_
    refine J_lmul d_Ref_scaled_47 ?_
    refine J_ldc2 d_Ref_scaled_48 k_Ref_72 ?_
    refine J_ladd d_Ref_scaled_51 ?_
    refine J_ldc2 d_Ref_scaled_52 k_Ref_178 ?_
    refine J_ldivP d_Ref_scaled_55 (by have hq := ztmQ v; have h1 := Int.mul_nonneg (show 0 ≤ 2 * t by omega) c_15; have h2 : 2 * t * v.tmod 268435399 ≤ 2000 * 268435399 := Int.mul_le_mul (by omega) (by omega) c_15 (by decide); omega) (by omega) ?_
    refine J_ladd d_Ref_scaled_56 ?_
    exact V_lreturn d_Ref_scaled_57 rfl ⟨Nat.le_of_ble_eq_true rfl, Nat.le_of_ble_eq_true rfl⟩ ⟨by rw [zsc1 c_15], rfl, rfl⟩
  · skip
    refine V_lload_n d_Ref_scaled_19 rfl ?_
    refine J_ldc2 d_Ref_scaled_20 k_Ref_72 ?_
    refine J_ladd d_Ref_scaled_23 ?_
    refine V_lstore_n d_Ref_scaled_24 (by decide) ?_
    refine V_lload d_Ref_scaled_25 rfl ?_
    refine J_lconst (z := 1) d_Ref_scaled_27 rfl ?_
    refine J_lsub d_Ref_scaled_28 ?_
    refine V_lstore d_Ref_scaled_29 (by decide) ?_
    refine V_aload_n d_Ref_scaled_31 rfl ?_
    refine V_getf d_Ref_scaled_32 ff_Ref_13 zqs_o rfl ?_
    refine J_i2l d_Ref_scaled_35 (by omega) ?_
    refine V_lload d_Ref_scaled_36 rfl ?_
    refine J_lmul d_Ref_scaled_38 ?_
    refine V_iconst d_Ref_scaled_39 ?_
    refine V_aload_n d_Ref_scaled_40 rfl ?_
    refine V_getf d_Ref_scaled_41 ff_Ref_13 zqs_o rfl ?_
    refine J_imul d_Ref_scaled_44 ?_
    refine J_i2l d_Ref_scaled_45 (by omega) ?_
    refine V_lload_n d_Ref_scaled_46 rfl ?_
    refine J_lmul d_Ref_scaled_47 ?_
    refine J_ldc2 d_Ref_scaled_48 k_Ref_72 ?_
    refine J_ladd d_Ref_scaled_51 ?_
    refine J_ldc2 d_Ref_scaled_52 k_Ref_178 ?_
    refine J_ldivP d_Ref_scaled_55 (by have hq := ztmQ v; have h1 := Int.mul_nonneg (show 0 ≤ 2 * t by omega) (show 0 ≤ v.tmod 268435399 + 268435399 by omega); have h2 : 2 * t * (v.tmod 268435399 + 268435399) ≤ 2000 * 268435399 := Int.mul_le_mul (by omega) (by omega) (by omega) (by decide); omega) (by omega) ?_
    refine J_ladd d_Ref_scaled_56 ?_
    exact V_lreturn d_Ref_scaled_57 rfl ⟨Nat.le_of_ble_eq_true rfl, Nat.le_of_ble_eq_true rfl⟩ ⟨by rw [zsc2 c_15], rfl, rfl⟩

set_option maxRecDepth 100000 in
set_option maxHeartbeats 4000000 in
theorem r_centre (G : zG) (sz C : Nat) (th kd n t tu : Int) (ch : Int32) (ke : Int) (L : Nat → Int → Int) (w0 : zW) (nn : Nat) (hnn : n = (nn : Int)) (hn : nn ≤ 32) (c k d : Nat) (hc : c < 16) (hk : k < 3) (hd : zqi d) (hp : -2147483648 ≤ L 8 c ∧ L 8 c < 2147483648) (hT : ∀ j : Nat, j < nn → -9223372036854775808 ≤ (zqTk nn c k d L) d j ∧ (zqTk nn c k d L) d j < 9223372036854775808) : zCt G M_Ref_centre (zR 2 0 0 46) [.ref C, .int (Int32.ofInt (c : Int)), .int (Int32.ofInt (k : Int)), .ref (C + d)] sz (zqs G C th kd n t tu ch ke L w0) (zdet none (zqs G C th kd n t tu ch ke (zqCe nn d (zqTk nn c k d L)) w0) sz) := by
  subst hnn
  refine V_aload_n d_Ref_centre_0 rfl ?_
  refine V_iload_n d_Ref_centre_1 rfl ?_
  refine V_iload_n d_Ref_centre_2 rfl ?_
  refine V_aload_n d_Ref_centre_3 rfl ?_
  refine V_callV (n := 3) d_Ref_centre_4 g_Ref_159 rfl zqs_o rfl (r_take G _ C th kd nn t tu ch ke L w0 nn rfl hn c k d hc hk hd hp) ⟨co_Ref_take, by decide +kernel, Nat.le_of_ble_eq_true rfl⟩ ⟨Nat.le_of_ble_eq_true rfl, Nat.le_of_ble_eq_true rfl, Nat.le_of_ble_eq_true rfl, Nat.le_of_ble_eq_true rfl⟩ (Nat.le_of_ble_eq_true rfl) (fun r_4 w_4 s_4 q_4 => ?_) (fun _ _ _ q => False.elim q)
  obtain ⟨rfl, rfl, rfl⟩ := q_4
  refine V_iconst d_Ref_centre_7 ?_
  refine V_istore d_Ref_centre_8 (by decide) ?_
  refine V_w (w' := (zqs G C th kd nn t tu ch ke (zlu (zqTk nn c k d L) d (zif ((0 : Nat) : Int) (fun i => zct ((zqTk nn c k d L) d i)) ((zqTk nn c k d L) d))) w0)) (by rw [show ((0 : Nat) : Int) = 0 from rfl, zif_0, ← zqs_lu hd, zset_self (zqs_r hd)]) ?_
  refine zfor nn (fun i => V G M_Ref_centre (zdet none (zqs G C th kd nn t tu ch ke (zqCe nn d (zqTk nn c k d L)) w0) sz) (zR 2 0 0 46) 0 0 sz 10 [(0, .ref C), (1, .int (Int32.ofInt (c : Int))), (2, .int (Int32.ofInt (k : Int))), (3, .ref (C + d)), (4, .int (Int32.ofInt (i : Int)))] [] (zqs G C th kd nn t tu ch ke (zlu (zqTk nn c k d L) d (zif (i : Int) (fun i => zct ((zqTk nn c k d L) d i)) ((zqTk nn c k d L) d))) w0)) ?_ (fun i hi ih => ?_) 0 (Nat.zero_le nn)
  · skip
    refine V_iload d_Ref_centre_10 rfl ?_
    refine V_aload_n d_Ref_centre_12 rfl ?_
    refine V_getf d_Ref_centre_13 ff_Ref_7 zqs_o rfl ?_
    refine J_icmp_ge 36 d_Ref_centre_16 (by decide) (by omega) (by omega) (fun c_16 => ?_) (fun c_16 => absurd c_16 (by omega))
    exact V_return d_Ref_centre_36 rfl ⟨Nat.le_of_ble_eq_true rfl, Nat.le_of_ble_eq_true rfl⟩ ⟨rfl, rfl, rfl⟩
  · skip
    refine V_iload d_Ref_centre_10 rfl ?_
    refine V_aload_n d_Ref_centre_12 rfl ?_
    refine V_getf d_Ref_centre_13 ff_Ref_7 zqs_o rfl ?_
    refine J_icmp_ge 36 d_Ref_centre_16 (by decide) (by omega) (by omega) (fun c_16 => absurd c_16 (by omega)) (fun c_16 => ?_)
    refine V_aload_n d_Ref_centre_19 rfl ?_
    refine V_iload d_Ref_centre_20 rfl ?_
    refine V_aload_n d_Ref_centre_22 rfl ?_
    refine V_iload d_Ref_centre_23 rfl ?_
    refine J_laload d_Ref_centre_25 (zqs_r hd) (by omega) (by decide) ?_
    rw [zlu_s, zif_r (show ¬ (0 ≤ (i : Int) ∧ (i : Int) < i) by omega)]
    refine V_callS (n := 1) d_Ref_centre_26 g_Ref_162 rfl (r_centred G _ _ ((zqTk nn c k d L) d i) (hT i hi)) ⟨co_Ref_centred, by decide +kernel, Nat.le_of_ble_eq_true rfl⟩ ⟨Nat.le_of_ble_eq_true rfl, Nat.le_of_ble_eq_true rfl, Nat.le_of_ble_eq_true rfl, Nat.le_of_ble_eq_true rfl⟩ (Nat.le_of_ble_eq_true rfl) (fun r_26 w_26 s_26 q_26 => ?_) (fun _ _ _ q => False.elim q)
    obtain ⟨rfl, rfl, rfl⟩ := q_26
    refine J_lastore d_Ref_centre_29 (zqs_r hd) (by omega) (by decide) ?_
    refine J_iinc d_Ref_centre_30 rfl (by decide) ?_
    refine V_goto 10 d_Ref_centre_33 (by decide) ?_
    exact V_w (by rw [zqs_lu hd, zlu_s, zif_s (by omega) rfl, zlu_lu]; rfl) ih

set_option maxRecDepth 100000 in
set_option maxHeartbeats 4000000 in
theorem r_turned (G : zG) (sz C : Nat) (th kd n t tu : Int) (ch : Int32) (ke : Int) (L : Nat → Int → Int) (w0 : zW) (nn : Nat) (hnn : n = (nn : Int)) (hn : nn ≤ 32) (a d : Nat) (g : Int) (ha : zqi a) (hd : zqi d) (had : a ≠ d) (hg : 0 ≤ g ∧ g ≤ 64) : zCt G M_Ref_turned (zR 0 0 0 0) [.ref C, .ref (C + a), .int (Int32.ofInt g), .ref (C + d)] sz (zqs G C th kd n t tu ch ke L w0) (zdet none (zqs G C th kd n t tu ch ke (zlu L d (zqt nn g (L a) (L d) nn)) w0) sz) := by
  subst hnn
  refine V_iconst d_Ref_turned_0 ?_
  refine V_istore d_Ref_turned_1 (by decide) ?_
  refine V_w (w' := (zqs G C th kd nn t tu ch ke (zlu L d (zqt nn g (L a) (L d) 0)) w0)) (by rw [show zqt (nn : Int) g (L a) (L d) 0 = L d from rfl, ← zqs_lu hd, zset_self (zqs_r hd)]) ?_
  refine zfor nn (fun i => V G M_Ref_turned (zdet none (zqs G C th kd nn t tu ch ke (zlu L d (zqt nn g (L a) (L d) nn)) w0) sz) (zR 0 0 0 0) 0 0 sz 3 [(0, .ref C), (1, .ref (C + a)), (2, .int (Int32.ofInt g)), (3, .ref (C + d)), (4, .int (Int32.ofInt (i : Int)))] [] (zqs G C th kd nn t tu ch ke (zlu L d (zqt nn g (L a) (L d) i)) w0)) ?_ (fun i hi ih => ?_) 0 (Nat.zero_le nn)
  · skip
    refine V_iload d_Ref_turned_3 rfl ?_
    refine V_aload_n d_Ref_turned_5 rfl ?_
    refine V_getf d_Ref_turned_6 ff_Ref_7 zqs_o rfl ?_
    refine J_icmp_ge 65 d_Ref_turned_9 (by decide) (by omega) (by omega) (fun c_9 => ?_) (fun c_9 => absurd c_9 (by omega))
    exact V_return d_Ref_turned_65 rfl ⟨Nat.le_of_ble_eq_true rfl, Nat.le_of_ble_eq_true rfl⟩ ⟨rfl, rfl, rfl⟩
  · have hi1 : 0 ≤ g * (i : Int) := Int.mul_nonneg hg.1 (by omega)
    have hi2 : g * (i : Int) ≤ 64 * 32 := Int.mul_le_mul hg.2 (by omega) (by omega) (by decide)
    have he1 := Int.emod_nonneg (g * (i : Int)) (show 2 * (nn : Int) ≠ 0 by omega)
    have he2 := Int.emod_lt_of_pos (g * (i : Int)) (show 0 < 2 * (nn : Int) by omega)
    by_cases hs : g * (i : Int) % (2 * (nn : Int)) < nn
    · skip
      refine V_iload d_Ref_turned_3 rfl ?_
      refine V_aload_n d_Ref_turned_5 rfl ?_
      refine V_getf d_Ref_turned_6 ff_Ref_7 zqs_o rfl ?_
      refine J_icmp_ge 65 d_Ref_turned_9 (by decide) (by omega) (by omega) (fun c_9 => absurd c_9 (by omega)) (fun c_9 => ?_)
      refine V_iload d_Ref_turned_12 rfl ?_
      refine V_iload_n d_Ref_turned_14 rfl ?_
      refine J_imul d_Ref_turned_15 ?_
      refine V_iconst d_Ref_turned_16 ?_
      refine V_aload_n d_Ref_turned_17 rfl ?_
      refine V_getf d_Ref_turned_18 ff_Ref_7 zqs_o rfl ?_
      refine J_imul d_Ref_turned_21 ?_
      rw [Int.mul_comm (i : Int) g]
      refine J_iremP d_Ref_turned_22 (by omega) (by omega) ?_
      refine V_istore d_Ref_turned_23 (by decide) ?_
      refine V_iload d_Ref_turned_25 rfl ?_
      refine V_aload_n d_Ref_turned_27 rfl ?_
      refine V_getf d_Ref_turned_28 ff_Ref_7 zqs_o rfl ?_
      refine J_icmp_ge 45 d_Ref_turned_31 (by decide) (by omega) (by omega) (fun c_31 => absurd c_31 (by omega)) (fun c_31 => ?_)
      refine V_aload_n d_Ref_turned_34 rfl ?_
      refine V_iload d_Ref_turned_35 rfl ?_
      refine V_aload_n d_Ref_turned_37 rfl ?_
      refine V_iload d_Ref_turned_38 rfl ?_
      refine J_laload d_Ref_turned_40 (zqs_r ha) (by omega) (by decide) ?_
      rw [zlu_n had]
      refine J_lastore d_Ref_turned_41 (zqs_r hd) (by omega) (by decide) ?_
      refine V_goto 59 d_Ref_turned_42 (by decide) ?_
      refine J_iinc d_Ref_turned_59 rfl (by decide) ?_
      refine V_goto 3 d_Ref_turned_62 (by decide) ?_
      exact V_lo [0, 1, 2, 3, 4] rfl (V_w (by rw [zqs_lu hd, zlu_s, zlu_lu]; show _ = zqs G C _ _ _ _ _ _ _ (zlu L d (zu (zqt (nn : Int) g (L a) (L d) i) (zsp nn g i) (zqv nn g (L a) i))) w0; unfold zsp zqv; rw [if_pos hs, if_pos hs]) ih)
    · skip
      refine V_iload d_Ref_turned_3 rfl ?_
      refine V_aload_n d_Ref_turned_5 rfl ?_
      refine V_getf d_Ref_turned_6 ff_Ref_7 zqs_o rfl ?_
      refine J_icmp_ge 65 d_Ref_turned_9 (by decide) (by omega) (by omega) (fun c_9 => absurd c_9 (by omega)) (fun c_9 => ?_)
      refine V_iload d_Ref_turned_12 rfl ?_
      refine V_iload_n d_Ref_turned_14 rfl ?_
      refine J_imul d_Ref_turned_15 ?_
      refine V_iconst d_Ref_turned_16 ?_
      refine V_aload_n d_Ref_turned_17 rfl ?_
      refine V_getf d_Ref_turned_18 ff_Ref_7 zqs_o rfl ?_
      refine J_imul d_Ref_turned_21 ?_
      rw [Int.mul_comm (i : Int) g]
      refine J_iremP d_Ref_turned_22 (by omega) (by omega) ?_
      refine V_istore d_Ref_turned_23 (by decide) ?_
      refine V_iload d_Ref_turned_25 rfl ?_
      refine V_aload_n d_Ref_turned_27 rfl ?_
      refine V_getf d_Ref_turned_28 ff_Ref_7 zqs_o rfl ?_
      refine J_icmp_ge 45 d_Ref_turned_31 (by decide) (by omega) (by omega) (fun c_31 => ?_) (fun c_31 => absurd c_31 (by omega))
      refine V_aload_n d_Ref_turned_45 rfl ?_
      refine V_iload d_Ref_turned_46 rfl ?_
      refine V_aload_n d_Ref_turned_48 rfl ?_
      refine V_getf d_Ref_turned_49 ff_Ref_7 zqs_o rfl ?_
      refine J_isub d_Ref_turned_52 ?_
      refine V_aload_n d_Ref_turned_53 rfl ?_
      refine V_iload d_Ref_turned_54 rfl ?_
      refine J_laload d_Ref_turned_56 (zqs_r ha) (by omega) (by decide) ?_
      rw [zlu_n had]
      refine J_lneg d_Ref_turned_57 ?_
      refine J_lastore d_Ref_turned_58 (zqs_r hd) (by omega) (by decide) ?_
      refine J_iinc d_Ref_turned_59 rfl (by decide) ?_
      refine V_goto 3 d_Ref_turned_62 (by decide) ?_
      exact V_lo [0, 1, 2, 3, 4] rfl (V_w (by rw [zqs_lu hd, zlu_s, zlu_lu]; show _ = zqs G C _ _ _ _ _ _ _ (zlu L d (zu (zqt (nn : Int) g (L a) (L d) i) (zsp nn g i) (zqv nn g (L a) i))) w0; unfold zsp zqv; rw [if_neg hs, if_neg hs]) ih)

