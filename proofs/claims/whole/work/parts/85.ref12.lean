set_option maxRecDepth 100000 in
set_option maxHeartbeats 4000000 in
theorem r_batch_no (G : zG) (sz C : Nat) (th kd n t tu : Int) (ch : Int32) (ke : Int) (L : Nat → Int → Int) (w0 : zW) (p : Int) (hp : -2147483648 ≤ p ∧ p < 2147483648) (hb : p < 0 ∨ 7 < p) (b : Int) : zCt G M_Ref_batch (zR 2 0 0 45) [.ref C, .int (Int32.ofInt p), .int (Int32.ofInt b)] sz (zqs G C th kd n t tu ch ke L w0) (zdet (some (.int (Int32.ofInt 0))) (zqs G C 1 kd n t tu ch ke L w0) sz) := by
  refine V_aload_n d_Ref_batch_0 rfl ?_
  refine V_iload_n d_Ref_batch_1 rfl ?_
  refine V_callS (n := 1) d_Ref_batch_2 g_Ref_142 rfl (r_noPlain_y G _ _ p hp hb) ⟨co_Ref_noPlain, by decide +kernel, Nat.le_of_ble_eq_true rfl⟩ ⟨Nat.le_of_ble_eq_true rfl, Nat.le_of_ble_eq_true rfl, Nat.le_of_ble_eq_true rfl, Nat.le_of_ble_eq_true rfl⟩ (Nat.le_of_ble_eq_true rfl) (fun r_2 w_2 s_2 q_2 => ?_) (fun _ _ _ q => False.elim q)
  obtain ⟨rfl, rfl, rfl⟩ := q_2
  refine J_if_eq 12 d_Ref_batch_5 (by decide) (by decide) (fun c_5 => absurd c_5 (by decide)) (fun c_5 => ?_)
  refine V_iconst d_Ref_batch_8 ?_
  refine V_goto 13 d_Ref_batch_9 (by decide) ?_
  refine V_putf d_Ref_batch_13 ff_Ref_69 zqs_o ⟨_, _, _, _, rfl, rfl, rfl, rfl, rfl⟩ (Nat.le_of_ble_eq_true rfl) ?_
  refine V_w (zqs_f (th' := 1) rfl) ?_
  refine V_aload_n d_Ref_batch_16 rfl ?_
  refine V_getf d_Ref_batch_17 ff_Ref_69 zqs_o rfl ?_
  refine J_if_le 25 d_Ref_batch_20 (by decide) (by decide) (fun c_20 => absurd c_20 (by decide)) (fun c_20 => ?_)
  refine V_iconst d_Ref_batch_23 ?_
  exact V_ireturn d_Ref_batch_24 rfl ⟨Nat.le_of_ble_eq_true rfl, Nat.le_of_ble_eq_true rfl⟩ ⟨rfl, rfl, rfl⟩

set_option maxRecDepth 100000 in
set_option maxHeartbeats 4000000 in
theorem r_batch_0 (G : zG) (sz C : Nat) (th kd n t tu : Int) (ch : Int32) (ke : Int) (L : Nat → Int → Int) (w0 : zW) (nn : Nat) (hnn : n = (nn : Int)) (hn : nn ≤ 32) (h0 : 0 < nn) (p : Nat) (hp : p < 8) (z iv : Int) (ht : 1 < t ∧ t ≤ 1000) (h2 : 2 ≤ z ∧ z < 1000) (hz : zpm t z nn = t - 1) (hno : ∀ c : Int, 2 ≤ c → c < z → ¬ zpm t c nn = t - 1) (hi1 : 1 ≤ iv ∧ iv < 1000) (hiv : iv * (nn : Int) % t = 1) (hino : ∀ c : Int, 1 ≤ c → c < iv → ¬ c * (nn : Int) % t = 1) (hPl : ∀ j : Int, 0 ≤ j → j < 256 → 0 ≤ L 7 j ∧ L 7 j ≤ 1000) : zCt G M_Ref_batch (zR 2 0 0 45) [.ref C, .int (Int32.ofInt (p : Int)), .int (Int32.ofInt 0)] sz (zqs G C th kd n t tu ch ke L w0) (zdet (some (.int (Int32.ofInt ((zqBa nn p 0 t z iv L) 7 (32 * (p : Int)))))) (zqs G C 0 kd n t tu ch ke (zqBa nn p 0 t z iv L) w0) sz) := by
  subst hnn
  have main : V G M_Ref_batch (zdet (some (.int (Int32.ofInt ((zqBa nn p 0 t z iv L) 7 (32 * (p : Int)))))) (zqs G C 0 kd nn t tu ch ke (zqBa nn p 0 t z iv L) w0) sz) (zR 2 0 0 45) 0 0 sz 55 [(0, .ref C), (1, .int (Int32.ofInt (p : Int))), (2, .int (Int32.ofInt 0)), (3, .int (Int32.ofInt z)), (4, .int (Int32.ofInt iv))] [] (zqs G C 0 kd nn t tu ch ke L w0) := by
    refine V_iconst d_Ref_batch_55 ?_
    refine V_istore d_Ref_batch_56 (by decide) ?_
    refine V_w (w' := (zqs G C 0 kd nn t tu ch ke (zlu L 16 (zif (((0 : Nat) : Int) : Int) (zqBF nn p 0 t z iv L) (L 16))) w0)) (by rw [show ((0 : Nat) : Int) = 0 from rfl, zif_0, zlu_self] <;> rfl) ?_
    have st : ∀ i : Nat, i < nn → (fun i : Nat => V G M_Ref_batch (zdet (some (.int (Int32.ofInt ((zqBa nn p 0 t z iv L) 7 (32 * (p : Int)))))) (zqs G C 0 kd nn t tu ch ke (zqBa nn p 0 t z iv L) w0) sz) (zR 2 0 0 45) 0 0 sz 58 [(0, .ref C), (1, .int (Int32.ofInt (p : Int))), (2, .int (Int32.ofInt 0)), (3, .int (Int32.ofInt z)), (4, .int (Int32.ofInt iv)), (5, .int (Int32.ofInt (i : Int)))] [] (zqs G C 0 kd nn t tu ch ke (zlu L 16 (zif (i : Int) (zqBF nn p 0 t z iv L) (L 16))) w0)) (i + 1) → (fun i : Nat => V G M_Ref_batch (zdet (some (.int (Int32.ofInt ((zqBa nn p 0 t z iv L) 7 (32 * (p : Int)))))) (zqs G C 0 kd nn t tu ch ke (zqBa nn p 0 t z iv L) w0) sz) (zR 2 0 0 45) 0 0 sz 58 [(0, .ref C), (1, .int (Int32.ofInt (p : Int))), (2, .int (Int32.ofInt 0)), (3, .int (Int32.ofInt z)), (4, .int (Int32.ofInt iv)), (5, .int (Int32.ofInt (i : Int)))] [] (zqs G C 0 kd nn t tu ch ke (zlu L 16 (zif (i : Int) (zqBF nn p 0 t z iv L) (L 16))) w0)) i := by
      intro i hi ih
      have st2 : ∀ j : Nat, j < nn → (fun j : Nat => V G M_Ref_batch (zdet (some (.int (Int32.ofInt ((zqBa nn p 0 t z iv L) 7 (32 * (p : Int)))))) (zqs G C 0 kd nn t tu ch ke (zqBa nn p 0 t z iv L) w0) sz) (zR 2 0 0 45) 0 0 sz 73 [(0, .ref C), (1, .int (Int32.ofInt (p : Int))), (2, .int (Int32.ofInt 0)), (3, .int (Int32.ofInt z)), (4, .int (Int32.ofInt iv)), (5, .int (Int32.ofInt (i : Int))), (6, .int (Int32.ofInt (zqBs nn p 0 t z L i j))), (7, .int (Int32.ofInt (j : Int)))] [] (zqs G C 0 kd nn t tu ch ke (zlu L 16 (zif (i : Int) (zqBF nn p 0 t z iv L) (L 16))) w0)) (j + 1) → (fun j : Nat => V G M_Ref_batch (zdet (some (.int (Int32.ofInt ((zqBa nn p 0 t z iv L) 7 (32 * (p : Int)))))) (zqs G C 0 kd nn t tu ch ke (zqBa nn p 0 t z iv L) w0) sz) (zR 2 0 0 45) 0 0 sz 73 [(0, .ref C), (1, .int (Int32.ofInt (p : Int))), (2, .int (Int32.ofInt 0)), (3, .int (Int32.ofInt z)), (4, .int (Int32.ofInt iv)), (5, .int (Int32.ofInt (i : Int))), (6, .int (Int32.ofInt (zqBs nn p 0 t z L i j))), (7, .int (Int32.ofInt (j : Int)))] [] (zqs G C 0 kd nn t tu ch ke (zlu L 16 (zif (i : Int) (zqBF nn p 0 t z iv L) (L 16))) w0)) j := by
        intro j hj ih2
        have hpl := hPl (32 * (p : Int) + j) (by omega) (by omega)
        have hs : 0 ≤ zqBs nn p 0 t z L i j ∧ zqBs nn p 0 t z L i j < t := zqbs_b (by omega) j
        have hpm := zpm_b (t := t) (b := z) ht.1 (zqBe nn 0 i j)
        have hmm := zmulb (a := L 7 (32 * (p : Int) + j)) (b := zpm t z (zqBe nn 0 i j)) (A := 1000) (B := 1000) hpl ⟨hpm.1, by omega⟩
        have hE0 := zmulb (a := 2 * (j : Int) + 1) (b := 2 * (nn : Int) - 1) (A := 65) (B := 63) ⟨by omega, by omega⟩ ⟨by omega, by omega⟩
        have hE := zmulb (a := (2 * (j : Int) + 1) * (2 * (nn : Int) - 1)) (b := (i : Int)) (A := 65 * 63) (B := 32) hE0 ⟨by omega, by omega⟩
        have hEe : (2 * (j : Int) + 1) * (2 * (nn : Int) - 1) * (i : Int) % (2 * (nn : Int)) = ((zqBe nn 0 i j : Nat) : Int) := by
          have h1 : 0 ≤ (2 * (j : Int) + 1) * (2 * (nn : Int) - 1) * (i : Int) % (2 * (nn : Int)) := Int.emod_nonneg _ (by omega)
          unfold zqBe
          rw [if_neg (by decide)]
          omega
        have hEb : zqBe nn 0 i j < 100000 := by
          have h1 : (2 * (j : Int) + 1) * (2 * (nn : Int) - 1) * (i : Int) % (2 * (nn : Int)) < 2 * (nn : Int) := Int.emod_lt_of_pos _ (by omega)
          omega
        refine V_iload d_Ref_batch_73 rfl ?_
        refine V_aload_n d_Ref_batch_75 rfl ?_
        refine V_getf d_Ref_batch_76 ff_Ref_7 zqs_o rfl ?_
        refine J_icmp_ge 161 d_Ref_batch_79 (by decide) (by omega) (by omega) (fun c_79 => absurd c_79 (by omega)) (fun c_79 => ?_)
        refine V_iload_n d_Ref_batch_82 rfl ?_
        refine J_if_eq 98 d_Ref_batch_83 (by decide) (by decide) (fun c_83 => ?_) (fun c_83 => absurd rfl c_83)
        refine V_iconst d_Ref_batch_98 ?_
        refine V_iload d_Ref_batch_99 rfl ?_
        refine J_imul d_Ref_batch_101 ?_
        refine V_iconst d_Ref_batch_102 ?_
        refine J_iadd d_Ref_batch_103 ?_
        refine V_iconst d_Ref_batch_104 ?_
        refine V_aload_n d_Ref_batch_105 rfl ?_
        refine V_getf d_Ref_batch_106 ff_Ref_7 zqs_o rfl ?_
        refine J_imul d_Ref_batch_109 ?_
        refine V_iconst d_Ref_batch_110 ?_
        refine J_isub d_Ref_batch_111 ?_
        refine J_imul d_Ref_batch_112 ?_
        refine V_iload d_Ref_batch_113 rfl ?_
        refine J_imul d_Ref_batch_115 ?_
        refine V_istore d_Ref_batch_116 (by decide) ?_
        refine V_iload d_Ref_batch_118 rfl ?_
        refine V_aload_n d_Ref_batch_120 rfl ?_
        refine V_getf d_Ref_batch_121 ff_Ref_36 zqs_o rfl ?_
        refine J_bipush d_Ref_batch_124 (by decide) ?_
        refine V_iload_n d_Ref_batch_126 rfl ?_
        refine J_imul d_Ref_batch_127 ?_
        refine V_iload d_Ref_batch_128 rfl ?_
        refine J_iadd d_Ref_batch_130 ?_
        refine J_iaload d_Ref_batch_131 zqs_a7 (by omega) (by decide) ?_
        rw [zlu_n (show 7 ≠ 16 by decide)]
        refine V_aload_n d_Ref_batch_132 rfl ?_
        refine V_iload_n d_Ref_batch_133 rfl ?_
        refine V_iload d_Ref_batch_134 rfl ?_
        refine V_iconst d_Ref_batch_136 ?_
        refine V_aload_n d_Ref_batch_137 rfl ?_
        refine V_getf d_Ref_batch_138 ff_Ref_7 zqs_o rfl ?_
        refine J_imul d_Ref_batch_141 ?_
        refine J_iremP d_Ref_batch_142 ⟨hE.1, by omega⟩ (by omega) ?_
        rw [hEe]
        refine V_callV (n := 2) d_Ref_batch_143 g_Ref_145 rfl zqs_o rfl (r_power G _ C 0 kd nn t tu ch ke (zlu L 16 (zif (i : Int) (zqBF nn p 0 t z iv L) (L 16))) w0 z (zqBe nn 0 i j) ht (by omega) hEb) ⟨co_Ref_power, by decide +kernel, Nat.le_of_ble_eq_true rfl⟩ ⟨Nat.le_of_ble_eq_true rfl, Nat.le_of_ble_eq_true rfl, Nat.le_of_ble_eq_true rfl, Nat.le_of_ble_eq_true rfl⟩ (Nat.le_of_ble_eq_true rfl) (fun r_143 w_143 s_143 q_143 => ?_) (fun _ _ _ q => False.elim q)
        obtain ⟨rfl, rfl, rfl⟩ := q_143
        refine J_imul d_Ref_batch_146 ?_
        refine J_iadd d_Ref_batch_147 ?_
        refine V_aload_n d_Ref_batch_148 rfl ?_
        refine V_getf d_Ref_batch_149 ff_Ref_13 zqs_o rfl ?_
        refine J_iremP d_Ref_batch_152 ⟨by omega, by omega⟩ (by omega) ?_
        refine V_istore d_Ref_batch_153 (by decide) ?_
        refine J_iinc d_Ref_batch_155 rfl (by decide) ?_
        refine V_goto 73 d_Ref_batch_158 (by decide) ?_
        exact V_lo [0, 1, 2, 3, 4, 5, 6, 7] rfl ih2
      have hs : 0 ≤ zqBs nn p 0 t z L i nn ∧ zqBs nn p 0 t z L i nn < t := zqbs_b (by omega) nn
      have hsi := zmulb (a := zqBs nn p 0 t z L i nn) (b := iv) (A := 1000) (B := 1000) ⟨hs.1, by omega⟩ ⟨by omega, by omega⟩
      have hm : 0 ≤ zqBs nn p 0 t z L i nn * iv % t ∧ zqBs nn p 0 t z L i nn * iv % t < t := ⟨Int.emod_nonneg _ (by omega), Int.emod_lt_of_pos _ (by omega)⟩
      have hFi : zqBs nn p 0 t z L i nn * iv % t = (zqBF nn p 0 t z iv L) i := rfl
      refine V_iload d_Ref_batch_58 rfl ?_
      refine V_aload_n d_Ref_batch_60 rfl ?_
      refine V_getf d_Ref_batch_61 ff_Ref_7 zqs_o rfl ?_
      refine J_icmp_ge 195 d_Ref_batch_64 (by decide) (by omega) (by omega) (fun c_64 => absurd c_64 (by omega)) (fun c_64 => ?_)
      refine V_iconst d_Ref_batch_67 ?_
      refine V_istore d_Ref_batch_68 (by decide) ?_
      refine V_iconst d_Ref_batch_70 ?_
      refine V_istore d_Ref_batch_71 (by decide) ?_
      refine zfor nn (fun j : Nat => V G M_Ref_batch (zdet (some (.int (Int32.ofInt ((zqBa nn p 0 t z iv L) 7 (32 * (p : Int)))))) (zqs G C 0 kd nn t tu ch ke (zqBa nn p 0 t z iv L) w0) sz) (zR 2 0 0 45) 0 0 sz 73 [(0, .ref C), (1, .int (Int32.ofInt (p : Int))), (2, .int (Int32.ofInt 0)), (3, .int (Int32.ofInt z)), (4, .int (Int32.ofInt iv)), (5, .int (Int32.ofInt (i : Int))), (6, .int (Int32.ofInt (zqBs nn p 0 t z L i j))), (7, .int (Int32.ofInt (j : Int)))] [] (zqs G C 0 kd nn t tu ch ke (zlu L 16 (zif (i : Int) (zqBF nn p 0 t z iv L) (L 16))) w0)) ?_ st2 0 (Nat.zero_le nn)
      refine V_iload d_Ref_batch_73 rfl ?_
      refine V_aload_n d_Ref_batch_75 rfl ?_
      refine V_getf d_Ref_batch_76 ff_Ref_7 zqs_o rfl ?_
      refine J_icmp_ge 161 d_Ref_batch_79 (by decide) (by omega) (by omega) (fun c_79 => ?_) (fun c_79 => absurd c_79 (by omega))
      refine V_aload_n d_Ref_batch_161 rfl ?_
      refine V_getf d_Ref_batch_162 ff_Ref_63 zqs_o rfl ?_
      refine V_iload d_Ref_batch_165 rfl ?_
      refine V_iload_n d_Ref_batch_167 rfl ?_
      refine J_if_eq 177 d_Ref_batch_168 (by decide) (by decide) (fun c_168 => ?_) (fun c_168 => absurd rfl c_168)
      refine V_iload d_Ref_batch_177 rfl ?_
      refine V_iload d_Ref_batch_179 rfl ?_
      refine J_imul d_Ref_batch_181 ?_
      refine V_aload_n d_Ref_batch_182 rfl ?_
      refine V_getf d_Ref_batch_183 ff_Ref_13 zqs_o rfl ?_
      refine J_iremP d_Ref_batch_186 ⟨by omega, by omega⟩ (by omega) ?_
      refine J_i2l d_Ref_batch_187 (by omega) ?_
      refine J_lastore d_Ref_batch_188 (zqs_r (j := 16) (by unfold zqi; decide)) (by omega) (by decide) ?_
      refine J_iinc d_Ref_batch_189 rfl (by decide) ?_
      refine V_goto 58 d_Ref_batch_192 (by decide) ?_
      exact V_w (by rw [zqs_lu (by unfold zqi; decide), zlu_s, zif_s (by omega) hFi, zlu_lu] <;> rfl) (V_lo [0, 1, 2, 3, 4, 5] rfl ih)
    refine zfor nn (fun i : Nat => V G M_Ref_batch (zdet (some (.int (Int32.ofInt ((zqBa nn p 0 t z iv L) 7 (32 * (p : Int)))))) (zqs G C 0 kd nn t tu ch ke (zqBa nn p 0 t z iv L) w0) sz) (zR 2 0 0 45) 0 0 sz 58 [(0, .ref C), (1, .int (Int32.ofInt (p : Int))), (2, .int (Int32.ofInt 0)), (3, .int (Int32.ofInt z)), (4, .int (Int32.ofInt iv)), (5, .int (Int32.ofInt (i : Int)))] [] (zqs G C 0 kd nn t tu ch ke (zlu L 16 (zif (i : Int) (zqBF nn p 0 t z iv L) (L 16))) w0)) ?_ st 0 (Nat.zero_le nn)
    refine V_iload d_Ref_batch_58 rfl ?_
    refine V_aload_n d_Ref_batch_60 rfl ?_
    refine V_getf d_Ref_batch_61 ff_Ref_7 zqs_o rfl ?_
    refine J_icmp_ge 195 d_Ref_batch_64 (by decide) (by omega) (by omega) (fun c_64 => ?_) (fun c_64 => absurd c_64 (by omega))
    refine V_iconst d_Ref_batch_195 ?_
    refine V_istore d_Ref_batch_196 (by decide) ?_
    refine V_w (w' := (zqs G C 0 kd nn t tu ch ke (zlu (zqBx nn p 0 t z iv L) 7 (zsf (32 * (p : Int)) (((0 : Nat) : Int) : Int) (zqBF nn p 0 t z iv L) ((zqBx nn p 0 t z iv L) 7))) w0)) (by rw [show ((0 : Nat) : Int) = 0 from rfl, zsf_0, zlu_self] <;> rfl) ?_
    have s7 : ∀ i : Nat, i < nn → (fun i : Nat => V G M_Ref_batch (zdet (some (.int (Int32.ofInt ((zqBa nn p 0 t z iv L) 7 (32 * (p : Int)))))) (zqs G C 0 kd nn t tu ch ke (zqBa nn p 0 t z iv L) w0) sz) (zR 2 0 0 45) 0 0 sz 198 [(0, .ref C), (1, .int (Int32.ofInt (p : Int))), (2, .int (Int32.ofInt 0)), (3, .int (Int32.ofInt z)), (4, .int (Int32.ofInt iv)), (5, .int (Int32.ofInt (i : Int)))] [] (zqs G C 0 kd nn t tu ch ke (zlu (zqBx nn p 0 t z iv L) 7 (zsf (32 * (p : Int)) (i : Int) (zqBF nn p 0 t z iv L) ((zqBx nn p 0 t z iv L) 7))) w0)) (i + 1) → (fun i : Nat => V G M_Ref_batch (zdet (some (.int (Int32.ofInt ((zqBa nn p 0 t z iv L) 7 (32 * (p : Int)))))) (zqs G C 0 kd nn t tu ch ke (zqBa nn p 0 t z iv L) w0) sz) (zR 2 0 0 45) 0 0 sz 198 [(0, .ref C), (1, .int (Int32.ofInt (p : Int))), (2, .int (Int32.ofInt 0)), (3, .int (Int32.ofInt z)), (4, .int (Int32.ofInt iv)), (5, .int (Int32.ofInt (i : Int)))] [] (zqs G C 0 kd nn t tu ch ke (zlu (zqBx nn p 0 t z iv L) 7 (zsf (32 * (p : Int)) (i : Int) (zqBF nn p 0 t z iv L) ((zqBx nn p 0 t z iv L) 7))) w0)) i := by
      intro i hi ih
      have hx : (zqBx nn p 0 t z iv L) 16 i = (zqBF nn p 0 t z iv L) i := zif_l (n := (nn : Int)) ⟨by omega, by omega⟩
      refine V_iload d_Ref_batch_198 rfl ?_
      refine V_aload_n d_Ref_batch_200 rfl ?_
      refine V_getf d_Ref_batch_201 ff_Ref_7 zqs_o rfl ?_
      refine J_icmp_ge 233 d_Ref_batch_204 (by decide) (by omega) (by omega) (fun c_204 => absurd c_204 (by omega)) (fun c_204 => ?_)
      refine V_aload_n d_Ref_batch_207 rfl ?_
      refine V_getf d_Ref_batch_208 ff_Ref_36 zqs_o rfl ?_
      refine J_bipush d_Ref_batch_211 (by decide) ?_
      refine V_iload_n d_Ref_batch_213 rfl ?_
      refine J_imul d_Ref_batch_214 ?_
      refine V_iload d_Ref_batch_215 rfl ?_
      refine J_iadd d_Ref_batch_217 ?_
      refine V_aload_n d_Ref_batch_218 rfl ?_
      refine V_getf d_Ref_batch_219 ff_Ref_63 zqs_o rfl ?_
      refine V_iload d_Ref_batch_222 rfl ?_
      refine J_laload d_Ref_batch_224 (zqs_r (j := 16) (by unfold zqi; decide)) (by omega) (by decide) ?_
      rw [zlu_n (show 16 ≠ 7 by decide), hx]
      refine J_l2i d_Ref_batch_225 ?_
      refine J_iastore d_Ref_batch_226 zqs_a7 (by omega) (by decide) ?_
      refine J_iinc d_Ref_batch_227 rfl (by decide) ?_
      refine V_goto 198 d_Ref_batch_230 (by decide) ?_
      exact V_w (by rw [zqs_u7, zlu_s, zsf_s (by omega) rfl, zlu_lu] <;> rfl) ih
    refine zfor nn (fun i : Nat => V G M_Ref_batch (zdet (some (.int (Int32.ofInt ((zqBa nn p 0 t z iv L) 7 (32 * (p : Int)))))) (zqs G C 0 kd nn t tu ch ke (zqBa nn p 0 t z iv L) w0) sz) (zR 2 0 0 45) 0 0 sz 198 [(0, .ref C), (1, .int (Int32.ofInt (p : Int))), (2, .int (Int32.ofInt 0)), (3, .int (Int32.ofInt z)), (4, .int (Int32.ofInt iv)), (5, .int (Int32.ofInt (i : Int)))] [] (zqs G C 0 kd nn t tu ch ke (zlu (zqBx nn p 0 t z iv L) 7 (zsf (32 * (p : Int)) (i : Int) (zqBF nn p 0 t z iv L) ((zqBx nn p 0 t z iv L) 7))) w0)) ?_ s7 0 (Nat.zero_le nn)
    refine V_iload d_Ref_batch_198 rfl ?_
    refine V_aload_n d_Ref_batch_200 rfl ?_
    refine V_getf d_Ref_batch_201 ff_Ref_7 zqs_o rfl ?_
    refine J_icmp_ge 233 d_Ref_batch_204 (by decide) (by omega) (by omega) (fun c_204 => ?_) (fun c_204 => absurd c_204 (by omega))
    refine V_aload_n d_Ref_batch_233 rfl ?_
    refine V_getf d_Ref_batch_234 ff_Ref_36 zqs_o rfl ?_
    refine J_bipush d_Ref_batch_237 (by decide) ?_
    refine V_iload_n d_Ref_batch_239 rfl ?_
    refine J_imul d_Ref_batch_240 ?_
    refine J_iaload d_Ref_batch_241 zqs_a7 (by omega) (by decide) ?_
    exact V_ireturn d_Ref_batch_242 rfl ⟨Nat.le_of_ble_eq_true rfl, Nat.le_of_ble_eq_true rfl⟩ ⟨rfl, rfl, rfl⟩
  have key : ∀ (m : Nat) (c : Int), 1 ≤ c → c ≤ iv → iv - c = m → V G M_Ref_batch (zdet (some (.int (Int32.ofInt ((zqBa nn p 0 t z iv L) 7 (32 * (p : Int)))))) (zqs G C 0 kd nn t tu ch ke (zqBa nn p 0 t z iv L) w0) sz) (zR 2 0 0 45) 0 0 sz 33 [(0, .ref C), (1, .int (Int32.ofInt (p : Int))), (2, .int (Int32.ofInt 0)), (3, .int (Int32.ofInt z)), (4, .int (Int32.ofInt c))] [] (zqs G C 0 kd nn t tu ch ke L w0) := by
    intro m
    induction m with
    | zero =>
      intro c h1 h3 h4
      have e : c = iv := by omega
      subst e
      have hcn := zmulb (a := c) (b := (nn : Int)) (A := 1000) (B := 32) ⟨by omega, by omega⟩ ⟨by omega, by omega⟩
      have hcm : 0 ≤ c * (nn : Int) % t ∧ c * (nn : Int) % t < t := ⟨Int.emod_nonneg _ (by omega), Int.emod_lt_of_pos _ (by omega)⟩
      refine V_iload d_Ref_batch_33 rfl ?_
      refine V_aload_n d_Ref_batch_35 rfl ?_
      refine V_getf d_Ref_batch_36 ff_Ref_7 zqs_o rfl ?_
      refine J_imul d_Ref_batch_39 ?_
      refine V_aload_n d_Ref_batch_40 rfl ?_
      refine V_getf d_Ref_batch_41 ff_Ref_13 zqs_o rfl ?_
      refine J_iremP d_Ref_batch_44 ⟨by omega, by omega⟩ (by omega) ?_
      refine V_iconst d_Ref_batch_45 ?_
      refine J_icmp_eq 55 d_Ref_batch_46 (by decide) (by omega) (by omega) (fun c_46 => ?_) (fun c_46 => absurd hiv c_46)
      exact main
    | succ m ih =>
      intro c h1 h3 h4
      have hcn := zmulb (a := c) (b := (nn : Int)) (A := 1000) (B := 32) ⟨by omega, by omega⟩ ⟨by omega, by omega⟩
      have hcm : 0 ≤ c * (nn : Int) % t ∧ c * (nn : Int) % t < t := ⟨Int.emod_nonneg _ (by omega), Int.emod_lt_of_pos _ (by omega)⟩
      refine V_iload d_Ref_batch_33 rfl ?_
      refine V_aload_n d_Ref_batch_35 rfl ?_
      refine V_getf d_Ref_batch_36 ff_Ref_7 zqs_o rfl ?_
      refine J_imul d_Ref_batch_39 ?_
      refine V_aload_n d_Ref_batch_40 rfl ?_
      refine V_getf d_Ref_batch_41 ff_Ref_13 zqs_o rfl ?_
      refine J_iremP d_Ref_batch_44 ⟨by omega, by omega⟩ (by omega) ?_
      refine V_iconst d_Ref_batch_45 ?_
      refine J_icmp_eq 55 d_Ref_batch_46 (by decide) (by omega) (by omega) (fun c_46 => absurd c_46 (hino c h1 (by omega))) (fun c_46 => ?_)
      refine J_iinc d_Ref_batch_49 rfl (by decide) ?_
      refine V_goto 33 d_Ref_batch_52 (by decide) ?_
      exact ih (c + 1) (by omega) (by omega) (by omega)
  refine V_aload_n d_Ref_batch_0 rfl ?_
  refine V_iload_n d_Ref_batch_1 rfl ?_
  refine V_callS (n := 1) d_Ref_batch_2 g_Ref_142 rfl (r_noPlain_n G _ _ p (by omega)) ⟨co_Ref_noPlain, by decide +kernel, Nat.le_of_ble_eq_true rfl⟩ ⟨Nat.le_of_ble_eq_true rfl, Nat.le_of_ble_eq_true rfl, Nat.le_of_ble_eq_true rfl, Nat.le_of_ble_eq_true rfl⟩ (Nat.le_of_ble_eq_true rfl) (fun r_2 w_2 s_2 q_2 => ?_) (fun _ _ _ q => False.elim q)
  obtain ⟨rfl, rfl, rfl⟩ := q_2
  refine J_if_eq 12 d_Ref_batch_5 (by decide) (by decide) (fun c_5 => ?_) (fun c_5 => absurd rfl c_5)
  refine V_iconst d_Ref_batch_12 ?_
  refine V_putf d_Ref_batch_13 ff_Ref_69 zqs_o ⟨_, _, _, _, rfl, rfl, rfl, rfl, rfl⟩ (Nat.le_of_ble_eq_true rfl) ?_
  refine V_w (zqs_f (th' := 0) rfl) ?_
  refine V_aload_n d_Ref_batch_16 rfl ?_
  refine V_getf d_Ref_batch_17 ff_Ref_69 zqs_o rfl ?_
  refine J_if_le 25 d_Ref_batch_20 (by decide) (by decide) (fun c_20 => ?_) (fun c_20 => absurd c_20 (by decide))
  refine V_aload_n d_Ref_batch_25 rfl ?_
  refine V_callV (n := 0) d_Ref_batch_26 g_Ref_149 rfl zqs_o rfl (r_root G _ C 0 kd nn t tu ch ke L w0 nn rfl hn z ht h2 hz hno) ⟨co_Ref_root, by decide +kernel, Nat.le_of_ble_eq_true rfl⟩ ⟨Nat.le_of_ble_eq_true rfl, Nat.le_of_ble_eq_true rfl, Nat.le_of_ble_eq_true rfl, Nat.le_of_ble_eq_true rfl⟩ (Nat.le_of_ble_eq_true rfl) (fun r_26 w_26 s_26 q_26 => ?_) (fun _ _ _ q => False.elim q)
  obtain ⟨rfl, rfl, rfl⟩ := q_26
  refine V_istore_n d_Ref_batch_29 (by decide) ?_
  refine V_iconst d_Ref_batch_30 ?_
  refine V_istore d_Ref_batch_31 (by decide) ?_
  exact key (iv - 1).toNat 1 (by omega) (by omega) (by omega)

set_option maxRecDepth 100000 in
set_option maxHeartbeats 4000000 in
theorem r_batch_1 (G : zG) (sz C : Nat) (th kd n t tu : Int) (ch : Int32) (ke : Int) (L : Nat → Int → Int) (w0 : zW) (nn : Nat) (hnn : n = (nn : Int)) (hn : nn ≤ 32) (h0 : 0 < nn) (p : Nat) (hp : p < 8) (z iv : Int) (ht : 1 < t ∧ t ≤ 1000) (h2 : 2 ≤ z ∧ z < 1000) (hz : zpm t z nn = t - 1) (hno : ∀ c : Int, 2 ≤ c → c < z → ¬ zpm t c nn = t - 1) (hi1 : 1 ≤ iv ∧ iv < 1000) (hiv : iv * (nn : Int) % t = 1) (hino : ∀ c : Int, 1 ≤ c → c < iv → ¬ c * (nn : Int) % t = 1) (hPl : ∀ j : Int, 0 ≤ j → j < 256 → 0 ≤ L 7 j ∧ L 7 j ≤ 1000) : zCt G M_Ref_batch (zR 2 0 0 45) [.ref C, .int (Int32.ofInt (p : Int)), .int (Int32.ofInt 1)] sz (zqs G C th kd n t tu ch ke L w0) (zdet (some (.int (Int32.ofInt ((zqBa nn p 1 t z iv L) 7 (32 * (p : Int)))))) (zqs G C 0 kd n t tu ch ke (zqBa nn p 1 t z iv L) w0) sz) := by
  subst hnn
  have main : V G M_Ref_batch (zdet (some (.int (Int32.ofInt ((zqBa nn p 1 t z iv L) 7 (32 * (p : Int)))))) (zqs G C 0 kd nn t tu ch ke (zqBa nn p 1 t z iv L) w0) sz) (zR 2 0 0 45) 0 0 sz 55 [(0, .ref C), (1, .int (Int32.ofInt (p : Int))), (2, .int (Int32.ofInt 1)), (3, .int (Int32.ofInt z)), (4, .int (Int32.ofInt iv))] [] (zqs G C 0 kd nn t tu ch ke L w0) := by
    refine V_iconst d_Ref_batch_55 ?_
    refine V_istore d_Ref_batch_56 (by decide) ?_
    refine V_w (w' := (zqs G C 0 kd nn t tu ch ke (zlu L 16 (zif (((0 : Nat) : Int) : Int) (zqBF nn p 1 t z iv L) (L 16))) w0)) (by rw [show ((0 : Nat) : Int) = 0 from rfl, zif_0, zlu_self] <;> rfl) ?_
    have st : ∀ i : Nat, i < nn → (fun i : Nat => V G M_Ref_batch (zdet (some (.int (Int32.ofInt ((zqBa nn p 1 t z iv L) 7 (32 * (p : Int)))))) (zqs G C 0 kd nn t tu ch ke (zqBa nn p 1 t z iv L) w0) sz) (zR 2 0 0 45) 0 0 sz 58 [(0, .ref C), (1, .int (Int32.ofInt (p : Int))), (2, .int (Int32.ofInt 1)), (3, .int (Int32.ofInt z)), (4, .int (Int32.ofInt iv)), (5, .int (Int32.ofInt (i : Int)))] [] (zqs G C 0 kd nn t tu ch ke (zlu L 16 (zif (i : Int) (zqBF nn p 1 t z iv L) (L 16))) w0)) (i + 1) → (fun i : Nat => V G M_Ref_batch (zdet (some (.int (Int32.ofInt ((zqBa nn p 1 t z iv L) 7 (32 * (p : Int)))))) (zqs G C 0 kd nn t tu ch ke (zqBa nn p 1 t z iv L) w0) sz) (zR 2 0 0 45) 0 0 sz 58 [(0, .ref C), (1, .int (Int32.ofInt (p : Int))), (2, .int (Int32.ofInt 1)), (3, .int (Int32.ofInt z)), (4, .int (Int32.ofInt iv)), (5, .int (Int32.ofInt (i : Int)))] [] (zqs G C 0 kd nn t tu ch ke (zlu L 16 (zif (i : Int) (zqBF nn p 1 t z iv L) (L 16))) w0)) i := by
      intro i hi ih
      have st2 : ∀ j : Nat, j < nn → (fun j : Nat => V G M_Ref_batch (zdet (some (.int (Int32.ofInt ((zqBa nn p 1 t z iv L) 7 (32 * (p : Int)))))) (zqs G C 0 kd nn t tu ch ke (zqBa nn p 1 t z iv L) w0) sz) (zR 2 0 0 45) 0 0 sz 73 [(0, .ref C), (1, .int (Int32.ofInt (p : Int))), (2, .int (Int32.ofInt 1)), (3, .int (Int32.ofInt z)), (4, .int (Int32.ofInt iv)), (5, .int (Int32.ofInt (i : Int))), (6, .int (Int32.ofInt (zqBs nn p 1 t z L i j))), (7, .int (Int32.ofInt (j : Int)))] [] (zqs G C 0 kd nn t tu ch ke (zlu L 16 (zif (i : Int) (zqBF nn p 1 t z iv L) (L 16))) w0)) (j + 1) → (fun j : Nat => V G M_Ref_batch (zdet (some (.int (Int32.ofInt ((zqBa nn p 1 t z iv L) 7 (32 * (p : Int)))))) (zqs G C 0 kd nn t tu ch ke (zqBa nn p 1 t z iv L) w0) sz) (zR 2 0 0 45) 0 0 sz 73 [(0, .ref C), (1, .int (Int32.ofInt (p : Int))), (2, .int (Int32.ofInt 1)), (3, .int (Int32.ofInt z)), (4, .int (Int32.ofInt iv)), (5, .int (Int32.ofInt (i : Int))), (6, .int (Int32.ofInt (zqBs nn p 1 t z L i j))), (7, .int (Int32.ofInt (j : Int)))] [] (zqs G C 0 kd nn t tu ch ke (zlu L 16 (zif (i : Int) (zqBF nn p 1 t z iv L) (L 16))) w0)) j := by
        intro j hj ih2
        have hpl := hPl (32 * (p : Int) + j) (by omega) (by omega)
        have hs : 0 ≤ zqBs nn p 1 t z L i j ∧ zqBs nn p 1 t z L i j < t := zqbs_b (by omega) j
        have hpm := zpm_b (t := t) (b := z) ht.1 (zqBe nn 1 i j)
        have hmm := zmulb (a := L 7 (32 * (p : Int) + j)) (b := zpm t z (zqBe nn 1 i j)) (A := 1000) (B := 1000) hpl ⟨hpm.1, by omega⟩
        have hE := zmulb (a := 2 * (i : Int) + 1) (b := (j : Int)) (A := 65) (B := 32) ⟨by omega, by omega⟩ ⟨by omega, by omega⟩
        have hEe : (2 * (i : Int) + 1) * (j : Int) % (2 * (nn : Int)) = ((zqBe nn 1 i j : Nat) : Int) := by
          have h1 : 0 ≤ (2 * (i : Int) + 1) * (j : Int) % (2 * (nn : Int)) := Int.emod_nonneg _ (by omega)
          unfold zqBe
          rw [if_pos rfl]
          omega
        have hEb : zqBe nn 1 i j < 100000 := by
          have h1 : (2 * (i : Int) + 1) * (j : Int) % (2 * (nn : Int)) < 2 * (nn : Int) := Int.emod_lt_of_pos _ (by omega)
          omega
        refine V_iload d_Ref_batch_73 rfl ?_
        refine V_aload_n d_Ref_batch_75 rfl ?_
        refine V_getf d_Ref_batch_76 ff_Ref_7 zqs_o rfl ?_
        refine J_icmp_ge 161 d_Ref_batch_79 (by decide) (by omega) (by omega) (fun c_79 => absurd c_79 (by omega)) (fun c_79 => ?_)
        refine V_iload_n d_Ref_batch_82 rfl ?_
        refine J_if_eq 98 d_Ref_batch_83 (by decide) (by decide) (fun c_83 => absurd c_83 (by decide)) (fun c_83 => ?_)
        refine V_iconst d_Ref_batch_86 ?_
        refine V_iload d_Ref_batch_87 rfl ?_
        refine J_imul d_Ref_batch_89 ?_
        refine V_iconst d_Ref_batch_90 ?_
        refine J_iadd d_Ref_batch_91 ?_
        refine V_iload d_Ref_batch_92 rfl ?_
        refine J_imul d_Ref_batch_94 ?_
        refine V_goto 116 d_Ref_batch_95 (by decide) ?_
        refine V_istore d_Ref_batch_116 (by decide) ?_
        refine V_iload d_Ref_batch_118 rfl ?_
        refine V_aload_n d_Ref_batch_120 rfl ?_
        refine V_getf d_Ref_batch_121 ff_Ref_36 zqs_o rfl ?_
        refine J_bipush d_Ref_batch_124 (by decide) ?_
        refine V_iload_n d_Ref_batch_126 rfl ?_
        refine J_imul d_Ref_batch_127 ?_
        refine V_iload d_Ref_batch_128 rfl ?_
        refine J_iadd d_Ref_batch_130 ?_
        refine J_iaload d_Ref_batch_131 zqs_a7 (by omega) (by decide) ?_
        rw [zlu_n (show 7 ≠ 16 by decide)]
        refine V_aload_n d_Ref_batch_132 rfl ?_
        refine V_iload_n d_Ref_batch_133 rfl ?_
        refine V_iload d_Ref_batch_134 rfl ?_
        refine V_iconst d_Ref_batch_136 ?_
        refine V_aload_n d_Ref_batch_137 rfl ?_
        refine V_getf d_Ref_batch_138 ff_Ref_7 zqs_o rfl ?_
        refine J_imul d_Ref_batch_141 ?_
        refine J_iremP d_Ref_batch_142 ⟨hE.1, by omega⟩ (by omega) ?_
        rw [hEe]
        refine V_callV (n := 2) d_Ref_batch_143 g_Ref_145 rfl zqs_o rfl (r_power G _ C 0 kd nn t tu ch ke (zlu L 16 (zif (i : Int) (zqBF nn p 1 t z iv L) (L 16))) w0 z (zqBe nn 1 i j) ht (by omega) hEb) ⟨co_Ref_power, by decide +kernel, Nat.le_of_ble_eq_true rfl⟩ ⟨Nat.le_of_ble_eq_true rfl, Nat.le_of_ble_eq_true rfl, Nat.le_of_ble_eq_true rfl, Nat.le_of_ble_eq_true rfl⟩ (Nat.le_of_ble_eq_true rfl) (fun r_143 w_143 s_143 q_143 => ?_) (fun _ _ _ q => False.elim q)
        obtain ⟨rfl, rfl, rfl⟩ := q_143
        refine J_imul d_Ref_batch_146 ?_
        refine J_iadd d_Ref_batch_147 ?_
        refine V_aload_n d_Ref_batch_148 rfl ?_
        refine V_getf d_Ref_batch_149 ff_Ref_13 zqs_o rfl ?_
        refine J_iremP d_Ref_batch_152 ⟨by omega, by omega⟩ (by omega) ?_
        refine V_istore d_Ref_batch_153 (by decide) ?_
        refine J_iinc d_Ref_batch_155 rfl (by decide) ?_
        refine V_goto 73 d_Ref_batch_158 (by decide) ?_
        exact V_lo [0, 1, 2, 3, 4, 5, 6, 7] rfl ih2
      have hs : 0 ≤ zqBs nn p 1 t z L i nn ∧ zqBs nn p 1 t z L i nn < t := zqbs_b (by omega) nn
      have hFi : zqBs nn p 1 t z L i nn = (zqBF nn p 1 t z iv L) i := rfl
      refine V_iload d_Ref_batch_58 rfl ?_
      refine V_aload_n d_Ref_batch_60 rfl ?_
      refine V_getf d_Ref_batch_61 ff_Ref_7 zqs_o rfl ?_
      refine J_icmp_ge 195 d_Ref_batch_64 (by decide) (by omega) (by omega) (fun c_64 => absurd c_64 (by omega)) (fun c_64 => ?_)
      refine V_iconst d_Ref_batch_67 ?_
      refine V_istore d_Ref_batch_68 (by decide) ?_
      refine V_iconst d_Ref_batch_70 ?_
      refine V_istore d_Ref_batch_71 (by decide) ?_
      refine zfor nn (fun j : Nat => V G M_Ref_batch (zdet (some (.int (Int32.ofInt ((zqBa nn p 1 t z iv L) 7 (32 * (p : Int)))))) (zqs G C 0 kd nn t tu ch ke (zqBa nn p 1 t z iv L) w0) sz) (zR 2 0 0 45) 0 0 sz 73 [(0, .ref C), (1, .int (Int32.ofInt (p : Int))), (2, .int (Int32.ofInt 1)), (3, .int (Int32.ofInt z)), (4, .int (Int32.ofInt iv)), (5, .int (Int32.ofInt (i : Int))), (6, .int (Int32.ofInt (zqBs nn p 1 t z L i j))), (7, .int (Int32.ofInt (j : Int)))] [] (zqs G C 0 kd nn t tu ch ke (zlu L 16 (zif (i : Int) (zqBF nn p 1 t z iv L) (L 16))) w0)) ?_ st2 0 (Nat.zero_le nn)
      refine V_iload d_Ref_batch_73 rfl ?_
      refine V_aload_n d_Ref_batch_75 rfl ?_
      refine V_getf d_Ref_batch_76 ff_Ref_7 zqs_o rfl ?_
      refine J_icmp_ge 161 d_Ref_batch_79 (by decide) (by omega) (by omega) (fun c_79 => ?_) (fun c_79 => absurd c_79 (by omega))
      refine V_aload_n d_Ref_batch_161 rfl ?_
      refine V_getf d_Ref_batch_162 ff_Ref_63 zqs_o rfl ?_
      refine V_iload d_Ref_batch_165 rfl ?_
      refine V_iload_n d_Ref_batch_167 rfl ?_
      refine J_if_eq 177 d_Ref_batch_168 (by decide) (by decide) (fun c_168 => absurd c_168 (by decide)) (fun c_168 => ?_)
      refine V_iload d_Ref_batch_171 rfl ?_
      refine J_i2l d_Ref_batch_173 (by omega) ?_
      refine V_goto 188 d_Ref_batch_174 (by decide) ?_
      refine J_lastore d_Ref_batch_188 (zqs_r (j := 16) (by unfold zqi; decide)) (by omega) (by decide) ?_
      refine J_iinc d_Ref_batch_189 rfl (by decide) ?_
      refine V_goto 58 d_Ref_batch_192 (by decide) ?_
      exact V_w (by rw [zqs_lu (by unfold zqi; decide), zlu_s, zif_s (by omega) hFi, zlu_lu] <;> rfl) (V_lo [0, 1, 2, 3, 4, 5] rfl ih)
    refine zfor nn (fun i : Nat => V G M_Ref_batch (zdet (some (.int (Int32.ofInt ((zqBa nn p 1 t z iv L) 7 (32 * (p : Int)))))) (zqs G C 0 kd nn t tu ch ke (zqBa nn p 1 t z iv L) w0) sz) (zR 2 0 0 45) 0 0 sz 58 [(0, .ref C), (1, .int (Int32.ofInt (p : Int))), (2, .int (Int32.ofInt 1)), (3, .int (Int32.ofInt z)), (4, .int (Int32.ofInt iv)), (5, .int (Int32.ofInt (i : Int)))] [] (zqs G C 0 kd nn t tu ch ke (zlu L 16 (zif (i : Int) (zqBF nn p 1 t z iv L) (L 16))) w0)) ?_ st 0 (Nat.zero_le nn)
    refine V_iload d_Ref_batch_58 rfl ?_
    refine V_aload_n d_Ref_batch_60 rfl ?_
    refine V_getf d_Ref_batch_61 ff_Ref_7 zqs_o rfl ?_
    refine J_icmp_ge 195 d_Ref_batch_64 (by decide) (by omega) (by omega) (fun c_64 => ?_) (fun c_64 => absurd c_64 (by omega))
    refine V_iconst d_Ref_batch_195 ?_
    refine V_istore d_Ref_batch_196 (by decide) ?_
    refine V_w (w' := (zqs G C 0 kd nn t tu ch ke (zlu (zqBx nn p 1 t z iv L) 7 (zsf (32 * (p : Int)) (((0 : Nat) : Int) : Int) (zqBF nn p 1 t z iv L) ((zqBx nn p 1 t z iv L) 7))) w0)) (by rw [show ((0 : Nat) : Int) = 0 from rfl, zsf_0, zlu_self] <;> rfl) ?_
    have s7 : ∀ i : Nat, i < nn → (fun i : Nat => V G M_Ref_batch (zdet (some (.int (Int32.ofInt ((zqBa nn p 1 t z iv L) 7 (32 * (p : Int)))))) (zqs G C 0 kd nn t tu ch ke (zqBa nn p 1 t z iv L) w0) sz) (zR 2 0 0 45) 0 0 sz 198 [(0, .ref C), (1, .int (Int32.ofInt (p : Int))), (2, .int (Int32.ofInt 1)), (3, .int (Int32.ofInt z)), (4, .int (Int32.ofInt iv)), (5, .int (Int32.ofInt (i : Int)))] [] (zqs G C 0 kd nn t tu ch ke (zlu (zqBx nn p 1 t z iv L) 7 (zsf (32 * (p : Int)) (i : Int) (zqBF nn p 1 t z iv L) ((zqBx nn p 1 t z iv L) 7))) w0)) (i + 1) → (fun i : Nat => V G M_Ref_batch (zdet (some (.int (Int32.ofInt ((zqBa nn p 1 t z iv L) 7 (32 * (p : Int)))))) (zqs G C 0 kd nn t tu ch ke (zqBa nn p 1 t z iv L) w0) sz) (zR 2 0 0 45) 0 0 sz 198 [(0, .ref C), (1, .int (Int32.ofInt (p : Int))), (2, .int (Int32.ofInt 1)), (3, .int (Int32.ofInt z)), (4, .int (Int32.ofInt iv)), (5, .int (Int32.ofInt (i : Int)))] [] (zqs G C 0 kd nn t tu ch ke (zlu (zqBx nn p 1 t z iv L) 7 (zsf (32 * (p : Int)) (i : Int) (zqBF nn p 1 t z iv L) ((zqBx nn p 1 t z iv L) 7))) w0)) i := by
      intro i hi ih
      have hx : (zqBx nn p 1 t z iv L) 16 i = (zqBF nn p 1 t z iv L) i := zif_l (n := (nn : Int)) ⟨by omega, by omega⟩
      refine V_iload d_Ref_batch_198 rfl ?_
      refine V_aload_n d_Ref_batch_200 rfl ?_
      refine V_getf d_Ref_batch_201 ff_Ref_7 zqs_o rfl ?_
      refine J_icmp_ge 233 d_Ref_batch_204 (by decide) (by omega) (by omega) (fun c_204 => absurd c_204 (by omega)) (fun c_204 => ?_)
      refine V_aload_n d_Ref_batch_207 rfl ?_
      refine V_getf d_Ref_batch_208 ff_Ref_36 zqs_o rfl ?_
      refine J_bipush d_Ref_batch_211 (by decide) ?_
      refine V_iload_n d_Ref_batch_213 rfl ?_
      refine J_imul d_Ref_batch_214 ?_
      refine V_iload d_Ref_batch_215 rfl ?_
      refine J_iadd d_Ref_batch_217 ?_
      refine V_aload_n d_Ref_batch_218 rfl ?_
      refine V_getf d_Ref_batch_219 ff_Ref_63 zqs_o rfl ?_
      refine V_iload d_Ref_batch_222 rfl ?_
      refine J_laload d_Ref_batch_224 (zqs_r (j := 16) (by unfold zqi; decide)) (by omega) (by decide) ?_
      rw [zlu_n (show 16 ≠ 7 by decide), hx]
      refine J_l2i d_Ref_batch_225 ?_
      refine J_iastore d_Ref_batch_226 zqs_a7 (by omega) (by decide) ?_
      refine J_iinc d_Ref_batch_227 rfl (by decide) ?_
      refine V_goto 198 d_Ref_batch_230 (by decide) ?_
      exact V_w (by rw [zqs_u7, zlu_s, zsf_s (by omega) rfl, zlu_lu] <;> rfl) ih
    refine zfor nn (fun i : Nat => V G M_Ref_batch (zdet (some (.int (Int32.ofInt ((zqBa nn p 1 t z iv L) 7 (32 * (p : Int)))))) (zqs G C 0 kd nn t tu ch ke (zqBa nn p 1 t z iv L) w0) sz) (zR 2 0 0 45) 0 0 sz 198 [(0, .ref C), (1, .int (Int32.ofInt (p : Int))), (2, .int (Int32.ofInt 1)), (3, .int (Int32.ofInt z)), (4, .int (Int32.ofInt iv)), (5, .int (Int32.ofInt (i : Int)))] [] (zqs G C 0 kd nn t tu ch ke (zlu (zqBx nn p 1 t z iv L) 7 (zsf (32 * (p : Int)) (i : Int) (zqBF nn p 1 t z iv L) ((zqBx nn p 1 t z iv L) 7))) w0)) ?_ s7 0 (Nat.zero_le nn)
    refine V_iload d_Ref_batch_198 rfl ?_
    refine V_aload_n d_Ref_batch_200 rfl ?_
    refine V_getf d_Ref_batch_201 ff_Ref_7 zqs_o rfl ?_
    refine J_icmp_ge 233 d_Ref_batch_204 (by decide) (by omega) (by omega) (fun c_204 => ?_) (fun c_204 => absurd c_204 (by omega))
    refine V_aload_n d_Ref_batch_233 rfl ?_
    refine V_getf d_Ref_batch_234 ff_Ref_36 zqs_o rfl ?_
    refine J_bipush d_Ref_batch_237 (by decide) ?_
    refine V_iload_n d_Ref_batch_239 rfl ?_
    refine J_imul d_Ref_batch_240 ?_
    refine J_iaload d_Ref_batch_241 zqs_a7 (by omega) (by decide) ?_
    exact V_ireturn d_Ref_batch_242 rfl ⟨Nat.le_of_ble_eq_true rfl, Nat.le_of_ble_eq_true rfl⟩ ⟨rfl, rfl, rfl⟩
  have key : ∀ (m : Nat) (c : Int), 1 ≤ c → c ≤ iv → iv - c = m → V G M_Ref_batch (zdet (some (.int (Int32.ofInt ((zqBa nn p 1 t z iv L) 7 (32 * (p : Int)))))) (zqs G C 0 kd nn t tu ch ke (zqBa nn p 1 t z iv L) w0) sz) (zR 2 0 0 45) 0 0 sz 33 [(0, .ref C), (1, .int (Int32.ofInt (p : Int))), (2, .int (Int32.ofInt 1)), (3, .int (Int32.ofInt z)), (4, .int (Int32.ofInt c))] [] (zqs G C 0 kd nn t tu ch ke L w0) := by
    intro m
    induction m with
    | zero =>
      intro c h1 h3 h4
      have e : c = iv := by omega
      subst e
      have hcn := zmulb (a := c) (b := (nn : Int)) (A := 1000) (B := 32) ⟨by omega, by omega⟩ ⟨by omega, by omega⟩
      have hcm : 0 ≤ c * (nn : Int) % t ∧ c * (nn : Int) % t < t := ⟨Int.emod_nonneg _ (by omega), Int.emod_lt_of_pos _ (by omega)⟩
      refine V_iload d_Ref_batch_33 rfl ?_
      refine V_aload_n d_Ref_batch_35 rfl ?_
      refine V_getf d_Ref_batch_36 ff_Ref_7 zqs_o rfl ?_
      refine J_imul d_Ref_batch_39 ?_
      refine V_aload_n d_Ref_batch_40 rfl ?_
      refine V_getf d_Ref_batch_41 ff_Ref_13 zqs_o rfl ?_
      refine J_iremP d_Ref_batch_44 ⟨by omega, by omega⟩ (by omega) ?_
      refine V_iconst d_Ref_batch_45 ?_
      refine J_icmp_eq 55 d_Ref_batch_46 (by decide) (by omega) (by omega) (fun c_46 => ?_) (fun c_46 => absurd hiv c_46)
      exact main
    | succ m ih =>
      intro c h1 h3 h4
      have hcn := zmulb (a := c) (b := (nn : Int)) (A := 1000) (B := 32) ⟨by omega, by omega⟩ ⟨by omega, by omega⟩
      have hcm : 0 ≤ c * (nn : Int) % t ∧ c * (nn : Int) % t < t := ⟨Int.emod_nonneg _ (by omega), Int.emod_lt_of_pos _ (by omega)⟩
      refine V_iload d_Ref_batch_33 rfl ?_
      refine V_aload_n d_Ref_batch_35 rfl ?_
      refine V_getf d_Ref_batch_36 ff_Ref_7 zqs_o rfl ?_
      refine J_imul d_Ref_batch_39 ?_
      refine V_aload_n d_Ref_batch_40 rfl ?_
      refine V_getf d_Ref_batch_41 ff_Ref_13 zqs_o rfl ?_
      refine J_iremP d_Ref_batch_44 ⟨by omega, by omega⟩ (by omega) ?_
      refine V_iconst d_Ref_batch_45 ?_
      refine J_icmp_eq 55 d_Ref_batch_46 (by decide) (by omega) (by omega) (fun c_46 => absurd c_46 (hino c h1 (by omega))) (fun c_46 => ?_)
      refine J_iinc d_Ref_batch_49 rfl (by decide) ?_
      refine V_goto 33 d_Ref_batch_52 (by decide) ?_
      exact ih (c + 1) (by omega) (by omega) (by omega)
  refine V_aload_n d_Ref_batch_0 rfl ?_
  refine V_iload_n d_Ref_batch_1 rfl ?_
  refine V_callS (n := 1) d_Ref_batch_2 g_Ref_142 rfl (r_noPlain_n G _ _ p (by omega)) ⟨co_Ref_noPlain, by decide +kernel, Nat.le_of_ble_eq_true rfl⟩ ⟨Nat.le_of_ble_eq_true rfl, Nat.le_of_ble_eq_true rfl, Nat.le_of_ble_eq_true rfl, Nat.le_of_ble_eq_true rfl⟩ (Nat.le_of_ble_eq_true rfl) (fun r_2 w_2 s_2 q_2 => ?_) (fun _ _ _ q => False.elim q)
  obtain ⟨rfl, rfl, rfl⟩ := q_2
  refine J_if_eq 12 d_Ref_batch_5 (by decide) (by decide) (fun c_5 => ?_) (fun c_5 => absurd rfl c_5)
  refine V_iconst d_Ref_batch_12 ?_
  refine V_putf d_Ref_batch_13 ff_Ref_69 zqs_o ⟨_, _, _, _, rfl, rfl, rfl, rfl, rfl⟩ (Nat.le_of_ble_eq_true rfl) ?_
  refine V_w (zqs_f (th' := 0) rfl) ?_
  refine V_aload_n d_Ref_batch_16 rfl ?_
  refine V_getf d_Ref_batch_17 ff_Ref_69 zqs_o rfl ?_
  refine J_if_le 25 d_Ref_batch_20 (by decide) (by decide) (fun c_20 => ?_) (fun c_20 => absurd c_20 (by decide))
  refine V_aload_n d_Ref_batch_25 rfl ?_
  refine V_callV (n := 0) d_Ref_batch_26 g_Ref_149 rfl zqs_o rfl (r_root G _ C 0 kd nn t tu ch ke L w0 nn rfl hn z ht h2 hz hno) ⟨co_Ref_root, by decide +kernel, Nat.le_of_ble_eq_true rfl⟩ ⟨Nat.le_of_ble_eq_true rfl, Nat.le_of_ble_eq_true rfl, Nat.le_of_ble_eq_true rfl, Nat.le_of_ble_eq_true rfl⟩ (Nat.le_of_ble_eq_true rfl) (fun r_26 w_26 s_26 q_26 => ?_) (fun _ _ _ q => False.elim q)
  obtain ⟨rfl, rfl, rfl⟩ := q_26
  refine V_istore_n d_Ref_batch_29 (by decide) ?_
  refine V_iconst d_Ref_batch_30 ?_
  refine V_istore d_Ref_batch_31 (by decide) ?_
  exact key (iv - 1).toNat 1 (by omega) (by omega) (by omega)

