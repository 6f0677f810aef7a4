/-- one outcome, one world; at most one thing made -/
def zOut (o : Option Value ⊕ String) (w' : zW) (sz' : Nat) : zK := (fun o1 w1 s1 => o = o1 ∧ w' = w1 ∧ sz' = s1, 1, 6)

set_option maxRecDepth 100000 in
set_option maxHeartbeats 4000000 in
theorem c_multiply (G : zG) (sz B : Nat) (kd n t zz : Int) (ch : Int32) (md tc : Int) (tg pt : Nat → Int) (L : Nat → Int → Int) (w0 : zW) (nn : Nat) (hnn : n = (nn : Int)) (hn : nn ≤ 32) (c l r : Nat) (hc : c < 16) (hl : l < 16) (hr : r < 16) (ht : 1 < t ∧ t ≤ 1000) (hL : ∀ q : Nat, q < 2 → ∀ i : Nat, i < nn → -9223372036854775808 ≤ L (97 + 5 * l + 1 + 1 + q) i ∧ L (97 + 5 * l + 1 + 1 + q) i < 9223372036854775808) (hR2 : ∀ q : Nat, q < 2 → ∀ i : Nat, i < nn → -9223372036854775808 ≤ L (97 + 5 * r + 1 + 1 + q) i ∧ L (97 + 5 * r + 1 + 1 + q) i < 9223372036854775808) (hM : ∀ k : Nat, k < 3 → ∀ i : Nat, i < nn → -4611686018427387904 ≤ zMp nn l r L (178 + k) i ∧ zMp nn l r L (178 + k) i ≤ 4611686018427387904) (hR : ∀ k : Nat, k < 3 → ∀ i : Nat, i < nn → -9223372036854775808 ≤ (zTs nn t (zMp nn l r L) 3) (178 + k) i ∧ (zTs nn t (zMp nn l r L) 3) (178 + k) i < 9223372036854775808) : zCt G M_X_multiply (zR 3 0 0 71) [.ref B, .ref (B + (97 + 5 * c)), .ref (B + (97 + 5 * l)), .ref (B + (97 + 5 * r))] sz (zsys G B kd n t zz ch md tc tg pt L w0) (zdet none (zsys G B kd n t zz ch md tc tg (zpu pt (97 + 5 * c) 3) (zSt nn c (zTs nn t (zMp nn l r L) 3) 3) w0) sz) := by
  subst hnn
  refine V_aload_n d_X_multiply_0 rfl ?_
  refine V_getf d_X_multiply_1 ff_X_12 zsys_x0 rfl ?_
  refine V_aload_n d_X_multiply_4 rfl ?_
  refine V_getf d_X_multiply_5 ff_X_45 zsys_x0 rfl ?_
  refine V_iconst d_X_multiply_8 ?_
  refine J_aaload d_X_multiply_9 (zsys_at (by decide) rfl) rfl rfl (by omega) (by decide) (show _ = some (B + (182 + 0)) from rfl) ?_
  refine V_aload_n d_X_multiply_10 rfl ?_
  refine V_getf d_X_multiply_11 ff_X_221 (zsys_at (by omega) (zlay_cip hl)) rfl ?_
  refine V_iconst d_X_multiply_14 ?_
  refine J_aaload d_X_multiply_15 (zsys_at (by omega) (zlay_cir hl)) rfl rfl (by omega) (by decide) (show _ = some (B + (97 + 5 * l + 1 + 1 + 0)) from rfl) ?_
  refine V_callV (n := 2) d_X_multiply_16 g_X_278 rfl zsys_r rfl (c_centre G _ _ (B + 1) (B + 2) kd nn t zz (B + (182 + 0)) (B + (97 + 5 * l + 1 + 1 + 0)) nn _ _ zsys_r (zsys_row (zir_w (by decide))) (zsys_row (zir_c hl (by decide))) (by omega) rfl hn (fun j hj => hL 0 (by decide) j hj)) ⟨co_Ring_centre, by decide +kernel, Nat.le_of_ble_eq_true rfl⟩ ⟨Nat.le_of_ble_eq_true rfl, Nat.le_of_ble_eq_true rfl, Nat.le_of_ble_eq_true rfl, Nat.le_of_ble_eq_true rfl⟩ (Nat.le_of_ble_eq_true rfl) (fun r_16 w_16 s_16 q_16 => ?_) (fun _ _ _ q => False.elim q)
  obtain ⟨rfl, rfl, rfl⟩ := q_16
  refine V_w (zsys_lu (zir_w (by decide))) ?_
  refine V_aload_n d_X_multiply_19 rfl ?_
  refine V_getf d_X_multiply_20 ff_X_12 zsys_x0 rfl ?_
  refine V_aload_n d_X_multiply_23 rfl ?_
  refine V_getf d_X_multiply_24 ff_X_45 zsys_x0 rfl ?_
  refine V_iconst d_X_multiply_27 ?_
  refine J_aaload d_X_multiply_28 (zsys_at (by decide) rfl) rfl rfl (by omega) (by decide) (show _ = some (B + (182 + 1)) from rfl) ?_
  refine V_aload_n d_X_multiply_29 rfl ?_
  refine V_getf d_X_multiply_30 ff_X_221 (zsys_at (by omega) (zlay_cip hl)) rfl ?_
  refine V_iconst d_X_multiply_33 ?_
  refine J_aaload d_X_multiply_34 (zsys_at (by omega) (zlay_cir hl)) rfl rfl (by omega) (by decide) (show _ = some (B + (97 + 5 * l + 1 + 1 + 1)) from rfl) ?_
  refine V_callV (n := 2) d_X_multiply_35 g_X_278 rfl zsys_r rfl (c_centre G _ _ (B + 1) (B + 2) kd nn t zz (B + (182 + 1)) (B + (97 + 5 * l + 1 + 1 + 1)) nn _ _ zsys_r (zsys_row (zir_w (by decide))) (zsys_row (zir_c hl (by decide))) (by omega) rfl hn (fun j hj => by rw [zlu_n (by omega)]; exact hL 1 (by decide) j hj)) ⟨co_Ring_centre, by decide +kernel, Nat.le_of_ble_eq_true rfl⟩ ⟨Nat.le_of_ble_eq_true rfl, Nat.le_of_ble_eq_true rfl, Nat.le_of_ble_eq_true rfl, Nat.le_of_ble_eq_true rfl⟩ (Nat.le_of_ble_eq_true rfl) (fun r_35 w_35 s_35 q_35 => ?_) (fun _ _ _ q => False.elim q)
  obtain ⟨rfl, rfl, rfl⟩ := q_35
  refine V_w (zsys_lu (zir_w (by decide))) ?_
  refine V_aload_n d_X_multiply_38 rfl ?_
  refine V_getf d_X_multiply_39 ff_X_12 zsys_x0 rfl ?_
  refine V_aload_n d_X_multiply_42 rfl ?_
  refine V_getf d_X_multiply_43 ff_X_45 zsys_x0 rfl ?_
  refine V_iconst d_X_multiply_46 ?_
  refine J_aaload d_X_multiply_47 (zsys_at (by decide) rfl) rfl rfl (by omega) (by decide) (show _ = some (B + (182 + 2)) from rfl) ?_
  refine V_aload_n d_X_multiply_48 rfl ?_
  refine V_getf d_X_multiply_49 ff_X_221 (zsys_at (by omega) (zlay_cip hr)) rfl ?_
  refine V_iconst d_X_multiply_52 ?_
  refine J_aaload d_X_multiply_53 (zsys_at (by omega) (zlay_cir hr)) rfl rfl (by omega) (by decide) (show _ = some (B + (97 + 5 * r + 1 + 1 + 0)) from rfl) ?_
  refine V_callV (n := 2) d_X_multiply_54 g_X_278 rfl zsys_r rfl (c_centre G _ _ (B + 1) (B + 2) kd nn t zz (B + (182 + 2)) (B + (97 + 5 * r + 1 + 1 + 0)) nn _ _ zsys_r (zsys_row (zir_w (by decide))) (zsys_row (zir_c hr (by decide))) (by omega) rfl hn (fun j hj => by rw [zlu_n (by omega), zlu_n (by omega)]; exact hR2 0 (by decide) j hj)) ⟨co_Ring_centre, by decide +kernel, Nat.le_of_ble_eq_true rfl⟩ ⟨Nat.le_of_ble_eq_true rfl, Nat.le_of_ble_eq_true rfl, Nat.le_of_ble_eq_true rfl, Nat.le_of_ble_eq_true rfl⟩ (Nat.le_of_ble_eq_true rfl) (fun r_54 w_54 s_54 q_54 => ?_) (fun _ _ _ q => False.elim q)
  obtain ⟨rfl, rfl, rfl⟩ := q_54
  refine V_w (zsys_lu (zir_w (by decide))) ?_
  refine V_aload_n d_X_multiply_57 rfl ?_
  refine V_getf d_X_multiply_58 ff_X_12 zsys_x0 rfl ?_
  refine V_aload_n d_X_multiply_61 rfl ?_
  refine V_getf d_X_multiply_62 ff_X_45 zsys_x0 rfl ?_
  refine V_iconst d_X_multiply_65 ?_
  refine J_aaload d_X_multiply_66 (zsys_at (by decide) rfl) rfl rfl (by omega) (by decide) (show _ = some (B + (182 + 3)) from rfl) ?_
  refine V_aload_n d_X_multiply_67 rfl ?_
  refine V_getf d_X_multiply_68 ff_X_221 (zsys_at (by omega) (zlay_cip hr)) rfl ?_
  refine V_iconst d_X_multiply_71 ?_
  refine J_aaload d_X_multiply_72 (zsys_at (by omega) (zlay_cir hr)) rfl rfl (by omega) (by decide) (show _ = some (B + (97 + 5 * r + 1 + 1 + 1)) from rfl) ?_
  refine V_callV (n := 2) d_X_multiply_73 g_X_278 rfl zsys_r rfl (c_centre G _ _ (B + 1) (B + 2) kd nn t zz (B + (182 + 3)) (B + (97 + 5 * r + 1 + 1 + 1)) nn _ _ zsys_r (zsys_row (zir_w (by decide))) (zsys_row (zir_c hr (by decide))) (by omega) rfl hn (fun j hj => by rw [zlu_n (by omega), zlu_n (by omega), zlu_n (by omega)]; exact hR2 1 (by decide) j hj)) ⟨co_Ring_centre, by decide +kernel, Nat.le_of_ble_eq_true rfl⟩ ⟨Nat.le_of_ble_eq_true rfl, Nat.le_of_ble_eq_true rfl, Nat.le_of_ble_eq_true rfl, Nat.le_of_ble_eq_true rfl⟩ (Nat.le_of_ble_eq_true rfl) (fun r_73 w_73 s_73 q_73 => ?_) (fun _ _ _ q => False.elim q)
  obtain ⟨rfl, rfl, rfl⟩ := q_73
  refine V_w (zsys_lu (zir_w (by decide))) ?_
  refine V_iconst d_X_multiply_76 ?_
  refine V_istore d_X_multiply_77 (by decide) ?_
  refine zfor 3 (fun k => V G M_X_multiply (zdet none (zsys G B kd nn t zz ch md tc tg (zpu pt (97 + 5 * c) 3) (zSt nn c (zTs nn t (zMp nn l r L) 3) 3) w0) sz) (zR 3 0 0 71) 0 0 sz 79 [(0, .ref B), (1, .ref (B + (97 + 5 * c))), (2, .ref (B + (97 + 5 * l))), (3, .ref (B + (97 + 5 * r))), (4, .int (Int32.ofInt (k : Int)))] [] (zsys G B kd nn t zz ch md tc tg pt (zFs (zMc nn l r L) k) w0)) ?_ (fun k hk ih => ?_) 0 (Nat.zero_le 3)
  · skip
    refine V_iload d_X_multiply_79 rfl ?_
    refine V_iconst d_X_multiply_81 ?_
    refine J_icmp_ge 102 d_X_multiply_82 (by decide) (by omega) (by omega) (fun c_82 => ?_) (fun c_82 => absurd c_82 (by omega))
    refine V_aload_n d_X_multiply_102 rfl ?_
    refine V_getf d_X_multiply_103 ff_X_12 zsys_x0 rfl ?_
    refine V_aload_n d_X_multiply_106 rfl ?_
    refine V_getf d_X_multiply_107 ff_X_42 zsys_x0 rfl ?_
    refine V_iconst d_X_multiply_110 ?_
    refine J_aaload d_X_multiply_111 (zsys_at (by decide) rfl) rfl rfl (by omega) (by decide) (show _ = some (B + (178 + 0)) from rfl) ?_
    refine V_aload_n d_X_multiply_112 rfl ?_
    refine V_getf d_X_multiply_113 ff_X_45 zsys_x0 rfl ?_
    refine V_iconst d_X_multiply_116 ?_
    refine J_aaload d_X_multiply_117 (zsys_at (by decide) rfl) rfl rfl (by omega) (by decide) (show _ = some (B + (182 + 0)) from rfl) ?_
    refine V_aload_n d_X_multiply_118 rfl ?_
    refine V_getf d_X_multiply_119 ff_X_45 zsys_x0 rfl ?_
    refine V_iconst d_X_multiply_122 ?_
    refine J_aaload d_X_multiply_123 (zsys_at (by decide) rfl) rfl rfl (by omega) (by decide) (show _ = some (B + (182 + 2)) from rfl) ?_
    refine V_callV (n := 3) d_X_multiply_124 g_X_154 rfl zsys_r rfl (c_addProduct G _ _ (B + 1) (B + 2) kd nn t zz (B + (178 + 0)) (B + (182 + 0)) (B + (182 + 2)) nn _ _ _ zsys_r (zsys_row (zir_s (by decide))) (zsys_row (zir_w (by decide))) (zsys_row (zir_w (by decide))) (by omega) (by omega) rfl hn) ⟨co_Ring_addProduct, by decide +kernel, Nat.le_of_ble_eq_true rfl⟩ ⟨Nat.le_of_ble_eq_true rfl, Nat.le_of_ble_eq_true rfl, Nat.le_of_ble_eq_true rfl, Nat.le_of_ble_eq_true rfl⟩ (Nat.le_of_ble_eq_true rfl) (fun r_124 w_124 s_124 q_124 => ?_) (fun _ _ _ q => False.elim q)
    obtain ⟨rfl, rfl, rfl⟩ := q_124
    refine V_w (zsys_lu (zir_s (by decide))) ?_
    refine V_aload_n d_X_multiply_127 rfl ?_
    refine V_getf d_X_multiply_128 ff_X_12 zsys_x0 rfl ?_
    refine V_aload_n d_X_multiply_131 rfl ?_
    refine V_getf d_X_multiply_132 ff_X_42 zsys_x0 rfl ?_
    refine V_iconst d_X_multiply_135 ?_
    refine J_aaload d_X_multiply_136 (zsys_at (by decide) rfl) rfl rfl (by omega) (by decide) (show _ = some (B + (178 + 1)) from rfl) ?_
    refine V_aload_n d_X_multiply_137 rfl ?_
    refine V_getf d_X_multiply_138 ff_X_45 zsys_x0 rfl ?_
    refine V_iconst d_X_multiply_141 ?_
    refine J_aaload d_X_multiply_142 (zsys_at (by decide) rfl) rfl rfl (by omega) (by decide) (show _ = some (B + (182 + 0)) from rfl) ?_
    refine V_aload_n d_X_multiply_143 rfl ?_
    refine V_getf d_X_multiply_144 ff_X_45 zsys_x0 rfl ?_
    refine V_iconst d_X_multiply_147 ?_
    refine J_aaload d_X_multiply_148 (zsys_at (by decide) rfl) rfl rfl (by omega) (by decide) (show _ = some (B + (182 + 3)) from rfl) ?_
    refine V_callV (n := 3) d_X_multiply_149 g_X_154 rfl zsys_r rfl (c_addProduct G _ _ (B + 1) (B + 2) kd nn t zz (B + (178 + 1)) (B + (182 + 0)) (B + (182 + 3)) nn _ _ _ zsys_r (zsys_row (zir_s (by decide))) (zsys_row (zir_w (by decide))) (zsys_row (zir_w (by decide))) (by omega) (by omega) rfl hn) ⟨co_Ring_addProduct, by decide +kernel, Nat.le_of_ble_eq_true rfl⟩ ⟨Nat.le_of_ble_eq_true rfl, Nat.le_of_ble_eq_true rfl, Nat.le_of_ble_eq_true rfl, Nat.le_of_ble_eq_true rfl⟩ (Nat.le_of_ble_eq_true rfl) (fun r_149 w_149 s_149 q_149 => ?_) (fun _ _ _ q => False.elim q)
    obtain ⟨rfl, rfl, rfl⟩ := q_149
    refine V_w (zsys_lu (zir_s (by decide))) ?_
    refine V_aload_n d_X_multiply_152 rfl ?_
    refine V_getf d_X_multiply_153 ff_X_12 zsys_x0 rfl ?_
    refine V_aload_n d_X_multiply_156 rfl ?_
    refine V_getf d_X_multiply_157 ff_X_42 zsys_x0 rfl ?_
    refine V_iconst d_X_multiply_160 ?_
    refine J_aaload d_X_multiply_161 (zsys_at (by decide) rfl) rfl rfl (by omega) (by decide) (show _ = some (B + (178 + 1)) from rfl) ?_
    refine V_aload_n d_X_multiply_162 rfl ?_
    refine V_getf d_X_multiply_163 ff_X_45 zsys_x0 rfl ?_
    refine V_iconst d_X_multiply_166 ?_
    refine J_aaload d_X_multiply_167 (zsys_at (by decide) rfl) rfl rfl (by omega) (by decide) (show _ = some (B + (182 + 1)) from rfl) ?_
    refine V_aload_n d_X_multiply_168 rfl ?_
    refine V_getf d_X_multiply_169 ff_X_45 zsys_x0 rfl ?_
    refine V_iconst d_X_multiply_172 ?_
    refine J_aaload d_X_multiply_173 (zsys_at (by decide) rfl) rfl rfl (by omega) (by decide) (show _ = some (B + (182 + 2)) from rfl) ?_
    refine V_callV (n := 3) d_X_multiply_174 g_X_154 rfl zsys_r rfl (c_addProduct G _ _ (B + 1) (B + 2) kd nn t zz (B + (178 + 1)) (B + (182 + 1)) (B + (182 + 2)) nn _ _ _ zsys_r (zsys_row (zir_s (by decide))) (zsys_row (zir_w (by decide))) (zsys_row (zir_w (by decide))) (by omega) (by omega) rfl hn) ⟨co_Ring_addProduct, by decide +kernel, Nat.le_of_ble_eq_true rfl⟩ ⟨Nat.le_of_ble_eq_true rfl, Nat.le_of_ble_eq_true rfl, Nat.le_of_ble_eq_true rfl, Nat.le_of_ble_eq_true rfl⟩ (Nat.le_of_ble_eq_true rfl) (fun r_174 w_174 s_174 q_174 => ?_) (fun _ _ _ q => False.elim q)
    obtain ⟨rfl, rfl, rfl⟩ := q_174
    refine V_w (zsys_lu (zir_s (by decide))) ?_
    refine V_aload_n d_X_multiply_177 rfl ?_
    refine V_getf d_X_multiply_178 ff_X_12 zsys_x0 rfl ?_
    refine V_aload_n d_X_multiply_181 rfl ?_
    refine V_getf d_X_multiply_182 ff_X_42 zsys_x0 rfl ?_
    refine V_iconst d_X_multiply_185 ?_
    refine J_aaload d_X_multiply_186 (zsys_at (by decide) rfl) rfl rfl (by omega) (by decide) (show _ = some (B + (178 + 2)) from rfl) ?_
    refine V_aload_n d_X_multiply_187 rfl ?_
    refine V_getf d_X_multiply_188 ff_X_45 zsys_x0 rfl ?_
    refine V_iconst d_X_multiply_191 ?_
    refine J_aaload d_X_multiply_192 (zsys_at (by decide) rfl) rfl rfl (by omega) (by decide) (show _ = some (B + (182 + 1)) from rfl) ?_
    refine V_aload_n d_X_multiply_193 rfl ?_
    refine V_getf d_X_multiply_194 ff_X_45 zsys_x0 rfl ?_
    refine V_iconst d_X_multiply_197 ?_
    refine J_aaload d_X_multiply_198 (zsys_at (by decide) rfl) rfl rfl (by omega) (by decide) (show _ = some (B + (182 + 3)) from rfl) ?_
    refine V_callV (n := 3) d_X_multiply_199 g_X_154 rfl zsys_r rfl (c_addProduct G _ _ (B + 1) (B + 2) kd nn t zz (B + (178 + 2)) (B + (182 + 1)) (B + (182 + 3)) nn _ _ _ zsys_r (zsys_row (zir_s (by decide))) (zsys_row (zir_w (by decide))) (zsys_row (zir_w (by decide))) (by omega) (by omega) rfl hn) ⟨co_Ring_addProduct, by decide +kernel, Nat.le_of_ble_eq_true rfl⟩ ⟨Nat.le_of_ble_eq_true rfl, Nat.le_of_ble_eq_true rfl, Nat.le_of_ble_eq_true rfl, Nat.le_of_ble_eq_true rfl⟩ (Nat.le_of_ble_eq_true rfl) (fun r_199 w_199 s_199 q_199 => ?_) (fun _ _ _ q => False.elim q)
    obtain ⟨rfl, rfl, rfl⟩ := q_199
    refine V_w (zsys_lu (zir_s (by decide))) ?_
    refine V_iconst d_X_multiply_202 ?_
    refine V_istore d_X_multiply_203 (by decide) ?_
    refine V_lo [0, 1, 2, 3, 4] rfl ?_
    refine zfor 3 (fun k => V G M_X_multiply (zdet none (zsys G B kd nn t zz ch md tc tg (zpu pt (97 + 5 * c) 3) (zSt nn c (zTs nn t (zMp nn l r L) 3) 3) w0) sz) (zR 3 0 0 71) 0 0 sz 205 [(0, .ref B), (1, .ref (B + (97 + 5 * c))), (2, .ref (B + (97 + 5 * l))), (3, .ref (B + (97 + 5 * r))), (4, .int (Int32.ofInt (k : Int)))] [] (zsys G B kd nn t zz ch md tc tg pt (zTs nn t (zMp nn l r L) k) w0)) ?_ (fun k hk ih => ?_) 0 (Nat.zero_le 3)
    · skip
      refine V_iload d_X_multiply_205 rfl ?_
      refine V_iconst d_X_multiply_207 ?_
      refine J_icmp_ge 265 d_X_multiply_208 (by decide) (by omega) (by omega) (fun c_208 => ?_) (fun c_208 => absurd c_208 (by omega))
      refine V_aload_n d_X_multiply_265 rfl ?_
      refine V_aload_n d_X_multiply_266 rfl ?_
      refine V_iconst d_X_multiply_267 ?_
      refine V_callV (n := 2) d_X_multiply_268 g_X_274 rfl zsys_x0 rfl (c_storeSums G _ B kd nn t zz ch md tc tg pt (zTs nn t (zMp nn l r L) 3) w0 nn rfl hn c 3 hc (by omega) hR) ⟨co_X_storeSums, by decide +kernel, Nat.le_of_ble_eq_true rfl⟩ ⟨Nat.le_of_ble_eq_true rfl, Nat.le_of_ble_eq_true rfl, Nat.le_of_ble_eq_true rfl, Nat.le_of_ble_eq_true rfl⟩ (Nat.le_of_ble_eq_true rfl) (fun r_268 w_268 s_268 q_268 => ?_) (fun _ _ _ q => False.elim q)
      obtain ⟨rfl, rfl, rfl⟩ := q_268
      exact V_return d_X_multiply_271 rfl ⟨Nat.le_of_ble_eq_true rfl, Nat.le_of_ble_eq_true rfl⟩ ⟨rfl, rfl, rfl⟩
    · have hX : ∀ i : Nat, i < nn → -4611686018427387904 ≤ zTs nn t (zMp nn l r L) k (178 + k) i ∧ zTs nn t (zMp nn l r L) k (178 + k) i ≤ 4611686018427387904 := fun i hi => by rw [zTs_o k (fun i hi => by omega)]; exact hM k hk i hi
      refine V_iload d_X_multiply_205 rfl ?_
      refine V_iconst d_X_multiply_207 ?_
      refine J_icmp_ge 265 d_X_multiply_208 (by decide) (by omega) (by omega) (fun c_208 => absurd c_208 (by omega)) (fun c_208 => ?_)
      refine V_iconst d_X_multiply_211 ?_
      refine V_istore d_X_multiply_212 (by decide) ?_
      refine V_w (w' := (zsys G B kd nn t zz ch md tc tg pt (zlu (zTs nn t (zMp nn l r L) k) (178 + k) (zif ((0 : Nat) : Int) (fun i => zts t ((zTs nn t (zMp nn l r L) k) (178 + k) i)) ((zTs nn t (zMp nn l r L) k) (178 + k)))) w0)) (by rw [show ((0 : Nat) : Int) = 0 from rfl, zif_0, ← zsys_lu (zir_s hk), zset_self (zsys_row (zir_s hk))]) ?_
      refine zfor nn (fun i => V G M_X_multiply (zdet none (zsys G B kd nn t zz ch md tc tg (zpu pt (97 + 5 * c) 3) (zSt nn c (zTs nn t (zMp nn l r L) 3) 3) w0) sz) (zR 3 0 0 71) 0 0 sz 214 [(0, .ref B), (1, .ref (B + (97 + 5 * c))), (2, .ref (B + (97 + 5 * l))), (3, .ref (B + (97 + 5 * r))), (4, .int (Int32.ofInt (k : Int))), (5, .int (Int32.ofInt (i : Int)))] [] (zsys G B kd nn t zz ch md tc tg pt (zlu (zTs nn t (zMp nn l r L) k) (178 + k) (zif (i : Int) (fun i => zts t ((zTs nn t (zMp nn l r L) k) (178 + k) i)) ((zTs nn t (zMp nn l r L) k) (178 + k)))) w0)) ?_ (fun i hi ih2 => ?_) 0 (Nat.zero_le nn)
      · skip
        refine V_iload d_X_multiply_214 rfl ?_
        refine V_aload_n d_X_multiply_216 rfl ?_
        refine V_getf d_X_multiply_217 ff_X_12 zsys_x0 rfl ?_
        refine V_getf d_X_multiply_220 ff_X_78 zsys_r rfl ?_
        refine J_icmp_ge 259 d_X_multiply_223 (by decide) (by omega) (by omega) (fun c_223 => ?_) (fun c_223 => absurd c_223 (by omega))
        refine J_iinc d_X_multiply_259 rfl (by decide) ?_
        refine V_goto 205 d_X_multiply_262 (by decide) ?_
        exact V_lo [0, 1, 2, 3, 4] rfl ih
      · skip
        refine V_iload d_X_multiply_214 rfl ?_
        refine V_aload_n d_X_multiply_216 rfl ?_
        refine V_getf d_X_multiply_217 ff_X_12 zsys_x0 rfl ?_
        refine V_getf d_X_multiply_220 ff_X_78 zsys_r rfl ?_
        refine J_icmp_ge 259 d_X_multiply_223 (by decide) (by omega) (by omega) (fun c_223 => absurd c_223 (by omega)) (fun c_223 => ?_)
        refine V_aload_n d_X_multiply_226 rfl ?_
        refine V_getf d_X_multiply_227 ff_X_42 zsys_x0 rfl ?_
        refine V_iload d_X_multiply_230 rfl ?_
        refine J_aaload d_X_multiply_232 (zsys_at (by decide) rfl) rfl rfl (by omega) (by decide) ((zel (a := fun k => B + (178 + k)) hk).trans rfl : _ = some (B + (178 + k))) ?_
        refine V_iload d_X_multiply_233 rfl ?_
        refine V_aload_n d_X_multiply_235 rfl ?_
        refine V_getf d_X_multiply_236 ff_X_12 zsys_x0 rfl ?_
        refine V_aload_n d_X_multiply_239 rfl ?_
        refine V_getf d_X_multiply_240 ff_X_42 zsys_x0 rfl ?_
        refine V_iload d_X_multiply_243 rfl ?_
        refine J_aaload d_X_multiply_245 (zsys_at (by decide) rfl) rfl rfl (by omega) (by decide) ((zel (a := fun k => B + (178 + k)) hk).trans rfl : _ = some (B + (178 + k))) ?_
        refine V_iload d_X_multiply_246 rfl ?_
        refine J_laload d_X_multiply_248 (zsys_row (zir_s (show k < 3 by omega))) (by omega) (by decide) ?_
        rw [zlu_s, zif_r (show ¬ (0 ≤ (i : Int) ∧ (i : Int) < i) by omega)]
        refine V_callV (n := 1) d_X_multiply_249 g_X_180 rfl zsys_r rfl (c_timesTOverQ G _ _ (B + 1) (B + 2) kd nn t zz ((zTs nn t (zMp nn l r L) k) (178 + k) i) zsys_r ht (hX i hi)) ⟨co_Ring_timesTOverQ, by decide +kernel, Nat.le_of_ble_eq_true rfl⟩ ⟨Nat.le_of_ble_eq_true rfl, Nat.le_of_ble_eq_true rfl, Nat.le_of_ble_eq_true rfl, Nat.le_of_ble_eq_true rfl⟩ (Nat.le_of_ble_eq_true rfl) (fun r_249 w_249 s_249 q_249 => ?_) (fun _ _ _ q => False.elim q)
        obtain ⟨rfl, rfl, rfl⟩ := q_249
        refine J_lastore d_X_multiply_252 (zsys_row (zir_s (show k < 3 by omega))) (by omega) (by decide) ?_
        refine J_iinc d_X_multiply_253 rfl (by decide) ?_
        refine V_goto 214 d_X_multiply_256 (by decide) ?_
        exact V_w (by rw [zsys_lu (zir_s hk), zlu_s, zif_s (by omega) rfl, zlu_lu]; rfl) ih2
  · skip
    refine V_iload d_X_multiply_79 rfl ?_
    refine V_iconst d_X_multiply_81 ?_
    refine J_icmp_ge 102 d_X_multiply_82 (by decide) (by omega) (by omega) (fun c_82 => absurd c_82 (by omega)) (fun c_82 => ?_)
    refine V_aload_n d_X_multiply_85 rfl ?_
    refine V_getf d_X_multiply_86 ff_X_42 zsys_x0 rfl ?_
    refine V_iload d_X_multiply_89 rfl ?_
    refine J_aaload d_X_multiply_91 (zsys_at (by decide) rfl) rfl rfl (by omega) (by decide) ((zel (a := fun k => B + (178 + k)) hk).trans rfl : _ = some (B + (178 + k))) ?_
    refine J_lconst (z := 0) d_X_multiply_92 rfl ?_
    refine V_callS (n := 2) d_X_multiply_93 g_X_72 rfl (c_fill G _ _ (B + (178 + k)) 32 0 _ (zsys_row (zir_s hk)) (by decide)) ⟨co_Arrays_fill, by decide +kernel, Nat.le_of_ble_eq_true rfl⟩ ⟨Nat.le_of_ble_eq_true rfl, Nat.le_of_ble_eq_true rfl, Nat.le_of_ble_eq_true rfl, Nat.le_of_ble_eq_true rfl⟩ (Nat.le_of_ble_eq_true rfl) (fun r_93 w_93 s_93 q_93 => ?_) (fun _ _ _ q => False.elim q)
    obtain ⟨rfl, rfl, rfl⟩ := q_93
    refine V_w (zsys_lu (zir_s hk)) ?_
    refine J_iinc d_X_multiply_96 rfl (by decide) ?_
    refine V_goto 79 d_X_multiply_99 (by decide) ?_
    exact ih

set_option maxRecDepth 100000 in
set_option maxHeartbeats 4000000 in
theorem c_plainAt_no (G : zG) (sz B : Nat) (kd n t zz : Int) (ch : Int32) (md tc : Int) (tg pt : Nat → Int) (L : Nat → Int → Int) (w0 : zW) (p : Int) (hp : -2147483648 ≤ p ∧ p < 2147483648) (hb : p < 0 ∨ 8 ≤ p) : zCt G M_X_plainAt (zR 6 1 6 96) [.ref B, .int (Int32.ofInt p)] sz (zsys G B kd n t zz ch md tc tg pt L w0) (zOut (.inr zNSE) (zsys G B kd n t zz ch md tc tg pt L w0) (sz + 1)) := by
  by_cases h0 : p < 0
  · skip
    refine V_iload_n d_X_plainAt_0 rfl ?_
    refine J_if_lt 10 d_X_plainAt_1 (by decide) (by omega) (fun c_1 => ?_) (fun c_1 => absurd c_1 (by omega))
    exact V_throwN (tx := "no such plain") d_X_plainAt_10 d_X_plainAt_13 (Or.inr ⟨d_X_plainAt_14, rfl⟩) d_X_plainAt_17 d_X_plainAt_20 rfl (by decide) rfl (Nat.le_of_ble_eq_true rfl) (Nat.le_of_ble_eq_true rfl) (Nat.le_of_ble_eq_true rfl) (Nat.le_of_ble_eq_true rfl) ⟨Nat.le_of_ble_eq_true rfl, Nat.le_of_ble_eq_true rfl⟩ ⟨rfl, rfl, rfl⟩
  · skip
    refine V_iload_n d_X_plainAt_0 rfl ?_
    refine J_if_lt 10 d_X_plainAt_1 (by decide) (by omega) (fun c_1 => absurd c_1 (by omega)) (fun c_1 => ?_)
    refine V_iload_n d_X_plainAt_4 rfl ?_
    refine J_bipush d_X_plainAt_5 (by decide) ?_
    refine J_icmp_lt 21 d_X_plainAt_7 (by decide) (by omega) (by omega) (fun c_7 => absurd c_7 (by omega)) (fun c_7 => ?_)
    exact V_throwN (tx := "no such plain") d_X_plainAt_10 d_X_plainAt_13 (Or.inr ⟨d_X_plainAt_14, rfl⟩) d_X_plainAt_17 d_X_plainAt_20 rfl (by decide) rfl (Nat.le_of_ble_eq_true rfl) (Nat.le_of_ble_eq_true rfl) (Nat.le_of_ble_eq_true rfl) (Nat.le_of_ble_eq_true rfl) ⟨Nat.le_of_ble_eq_true rfl, Nat.le_of_ble_eq_true rfl⟩ ⟨rfl, rfl, rfl⟩

set_option maxRecDepth 100000 in
set_option maxHeartbeats 4000000 in
theorem c_plainAt (G : zG) (sz B : Nat) (kd n t zz : Int) (ch : Int32) (md tc : Int) (tg pt : Nat → Int) (L : Nat → Int → Int) (w0 : zW) (p : Nat) (hp : p < 8) : zCt G M_X_plainAt (zR 6 1 6 96) [.ref B, .int (Int32.ofInt (p : Int))] sz (zsys G B kd n t zz ch md tc tg pt L w0) (zdet (some (.ref (B + (88 + p)))) (zsys G B kd n t zz ch md tc tg pt L w0) sz) := by
  refine V_iload_n d_X_plainAt_0 rfl ?_
  refine J_if_lt 10 d_X_plainAt_1 (by decide) (by omega) (fun c_1 => absurd c_1 (by omega)) (fun c_1 => ?_)
  refine V_iload_n d_X_plainAt_4 rfl ?_
  refine J_bipush d_X_plainAt_5 (by decide) ?_
  refine J_icmp_lt 21 d_X_plainAt_7 (by decide) (by omega) (by omega) (fun c_7 => ?_) (fun c_7 => absurd c_7 (by omega))
  refine V_aload_n d_X_plainAt_21 rfl ?_
  refine V_getf d_X_plainAt_22 ff_X_32 zsys_x0 rfl ?_
  refine V_iload_n d_X_plainAt_25 rfl ?_
  refine J_aaload d_X_plainAt_26 (zsys_at (by decide) rfl) rfl rfl (by omega) (by decide) ((zel (a := fun k => B + (88 + k)) hp).trans rfl : _ = some (B + (88 + p))) ?_
  exact V_areturn d_X_plainAt_27 rfl (Or.inr ⟨_, rfl⟩) ⟨Nat.le_of_ble_eq_true rfl, Nat.le_of_ble_eq_true rfl⟩ ⟨rfl, rfl, rfl⟩

set_option maxRecDepth 100000 in
set_option maxHeartbeats 4000000 in
theorem c_placeAt_no (G : zG) (sz B : Nat) (kd n t zz : Int) (ch : Int32) (md tc : Int) (tg pt : Nat → Int) (L : Nat → Int → Int) (w0 : zW) (p : Int) (hp : -2147483648 ≤ p ∧ p < 2147483648) (hb : p < 0 ∨ 16 ≤ p) : zCt G M_X_placeAt (zR 6 1 6 96) [.ref B, .int (Int32.ofInt p)] sz (zsys G B kd n t zz ch md tc tg pt L w0) (zOut (.inr zNSE) (zsys G B kd n t zz ch md tc tg pt L w0) (sz + 1)) := by
  by_cases h0 : p < 0
  · skip
    refine V_iload_n d_X_placeAt_0 rfl ?_
    refine J_if_lt 10 d_X_placeAt_1 (by decide) (by omega) (fun c_1 => ?_) (fun c_1 => absurd c_1 (by omega))
    exact V_throwN (tx := "no such cipher") d_X_placeAt_10 d_X_placeAt_13 (Or.inr ⟨d_X_placeAt_14, rfl⟩) d_X_placeAt_17 d_X_placeAt_20 rfl (by decide) rfl (Nat.le_of_ble_eq_true rfl) (Nat.le_of_ble_eq_true rfl) (Nat.le_of_ble_eq_true rfl) (Nat.le_of_ble_eq_true rfl) ⟨Nat.le_of_ble_eq_true rfl, Nat.le_of_ble_eq_true rfl⟩ ⟨rfl, rfl, rfl⟩
  · skip
    refine V_iload_n d_X_placeAt_0 rfl ?_
    refine J_if_lt 10 d_X_placeAt_1 (by decide) (by omega) (fun c_1 => absurd c_1 (by omega)) (fun c_1 => ?_)
    refine V_iload_n d_X_placeAt_4 rfl ?_
    refine J_bipush d_X_placeAt_5 (by decide) ?_
    refine J_icmp_lt 21 d_X_placeAt_7 (by decide) (by omega) (by omega) (fun c_7 => absurd c_7 (by omega)) (fun c_7 => ?_)
    exact V_throwN (tx := "no such cipher") d_X_placeAt_10 d_X_placeAt_13 (Or.inr ⟨d_X_placeAt_14, rfl⟩) d_X_placeAt_17 d_X_placeAt_20 rfl (by decide) rfl (Nat.le_of_ble_eq_true rfl) (Nat.le_of_ble_eq_true rfl) (Nat.le_of_ble_eq_true rfl) (Nat.le_of_ble_eq_true rfl) ⟨Nat.le_of_ble_eq_true rfl, Nat.le_of_ble_eq_true rfl⟩ ⟨rfl, rfl, rfl⟩

set_option maxRecDepth 100000 in
set_option maxHeartbeats 4000000 in
theorem c_placeAt (G : zG) (sz B : Nat) (kd n t zz : Int) (ch : Int32) (md tc : Int) (tg pt : Nat → Int) (L : Nat → Int → Int) (w0 : zW) (p : Nat) (hp : p < 16) : zCt G M_X_placeAt (zR 6 1 6 96) [.ref B, .int (Int32.ofInt (p : Int))] sz (zsys G B kd n t zz ch md tc tg pt L w0) (zdet (some (.ref (B + (97 + 5 * p)))) (zsys G B kd n t zz ch md tc tg pt L w0) sz) := by
  refine V_iload_n d_X_placeAt_0 rfl ?_
  refine J_if_lt 10 d_X_placeAt_1 (by decide) (by omega) (fun c_1 => absurd c_1 (by omega)) (fun c_1 => ?_)
  refine V_iload_n d_X_placeAt_4 rfl ?_
  refine J_bipush d_X_placeAt_5 (by decide) ?_
  refine J_icmp_lt 21 d_X_placeAt_7 (by decide) (by omega) (by omega) (fun c_7 => ?_) (fun c_7 => absurd c_7 (by omega))
  refine V_aload_n d_X_placeAt_21 rfl ?_
  refine V_getf d_X_placeAt_22 ff_X_37 zsys_x0 rfl ?_
  refine V_iload_n d_X_placeAt_25 rfl ?_
  refine J_aaload d_X_placeAt_26 (zsys_at (by decide) rfl) rfl rfl (by omega) (by decide) ((zel (a := fun k => B + (97 + 5 * k)) hp).trans rfl : _ = some (B + (97 + 5 * p))) ?_
  exact V_areturn d_X_placeAt_27 rfl (Or.inl ⟨_, rfl⟩) ⟨Nat.le_of_ble_eq_true rfl, Nat.le_of_ble_eq_true rfl⟩ ⟨rfl, rfl, rfl⟩

set_option maxRecDepth 100000 in
set_option maxHeartbeats 4000000 in
theorem c_takenAt_no (G : zG) (sz B : Nat) (kd n t zz : Int) (ch : Int32) (md tc : Int) (tg pt : Nat → Int) (L : Nat → Int → Int) (w0 : zW) (p : Int) (hp : -2147483648 ≤ p ∧ p < 2147483648) (hb : p < 0 ∨ 16 ≤ p) : zCt G M_X_takenAt (zR 7 1 6 117) [.ref B, .int (Int32.ofInt p)] sz (zsys G B kd n t zz ch md tc tg pt L w0) (zOut (.inr zNSE) (zsys G B kd n t zz ch md tc tg pt L w0) (sz + 1)) := by
  refine V_aload_n d_X_takenAt_0 rfl ?_
  refine V_iload_n d_X_takenAt_1 rfl ?_
  refine V_callV (n := 1) d_X_takenAt_2 g_X_139 rfl zsys_x0 rfl (c_placeAt_no G _ B kd n t zz ch md tc tg pt L w0 p hp hb) ⟨co_X_placeAt, by decide +kernel, Nat.le_of_ble_eq_true rfl⟩ ⟨Nat.le_of_ble_eq_true rfl, Nat.le_of_ble_eq_true rfl, Nat.le_of_ble_eq_true rfl, Nat.le_of_ble_eq_true rfl⟩ (Nat.le_of_ble_eq_true rfl) (fun r_2 w_2 s_2 q_2 => ?_) (fun _ _ _ q => ⟨⟨Nat.le_of_ble_eq_true rfl, Nat.le_of_ble_eq_true rfl⟩, q⟩)
  cases q_2.1

set_option maxRecDepth 100000 in
set_option maxHeartbeats 4000000 in
theorem c_takenAt_em (G : zG) (sz B : Nat) (kd n t zz : Int) (ch : Int32) (md tc : Int) (tg pt : Nat → Int) (L : Nat → Int → Int) (w0 : zW) (p : Nat) (hp : p < 16) (hpt : pt (97 + 5 * p) = 0) : zCt G M_X_takenAt (zR 7 1 6 117) [.ref B, .int (Int32.ofInt (p : Int))] sz (zsys G B kd n t zz ch md tc tg pt L w0) (zOut (.inr zNSE) (zsys G B kd n t zz ch md tc tg pt L w0) (sz + 1)) := by
  refine V_aload_n d_X_takenAt_0 rfl ?_
  refine V_iload_n d_X_takenAt_1 rfl ?_
  refine V_callV (n := 1) d_X_takenAt_2 g_X_139 rfl zsys_x0 rfl (c_placeAt G _ B kd n t zz ch md tc tg pt L w0 p hp) ⟨co_X_placeAt, by decide +kernel, Nat.le_of_ble_eq_true rfl⟩ ⟨Nat.le_of_ble_eq_true rfl, Nat.le_of_ble_eq_true rfl, Nat.le_of_ble_eq_true rfl, Nat.le_of_ble_eq_true rfl⟩ (Nat.le_of_ble_eq_true rfl) (fun r_2 w_2 s_2 q_2 => ?_) (fun _ _ _ q => False.elim q)
  obtain ⟨rfl, rfl, rfl⟩ := q_2
  refine V_astore_n d_X_takenAt_5 (by decide) ?_
  refine V_aload_n d_X_takenAt_6 rfl ?_
  refine V_getf d_X_takenAt_7 ff_X_197 (zsys_at (by omega) (zlay_cip hp)) rfl ?_
  refine J_if_ne 24 d_X_takenAt_10 (by decide) (by omega) (fun c_10 => absurd hpt c_10) (fun c_10 => ?_)
  exact V_throwN (tx := "an empty cipher") d_X_takenAt_13 d_X_takenAt_16 (Or.inr ⟨d_X_takenAt_17, rfl⟩) d_X_takenAt_20 d_X_takenAt_23 rfl (by decide) rfl (Nat.le_of_ble_eq_true rfl) (Nat.le_of_ble_eq_true rfl) (Nat.le_of_ble_eq_true rfl) (Nat.le_of_ble_eq_true rfl) ⟨Nat.le_of_ble_eq_true rfl, Nat.le_of_ble_eq_true rfl⟩ ⟨rfl, rfl, rfl⟩

set_option maxRecDepth 100000 in
set_option maxHeartbeats 4000000 in
theorem c_takenAt (G : zG) (sz B : Nat) (kd n t zz : Int) (ch : Int32) (md tc : Int) (tg pt : Nat → Int) (L : Nat → Int → Int) (w0 : zW) (p : Nat) (hp : p < 16) (hb : 0 < pt (97 + 5 * p) ∧ pt (97 + 5 * p) ≤ 3) : zCt G M_X_takenAt (zR 7 1 6 117) [.ref B, .int (Int32.ofInt (p : Int))] sz (zsys G B kd n t zz ch md tc tg pt L w0) (zdet (some (.ref (B + (97 + 5 * p)))) (zsys G B kd n t zz ch md tc tg pt L w0) sz) := by
  refine V_aload_n d_X_takenAt_0 rfl ?_
  refine V_iload_n d_X_takenAt_1 rfl ?_
  refine V_callV (n := 1) d_X_takenAt_2 g_X_139 rfl zsys_x0 rfl (c_placeAt G _ B kd n t zz ch md tc tg pt L w0 p hp) ⟨co_X_placeAt, by decide +kernel, Nat.le_of_ble_eq_true rfl⟩ ⟨Nat.le_of_ble_eq_true rfl, Nat.le_of_ble_eq_true rfl, Nat.le_of_ble_eq_true rfl, Nat.le_of_ble_eq_true rfl⟩ (Nat.le_of_ble_eq_true rfl) (fun r_2 w_2 s_2 q_2 => ?_) (fun _ _ _ q => False.elim q)
  obtain ⟨rfl, rfl, rfl⟩ := q_2
  refine V_astore_n d_X_takenAt_5 (by decide) ?_
  refine V_aload_n d_X_takenAt_6 rfl ?_
  refine V_getf d_X_takenAt_7 ff_X_197 (zsys_at (by omega) (zlay_cip hp)) rfl ?_
  refine J_if_ne 24 d_X_takenAt_10 (by decide) (by omega) (fun c_10 => ?_) (fun c_10 => absurd c_10 (by omega))
  refine V_aload_n d_X_takenAt_24 rfl ?_
  exact V_areturn d_X_takenAt_25 rfl (Or.inl ⟨_, rfl⟩) ⟨Nat.le_of_ble_eq_true rfl, Nat.le_of_ble_eq_true rfl⟩ ⟨rfl, rfl, rfl⟩

set_option maxRecDepth 100000 in
set_option maxHeartbeats 4000000 in
theorem c_checkC_no (G : zG) (sz B : Nat) (kd n t zz : Int) (ch : Int32) (md tc : Int) (tg pt : Nat → Int) (L : Nat → Int → Int) (w0 : zW) (p : Int) (hp : -2147483648 ≤ p ∧ p < 2147483648) (hn : 0 ≤ n ∧ n ≤ 32) (hb : p < 0 ∨ n ≤ p) : zCt G M_X_checkCoefficient (zR 6 1 6 96) [.ref B, .int (Int32.ofInt p)] sz (zsys G B kd n t zz ch md tc tg pt L w0) (zOut (.inr zNSE) (zsys G B kd n t zz ch md tc tg pt L w0) (sz + 1)) := by
  by_cases h0 : p < 0
  · skip
    refine V_iload_n d_X_checkCoefficient_0 rfl ?_
    refine J_if_lt 15 d_X_checkCoefficient_1 (by decide) (by omega) (fun c_1 => ?_) (fun c_1 => absurd c_1 (by omega))
    exact V_throwN (tx := "no such coefficient") d_X_checkCoefficient_15 d_X_checkCoefficient_18 (Or.inr ⟨d_X_checkCoefficient_19, rfl⟩) d_X_checkCoefficient_22 d_X_checkCoefficient_25 rfl (by decide) rfl (Nat.le_of_ble_eq_true rfl) (Nat.le_of_ble_eq_true rfl) (Nat.le_of_ble_eq_true rfl) (Nat.le_of_ble_eq_true rfl) ⟨Nat.le_of_ble_eq_true rfl, Nat.le_of_ble_eq_true rfl⟩ ⟨rfl, rfl, rfl⟩
  · skip
    refine V_iload_n d_X_checkCoefficient_0 rfl ?_
    refine J_if_lt 15 d_X_checkCoefficient_1 (by decide) (by omega) (fun c_1 => absurd c_1 (by omega)) (fun c_1 => ?_)
    refine V_iload_n d_X_checkCoefficient_4 rfl ?_
    refine V_aload_n d_X_checkCoefficient_5 rfl ?_
    refine V_getf d_X_checkCoefficient_6 ff_X_12 zsys_x0 rfl ?_
    refine V_getf d_X_checkCoefficient_9 ff_X_78 zsys_r rfl ?_
    refine J_icmp_lt 26 d_X_checkCoefficient_12 (by decide) (by omega) (by omega) (fun c_12 => absurd c_12 (by omega)) (fun c_12 => ?_)
    exact V_throwN (tx := "no such coefficient") d_X_checkCoefficient_15 d_X_checkCoefficient_18 (Or.inr ⟨d_X_checkCoefficient_19, rfl⟩) d_X_checkCoefficient_22 d_X_checkCoefficient_25 rfl (by decide) rfl (Nat.le_of_ble_eq_true rfl) (Nat.le_of_ble_eq_true rfl) (Nat.le_of_ble_eq_true rfl) (Nat.le_of_ble_eq_true rfl) ⟨Nat.le_of_ble_eq_true rfl, Nat.le_of_ble_eq_true rfl⟩ ⟨rfl, rfl, rfl⟩

set_option maxRecDepth 100000 in
set_option maxHeartbeats 4000000 in
theorem c_checkC (G : zG) (sz B : Nat) (kd n t zz : Int) (ch : Int32) (md tc : Int) (tg pt : Nat → Int) (L : Nat → Int → Int) (w0 : zW) (p : Int) (hn : n ≤ 32) (hp : 0 ≤ p ∧ p < n) : zCt G M_X_checkCoefficient (zR 6 1 6 96) [.ref B, .int (Int32.ofInt p)] sz (zsys G B kd n t zz ch md tc tg pt L w0) (zdet none (zsys G B kd n t zz ch md tc tg pt L w0) sz) := by
  refine V_iload_n d_X_checkCoefficient_0 rfl ?_
  refine J_if_lt 15 d_X_checkCoefficient_1 (by decide) (by omega) (fun c_1 => absurd c_1 (by omega)) (fun c_1 => ?_)
  refine V_iload_n d_X_checkCoefficient_4 rfl ?_
  refine V_aload_n d_X_checkCoefficient_5 rfl ?_
  refine V_getf d_X_checkCoefficient_6 ff_X_12 zsys_x0 rfl ?_
  refine V_getf d_X_checkCoefficient_9 ff_X_78 zsys_r rfl ?_
  refine J_icmp_lt 26 d_X_checkCoefficient_12 (by decide) (by omega) (by omega) (fun c_12 => ?_) (fun c_12 => absurd c_12 (by omega))
  exact V_return d_X_checkCoefficient_26 rfl ⟨Nat.le_of_ble_eq_true rfl, Nat.le_of_ble_eq_true rfl⟩ ⟨rfl, rfl, rfl⟩

