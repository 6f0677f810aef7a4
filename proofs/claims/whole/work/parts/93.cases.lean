set_option maxRecDepth 100000 in
set_option maxHeartbeats 4000000 in
theorem l_begin (G : zG) (B : Nat) (w : zW) (hL : G.2.2.2 100001 ≤ 2560) (i : Nat) (hi : i + 5 ≤ G.2.2.2 100001) (hq : zQl G B w (i + 5)) (kc ks sz : Nat) (kd n t zz : Int) (ch : Int32) (md tc : Int) (tg pt : Nat → Int) (L R : Nat → Int → Int) (nn : Nat) (th : Int) (o : Int → Int) (hkc : kc ≤ 1000 + i) (hks : ks ≤ 100000 + 6 * i) (h : zI kd n t zz md tc tg pt L R nn) : V G M_law zKl room_1 kc ks sz 116 (zloc G B i) [] (zWl G B kd n t zz ch md tc tg pt L th kd n t tc ch md R o w) := by
  rcases p_begin G B kd n t zz ch md tc tg pt L R nn h (zsx G (i + 1)) (Int32.ofInt (zsx G (i + 2))) (zsx_b G _) with ⟨e, cd, hx, hc, hr⟩ | ⟨v, kd', n', t', zz', ch', md', tc', tg', pt', L', R', nn', hv, hI, hc, hr⟩
  · simp only [List.mem_cons, Prod.mk.injEq, List.not_mem_nil, or_false] at hx
    rcases hx with ⟨rfl, rfl⟩
    · skip
      refine V_aload_n d_law_116 rfl ?_
      refine V_aload_n d_law_117 rfl ?_
      refine V_iload d_law_118 rfl ?_
      refine V_iconst d_law_120 ?_
      refine J_iadd d_law_121 ?_
      refine V_sld (j := i + 1) d_law_122 rfl (by omega) hL ?_
      refine V_aload_n d_law_123 rfl ?_
      refine V_iload d_law_124 rfl ?_
      refine V_iconst d_law_126 ?_
      refine J_iadd d_law_127 ?_
      refine V_sld (j := i + 2) d_law_128 rfl (by omega) hL ?_
      refine V_aload_n d_law_129 rfl ?_
      refine V_callS (n := 4) d_law_130 g_Law_66 rfl (w_begin_1 G sz B (B + 204) _ (Int32.ofInt (zsx G (i + 1))) (Int32.ofInt (zsx G (i + 2))) zsys_x0 (hc sz (zqs G (B + 186) th kd n t tc ch md R (zset w (B + 204) (zro G 1 o))))) ⟨co_Law_begin, by decide +kernel, (Nat.le_of_ble_eq_true rfl)⟩ ⟨Nat.le_of_ble_eq_true rfl, Nat.le_of_ble_eq_true rfl, (by show _ + (1 : Nat) ≤ (601024 : Nat); omega), (by show _ + (6 : Nat) ≤ (7293033 : Nat); omega)⟩ (Nat.le_of_ble_eq_true rfl) (fun r1 w1 s1 q => ?_) (fun _ _ _ q => by cases q.1)
      obtain ⟨q1, q2, q3⟩ := q
      cases q1
      subst q2
      subst q3
      refine V_k (kc' := kc + 1) (ks' := ks + 6) rfl rfl rfl ?_
      refine V_istore d_law_133 (by decide) ?_
      refine V_aload_n d_law_135 rfl ?_
      refine V_aload_n d_law_136 rfl ?_
      refine V_iload d_law_137 rfl ?_
      refine V_iconst d_law_139 ?_
      refine J_iadd d_law_140 ?_
      refine V_sld (j := i + 1) d_law_141 rfl (by omega) hL ?_
      refine V_aload_n d_law_142 rfl ?_
      refine V_iload d_law_143 rfl ?_
      refine V_iconst d_law_145 ?_
      refine J_iadd d_law_146 ?_
      refine V_sld (j := i + 2) d_law_147 rfl (by omega) hL ?_
      refine V_w zWl_q ?_
      refine V_callV (n := 2) d_law_148 g_Law_71 rfl zqs_o rfl (hr (B + 186) th (sz + 1) (zsys G B kd n t zz ch md tc tg pt L (zset w (B + 204) (zro G 1 o)))) ⟨co_Ref_begin, by decide +kernel, (Nat.le_of_ble_eq_true rfl)⟩ ⟨Nat.le_of_ble_eq_true rfl, Nat.le_of_ble_eq_true rfl, (by show _ + (0 : Nat) ≤ (601024 : Nat); omega), (by show _ + (0 : Nat) ≤ (7293033 : Nat); omega)⟩ (Nat.le_of_ble_eq_true rfl) (fun r1 w1 s1 q => ?_) (fun _ _ _ q => False.elim q)
      obtain ⟨rfl, rfl, rfl⟩ := q
      refine V_k (kc' := kc + 1) (ks' := ks + 6) rfl rfl rfl ?_
      refine V_w (zWl_q (kd := kd) (n := n) (t := t) (zz := zz) (ch := ch) (md := md) (tc := tc) (tg := tg) (pt := pt) (L := L) (th := 1) (kd2 := kd) (n2 := n) (t2 := t) (tc2 := tc) (ch2 := ch) (md2 := md) (R := R) (o := o) (w := w)).symm ?_
      refine V_istore d_law_151 (by decide) ?_
      refine V_aload_n d_law_153 rfl ?_
      refine V_w zWl_q ?_
      refine V_callV (n := 0) d_law_154 g_Law_72 rfl zqs_o rfl (r_thrown G (sz + 1) (B + 186) 1 kd n t tc ch md R (zsys G B kd n t zz ch md tc tg pt L (zset w (B + 204) (zro G 1 o)))) ⟨co_Ref_thrown, by decide +kernel, (Nat.le_of_ble_eq_true rfl)⟩ ⟨Nat.le_of_ble_eq_true rfl, Nat.le_of_ble_eq_true rfl, (by show _ + (0 : Nat) ≤ (601024 : Nat); omega), (by show _ + (0 : Nat) ≤ (7293033 : Nat); omega)⟩ (Nat.le_of_ble_eq_true rfl) (fun r1 w1 s1 q => ?_) (fun _ _ _ q => False.elim q)
      obtain ⟨rfl, rfl, rfl⟩ := q
      refine V_k (kc' := kc + 1) (ks' := ks + 6) rfl rfl rfl ?_
      refine V_w zWl_q.symm ?_
      refine V_iload d_law_157 rfl ?_
      refine J_icmp_eq 164 d_law_159 (by decide) (by decide) (by decide) (fun c_159 => ?_) (fun c_159 => absurd rfl c_159)
      refine V_iload d_law_164 rfl ?_
      refine J_if_ne 181 d_law_166 (by decide) (by decide) (fun c_166 => ?_) (fun c_166 => absurd c_166 (by decide))
      refine V_goto 1182 d_law_181 (by decide) ?_
      refine J_iinc d_law_1182 rfl (by decide) ?_
      refine V_goto 23 d_law_1185 (by decide) ?_
      refine V_lo (lo' := zloc G B (i + 5)) [0, 1, 2, 3, 4] rfl ?_
      exact hq _ _ _ _ _ _ _ _ _ _ _ _ _ _ _ _ _ (by omega) (by omega) h
  · skip
    refine V_aload_n d_law_116 rfl ?_
    refine V_aload_n d_law_117 rfl ?_
    refine V_iload d_law_118 rfl ?_
    refine V_iconst d_law_120 ?_
    refine J_iadd d_law_121 ?_
    refine V_sld (j := i + 1) d_law_122 rfl (by omega) hL ?_
    refine V_aload_n d_law_123 rfl ?_
    refine V_iload d_law_124 rfl ?_
    refine V_iconst d_law_126 ?_
    refine J_iadd d_law_127 ?_
    refine V_sld (j := i + 2) d_law_128 rfl (by omega) hL ?_
    refine V_aload_n d_law_129 rfl ?_
    refine V_callS (n := 4) d_law_130 g_Law_66 rfl (w_begin_0 G sz B (B + 204) _ (zWl G B kd' n' t' zz' ch' md' tc' tg' pt' L' th kd n t tc ch md R o w) (Int32.ofInt (zsx G (i + 1))) (Int32.ofInt (zsx G (i + 2))) v o zsys_x0 zWl_D hv (hc sz (zqs G (B + 186) th kd n t tc ch md R (zset w (B + 204) (zro G 1 o))))) ⟨co_Law_begin, by decide +kernel, (Nat.le_of_ble_eq_true rfl)⟩ ⟨Nat.le_of_ble_eq_true rfl, Nat.le_of_ble_eq_true rfl, (by show _ + (1 : Nat) ≤ (601024 : Nat); omega), (by show _ + (6 : Nat) ≤ (7293033 : Nat); omega)⟩ (Nat.le_of_ble_eq_true rfl) (fun r1 w1 s1 q => ?_) (fun _ _ _ q => by exact False.elim q)
    obtain ⟨rfl, rfl, rfl⟩ := q
    refine V_w zWl_out ?_
    refine V_k (kc' := kc) (ks' := ks) rfl rfl rfl ?_
    refine V_istore d_law_133 (by decide) ?_
    refine V_aload_n d_law_135 rfl ?_
    refine V_aload_n d_law_136 rfl ?_
    refine V_iload d_law_137 rfl ?_
    refine V_iconst d_law_139 ?_
    refine J_iadd d_law_140 ?_
    refine V_sld (j := i + 1) d_law_141 rfl (by omega) hL ?_
    refine V_aload_n d_law_142 rfl ?_
    refine V_iload d_law_143 rfl ?_
    refine V_iconst d_law_145 ?_
    refine J_iadd d_law_146 ?_
    refine V_sld (j := i + 2) d_law_147 rfl (by omega) hL ?_
    refine V_w zWl_q ?_
    refine V_callV (n := 2) d_law_148 g_Law_71 rfl zqs_o rfl (hr (B + 186) th sz (zsys G B kd' n' t' zz' ch' md' tc' tg' pt' L' (zset w (B + 204) (zro G 1 (zu o 0 v))))) ⟨co_Ref_begin, by decide +kernel, (Nat.le_of_ble_eq_true rfl)⟩ ⟨Nat.le_of_ble_eq_true rfl, Nat.le_of_ble_eq_true rfl, (by show _ + (0 : Nat) ≤ (601024 : Nat); omega), (by show _ + (0 : Nat) ≤ (7293033 : Nat); omega)⟩ (Nat.le_of_ble_eq_true rfl) (fun r1 w1 s1 q => ?_) (fun _ _ _ q => False.elim q)
    obtain ⟨rfl, rfl, rfl⟩ := q
    refine V_k (kc' := kc) (ks' := ks) rfl rfl rfl ?_
    refine V_w (zWl_q (kd := kd') (n := n') (t := t') (zz := zz') (ch := ch') (md := md') (tc := tc') (tg := tg') (pt := pt') (L := L') (th := 0) (kd2 := kd') (n2 := n') (t2 := t') (tc2 := tc') (ch2 := ch') (md2 := md') (R := R') (o := (zu o 0 v)) (w := w)).symm ?_
    refine V_istore d_law_151 (by decide) ?_
    refine V_aload_n d_law_153 rfl ?_
    refine V_w zWl_q ?_
    refine V_callV (n := 0) d_law_154 g_Law_72 rfl zqs_o rfl (r_thrown G sz (B + 186) 0 kd' n' t' tc' ch' md' R' (zsys G B kd' n' t' zz' ch' md' tc' tg' pt' L' (zset w (B + 204) (zro G 1 (zu o 0 v))))) ⟨co_Ref_thrown, by decide +kernel, (Nat.le_of_ble_eq_true rfl)⟩ ⟨Nat.le_of_ble_eq_true rfl, Nat.le_of_ble_eq_true rfl, (by show _ + (0 : Nat) ≤ (601024 : Nat); omega), (by show _ + (0 : Nat) ≤ (7293033 : Nat); omega)⟩ (Nat.le_of_ble_eq_true rfl) (fun r1 w1 s1 q => ?_) (fun _ _ _ q => False.elim q)
    obtain ⟨rfl, rfl, rfl⟩ := q
    refine V_k (kc' := kc) (ks' := ks) rfl rfl rfl ?_
    refine V_w zWl_q.symm ?_
    refine V_iload d_law_157 rfl ?_
    refine J_icmp_eq 164 d_law_159 (by decide) (by decide) (by decide) (fun c_159 => ?_) (fun c_159 => absurd rfl c_159)
    refine V_iload d_law_164 rfl ?_
    refine J_if_ne 181 d_law_166 (by decide) (by decide) (fun c_166 => absurd rfl c_166) (fun c_166 => ?_)
    refine V_aload_n d_law_169 rfl ?_
    refine V_iconst d_law_170 ?_
    refine J_laload d_law_171 zWl_D (by decide) (by decide) ?_
    refine V_iload d_law_172 rfl ?_
    refine J_i2l d_law_174 hv ?_
    rw [zu_s]
    refine JL_eq 181 d_law_175 d_law_176 (by decide) (by omega) (by omega) (fun c_175 => ?_) (fun c_175 => absurd rfl c_175)
    refine V_goto 1182 d_law_181 (by decide) ?_
    refine J_iinc d_law_1182 rfl (by decide) ?_
    refine V_goto 23 d_law_1185 (by decide) ?_
    refine V_lo (lo' := zloc G B (i + 5)) [0, 1, 2, 3, 4] rfl ?_
    exact hq _ _ _ _ _ _ _ _ _ _ _ _ _ _ _ _ _ (by omega) (by omega) hI

set_option maxRecDepth 100000 in
set_option maxHeartbeats 4000000 in
theorem l_keys (G : zG) (B : Nat) (w : zW) (hL : G.2.2.2 100001 ≤ 2560) (i : Nat) (hi : i + 5 ≤ G.2.2.2 100001) (hq : zQl G B w (i + 5)) (kc ks sz : Nat) (kd n t zz : Int) (ch : Int32) (md tc : Int) (tg pt : Nat → Int) (L R : Nat → Int → Int) (nn : Nat) (th : Int) (o : Int → Int) (hkc : kc ≤ 1000 + i) (hks : ks ≤ 100000 + 6 * i) (h : zI kd n t zz md tc tg pt L R nn) : V G M_law zKl room_1 kc ks sz 184 (zloc G B i) [] (zWl G B kd n t zz ch md tc tg pt L th kd n t tc ch md R o w) := by
  rcases p_keys G B kd n t zz ch md tc tg pt L R nn h with ⟨e, cd, hx, hc, hr⟩ | ⟨v, kd', n', t', zz', ch', md', tc', tg', pt', L', R', nn', hv, hI, hc, hr⟩
  · exact absurd hx List.not_mem_nil
  · skip
    refine V_aload_n d_law_184 rfl ?_
    refine V_callV (n := 0) d_law_185 g_Law_76 rfl zsys_x0 rfl (hc sz (zqs G (B + 186) th kd n t tc ch md R (zset w (B + 204) (zro G 1 o)))) ⟨co_X_keys, by decide +kernel, (Nat.le_of_ble_eq_true rfl)⟩ ⟨Nat.le_of_ble_eq_true rfl, Nat.le_of_ble_eq_true rfl, (by show _ + (0 : Nat) ≤ (601024 : Nat); omega), (by show _ + (0 : Nat) ≤ (7293033 : Nat); omega)⟩ (Nat.le_of_ble_eq_true rfl) (fun r1 w1 s1 q => ?_) (fun _ _ _ q => False.elim q)
    obtain ⟨rfl, rfl, rfl⟩ := q
    refine V_k (kc' := kc) (ks' := ks) rfl rfl rfl ?_
    refine V_w (w' := zWl G B kd' n' t' zz' ch' md' tc' tg' pt' L' th kd n t tc ch md R o w) rfl ?_
    refine V_aload_n d_law_188 rfl ?_
    refine V_w zWl_q ?_
    refine V_callV (n := 0) d_law_189 g_Law_79 rfl zqs_o rfl (hr (B + 186) th sz (zsys G B kd' n' t' zz' ch' md' tc' tg' pt' L' (zset w (B + 204) (zro G 1 o)))) ⟨co_Ref_keys, by decide +kernel, (Nat.le_of_ble_eq_true rfl)⟩ ⟨Nat.le_of_ble_eq_true rfl, Nat.le_of_ble_eq_true rfl, (by show _ + (0 : Nat) ≤ (601024 : Nat); omega), (by show _ + (0 : Nat) ≤ (7293033 : Nat); omega)⟩ (Nat.le_of_ble_eq_true rfl) (fun r1 w1 s1 q => ?_) (fun _ _ _ q => False.elim q)
    obtain ⟨rfl, rfl, rfl⟩ := q
    refine V_k (kc' := kc) (ks' := ks) rfl rfl rfl ?_
    refine V_w (zWl_q (kd := kd') (n := n') (t := t') (zz := zz') (ch := ch') (md := md') (tc := tc') (tg := tg') (pt := pt') (L := L') (th := 0) (kd2 := kd') (n2 := n') (t2 := t') (tc2 := tc') (ch2 := ch') (md2 := md') (R := R') (o := o) (w := w)).symm ?_
    refine J_icmp_eq 1182 d_law_192 (by decide) hv hv (fun c_192 => ?_) (fun c_192 => absurd rfl c_192)
    refine J_iinc d_law_1182 rfl (by decide) ?_
    refine V_goto 23 d_law_1185 (by decide) ?_
    refine V_lo (lo' := zloc G B (i + 5)) [0, 1, 2, 3, 4] rfl ?_
    exact hq _ _ _ _ _ _ _ _ _ _ _ _ _ _ _ _ _ (by omega) (by omega) hI

set_option maxRecDepth 100000 in
set_option maxHeartbeats 4000000 in
theorem l_turnKey (G : zG) (B : Nat) (w : zW) (hL : G.2.2.2 100001 ≤ 2560) (i : Nat) (hi : i + 5 ≤ G.2.2.2 100001) (hq : zQl G B w (i + 5)) (kc ks sz : Nat) (kd n t zz : Int) (ch : Int32) (md tc : Int) (tg pt : Nat → Int) (L R : Nat → Int → Int) (nn : Nat) (th : Int) (o : Int → Int) (hkc : kc ≤ 1000 + i) (hks : ks ≤ 100000 + 6 * i) (h : zI kd n t zz md tc tg pt L R nn) : V G M_law zKl room_1 kc ks sz 197 (zloc G B i) [] (zWl G B kd n t zz ch md tc tg pt L th kd n t tc ch md R o w) := by
  rcases p_turnKey G B kd n t zz ch md tc tg pt L R nn h (zsx G (i + 1)) (zsx_b G _) with ⟨e, cd, hx, hc, hr⟩ | ⟨v, kd', n', t', zz', ch', md', tc', tg', pt', L', R', nn', hv, hI, hc, hr⟩
  · simp only [List.mem_cons, Prod.mk.injEq, List.not_mem_nil, or_false] at hx
    rcases hx with ⟨rfl, rfl⟩ | ⟨rfl, rfl⟩
    · skip
      refine V_aload_n d_law_197 rfl ?_
      refine V_aload_n d_law_198 rfl ?_
      refine V_iload d_law_199 rfl ?_
      refine V_iconst d_law_201 ?_
      refine J_iadd d_law_202 ?_
      refine V_sld (j := i + 1) d_law_203 rfl (by omega) hL ?_
      refine V_aload_n d_law_204 rfl ?_
      refine V_callS (n := 3) d_law_205 g_Law_80 rfl (w_turnKey_1 G sz B (B + 204) _ (Int32.ofInt (zsx G (i + 1))) zsys_x0 (hc sz (zqs G (B + 186) th kd n t tc ch md R (zset w (B + 204) (zro G 1 o))))) ⟨co_Law_turnKey, by decide +kernel, (Nat.le_of_ble_eq_true rfl)⟩ ⟨Nat.le_of_ble_eq_true rfl, Nat.le_of_ble_eq_true rfl, (by show _ + (1 : Nat) ≤ (601024 : Nat); omega), (by show _ + (6 : Nat) ≤ (7293033 : Nat); omega)⟩ (Nat.le_of_ble_eq_true rfl) (fun r1 w1 s1 q => ?_) (fun _ _ _ q => by cases q.1)
      obtain ⟨q1, q2, q3⟩ := q
      cases q1
      subst q2
      subst q3
      refine V_k (kc' := kc + 1) (ks' := ks + 6) rfl rfl rfl ?_
      refine V_istore d_law_208 (by decide) ?_
      refine V_aload_n d_law_210 rfl ?_
      refine V_aload_n d_law_211 rfl ?_
      refine V_iload d_law_212 rfl ?_
      refine V_iconst d_law_214 ?_
      refine J_iadd d_law_215 ?_
      refine V_sld (j := i + 1) d_law_216 rfl (by omega) hL ?_
      refine V_w zWl_q ?_
      refine V_callV (n := 1) d_law_217 g_Law_83 rfl zqs_o rfl (hr (B + 186) th (sz + 1) (zsys G B kd n t zz ch md tc tg pt L (zset w (B + 204) (zro G 1 o)))) ⟨co_Ref_turnKey, by decide +kernel, (Nat.le_of_ble_eq_true rfl)⟩ ⟨Nat.le_of_ble_eq_true rfl, Nat.le_of_ble_eq_true rfl, (by show _ + (0 : Nat) ≤ (601024 : Nat); omega), (by show _ + (0 : Nat) ≤ (7293033 : Nat); omega)⟩ (Nat.le_of_ble_eq_true rfl) (fun r1 w1 s1 q => ?_) (fun _ _ _ q => False.elim q)
      obtain ⟨rfl, rfl, rfl⟩ := q
      refine V_k (kc' := kc + 1) (ks' := ks + 6) rfl rfl rfl ?_
      refine V_w (zWl_q (kd := kd) (n := n) (t := t) (zz := zz) (ch := ch) (md := md) (tc := tc) (tg := tg) (pt := pt) (L := L) (th := 1) (kd2 := kd) (n2 := n) (t2 := t) (tc2 := tc) (ch2 := ch) (md2 := md) (R := R) (o := o) (w := w)).symm ?_
      refine V_istore d_law_220 (by decide) ?_
      refine V_aload_n d_law_222 rfl ?_
      refine V_w zWl_q ?_
      refine V_callV (n := 0) d_law_223 g_Law_72 rfl zqs_o rfl (r_thrown G (sz + 1) (B + 186) 1 kd n t tc ch md R (zsys G B kd n t zz ch md tc tg pt L (zset w (B + 204) (zro G 1 o)))) ⟨co_Ref_thrown, by decide +kernel, (Nat.le_of_ble_eq_true rfl)⟩ ⟨Nat.le_of_ble_eq_true rfl, Nat.le_of_ble_eq_true rfl, (by show _ + (0 : Nat) ≤ (601024 : Nat); omega), (by show _ + (0 : Nat) ≤ (7293033 : Nat); omega)⟩ (Nat.le_of_ble_eq_true rfl) (fun r1 w1 s1 q => ?_) (fun _ _ _ q => False.elim q)
      obtain ⟨rfl, rfl, rfl⟩ := q
      refine V_k (kc' := kc + 1) (ks' := ks + 6) rfl rfl rfl ?_
      refine V_w zWl_q.symm ?_
      refine V_iload d_law_226 rfl ?_
      refine J_icmp_eq 233 d_law_228 (by decide) (by decide) (by decide) (fun c_228 => ?_) (fun c_228 => absurd rfl c_228)
      refine V_iload d_law_233 rfl ?_
      refine J_if_ne 250 d_law_235 (by decide) (by decide) (fun c_235 => ?_) (fun c_235 => absurd c_235 (by decide))
      refine V_goto 1182 d_law_250 (by decide) ?_
      refine J_iinc d_law_1182 rfl (by decide) ?_
      refine V_goto 23 d_law_1185 (by decide) ?_
      refine V_lo (lo' := zloc G B (i + 5)) [0, 1, 2, 3, 4] rfl ?_
      exact hq _ _ _ _ _ _ _ _ _ _ _ _ _ _ _ _ _ (by omega) (by omega) h
    · skip
      refine V_aload_n d_law_197 rfl ?_
      refine V_aload_n d_law_198 rfl ?_
      refine V_iload d_law_199 rfl ?_
      refine V_iconst d_law_201 ?_
      refine J_iadd d_law_202 ?_
      refine V_sld (j := i + 1) d_law_203 rfl (by omega) hL ?_
      refine V_aload_n d_law_204 rfl ?_
      refine V_callS (n := 3) d_law_205 g_Law_80 rfl (w_turnKey_2 G sz B (B + 204) _ (Int32.ofInt (zsx G (i + 1))) zsys_x0 (hc sz (zqs G (B + 186) th kd n t tc ch md R (zset w (B + 204) (zro G 1 o))))) ⟨co_Law_turnKey, by decide +kernel, (Nat.le_of_ble_eq_true rfl)⟩ ⟨Nat.le_of_ble_eq_true rfl, Nat.le_of_ble_eq_true rfl, (by show _ + (1 : Nat) ≤ (601024 : Nat); omega), (by show _ + (6 : Nat) ≤ (7293033 : Nat); omega)⟩ (Nat.le_of_ble_eq_true rfl) (fun r1 w1 s1 q => ?_) (fun _ _ _ q => by cases q.1)
      obtain ⟨q1, q2, q3⟩ := q
      cases q1
      subst q2
      subst q3
      refine V_k (kc' := kc + 1) (ks' := ks + 6) rfl rfl rfl ?_
      refine V_istore d_law_208 (by decide) ?_
      refine V_aload_n d_law_210 rfl ?_
      refine V_aload_n d_law_211 rfl ?_
      refine V_iload d_law_212 rfl ?_
      refine V_iconst d_law_214 ?_
      refine J_iadd d_law_215 ?_
      refine V_sld (j := i + 1) d_law_216 rfl (by omega) hL ?_
      refine V_w zWl_q ?_
      refine V_callV (n := 1) d_law_217 g_Law_83 rfl zqs_o rfl (hr (B + 186) th (sz + 1) (zsys G B kd n t zz ch md tc tg pt L (zset w (B + 204) (zro G 1 o)))) ⟨co_Ref_turnKey, by decide +kernel, (Nat.le_of_ble_eq_true rfl)⟩ ⟨Nat.le_of_ble_eq_true rfl, Nat.le_of_ble_eq_true rfl, (by show _ + (0 : Nat) ≤ (601024 : Nat); omega), (by show _ + (0 : Nat) ≤ (7293033 : Nat); omega)⟩ (Nat.le_of_ble_eq_true rfl) (fun r1 w1 s1 q => ?_) (fun _ _ _ q => False.elim q)
      obtain ⟨rfl, rfl, rfl⟩ := q
      refine V_k (kc' := kc + 1) (ks' := ks + 6) rfl rfl rfl ?_
      refine V_w (zWl_q (kd := kd) (n := n) (t := t) (zz := zz) (ch := ch) (md := md) (tc := tc) (tg := tg) (pt := pt) (L := L) (th := 2) (kd2 := kd) (n2 := n) (t2 := t) (tc2 := tc) (ch2 := ch) (md2 := md) (R := R) (o := o) (w := w)).symm ?_
      refine V_istore d_law_220 (by decide) ?_
      refine V_aload_n d_law_222 rfl ?_
      refine V_w zWl_q ?_
      refine V_callV (n := 0) d_law_223 g_Law_72 rfl zqs_o rfl (r_thrown G (sz + 1) (B + 186) 2 kd n t tc ch md R (zsys G B kd n t zz ch md tc tg pt L (zset w (B + 204) (zro G 1 o)))) ⟨co_Ref_thrown, by decide +kernel, (Nat.le_of_ble_eq_true rfl)⟩ ⟨Nat.le_of_ble_eq_true rfl, Nat.le_of_ble_eq_true rfl, (by show _ + (0 : Nat) ≤ (601024 : Nat); omega), (by show _ + (0 : Nat) ≤ (7293033 : Nat); omega)⟩ (Nat.le_of_ble_eq_true rfl) (fun r1 w1 s1 q => ?_) (fun _ _ _ q => False.elim q)
      obtain ⟨rfl, rfl, rfl⟩ := q
      refine V_k (kc' := kc + 1) (ks' := ks + 6) rfl rfl rfl ?_
      refine V_w zWl_q.symm ?_
      refine V_iload d_law_226 rfl ?_
      refine J_icmp_eq 233 d_law_228 (by decide) (by decide) (by decide) (fun c_228 => ?_) (fun c_228 => absurd rfl c_228)
      refine V_iload d_law_233 rfl ?_
      refine J_if_ne 250 d_law_235 (by decide) (by decide) (fun c_235 => ?_) (fun c_235 => absurd c_235 (by decide))
      refine V_goto 1182 d_law_250 (by decide) ?_
      refine J_iinc d_law_1182 rfl (by decide) ?_
      refine V_goto 23 d_law_1185 (by decide) ?_
      refine V_lo (lo' := zloc G B (i + 5)) [0, 1, 2, 3, 4] rfl ?_
      exact hq _ _ _ _ _ _ _ _ _ _ _ _ _ _ _ _ _ (by omega) (by omega) h
  · skip
    refine V_aload_n d_law_197 rfl ?_
    refine V_aload_n d_law_198 rfl ?_
    refine V_iload d_law_199 rfl ?_
    refine V_iconst d_law_201 ?_
    refine J_iadd d_law_202 ?_
    refine V_sld (j := i + 1) d_law_203 rfl (by omega) hL ?_
    refine V_aload_n d_law_204 rfl ?_
    refine V_callS (n := 3) d_law_205 g_Law_80 rfl (w_turnKey_0 G sz B (B + 204) _ (zWl G B kd' n' t' zz' ch' md' tc' tg' pt' L' th kd n t tc ch md R o w) (Int32.ofInt (zsx G (i + 1))) v o zsys_x0 zWl_D hv (hc sz (zqs G (B + 186) th kd n t tc ch md R (zset w (B + 204) (zro G 1 o))))) ⟨co_Law_turnKey, by decide +kernel, (Nat.le_of_ble_eq_true rfl)⟩ ⟨Nat.le_of_ble_eq_true rfl, Nat.le_of_ble_eq_true rfl, (by show _ + (1 : Nat) ≤ (601024 : Nat); omega), (by show _ + (6 : Nat) ≤ (7293033 : Nat); omega)⟩ (Nat.le_of_ble_eq_true rfl) (fun r1 w1 s1 q => ?_) (fun _ _ _ q => by exact False.elim q)
    obtain ⟨rfl, rfl, rfl⟩ := q
    refine V_w zWl_out ?_
    refine V_k (kc' := kc) (ks' := ks) rfl rfl rfl ?_
    refine V_istore d_law_208 (by decide) ?_
    refine V_aload_n d_law_210 rfl ?_
    refine V_aload_n d_law_211 rfl ?_
    refine V_iload d_law_212 rfl ?_
    refine V_iconst d_law_214 ?_
    refine J_iadd d_law_215 ?_
    refine V_sld (j := i + 1) d_law_216 rfl (by omega) hL ?_
    refine V_w zWl_q ?_
    refine V_callV (n := 1) d_law_217 g_Law_83 rfl zqs_o rfl (hr (B + 186) th sz (zsys G B kd' n' t' zz' ch' md' tc' tg' pt' L' (zset w (B + 204) (zro G 1 (zu o 0 v))))) ⟨co_Ref_turnKey, by decide +kernel, (Nat.le_of_ble_eq_true rfl)⟩ ⟨Nat.le_of_ble_eq_true rfl, Nat.le_of_ble_eq_true rfl, (by show _ + (0 : Nat) ≤ (601024 : Nat); omega), (by show _ + (0 : Nat) ≤ (7293033 : Nat); omega)⟩ (Nat.le_of_ble_eq_true rfl) (fun r1 w1 s1 q => ?_) (fun _ _ _ q => False.elim q)
    obtain ⟨rfl, rfl, rfl⟩ := q
    refine V_k (kc' := kc) (ks' := ks) rfl rfl rfl ?_
    refine V_w (zWl_q (kd := kd') (n := n') (t := t') (zz := zz') (ch := ch') (md := md') (tc := tc') (tg := tg') (pt := pt') (L := L') (th := 0) (kd2 := kd') (n2 := n') (t2 := t') (tc2 := tc') (ch2 := ch') (md2 := md') (R := R') (o := (zu o 0 v)) (w := w)).symm ?_
    refine V_istore d_law_220 (by decide) ?_
    refine V_aload_n d_law_222 rfl ?_
    refine V_w zWl_q ?_
    refine V_callV (n := 0) d_law_223 g_Law_72 rfl zqs_o rfl (r_thrown G sz (B + 186) 0 kd' n' t' tc' ch' md' R' (zsys G B kd' n' t' zz' ch' md' tc' tg' pt' L' (zset w (B + 204) (zro G 1 (zu o 0 v))))) ⟨co_Ref_thrown, by decide +kernel, (Nat.le_of_ble_eq_true rfl)⟩ ⟨Nat.le_of_ble_eq_true rfl, Nat.le_of_ble_eq_true rfl, (by show _ + (0 : Nat) ≤ (601024 : Nat); omega), (by show _ + (0 : Nat) ≤ (7293033 : Nat); omega)⟩ (Nat.le_of_ble_eq_true rfl) (fun r1 w1 s1 q => ?_) (fun _ _ _ q => False.elim q)
    obtain ⟨rfl, rfl, rfl⟩ := q
    refine V_k (kc' := kc) (ks' := ks) rfl rfl rfl ?_
    refine V_w zWl_q.symm ?_
    refine V_iload d_law_226 rfl ?_
    refine J_icmp_eq 233 d_law_228 (by decide) (by decide) (by decide) (fun c_228 => ?_) (fun c_228 => absurd rfl c_228)
    refine V_iload d_law_233 rfl ?_
    refine J_if_ne 250 d_law_235 (by decide) (by decide) (fun c_235 => absurd rfl c_235) (fun c_235 => ?_)
    refine V_aload_n d_law_238 rfl ?_
    refine V_iconst d_law_239 ?_
    refine J_laload d_law_240 zWl_D (by decide) (by decide) ?_
    refine V_iload d_law_241 rfl ?_
    refine J_i2l d_law_243 hv ?_
    rw [zu_s]
    refine JL_eq 250 d_law_244 d_law_245 (by decide) (by omega) (by omega) (fun c_244 => ?_) (fun c_244 => absurd rfl c_244)
    refine V_goto 1182 d_law_250 (by decide) ?_
    refine J_iinc d_law_1182 rfl (by decide) ?_
    refine V_goto 23 d_law_1185 (by decide) ?_
    refine V_lo (lo' := zloc G B (i + 5)) [0, 1, 2, 3, 4] rfl ?_
    exact hq _ _ _ _ _ _ _ _ _ _ _ _ _ _ _ _ _ (by omega) (by omega) hI

set_option maxRecDepth 100000 in
set_option maxHeartbeats 4000000 in
theorem l_set (G : zG) (B : Nat) (w : zW) (hL : G.2.2.2 100001 ≤ 2560) (i : Nat) (hi : i + 5 ≤ G.2.2.2 100001) (hq : zQl G B w (i + 5)) (kc ks sz : Nat) (kd n t zz : Int) (ch : Int32) (md tc : Int) (tg pt : Nat → Int) (L R : Nat → Int → Int) (nn : Nat) (th : Int) (o : Int → Int) (hkc : kc ≤ 1000 + i) (hks : ks ≤ 100000 + 6 * i) (h : zI kd n t zz md tc tg pt L R nn) : V G M_law zKl room_1 kc ks sz 253 (zloc G B i) [] (zWl G B kd n t zz ch md tc tg pt L th kd n t tc ch md R o w) := by
  rcases p_set G B kd n t zz ch md tc tg pt L R nn h (zsx G (i + 1)) (zsx G (i + 2)) (zsx G (i + 3)) (zsx_b G _) (zsx_b G _) (zsx_b G _) with ⟨e, cd, hx, hc, hr⟩ | ⟨v, kd', n', t', zz', ch', md', tc', tg', pt', L', R', nn', hv, hI, hc, hr⟩
  · simp only [List.mem_cons, Prod.mk.injEq, List.not_mem_nil, or_false] at hx
    rcases hx with ⟨rfl, rfl⟩
    · skip
      refine V_aload_n d_law_253 rfl ?_
      refine V_aload_n d_law_254 rfl ?_
      refine V_iload d_law_255 rfl ?_
      refine V_iconst d_law_257 ?_
      refine J_iadd d_law_258 ?_
      refine V_sld (j := i + 1) d_law_259 rfl (by omega) hL ?_
      refine V_aload_n d_law_260 rfl ?_
      refine V_iload d_law_261 rfl ?_
      refine V_iconst d_law_263 ?_
      refine J_iadd d_law_264 ?_
      refine V_sld (j := i + 2) d_law_265 rfl (by omega) hL ?_
      refine V_aload_n d_law_266 rfl ?_
      refine V_iload d_law_267 rfl ?_
      refine V_iconst d_law_269 ?_
      refine J_iadd d_law_270 ?_
      refine V_sld (j := i + 3) d_law_271 rfl (by omega) hL ?_
      refine V_aload_n d_law_272 rfl ?_
      refine V_callS (n := 5) d_law_273 g_Law_84 rfl (w_set_1 G sz B (B + 204) _ (Int32.ofInt (zsx G (i + 1))) (Int32.ofInt (zsx G (i + 2))) (Int32.ofInt (zsx G (i + 3))) zsys_x0 (hc sz (zqs G (B + 186) th kd n t tc ch md R (zset w (B + 204) (zro G 1 o))))) ⟨co_Law_set, by decide +kernel, (Nat.le_of_ble_eq_true rfl)⟩ ⟨Nat.le_of_ble_eq_true rfl, Nat.le_of_ble_eq_true rfl, (by show _ + (1 : Nat) ≤ (601024 : Nat); omega), (by show _ + (6 : Nat) ≤ (7293033 : Nat); omega)⟩ (Nat.le_of_ble_eq_true rfl) (fun r1 w1 s1 q => ?_) (fun _ _ _ q => by cases q.1)
      obtain ⟨q1, q2, q3⟩ := q
      cases q1
      subst q2
      subst q3
      refine V_k (kc' := kc + 1) (ks' := ks + 6) rfl rfl rfl ?_
      refine V_istore d_law_276 (by decide) ?_
      refine V_aload_n d_law_278 rfl ?_
      refine V_aload_n d_law_279 rfl ?_
      refine V_iload d_law_280 rfl ?_
      refine V_iconst d_law_282 ?_
      refine J_iadd d_law_283 ?_
      refine V_sld (j := i + 1) d_law_284 rfl (by omega) hL ?_
      refine V_aload_n d_law_285 rfl ?_
      refine V_iload d_law_286 rfl ?_
      refine V_iconst d_law_288 ?_
      refine J_iadd d_law_289 ?_
      refine V_sld (j := i + 2) d_law_290 rfl (by omega) hL ?_
      refine V_aload_n d_law_291 rfl ?_
      refine V_iload d_law_292 rfl ?_
      refine V_iconst d_law_294 ?_
      refine J_iadd d_law_295 ?_
      refine V_sld (j := i + 3) d_law_296 rfl (by omega) hL ?_
      refine V_w zWl_q ?_
      refine V_callV (n := 3) d_law_297 g_Law_87 rfl zqs_o rfl (hr (B + 186) th (sz + 1) (zsys G B kd n t zz ch md tc tg pt L (zset w (B + 204) (zro G 1 o)))) ⟨co_Ref_set, by decide +kernel, (Nat.le_of_ble_eq_true rfl)⟩ ⟨Nat.le_of_ble_eq_true rfl, Nat.le_of_ble_eq_true rfl, (by show _ + (0 : Nat) ≤ (601024 : Nat); omega), (by show _ + (0 : Nat) ≤ (7293033 : Nat); omega)⟩ (Nat.le_of_ble_eq_true rfl) (fun r1 w1 s1 q => ?_) (fun _ _ _ q => False.elim q)
      obtain ⟨rfl, rfl, rfl⟩ := q
      refine V_k (kc' := kc + 1) (ks' := ks + 6) rfl rfl rfl ?_
      refine V_w (zWl_q (kd := kd) (n := n) (t := t) (zz := zz) (ch := ch) (md := md) (tc := tc) (tg := tg) (pt := pt) (L := L) (th := 1) (kd2 := kd) (n2 := n) (t2 := t) (tc2 := tc) (ch2 := ch) (md2 := md) (R := R) (o := o) (w := w)).symm ?_
      refine V_istore d_law_300 (by decide) ?_
      refine V_aload_n d_law_302 rfl ?_
      refine V_w zWl_q ?_
      refine V_callV (n := 0) d_law_303 g_Law_72 rfl zqs_o rfl (r_thrown G (sz + 1) (B + 186) 1 kd n t tc ch md R (zsys G B kd n t zz ch md tc tg pt L (zset w (B + 204) (zro G 1 o)))) ⟨co_Ref_thrown, by decide +kernel, (Nat.le_of_ble_eq_true rfl)⟩ ⟨Nat.le_of_ble_eq_true rfl, Nat.le_of_ble_eq_true rfl, (by show _ + (0 : Nat) ≤ (601024 : Nat); omega), (by show _ + (0 : Nat) ≤ (7293033 : Nat); omega)⟩ (Nat.le_of_ble_eq_true rfl) (fun r1 w1 s1 q => ?_) (fun _ _ _ q => False.elim q)
      obtain ⟨rfl, rfl, rfl⟩ := q
      refine V_k (kc' := kc + 1) (ks' := ks + 6) rfl rfl rfl ?_
      refine V_w zWl_q.symm ?_
      refine V_iload d_law_306 rfl ?_
      refine J_icmp_eq 313 d_law_308 (by decide) (by decide) (by decide) (fun c_308 => ?_) (fun c_308 => absurd rfl c_308)
      refine V_iload d_law_313 rfl ?_
      refine J_if_ne 330 d_law_315 (by decide) (by decide) (fun c_315 => ?_) (fun c_315 => absurd c_315 (by decide))
      refine V_goto 1182 d_law_330 (by decide) ?_
      refine J_iinc d_law_1182 rfl (by decide) ?_
      refine V_goto 23 d_law_1185 (by decide) ?_
      refine V_lo (lo' := zloc G B (i + 5)) [0, 1, 2, 3, 4] rfl ?_
      exact hq _ _ _ _ _ _ _ _ _ _ _ _ _ _ _ _ _ (by omega) (by omega) h
  · skip
    refine V_aload_n d_law_253 rfl ?_
    refine V_aload_n d_law_254 rfl ?_
    refine V_iload d_law_255 rfl ?_
    refine V_iconst d_law_257 ?_
    refine J_iadd d_law_258 ?_
    refine V_sld (j := i + 1) d_law_259 rfl (by omega) hL ?_
    refine V_aload_n d_law_260 rfl ?_
    refine V_iload d_law_261 rfl ?_
    refine V_iconst d_law_263 ?_
    refine J_iadd d_law_264 ?_
    refine V_sld (j := i + 2) d_law_265 rfl (by omega) hL ?_
    refine V_aload_n d_law_266 rfl ?_
    refine V_iload d_law_267 rfl ?_
    refine V_iconst d_law_269 ?_
    refine J_iadd d_law_270 ?_
    refine V_sld (j := i + 3) d_law_271 rfl (by omega) hL ?_
    refine V_aload_n d_law_272 rfl ?_
    refine V_callS (n := 5) d_law_273 g_Law_84 rfl (w_set_0 G sz B (B + 204) _ (zWl G B kd' n' t' zz' ch' md' tc' tg' pt' L' th kd n t tc ch md R o w) (Int32.ofInt (zsx G (i + 1))) (Int32.ofInt (zsx G (i + 2))) (Int32.ofInt (zsx G (i + 3))) v o zsys_x0 zWl_D hv (hc sz (zqs G (B + 186) th kd n t tc ch md R (zset w (B + 204) (zro G 1 o))))) ⟨co_Law_set, by decide +kernel, (Nat.le_of_ble_eq_true rfl)⟩ ⟨Nat.le_of_ble_eq_true rfl, Nat.le_of_ble_eq_true rfl, (by show _ + (1 : Nat) ≤ (601024 : Nat); omega), (by show _ + (6 : Nat) ≤ (7293033 : Nat); omega)⟩ (Nat.le_of_ble_eq_true rfl) (fun r1 w1 s1 q => ?_) (fun _ _ _ q => by exact False.elim q)
    obtain ⟨rfl, rfl, rfl⟩ := q
    refine V_w zWl_out ?_
    refine V_k (kc' := kc) (ks' := ks) rfl rfl rfl ?_
    refine V_istore d_law_276 (by decide) ?_
    refine V_aload_n d_law_278 rfl ?_
    refine V_aload_n d_law_279 rfl ?_
    refine V_iload d_law_280 rfl ?_
    refine V_iconst d_law_282 ?_
    refine J_iadd d_law_283 ?_
    refine V_sld (j := i + 1) d_law_284 rfl (by omega) hL ?_
    refine V_aload_n d_law_285 rfl ?_
    refine V_iload d_law_286 rfl ?_
    refine V_iconst d_law_288 ?_
    refine J_iadd d_law_289 ?_
    refine V_sld (j := i + 2) d_law_290 rfl (by omega) hL ?_
    refine V_aload_n d_law_291 rfl ?_
    refine V_iload d_law_292 rfl ?_
    refine V_iconst d_law_294 ?_
    refine J_iadd d_law_295 ?_
    refine V_sld (j := i + 3) d_law_296 rfl (by omega) hL ?_
    refine V_w zWl_q ?_
    refine V_callV (n := 3) d_law_297 g_Law_87 rfl zqs_o rfl (hr (B + 186) th sz (zsys G B kd' n' t' zz' ch' md' tc' tg' pt' L' (zset w (B + 204) (zro G 1 (zu o 0 v))))) ⟨co_Ref_set, by decide +kernel, (Nat.le_of_ble_eq_true rfl)⟩ ⟨Nat.le_of_ble_eq_true rfl, Nat.le_of_ble_eq_true rfl, (by show _ + (0 : Nat) ≤ (601024 : Nat); omega), (by show _ + (0 : Nat) ≤ (7293033 : Nat); omega)⟩ (Nat.le_of_ble_eq_true rfl) (fun r1 w1 s1 q => ?_) (fun _ _ _ q => False.elim q)
    obtain ⟨rfl, rfl, rfl⟩ := q
    refine V_k (kc' := kc) (ks' := ks) rfl rfl rfl ?_
    refine V_w (zWl_q (kd := kd') (n := n') (t := t') (zz := zz') (ch := ch') (md := md') (tc := tc') (tg := tg') (pt := pt') (L := L') (th := 0) (kd2 := kd') (n2 := n') (t2 := t') (tc2 := tc') (ch2 := ch') (md2 := md') (R := R') (o := (zu o 0 v)) (w := w)).symm ?_
    refine V_istore d_law_300 (by decide) ?_
    refine V_aload_n d_law_302 rfl ?_
    refine V_w zWl_q ?_
    refine V_callV (n := 0) d_law_303 g_Law_72 rfl zqs_o rfl (r_thrown G sz (B + 186) 0 kd' n' t' tc' ch' md' R' (zsys G B kd' n' t' zz' ch' md' tc' tg' pt' L' (zset w (B + 204) (zro G 1 (zu o 0 v))))) ⟨co_Ref_thrown, by decide +kernel, (Nat.le_of_ble_eq_true rfl)⟩ ⟨Nat.le_of_ble_eq_true rfl, Nat.le_of_ble_eq_true rfl, (by show _ + (0 : Nat) ≤ (601024 : Nat); omega), (by show _ + (0 : Nat) ≤ (7293033 : Nat); omega)⟩ (Nat.le_of_ble_eq_true rfl) (fun r1 w1 s1 q => ?_) (fun _ _ _ q => False.elim q)
    obtain ⟨rfl, rfl, rfl⟩ := q
    refine V_k (kc' := kc) (ks' := ks) rfl rfl rfl ?_
    refine V_w zWl_q.symm ?_
    refine V_iload d_law_306 rfl ?_
    refine J_icmp_eq 313 d_law_308 (by decide) (by decide) (by decide) (fun c_308 => ?_) (fun c_308 => absurd rfl c_308)
    refine V_iload d_law_313 rfl ?_
    refine J_if_ne 330 d_law_315 (by decide) (by decide) (fun c_315 => absurd rfl c_315) (fun c_315 => ?_)
    refine V_aload_n d_law_318 rfl ?_
    refine V_iconst d_law_319 ?_
    refine J_laload d_law_320 zWl_D (by decide) (by decide) ?_
    refine V_iload d_law_321 rfl ?_
    refine J_i2l d_law_323 hv ?_
    rw [zu_s]
    refine JL_eq 330 d_law_324 d_law_325 (by decide) (by omega) (by omega) (fun c_324 => ?_) (fun c_324 => absurd rfl c_324)
    refine V_goto 1182 d_law_330 (by decide) ?_
    refine J_iinc d_law_1182 rfl (by decide) ?_
    refine V_goto 23 d_law_1185 (by decide) ?_
    refine V_lo (lo' := zloc G B (i + 5)) [0, 1, 2, 3, 4] rfl ?_
    exact hq _ _ _ _ _ _ _ _ _ _ _ _ _ _ _ _ _ (by omega) (by omega) hI

set_option maxRecDepth 100000 in
set_option maxHeartbeats 4000000 in
theorem l_get (G : zG) (B : Nat) (w : zW) (hL : G.2.2.2 100001 ≤ 2560) (i : Nat) (hi : i + 5 ≤ G.2.2.2 100001) (hq : zQl G B w (i + 5)) (kc ks sz : Nat) (kd n t zz : Int) (ch : Int32) (md tc : Int) (tg pt : Nat → Int) (L R : Nat → Int → Int) (nn : Nat) (th : Int) (o : Int → Int) (hkc : kc ≤ 1000 + i) (hks : ks ≤ 100000 + 6 * i) (h : zI kd n t zz md tc tg pt L R nn) : V G M_law zKl room_1 kc ks sz 333 (zloc G B i) [] (zWl G B kd n t zz ch md tc tg pt L th kd n t tc ch md R o w) := by
  rcases p_get G B kd n t zz ch md tc tg pt L R nn h (zsx G (i + 1)) (zsx G (i + 2)) (zsx_b G _) (zsx_b G _) with ⟨e, cd, hx, hc, hr⟩ | ⟨v, kd', n', t', zz', ch', md', tc', tg', pt', L', R', nn', hv, hI, hc, hr⟩
  · simp only [List.mem_cons, Prod.mk.injEq, List.not_mem_nil, or_false] at hx
    rcases hx with ⟨rfl, rfl⟩
    · skip
      refine V_aload_n d_law_333 rfl ?_
      refine V_aload_n d_law_334 rfl ?_
      refine V_iload d_law_335 rfl ?_
      refine V_iconst d_law_337 ?_
      refine J_iadd d_law_338 ?_
      refine V_sld (j := i + 1) d_law_339 rfl (by omega) hL ?_
      refine V_aload_n d_law_340 rfl ?_
      refine V_iload d_law_341 rfl ?_
      refine V_iconst d_law_343 ?_
      refine J_iadd d_law_344 ?_
      refine V_sld (j := i + 2) d_law_345 rfl (by omega) hL ?_
      refine V_aload_n d_law_346 rfl ?_
      refine V_callS (n := 4) d_law_347 g_Law_88 rfl (w_get_1 G sz B (B + 204) _ (Int32.ofInt (zsx G (i + 1))) (Int32.ofInt (zsx G (i + 2))) zsys_x0 (hc sz (zqs G (B + 186) th kd n t tc ch md R (zset w (B + 204) (zro G 1 o))))) ⟨co_Law_get, by decide +kernel, (Nat.le_of_ble_eq_true rfl)⟩ ⟨Nat.le_of_ble_eq_true rfl, Nat.le_of_ble_eq_true rfl, (by show _ + (1 : Nat) ≤ (601024 : Nat); omega), (by show _ + (6 : Nat) ≤ (7293033 : Nat); omega)⟩ (Nat.le_of_ble_eq_true rfl) (fun r1 w1 s1 q => ?_) (fun _ _ _ q => by cases q.1)
      obtain ⟨q1, q2, q3⟩ := q
      cases q1
      subst q2
      subst q3
      refine V_k (kc' := kc + 1) (ks' := ks + 6) rfl rfl rfl ?_
      refine V_istore d_law_350 (by decide) ?_
      refine V_aload_n d_law_352 rfl ?_
      refine V_aload_n d_law_353 rfl ?_
      refine V_iload d_law_354 rfl ?_
      refine V_iconst d_law_356 ?_
      refine J_iadd d_law_357 ?_
      refine V_sld (j := i + 1) d_law_358 rfl (by omega) hL ?_
      refine V_aload_n d_law_359 rfl ?_
      refine V_iload d_law_360 rfl ?_
      refine V_iconst d_law_362 ?_
      refine J_iadd d_law_363 ?_
      refine V_sld (j := i + 2) d_law_364 rfl (by omega) hL ?_
      refine V_w zWl_q ?_
      refine V_callV (n := 2) d_law_365 g_Law_90 rfl zqs_o rfl (hr (B + 186) th (sz + 1) (zsys G B kd n t zz ch md tc tg pt L (zset w (B + 204) (zro G 1 o)))) ⟨co_Ref_get, by decide +kernel, (Nat.le_of_ble_eq_true rfl)⟩ ⟨Nat.le_of_ble_eq_true rfl, Nat.le_of_ble_eq_true rfl, (by show _ + (0 : Nat) ≤ (601024 : Nat); omega), (by show _ + (0 : Nat) ≤ (7293033 : Nat); omega)⟩ (Nat.le_of_ble_eq_true rfl) (fun r1 w1 s1 q => ?_) (fun _ _ _ q => False.elim q)
      obtain ⟨rfl, rfl, rfl⟩ := q
      refine V_k (kc' := kc + 1) (ks' := ks + 6) rfl rfl rfl ?_
      refine V_w (zWl_q (kd := kd) (n := n) (t := t) (zz := zz) (ch := ch) (md := md) (tc := tc) (tg := tg) (pt := pt) (L := L) (th := 1) (kd2 := kd) (n2 := n) (t2 := t) (tc2 := tc) (ch2 := ch) (md2 := md) (R := R) (o := o) (w := w)).symm ?_
      refine V_istore d_law_368 (by decide) ?_
      refine V_aload_n d_law_370 rfl ?_
      refine V_w zWl_q ?_
      refine V_callV (n := 0) d_law_371 g_Law_72 rfl zqs_o rfl (r_thrown G (sz + 1) (B + 186) 1 kd n t tc ch md R (zsys G B kd n t zz ch md tc tg pt L (zset w (B + 204) (zro G 1 o)))) ⟨co_Ref_thrown, by decide +kernel, (Nat.le_of_ble_eq_true rfl)⟩ ⟨Nat.le_of_ble_eq_true rfl, Nat.le_of_ble_eq_true rfl, (by show _ + (0 : Nat) ≤ (601024 : Nat); omega), (by show _ + (0 : Nat) ≤ (7293033 : Nat); omega)⟩ (Nat.le_of_ble_eq_true rfl) (fun r1 w1 s1 q => ?_) (fun _ _ _ q => False.elim q)
      obtain ⟨rfl, rfl, rfl⟩ := q
      refine V_k (kc' := kc + 1) (ks' := ks + 6) rfl rfl rfl ?_
      refine V_w zWl_q.symm ?_
      refine V_iload d_law_374 rfl ?_
      refine J_icmp_eq 381 d_law_376 (by decide) (by decide) (by decide) (fun c_376 => ?_) (fun c_376 => absurd rfl c_376)
      refine V_iload d_law_381 rfl ?_
      refine J_if_ne 398 d_law_383 (by decide) (by decide) (fun c_383 => ?_) (fun c_383 => absurd c_383 (by decide))
      refine V_goto 1182 d_law_398 (by decide) ?_
      refine J_iinc d_law_1182 rfl (by decide) ?_
      refine V_goto 23 d_law_1185 (by decide) ?_
      refine V_lo (lo' := zloc G B (i + 5)) [0, 1, 2, 3, 4] rfl ?_
      exact hq _ _ _ _ _ _ _ _ _ _ _ _ _ _ _ _ _ (by omega) (by omega) h
  · skip
    refine V_aload_n d_law_333 rfl ?_
    refine V_aload_n d_law_334 rfl ?_
    refine V_iload d_law_335 rfl ?_
    refine V_iconst d_law_337 ?_
    refine J_iadd d_law_338 ?_
    refine V_sld (j := i + 1) d_law_339 rfl (by omega) hL ?_
    refine V_aload_n d_law_340 rfl ?_
    refine V_iload d_law_341 rfl ?_
    refine V_iconst d_law_343 ?_
    refine J_iadd d_law_344 ?_
    refine V_sld (j := i + 2) d_law_345 rfl (by omega) hL ?_
    refine V_aload_n d_law_346 rfl ?_
    refine V_callS (n := 4) d_law_347 g_Law_88 rfl (w_get_0 G sz B (B + 204) _ (zWl G B kd' n' t' zz' ch' md' tc' tg' pt' L' th kd n t tc ch md R o w) (Int32.ofInt (zsx G (i + 1))) (Int32.ofInt (zsx G (i + 2))) v o zsys_x0 zWl_D hv (hc sz (zqs G (B + 186) th kd n t tc ch md R (zset w (B + 204) (zro G 1 o))))) ⟨co_Law_get, by decide +kernel, (Nat.le_of_ble_eq_true rfl)⟩ ⟨Nat.le_of_ble_eq_true rfl, Nat.le_of_ble_eq_true rfl, (by show _ + (1 : Nat) ≤ (601024 : Nat); omega), (by show _ + (6 : Nat) ≤ (7293033 : Nat); omega)⟩ (Nat.le_of_ble_eq_true rfl) (fun r1 w1 s1 q => ?_) (fun _ _ _ q => by exact False.elim q)
    obtain ⟨rfl, rfl, rfl⟩ := q
    refine V_w zWl_out ?_
    refine V_k (kc' := kc) (ks' := ks) rfl rfl rfl ?_
    refine V_istore d_law_350 (by decide) ?_
    refine V_aload_n d_law_352 rfl ?_
    refine V_aload_n d_law_353 rfl ?_
    refine V_iload d_law_354 rfl ?_
    refine V_iconst d_law_356 ?_
    refine J_iadd d_law_357 ?_
    refine V_sld (j := i + 1) d_law_358 rfl (by omega) hL ?_
    refine V_aload_n d_law_359 rfl ?_
    refine V_iload d_law_360 rfl ?_
    refine V_iconst d_law_362 ?_
    refine J_iadd d_law_363 ?_
    refine V_sld (j := i + 2) d_law_364 rfl (by omega) hL ?_
    refine V_w zWl_q ?_
    refine V_callV (n := 2) d_law_365 g_Law_90 rfl zqs_o rfl (hr (B + 186) th sz (zsys G B kd' n' t' zz' ch' md' tc' tg' pt' L' (zset w (B + 204) (zro G 1 (zu o 0 v))))) ⟨co_Ref_get, by decide +kernel, (Nat.le_of_ble_eq_true rfl)⟩ ⟨Nat.le_of_ble_eq_true rfl, Nat.le_of_ble_eq_true rfl, (by show _ + (0 : Nat) ≤ (601024 : Nat); omega), (by show _ + (0 : Nat) ≤ (7293033 : Nat); omega)⟩ (Nat.le_of_ble_eq_true rfl) (fun r1 w1 s1 q => ?_) (fun _ _ _ q => False.elim q)
    obtain ⟨rfl, rfl, rfl⟩ := q
    refine V_k (kc' := kc) (ks' := ks) rfl rfl rfl ?_
    refine V_w (zWl_q (kd := kd') (n := n') (t := t') (zz := zz') (ch := ch') (md := md') (tc := tc') (tg := tg') (pt := pt') (L := L') (th := 0) (kd2 := kd') (n2 := n') (t2 := t') (tc2 := tc') (ch2 := ch') (md2 := md') (R := R') (o := (zu o 0 v)) (w := w)).symm ?_
    refine V_istore d_law_368 (by decide) ?_
    refine V_aload_n d_law_370 rfl ?_
    refine V_w zWl_q ?_
    refine V_callV (n := 0) d_law_371 g_Law_72 rfl zqs_o rfl (r_thrown G sz (B + 186) 0 kd' n' t' tc' ch' md' R' (zsys G B kd' n' t' zz' ch' md' tc' tg' pt' L' (zset w (B + 204) (zro G 1 (zu o 0 v))))) ⟨co_Ref_thrown, by decide +kernel, (Nat.le_of_ble_eq_true rfl)⟩ ⟨Nat.le_of_ble_eq_true rfl, Nat.le_of_ble_eq_true rfl, (by show _ + (0 : Nat) ≤ (601024 : Nat); omega), (by show _ + (0 : Nat) ≤ (7293033 : Nat); omega)⟩ (Nat.le_of_ble_eq_true rfl) (fun r1 w1 s1 q => ?_) (fun _ _ _ q => False.elim q)
    obtain ⟨rfl, rfl, rfl⟩ := q
    refine V_k (kc' := kc) (ks' := ks) rfl rfl rfl ?_
    refine V_w zWl_q.symm ?_
    refine V_iload d_law_374 rfl ?_
    refine J_icmp_eq 381 d_law_376 (by decide) (by decide) (by decide) (fun c_376 => ?_) (fun c_376 => absurd rfl c_376)
    refine V_iload d_law_381 rfl ?_
    refine J_if_ne 398 d_law_383 (by decide) (by decide) (fun c_383 => absurd rfl c_383) (fun c_383 => ?_)
    refine V_aload_n d_law_386 rfl ?_
    refine V_iconst d_law_387 ?_
    refine J_laload d_law_388 zWl_D (by decide) (by decide) ?_
    refine V_iload d_law_389 rfl ?_
    refine J_i2l d_law_391 hv ?_
    rw [zu_s]
    refine JL_eq 398 d_law_392 d_law_393 (by decide) (by omega) (by omega) (fun c_392 => ?_) (fun c_392 => absurd rfl c_392)
    refine V_goto 1182 d_law_398 (by decide) ?_
    refine J_iinc d_law_1182 rfl (by decide) ?_
    refine V_goto 23 d_law_1185 (by decide) ?_
    refine V_lo (lo' := zloc G B (i + 5)) [0, 1, 2, 3, 4] rfl ?_
    exact hq _ _ _ _ _ _ _ _ _ _ _ _ _ _ _ _ _ (by omega) (by omega) hI

set_option maxRecDepth 100000 in
set_option maxHeartbeats 4000000 in
theorem l_batch (G : zG) (B : Nat) (w : zW) (hL : G.2.2.2 100001 ≤ 2560) (i : Nat) (hi : i + 5 ≤ G.2.2.2 100001) (hq : zQl G B w (i + 5)) (kc ks sz : Nat) (kd n t zz : Int) (ch : Int32) (md tc : Int) (tg pt : Nat → Int) (L R : Nat → Int → Int) (nn : Nat) (th : Int) (o : Int → Int) (hkc : kc ≤ 1000 + i) (hks : ks ≤ 100000 + 6 * i) (h : zI kd n t zz md tc tg pt L R nn) : V G M_law zKl room_1 kc ks sz 401 (zloc G B i) [] (zWl G B kd n t zz ch md tc tg pt L th kd n t tc ch md R o w) := by
  by_cases hz : zsx G (i + 2) = 0
  · skip
    rcases p_batch G B kd n t zz ch md tc tg pt L R nn h (zsx G (i + 1)) 0 (by decide) (zsx_b G _) with ⟨e, cd, hx, hc, hr⟩ | ⟨v, kd', n', t', zz', ch', md', tc', tg', pt', L', R', nn', hv, hI, hc, hr⟩
    · simp only [List.mem_cons, Prod.mk.injEq, List.not_mem_nil, or_false] at hx
      rcases hx with ⟨rfl, rfl⟩
      · skip
        refine V_aload_n d_law_401 rfl ?_
        refine V_aload_n d_law_402 rfl ?_
        refine V_iload d_law_403 rfl ?_
        refine V_iconst d_law_405 ?_
        refine J_iadd d_law_406 ?_
        refine V_sld (j := i + 1) d_law_407 rfl (by omega) hL ?_
        refine V_aload_n d_law_408 rfl ?_
        refine V_iload d_law_409 rfl ?_
        refine V_iconst d_law_411 ?_
        refine J_iadd d_law_412 ?_
        refine V_sld (j := i + 2) d_law_413 rfl (by omega) hL ?_
        refine J_if_eq 421 d_law_414 (by decide) (zsx_b G _) (fun c_414 => ?_) (fun c_414 => absurd hz c_414)
        refine V_iconst d_law_421 ?_
        refine V_aload_n d_law_422 rfl ?_
        refine V_callS (n := 4) d_law_423 g_Law_91 rfl (w_batch_1 G sz B (B + 204) _ (Int32.ofInt (zsx G (i + 1))) (Int32.ofInt ((0 : Nat) : Int)) zsys_x0 (hc sz (zqs G (B + 186) th kd n t tc ch md R (zset w (B + 204) (zro G 1 o))))) ⟨co_Law_batch, by decide +kernel, (Nat.le_of_ble_eq_true rfl)⟩ ⟨Nat.le_of_ble_eq_true rfl, Nat.le_of_ble_eq_true rfl, (by show _ + (1 : Nat) ≤ (601024 : Nat); omega), (by show _ + (6 : Nat) ≤ (7293033 : Nat); omega)⟩ (Nat.le_of_ble_eq_true rfl) (fun r1 w1 s1 q => ?_) (fun _ _ _ q => by cases q.1)
        obtain ⟨q1, q2, q3⟩ := q
        cases q1
        subst q2
        subst q3
        refine V_k (kc' := kc + 1) (ks' := ks + 6) rfl rfl rfl ?_
        refine V_istore d_law_426 (by decide) ?_
        refine V_aload_n d_law_428 rfl ?_
        refine V_aload_n d_law_429 rfl ?_
        refine V_iload d_law_430 rfl ?_
        refine V_iconst d_law_432 ?_
        refine J_iadd d_law_433 ?_
        refine V_sld (j := i + 1) d_law_434 rfl (by omega) hL ?_
        refine V_aload_n d_law_435 rfl ?_
        refine V_iload d_law_436 rfl ?_
        refine V_iconst d_law_438 ?_
        refine J_iadd d_law_439 ?_
        refine V_sld (j := i + 2) d_law_440 rfl (by omega) hL ?_
        refine J_if_eq 448 d_law_441 (by decide) (zsx_b G _) (fun c_441 => ?_) (fun c_441 => absurd hz c_441)
        refine V_iconst d_law_448 ?_
        refine V_w zWl_q ?_
        refine V_callV (n := 2) d_law_449 g_Law_94 rfl zqs_o rfl (hr (B + 186) th (sz + 1) (zsys G B kd n t zz ch md tc tg pt L (zset w (B + 204) (zro G 1 o)))) ⟨co_Ref_batch, by decide +kernel, (Nat.le_of_ble_eq_true rfl)⟩ ⟨Nat.le_of_ble_eq_true rfl, Nat.le_of_ble_eq_true rfl, (by show _ + (0 : Nat) ≤ (601024 : Nat); omega), (by show _ + (0 : Nat) ≤ (7293033 : Nat); omega)⟩ (Nat.le_of_ble_eq_true rfl) (fun r1 w1 s1 q => ?_) (fun _ _ _ q => False.elim q)
        obtain ⟨rfl, rfl, rfl⟩ := q
        refine V_k (kc' := kc + 1) (ks' := ks + 6) rfl rfl rfl ?_
        refine V_w (zWl_q (kd := kd) (n := n) (t := t) (zz := zz) (ch := ch) (md := md) (tc := tc) (tg := tg) (pt := pt) (L := L) (th := 1) (kd2 := kd) (n2 := n) (t2 := t) (tc2 := tc) (ch2 := ch) (md2 := md) (R := R) (o := o) (w := w)).symm ?_
        refine V_istore d_law_452 (by decide) ?_
        refine V_aload_n d_law_454 rfl ?_
        refine V_w zWl_q ?_
        refine V_callV (n := 0) d_law_455 g_Law_72 rfl zqs_o rfl (r_thrown G (sz + 1) (B + 186) 1 kd n t tc ch md R (zsys G B kd n t zz ch md tc tg pt L (zset w (B + 204) (zro G 1 o)))) ⟨co_Ref_thrown, by decide +kernel, (Nat.le_of_ble_eq_true rfl)⟩ ⟨Nat.le_of_ble_eq_true rfl, Nat.le_of_ble_eq_true rfl, (by show _ + (0 : Nat) ≤ (601024 : Nat); omega), (by show _ + (0 : Nat) ≤ (7293033 : Nat); omega)⟩ (Nat.le_of_ble_eq_true rfl) (fun r1 w1 s1 q => ?_) (fun _ _ _ q => False.elim q)
        obtain ⟨rfl, rfl, rfl⟩ := q
        refine V_k (kc' := kc + 1) (ks' := ks + 6) rfl rfl rfl ?_
        refine V_w zWl_q.symm ?_
        refine V_iload d_law_458 rfl ?_
        refine J_icmp_eq 465 d_law_460 (by decide) (by decide) (by decide) (fun c_460 => ?_) (fun c_460 => absurd rfl c_460)
        refine V_iload d_law_465 rfl ?_
        refine J_if_ne 482 d_law_467 (by decide) (by decide) (fun c_467 => ?_) (fun c_467 => absurd c_467 (by decide))
        refine V_goto 1182 d_law_482 (by decide) ?_
        refine J_iinc d_law_1182 rfl (by decide) ?_
        refine V_goto 23 d_law_1185 (by decide) ?_
        refine V_lo (lo' := zloc G B (i + 5)) [0, 1, 2, 3, 4] rfl ?_
        exact hq _ _ _ _ _ _ _ _ _ _ _ _ _ _ _ _ _ (by omega) (by omega) h
    · skip
      refine V_aload_n d_law_401 rfl ?_
      refine V_aload_n d_law_402 rfl ?_
      refine V_iload d_law_403 rfl ?_
      refine V_iconst d_law_405 ?_
      refine J_iadd d_law_406 ?_
      refine V_sld (j := i + 1) d_law_407 rfl (by omega) hL ?_
      refine V_aload_n d_law_408 rfl ?_
      refine V_iload d_law_409 rfl ?_
      refine V_iconst d_law_411 ?_
      refine J_iadd d_law_412 ?_
      refine V_sld (j := i + 2) d_law_413 rfl (by omega) hL ?_
      refine J_if_eq 421 d_law_414 (by decide) (zsx_b G _) (fun c_414 => ?_) (fun c_414 => absurd hz c_414)
      refine V_iconst d_law_421 ?_
      refine V_aload_n d_law_422 rfl ?_
      refine V_callS (n := 4) d_law_423 g_Law_91 rfl (w_batch_0 G sz B (B + 204) _ (zWl G B kd' n' t' zz' ch' md' tc' tg' pt' L' th kd n t tc ch md R o w) (Int32.ofInt (zsx G (i + 1))) (Int32.ofInt ((0 : Nat) : Int)) v o zsys_x0 zWl_D hv (hc sz (zqs G (B + 186) th kd n t tc ch md R (zset w (B + 204) (zro G 1 o))))) ⟨co_Law_batch, by decide +kernel, (Nat.le_of_ble_eq_true rfl)⟩ ⟨Nat.le_of_ble_eq_true rfl, Nat.le_of_ble_eq_true rfl, (by show _ + (1 : Nat) ≤ (601024 : Nat); omega), (by show _ + (6 : Nat) ≤ (7293033 : Nat); omega)⟩ (Nat.le_of_ble_eq_true rfl) (fun r1 w1 s1 q => ?_) (fun _ _ _ q => by exact False.elim q)
      obtain ⟨rfl, rfl, rfl⟩ := q
      refine V_w zWl_out ?_
      refine V_k (kc' := kc) (ks' := ks) rfl rfl rfl ?_
      refine V_istore d_law_426 (by decide) ?_
      refine V_aload_n d_law_428 rfl ?_
      refine V_aload_n d_law_429 rfl ?_
      refine V_iload d_law_430 rfl ?_
      refine V_iconst d_law_432 ?_
      refine J_iadd d_law_433 ?_
      refine V_sld (j := i + 1) d_law_434 rfl (by omega) hL ?_
      refine V_aload_n d_law_435 rfl ?_
      refine V_iload d_law_436 rfl ?_
      refine V_iconst d_law_438 ?_
      refine J_iadd d_law_439 ?_
      refine V_sld (j := i + 2) d_law_440 rfl (by omega) hL ?_
      refine J_if_eq 448 d_law_441 (by decide) (zsx_b G _) (fun c_441 => ?_) (fun c_441 => absurd hz c_441)
      refine V_iconst d_law_448 ?_
      refine V_w zWl_q ?_
      refine V_callV (n := 2) d_law_449 g_Law_94 rfl zqs_o rfl (hr (B + 186) th sz (zsys G B kd' n' t' zz' ch' md' tc' tg' pt' L' (zset w (B + 204) (zro G 1 (zu o 0 v))))) ⟨co_Ref_batch, by decide +kernel, (Nat.le_of_ble_eq_true rfl)⟩ ⟨Nat.le_of_ble_eq_true rfl, Nat.le_of_ble_eq_true rfl, (by show _ + (0 : Nat) ≤ (601024 : Nat); omega), (by show _ + (0 : Nat) ≤ (7293033 : Nat); omega)⟩ (Nat.le_of_ble_eq_true rfl) (fun r1 w1 s1 q => ?_) (fun _ _ _ q => False.elim q)
      obtain ⟨rfl, rfl, rfl⟩ := q
      refine V_k (kc' := kc) (ks' := ks) rfl rfl rfl ?_
      refine V_w (zWl_q (kd := kd') (n := n') (t := t') (zz := zz') (ch := ch') (md := md') (tc := tc') (tg := tg') (pt := pt') (L := L') (th := 0) (kd2 := kd') (n2 := n') (t2 := t') (tc2 := tc') (ch2 := ch') (md2 := md') (R := R') (o := (zu o 0 v)) (w := w)).symm ?_
      refine V_istore d_law_452 (by decide) ?_
      refine V_aload_n d_law_454 rfl ?_
      refine V_w zWl_q ?_
      refine V_callV (n := 0) d_law_455 g_Law_72 rfl zqs_o rfl (r_thrown G sz (B + 186) 0 kd' n' t' tc' ch' md' R' (zsys G B kd' n' t' zz' ch' md' tc' tg' pt' L' (zset w (B + 204) (zro G 1 (zu o 0 v))))) ⟨co_Ref_thrown, by decide +kernel, (Nat.le_of_ble_eq_true rfl)⟩ ⟨Nat.le_of_ble_eq_true rfl, Nat.le_of_ble_eq_true rfl, (by show _ + (0 : Nat) ≤ (601024 : Nat); omega), (by show _ + (0 : Nat) ≤ (7293033 : Nat); omega)⟩ (Nat.le_of_ble_eq_true rfl) (fun r1 w1 s1 q => ?_) (fun _ _ _ q => False.elim q)
      obtain ⟨rfl, rfl, rfl⟩ := q
      refine V_k (kc' := kc) (ks' := ks) rfl rfl rfl ?_
      refine V_w zWl_q.symm ?_
      refine V_iload d_law_458 rfl ?_
      refine J_icmp_eq 465 d_law_460 (by decide) (by decide) (by decide) (fun c_460 => ?_) (fun c_460 => absurd rfl c_460)
      refine V_iload d_law_465 rfl ?_
      refine J_if_ne 482 d_law_467 (by decide) (by decide) (fun c_467 => absurd rfl c_467) (fun c_467 => ?_)
      refine V_aload_n d_law_470 rfl ?_
      refine V_iconst d_law_471 ?_
      refine J_laload d_law_472 zWl_D (by decide) (by decide) ?_
      refine V_iload d_law_473 rfl ?_
      refine J_i2l d_law_475 hv ?_
      rw [zu_s]
      refine JL_eq 482 d_law_476 d_law_477 (by decide) (by omega) (by omega) (fun c_476 => ?_) (fun c_476 => absurd rfl c_476)
      refine V_goto 1182 d_law_482 (by decide) ?_
      refine J_iinc d_law_1182 rfl (by decide) ?_
      refine V_goto 23 d_law_1185 (by decide) ?_
      refine V_lo (lo' := zloc G B (i + 5)) [0, 1, 2, 3, 4] rfl ?_
      exact hq _ _ _ _ _ _ _ _ _ _ _ _ _ _ _ _ _ (by omega) (by omega) hI
  · skip
    rcases p_batch G B kd n t zz ch md tc tg pt L R nn h (zsx G (i + 1)) 1 (by decide) (zsx_b G _) with ⟨e, cd, hx, hc, hr⟩ | ⟨v, kd', n', t', zz', ch', md', tc', tg', pt', L', R', nn', hv, hI, hc, hr⟩
    · simp only [List.mem_cons, Prod.mk.injEq, List.not_mem_nil, or_false] at hx
      rcases hx with ⟨rfl, rfl⟩
      · skip
        refine V_aload_n d_law_401 rfl ?_
        refine V_aload_n d_law_402 rfl ?_
        refine V_iload d_law_403 rfl ?_
        refine V_iconst d_law_405 ?_
        refine J_iadd d_law_406 ?_
        refine V_sld (j := i + 1) d_law_407 rfl (by omega) hL ?_
        refine V_aload_n d_law_408 rfl ?_
        refine V_iload d_law_409 rfl ?_
        refine V_iconst d_law_411 ?_
        refine J_iadd d_law_412 ?_
        refine V_sld (j := i + 2) d_law_413 rfl (by omega) hL ?_
        refine J_if_eq 421 d_law_414 (by decide) (zsx_b G _) (fun c_414 => absurd c_414 hz) (fun c_414 => ?_)
        refine V_iconst d_law_417 ?_
        refine V_goto 422 d_law_418 (by decide) ?_
        refine V_aload_n d_law_422 rfl ?_
        refine V_callS (n := 4) d_law_423 g_Law_91 rfl (w_batch_1 G sz B (B + 204) _ (Int32.ofInt (zsx G (i + 1))) (Int32.ofInt ((1 : Nat) : Int)) zsys_x0 (hc sz (zqs G (B + 186) th kd n t tc ch md R (zset w (B + 204) (zro G 1 o))))) ⟨co_Law_batch, by decide +kernel, (Nat.le_of_ble_eq_true rfl)⟩ ⟨Nat.le_of_ble_eq_true rfl, Nat.le_of_ble_eq_true rfl, (by show _ + (1 : Nat) ≤ (601024 : Nat); omega), (by show _ + (6 : Nat) ≤ (7293033 : Nat); omega)⟩ (Nat.le_of_ble_eq_true rfl) (fun r1 w1 s1 q => ?_) (fun _ _ _ q => by cases q.1)
        obtain ⟨q1, q2, q3⟩ := q
        cases q1
        subst q2
        subst q3
        refine V_k (kc' := kc + 1) (ks' := ks + 6) rfl rfl rfl ?_
        refine V_istore d_law_426 (by decide) ?_
        refine V_aload_n d_law_428 rfl ?_
        refine V_aload_n d_law_429 rfl ?_
        refine V_iload d_law_430 rfl ?_
        refine V_iconst d_law_432 ?_
        refine J_iadd d_law_433 ?_
        refine V_sld (j := i + 1) d_law_434 rfl (by omega) hL ?_
        refine V_aload_n d_law_435 rfl ?_
        refine V_iload d_law_436 rfl ?_
        refine V_iconst d_law_438 ?_
        refine J_iadd d_law_439 ?_
        refine V_sld (j := i + 2) d_law_440 rfl (by omega) hL ?_
        refine J_if_eq 448 d_law_441 (by decide) (zsx_b G _) (fun c_441 => absurd c_441 hz) (fun c_441 => ?_)
        refine V_iconst d_law_444 ?_
        refine V_goto 449 d_law_445 (by decide) ?_
        refine V_w zWl_q ?_
        refine V_callV (n := 2) d_law_449 g_Law_94 rfl zqs_o rfl (hr (B + 186) th (sz + 1) (zsys G B kd n t zz ch md tc tg pt L (zset w (B + 204) (zro G 1 o)))) ⟨co_Ref_batch, by decide +kernel, (Nat.le_of_ble_eq_true rfl)⟩ ⟨Nat.le_of_ble_eq_true rfl, Nat.le_of_ble_eq_true rfl, (by show _ + (0 : Nat) ≤ (601024 : Nat); omega), (by show _ + (0 : Nat) ≤ (7293033 : Nat); omega)⟩ (Nat.le_of_ble_eq_true rfl) (fun r1 w1 s1 q => ?_) (fun _ _ _ q => False.elim q)
        obtain ⟨rfl, rfl, rfl⟩ := q
        refine V_k (kc' := kc + 1) (ks' := ks + 6) rfl rfl rfl ?_
        refine V_w (zWl_q (kd := kd) (n := n) (t := t) (zz := zz) (ch := ch) (md := md) (tc := tc) (tg := tg) (pt := pt) (L := L) (th := 1) (kd2 := kd) (n2 := n) (t2 := t) (tc2 := tc) (ch2 := ch) (md2 := md) (R := R) (o := o) (w := w)).symm ?_
        refine V_istore d_law_452 (by decide) ?_
        refine V_aload_n d_law_454 rfl ?_
        refine V_w zWl_q ?_
        refine V_callV (n := 0) d_law_455 g_Law_72 rfl zqs_o rfl (r_thrown G (sz + 1) (B + 186) 1 kd n t tc ch md R (zsys G B kd n t zz ch md tc tg pt L (zset w (B + 204) (zro G 1 o)))) ⟨co_Ref_thrown, by decide +kernel, (Nat.le_of_ble_eq_true rfl)⟩ ⟨Nat.le_of_ble_eq_true rfl, Nat.le_of_ble_eq_true rfl, (by show _ + (0 : Nat) ≤ (601024 : Nat); omega), (by show _ + (0 : Nat) ≤ (7293033 : Nat); omega)⟩ (Nat.le_of_ble_eq_true rfl) (fun r1 w1 s1 q => ?_) (fun _ _ _ q => False.elim q)
        obtain ⟨rfl, rfl, rfl⟩ := q
        refine V_k (kc' := kc + 1) (ks' := ks + 6) rfl rfl rfl ?_
        refine V_w zWl_q.symm ?_
        refine V_iload d_law_458 rfl ?_
        refine J_icmp_eq 465 d_law_460 (by decide) (by decide) (by decide) (fun c_460 => ?_) (fun c_460 => absurd rfl c_460)
        refine V_iload d_law_465 rfl ?_
        refine J_if_ne 482 d_law_467 (by decide) (by decide) (fun c_467 => ?_) (fun c_467 => absurd c_467 (by decide))
        refine V_goto 1182 d_law_482 (by decide) ?_
        refine J_iinc d_law_1182 rfl (by decide) ?_
        refine V_goto 23 d_law_1185 (by decide) ?_
        refine V_lo (lo' := zloc G B (i + 5)) [0, 1, 2, 3, 4] rfl ?_
        exact hq _ _ _ _ _ _ _ _ _ _ _ _ _ _ _ _ _ (by omega) (by omega) h
    · skip
      refine V_aload_n d_law_401 rfl ?_
      refine V_aload_n d_law_402 rfl ?_
      refine V_iload d_law_403 rfl ?_
      refine V_iconst d_law_405 ?_
      refine J_iadd d_law_406 ?_
      refine V_sld (j := i + 1) d_law_407 rfl (by omega) hL ?_
      refine V_aload_n d_law_408 rfl ?_
      refine V_iload d_law_409 rfl ?_
      refine V_iconst d_law_411 ?_
      refine J_iadd d_law_412 ?_
      refine V_sld (j := i + 2) d_law_413 rfl (by omega) hL ?_
      refine J_if_eq 421 d_law_414 (by decide) (zsx_b G _) (fun c_414 => absurd c_414 hz) (fun c_414 => ?_)
      refine V_iconst d_law_417 ?_
      refine V_goto 422 d_law_418 (by decide) ?_
      refine V_aload_n d_law_422 rfl ?_
      refine V_callS (n := 4) d_law_423 g_Law_91 rfl (w_batch_0 G sz B (B + 204) _ (zWl G B kd' n' t' zz' ch' md' tc' tg' pt' L' th kd n t tc ch md R o w) (Int32.ofInt (zsx G (i + 1))) (Int32.ofInt ((1 : Nat) : Int)) v o zsys_x0 zWl_D hv (hc sz (zqs G (B + 186) th kd n t tc ch md R (zset w (B + 204) (zro G 1 o))))) ⟨co_Law_batch, by decide +kernel, (Nat.le_of_ble_eq_true rfl)⟩ ⟨Nat.le_of_ble_eq_true rfl, Nat.le_of_ble_eq_true rfl, (by show _ + (1 : Nat) ≤ (601024 : Nat); omega), (by show _ + (6 : Nat) ≤ (7293033 : Nat); omega)⟩ (Nat.le_of_ble_eq_true rfl) (fun r1 w1 s1 q => ?_) (fun _ _ _ q => by exact False.elim q)
      obtain ⟨rfl, rfl, rfl⟩ := q
      refine V_w zWl_out ?_
      refine V_k (kc' := kc) (ks' := ks) rfl rfl rfl ?_
      refine V_istore d_law_426 (by decide) ?_
      refine V_aload_n d_law_428 rfl ?_
      refine V_aload_n d_law_429 rfl ?_
      refine V_iload d_law_430 rfl ?_
      refine V_iconst d_law_432 ?_
      refine J_iadd d_law_433 ?_
      refine V_sld (j := i + 1) d_law_434 rfl (by omega) hL ?_
      refine V_aload_n d_law_435 rfl ?_
      refine V_iload d_law_436 rfl ?_
      refine V_iconst d_law_438 ?_
      refine J_iadd d_law_439 ?_
      refine V_sld (j := i + 2) d_law_440 rfl (by omega) hL ?_
      refine J_if_eq 448 d_law_441 (by decide) (zsx_b G _) (fun c_441 => absurd c_441 hz) (fun c_441 => ?_)
      refine V_iconst d_law_444 ?_
      refine V_goto 449 d_law_445 (by decide) ?_
      refine V_w zWl_q ?_
      refine V_callV (n := 2) d_law_449 g_Law_94 rfl zqs_o rfl (hr (B + 186) th sz (zsys G B kd' n' t' zz' ch' md' tc' tg' pt' L' (zset w (B + 204) (zro G 1 (zu o 0 v))))) ⟨co_Ref_batch, by decide +kernel, (Nat.le_of_ble_eq_true rfl)⟩ ⟨Nat.le_of_ble_eq_true rfl, Nat.le_of_ble_eq_true rfl, (by show _ + (0 : Nat) ≤ (601024 : Nat); omega), (by show _ + (0 : Nat) ≤ (7293033 : Nat); omega)⟩ (Nat.le_of_ble_eq_true rfl) (fun r1 w1 s1 q => ?_) (fun _ _ _ q => False.elim q)
      obtain ⟨rfl, rfl, rfl⟩ := q
      refine V_k (kc' := kc) (ks' := ks) rfl rfl rfl ?_
      refine V_w (zWl_q (kd := kd') (n := n') (t := t') (zz := zz') (ch := ch') (md := md') (tc := tc') (tg := tg') (pt := pt') (L := L') (th := 0) (kd2 := kd') (n2 := n') (t2 := t') (tc2 := tc') (ch2 := ch') (md2 := md') (R := R') (o := (zu o 0 v)) (w := w)).symm ?_
      refine V_istore d_law_452 (by decide) ?_
      refine V_aload_n d_law_454 rfl ?_
      refine V_w zWl_q ?_
      refine V_callV (n := 0) d_law_455 g_Law_72 rfl zqs_o rfl (r_thrown G sz (B + 186) 0 kd' n' t' tc' ch' md' R' (zsys G B kd' n' t' zz' ch' md' tc' tg' pt' L' (zset w (B + 204) (zro G 1 (zu o 0 v))))) ⟨co_Ref_thrown, by decide +kernel, (Nat.le_of_ble_eq_true rfl)⟩ ⟨Nat.le_of_ble_eq_true rfl, Nat.le_of_ble_eq_true rfl, (by show _ + (0 : Nat) ≤ (601024 : Nat); omega), (by show _ + (0 : Nat) ≤ (7293033 : Nat); omega)⟩ (Nat.le_of_ble_eq_true rfl) (fun r1 w1 s1 q => ?_) (fun _ _ _ q => False.elim q)
      obtain ⟨rfl, rfl, rfl⟩ := q
      refine V_k (kc' := kc) (ks' := ks) rfl rfl rfl ?_
      refine V_w zWl_q.symm ?_
      refine V_iload d_law_458 rfl ?_
      refine J_icmp_eq 465 d_law_460 (by decide) (by decide) (by decide) (fun c_460 => ?_) (fun c_460 => absurd rfl c_460)
      refine V_iload d_law_465 rfl ?_
      refine J_if_ne 482 d_law_467 (by decide) (by decide) (fun c_467 => absurd rfl c_467) (fun c_467 => ?_)
      refine V_aload_n d_law_470 rfl ?_
      refine V_iconst d_law_471 ?_
      refine J_laload d_law_472 zWl_D (by decide) (by decide) ?_
      refine V_iload d_law_473 rfl ?_
      refine J_i2l d_law_475 hv ?_
      rw [zu_s]
      refine JL_eq 482 d_law_476 d_law_477 (by decide) (by omega) (by omega) (fun c_476 => ?_) (fun c_476 => absurd rfl c_476)
      refine V_goto 1182 d_law_482 (by decide) ?_
      refine J_iinc d_law_1182 rfl (by decide) ?_
      refine V_goto 23 d_law_1185 (by decide) ?_
      refine V_lo (lo' := zloc G B (i + 5)) [0, 1, 2, 3, 4] rfl ?_
      exact hq _ _ _ _ _ _ _ _ _ _ _ _ _ _ _ _ _ (by omega) (by omega) hI

set_option maxRecDepth 100000 in
set_option maxHeartbeats 4000000 in
theorem l_seal (G : zG) (B : Nat) (w : zW) (hL : G.2.2.2 100001 ≤ 2560) (i : Nat) (hi : i + 5 ≤ G.2.2.2 100001) (hq : zQl G B w (i + 5)) (kc ks sz : Nat) (kd n t zz : Int) (ch : Int32) (md tc : Int) (tg pt : Nat → Int) (L R : Nat → Int → Int) (nn : Nat) (th : Int) (o : Int → Int) (hkc : kc ≤ 1000 + i) (hks : ks ≤ 100000 + 6 * i) (h : zI kd n t zz md tc tg pt L R nn) : V G M_law zKl room_1 kc ks sz 485 (zloc G B i) [] (zWl G B kd n t zz ch md tc tg pt L th kd n t tc ch md R o w) := by
  rcases p_seal G B kd n t zz ch md tc tg pt L R nn h (zsx G (i + 1)) (zsx G (i + 2)) (zsx_b G _) (zsx_b G _) with ⟨e, cd, hx, hc, hr⟩ | ⟨v, kd', n', t', zz', ch', md', tc', tg', pt', L', R', nn', hv, hI, hc, hr⟩
  · simp only [List.mem_cons, Prod.mk.injEq, List.not_mem_nil, or_false] at hx
    rcases hx with ⟨rfl, rfl⟩ | ⟨rfl, rfl⟩
    · skip
      refine V_aload_n d_law_485 rfl ?_
      refine V_aload_n d_law_486 rfl ?_
      refine V_iload d_law_487 rfl ?_
      refine V_iconst d_law_489 ?_
      refine J_iadd d_law_490 ?_
      refine V_sld (j := i + 1) d_law_491 rfl (by omega) hL ?_
      refine V_aload_n d_law_492 rfl ?_
      refine V_iload d_law_493 rfl ?_
      refine V_iconst d_law_495 ?_
      refine J_iadd d_law_496 ?_
      refine V_sld (j := i + 2) d_law_497 rfl (by omega) hL ?_
      refine V_aload_n d_law_498 rfl ?_
      refine V_callS (n := 4) d_law_499 g_Law_95 rfl (w_seal_1 G sz B (B + 204) _ (Int32.ofInt (zsx G (i + 1))) (Int32.ofInt (zsx G (i + 2))) zsys_x0 (hc sz (zqs G (B + 186) th kd n t tc ch md R (zset w (B + 204) (zro G 1 o))))) ⟨co_Law_seal, by decide +kernel, (Nat.le_of_ble_eq_true rfl)⟩ ⟨Nat.le_of_ble_eq_true rfl, Nat.le_of_ble_eq_true rfl, (by show _ + (1 : Nat) ≤ (601024 : Nat); omega), (by show _ + (6 : Nat) ≤ (7293033 : Nat); omega)⟩ (Nat.le_of_ble_eq_true rfl) (fun r1 w1 s1 q => ?_) (fun _ _ _ q => by cases q.1)
      obtain ⟨q1, q2, q3⟩ := q
      cases q1
      subst q2
      subst q3
      refine V_k (kc' := kc + 1) (ks' := ks + 6) rfl rfl rfl ?_
      refine V_istore d_law_502 (by decide) ?_
      refine V_aload_n d_law_504 rfl ?_
      refine V_aload_n d_law_505 rfl ?_
      refine V_iload d_law_506 rfl ?_
      refine V_iconst d_law_508 ?_
      refine J_iadd d_law_509 ?_
      refine V_sld (j := i + 1) d_law_510 rfl (by omega) hL ?_
      refine V_aload_n d_law_511 rfl ?_
      refine V_iload d_law_512 rfl ?_
      refine V_iconst d_law_514 ?_
      refine J_iadd d_law_515 ?_
      refine V_sld (j := i + 2) d_law_516 rfl (by omega) hL ?_
      refine V_w zWl_q ?_
      refine V_callV (n := 2) d_law_517 g_Law_97 rfl zqs_o rfl (hr (B + 186) th (sz + 1) (zsys G B kd n t zz ch md tc tg pt L (zset w (B + 204) (zro G 1 o)))) ⟨co_Ref_seal, by decide +kernel, (Nat.le_of_ble_eq_true rfl)⟩ ⟨Nat.le_of_ble_eq_true rfl, Nat.le_of_ble_eq_true rfl, (by show _ + (0 : Nat) ≤ (601024 : Nat); omega), (by show _ + (0 : Nat) ≤ (7293033 : Nat); omega)⟩ (Nat.le_of_ble_eq_true rfl) (fun r1 w1 s1 q => ?_) (fun _ _ _ q => False.elim q)
      obtain ⟨rfl, rfl, rfl⟩ := q
      refine V_k (kc' := kc + 1) (ks' := ks + 6) rfl rfl rfl ?_
      refine V_w (zWl_q (kd := kd) (n := n) (t := t) (zz := zz) (ch := ch) (md := md) (tc := tc) (tg := tg) (pt := pt) (L := L) (th := 1) (kd2 := kd) (n2 := n) (t2 := t) (tc2 := tc) (ch2 := ch) (md2 := md) (R := R) (o := o) (w := w)).symm ?_
      refine V_istore d_law_520 (by decide) ?_
      refine V_aload_n d_law_522 rfl ?_
      refine V_w zWl_q ?_
      refine V_callV (n := 0) d_law_523 g_Law_72 rfl zqs_o rfl (r_thrown G (sz + 1) (B + 186) 1 kd n t tc ch md R (zsys G B kd n t zz ch md tc tg pt L (zset w (B + 204) (zro G 1 o)))) ⟨co_Ref_thrown, by decide +kernel, (Nat.le_of_ble_eq_true rfl)⟩ ⟨Nat.le_of_ble_eq_true rfl, Nat.le_of_ble_eq_true rfl, (by show _ + (0 : Nat) ≤ (601024 : Nat); omega), (by show _ + (0 : Nat) ≤ (7293033 : Nat); omega)⟩ (Nat.le_of_ble_eq_true rfl) (fun r1 w1 s1 q => ?_) (fun _ _ _ q => False.elim q)
      obtain ⟨rfl, rfl, rfl⟩ := q
      refine V_k (kc' := kc + 1) (ks' := ks + 6) rfl rfl rfl ?_
      refine V_w zWl_q.symm ?_
      refine V_iload d_law_526 rfl ?_
      refine J_icmp_eq 533 d_law_528 (by decide) (by decide) (by decide) (fun c_528 => ?_) (fun c_528 => absurd rfl c_528)
      refine V_iload d_law_533 rfl ?_
      refine J_if_ne 550 d_law_535 (by decide) (by decide) (fun c_535 => ?_) (fun c_535 => absurd c_535 (by decide))
      refine V_goto 1182 d_law_550 (by decide) ?_
      refine J_iinc d_law_1182 rfl (by decide) ?_
      refine V_goto 23 d_law_1185 (by decide) ?_
      refine V_lo (lo' := zloc G B (i + 5)) [0, 1, 2, 3, 4] rfl ?_
      exact hq _ _ _ _ _ _ _ _ _ _ _ _ _ _ _ _ _ (by omega) (by omega) h
    · skip
      refine V_aload_n d_law_485 rfl ?_
      refine V_aload_n d_law_486 rfl ?_
      refine V_iload d_law_487 rfl ?_
      refine V_iconst d_law_489 ?_
      refine J_iadd d_law_490 ?_
      refine V_sld (j := i + 1) d_law_491 rfl (by omega) hL ?_
      refine V_aload_n d_law_492 rfl ?_
      refine V_iload d_law_493 rfl ?_
      refine V_iconst d_law_495 ?_
      refine J_iadd d_law_496 ?_
      refine V_sld (j := i + 2) d_law_497 rfl (by omega) hL ?_
      refine V_aload_n d_law_498 rfl ?_
      refine V_callS (n := 4) d_law_499 g_Law_95 rfl (w_seal_2 G sz B (B + 204) _ (Int32.ofInt (zsx G (i + 1))) (Int32.ofInt (zsx G (i + 2))) zsys_x0 (hc sz (zqs G (B + 186) th kd n t tc ch md R (zset w (B + 204) (zro G 1 o))))) ⟨co_Law_seal, by decide +kernel, (Nat.le_of_ble_eq_true rfl)⟩ ⟨Nat.le_of_ble_eq_true rfl, Nat.le_of_ble_eq_true rfl, (by show _ + (1 : Nat) ≤ (601024 : Nat); omega), (by show _ + (6 : Nat) ≤ (7293033 : Nat); omega)⟩ (Nat.le_of_ble_eq_true rfl) (fun r1 w1 s1 q => ?_) (fun _ _ _ q => by cases q.1)
      obtain ⟨q1, q2, q3⟩ := q
      cases q1
      subst q2
      subst q3
      refine V_k (kc' := kc + 1) (ks' := ks + 6) rfl rfl rfl ?_
      refine V_istore d_law_502 (by decide) ?_
      refine V_aload_n d_law_504 rfl ?_
      refine V_aload_n d_law_505 rfl ?_
      refine V_iload d_law_506 rfl ?_
      refine V_iconst d_law_508 ?_
      refine J_iadd d_law_509 ?_
      refine V_sld (j := i + 1) d_law_510 rfl (by omega) hL ?_
      refine V_aload_n d_law_511 rfl ?_
      refine V_iload d_law_512 rfl ?_
      refine V_iconst d_law_514 ?_
      refine J_iadd d_law_515 ?_
      refine V_sld (j := i + 2) d_law_516 rfl (by omega) hL ?_
      refine V_w zWl_q ?_
      refine V_callV (n := 2) d_law_517 g_Law_97 rfl zqs_o rfl (hr (B + 186) th (sz + 1) (zsys G B kd n t zz ch md tc tg pt L (zset w (B + 204) (zro G 1 o)))) ⟨co_Ref_seal, by decide +kernel, (Nat.le_of_ble_eq_true rfl)⟩ ⟨Nat.le_of_ble_eq_true rfl, Nat.le_of_ble_eq_true rfl, (by show _ + (0 : Nat) ≤ (601024 : Nat); omega), (by show _ + (0 : Nat) ≤ (7293033 : Nat); omega)⟩ (Nat.le_of_ble_eq_true rfl) (fun r1 w1 s1 q => ?_) (fun _ _ _ q => False.elim q)
      obtain ⟨rfl, rfl, rfl⟩ := q
      refine V_k (kc' := kc + 1) (ks' := ks + 6) rfl rfl rfl ?_
      refine V_w (zWl_q (kd := kd) (n := n) (t := t) (zz := zz) (ch := ch) (md := md) (tc := tc) (tg := tg) (pt := pt) (L := L) (th := 2) (kd2 := kd) (n2 := n) (t2 := t) (tc2 := tc) (ch2 := ch) (md2 := md) (R := R) (o := o) (w := w)).symm ?_
      refine V_istore d_law_520 (by decide) ?_
      refine V_aload_n d_law_522 rfl ?_
      refine V_w zWl_q ?_
      refine V_callV (n := 0) d_law_523 g_Law_72 rfl zqs_o rfl (r_thrown G (sz + 1) (B + 186) 2 kd n t tc ch md R (zsys G B kd n t zz ch md tc tg pt L (zset w (B + 204) (zro G 1 o)))) ⟨co_Ref_thrown, by decide +kernel, (Nat.le_of_ble_eq_true rfl)⟩ ⟨Nat.le_of_ble_eq_true rfl, Nat.le_of_ble_eq_true rfl, (by show _ + (0 : Nat) ≤ (601024 : Nat); omega), (by show _ + (0 : Nat) ≤ (7293033 : Nat); omega)⟩ (Nat.le_of_ble_eq_true rfl) (fun r1 w1 s1 q => ?_) (fun _ _ _ q => False.elim q)
      obtain ⟨rfl, rfl, rfl⟩ := q
      refine V_k (kc' := kc + 1) (ks' := ks + 6) rfl rfl rfl ?_
      refine V_w zWl_q.symm ?_
      refine V_iload d_law_526 rfl ?_
      refine J_icmp_eq 533 d_law_528 (by decide) (by decide) (by decide) (fun c_528 => ?_) (fun c_528 => absurd rfl c_528)
      refine V_iload d_law_533 rfl ?_
      refine J_if_ne 550 d_law_535 (by decide) (by decide) (fun c_535 => ?_) (fun c_535 => absurd c_535 (by decide))
      refine V_goto 1182 d_law_550 (by decide) ?_
      refine J_iinc d_law_1182 rfl (by decide) ?_
      refine V_goto 23 d_law_1185 (by decide) ?_
      refine V_lo (lo' := zloc G B (i + 5)) [0, 1, 2, 3, 4] rfl ?_
      exact hq _ _ _ _ _ _ _ _ _ _ _ _ _ _ _ _ _ (by omega) (by omega) h
  · skip
    refine V_aload_n d_law_485 rfl ?_
    refine V_aload_n d_law_486 rfl ?_
    refine V_iload d_law_487 rfl ?_
    refine V_iconst d_law_489 ?_
    refine J_iadd d_law_490 ?_
    refine V_sld (j := i + 1) d_law_491 rfl (by omega) hL ?_
    refine V_aload_n d_law_492 rfl ?_
    refine V_iload d_law_493 rfl ?_
    refine V_iconst d_law_495 ?_
    refine J_iadd d_law_496 ?_
    refine V_sld (j := i + 2) d_law_497 rfl (by omega) hL ?_
    refine V_aload_n d_law_498 rfl ?_
    refine V_callS (n := 4) d_law_499 g_Law_95 rfl (w_seal_0 G sz B (B + 204) _ (zWl G B kd' n' t' zz' ch' md' tc' tg' pt' L' th kd n t tc ch md R o w) (Int32.ofInt (zsx G (i + 1))) (Int32.ofInt (zsx G (i + 2))) v o zsys_x0 zWl_D hv (hc sz (zqs G (B + 186) th kd n t tc ch md R (zset w (B + 204) (zro G 1 o))))) ⟨co_Law_seal, by decide +kernel, (Nat.le_of_ble_eq_true rfl)⟩ ⟨Nat.le_of_ble_eq_true rfl, Nat.le_of_ble_eq_true rfl, (by show _ + (1 : Nat) ≤ (601024 : Nat); omega), (by show _ + (6 : Nat) ≤ (7293033 : Nat); omega)⟩ (Nat.le_of_ble_eq_true rfl) (fun r1 w1 s1 q => ?_) (fun _ _ _ q => by exact False.elim q)
    obtain ⟨rfl, rfl, rfl⟩ := q
    refine V_w zWl_out ?_
    refine V_k (kc' := kc) (ks' := ks) rfl rfl rfl ?_
    refine V_istore d_law_502 (by decide) ?_
    refine V_aload_n d_law_504 rfl ?_
    refine V_aload_n d_law_505 rfl ?_
    refine V_iload d_law_506 rfl ?_
    refine V_iconst d_law_508 ?_
    refine J_iadd d_law_509 ?_
    refine V_sld (j := i + 1) d_law_510 rfl (by omega) hL ?_
    refine V_aload_n d_law_511 rfl ?_
    refine V_iload d_law_512 rfl ?_
    refine V_iconst d_law_514 ?_
    refine J_iadd d_law_515 ?_
    refine V_sld (j := i + 2) d_law_516 rfl (by omega) hL ?_
    refine V_w zWl_q ?_
    refine V_callV (n := 2) d_law_517 g_Law_97 rfl zqs_o rfl (hr (B + 186) th sz (zsys G B kd' n' t' zz' ch' md' tc' tg' pt' L' (zset w (B + 204) (zro G 1 (zu o 0 v))))) ⟨co_Ref_seal, by decide +kernel, (Nat.le_of_ble_eq_true rfl)⟩ ⟨Nat.le_of_ble_eq_true rfl, Nat.le_of_ble_eq_true rfl, (by show _ + (0 : Nat) ≤ (601024 : Nat); omega), (by show _ + (0 : Nat) ≤ (7293033 : Nat); omega)⟩ (Nat.le_of_ble_eq_true rfl) (fun r1 w1 s1 q => ?_) (fun _ _ _ q => False.elim q)
    obtain ⟨rfl, rfl, rfl⟩ := q
    refine V_k (kc' := kc) (ks' := ks) rfl rfl rfl ?_
    refine V_w (zWl_q (kd := kd') (n := n') (t := t') (zz := zz') (ch := ch') (md := md') (tc := tc') (tg := tg') (pt := pt') (L := L') (th := 0) (kd2 := kd') (n2 := n') (t2 := t') (tc2 := tc') (ch2 := ch') (md2 := md') (R := R') (o := (zu o 0 v)) (w := w)).symm ?_
    refine V_istore d_law_520 (by decide) ?_
    refine V_aload_n d_law_522 rfl ?_
    refine V_w zWl_q ?_
    refine V_callV (n := 0) d_law_523 g_Law_72 rfl zqs_o rfl (r_thrown G sz (B + 186) 0 kd' n' t' tc' ch' md' R' (zsys G B kd' n' t' zz' ch' md' tc' tg' pt' L' (zset w (B + 204) (zro G 1 (zu o 0 v))))) ⟨co_Ref_thrown, by decide +kernel, (Nat.le_of_ble_eq_true rfl)⟩ ⟨Nat.le_of_ble_eq_true rfl, Nat.le_of_ble_eq_true rfl, (by show _ + (0 : Nat) ≤ (601024 : Nat); omega), (by show _ + (0 : Nat) ≤ (7293033 : Nat); omega)⟩ (Nat.le_of_ble_eq_true rfl) (fun r1 w1 s1 q => ?_) (fun _ _ _ q => False.elim q)
    obtain ⟨rfl, rfl, rfl⟩ := q
    refine V_k (kc' := kc) (ks' := ks) rfl rfl rfl ?_
    refine V_w zWl_q.symm ?_
    refine V_iload d_law_526 rfl ?_
    refine J_icmp_eq 533 d_law_528 (by decide) (by decide) (by decide) (fun c_528 => ?_) (fun c_528 => absurd rfl c_528)
    refine V_iload d_law_533 rfl ?_
    refine J_if_ne 550 d_law_535 (by decide) (by decide) (fun c_535 => absurd rfl c_535) (fun c_535 => ?_)
    refine V_aload_n d_law_538 rfl ?_
    refine V_iconst d_law_539 ?_
    refine J_laload d_law_540 zWl_D (by decide) (by decide) ?_
    refine V_iload d_law_541 rfl ?_
    refine J_i2l d_law_543 hv ?_
    rw [zu_s]
    refine JL_eq 550 d_law_544 d_law_545 (by decide) (by omega) (by omega) (fun c_544 => ?_) (fun c_544 => absurd rfl c_544)
    refine V_goto 1182 d_law_550 (by decide) ?_
    refine J_iinc d_law_1182 rfl (by decide) ?_
    refine V_goto 23 d_law_1185 (by decide) ?_
    refine V_lo (lo' := zloc G B (i + 5)) [0, 1, 2, 3, 4] rfl ?_
    exact hq _ _ _ _ _ _ _ _ _ _ _ _ _ _ _ _ _ (by omega) (by omega) hI

set_option maxRecDepth 100000 in
set_option maxHeartbeats 4000000 in
theorem l_open (G : zG) (B : Nat) (w : zW) (hL : G.2.2.2 100001 ≤ 2560) (i : Nat) (hi : i + 5 ≤ G.2.2.2 100001) (hq : zQl G B w (i + 5)) (kc ks sz : Nat) (kd n t zz : Int) (ch : Int32) (md tc : Int) (tg pt : Nat → Int) (L R : Nat → Int → Int) (nn : Nat) (th : Int) (o : Int → Int) (hkc : kc ≤ 1000 + i) (hks : ks ≤ 100000 + 6 * i) (h : zI kd n t zz md tc tg pt L R nn) : V G M_law zKl room_1 kc ks sz 553 (zloc G B i) [] (zWl G B kd n t zz ch md tc tg pt L th kd n t tc ch md R o w) := by
  rcases p_open G B kd n t zz ch md tc tg pt L R nn h (zsx G (i + 1)) (zsx G (i + 2)) (zsx_b G _) (zsx_b G _) with ⟨e, cd, hx, hc, hr⟩ | ⟨v, kd', n', t', zz', ch', md', tc', tg', pt', L', R', nn', hv, hI, hc, hr⟩
  · simp only [List.mem_cons, Prod.mk.injEq, List.not_mem_nil, or_false] at hx
    rcases hx with ⟨rfl, rfl⟩
    · skip
      refine V_aload_n d_law_553 rfl ?_
      refine V_aload_n d_law_554 rfl ?_
      refine V_iload d_law_555 rfl ?_
      refine V_iconst d_law_557 ?_
      refine J_iadd d_law_558 ?_
      refine V_sld (j := i + 1) d_law_559 rfl (by omega) hL ?_
      refine V_aload_n d_law_560 rfl ?_
      refine V_iload d_law_561 rfl ?_
      refine V_iconst d_law_563 ?_
      refine J_iadd d_law_564 ?_
      refine V_sld (j := i + 2) d_law_565 rfl (by omega) hL ?_
      refine V_aload_n d_law_566 rfl ?_
      refine V_callS (n := 4) d_law_567 g_Law_98 rfl (w_open_1 G sz B (B + 204) _ (Int32.ofInt (zsx G (i + 1))) (Int32.ofInt (zsx G (i + 2))) zsys_x0 (hc sz (zqs G (B + 186) th kd n t tc ch md R (zset w (B + 204) (zro G 1 o))))) ⟨co_Law_open, by decide +kernel, (Nat.le_of_ble_eq_true rfl)⟩ ⟨Nat.le_of_ble_eq_true rfl, Nat.le_of_ble_eq_true rfl, (by show _ + (1 : Nat) ≤ (601024 : Nat); omega), (by show _ + (6 : Nat) ≤ (7293033 : Nat); omega)⟩ (Nat.le_of_ble_eq_true rfl) (fun r1 w1 s1 q => ?_) (fun _ _ _ q => by cases q.1)
      obtain ⟨q1, q2, q3⟩ := q
      cases q1
      subst q2
      subst q3
      refine V_k (kc' := kc + 1) (ks' := ks + 6) rfl rfl rfl ?_
      refine V_istore d_law_570 (by decide) ?_
      refine V_aload_n d_law_572 rfl ?_
      refine V_aload_n d_law_573 rfl ?_
      refine V_iload d_law_574 rfl ?_
      refine V_iconst d_law_576 ?_
      refine J_iadd d_law_577 ?_
      refine V_sld (j := i + 1) d_law_578 rfl (by omega) hL ?_
      refine V_aload_n d_law_579 rfl ?_
      refine V_iload d_law_580 rfl ?_
      refine V_iconst d_law_582 ?_
      refine J_iadd d_law_583 ?_
      refine V_sld (j := i + 2) d_law_584 rfl (by omega) hL ?_
      refine V_w zWl_q ?_
      refine V_callV (n := 2) d_law_585 g_Law_100 rfl zqs_o rfl (hr (B + 186) th (sz + 1) (zsys G B kd n t zz ch md tc tg pt L (zset w (B + 204) (zro G 1 o)))) ⟨co_Ref_open, by decide +kernel, (Nat.le_of_ble_eq_true rfl)⟩ ⟨Nat.le_of_ble_eq_true rfl, Nat.le_of_ble_eq_true rfl, (by show _ + (0 : Nat) ≤ (601024 : Nat); omega), (by show _ + (0 : Nat) ≤ (7293033 : Nat); omega)⟩ (Nat.le_of_ble_eq_true rfl) (fun r1 w1 s1 q => ?_) (fun _ _ _ q => False.elim q)
      obtain ⟨rfl, rfl, rfl⟩ := q
      refine V_k (kc' := kc + 1) (ks' := ks + 6) rfl rfl rfl ?_
      refine V_w (zWl_q (kd := kd) (n := n) (t := t) (zz := zz) (ch := ch) (md := md) (tc := tc) (tg := tg) (pt := pt) (L := L) (th := 1) (kd2 := kd) (n2 := n) (t2 := t) (tc2 := tc) (ch2 := ch) (md2 := md) (R := R) (o := o) (w := w)).symm ?_
      refine V_istore d_law_588 (by decide) ?_
      refine V_aload_n d_law_590 rfl ?_
      refine V_w zWl_q ?_
      refine V_callV (n := 0) d_law_591 g_Law_72 rfl zqs_o rfl (r_thrown G (sz + 1) (B + 186) 1 kd n t tc ch md R (zsys G B kd n t zz ch md tc tg pt L (zset w (B + 204) (zro G 1 o)))) ⟨co_Ref_thrown, by decide +kernel, (Nat.le_of_ble_eq_true rfl)⟩ ⟨Nat.le_of_ble_eq_true rfl, Nat.le_of_ble_eq_true rfl, (by show _ + (0 : Nat) ≤ (601024 : Nat); omega), (by show _ + (0 : Nat) ≤ (7293033 : Nat); omega)⟩ (Nat.le_of_ble_eq_true rfl) (fun r1 w1 s1 q => ?_) (fun _ _ _ q => False.elim q)
      obtain ⟨rfl, rfl, rfl⟩ := q
      refine V_k (kc' := kc + 1) (ks' := ks + 6) rfl rfl rfl ?_
      refine V_w zWl_q.symm ?_
      refine V_iload d_law_594 rfl ?_
      refine J_icmp_eq 601 d_law_596 (by decide) (by decide) (by decide) (fun c_596 => ?_) (fun c_596 => absurd rfl c_596)
      refine V_iload d_law_601 rfl ?_
      refine J_if_ne 618 d_law_603 (by decide) (by decide) (fun c_603 => ?_) (fun c_603 => absurd c_603 (by decide))
      refine V_goto 1182 d_law_618 (by decide) ?_
      refine J_iinc d_law_1182 rfl (by decide) ?_
      refine V_goto 23 d_law_1185 (by decide) ?_
      refine V_lo (lo' := zloc G B (i + 5)) [0, 1, 2, 3, 4] rfl ?_
      exact hq _ _ _ _ _ _ _ _ _ _ _ _ _ _ _ _ _ (by omega) (by omega) h
  · skip
    refine V_aload_n d_law_553 rfl ?_
    refine V_aload_n d_law_554 rfl ?_
    refine V_iload d_law_555 rfl ?_
    refine V_iconst d_law_557 ?_
    refine J_iadd d_law_558 ?_
    refine V_sld (j := i + 1) d_law_559 rfl (by omega) hL ?_
    refine V_aload_n d_law_560 rfl ?_
    refine V_iload d_law_561 rfl ?_
    refine V_iconst d_law_563 ?_
    refine J_iadd d_law_564 ?_
    refine V_sld (j := i + 2) d_law_565 rfl (by omega) hL ?_
    refine V_aload_n d_law_566 rfl ?_
    refine V_callS (n := 4) d_law_567 g_Law_98 rfl (w_open_0 G sz B (B + 204) _ (zWl G B kd' n' t' zz' ch' md' tc' tg' pt' L' th kd n t tc ch md R o w) (Int32.ofInt (zsx G (i + 1))) (Int32.ofInt (zsx G (i + 2))) v o zsys_x0 zWl_D hv (hc sz (zqs G (B + 186) th kd n t tc ch md R (zset w (B + 204) (zro G 1 o))))) ⟨co_Law_open, by decide +kernel, (Nat.le_of_ble_eq_true rfl)⟩ ⟨Nat.le_of_ble_eq_true rfl, Nat.le_of_ble_eq_true rfl, (by show _ + (1 : Nat) ≤ (601024 : Nat); omega), (by show _ + (6 : Nat) ≤ (7293033 : Nat); omega)⟩ (Nat.le_of_ble_eq_true rfl) (fun r1 w1 s1 q => ?_) (fun _ _ _ q => by exact False.elim q)
    obtain ⟨rfl, rfl, rfl⟩ := q
    refine V_w zWl_out ?_
    refine V_k (kc' := kc) (ks' := ks) rfl rfl rfl ?_
    refine V_istore d_law_570 (by decide) ?_
    refine V_aload_n d_law_572 rfl ?_
    refine V_aload_n d_law_573 rfl ?_
    refine V_iload d_law_574 rfl ?_
    refine V_iconst d_law_576 ?_
    refine J_iadd d_law_577 ?_
    refine V_sld (j := i + 1) d_law_578 rfl (by omega) hL ?_
    refine V_aload_n d_law_579 rfl ?_
    refine V_iload d_law_580 rfl ?_
    refine V_iconst d_law_582 ?_
    refine J_iadd d_law_583 ?_
    refine V_sld (j := i + 2) d_law_584 rfl (by omega) hL ?_
    refine V_w zWl_q ?_
    refine V_callV (n := 2) d_law_585 g_Law_100 rfl zqs_o rfl (hr (B + 186) th sz (zsys G B kd' n' t' zz' ch' md' tc' tg' pt' L' (zset w (B + 204) (zro G 1 (zu o 0 v))))) ⟨co_Ref_open, by decide +kernel, (Nat.le_of_ble_eq_true rfl)⟩ ⟨Nat.le_of_ble_eq_true rfl, Nat.le_of_ble_eq_true rfl, (by show _ + (0 : Nat) ≤ (601024 : Nat); omega), (by show _ + (0 : Nat) ≤ (7293033 : Nat); omega)⟩ (Nat.le_of_ble_eq_true rfl) (fun r1 w1 s1 q => ?_) (fun _ _ _ q => False.elim q)
    obtain ⟨rfl, rfl, rfl⟩ := q
    refine V_k (kc' := kc) (ks' := ks) rfl rfl rfl ?_
    refine V_w (zWl_q (kd := kd') (n := n') (t := t') (zz := zz') (ch := ch') (md := md') (tc := tc') (tg := tg') (pt := pt') (L := L') (th := 0) (kd2 := kd') (n2 := n') (t2 := t') (tc2 := tc') (ch2 := ch') (md2 := md') (R := R') (o := (zu o 0 v)) (w := w)).symm ?_
    refine V_istore d_law_588 (by decide) ?_
    refine V_aload_n d_law_590 rfl ?_
    refine V_w zWl_q ?_
    refine V_callV (n := 0) d_law_591 g_Law_72 rfl zqs_o rfl (r_thrown G sz (B + 186) 0 kd' n' t' tc' ch' md' R' (zsys G B kd' n' t' zz' ch' md' tc' tg' pt' L' (zset w (B + 204) (zro G 1 (zu o 0 v))))) ⟨co_Ref_thrown, by decide +kernel, (Nat.le_of_ble_eq_true rfl)⟩ ⟨Nat.le_of_ble_eq_true rfl, Nat.le_of_ble_eq_true rfl, (by show _ + (0 : Nat) ≤ (601024 : Nat); omega), (by show _ + (0 : Nat) ≤ (7293033 : Nat); omega)⟩ (Nat.le_of_ble_eq_true rfl) (fun r1 w1 s1 q => ?_) (fun _ _ _ q => False.elim q)
    obtain ⟨rfl, rfl, rfl⟩ := q
    refine V_k (kc' := kc) (ks' := ks) rfl rfl rfl ?_
    refine V_w zWl_q.symm ?_
    refine V_iload d_law_594 rfl ?_
    refine J_icmp_eq 601 d_law_596 (by decide) (by decide) (by decide) (fun c_596 => ?_) (fun c_596 => absurd rfl c_596)
    refine V_iload d_law_601 rfl ?_
    refine J_if_ne 618 d_law_603 (by decide) (by decide) (fun c_603 => absurd rfl c_603) (fun c_603 => ?_)
    refine V_aload_n d_law_606 rfl ?_
    refine V_iconst d_law_607 ?_
    refine J_laload d_law_608 zWl_D (by decide) (by decide) ?_
    refine V_iload d_law_609 rfl ?_
    refine J_i2l d_law_611 hv ?_
    rw [zu_s]
    refine JL_eq 618 d_law_612 d_law_613 (by decide) (by omega) (by omega) (fun c_612 => ?_) (fun c_612 => absurd rfl c_612)
    refine V_goto 1182 d_law_618 (by decide) ?_
    refine J_iinc d_law_1182 rfl (by decide) ?_
    refine V_goto 23 d_law_1185 (by decide) ?_
    refine V_lo (lo' := zloc G B (i + 5)) [0, 1, 2, 3, 4] rfl ?_
    exact hq _ _ _ _ _ _ _ _ _ _ _ _ _ _ _ _ _ (by omega) (by omega) hI

set_option maxRecDepth 100000 in
set_option maxHeartbeats 4000000 in
theorem l_join (G : zG) (B : Nat) (w : zW) (hL : G.2.2.2 100001 ≤ 2560) (i : Nat) (hi : i + 5 ≤ G.2.2.2 100001) (hq : zQl G B w (i + 5)) (kc ks sz : Nat) (kd n t zz : Int) (ch : Int32) (md tc : Int) (tg pt : Nat → Int) (L R : Nat → Int → Int) (nn : Nat) (th : Int) (o : Int → Int) (hkc : kc ≤ 1000 + i) (hks : ks ≤ 100000 + 6 * i) (h : zI kd n t zz md tc tg pt L R nn) : V G M_law zKl room_1 kc ks sz 621 (zloc G B i) [] (zWl G B kd n t zz ch md tc tg pt L th kd n t tc ch md R o w) := by
  rcases p_join G B kd n t zz ch md tc tg pt L R nn h (zsx G (i + 1)) (zsx G (i + 2)) (zsx G (i + 3)) (zsx G (i + 4)) (zsx_b G _) (zsx_b G _) (zsx_b G _) (zsx_b G _) with ⟨e, cd, hx, hc, hr⟩ | ⟨v, kd', n', t', zz', ch', md', tc', tg', pt', L', R', nn', hv, hI, hc, hr⟩
  · simp only [List.mem_cons, Prod.mk.injEq, List.not_mem_nil, or_false] at hx
    rcases hx with ⟨rfl, rfl⟩ | ⟨rfl, rfl⟩ | ⟨rfl, rfl⟩
    · skip
      refine V_aload_n d_law_621 rfl ?_
      refine V_aload_n d_law_622 rfl ?_
      refine V_iload d_law_623 rfl ?_
      refine V_iconst d_law_625 ?_
      refine J_iadd d_law_626 ?_
      refine V_sld (j := i + 1) d_law_627 rfl (by omega) hL ?_
      refine V_aload_n d_law_628 rfl ?_
      refine V_iload d_law_629 rfl ?_
      refine V_iconst d_law_631 ?_
      refine J_iadd d_law_632 ?_
      refine V_sld (j := i + 2) d_law_633 rfl (by omega) hL ?_
      refine V_aload_n d_law_634 rfl ?_
      refine V_iload d_law_635 rfl ?_
      refine V_iconst d_law_637 ?_
      refine J_iadd d_law_638 ?_
      refine V_sld (j := i + 3) d_law_639 rfl (by omega) hL ?_
      refine V_aload_n d_law_640 rfl ?_
      refine V_iload d_law_641 rfl ?_
      refine V_iconst d_law_643 ?_
      refine J_iadd d_law_644 ?_
      refine V_sld (j := i + 4) d_law_645 rfl (by omega) hL ?_
      refine V_aload_n d_law_646 rfl ?_
      refine V_callS (n := 6) d_law_647 g_Law_101 rfl (w_join_1 G sz B (B + 204) _ (Int32.ofInt (zsx G (i + 1))) (Int32.ofInt (zsx G (i + 2))) (Int32.ofInt (zsx G (i + 3))) (Int32.ofInt (zsx G (i + 4))) zsys_x0 (hc sz (zqs G (B + 186) th kd n t tc ch md R (zset w (B + 204) (zro G 1 o))))) ⟨co_Law_join, by decide +kernel, (Nat.le_of_ble_eq_true rfl)⟩ ⟨Nat.le_of_ble_eq_true rfl, Nat.le_of_ble_eq_true rfl, (by show _ + (1 : Nat) ≤ (601024 : Nat); omega), (by show _ + (6 : Nat) ≤ (7293033 : Nat); omega)⟩ (Nat.le_of_ble_eq_true rfl) (fun r1 w1 s1 q => ?_) (fun _ _ _ q => by cases q.1)
      obtain ⟨q1, q2, q3⟩ := q
      cases q1
      subst q2
      subst q3
      refine V_k (kc' := kc + 1) (ks' := ks + 6) rfl rfl rfl ?_
      refine V_istore d_law_650 (by decide) ?_
      refine V_aload_n d_law_652 rfl ?_
      refine V_aload_n d_law_653 rfl ?_
      refine V_iload d_law_654 rfl ?_
      refine V_iconst d_law_656 ?_
      refine J_iadd d_law_657 ?_
      refine V_sld (j := i + 1) d_law_658 rfl (by omega) hL ?_
      refine V_aload_n d_law_659 rfl ?_
      refine V_iload d_law_660 rfl ?_
      refine V_iconst d_law_662 ?_
      refine J_iadd d_law_663 ?_
      refine V_sld (j := i + 2) d_law_664 rfl (by omega) hL ?_
      refine V_aload_n d_law_665 rfl ?_
      refine V_iload d_law_666 rfl ?_
      refine V_iconst d_law_668 ?_
      refine J_iadd d_law_669 ?_
      refine V_sld (j := i + 3) d_law_670 rfl (by omega) hL ?_
      refine V_aload_n d_law_671 rfl ?_
      refine V_iload d_law_672 rfl ?_
      refine V_iconst d_law_674 ?_
      refine J_iadd d_law_675 ?_
      refine V_sld (j := i + 4) d_law_676 rfl (by omega) hL ?_
      refine V_w zWl_q ?_
      refine V_callV (n := 4) d_law_677 g_Law_104 rfl zqs_o rfl (hr (B + 186) th (sz + 1) (zsys G B kd n t zz ch md tc tg pt L (zset w (B + 204) (zro G 1 o)))) ⟨co_Ref_join, by decide +kernel, (Nat.le_of_ble_eq_true rfl)⟩ ⟨Nat.le_of_ble_eq_true rfl, Nat.le_of_ble_eq_true rfl, (by show _ + (0 : Nat) ≤ (601024 : Nat); omega), (by show _ + (0 : Nat) ≤ (7293033 : Nat); omega)⟩ (Nat.le_of_ble_eq_true rfl) (fun r1 w1 s1 q => ?_) (fun _ _ _ q => False.elim q)
      obtain ⟨rfl, rfl, rfl⟩ := q
      refine V_k (kc' := kc + 1) (ks' := ks + 6) rfl rfl rfl ?_
      refine V_w (zWl_q (kd := kd) (n := n) (t := t) (zz := zz) (ch := ch) (md := md) (tc := tc) (tg := tg) (pt := pt) (L := L) (th := 1) (kd2 := kd) (n2 := n) (t2 := t) (tc2 := tc) (ch2 := ch) (md2 := md) (R := R) (o := o) (w := w)).symm ?_
      refine V_istore d_law_680 (by decide) ?_
      refine V_aload_n d_law_682 rfl ?_
      refine V_w zWl_q ?_
      refine V_callV (n := 0) d_law_683 g_Law_72 rfl zqs_o rfl (r_thrown G (sz + 1) (B + 186) 1 kd n t tc ch md R (zsys G B kd n t zz ch md tc tg pt L (zset w (B + 204) (zro G 1 o)))) ⟨co_Ref_thrown, by decide +kernel, (Nat.le_of_ble_eq_true rfl)⟩ ⟨Nat.le_of_ble_eq_true rfl, Nat.le_of_ble_eq_true rfl, (by show _ + (0 : Nat) ≤ (601024 : Nat); omega), (by show _ + (0 : Nat) ≤ (7293033 : Nat); omega)⟩ (Nat.le_of_ble_eq_true rfl) (fun r1 w1 s1 q => ?_) (fun _ _ _ q => False.elim q)
      obtain ⟨rfl, rfl, rfl⟩ := q
      refine V_k (kc' := kc + 1) (ks' := ks + 6) rfl rfl rfl ?_
      refine V_w zWl_q.symm ?_
      refine V_iload d_law_686 rfl ?_
      refine J_icmp_eq 693 d_law_688 (by decide) (by decide) (by decide) (fun c_688 => ?_) (fun c_688 => absurd rfl c_688)
      refine V_iload d_law_693 rfl ?_
      refine J_if_ne 710 d_law_695 (by decide) (by decide) (fun c_695 => ?_) (fun c_695 => absurd c_695 (by decide))
      refine V_goto 1182 d_law_710 (by decide) ?_
      refine J_iinc d_law_1182 rfl (by decide) ?_
      refine V_goto 23 d_law_1185 (by decide) ?_
      refine V_lo (lo' := zloc G B (i + 5)) [0, 1, 2, 3, 4] rfl ?_
      exact hq _ _ _ _ _ _ _ _ _ _ _ _ _ _ _ _ _ (by omega) (by omega) h
    · skip
      refine V_aload_n d_law_621 rfl ?_
      refine V_aload_n d_law_622 rfl ?_
      refine V_iload d_law_623 rfl ?_
      refine V_iconst d_law_625 ?_
      refine J_iadd d_law_626 ?_
      refine V_sld (j := i + 1) d_law_627 rfl (by omega) hL ?_
      refine V_aload_n d_law_628 rfl ?_
      refine V_iload d_law_629 rfl ?_
      refine V_iconst d_law_631 ?_
      refine J_iadd d_law_632 ?_
      refine V_sld (j := i + 2) d_law_633 rfl (by omega) hL ?_
      refine V_aload_n d_law_634 rfl ?_
      refine V_iload d_law_635 rfl ?_
      refine V_iconst d_law_637 ?_
      refine J_iadd d_law_638 ?_
      refine V_sld (j := i + 3) d_law_639 rfl (by omega) hL ?_
      refine V_aload_n d_law_640 rfl ?_
      refine V_iload d_law_641 rfl ?_
      refine V_iconst d_law_643 ?_
      refine J_iadd d_law_644 ?_
      refine V_sld (j := i + 4) d_law_645 rfl (by omega) hL ?_
      refine V_aload_n d_law_646 rfl ?_
      refine V_callS (n := 6) d_law_647 g_Law_101 rfl (w_join_2 G sz B (B + 204) _ (Int32.ofInt (zsx G (i + 1))) (Int32.ofInt (zsx G (i + 2))) (Int32.ofInt (zsx G (i + 3))) (Int32.ofInt (zsx G (i + 4))) zsys_x0 (hc sz (zqs G (B + 186) th kd n t tc ch md R (zset w (B + 204) (zro G 1 o))))) ⟨co_Law_join, by decide +kernel, (Nat.le_of_ble_eq_true rfl)⟩ ⟨Nat.le_of_ble_eq_true rfl, Nat.le_of_ble_eq_true rfl, (by show _ + (1 : Nat) ≤ (601024 : Nat); omega), (by show _ + (6 : Nat) ≤ (7293033 : Nat); omega)⟩ (Nat.le_of_ble_eq_true rfl) (fun r1 w1 s1 q => ?_) (fun _ _ _ q => by cases q.1)
      obtain ⟨q1, q2, q3⟩ := q
      cases q1
      subst q2
      subst q3
      refine V_k (kc' := kc + 1) (ks' := ks + 6) rfl rfl rfl ?_
      refine V_istore d_law_650 (by decide) ?_
      refine V_aload_n d_law_652 rfl ?_
      refine V_aload_n d_law_653 rfl ?_
      refine V_iload d_law_654 rfl ?_
      refine V_iconst d_law_656 ?_
      refine J_iadd d_law_657 ?_
      refine V_sld (j := i + 1) d_law_658 rfl (by omega) hL ?_
      refine V_aload_n d_law_659 rfl ?_
      refine V_iload d_law_660 rfl ?_
      refine V_iconst d_law_662 ?_
      refine J_iadd d_law_663 ?_
      refine V_sld (j := i + 2) d_law_664 rfl (by omega) hL ?_
      refine V_aload_n d_law_665 rfl ?_
      refine V_iload d_law_666 rfl ?_
      refine V_iconst d_law_668 ?_
      refine J_iadd d_law_669 ?_
      refine V_sld (j := i + 3) d_law_670 rfl (by omega) hL ?_
      refine V_aload_n d_law_671 rfl ?_
      refine V_iload d_law_672 rfl ?_
      refine V_iconst d_law_674 ?_
      refine J_iadd d_law_675 ?_
      refine V_sld (j := i + 4) d_law_676 rfl (by omega) hL ?_
      refine V_w zWl_q ?_
      refine V_callV (n := 4) d_law_677 g_Law_104 rfl zqs_o rfl (hr (B + 186) th (sz + 1) (zsys G B kd n t zz ch md tc tg pt L (zset w (B + 204) (zro G 1 o)))) ⟨co_Ref_join, by decide +kernel, (Nat.le_of_ble_eq_true rfl)⟩ ⟨Nat.le_of_ble_eq_true rfl, Nat.le_of_ble_eq_true rfl, (by show _ + (0 : Nat) ≤ (601024 : Nat); omega), (by show _ + (0 : Nat) ≤ (7293033 : Nat); omega)⟩ (Nat.le_of_ble_eq_true rfl) (fun r1 w1 s1 q => ?_) (fun _ _ _ q => False.elim q)
      obtain ⟨rfl, rfl, rfl⟩ := q
      refine V_k (kc' := kc + 1) (ks' := ks + 6) rfl rfl rfl ?_
      refine V_w (zWl_q (kd := kd) (n := n) (t := t) (zz := zz) (ch := ch) (md := md) (tc := tc) (tg := tg) (pt := pt) (L := L) (th := 2) (kd2 := kd) (n2 := n) (t2 := t) (tc2 := tc) (ch2 := ch) (md2 := md) (R := R) (o := o) (w := w)).symm ?_
      refine V_istore d_law_680 (by decide) ?_
      refine V_aload_n d_law_682 rfl ?_
      refine V_w zWl_q ?_
      refine V_callV (n := 0) d_law_683 g_Law_72 rfl zqs_o rfl (r_thrown G (sz + 1) (B + 186) 2 kd n t tc ch md R (zsys G B kd n t zz ch md tc tg pt L (zset w (B + 204) (zro G 1 o)))) ⟨co_Ref_thrown, by decide +kernel, (Nat.le_of_ble_eq_true rfl)⟩ ⟨Nat.le_of_ble_eq_true rfl, Nat.le_of_ble_eq_true rfl, (by show _ + (0 : Nat) ≤ (601024 : Nat); omega), (by show _ + (0 : Nat) ≤ (7293033 : Nat); omega)⟩ (Nat.le_of_ble_eq_true rfl) (fun r1 w1 s1 q => ?_) (fun _ _ _ q => False.elim q)
      obtain ⟨rfl, rfl, rfl⟩ := q
      refine V_k (kc' := kc + 1) (ks' := ks + 6) rfl rfl rfl ?_
      refine V_w zWl_q.symm ?_
      refine V_iload d_law_686 rfl ?_
      refine J_icmp_eq 693 d_law_688 (by decide) (by decide) (by decide) (fun c_688 => ?_) (fun c_688 => absurd rfl c_688)
      refine V_iload d_law_693 rfl ?_
      refine J_if_ne 710 d_law_695 (by decide) (by decide) (fun c_695 => ?_) (fun c_695 => absurd c_695 (by decide))
      refine V_goto 1182 d_law_710 (by decide) ?_
      refine J_iinc d_law_1182 rfl (by decide) ?_
      refine V_goto 23 d_law_1185 (by decide) ?_
      refine V_lo (lo' := zloc G B (i + 5)) [0, 1, 2, 3, 4] rfl ?_
      exact hq _ _ _ _ _ _ _ _ _ _ _ _ _ _ _ _ _ (by omega) (by omega) h
    · skip
      refine V_aload_n d_law_621 rfl ?_
      refine V_aload_n d_law_622 rfl ?_
      refine V_iload d_law_623 rfl ?_
      refine V_iconst d_law_625 ?_
      refine J_iadd d_law_626 ?_
      refine V_sld (j := i + 1) d_law_627 rfl (by omega) hL ?_
      refine V_aload_n d_law_628 rfl ?_
      refine V_iload d_law_629 rfl ?_
      refine V_iconst d_law_631 ?_
      refine J_iadd d_law_632 ?_
      refine V_sld (j := i + 2) d_law_633 rfl (by omega) hL ?_
      refine V_aload_n d_law_634 rfl ?_
      refine V_iload d_law_635 rfl ?_
      refine V_iconst d_law_637 ?_
      refine J_iadd d_law_638 ?_
      refine V_sld (j := i + 3) d_law_639 rfl (by omega) hL ?_
      refine V_aload_n d_law_640 rfl ?_
      refine V_iload d_law_641 rfl ?_
      refine V_iconst d_law_643 ?_
      refine J_iadd d_law_644 ?_
      refine V_sld (j := i + 4) d_law_645 rfl (by omega) hL ?_
      refine V_aload_n d_law_646 rfl ?_
      refine V_callS (n := 6) d_law_647 g_Law_101 rfl (w_join_3 G sz B (B + 204) _ (Int32.ofInt (zsx G (i + 1))) (Int32.ofInt (zsx G (i + 2))) (Int32.ofInt (zsx G (i + 3))) (Int32.ofInt (zsx G (i + 4))) zsys_x0 (hc sz (zqs G (B + 186) th kd n t tc ch md R (zset w (B + 204) (zro G 1 o))))) ⟨co_Law_join, by decide +kernel, (Nat.le_of_ble_eq_true rfl)⟩ ⟨Nat.le_of_ble_eq_true rfl, Nat.le_of_ble_eq_true rfl, (by show _ + (1 : Nat) ≤ (601024 : Nat); omega), (by show _ + (6 : Nat) ≤ (7293033 : Nat); omega)⟩ (Nat.le_of_ble_eq_true rfl) (fun r1 w1 s1 q => ?_) (fun _ _ _ q => by cases q.1)
      obtain ⟨q1, q2, q3⟩ := q
      cases q1
      subst q2
      subst q3
      refine V_k (kc' := kc + 1) (ks' := ks + 6) rfl rfl rfl ?_
      refine V_istore d_law_650 (by decide) ?_
      refine V_aload_n d_law_652 rfl ?_
      refine V_aload_n d_law_653 rfl ?_
      refine V_iload d_law_654 rfl ?_
      refine V_iconst d_law_656 ?_
      refine J_iadd d_law_657 ?_
      refine V_sld (j := i + 1) d_law_658 rfl (by omega) hL ?_
      refine V_aload_n d_law_659 rfl ?_
      refine V_iload d_law_660 rfl ?_
      refine V_iconst d_law_662 ?_
      refine J_iadd d_law_663 ?_
      refine V_sld (j := i + 2) d_law_664 rfl (by omega) hL ?_
      refine V_aload_n d_law_665 rfl ?_
      refine V_iload d_law_666 rfl ?_
      refine V_iconst d_law_668 ?_
      refine J_iadd d_law_669 ?_
      refine V_sld (j := i + 3) d_law_670 rfl (by omega) hL ?_
      refine V_aload_n d_law_671 rfl ?_
      refine V_iload d_law_672 rfl ?_
      refine V_iconst d_law_674 ?_
      refine J_iadd d_law_675 ?_
      refine V_sld (j := i + 4) d_law_676 rfl (by omega) hL ?_
      refine V_w zWl_q ?_
      refine V_callV (n := 4) d_law_677 g_Law_104 rfl zqs_o rfl (hr (B + 186) th (sz + 1) (zsys G B kd n t zz ch md tc tg pt L (zset w (B + 204) (zro G 1 o)))) ⟨co_Ref_join, by decide +kernel, (Nat.le_of_ble_eq_true rfl)⟩ ⟨Nat.le_of_ble_eq_true rfl, Nat.le_of_ble_eq_true rfl, (by show _ + (0 : Nat) ≤ (601024 : Nat); omega), (by show _ + (0 : Nat) ≤ (7293033 : Nat); omega)⟩ (Nat.le_of_ble_eq_true rfl) (fun r1 w1 s1 q => ?_) (fun _ _ _ q => False.elim q)
      obtain ⟨rfl, rfl, rfl⟩ := q
      refine V_k (kc' := kc + 1) (ks' := ks + 6) rfl rfl rfl ?_
      refine V_w (zWl_q (kd := kd) (n := n) (t := t) (zz := zz) (ch := ch) (md := md) (tc := tc) (tg := tg) (pt := pt) (L := L) (th := 3) (kd2 := kd) (n2 := n) (t2 := t) (tc2 := tc) (ch2 := ch) (md2 := md) (R := R) (o := o) (w := w)).symm ?_
      refine V_istore d_law_680 (by decide) ?_
      refine V_aload_n d_law_682 rfl ?_
      refine V_w zWl_q ?_
      refine V_callV (n := 0) d_law_683 g_Law_72 rfl zqs_o rfl (r_thrown G (sz + 1) (B + 186) 3 kd n t tc ch md R (zsys G B kd n t zz ch md tc tg pt L (zset w (B + 204) (zro G 1 o)))) ⟨co_Ref_thrown, by decide +kernel, (Nat.le_of_ble_eq_true rfl)⟩ ⟨Nat.le_of_ble_eq_true rfl, Nat.le_of_ble_eq_true rfl, (by show _ + (0 : Nat) ≤ (601024 : Nat); omega), (by show _ + (0 : Nat) ≤ (7293033 : Nat); omega)⟩ (Nat.le_of_ble_eq_true rfl) (fun r1 w1 s1 q => ?_) (fun _ _ _ q => False.elim q)
      obtain ⟨rfl, rfl, rfl⟩ := q
      refine V_k (kc' := kc + 1) (ks' := ks + 6) rfl rfl rfl ?_
      refine V_w zWl_q.symm ?_
      refine V_iload d_law_686 rfl ?_
      refine J_icmp_eq 693 d_law_688 (by decide) (by decide) (by decide) (fun c_688 => ?_) (fun c_688 => absurd rfl c_688)
      refine V_iload d_law_693 rfl ?_
      refine J_if_ne 710 d_law_695 (by decide) (by decide) (fun c_695 => ?_) (fun c_695 => absurd c_695 (by decide))
      refine V_goto 1182 d_law_710 (by decide) ?_
      refine J_iinc d_law_1182 rfl (by decide) ?_
      refine V_goto 23 d_law_1185 (by decide) ?_
      refine V_lo (lo' := zloc G B (i + 5)) [0, 1, 2, 3, 4] rfl ?_
      exact hq _ _ _ _ _ _ _ _ _ _ _ _ _ _ _ _ _ (by omega) (by omega) h
  · skip
    refine V_aload_n d_law_621 rfl ?_
    refine V_aload_n d_law_622 rfl ?_
    refine V_iload d_law_623 rfl ?_
    refine V_iconst d_law_625 ?_
    refine J_iadd d_law_626 ?_
    refine V_sld (j := i + 1) d_law_627 rfl (by omega) hL ?_
    refine V_aload_n d_law_628 rfl ?_
    refine V_iload d_law_629 rfl ?_
    refine V_iconst d_law_631 ?_
    refine J_iadd d_law_632 ?_
    refine V_sld (j := i + 2) d_law_633 rfl (by omega) hL ?_
    refine V_aload_n d_law_634 rfl ?_
    refine V_iload d_law_635 rfl ?_
    refine V_iconst d_law_637 ?_
    refine J_iadd d_law_638 ?_
    refine V_sld (j := i + 3) d_law_639 rfl (by omega) hL ?_
    refine V_aload_n d_law_640 rfl ?_
    refine V_iload d_law_641 rfl ?_
    refine V_iconst d_law_643 ?_
    refine J_iadd d_law_644 ?_
    refine V_sld (j := i + 4) d_law_645 rfl (by omega) hL ?_
    refine V_aload_n d_law_646 rfl ?_
    refine V_callS (n := 6) d_law_647 g_Law_101 rfl (w_join_0 G sz B (B + 204) _ (zWl G B kd' n' t' zz' ch' md' tc' tg' pt' L' th kd n t tc ch md R o w) (Int32.ofInt (zsx G (i + 1))) (Int32.ofInt (zsx G (i + 2))) (Int32.ofInt (zsx G (i + 3))) (Int32.ofInt (zsx G (i + 4))) v o zsys_x0 zWl_D hv (hc sz (zqs G (B + 186) th kd n t tc ch md R (zset w (B + 204) (zro G 1 o))))) ⟨co_Law_join, by decide +kernel, (Nat.le_of_ble_eq_true rfl)⟩ ⟨Nat.le_of_ble_eq_true rfl, Nat.le_of_ble_eq_true rfl, (by show _ + (1 : Nat) ≤ (601024 : Nat); omega), (by show _ + (6 : Nat) ≤ (7293033 : Nat); omega)⟩ (Nat.le_of_ble_eq_true rfl) (fun r1 w1 s1 q => ?_) (fun _ _ _ q => by exact False.elim q)
    obtain ⟨rfl, rfl, rfl⟩ := q
    refine V_w zWl_out ?_
    refine V_k (kc' := kc) (ks' := ks) rfl rfl rfl ?_
    refine V_istore d_law_650 (by decide) ?_
    refine V_aload_n d_law_652 rfl ?_
    refine V_aload_n d_law_653 rfl ?_
    refine V_iload d_law_654 rfl ?_
    refine V_iconst d_law_656 ?_
    refine J_iadd d_law_657 ?_
    refine V_sld (j := i + 1) d_law_658 rfl (by omega) hL ?_
    refine V_aload_n d_law_659 rfl ?_
    refine V_iload d_law_660 rfl ?_
    refine V_iconst d_law_662 ?_
    refine J_iadd d_law_663 ?_
    refine V_sld (j := i + 2) d_law_664 rfl (by omega) hL ?_
    refine V_aload_n d_law_665 rfl ?_
    refine V_iload d_law_666 rfl ?_
    refine V_iconst d_law_668 ?_
    refine J_iadd d_law_669 ?_
    refine V_sld (j := i + 3) d_law_670 rfl (by omega) hL ?_
    refine V_aload_n d_law_671 rfl ?_
    refine V_iload d_law_672 rfl ?_
    refine V_iconst d_law_674 ?_
    refine J_iadd d_law_675 ?_
    refine V_sld (j := i + 4) d_law_676 rfl (by omega) hL ?_
    refine V_w zWl_q ?_
    refine V_callV (n := 4) d_law_677 g_Law_104 rfl zqs_o rfl (hr (B + 186) th sz (zsys G B kd' n' t' zz' ch' md' tc' tg' pt' L' (zset w (B + 204) (zro G 1 (zu o 0 v))))) ⟨co_Ref_join, by decide +kernel, (Nat.le_of_ble_eq_true rfl)⟩ ⟨Nat.le_of_ble_eq_true rfl, Nat.le_of_ble_eq_true rfl, (by show _ + (0 : Nat) ≤ (601024 : Nat); omega), (by show _ + (0 : Nat) ≤ (7293033 : Nat); omega)⟩ (Nat.le_of_ble_eq_true rfl) (fun r1 w1 s1 q => ?_) (fun _ _ _ q => False.elim q)
    obtain ⟨rfl, rfl, rfl⟩ := q
    refine V_k (kc' := kc) (ks' := ks) rfl rfl rfl ?_
    refine V_w (zWl_q (kd := kd') (n := n') (t := t') (zz := zz') (ch := ch') (md := md') (tc := tc') (tg := tg') (pt := pt') (L := L') (th := 0) (kd2 := kd') (n2 := n') (t2 := t') (tc2 := tc') (ch2 := ch') (md2 := md') (R := R') (o := (zu o 0 v)) (w := w)).symm ?_
    refine V_istore d_law_680 (by decide) ?_
    refine V_aload_n d_law_682 rfl ?_
    refine V_w zWl_q ?_
    refine V_callV (n := 0) d_law_683 g_Law_72 rfl zqs_o rfl (r_thrown G sz (B + 186) 0 kd' n' t' tc' ch' md' R' (zsys G B kd' n' t' zz' ch' md' tc' tg' pt' L' (zset w (B + 204) (zro G 1 (zu o 0 v))))) ⟨co_Ref_thrown, by decide +kernel, (Nat.le_of_ble_eq_true rfl)⟩ ⟨Nat.le_of_ble_eq_true rfl, Nat.le_of_ble_eq_true rfl, (by show _ + (0 : Nat) ≤ (601024 : Nat); omega), (by show _ + (0 : Nat) ≤ (7293033 : Nat); omega)⟩ (Nat.le_of_ble_eq_true rfl) (fun r1 w1 s1 q => ?_) (fun _ _ _ q => False.elim q)
    obtain ⟨rfl, rfl, rfl⟩ := q
    refine V_k (kc' := kc) (ks' := ks) rfl rfl rfl ?_
    refine V_w zWl_q.symm ?_
    refine V_iload d_law_686 rfl ?_
    refine J_icmp_eq 693 d_law_688 (by decide) (by decide) (by decide) (fun c_688 => ?_) (fun c_688 => absurd rfl c_688)
    refine V_iload d_law_693 rfl ?_
    refine J_if_ne 710 d_law_695 (by decide) (by decide) (fun c_695 => absurd rfl c_695) (fun c_695 => ?_)
    refine V_aload_n d_law_698 rfl ?_
    refine V_iconst d_law_699 ?_
    refine J_laload d_law_700 zWl_D (by decide) (by decide) ?_
    refine V_iload d_law_701 rfl ?_
    refine J_i2l d_law_703 hv ?_
    rw [zu_s]
    refine JL_eq 710 d_law_704 d_law_705 (by decide) (by omega) (by omega) (fun c_704 => ?_) (fun c_704 => absurd rfl c_704)
    refine V_goto 1182 d_law_710 (by decide) ?_
    refine J_iinc d_law_1182 rfl (by decide) ?_
    refine V_goto 23 d_law_1185 (by decide) ?_
    refine V_lo (lo' := zloc G B (i + 5)) [0, 1, 2, 3, 4] rfl ?_
    exact hq _ _ _ _ _ _ _ _ _ _ _ _ _ _ _ _ _ (by omega) (by omega) hI

set_option maxRecDepth 100000 in
set_option maxHeartbeats 4000000 in
theorem l_plain (G : zG) (B : Nat) (w : zW) (hL : G.2.2.2 100001 ≤ 2560) (i : Nat) (hi : i + 5 ≤ G.2.2.2 100001) (hq : zQl G B w (i + 5)) (kc ks sz : Nat) (kd n t zz : Int) (ch : Int32) (md tc : Int) (tg pt : Nat → Int) (L R : Nat → Int → Int) (nn : Nat) (th : Int) (o : Int → Int) (hkc : kc ≤ 1000 + i) (hks : ks ≤ 100000 + 6 * i) (h : zI kd n t zz md tc tg pt L R nn) : V G M_law zKl room_1 kc ks sz 713 (zloc G B i) [] (zWl G B kd n t zz ch md tc tg pt L th kd n t tc ch md R o w) := by
  rcases p_plain G B kd n t zz ch md tc tg pt L R nn h (zsx G (i + 1)) (zsx G (i + 2)) (zsx G (i + 3)) (zsx G (i + 4)) (zsx_b G _) (zsx_b G _) (zsx_b G _) (zsx_b G _) with ⟨e, cd, hx, hc, hr⟩ | ⟨v, kd', n', t', zz', ch', md', tc', tg', pt', L', R', nn', hv, hI, hc, hr⟩
  · simp only [List.mem_cons, Prod.mk.injEq, List.not_mem_nil, or_false] at hx
    rcases hx with ⟨rfl, rfl⟩ | ⟨rfl, rfl⟩
    · skip
      refine V_aload_n d_law_713 rfl ?_
      refine V_aload_n d_law_714 rfl ?_
      refine V_iload d_law_715 rfl ?_
      refine V_iconst d_law_717 ?_
      refine J_iadd d_law_718 ?_
      refine V_sld (j := i + 1) d_law_719 rfl (by omega) hL ?_
      refine V_aload_n d_law_720 rfl ?_
      refine V_iload d_law_721 rfl ?_
      refine V_iconst d_law_723 ?_
      refine J_iadd d_law_724 ?_
      refine V_sld (j := i + 2) d_law_725 rfl (by omega) hL ?_
      refine V_aload_n d_law_726 rfl ?_
      refine V_iload d_law_727 rfl ?_
      refine V_iconst d_law_729 ?_
      refine J_iadd d_law_730 ?_
      refine V_sld (j := i + 3) d_law_731 rfl (by omega) hL ?_
      refine V_aload_n d_law_732 rfl ?_
      refine V_iload d_law_733 rfl ?_
      refine V_iconst d_law_735 ?_
      refine J_iadd d_law_736 ?_
      refine V_sld (j := i + 4) d_law_737 rfl (by omega) hL ?_
      refine V_aload_n d_law_738 rfl ?_
      refine V_callS (n := 6) d_law_739 g_Law_105 rfl (w_plain_1 G sz B (B + 204) _ (Int32.ofInt (zsx G (i + 1))) (Int32.ofInt (zsx G (i + 2))) (Int32.ofInt (zsx G (i + 3))) (Int32.ofInt (zsx G (i + 4))) zsys_x0 (hc sz (zqs G (B + 186) th kd n t tc ch md R (zset w (B + 204) (zro G 1 o))))) ⟨co_Law_plain, by decide +kernel, (Nat.le_of_ble_eq_true rfl)⟩ ⟨Nat.le_of_ble_eq_true rfl, Nat.le_of_ble_eq_true rfl, (by show _ + (1 : Nat) ≤ (601024 : Nat); omega), (by show _ + (6 : Nat) ≤ (7293033 : Nat); omega)⟩ (Nat.le_of_ble_eq_true rfl) (fun r1 w1 s1 q => ?_) (fun _ _ _ q => by cases q.1)
      obtain ⟨q1, q2, q3⟩ := q
      cases q1
      subst q2
      subst q3
      refine V_k (kc' := kc + 1) (ks' := ks + 6) rfl rfl rfl ?_
      refine V_istore d_law_742 (by decide) ?_
      refine V_aload_n d_law_744 rfl ?_
      refine V_aload_n d_law_745 rfl ?_
      refine V_iload d_law_746 rfl ?_
      refine V_iconst d_law_748 ?_
      refine J_iadd d_law_749 ?_
      refine V_sld (j := i + 1) d_law_750 rfl (by omega) hL ?_
      refine V_aload_n d_law_751 rfl ?_
      refine V_iload d_law_752 rfl ?_
      refine V_iconst d_law_754 ?_
      refine J_iadd d_law_755 ?_
      refine V_sld (j := i + 2) d_law_756 rfl (by omega) hL ?_
      refine V_aload_n d_law_757 rfl ?_
      refine V_iload d_law_758 rfl ?_
      refine V_iconst d_law_760 ?_
      refine J_iadd d_law_761 ?_
      refine V_sld (j := i + 3) d_law_762 rfl (by omega) hL ?_
      refine V_aload_n d_law_763 rfl ?_
      refine V_iload d_law_764 rfl ?_
      refine V_iconst d_law_766 ?_
      refine J_iadd d_law_767 ?_
      refine V_sld (j := i + 4) d_law_768 rfl (by omega) hL ?_
      refine V_w zWl_q ?_
      refine V_callV (n := 4) d_law_769 g_Law_107 rfl zqs_o rfl (hr (B + 186) th (sz + 1) (zsys G B kd n t zz ch md tc tg pt L (zset w (B + 204) (zro G 1 o)))) ⟨co_Ref_plain, by decide +kernel, (Nat.le_of_ble_eq_true rfl)⟩ ⟨Nat.le_of_ble_eq_true rfl, Nat.le_of_ble_eq_true rfl, (by show _ + (0 : Nat) ≤ (601024 : Nat); omega), (by show _ + (0 : Nat) ≤ (7293033 : Nat); omega)⟩ (Nat.le_of_ble_eq_true rfl) (fun r1 w1 s1 q => ?_) (fun _ _ _ q => False.elim q)
      obtain ⟨rfl, rfl, rfl⟩ := q
      refine V_k (kc' := kc + 1) (ks' := ks + 6) rfl rfl rfl ?_
      refine V_w (zWl_q (kd := kd) (n := n) (t := t) (zz := zz) (ch := ch) (md := md) (tc := tc) (tg := tg) (pt := pt) (L := L) (th := 1) (kd2 := kd) (n2 := n) (t2 := t) (tc2 := tc) (ch2 := ch) (md2 := md) (R := R) (o := o) (w := w)).symm ?_
      refine V_istore d_law_772 (by decide) ?_
      refine V_aload_n d_law_774 rfl ?_
      refine V_w zWl_q ?_
      refine V_callV (n := 0) d_law_775 g_Law_72 rfl zqs_o rfl (r_thrown G (sz + 1) (B + 186) 1 kd n t tc ch md R (zsys G B kd n t zz ch md tc tg pt L (zset w (B + 204) (zro G 1 o)))) ⟨co_Ref_thrown, by decide +kernel, (Nat.le_of_ble_eq_true rfl)⟩ ⟨Nat.le_of_ble_eq_true rfl, Nat.le_of_ble_eq_true rfl, (by show _ + (0 : Nat) ≤ (601024 : Nat); omega), (by show _ + (0 : Nat) ≤ (7293033 : Nat); omega)⟩ (Nat.le_of_ble_eq_true rfl) (fun r1 w1 s1 q => ?_) (fun _ _ _ q => False.elim q)
      obtain ⟨rfl, rfl, rfl⟩ := q
      refine V_k (kc' := kc + 1) (ks' := ks + 6) rfl rfl rfl ?_
      refine V_w zWl_q.symm ?_
      refine V_iload d_law_778 rfl ?_
      refine J_icmp_eq 785 d_law_780 (by decide) (by decide) (by decide) (fun c_780 => ?_) (fun c_780 => absurd rfl c_780)
      refine V_iload d_law_785 rfl ?_
      refine J_if_ne 802 d_law_787 (by decide) (by decide) (fun c_787 => ?_) (fun c_787 => absurd c_787 (by decide))
      refine V_goto 1182 d_law_802 (by decide) ?_
      refine J_iinc d_law_1182 rfl (by decide) ?_
      refine V_goto 23 d_law_1185 (by decide) ?_
      refine V_lo (lo' := zloc G B (i + 5)) [0, 1, 2, 3, 4] rfl ?_
      exact hq _ _ _ _ _ _ _ _ _ _ _ _ _ _ _ _ _ (by omega) (by omega) h
    · skip
      refine V_aload_n d_law_713 rfl ?_
      refine V_aload_n d_law_714 rfl ?_
      refine V_iload d_law_715 rfl ?_
      refine V_iconst d_law_717 ?_
      refine J_iadd d_law_718 ?_
      refine V_sld (j := i + 1) d_law_719 rfl (by omega) hL ?_
      refine V_aload_n d_law_720 rfl ?_
      refine V_iload d_law_721 rfl ?_
      refine V_iconst d_law_723 ?_
      refine J_iadd d_law_724 ?_
      refine V_sld (j := i + 2) d_law_725 rfl (by omega) hL ?_
      refine V_aload_n d_law_726 rfl ?_
      refine V_iload d_law_727 rfl ?_
      refine V_iconst d_law_729 ?_
      refine J_iadd d_law_730 ?_
      refine V_sld (j := i + 3) d_law_731 rfl (by omega) hL ?_
      refine V_aload_n d_law_732 rfl ?_
      refine V_iload d_law_733 rfl ?_
      refine V_iconst d_law_735 ?_
      refine J_iadd d_law_736 ?_
      refine V_sld (j := i + 4) d_law_737 rfl (by omega) hL ?_
      refine V_aload_n d_law_738 rfl ?_
      refine V_callS (n := 6) d_law_739 g_Law_105 rfl (w_plain_2 G sz B (B + 204) _ (Int32.ofInt (zsx G (i + 1))) (Int32.ofInt (zsx G (i + 2))) (Int32.ofInt (zsx G (i + 3))) (Int32.ofInt (zsx G (i + 4))) zsys_x0 (hc sz (zqs G (B + 186) th kd n t tc ch md R (zset w (B + 204) (zro G 1 o))))) ⟨co_Law_plain, by decide +kernel, (Nat.le_of_ble_eq_true rfl)⟩ ⟨Nat.le_of_ble_eq_true rfl, Nat.le_of_ble_eq_true rfl, (by show _ + (1 : Nat) ≤ (601024 : Nat); omega), (by show _ + (6 : Nat) ≤ (7293033 : Nat); omega)⟩ (Nat.le_of_ble_eq_true rfl) (fun r1 w1 s1 q => ?_) (fun _ _ _ q => by cases q.1)
      obtain ⟨q1, q2, q3⟩ := q
      cases q1
      subst q2
      subst q3
      refine V_k (kc' := kc + 1) (ks' := ks + 6) rfl rfl rfl ?_
      refine V_istore d_law_742 (by decide) ?_
      refine V_aload_n d_law_744 rfl ?_
      refine V_aload_n d_law_745 rfl ?_
      refine V_iload d_law_746 rfl ?_
      refine V_iconst d_law_748 ?_
      refine J_iadd d_law_749 ?_
      refine V_sld (j := i + 1) d_law_750 rfl (by omega) hL ?_
      refine V_aload_n d_law_751 rfl ?_
      refine V_iload d_law_752 rfl ?_
      refine V_iconst d_law_754 ?_
      refine J_iadd d_law_755 ?_
      refine V_sld (j := i + 2) d_law_756 rfl (by omega) hL ?_
      refine V_aload_n d_law_757 rfl ?_
      refine V_iload d_law_758 rfl ?_
      refine V_iconst d_law_760 ?_
      refine J_iadd d_law_761 ?_
      refine V_sld (j := i + 3) d_law_762 rfl (by omega) hL ?_
      refine V_aload_n d_law_763 rfl ?_
      refine V_iload d_law_764 rfl ?_
      refine V_iconst d_law_766 ?_
      refine J_iadd d_law_767 ?_
      refine V_sld (j := i + 4) d_law_768 rfl (by omega) hL ?_
      refine V_w zWl_q ?_
      refine V_callV (n := 4) d_law_769 g_Law_107 rfl zqs_o rfl (hr (B + 186) th (sz + 1) (zsys G B kd n t zz ch md tc tg pt L (zset w (B + 204) (zro G 1 o)))) ⟨co_Ref_plain, by decide +kernel, (Nat.le_of_ble_eq_true rfl)⟩ ⟨Nat.le_of_ble_eq_true rfl, Nat.le_of_ble_eq_true rfl, (by show _ + (0 : Nat) ≤ (601024 : Nat); omega), (by show _ + (0 : Nat) ≤ (7293033 : Nat); omega)⟩ (Nat.le_of_ble_eq_true rfl) (fun r1 w1 s1 q => ?_) (fun _ _ _ q => False.elim q)
      obtain ⟨rfl, rfl, rfl⟩ := q
      refine V_k (kc' := kc + 1) (ks' := ks + 6) rfl rfl rfl ?_
      refine V_w (zWl_q (kd := kd) (n := n) (t := t) (zz := zz) (ch := ch) (md := md) (tc := tc) (tg := tg) (pt := pt) (L := L) (th := 2) (kd2 := kd) (n2 := n) (t2 := t) (tc2 := tc) (ch2 := ch) (md2 := md) (R := R) (o := o) (w := w)).symm ?_
      refine V_istore d_law_772 (by decide) ?_
      refine V_aload_n d_law_774 rfl ?_
      refine V_w zWl_q ?_
      refine V_callV (n := 0) d_law_775 g_Law_72 rfl zqs_o rfl (r_thrown G (sz + 1) (B + 186) 2 kd n t tc ch md R (zsys G B kd n t zz ch md tc tg pt L (zset w (B + 204) (zro G 1 o)))) ⟨co_Ref_thrown, by decide +kernel, (Nat.le_of_ble_eq_true rfl)⟩ ⟨Nat.le_of_ble_eq_true rfl, Nat.le_of_ble_eq_true rfl, (by show _ + (0 : Nat) ≤ (601024 : Nat); omega), (by show _ + (0 : Nat) ≤ (7293033 : Nat); omega)⟩ (Nat.le_of_ble_eq_true rfl) (fun r1 w1 s1 q => ?_) (fun _ _ _ q => False.elim q)
      obtain ⟨rfl, rfl, rfl⟩ := q
      refine V_k (kc' := kc + 1) (ks' := ks + 6) rfl rfl rfl ?_
      refine V_w zWl_q.symm ?_
      refine V_iload d_law_778 rfl ?_
      refine J_icmp_eq 785 d_law_780 (by decide) (by decide) (by decide) (fun c_780 => ?_) (fun c_780 => absurd rfl c_780)
      refine V_iload d_law_785 rfl ?_
      refine J_if_ne 802 d_law_787 (by decide) (by decide) (fun c_787 => ?_) (fun c_787 => absurd c_787 (by decide))
      refine V_goto 1182 d_law_802 (by decide) ?_
      refine J_iinc d_law_1182 rfl (by decide) ?_
      refine V_goto 23 d_law_1185 (by decide) ?_
      refine V_lo (lo' := zloc G B (i + 5)) [0, 1, 2, 3, 4] rfl ?_
      exact hq _ _ _ _ _ _ _ _ _ _ _ _ _ _ _ _ _ (by omega) (by omega) h
  · skip
    refine V_aload_n d_law_713 rfl ?_
    refine V_aload_n d_law_714 rfl ?_
    refine V_iload d_law_715 rfl ?_
    refine V_iconst d_law_717 ?_
    refine J_iadd d_law_718 ?_
    refine V_sld (j := i + 1) d_law_719 rfl (by omega) hL ?_
    refine V_aload_n d_law_720 rfl ?_
    refine V_iload d_law_721 rfl ?_
    refine V_iconst d_law_723 ?_
    refine J_iadd d_law_724 ?_
    refine V_sld (j := i + 2) d_law_725 rfl (by omega) hL ?_
    refine V_aload_n d_law_726 rfl ?_
    refine V_iload d_law_727 rfl ?_
    refine V_iconst d_law_729 ?_
    refine J_iadd d_law_730 ?_
    refine V_sld (j := i + 3) d_law_731 rfl (by omega) hL ?_
    refine V_aload_n d_law_732 rfl ?_
    refine V_iload d_law_733 rfl ?_
    refine V_iconst d_law_735 ?_
    refine J_iadd d_law_736 ?_
    refine V_sld (j := i + 4) d_law_737 rfl (by omega) hL ?_
    refine V_aload_n d_law_738 rfl ?_
    refine V_callS (n := 6) d_law_739 g_Law_105 rfl (w_plain_0 G sz B (B + 204) _ (zWl G B kd' n' t' zz' ch' md' tc' tg' pt' L' th kd n t tc ch md R o w) (Int32.ofInt (zsx G (i + 1))) (Int32.ofInt (zsx G (i + 2))) (Int32.ofInt (zsx G (i + 3))) (Int32.ofInt (zsx G (i + 4))) v o zsys_x0 zWl_D hv (hc sz (zqs G (B + 186) th kd n t tc ch md R (zset w (B + 204) (zro G 1 o))))) ⟨co_Law_plain, by decide +kernel, (Nat.le_of_ble_eq_true rfl)⟩ ⟨Nat.le_of_ble_eq_true rfl, Nat.le_of_ble_eq_true rfl, (by show _ + (1 : Nat) ≤ (601024 : Nat); omega), (by show _ + (6 : Nat) ≤ (7293033 : Nat); omega)⟩ (Nat.le_of_ble_eq_true rfl) (fun r1 w1 s1 q => ?_) (fun _ _ _ q => by exact False.elim q)
    obtain ⟨rfl, rfl, rfl⟩ := q
    refine V_w zWl_out ?_
    refine V_k (kc' := kc) (ks' := ks) rfl rfl rfl ?_
    refine V_istore d_law_742 (by decide) ?_
    refine V_aload_n d_law_744 rfl ?_
    refine V_aload_n d_law_745 rfl ?_
    refine V_iload d_law_746 rfl ?_
    refine V_iconst d_law_748 ?_
    refine J_iadd d_law_749 ?_
    refine V_sld (j := i + 1) d_law_750 rfl (by omega) hL ?_
    refine V_aload_n d_law_751 rfl ?_
    refine V_iload d_law_752 rfl ?_
    refine V_iconst d_law_754 ?_
    refine J_iadd d_law_755 ?_
    refine V_sld (j := i + 2) d_law_756 rfl (by omega) hL ?_
    refine V_aload_n d_law_757 rfl ?_
    refine V_iload d_law_758 rfl ?_
    refine V_iconst d_law_760 ?_
    refine J_iadd d_law_761 ?_
    refine V_sld (j := i + 3) d_law_762 rfl (by omega) hL ?_
    refine V_aload_n d_law_763 rfl ?_
    refine V_iload d_law_764 rfl ?_
    refine V_iconst d_law_766 ?_
    refine J_iadd d_law_767 ?_
    refine V_sld (j := i + 4) d_law_768 rfl (by omega) hL ?_
    refine V_w zWl_q ?_
    refine V_callV (n := 4) d_law_769 g_Law_107 rfl zqs_o rfl (hr (B + 186) th sz (zsys G B kd' n' t' zz' ch' md' tc' tg' pt' L' (zset w (B + 204) (zro G 1 (zu o 0 v))))) ⟨co_Ref_plain, by decide +kernel, (Nat.le_of_ble_eq_true rfl)⟩ ⟨Nat.le_of_ble_eq_true rfl, Nat.le_of_ble_eq_true rfl, (by show _ + (0 : Nat) ≤ (601024 : Nat); omega), (by show _ + (0 : Nat) ≤ (7293033 : Nat); omega)⟩ (Nat.le_of_ble_eq_true rfl) (fun r1 w1 s1 q => ?_) (fun _ _ _ q => False.elim q)
    obtain ⟨rfl, rfl, rfl⟩ := q
    refine V_k (kc' := kc) (ks' := ks) rfl rfl rfl ?_
    refine V_w (zWl_q (kd := kd') (n := n') (t := t') (zz := zz') (ch := ch') (md := md') (tc := tc') (tg := tg') (pt := pt') (L := L') (th := 0) (kd2 := kd') (n2 := n') (t2 := t') (tc2 := tc') (ch2 := ch') (md2 := md') (R := R') (o := (zu o 0 v)) (w := w)).symm ?_
    refine V_istore d_law_772 (by decide) ?_
    refine V_aload_n d_law_774 rfl ?_
    refine V_w zWl_q ?_
    refine V_callV (n := 0) d_law_775 g_Law_72 rfl zqs_o rfl (r_thrown G sz (B + 186) 0 kd' n' t' tc' ch' md' R' (zsys G B kd' n' t' zz' ch' md' tc' tg' pt' L' (zset w (B + 204) (zro G 1 (zu o 0 v))))) ⟨co_Ref_thrown, by decide +kernel, (Nat.le_of_ble_eq_true rfl)⟩ ⟨Nat.le_of_ble_eq_true rfl, Nat.le_of_ble_eq_true rfl, (by show _ + (0 : Nat) ≤ (601024 : Nat); omega), (by show _ + (0 : Nat) ≤ (7293033 : Nat); omega)⟩ (Nat.le_of_ble_eq_true rfl) (fun r1 w1 s1 q => ?_) (fun _ _ _ q => False.elim q)
    obtain ⟨rfl, rfl, rfl⟩ := q
    refine V_k (kc' := kc) (ks' := ks) rfl rfl rfl ?_
    refine V_w zWl_q.symm ?_
    refine V_iload d_law_778 rfl ?_
    refine J_icmp_eq 785 d_law_780 (by decide) (by decide) (by decide) (fun c_780 => ?_) (fun c_780 => absurd rfl c_780)
    refine V_iload d_law_785 rfl ?_
    refine J_if_ne 802 d_law_787 (by decide) (by decide) (fun c_787 => absurd rfl c_787) (fun c_787 => ?_)
    refine V_aload_n d_law_790 rfl ?_
    refine V_iconst d_law_791 ?_
    refine J_laload d_law_792 zWl_D (by decide) (by decide) ?_
    refine V_iload d_law_793 rfl ?_
    refine J_i2l d_law_795 hv ?_
    rw [zu_s]
    refine JL_eq 802 d_law_796 d_law_797 (by decide) (by omega) (by omega) (fun c_796 => ?_) (fun c_796 => absurd rfl c_796)
    refine V_goto 1182 d_law_802 (by decide) ?_
    refine J_iinc d_law_1182 rfl (by decide) ?_
    refine V_goto 23 d_law_1185 (by decide) ?_
    refine V_lo (lo' := zloc G B (i + 5)) [0, 1, 2, 3, 4] rfl ?_
    exact hq _ _ _ _ _ _ _ _ _ _ _ _ _ _ _ _ _ (by omega) (by omega) hI

set_option maxRecDepth 100000 in
set_option maxHeartbeats 4000000 in
theorem l_shrink (G : zG) (B : Nat) (w : zW) (hL : G.2.2.2 100001 ≤ 2560) (i : Nat) (hi : i + 5 ≤ G.2.2.2 100001) (hq : zQl G B w (i + 5)) (kc ks sz : Nat) (kd n t zz : Int) (ch : Int32) (md tc : Int) (tg pt : Nat → Int) (L R : Nat → Int → Int) (nn : Nat) (th : Int) (o : Int → Int) (hkc : kc ≤ 1000 + i) (hks : ks ≤ 100000 + 6 * i) (h : zI kd n t zz md tc tg pt L R nn) : V G M_law zKl room_1 kc ks sz 805 (zloc G B i) [] (zWl G B kd n t zz ch md tc tg pt L th kd n t tc ch md R o w) := by
  rcases p_shrink G B kd n t zz ch md tc tg pt L R nn h (zsx G (i + 1)) (zsx G (i + 2)) (zsx_b G _) (zsx_b G _) with ⟨e, cd, hx, hc, hr⟩ | ⟨v, kd', n', t', zz', ch', md', tc', tg', pt', L', R', nn', hv, hI, hc, hr⟩
  · simp only [List.mem_cons, Prod.mk.injEq, List.not_mem_nil, or_false] at hx
    rcases hx with ⟨rfl, rfl⟩ | ⟨rfl, rfl⟩
    · skip
      refine V_aload_n d_law_805 rfl ?_
      refine V_aload_n d_law_806 rfl ?_
      refine V_iload d_law_807 rfl ?_
      refine V_iconst d_law_809 ?_
      refine J_iadd d_law_810 ?_
      refine V_sld (j := i + 1) d_law_811 rfl (by omega) hL ?_
      refine V_aload_n d_law_812 rfl ?_
      refine V_iload d_law_813 rfl ?_
      refine V_iconst d_law_815 ?_
      refine J_iadd d_law_816 ?_
      refine V_sld (j := i + 2) d_law_817 rfl (by omega) hL ?_
      refine V_aload_n d_law_818 rfl ?_
      refine V_callS (n := 4) d_law_819 g_Law_108 rfl (w_shrink_1 G sz B (B + 204) _ (Int32.ofInt (zsx G (i + 1))) (Int32.ofInt (zsx G (i + 2))) zsys_x0 (hc sz (zqs G (B + 186) th kd n t tc ch md R (zset w (B + 204) (zro G 1 o))))) ⟨co_Law_shrink, by decide +kernel, (Nat.le_of_ble_eq_true rfl)⟩ ⟨Nat.le_of_ble_eq_true rfl, Nat.le_of_ble_eq_true rfl, (by show _ + (1 : Nat) ≤ (601024 : Nat); omega), (by show _ + (6 : Nat) ≤ (7293033 : Nat); omega)⟩ (Nat.le_of_ble_eq_true rfl) (fun r1 w1 s1 q => ?_) (fun _ _ _ q => by cases q.1)
      obtain ⟨q1, q2, q3⟩ := q
      cases q1
      subst q2
      subst q3
      refine V_k (kc' := kc + 1) (ks' := ks + 6) rfl rfl rfl ?_
      refine V_istore d_law_822 (by decide) ?_
      refine V_aload_n d_law_824 rfl ?_
      refine V_aload_n d_law_825 rfl ?_
      refine V_iload d_law_826 rfl ?_
      refine V_iconst d_law_828 ?_
      refine J_iadd d_law_829 ?_
      refine V_sld (j := i + 1) d_law_830 rfl (by omega) hL ?_
      refine V_aload_n d_law_831 rfl ?_
      refine V_iload d_law_832 rfl ?_
      refine V_iconst d_law_834 ?_
      refine J_iadd d_law_835 ?_
      refine V_sld (j := i + 2) d_law_836 rfl (by omega) hL ?_
      refine V_w zWl_q ?_
      refine V_callV (n := 2) d_law_837 g_Law_110 rfl zqs_o rfl (hr (B + 186) th (sz + 1) (zsys G B kd n t zz ch md tc tg pt L (zset w (B + 204) (zro G 1 o)))) ⟨co_Ref_shrink, by decide +kernel, (Nat.le_of_ble_eq_true rfl)⟩ ⟨Nat.le_of_ble_eq_true rfl, Nat.le_of_ble_eq_true rfl, (by show _ + (0 : Nat) ≤ (601024 : Nat); omega), (by show _ + (0 : Nat) ≤ (7293033 : Nat); omega)⟩ (Nat.le_of_ble_eq_true rfl) (fun r1 w1 s1 q => ?_) (fun _ _ _ q => False.elim q)
      obtain ⟨rfl, rfl, rfl⟩ := q
      refine V_k (kc' := kc + 1) (ks' := ks + 6) rfl rfl rfl ?_
      refine V_w (zWl_q (kd := kd) (n := n) (t := t) (zz := zz) (ch := ch) (md := md) (tc := tc) (tg := tg) (pt := pt) (L := L) (th := 1) (kd2 := kd) (n2 := n) (t2 := t) (tc2 := tc) (ch2 := ch) (md2 := md) (R := R) (o := o) (w := w)).symm ?_
      refine V_istore d_law_840 (by decide) ?_
      refine V_aload_n d_law_842 rfl ?_
      refine V_w zWl_q ?_
      refine V_callV (n := 0) d_law_843 g_Law_72 rfl zqs_o rfl (r_thrown G (sz + 1) (B + 186) 1 kd n t tc ch md R (zsys G B kd n t zz ch md tc tg pt L (zset w (B + 204) (zro G 1 o)))) ⟨co_Ref_thrown, by decide +kernel, (Nat.le_of_ble_eq_true rfl)⟩ ⟨Nat.le_of_ble_eq_true rfl, Nat.le_of_ble_eq_true rfl, (by show _ + (0 : Nat) ≤ (601024 : Nat); omega), (by show _ + (0 : Nat) ≤ (7293033 : Nat); omega)⟩ (Nat.le_of_ble_eq_true rfl) (fun r1 w1 s1 q => ?_) (fun _ _ _ q => False.elim q)
      obtain ⟨rfl, rfl, rfl⟩ := q
      refine V_k (kc' := kc + 1) (ks' := ks + 6) rfl rfl rfl ?_
      refine V_w zWl_q.symm ?_
      refine V_iload d_law_846 rfl ?_
      refine J_icmp_eq 853 d_law_848 (by decide) (by decide) (by decide) (fun c_848 => ?_) (fun c_848 => absurd rfl c_848)
      refine V_iload d_law_853 rfl ?_
      refine J_if_ne 870 d_law_855 (by decide) (by decide) (fun c_855 => ?_) (fun c_855 => absurd c_855 (by decide))
      refine V_goto 1182 d_law_870 (by decide) ?_
      refine J_iinc d_law_1182 rfl (by decide) ?_
      refine V_goto 23 d_law_1185 (by decide) ?_
      refine V_lo (lo' := zloc G B (i + 5)) [0, 1, 2, 3, 4] rfl ?_
      exact hq _ _ _ _ _ _ _ _ _ _ _ _ _ _ _ _ _ (by omega) (by omega) h
    · skip
      refine V_aload_n d_law_805 rfl ?_
      refine V_aload_n d_law_806 rfl ?_
      refine V_iload d_law_807 rfl ?_
      refine V_iconst d_law_809 ?_
      refine J_iadd d_law_810 ?_
      refine V_sld (j := i + 1) d_law_811 rfl (by omega) hL ?_
      refine V_aload_n d_law_812 rfl ?_
      refine V_iload d_law_813 rfl ?_
      refine V_iconst d_law_815 ?_
      refine J_iadd d_law_816 ?_
      refine V_sld (j := i + 2) d_law_817 rfl (by omega) hL ?_
      refine V_aload_n d_law_818 rfl ?_
      refine V_callS (n := 4) d_law_819 g_Law_108 rfl (w_shrink_2 G sz B (B + 204) _ (Int32.ofInt (zsx G (i + 1))) (Int32.ofInt (zsx G (i + 2))) zsys_x0 (hc sz (zqs G (B + 186) th kd n t tc ch md R (zset w (B + 204) (zro G 1 o))))) ⟨co_Law_shrink, by decide +kernel, (Nat.le_of_ble_eq_true rfl)⟩ ⟨Nat.le_of_ble_eq_true rfl, Nat.le_of_ble_eq_true rfl, (by show _ + (1 : Nat) ≤ (601024 : Nat); omega), (by show _ + (6 : Nat) ≤ (7293033 : Nat); omega)⟩ (Nat.le_of_ble_eq_true rfl) (fun r1 w1 s1 q => ?_) (fun _ _ _ q => by cases q.1)
      obtain ⟨q1, q2, q3⟩ := q
      cases q1
      subst q2
      subst q3
      refine V_k (kc' := kc + 1) (ks' := ks + 6) rfl rfl rfl ?_
      refine V_istore d_law_822 (by decide) ?_
      refine V_aload_n d_law_824 rfl ?_
      refine V_aload_n d_law_825 rfl ?_
      refine V_iload d_law_826 rfl ?_
      refine V_iconst d_law_828 ?_
      refine J_iadd d_law_829 ?_
      refine V_sld (j := i + 1) d_law_830 rfl (by omega) hL ?_
      refine V_aload_n d_law_831 rfl ?_
      refine V_iload d_law_832 rfl ?_
      refine V_iconst d_law_834 ?_
      refine J_iadd d_law_835 ?_
      refine V_sld (j := i + 2) d_law_836 rfl (by omega) hL ?_
      refine V_w zWl_q ?_
      refine V_callV (n := 2) d_law_837 g_Law_110 rfl zqs_o rfl (hr (B + 186) th (sz + 1) (zsys G B kd n t zz ch md tc tg pt L (zset w (B + 204) (zro G 1 o)))) ⟨co_Ref_shrink, by decide +kernel, (Nat.le_of_ble_eq_true rfl)⟩ ⟨Nat.le_of_ble_eq_true rfl, Nat.le_of_ble_eq_true rfl, (by show _ + (0 : Nat) ≤ (601024 : Nat); omega), (by show _ + (0 : Nat) ≤ (7293033 : Nat); omega)⟩ (Nat.le_of_ble_eq_true rfl) (fun r1 w1 s1 q => ?_) (fun _ _ _ q => False.elim q)
      obtain ⟨rfl, rfl, rfl⟩ := q
      refine V_k (kc' := kc + 1) (ks' := ks + 6) rfl rfl rfl ?_
      refine V_w (zWl_q (kd := kd) (n := n) (t := t) (zz := zz) (ch := ch) (md := md) (tc := tc) (tg := tg) (pt := pt) (L := L) (th := 2) (kd2 := kd) (n2 := n) (t2 := t) (tc2 := tc) (ch2 := ch) (md2 := md) (R := R) (o := o) (w := w)).symm ?_
      refine V_istore d_law_840 (by decide) ?_
      refine V_aload_n d_law_842 rfl ?_
      refine V_w zWl_q ?_
      refine V_callV (n := 0) d_law_843 g_Law_72 rfl zqs_o rfl (r_thrown G (sz + 1) (B + 186) 2 kd n t tc ch md R (zsys G B kd n t zz ch md tc tg pt L (zset w (B + 204) (zro G 1 o)))) ⟨co_Ref_thrown, by decide +kernel, (Nat.le_of_ble_eq_true rfl)⟩ ⟨Nat.le_of_ble_eq_true rfl, Nat.le_of_ble_eq_true rfl, (by show _ + (0 : Nat) ≤ (601024 : Nat); omega), (by show _ + (0 : Nat) ≤ (7293033 : Nat); omega)⟩ (Nat.le_of_ble_eq_true rfl) (fun r1 w1 s1 q => ?_) (fun _ _ _ q => False.elim q)
      obtain ⟨rfl, rfl, rfl⟩ := q
      refine V_k (kc' := kc + 1) (ks' := ks + 6) rfl rfl rfl ?_
      refine V_w zWl_q.symm ?_
      refine V_iload d_law_846 rfl ?_
      refine J_icmp_eq 853 d_law_848 (by decide) (by decide) (by decide) (fun c_848 => ?_) (fun c_848 => absurd rfl c_848)
      refine V_iload d_law_853 rfl ?_
      refine J_if_ne 870 d_law_855 (by decide) (by decide) (fun c_855 => ?_) (fun c_855 => absurd c_855 (by decide))
      refine V_goto 1182 d_law_870 (by decide) ?_
      refine J_iinc d_law_1182 rfl (by decide) ?_
      refine V_goto 23 d_law_1185 (by decide) ?_
      refine V_lo (lo' := zloc G B (i + 5)) [0, 1, 2, 3, 4] rfl ?_
      exact hq _ _ _ _ _ _ _ _ _ _ _ _ _ _ _ _ _ (by omega) (by omega) h
  · skip
    refine V_aload_n d_law_805 rfl ?_
    refine V_aload_n d_law_806 rfl ?_
    refine V_iload d_law_807 rfl ?_
    refine V_iconst d_law_809 ?_
    refine J_iadd d_law_810 ?_
    refine V_sld (j := i + 1) d_law_811 rfl (by omega) hL ?_
    refine V_aload_n d_law_812 rfl ?_
    refine V_iload d_law_813 rfl ?_
    refine V_iconst d_law_815 ?_
    refine J_iadd d_law_816 ?_
    refine V_sld (j := i + 2) d_law_817 rfl (by omega) hL ?_
    refine V_aload_n d_law_818 rfl ?_
    refine V_callS (n := 4) d_law_819 g_Law_108 rfl (w_shrink_0 G sz B (B + 204) _ (zWl G B kd' n' t' zz' ch' md' tc' tg' pt' L' th kd n t tc ch md R o w) (Int32.ofInt (zsx G (i + 1))) (Int32.ofInt (zsx G (i + 2))) v o zsys_x0 zWl_D hv (hc sz (zqs G (B + 186) th kd n t tc ch md R (zset w (B + 204) (zro G 1 o))))) ⟨co_Law_shrink, by decide +kernel, (Nat.le_of_ble_eq_true rfl)⟩ ⟨Nat.le_of_ble_eq_true rfl, Nat.le_of_ble_eq_true rfl, (by show _ + (1 : Nat) ≤ (601024 : Nat); omega), (by show _ + (6 : Nat) ≤ (7293033 : Nat); omega)⟩ (Nat.le_of_ble_eq_true rfl) (fun r1 w1 s1 q => ?_) (fun _ _ _ q => by exact False.elim q)
    obtain ⟨rfl, rfl, rfl⟩ := q
    refine V_w zWl_out ?_
    refine V_k (kc' := kc) (ks' := ks) rfl rfl rfl ?_
    refine V_istore d_law_822 (by decide) ?_
    refine V_aload_n d_law_824 rfl ?_
    refine V_aload_n d_law_825 rfl ?_
    refine V_iload d_law_826 rfl ?_
    refine V_iconst d_law_828 ?_
    refine J_iadd d_law_829 ?_
    refine V_sld (j := i + 1) d_law_830 rfl (by omega) hL ?_
    refine V_aload_n d_law_831 rfl ?_
    refine V_iload d_law_832 rfl ?_
    refine V_iconst d_law_834 ?_
    refine J_iadd d_law_835 ?_
    refine V_sld (j := i + 2) d_law_836 rfl (by omega) hL ?_
    refine V_w zWl_q ?_
    refine V_callV (n := 2) d_law_837 g_Law_110 rfl zqs_o rfl (hr (B + 186) th sz (zsys G B kd' n' t' zz' ch' md' tc' tg' pt' L' (zset w (B + 204) (zro G 1 (zu o 0 v))))) ⟨co_Ref_shrink, by decide +kernel, (Nat.le_of_ble_eq_true rfl)⟩ ⟨Nat.le_of_ble_eq_true rfl, Nat.le_of_ble_eq_true rfl, (by show _ + (0 : Nat) ≤ (601024 : Nat); omega), (by show _ + (0 : Nat) ≤ (7293033 : Nat); omega)⟩ (Nat.le_of_ble_eq_true rfl) (fun r1 w1 s1 q => ?_) (fun _ _ _ q => False.elim q)
    obtain ⟨rfl, rfl, rfl⟩ := q
    refine V_k (kc' := kc) (ks' := ks) rfl rfl rfl ?_
    refine V_w (zWl_q (kd := kd') (n := n') (t := t') (zz := zz') (ch := ch') (md := md') (tc := tc') (tg := tg') (pt := pt') (L := L') (th := 0) (kd2 := kd') (n2 := n') (t2 := t') (tc2 := tc') (ch2 := ch') (md2 := md') (R := R') (o := (zu o 0 v)) (w := w)).symm ?_
    refine V_istore d_law_840 (by decide) ?_
    refine V_aload_n d_law_842 rfl ?_
    refine V_w zWl_q ?_
    refine V_callV (n := 0) d_law_843 g_Law_72 rfl zqs_o rfl (r_thrown G sz (B + 186) 0 kd' n' t' tc' ch' md' R' (zsys G B kd' n' t' zz' ch' md' tc' tg' pt' L' (zset w (B + 204) (zro G 1 (zu o 0 v))))) ⟨co_Ref_thrown, by decide +kernel, (Nat.le_of_ble_eq_true rfl)⟩ ⟨Nat.le_of_ble_eq_true rfl, Nat.le_of_ble_eq_true rfl, (by show _ + (0 : Nat) ≤ (601024 : Nat); omega), (by show _ + (0 : Nat) ≤ (7293033 : Nat); omega)⟩ (Nat.le_of_ble_eq_true rfl) (fun r1 w1 s1 q => ?_) (fun _ _ _ q => False.elim q)
    obtain ⟨rfl, rfl, rfl⟩ := q
    refine V_k (kc' := kc) (ks' := ks) rfl rfl rfl ?_
    refine V_w zWl_q.symm ?_
    refine V_iload d_law_846 rfl ?_
    refine J_icmp_eq 853 d_law_848 (by decide) (by decide) (by decide) (fun c_848 => ?_) (fun c_848 => absurd rfl c_848)
    refine V_iload d_law_853 rfl ?_
    refine J_if_ne 870 d_law_855 (by decide) (by decide) (fun c_855 => absurd rfl c_855) (fun c_855 => ?_)
    refine V_aload_n d_law_858 rfl ?_
    refine V_iconst d_law_859 ?_
    refine J_laload d_law_860 zWl_D (by decide) (by decide) ?_
    refine V_iload d_law_861 rfl ?_
    refine J_i2l d_law_863 hv ?_
    rw [zu_s]
    refine JL_eq 870 d_law_864 d_law_865 (by decide) (by omega) (by omega) (fun c_864 => ?_) (fun c_864 => absurd rfl c_864)
    refine V_goto 1182 d_law_870 (by decide) ?_
    refine J_iinc d_law_1182 rfl (by decide) ?_
    refine V_goto 23 d_law_1185 (by decide) ?_
    refine V_lo (lo' := zloc G B (i + 5)) [0, 1, 2, 3, 4] rfl ?_
    exact hq _ _ _ _ _ _ _ _ _ _ _ _ _ _ _ _ _ (by omega) (by omega) hI

set_option maxRecDepth 100000 in
set_option maxHeartbeats 4000000 in
theorem l_turn (G : zG) (B : Nat) (w : zW) (hL : G.2.2.2 100001 ≤ 2560) (i : Nat) (hi : i + 5 ≤ G.2.2.2 100001) (hq : zQl G B w (i + 5)) (kc ks sz : Nat) (kd n t zz : Int) (ch : Int32) (md tc : Int) (tg pt : Nat → Int) (L R : Nat → Int → Int) (nn : Nat) (th : Int) (o : Int → Int) (hkc : kc ≤ 1000 + i) (hks : ks ≤ 100000 + 6 * i) (h : zI kd n t zz md tc tg pt L R nn) : V G M_law zKl room_1 kc ks sz 873 (zloc G B i) [] (zWl G B kd n t zz ch md tc tg pt L th kd n t tc ch md R o w) := by
  rcases p_turn G B kd n t zz ch md tc tg pt L R nn h (zsx G (i + 1)) (zsx G (i + 2)) (zsx G (i + 3)) (zsx_b G _) (zsx_b G _) (zsx_b G _) with ⟨e, cd, hx, hc, hr⟩ | ⟨v, kd', n', t', zz', ch', md', tc', tg', pt', L', R', nn', hv, hI, hc, hr⟩
  · simp only [List.mem_cons, Prod.mk.injEq, List.not_mem_nil, or_false] at hx
    rcases hx with ⟨rfl, rfl⟩ | ⟨rfl, rfl⟩
    · skip
      refine V_aload_n d_law_873 rfl ?_
      refine V_aload_n d_law_874 rfl ?_
      refine V_iload d_law_875 rfl ?_
      refine V_iconst d_law_877 ?_
      refine J_iadd d_law_878 ?_
      refine V_sld (j := i + 1) d_law_879 rfl (by omega) hL ?_
      refine V_aload_n d_law_880 rfl ?_
      refine V_iload d_law_881 rfl ?_
      refine V_iconst d_law_883 ?_
      refine J_iadd d_law_884 ?_
      refine V_sld (j := i + 2) d_law_885 rfl (by omega) hL ?_
      refine V_aload_n d_law_886 rfl ?_
      refine V_iload d_law_887 rfl ?_
      refine V_iconst d_law_889 ?_
      refine J_iadd d_law_890 ?_
      refine V_sld (j := i + 3) d_law_891 rfl (by omega) hL ?_
      refine V_aload_n d_law_892 rfl ?_
      refine V_callS (n := 5) d_law_893 g_Law_111 rfl (w_turn_1 G sz B (B + 204) _ (Int32.ofInt (zsx G (i + 1))) (Int32.ofInt (zsx G (i + 2))) (Int32.ofInt (zsx G (i + 3))) zsys_x0 (hc sz (zqs G (B + 186) th kd n t tc ch md R (zset w (B + 204) (zro G 1 o))))) ⟨co_Law_turn, by decide +kernel, (Nat.le_of_ble_eq_true rfl)⟩ ⟨Nat.le_of_ble_eq_true rfl, Nat.le_of_ble_eq_true rfl, (by show _ + (1 : Nat) ≤ (601024 : Nat); omega), (by show _ + (6 : Nat) ≤ (7293033 : Nat); omega)⟩ (Nat.le_of_ble_eq_true rfl) (fun r1 w1 s1 q => ?_) (fun _ _ _ q => by cases q.1)
      obtain ⟨q1, q2, q3⟩ := q
      cases q1
      subst q2
      subst q3
      refine V_k (kc' := kc + 1) (ks' := ks + 6) rfl rfl rfl ?_
      refine V_istore d_law_896 (by decide) ?_
      refine V_aload_n d_law_898 rfl ?_
      refine V_aload_n d_law_899 rfl ?_
      refine V_iload d_law_900 rfl ?_
      refine V_iconst d_law_902 ?_
      refine J_iadd d_law_903 ?_
      refine V_sld (j := i + 1) d_law_904 rfl (by omega) hL ?_
      refine V_aload_n d_law_905 rfl ?_
      refine V_iload d_law_906 rfl ?_
      refine V_iconst d_law_908 ?_
      refine J_iadd d_law_909 ?_
      refine V_sld (j := i + 2) d_law_910 rfl (by omega) hL ?_
      refine V_aload_n d_law_911 rfl ?_
      refine V_iload d_law_912 rfl ?_
      refine V_iconst d_law_914 ?_
      refine J_iadd d_law_915 ?_
      refine V_sld (j := i + 3) d_law_916 rfl (by omega) hL ?_
      refine V_w zWl_q ?_
      refine V_callV (n := 3) d_law_917 g_Law_113 rfl zqs_o rfl (hr (B + 186) th (sz + 1) (zsys G B kd n t zz ch md tc tg pt L (zset w (B + 204) (zro G 1 o)))) ⟨co_Ref_turn, by decide +kernel, (Nat.le_of_ble_eq_true rfl)⟩ ⟨Nat.le_of_ble_eq_true rfl, Nat.le_of_ble_eq_true rfl, (by show _ + (0 : Nat) ≤ (601024 : Nat); omega), (by show _ + (0 : Nat) ≤ (7293033 : Nat); omega)⟩ (Nat.le_of_ble_eq_true rfl) (fun r1 w1 s1 q => ?_) (fun _ _ _ q => False.elim q)
      obtain ⟨rfl, rfl, rfl⟩ := q
      refine V_k (kc' := kc + 1) (ks' := ks + 6) rfl rfl rfl ?_
      refine V_w (zWl_q (kd := kd) (n := n) (t := t) (zz := zz) (ch := ch) (md := md) (tc := tc) (tg := tg) (pt := pt) (L := L) (th := 1) (kd2 := kd) (n2 := n) (t2 := t) (tc2 := tc) (ch2 := ch) (md2 := md) (R := R) (o := o) (w := w)).symm ?_
      refine V_istore d_law_920 (by decide) ?_
      refine V_aload_n d_law_922 rfl ?_
      refine V_w zWl_q ?_
      refine V_callV (n := 0) d_law_923 g_Law_72 rfl zqs_o rfl (r_thrown G (sz + 1) (B + 186) 1 kd n t tc ch md R (zsys G B kd n t zz ch md tc tg pt L (zset w (B + 204) (zro G 1 o)))) ⟨co_Ref_thrown, by decide +kernel, (Nat.le_of_ble_eq_true rfl)⟩ ⟨Nat.le_of_ble_eq_true rfl, Nat.le_of_ble_eq_true rfl, (by show _ + (0 : Nat) ≤ (601024 : Nat); omega), (by show _ + (0 : Nat) ≤ (7293033 : Nat); omega)⟩ (Nat.le_of_ble_eq_true rfl) (fun r1 w1 s1 q => ?_) (fun _ _ _ q => False.elim q)
      obtain ⟨rfl, rfl, rfl⟩ := q
      refine V_k (kc' := kc + 1) (ks' := ks + 6) rfl rfl rfl ?_
      refine V_w zWl_q.symm ?_
      refine V_iload d_law_926 rfl ?_
      refine J_icmp_eq 933 d_law_928 (by decide) (by decide) (by decide) (fun c_928 => ?_) (fun c_928 => absurd rfl c_928)
      refine V_iload d_law_933 rfl ?_
      refine J_if_ne 950 d_law_935 (by decide) (by decide) (fun c_935 => ?_) (fun c_935 => absurd c_935 (by decide))
      refine V_goto 1182 d_law_950 (by decide) ?_
      refine J_iinc d_law_1182 rfl (by decide) ?_
      refine V_goto 23 d_law_1185 (by decide) ?_
      refine V_lo (lo' := zloc G B (i + 5)) [0, 1, 2, 3, 4] rfl ?_
      exact hq _ _ _ _ _ _ _ _ _ _ _ _ _ _ _ _ _ (by omega) (by omega) h
    · skip
      refine V_aload_n d_law_873 rfl ?_
      refine V_aload_n d_law_874 rfl ?_
      refine V_iload d_law_875 rfl ?_
      refine V_iconst d_law_877 ?_
      refine J_iadd d_law_878 ?_
      refine V_sld (j := i + 1) d_law_879 rfl (by omega) hL ?_
      refine V_aload_n d_law_880 rfl ?_
      refine V_iload d_law_881 rfl ?_
      refine V_iconst d_law_883 ?_
      refine J_iadd d_law_884 ?_
      refine V_sld (j := i + 2) d_law_885 rfl (by omega) hL ?_
      refine V_aload_n d_law_886 rfl ?_
      refine V_iload d_law_887 rfl ?_
      refine V_iconst d_law_889 ?_
      refine J_iadd d_law_890 ?_
      refine V_sld (j := i + 3) d_law_891 rfl (by omega) hL ?_
      refine V_aload_n d_law_892 rfl ?_
      refine V_callS (n := 5) d_law_893 g_Law_111 rfl (w_turn_2 G sz B (B + 204) _ (Int32.ofInt (zsx G (i + 1))) (Int32.ofInt (zsx G (i + 2))) (Int32.ofInt (zsx G (i + 3))) zsys_x0 (hc sz (zqs G (B + 186) th kd n t tc ch md R (zset w (B + 204) (zro G 1 o))))) ⟨co_Law_turn, by decide +kernel, (Nat.le_of_ble_eq_true rfl)⟩ ⟨Nat.le_of_ble_eq_true rfl, Nat.le_of_ble_eq_true rfl, (by show _ + (1 : Nat) ≤ (601024 : Nat); omega), (by show _ + (6 : Nat) ≤ (7293033 : Nat); omega)⟩ (Nat.le_of_ble_eq_true rfl) (fun r1 w1 s1 q => ?_) (fun _ _ _ q => by cases q.1)
      obtain ⟨q1, q2, q3⟩ := q
      cases q1
      subst q2
      subst q3
      refine V_k (kc' := kc + 1) (ks' := ks + 6) rfl rfl rfl ?_
      refine V_istore d_law_896 (by decide) ?_
      refine V_aload_n d_law_898 rfl ?_
      refine V_aload_n d_law_899 rfl ?_
      refine V_iload d_law_900 rfl ?_
      refine V_iconst d_law_902 ?_
      refine J_iadd d_law_903 ?_
      refine V_sld (j := i + 1) d_law_904 rfl (by omega) hL ?_
      refine V_aload_n d_law_905 rfl ?_
      refine V_iload d_law_906 rfl ?_
      refine V_iconst d_law_908 ?_
      refine J_iadd d_law_909 ?_
      refine V_sld (j := i + 2) d_law_910 rfl (by omega) hL ?_
      refine V_aload_n d_law_911 rfl ?_
      refine V_iload d_law_912 rfl ?_
      refine V_iconst d_law_914 ?_
      refine J_iadd d_law_915 ?_
      refine V_sld (j := i + 3) d_law_916 rfl (by omega) hL ?_
      refine V_w zWl_q ?_
      refine V_callV (n := 3) d_law_917 g_Law_113 rfl zqs_o rfl (hr (B + 186) th (sz + 1) (zsys G B kd n t zz ch md tc tg pt L (zset w (B + 204) (zro G 1 o)))) ⟨co_Ref_turn, by decide +kernel, (Nat.le_of_ble_eq_true rfl)⟩ ⟨Nat.le_of_ble_eq_true rfl, Nat.le_of_ble_eq_true rfl, (by show _ + (0 : Nat) ≤ (601024 : Nat); omega), (by show _ + (0 : Nat) ≤ (7293033 : Nat); omega)⟩ (Nat.le_of_ble_eq_true rfl) (fun r1 w1 s1 q => ?_) (fun _ _ _ q => False.elim q)
      obtain ⟨rfl, rfl, rfl⟩ := q
      refine V_k (kc' := kc + 1) (ks' := ks + 6) rfl rfl rfl ?_
      refine V_w (zWl_q (kd := kd) (n := n) (t := t) (zz := zz) (ch := ch) (md := md) (tc := tc) (tg := tg) (pt := pt) (L := L) (th := 2) (kd2 := kd) (n2 := n) (t2 := t) (tc2 := tc) (ch2 := ch) (md2 := md) (R := R) (o := o) (w := w)).symm ?_
      refine V_istore d_law_920 (by decide) ?_
      refine V_aload_n d_law_922 rfl ?_
      refine V_w zWl_q ?_
      refine V_callV (n := 0) d_law_923 g_Law_72 rfl zqs_o rfl (r_thrown G (sz + 1) (B + 186) 2 kd n t tc ch md R (zsys G B kd n t zz ch md tc tg pt L (zset w (B + 204) (zro G 1 o)))) ⟨co_Ref_thrown, by decide +kernel, (Nat.le_of_ble_eq_true rfl)⟩ ⟨Nat.le_of_ble_eq_true rfl, Nat.le_of_ble_eq_true rfl, (by show _ + (0 : Nat) ≤ (601024 : Nat); omega), (by show _ + (0 : Nat) ≤ (7293033 : Nat); omega)⟩ (Nat.le_of_ble_eq_true rfl) (fun r1 w1 s1 q => ?_) (fun _ _ _ q => False.elim q)
      obtain ⟨rfl, rfl, rfl⟩ := q
      refine V_k (kc' := kc + 1) (ks' := ks + 6) rfl rfl rfl ?_
      refine V_w zWl_q.symm ?_
      refine V_iload d_law_926 rfl ?_
      refine J_icmp_eq 933 d_law_928 (by decide) (by decide) (by decide) (fun c_928 => ?_) (fun c_928 => absurd rfl c_928)
      refine V_iload d_law_933 rfl ?_
      refine J_if_ne 950 d_law_935 (by decide) (by decide) (fun c_935 => ?_) (fun c_935 => absurd c_935 (by decide))
      refine V_goto 1182 d_law_950 (by decide) ?_
      refine J_iinc d_law_1182 rfl (by decide) ?_
      refine V_goto 23 d_law_1185 (by decide) ?_
      refine V_lo (lo' := zloc G B (i + 5)) [0, 1, 2, 3, 4] rfl ?_
      exact hq _ _ _ _ _ _ _ _ _ _ _ _ _ _ _ _ _ (by omega) (by omega) h
  · skip
    refine V_aload_n d_law_873 rfl ?_
    refine V_aload_n d_law_874 rfl ?_
    refine V_iload d_law_875 rfl ?_
    refine V_iconst d_law_877 ?_
    refine J_iadd d_law_878 ?_
    refine V_sld (j := i + 1) d_law_879 rfl (by omega) hL ?_
    refine V_aload_n d_law_880 rfl ?_
    refine V_iload d_law_881 rfl ?_
    refine V_iconst d_law_883 ?_
    refine J_iadd d_law_884 ?_
    refine V_sld (j := i + 2) d_law_885 rfl (by omega) hL ?_
    refine V_aload_n d_law_886 rfl ?_
    refine V_iload d_law_887 rfl ?_
    refine V_iconst d_law_889 ?_
    refine J_iadd d_law_890 ?_
    refine V_sld (j := i + 3) d_law_891 rfl (by omega) hL ?_
    refine V_aload_n d_law_892 rfl ?_
    refine V_callS (n := 5) d_law_893 g_Law_111 rfl (w_turn_0 G sz B (B + 204) _ (zWl G B kd' n' t' zz' ch' md' tc' tg' pt' L' th kd n t tc ch md R o w) (Int32.ofInt (zsx G (i + 1))) (Int32.ofInt (zsx G (i + 2))) (Int32.ofInt (zsx G (i + 3))) v o zsys_x0 zWl_D hv (hc sz (zqs G (B + 186) th kd n t tc ch md R (zset w (B + 204) (zro G 1 o))))) ⟨co_Law_turn, by decide +kernel, (Nat.le_of_ble_eq_true rfl)⟩ ⟨Nat.le_of_ble_eq_true rfl, Nat.le_of_ble_eq_true rfl, (by show _ + (1 : Nat) ≤ (601024 : Nat); omega), (by show _ + (6 : Nat) ≤ (7293033 : Nat); omega)⟩ (Nat.le_of_ble_eq_true rfl) (fun r1 w1 s1 q => ?_) (fun _ _ _ q => by exact False.elim q)
    obtain ⟨rfl, rfl, rfl⟩ := q
    refine V_w zWl_out ?_
    refine V_k (kc' := kc) (ks' := ks) rfl rfl rfl ?_
    refine V_istore d_law_896 (by decide) ?_
    refine V_aload_n d_law_898 rfl ?_
    refine V_aload_n d_law_899 rfl ?_
    refine V_iload d_law_900 rfl ?_
    refine V_iconst d_law_902 ?_
    refine J_iadd d_law_903 ?_
    refine V_sld (j := i + 1) d_law_904 rfl (by omega) hL ?_
    refine V_aload_n d_law_905 rfl ?_
    refine V_iload d_law_906 rfl ?_
    refine V_iconst d_law_908 ?_
    refine J_iadd d_law_909 ?_
    refine V_sld (j := i + 2) d_law_910 rfl (by omega) hL ?_
    refine V_aload_n d_law_911 rfl ?_
    refine V_iload d_law_912 rfl ?_
    refine V_iconst d_law_914 ?_
    refine J_iadd d_law_915 ?_
    refine V_sld (j := i + 3) d_law_916 rfl (by omega) hL ?_
    refine V_w zWl_q ?_
    refine V_callV (n := 3) d_law_917 g_Law_113 rfl zqs_o rfl (hr (B + 186) th sz (zsys G B kd' n' t' zz' ch' md' tc' tg' pt' L' (zset w (B + 204) (zro G 1 (zu o 0 v))))) ⟨co_Ref_turn, by decide +kernel, (Nat.le_of_ble_eq_true rfl)⟩ ⟨Nat.le_of_ble_eq_true rfl, Nat.le_of_ble_eq_true rfl, (by show _ + (0 : Nat) ≤ (601024 : Nat); omega), (by show _ + (0 : Nat) ≤ (7293033 : Nat); omega)⟩ (Nat.le_of_ble_eq_true rfl) (fun r1 w1 s1 q => ?_) (fun _ _ _ q => False.elim q)
    obtain ⟨rfl, rfl, rfl⟩ := q
    refine V_k (kc' := kc) (ks' := ks) rfl rfl rfl ?_
    refine V_w (zWl_q (kd := kd') (n := n') (t := t') (zz := zz') (ch := ch') (md := md') (tc := tc') (tg := tg') (pt := pt') (L := L') (th := 0) (kd2 := kd') (n2 := n') (t2 := t') (tc2 := tc') (ch2 := ch') (md2 := md') (R := R') (o := (zu o 0 v)) (w := w)).symm ?_
    refine V_istore d_law_920 (by decide) ?_
    refine V_aload_n d_law_922 rfl ?_
    refine V_w zWl_q ?_
    refine V_callV (n := 0) d_law_923 g_Law_72 rfl zqs_o rfl (r_thrown G sz (B + 186) 0 kd' n' t' tc' ch' md' R' (zsys G B kd' n' t' zz' ch' md' tc' tg' pt' L' (zset w (B + 204) (zro G 1 (zu o 0 v))))) ⟨co_Ref_thrown, by decide +kernel, (Nat.le_of_ble_eq_true rfl)⟩ ⟨Nat.le_of_ble_eq_true rfl, Nat.le_of_ble_eq_true rfl, (by show _ + (0 : Nat) ≤ (601024 : Nat); omega), (by show _ + (0 : Nat) ≤ (7293033 : Nat); omega)⟩ (Nat.le_of_ble_eq_true rfl) (fun r1 w1 s1 q => ?_) (fun _ _ _ q => False.elim q)
    obtain ⟨rfl, rfl, rfl⟩ := q
    refine V_k (kc' := kc) (ks' := ks) rfl rfl rfl ?_
    refine V_w zWl_q.symm ?_
    refine V_iload d_law_926 rfl ?_
    refine J_icmp_eq 933 d_law_928 (by decide) (by decide) (by decide) (fun c_928 => ?_) (fun c_928 => absurd rfl c_928)
    refine V_iload d_law_933 rfl ?_
    refine J_if_ne 950 d_law_935 (by decide) (by decide) (fun c_935 => absurd rfl c_935) (fun c_935 => ?_)
    refine V_aload_n d_law_938 rfl ?_
    refine V_iconst d_law_939 ?_
    refine J_laload d_law_940 zWl_D (by decide) (by decide) ?_
    refine V_iload d_law_941 rfl ?_
    refine J_i2l d_law_943 hv ?_
    rw [zu_s]
    refine JL_eq 950 d_law_944 d_law_945 (by decide) (by omega) (by omega) (fun c_944 => ?_) (fun c_944 => absurd rfl c_944)
    refine V_goto 1182 d_law_950 (by decide) ?_
    refine J_iinc d_law_1182 rfl (by decide) ?_
    refine V_goto 23 d_law_1185 (by decide) ?_
    refine V_lo (lo' := zloc G B (i + 5)) [0, 1, 2, 3, 4] rfl ?_
    exact hq _ _ _ _ _ _ _ _ _ _ _ _ _ _ _ _ _ (by omega) (by omega) hI

set_option maxRecDepth 100000 in
set_option maxHeartbeats 4000000 in
theorem l_part (G : zG) (B : Nat) (w : zW) (hL : G.2.2.2 100001 ≤ 2560) (i : Nat) (hi : i + 5 ≤ G.2.2.2 100001) (hq : zQl G B w (i + 5)) (kc ks sz : Nat) (kd n t zz : Int) (ch : Int32) (md tc : Int) (tg pt : Nat → Int) (L R : Nat → Int → Int) (nn : Nat) (th : Int) (o : Int → Int) (hkc : kc ≤ 1000 + i) (hks : ks ≤ 100000 + 6 * i) (h : zI kd n t zz md tc tg pt L R nn) : V G M_law zKl room_1 kc ks sz 953 (zloc G B i) [] (zWl G B kd n t zz ch md tc tg pt L th kd n t tc ch md R o w) := by
  rcases p_part G B kd n t zz ch md tc tg pt L R nn h (zsx G (i + 1)) (zsx G (i + 2)) (zsx G (i + 3)) (zsx_b G _) (zsx_b G _) (zsx_b G _) with ⟨e, cd, hx, hc, hr⟩ | ⟨v, kd', n', t', zz', ch', md', tc', tg', pt', L', R', nn', hv, hI, hc, hr⟩
  · simp only [List.mem_cons, Prod.mk.injEq, List.not_mem_nil, or_false] at hx
    rcases hx with ⟨rfl, rfl⟩
    · skip
      refine V_aload_n d_law_953 rfl ?_
      refine V_aload_n d_law_954 rfl ?_
      refine V_iload d_law_955 rfl ?_
      refine V_iconst d_law_957 ?_
      refine J_iadd d_law_958 ?_
      refine V_sld (j := i + 1) d_law_959 rfl (by omega) hL ?_
      refine V_aload_n d_law_960 rfl ?_
      refine V_iload d_law_961 rfl ?_
      refine V_iconst d_law_963 ?_
      refine J_iadd d_law_964 ?_
      refine V_sld (j := i + 2) d_law_965 rfl (by omega) hL ?_
      refine V_aload_n d_law_966 rfl ?_
      refine V_iload d_law_967 rfl ?_
      refine V_iconst d_law_969 ?_
      refine J_iadd d_law_970 ?_
      refine V_sld (j := i + 3) d_law_971 rfl (by omega) hL ?_
      refine V_aload_n d_law_972 rfl ?_
      refine V_callS (n := 5) d_law_973 g_Law_114 rfl (w_part_1 G sz B (B + 204) _ (Int32.ofInt (zsx G (i + 1))) (Int32.ofInt (zsx G (i + 2))) (Int32.ofInt (zsx G (i + 3))) zsys_x0 (hc sz (zqs G (B + 186) th kd n t tc ch md R (zset w (B + 204) (zro G 1 o))))) ⟨co_Law_part, by decide +kernel, (Nat.le_of_ble_eq_true rfl)⟩ ⟨Nat.le_of_ble_eq_true rfl, Nat.le_of_ble_eq_true rfl, (by show _ + (1 : Nat) ≤ (601024 : Nat); omega), (by show _ + (6 : Nat) ≤ (7293033 : Nat); omega)⟩ (Nat.le_of_ble_eq_true rfl) (fun r1 w1 s1 q => ?_) (fun _ _ _ q => by cases q.1)
      obtain ⟨q1, q2, q3⟩ := q
      cases q1
      subst q2
      subst q3
      refine V_k (kc' := kc + 1) (ks' := ks + 6) rfl rfl rfl ?_
      refine V_istore d_law_976 (by decide) ?_
      refine V_aload_n d_law_978 rfl ?_
      refine V_aload_n d_law_979 rfl ?_
      refine V_iload d_law_980 rfl ?_
      refine V_iconst d_law_982 ?_
      refine J_iadd d_law_983 ?_
      refine V_sld (j := i + 1) d_law_984 rfl (by omega) hL ?_
      refine V_aload_n d_law_985 rfl ?_
      refine V_iload d_law_986 rfl ?_
      refine V_iconst d_law_988 ?_
      refine J_iadd d_law_989 ?_
      refine V_sld (j := i + 2) d_law_990 rfl (by omega) hL ?_
      refine V_aload_n d_law_991 rfl ?_
      refine V_iload d_law_992 rfl ?_
      refine V_iconst d_law_994 ?_
      refine J_iadd d_law_995 ?_
      refine V_sld (j := i + 3) d_law_996 rfl (by omega) hL ?_
      refine V_w zWl_q ?_
      refine V_callV (n := 3) d_law_997 g_Law_116 rfl zqs_o rfl (hr (B + 186) th (sz + 1) (zsys G B kd n t zz ch md tc tg pt L (zset w (B + 204) (zro G 1 o)))) ⟨co_Ref_part, by decide +kernel, (Nat.le_of_ble_eq_true rfl)⟩ ⟨Nat.le_of_ble_eq_true rfl, Nat.le_of_ble_eq_true rfl, (by show _ + (0 : Nat) ≤ (601024 : Nat); omega), (by show _ + (0 : Nat) ≤ (7293033 : Nat); omega)⟩ (Nat.le_of_ble_eq_true rfl) (fun r1 w1 s1 q => ?_) (fun _ _ _ q => False.elim q)
      obtain ⟨rfl, rfl, rfl⟩ := q
      refine V_k (kc' := kc + 1) (ks' := ks + 6) rfl rfl rfl ?_
      refine V_w (zWl_q (kd := kd) (n := n) (t := t) (zz := zz) (ch := ch) (md := md) (tc := tc) (tg := tg) (pt := pt) (L := L) (th := 1) (kd2 := kd) (n2 := n) (t2 := t) (tc2 := tc) (ch2 := ch) (md2 := md) (R := R) (o := o) (w := w)).symm ?_
      refine V_istore d_law_1000 (by decide) ?_
      refine V_aload_n d_law_1002 rfl ?_
      refine V_w zWl_q ?_
      refine V_callV (n := 0) d_law_1003 g_Law_72 rfl zqs_o rfl (r_thrown G (sz + 1) (B + 186) 1 kd n t tc ch md R (zsys G B kd n t zz ch md tc tg pt L (zset w (B + 204) (zro G 1 o)))) ⟨co_Ref_thrown, by decide +kernel, (Nat.le_of_ble_eq_true rfl)⟩ ⟨Nat.le_of_ble_eq_true rfl, Nat.le_of_ble_eq_true rfl, (by show _ + (0 : Nat) ≤ (601024 : Nat); omega), (by show _ + (0 : Nat) ≤ (7293033 : Nat); omega)⟩ (Nat.le_of_ble_eq_true rfl) (fun r1 w1 s1 q => ?_) (fun _ _ _ q => False.elim q)
      obtain ⟨rfl, rfl, rfl⟩ := q
      refine V_k (kc' := kc + 1) (ks' := ks + 6) rfl rfl rfl ?_
      refine V_w zWl_q.symm ?_
      refine V_iload d_law_1006 rfl ?_
      refine J_icmp_eq 1013 d_law_1008 (by decide) (by decide) (by decide) (fun c_1008 => ?_) (fun c_1008 => absurd rfl c_1008)
      refine V_iload d_law_1013 rfl ?_
      refine J_if_ne 1030 d_law_1015 (by decide) (by decide) (fun c_1015 => ?_) (fun c_1015 => absurd c_1015 (by decide))
      refine V_goto 1182 d_law_1030 (by decide) ?_
      refine J_iinc d_law_1182 rfl (by decide) ?_
      refine V_goto 23 d_law_1185 (by decide) ?_
      refine V_lo (lo' := zloc G B (i + 5)) [0, 1, 2, 3, 4] rfl ?_
      exact hq _ _ _ _ _ _ _ _ _ _ _ _ _ _ _ _ _ (by omega) (by omega) h
  · skip
    refine V_aload_n d_law_953 rfl ?_
    refine V_aload_n d_law_954 rfl ?_
    refine V_iload d_law_955 rfl ?_
    refine V_iconst d_law_957 ?_
    refine J_iadd d_law_958 ?_
    refine V_sld (j := i + 1) d_law_959 rfl (by omega) hL ?_
    refine V_aload_n d_law_960 rfl ?_
    refine V_iload d_law_961 rfl ?_
    refine V_iconst d_law_963 ?_
    refine J_iadd d_law_964 ?_
    refine V_sld (j := i + 2) d_law_965 rfl (by omega) hL ?_
    refine V_aload_n d_law_966 rfl ?_
    refine V_iload d_law_967 rfl ?_
    refine V_iconst d_law_969 ?_
    refine J_iadd d_law_970 ?_
    refine V_sld (j := i + 3) d_law_971 rfl (by omega) hL ?_
    refine V_aload_n d_law_972 rfl ?_
    refine V_callS (n := 5) d_law_973 g_Law_114 rfl (w_part_0 G sz B (B + 204) _ (zWl G B kd' n' t' zz' ch' md' tc' tg' pt' L' th kd n t tc ch md R o w) (Int32.ofInt (zsx G (i + 1))) (Int32.ofInt (zsx G (i + 2))) (Int32.ofInt (zsx G (i + 3))) v o zsys_x0 zWl_D hv (hc sz (zqs G (B + 186) th kd n t tc ch md R (zset w (B + 204) (zro G 1 o))))) ⟨co_Law_part, by decide +kernel, (Nat.le_of_ble_eq_true rfl)⟩ ⟨Nat.le_of_ble_eq_true rfl, Nat.le_of_ble_eq_true rfl, (by show _ + (1 : Nat) ≤ (601024 : Nat); omega), (by show _ + (6 : Nat) ≤ (7293033 : Nat); omega)⟩ (Nat.le_of_ble_eq_true rfl) (fun r1 w1 s1 q => ?_) (fun _ _ _ q => by exact False.elim q)
    obtain ⟨rfl, rfl, rfl⟩ := q
    refine V_w zWl_out ?_
    refine V_k (kc' := kc) (ks' := ks) rfl rfl rfl ?_
    refine V_istore d_law_976 (by decide) ?_
    refine V_aload_n d_law_978 rfl ?_
    refine V_aload_n d_law_979 rfl ?_
    refine V_iload d_law_980 rfl ?_
    refine V_iconst d_law_982 ?_
    refine J_iadd d_law_983 ?_
    refine V_sld (j := i + 1) d_law_984 rfl (by omega) hL ?_
    refine V_aload_n d_law_985 rfl ?_
    refine V_iload d_law_986 rfl ?_
    refine V_iconst d_law_988 ?_
    refine J_iadd d_law_989 ?_
    refine V_sld (j := i + 2) d_law_990 rfl (by omega) hL ?_
    refine V_aload_n d_law_991 rfl ?_
    refine V_iload d_law_992 rfl ?_
    refine V_iconst d_law_994 ?_
    refine J_iadd d_law_995 ?_
    refine V_sld (j := i + 3) d_law_996 rfl (by omega) hL ?_
    refine V_w zWl_q ?_
    refine V_callV (n := 3) d_law_997 g_Law_116 rfl zqs_o rfl (hr (B + 186) th sz (zsys G B kd' n' t' zz' ch' md' tc' tg' pt' L' (zset w (B + 204) (zro G 1 (zu o 0 v))))) ⟨co_Ref_part, by decide +kernel, (Nat.le_of_ble_eq_true rfl)⟩ ⟨Nat.le_of_ble_eq_true rfl, Nat.le_of_ble_eq_true rfl, (by show _ + (0 : Nat) ≤ (601024 : Nat); omega), (by show _ + (0 : Nat) ≤ (7293033 : Nat); omega)⟩ (Nat.le_of_ble_eq_true rfl) (fun r1 w1 s1 q => ?_) (fun _ _ _ q => False.elim q)
    obtain ⟨rfl, rfl, rfl⟩ := q
    refine V_k (kc' := kc) (ks' := ks) rfl rfl rfl ?_
    refine V_w (zWl_q (kd := kd') (n := n') (t := t') (zz := zz') (ch := ch') (md := md') (tc := tc') (tg := tg') (pt := pt') (L := L') (th := 0) (kd2 := kd') (n2 := n') (t2 := t') (tc2 := tc') (ch2 := ch') (md2 := md') (R := R') (o := (zu o 0 v)) (w := w)).symm ?_
    refine V_istore d_law_1000 (by decide) ?_
    refine V_aload_n d_law_1002 rfl ?_
    refine V_w zWl_q ?_
    refine V_callV (n := 0) d_law_1003 g_Law_72 rfl zqs_o rfl (r_thrown G sz (B + 186) 0 kd' n' t' tc' ch' md' R' (zsys G B kd' n' t' zz' ch' md' tc' tg' pt' L' (zset w (B + 204) (zro G 1 (zu o 0 v))))) ⟨co_Ref_thrown, by decide +kernel, (Nat.le_of_ble_eq_true rfl)⟩ ⟨Nat.le_of_ble_eq_true rfl, Nat.le_of_ble_eq_true rfl, (by show _ + (0 : Nat) ≤ (601024 : Nat); omega), (by show _ + (0 : Nat) ≤ (7293033 : Nat); omega)⟩ (Nat.le_of_ble_eq_true rfl) (fun r1 w1 s1 q => ?_) (fun _ _ _ q => False.elim q)
    obtain ⟨rfl, rfl, rfl⟩ := q
    refine V_k (kc' := kc) (ks' := ks) rfl rfl rfl ?_
    refine V_w zWl_q.symm ?_
    refine V_iload d_law_1006 rfl ?_
    refine J_icmp_eq 1013 d_law_1008 (by decide) (by decide) (by decide) (fun c_1008 => ?_) (fun c_1008 => absurd rfl c_1008)
    refine V_iload d_law_1013 rfl ?_
    refine J_if_ne 1030 d_law_1015 (by decide) (by decide) (fun c_1015 => absurd rfl c_1015) (fun c_1015 => ?_)
    refine V_aload_n d_law_1018 rfl ?_
    refine V_iconst d_law_1019 ?_
    refine J_laload d_law_1020 zWl_D (by decide) (by decide) ?_
    refine V_iload d_law_1021 rfl ?_
    refine J_i2l d_law_1023 hv ?_
    rw [zu_s]
    refine JL_eq 1030 d_law_1024 d_law_1025 (by decide) (by omega) (by omega) (fun c_1024 => ?_) (fun c_1024 => absurd rfl c_1024)
    refine V_goto 1182 d_law_1030 (by decide) ?_
    refine J_iinc d_law_1182 rfl (by decide) ?_
    refine V_goto 23 d_law_1185 (by decide) ?_
    refine V_lo (lo' := zloc G B (i + 5)) [0, 1, 2, 3, 4] rfl ?_
    exact hq _ _ _ _ _ _ _ _ _ _ _ _ _ _ _ _ _ (by omega) (by omega) hI

set_option maxRecDepth 100000 in
set_option maxHeartbeats 4000000 in
theorem l_about (G : zG) (B : Nat) (w : zW) (hL : G.2.2.2 100001 ≤ 2560) (i : Nat) (hi : i + 5 ≤ G.2.2.2 100001) (hq : zQl G B w (i + 5)) (kc ks sz : Nat) (kd n t zz : Int) (ch : Int32) (md tc : Int) (tg pt : Nat → Int) (L R : Nat → Int → Int) (nn : Nat) (th : Int) (o : Int → Int) (hkc : kc ≤ 1000 + i) (hks : ks ≤ 100000 + 6 * i) (h : zI kd n t zz md tc tg pt L R nn) : V G M_law zKl room_1 kc ks sz 1033 (zloc G B i) [] (zWl G B kd n t zz ch md tc tg pt L th kd n t tc ch md R o w) := by
  rcases p_about G B kd n t zz ch md tc tg pt L R nn h (zsx G (i + 1)) (zsx G (i + 2)) (zsx_b G _) (zsx_b G _) with ⟨e, cd, hx, hc, hr⟩ | ⟨v, kd', n', t', zz', ch', md', tc', tg', pt', L', R', nn', hv, hI, hc, hr⟩
  · simp only [List.mem_cons, Prod.mk.injEq, List.not_mem_nil, or_false] at hx
    rcases hx with ⟨rfl, rfl⟩ | ⟨rfl, rfl⟩
    · skip
      refine V_aload_n d_law_1033 rfl ?_
      refine V_aload_n d_law_1034 rfl ?_
      refine V_iload d_law_1035 rfl ?_
      refine V_iconst d_law_1037 ?_
      refine J_iadd d_law_1038 ?_
      refine V_sld (j := i + 1) d_law_1039 rfl (by omega) hL ?_
      refine V_aload_n d_law_1040 rfl ?_
      refine V_iload d_law_1041 rfl ?_
      refine V_iconst d_law_1043 ?_
      refine J_iadd d_law_1044 ?_
      refine V_sld (j := i + 2) d_law_1045 rfl (by omega) hL ?_
      refine V_aload_n d_law_1046 rfl ?_
      refine V_callS (n := 4) d_law_1047 g_Law_117 rfl (w_about_1 G sz B (B + 204) _ (Int32.ofInt (zsx G (i + 1))) (Int32.ofInt (zsx G (i + 2))) zsys_x0 (hc sz (zqs G (B + 186) th kd n t tc ch md R (zset w (B + 204) (zro G 1 o))))) ⟨co_Law_about, by decide +kernel, (Nat.le_of_ble_eq_true rfl)⟩ ⟨Nat.le_of_ble_eq_true rfl, Nat.le_of_ble_eq_true rfl, (by show _ + (1 : Nat) ≤ (601024 : Nat); omega), (by show _ + (6 : Nat) ≤ (7293033 : Nat); omega)⟩ (Nat.le_of_ble_eq_true rfl) (fun r1 w1 s1 q => ?_) (fun _ _ _ q => by cases q.1)
      obtain ⟨q1, q2, q3⟩ := q
      cases q1
      subst q2
      subst q3
      refine V_k (kc' := kc + 1) (ks' := ks + 6) rfl rfl rfl ?_
      refine V_istore d_law_1050 (by decide) ?_
      refine V_aload_n d_law_1052 rfl ?_
      refine V_aload_n d_law_1053 rfl ?_
      refine V_iload d_law_1054 rfl ?_
      refine V_iconst d_law_1056 ?_
      refine J_iadd d_law_1057 ?_
      refine V_sld (j := i + 1) d_law_1058 rfl (by omega) hL ?_
      refine V_aload_n d_law_1059 rfl ?_
      refine V_iload d_law_1060 rfl ?_
      refine V_iconst d_law_1062 ?_
      refine J_iadd d_law_1063 ?_
      refine V_sld (j := i + 2) d_law_1064 rfl (by omega) hL ?_
      refine V_w zWl_q ?_
      refine V_callV (n := 2) d_law_1065 g_Law_119 rfl zqs_o rfl (hr (B + 186) th (sz + 1) (zsys G B kd n t zz ch md tc tg pt L (zset w (B + 204) (zro G 1 o)))) ⟨co_Ref_about, by decide +kernel, (Nat.le_of_ble_eq_true rfl)⟩ ⟨Nat.le_of_ble_eq_true rfl, Nat.le_of_ble_eq_true rfl, (by show _ + (0 : Nat) ≤ (601024 : Nat); omega), (by show _ + (0 : Nat) ≤ (7293033 : Nat); omega)⟩ (Nat.le_of_ble_eq_true rfl) (fun r1 w1 s1 q => ?_) (fun _ _ _ q => False.elim q)
      obtain ⟨rfl, rfl, rfl⟩ := q
      refine V_k (kc' := kc + 1) (ks' := ks + 6) rfl rfl rfl ?_
      refine V_w (zWl_q (kd := kd) (n := n) (t := t) (zz := zz) (ch := ch) (md := md) (tc := tc) (tg := tg) (pt := pt) (L := L) (th := 1) (kd2 := kd) (n2 := n) (t2 := t) (tc2 := tc) (ch2 := ch) (md2 := md) (R := R) (o := o) (w := w)).symm ?_
      refine V_istore d_law_1068 (by decide) ?_
      refine V_aload_n d_law_1070 rfl ?_
      refine V_w zWl_q ?_
      refine V_callV (n := 0) d_law_1071 g_Law_72 rfl zqs_o rfl (r_thrown G (sz + 1) (B + 186) 1 kd n t tc ch md R (zsys G B kd n t zz ch md tc tg pt L (zset w (B + 204) (zro G 1 o)))) ⟨co_Ref_thrown, by decide +kernel, (Nat.le_of_ble_eq_true rfl)⟩ ⟨Nat.le_of_ble_eq_true rfl, Nat.le_of_ble_eq_true rfl, (by show _ + (0 : Nat) ≤ (601024 : Nat); omega), (by show _ + (0 : Nat) ≤ (7293033 : Nat); omega)⟩ (Nat.le_of_ble_eq_true rfl) (fun r1 w1 s1 q => ?_) (fun _ _ _ q => False.elim q)
      obtain ⟨rfl, rfl, rfl⟩ := q
      refine V_k (kc' := kc + 1) (ks' := ks + 6) rfl rfl rfl ?_
      refine V_w zWl_q.symm ?_
      refine V_iload d_law_1074 rfl ?_
      refine J_icmp_eq 1081 d_law_1076 (by decide) (by decide) (by decide) (fun c_1076 => ?_) (fun c_1076 => absurd rfl c_1076)
      refine V_iload d_law_1081 rfl ?_
      refine J_if_ne 1098 d_law_1083 (by decide) (by decide) (fun c_1083 => ?_) (fun c_1083 => absurd c_1083 (by decide))
      refine V_goto 1182 d_law_1098 (by decide) ?_
      refine J_iinc d_law_1182 rfl (by decide) ?_
      refine V_goto 23 d_law_1185 (by decide) ?_
      refine V_lo (lo' := zloc G B (i + 5)) [0, 1, 2, 3, 4] rfl ?_
      exact hq _ _ _ _ _ _ _ _ _ _ _ _ _ _ _ _ _ (by omega) (by omega) h
    · skip
      refine V_aload_n d_law_1033 rfl ?_
      refine V_aload_n d_law_1034 rfl ?_
      refine V_iload d_law_1035 rfl ?_
      refine V_iconst d_law_1037 ?_
      refine J_iadd d_law_1038 ?_
      refine V_sld (j := i + 1) d_law_1039 rfl (by omega) hL ?_
      refine V_aload_n d_law_1040 rfl ?_
      refine V_iload d_law_1041 rfl ?_
      refine V_iconst d_law_1043 ?_
      refine J_iadd d_law_1044 ?_
      refine V_sld (j := i + 2) d_law_1045 rfl (by omega) hL ?_
      refine V_aload_n d_law_1046 rfl ?_
      refine V_callS (n := 4) d_law_1047 g_Law_117 rfl (w_about_2 G sz B (B + 204) _ (Int32.ofInt (zsx G (i + 1))) (Int32.ofInt (zsx G (i + 2))) zsys_x0 (hc sz (zqs G (B + 186) th kd n t tc ch md R (zset w (B + 204) (zro G 1 o))))) ⟨co_Law_about, by decide +kernel, (Nat.le_of_ble_eq_true rfl)⟩ ⟨Nat.le_of_ble_eq_true rfl, Nat.le_of_ble_eq_true rfl, (by show _ + (1 : Nat) ≤ (601024 : Nat); omega), (by show _ + (6 : Nat) ≤ (7293033 : Nat); omega)⟩ (Nat.le_of_ble_eq_true rfl) (fun r1 w1 s1 q => ?_) (fun _ _ _ q => by cases q.1)
      obtain ⟨q1, q2, q3⟩ := q
      cases q1
      subst q2
      subst q3
      refine V_k (kc' := kc + 1) (ks' := ks + 6) rfl rfl rfl ?_
      refine V_istore d_law_1050 (by decide) ?_
      refine V_aload_n d_law_1052 rfl ?_
      refine V_aload_n d_law_1053 rfl ?_
      refine V_iload d_law_1054 rfl ?_
      refine V_iconst d_law_1056 ?_
      refine J_iadd d_law_1057 ?_
      refine V_sld (j := i + 1) d_law_1058 rfl (by omega) hL ?_
      refine V_aload_n d_law_1059 rfl ?_
      refine V_iload d_law_1060 rfl ?_
      refine V_iconst d_law_1062 ?_
      refine J_iadd d_law_1063 ?_
      refine V_sld (j := i + 2) d_law_1064 rfl (by omega) hL ?_
      refine V_w zWl_q ?_
      refine V_callV (n := 2) d_law_1065 g_Law_119 rfl zqs_o rfl (hr (B + 186) th (sz + 1) (zsys G B kd n t zz ch md tc tg pt L (zset w (B + 204) (zro G 1 o)))) ⟨co_Ref_about, by decide +kernel, (Nat.le_of_ble_eq_true rfl)⟩ ⟨Nat.le_of_ble_eq_true rfl, Nat.le_of_ble_eq_true rfl, (by show _ + (0 : Nat) ≤ (601024 : Nat); omega), (by show _ + (0 : Nat) ≤ (7293033 : Nat); omega)⟩ (Nat.le_of_ble_eq_true rfl) (fun r1 w1 s1 q => ?_) (fun _ _ _ q => False.elim q)
      obtain ⟨rfl, rfl, rfl⟩ := q
      refine V_k (kc' := kc + 1) (ks' := ks + 6) rfl rfl rfl ?_
      refine V_w (zWl_q (kd := kd) (n := n) (t := t) (zz := zz) (ch := ch) (md := md) (tc := tc) (tg := tg) (pt := pt) (L := L) (th := 2) (kd2 := kd) (n2 := n) (t2 := t) (tc2 := tc) (ch2 := ch) (md2 := md) (R := R) (o := o) (w := w)).symm ?_
      refine V_istore d_law_1068 (by decide) ?_
      refine V_aload_n d_law_1070 rfl ?_
      refine V_w zWl_q ?_
      refine V_callV (n := 0) d_law_1071 g_Law_72 rfl zqs_o rfl (r_thrown G (sz + 1) (B + 186) 2 kd n t tc ch md R (zsys G B kd n t zz ch md tc tg pt L (zset w (B + 204) (zro G 1 o)))) ⟨co_Ref_thrown, by decide +kernel, (Nat.le_of_ble_eq_true rfl)⟩ ⟨Nat.le_of_ble_eq_true rfl, Nat.le_of_ble_eq_true rfl, (by show _ + (0 : Nat) ≤ (601024 : Nat); omega), (by show _ + (0 : Nat) ≤ (7293033 : Nat); omega)⟩ (Nat.le_of_ble_eq_true rfl) (fun r1 w1 s1 q => ?_) (fun _ _ _ q => False.elim q)
      obtain ⟨rfl, rfl, rfl⟩ := q
      refine V_k (kc' := kc + 1) (ks' := ks + 6) rfl rfl rfl ?_
      refine V_w zWl_q.symm ?_
      refine V_iload d_law_1074 rfl ?_
      refine J_icmp_eq 1081 d_law_1076 (by decide) (by decide) (by decide) (fun c_1076 => ?_) (fun c_1076 => absurd rfl c_1076)
      refine V_iload d_law_1081 rfl ?_
      refine J_if_ne 1098 d_law_1083 (by decide) (by decide) (fun c_1083 => ?_) (fun c_1083 => absurd c_1083 (by decide))
      refine V_goto 1182 d_law_1098 (by decide) ?_
      refine J_iinc d_law_1182 rfl (by decide) ?_
      refine V_goto 23 d_law_1185 (by decide) ?_
      refine V_lo (lo' := zloc G B (i + 5)) [0, 1, 2, 3, 4] rfl ?_
      exact hq _ _ _ _ _ _ _ _ _ _ _ _ _ _ _ _ _ (by omega) (by omega) h
  · skip
    refine V_aload_n d_law_1033 rfl ?_
    refine V_aload_n d_law_1034 rfl ?_
    refine V_iload d_law_1035 rfl ?_
    refine V_iconst d_law_1037 ?_
    refine J_iadd d_law_1038 ?_
    refine V_sld (j := i + 1) d_law_1039 rfl (by omega) hL ?_
    refine V_aload_n d_law_1040 rfl ?_
    refine V_iload d_law_1041 rfl ?_
    refine V_iconst d_law_1043 ?_
    refine J_iadd d_law_1044 ?_
    refine V_sld (j := i + 2) d_law_1045 rfl (by omega) hL ?_
    refine V_aload_n d_law_1046 rfl ?_
    refine V_callS (n := 4) d_law_1047 g_Law_117 rfl (w_about_0 G sz B (B + 204) _ (zWl G B kd' n' t' zz' ch' md' tc' tg' pt' L' th kd n t tc ch md R o w) (Int32.ofInt (zsx G (i + 1))) (Int32.ofInt (zsx G (i + 2))) v o zsys_x0 zWl_D hv (hc sz (zqs G (B + 186) th kd n t tc ch md R (zset w (B + 204) (zro G 1 o))))) ⟨co_Law_about, by decide +kernel, (Nat.le_of_ble_eq_true rfl)⟩ ⟨Nat.le_of_ble_eq_true rfl, Nat.le_of_ble_eq_true rfl, (by show _ + (1 : Nat) ≤ (601024 : Nat); omega), (by show _ + (6 : Nat) ≤ (7293033 : Nat); omega)⟩ (Nat.le_of_ble_eq_true rfl) (fun r1 w1 s1 q => ?_) (fun _ _ _ q => by exact False.elim q)
    obtain ⟨rfl, rfl, rfl⟩ := q
    refine V_w zWl_out ?_
    refine V_k (kc' := kc) (ks' := ks) rfl rfl rfl ?_
    refine V_istore d_law_1050 (by decide) ?_
    refine V_aload_n d_law_1052 rfl ?_
    refine V_aload_n d_law_1053 rfl ?_
    refine V_iload d_law_1054 rfl ?_
    refine V_iconst d_law_1056 ?_
    refine J_iadd d_law_1057 ?_
    refine V_sld (j := i + 1) d_law_1058 rfl (by omega) hL ?_
    refine V_aload_n d_law_1059 rfl ?_
    refine V_iload d_law_1060 rfl ?_
    refine V_iconst d_law_1062 ?_
    refine J_iadd d_law_1063 ?_
    refine V_sld (j := i + 2) d_law_1064 rfl (by omega) hL ?_
    refine V_w zWl_q ?_
    refine V_callV (n := 2) d_law_1065 g_Law_119 rfl zqs_o rfl (hr (B + 186) th sz (zsys G B kd' n' t' zz' ch' md' tc' tg' pt' L' (zset w (B + 204) (zro G 1 (zu o 0 v))))) ⟨co_Ref_about, by decide +kernel, (Nat.le_of_ble_eq_true rfl)⟩ ⟨Nat.le_of_ble_eq_true rfl, Nat.le_of_ble_eq_true rfl, (by show _ + (0 : Nat) ≤ (601024 : Nat); omega), (by show _ + (0 : Nat) ≤ (7293033 : Nat); omega)⟩ (Nat.le_of_ble_eq_true rfl) (fun r1 w1 s1 q => ?_) (fun _ _ _ q => False.elim q)
    obtain ⟨rfl, rfl, rfl⟩ := q
    refine V_k (kc' := kc) (ks' := ks) rfl rfl rfl ?_
    refine V_w (zWl_q (kd := kd') (n := n') (t := t') (zz := zz') (ch := ch') (md := md') (tc := tc') (tg := tg') (pt := pt') (L := L') (th := 0) (kd2 := kd') (n2 := n') (t2 := t') (tc2 := tc') (ch2 := ch') (md2 := md') (R := R') (o := (zu o 0 v)) (w := w)).symm ?_
    refine V_istore d_law_1068 (by decide) ?_
    refine V_aload_n d_law_1070 rfl ?_
    refine V_w zWl_q ?_
    refine V_callV (n := 0) d_law_1071 g_Law_72 rfl zqs_o rfl (r_thrown G sz (B + 186) 0 kd' n' t' tc' ch' md' R' (zsys G B kd' n' t' zz' ch' md' tc' tg' pt' L' (zset w (B + 204) (zro G 1 (zu o 0 v))))) ⟨co_Ref_thrown, by decide +kernel, (Nat.le_of_ble_eq_true rfl)⟩ ⟨Nat.le_of_ble_eq_true rfl, Nat.le_of_ble_eq_true rfl, (by show _ + (0 : Nat) ≤ (601024 : Nat); omega), (by show _ + (0 : Nat) ≤ (7293033 : Nat); omega)⟩ (Nat.le_of_ble_eq_true rfl) (fun r1 w1 s1 q => ?_) (fun _ _ _ q => False.elim q)
    obtain ⟨rfl, rfl, rfl⟩ := q
    refine V_k (kc' := kc) (ks' := ks) rfl rfl rfl ?_
    refine V_w zWl_q.symm ?_
    refine V_iload d_law_1074 rfl ?_
    refine J_icmp_eq 1081 d_law_1076 (by decide) (by decide) (by decide) (fun c_1076 => ?_) (fun c_1076 => absurd rfl c_1076)
    refine V_iload d_law_1081 rfl ?_
    refine J_if_ne 1098 d_law_1083 (by decide) (by decide) (fun c_1083 => absurd rfl c_1083) (fun c_1083 => ?_)
    refine V_aload_n d_law_1086 rfl ?_
    refine V_iconst d_law_1087 ?_
    refine J_laload d_law_1088 zWl_D (by decide) (by decide) ?_
    refine V_iload d_law_1089 rfl ?_
    refine J_i2l d_law_1091 hv ?_
    rw [zu_s]
    refine JL_eq 1098 d_law_1092 d_law_1093 (by decide) (by omega) (by omega) (fun c_1092 => ?_) (fun c_1092 => absurd rfl c_1092)
    refine V_goto 1182 d_law_1098 (by decide) ?_
    refine J_iinc d_law_1182 rfl (by decide) ?_
    refine V_goto 23 d_law_1185 (by decide) ?_
    refine V_lo (lo' := zloc G B (i + 5)) [0, 1, 2, 3, 4] rfl ?_
    exact hq _ _ _ _ _ _ _ _ _ _ _ _ _ _ _ _ _ (by omega) (by omega) hI

set_option maxRecDepth 100000 in
set_option maxHeartbeats 4000000 in
theorem l_drop (G : zG) (B : Nat) (w : zW) (hL : G.2.2.2 100001 ≤ 2560) (i : Nat) (hi : i + 5 ≤ G.2.2.2 100001) (hq : zQl G B w (i + 5)) (kc ks sz : Nat) (kd n t zz : Int) (ch : Int32) (md tc : Int) (tg pt : Nat → Int) (L R : Nat → Int → Int) (nn : Nat) (th : Int) (o : Int → Int) (hkc : kc ≤ 1000 + i) (hks : ks ≤ 100000 + 6 * i) (h : zI kd n t zz md tc tg pt L R nn) : V G M_law zKl room_1 kc ks sz 1101 (zloc G B i) [] (zWl G B kd n t zz ch md tc tg pt L th kd n t tc ch md R o w) := by
  rcases p_drop G B kd n t zz ch md tc tg pt L R nn h (zsx G (i + 1)) (zsx_b G _) with ⟨e, cd, hx, hc, hr⟩ | ⟨v, kd', n', t', zz', ch', md', tc', tg', pt', L', R', nn', hv, hI, hc, hr⟩
  · simp only [List.mem_cons, Prod.mk.injEq, List.not_mem_nil, or_false] at hx
    rcases hx with ⟨rfl, rfl⟩
    · skip
      refine V_aload_n d_law_1101 rfl ?_
      refine V_aload_n d_law_1102 rfl ?_
      refine V_iload d_law_1103 rfl ?_
      refine V_iconst d_law_1105 ?_
      refine J_iadd d_law_1106 ?_
      refine V_sld (j := i + 1) d_law_1107 rfl (by omega) hL ?_
      refine V_aload_n d_law_1108 rfl ?_
      refine V_callS (n := 3) d_law_1109 g_Law_120 rfl (w_drop_1 G sz B (B + 204) _ (Int32.ofInt (zsx G (i + 1))) zsys_x0 (hc sz (zqs G (B + 186) th kd n t tc ch md R (zset w (B + 204) (zro G 1 o))))) ⟨co_Law_drop, by decide +kernel, (Nat.le_of_ble_eq_true rfl)⟩ ⟨Nat.le_of_ble_eq_true rfl, Nat.le_of_ble_eq_true rfl, (by show _ + (1 : Nat) ≤ (601024 : Nat); omega), (by show _ + (6 : Nat) ≤ (7293033 : Nat); omega)⟩ (Nat.le_of_ble_eq_true rfl) (fun r1 w1 s1 q => ?_) (fun _ _ _ q => by cases q.1)
      obtain ⟨q1, q2, q3⟩ := q
      cases q1
      subst q2
      subst q3
      refine V_k (kc' := kc + 1) (ks' := ks + 6) rfl rfl rfl ?_
      refine V_istore d_law_1112 (by decide) ?_
      refine V_aload_n d_law_1114 rfl ?_
      refine V_aload_n d_law_1115 rfl ?_
      refine V_iload d_law_1116 rfl ?_
      refine V_iconst d_law_1118 ?_
      refine J_iadd d_law_1119 ?_
      refine V_sld (j := i + 1) d_law_1120 rfl (by omega) hL ?_
      refine V_w zWl_q ?_
      refine V_callV (n := 1) d_law_1121 g_Law_122 rfl zqs_o rfl (hr (B + 186) th (sz + 1) (zsys G B kd n t zz ch md tc tg pt L (zset w (B + 204) (zro G 1 o)))) ⟨co_Ref_drop, by decide +kernel, (Nat.le_of_ble_eq_true rfl)⟩ ⟨Nat.le_of_ble_eq_true rfl, Nat.le_of_ble_eq_true rfl, (by show _ + (0 : Nat) ≤ (601024 : Nat); omega), (by show _ + (0 : Nat) ≤ (7293033 : Nat); omega)⟩ (Nat.le_of_ble_eq_true rfl) (fun r1 w1 s1 q => ?_) (fun _ _ _ q => False.elim q)
      obtain ⟨rfl, rfl, rfl⟩ := q
      refine V_k (kc' := kc + 1) (ks' := ks + 6) rfl rfl rfl ?_
      refine V_w (zWl_q (kd := kd) (n := n) (t := t) (zz := zz) (ch := ch) (md := md) (tc := tc) (tg := tg) (pt := pt) (L := L) (th := 1) (kd2 := kd) (n2 := n) (t2 := t) (tc2 := tc) (ch2 := ch) (md2 := md) (R := R) (o := o) (w := w)).symm ?_
      refine V_istore d_law_1124 (by decide) ?_
      refine V_aload_n d_law_1126 rfl ?_
      refine V_w zWl_q ?_
      refine V_callV (n := 0) d_law_1127 g_Law_72 rfl zqs_o rfl (r_thrown G (sz + 1) (B + 186) 1 kd n t tc ch md R (zsys G B kd n t zz ch md tc tg pt L (zset w (B + 204) (zro G 1 o)))) ⟨co_Ref_thrown, by decide +kernel, (Nat.le_of_ble_eq_true rfl)⟩ ⟨Nat.le_of_ble_eq_true rfl, Nat.le_of_ble_eq_true rfl, (by show _ + (0 : Nat) ≤ (601024 : Nat); omega), (by show _ + (0 : Nat) ≤ (7293033 : Nat); omega)⟩ (Nat.le_of_ble_eq_true rfl) (fun r1 w1 s1 q => ?_) (fun _ _ _ q => False.elim q)
      obtain ⟨rfl, rfl, rfl⟩ := q
      refine V_k (kc' := kc + 1) (ks' := ks + 6) rfl rfl rfl ?_
      refine V_w zWl_q.symm ?_
      refine V_iload d_law_1130 rfl ?_
      refine J_icmp_eq 1137 d_law_1132 (by decide) (by decide) (by decide) (fun c_1132 => ?_) (fun c_1132 => absurd rfl c_1132)
      refine V_iload d_law_1137 rfl ?_
      refine J_if_ne 1154 d_law_1139 (by decide) (by decide) (fun c_1139 => ?_) (fun c_1139 => absurd c_1139 (by decide))
      refine V_goto 1182 d_law_1154 (by decide) ?_
      refine J_iinc d_law_1182 rfl (by decide) ?_
      refine V_goto 23 d_law_1185 (by decide) ?_
      refine V_lo (lo' := zloc G B (i + 5)) [0, 1, 2, 3, 4] rfl ?_
      exact hq _ _ _ _ _ _ _ _ _ _ _ _ _ _ _ _ _ (by omega) (by omega) h
  · skip
    refine V_aload_n d_law_1101 rfl ?_
    refine V_aload_n d_law_1102 rfl ?_
    refine V_iload d_law_1103 rfl ?_
    refine V_iconst d_law_1105 ?_
    refine J_iadd d_law_1106 ?_
    refine V_sld (j := i + 1) d_law_1107 rfl (by omega) hL ?_
    refine V_aload_n d_law_1108 rfl ?_
    refine V_callS (n := 3) d_law_1109 g_Law_120 rfl (w_drop_0 G sz B (B + 204) _ (zWl G B kd' n' t' zz' ch' md' tc' tg' pt' L' th kd n t tc ch md R o w) (Int32.ofInt (zsx G (i + 1))) v o zsys_x0 zWl_D hv (hc sz (zqs G (B + 186) th kd n t tc ch md R (zset w (B + 204) (zro G 1 o))))) ⟨co_Law_drop, by decide +kernel, (Nat.le_of_ble_eq_true rfl)⟩ ⟨Nat.le_of_ble_eq_true rfl, Nat.le_of_ble_eq_true rfl, (by show _ + (1 : Nat) ≤ (601024 : Nat); omega), (by show _ + (6 : Nat) ≤ (7293033 : Nat); omega)⟩ (Nat.le_of_ble_eq_true rfl) (fun r1 w1 s1 q => ?_) (fun _ _ _ q => by exact False.elim q)
    obtain ⟨rfl, rfl, rfl⟩ := q
    refine V_w zWl_out ?_
    refine V_k (kc' := kc) (ks' := ks) rfl rfl rfl ?_
    refine V_istore d_law_1112 (by decide) ?_
    refine V_aload_n d_law_1114 rfl ?_
    refine V_aload_n d_law_1115 rfl ?_
    refine V_iload d_law_1116 rfl ?_
    refine V_iconst d_law_1118 ?_
    refine J_iadd d_law_1119 ?_
    refine V_sld (j := i + 1) d_law_1120 rfl (by omega) hL ?_
    refine V_w zWl_q ?_
    refine V_callV (n := 1) d_law_1121 g_Law_122 rfl zqs_o rfl (hr (B + 186) th sz (zsys G B kd' n' t' zz' ch' md' tc' tg' pt' L' (zset w (B + 204) (zro G 1 (zu o 0 v))))) ⟨co_Ref_drop, by decide +kernel, (Nat.le_of_ble_eq_true rfl)⟩ ⟨Nat.le_of_ble_eq_true rfl, Nat.le_of_ble_eq_true rfl, (by show _ + (0 : Nat) ≤ (601024 : Nat); omega), (by show _ + (0 : Nat) ≤ (7293033 : Nat); omega)⟩ (Nat.le_of_ble_eq_true rfl) (fun r1 w1 s1 q => ?_) (fun _ _ _ q => False.elim q)
    obtain ⟨rfl, rfl, rfl⟩ := q
    refine V_k (kc' := kc) (ks' := ks) rfl rfl rfl ?_
    refine V_w (zWl_q (kd := kd') (n := n') (t := t') (zz := zz') (ch := ch') (md := md') (tc := tc') (tg := tg') (pt := pt') (L := L') (th := 0) (kd2 := kd') (n2 := n') (t2 := t') (tc2 := tc') (ch2 := ch') (md2 := md') (R := R') (o := (zu o 0 v)) (w := w)).symm ?_
    refine V_istore d_law_1124 (by decide) ?_
    refine V_aload_n d_law_1126 rfl ?_
    refine V_w zWl_q ?_
    refine V_callV (n := 0) d_law_1127 g_Law_72 rfl zqs_o rfl (r_thrown G sz (B + 186) 0 kd' n' t' tc' ch' md' R' (zsys G B kd' n' t' zz' ch' md' tc' tg' pt' L' (zset w (B + 204) (zro G 1 (zu o 0 v))))) ⟨co_Ref_thrown, by decide +kernel, (Nat.le_of_ble_eq_true rfl)⟩ ⟨Nat.le_of_ble_eq_true rfl, Nat.le_of_ble_eq_true rfl, (by show _ + (0 : Nat) ≤ (601024 : Nat); omega), (by show _ + (0 : Nat) ≤ (7293033 : Nat); omega)⟩ (Nat.le_of_ble_eq_true rfl) (fun r1 w1 s1 q => ?_) (fun _ _ _ q => False.elim q)
    obtain ⟨rfl, rfl, rfl⟩ := q
    refine V_k (kc' := kc) (ks' := ks) rfl rfl rfl ?_
    refine V_w zWl_q.symm ?_
    refine V_iload d_law_1130 rfl ?_
    refine J_icmp_eq 1137 d_law_1132 (by decide) (by decide) (by decide) (fun c_1132 => ?_) (fun c_1132 => absurd rfl c_1132)
    refine V_iload d_law_1137 rfl ?_
    refine J_if_ne 1154 d_law_1139 (by decide) (by decide) (fun c_1139 => absurd rfl c_1139) (fun c_1139 => ?_)
    refine V_aload_n d_law_1142 rfl ?_
    refine V_iconst d_law_1143 ?_
    refine J_laload d_law_1144 zWl_D (by decide) (by decide) ?_
    refine V_iload d_law_1145 rfl ?_
    refine J_i2l d_law_1147 hv ?_
    rw [zu_s]
    refine JL_eq 1154 d_law_1148 d_law_1149 (by decide) (by omega) (by omega) (fun c_1148 => ?_) (fun c_1148 => absurd rfl c_1148)
    refine V_goto 1182 d_law_1154 (by decide) ?_
    refine J_iinc d_law_1182 rfl (by decide) ?_
    refine V_goto 23 d_law_1185 (by decide) ?_
    refine V_lo (lo' := zloc G B (i + 5)) [0, 1, 2, 3, 4] rfl ?_
    exact hq _ _ _ _ _ _ _ _ _ _ _ _ _ _ _ _ _ (by omega) (by omega) hI

set_option maxRecDepth 100000 in
set_option maxHeartbeats 4000000 in
theorem l_count (G : zG) (B : Nat) (w : zW) (hL : G.2.2.2 100001 ≤ 2560) (i : Nat) (hi : i + 5 ≤ G.2.2.2 100001) (hq : zQl G B w (i + 5)) (kc ks sz : Nat) (kd n t zz : Int) (ch : Int32) (md tc : Int) (tg pt : Nat → Int) (L R : Nat → Int → Int) (nn : Nat) (th : Int) (o : Int → Int) (hkc : kc ≤ 1000 + i) (hks : ks ≤ 100000 + 6 * i) (h : zI kd n t zz md tc tg pt L R nn) : V G M_law zKl room_1 kc ks sz 1157 (zloc G B i) [] (zWl G B kd n t zz ch md tc tg pt L th kd n t tc ch md R o w) := by
  rcases p_count G B kd n t zz ch md tc tg pt L R nn h (zsx G (i + 1)) (zsx_b G _) with ⟨e, cd, hx, hc, hr⟩ | ⟨v, kd', n', t', zz', ch', md', tc', tg', pt', L', R', nn', hv, hI, hc, hr⟩
  · exact absurd hx List.not_mem_nil
  · skip
    refine V_aload_n d_law_1157 rfl ?_
    refine V_aload_n d_law_1158 rfl ?_
    refine V_iload d_law_1159 rfl ?_
    refine V_iconst d_law_1161 ?_
    refine J_iadd d_law_1162 ?_
    refine V_sld (j := i + 1) d_law_1163 rfl (by omega) hL ?_
    refine V_callV (n := 1) d_law_1164 g_Law_123 rfl zsys_x0 rfl (hc sz (zqs G (B + 186) th kd n t tc ch md R (zset w (B + 204) (zro G 1 o)))) ⟨co_X_count, by decide +kernel, (Nat.le_of_ble_eq_true rfl)⟩ ⟨Nat.le_of_ble_eq_true rfl, Nat.le_of_ble_eq_true rfl, (by show _ + (0 : Nat) ≤ (601024 : Nat); omega), (by show _ + (0 : Nat) ≤ (7293033 : Nat); omega)⟩ (Nat.le_of_ble_eq_true rfl) (fun r1 w1 s1 q => ?_) (fun _ _ _ q => False.elim q)
    obtain ⟨rfl, rfl, rfl⟩ := q
    refine V_k (kc' := kc) (ks' := ks) rfl rfl rfl ?_
    refine V_w (w' := zWl G B kd' n' t' zz' ch' md' tc' tg' pt' L' th kd n t tc ch md R o w) rfl ?_
    refine V_aload_n d_law_1167 rfl ?_
    refine V_aload_n d_law_1168 rfl ?_
    refine V_iload d_law_1169 rfl ?_
    refine V_iconst d_law_1171 ?_
    refine J_iadd d_law_1172 ?_
    refine V_sld (j := i + 1) d_law_1173 rfl (by omega) hL ?_
    refine V_w zWl_q ?_
    refine V_callV (n := 1) d_law_1174 g_Law_126 rfl zqs_o rfl (hr (B + 186) th sz (zsys G B kd' n' t' zz' ch' md' tc' tg' pt' L' (zset w (B + 204) (zro G 1 o)))) ⟨co_Ref_count, by decide +kernel, (Nat.le_of_ble_eq_true rfl)⟩ ⟨Nat.le_of_ble_eq_true rfl, Nat.le_of_ble_eq_true rfl, (by show _ + (0 : Nat) ≤ (601024 : Nat); omega), (by show _ + (0 : Nat) ≤ (7293033 : Nat); omega)⟩ (Nat.le_of_ble_eq_true rfl) (fun r1 w1 s1 q => ?_) (fun _ _ _ q => False.elim q)
    obtain ⟨rfl, rfl, rfl⟩ := q
    refine V_k (kc' := kc) (ks' := ks) rfl rfl rfl ?_
    refine V_w (zWl_q (kd := kd') (n := n') (t := t') (zz := zz') (ch := ch') (md := md') (tc := tc') (tg := tg') (pt := pt') (L := L') (th := 0) (kd2 := kd') (n2 := n') (t2 := t') (tc2 := tc') (ch2 := ch') (md2 := md') (R := R') (o := o) (w := w)).symm ?_
    refine J_icmp_eq 1182 d_law_1177 (by decide) hv hv (fun c_1177 => ?_) (fun c_1177 => absurd rfl c_1177)
    refine J_iinc d_law_1182 rfl (by decide) ?_
    refine V_goto 23 d_law_1185 (by decide) ?_
    refine V_lo (lo' := zloc G B (i + 5)) [0, 1, 2, 3, 4] rfl ?_
    exact hq _ _ _ _ _ _ _ _ _ _ _ _ _ _ _ _ _ (by omega) (by omega) hI

