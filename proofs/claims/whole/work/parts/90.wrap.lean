def znm (k : Nat) : String := if k = 13 then zIAE else if k = 19 then zISE else zNSE

theorem zll_13 : zin (.classLink "RingCipherLaw" 13 (znm 13)) := ⟨List.mem_append_right _ (List.mem_of_getElem? (i := 267) (by decide +kernel)), by decide +kernel⟩
theorem zca_13 : zin (.castable (znm 13) (znm 13)) := ⟨List.mem_append_right _ (List.mem_of_getElem? (i := 275) (by decide +kernel)), by decide +kernel⟩
theorem zll_19 : zin (.classLink "RingCipherLaw" 19 (znm 19)) := ⟨List.mem_append_right _ (List.mem_of_getElem? (i := 354) (by decide +kernel)), by decide +kernel⟩
theorem zca_19 : zin (.castable (znm 19) (znm 19)) := ⟨List.mem_append_right _ (List.mem_of_getElem? (i := 362) (by decide +kernel)), by decide +kernel⟩
theorem zll_25 : zin (.classLink "RingCipherLaw" 25 (znm 25)) := ⟨List.mem_append_right _ (List.mem_of_getElem? (i := 397) (by decide +kernel)), by decide +kernel⟩
theorem zca_25 : zin (.castable (znm 25) (znm 25)) := ⟨List.mem_append_right _ (List.mem_of_getElem? (i := 408) (by decide +kernel)), by decide +kernel⟩
set_option maxRecDepth 100000 in
set_option maxHeartbeats 4000000 in
theorem w_begin_1 (G : zG) (sz B D : Nat) (w : zW) (x1 x2 : Int32) {fs : List Value} (hB : w B = some (zobj cX fs)) (hc : zCt G M_X_begin (zR 6 1 6 96) [.ref B, .int x1, .int x2] sz w (zOut (.inr zIAE) w (sz + 1))) : zCt G M_Law_begin (zR 7 1 6 119) [.ref B, .int x1, .int x2, .ref D] sz w (zOut (.inl (some (.int (Int32.ofInt 1)))) w (sz + 1)) := by
  refine V_aload_n d_Law_begin_0 rfl ?_
  refine V_iconst d_Law_begin_1 ?_
  refine V_aload_n d_Law_begin_2 rfl ?_
  refine V_iload_n d_Law_begin_3 rfl ?_
  refine V_iload_n d_Law_begin_4 rfl ?_
  refine V_callVc (n := 2) znm d_Law_begin_5 g_Law_7 rfl hB rfl hc ⟨co_X_begin, by decide +kernel, (Nat.le_of_ble_eq_true rfl)⟩ ⟨(Nat.le_of_ble_eq_true rfl), (Nat.le_of_ble_eq_true rfl), (Nat.le_of_ble_eq_true rfl), (Nat.le_of_ble_eq_true rfl)⟩ (Nat.le_of_ble_eq_true rfl) (fun _ _ _ q => by cases q.1) (fun C w1 s1 q => ?_)
  obtain ⟨q1, q2, q3⟩ := q
  cases q1
  subst q2
  subst q3
  refine ⟨zca_13, List.forall_mem_cons.mpr ⟨⟨zll_13, by decide, Or.inl rfl⟩, fun _ h => absurd h List.not_mem_nil⟩, 13, rfl, fun x => ?_⟩
  refine V_astore d_Law_begin_13 (by decide) ?_
  refine V_iconst d_Law_begin_15 ?_
  exact V_ireturn d_Law_begin_16 rfl ⟨Nat.le_of_ble_eq_true rfl, Nat.le_of_ble_eq_true rfl⟩ ⟨rfl, rfl, rfl⟩

set_option maxRecDepth 100000 in
set_option maxHeartbeats 4000000 in
theorem w_begin_0 (G : zG) (sz B D : Nat) (w w' : zW) (x1 x2 : Int32) (v : Int) (o : Int → Int) {fs : List Value} (hB : w B = some (zobj cX fs)) (hD : w' D = some (zro G 1 o)) (hv : -2147483648 ≤ v ∧ v < 2147483648) (hc : zCt G M_X_begin (zR 6 1 6 96) [.ref B, .int x1, .int x2] sz w (zdet (some (.int (Int32.ofInt v))) w' sz)) : zCt G M_Law_begin (zR 7 1 6 119) [.ref B, .int x1, .int x2, .ref D] sz w (zdet (some (.int (Int32.ofInt 0))) (zset w' D (zro G 1 (zu o 0 v))) sz) := by
  refine V_aload_n d_Law_begin_0 rfl ?_
  refine V_iconst d_Law_begin_1 ?_
  refine V_aload_n d_Law_begin_2 rfl ?_
  refine V_iload_n d_Law_begin_3 rfl ?_
  refine V_iload_n d_Law_begin_4 rfl ?_
  refine V_callVc (n := 2) znm d_Law_begin_5 g_Law_7 rfl hB rfl hc ⟨co_X_begin, by decide +kernel, (Nat.le_of_ble_eq_true rfl)⟩ ⟨(Nat.le_of_ble_eq_true rfl), (Nat.le_of_ble_eq_true rfl), (Nat.le_of_ble_eq_true rfl), (Nat.le_of_ble_eq_true rfl)⟩ (Nat.le_of_ble_eq_true rfl) (fun r1 w1 s1 q => ?_) (fun _ _ _ q => False.elim q)
  obtain ⟨rfl, rfl, rfl⟩ := q
  refine J_i2l d_Law_begin_8 hv ?_
  refine J_lastore d_Law_begin_9 hD (by decide) (by decide) ?_
  refine V_goto 17 d_Law_begin_10 (by decide) ?_
  refine V_iconst d_Law_begin_17 ?_
  exact V_ireturn d_Law_begin_18 rfl ⟨Nat.le_of_ble_eq_true rfl, Nat.le_of_ble_eq_true rfl⟩ ⟨rfl, rfl, rfl⟩

set_option maxRecDepth 100000 in
set_option maxHeartbeats 4000000 in
theorem w_turnKey_1 (G : zG) (sz B D : Nat) (w : zW) (x1 : Int32) {fs : List Value} (hB : w B = some (zobj cX fs)) (hc : zCt G M_X_turnKey (zR 6 1 6 117) [.ref B, .int x1] sz w (zOut (.inr zIAE) w (sz + 1))) : zCt G M_Law_turnKey (zR 7 1 6 139) [.ref B, .int x1, .ref D] sz w (zOut (.inl (some (.int (Int32.ofInt 1)))) w (sz + 1)) := by
  refine V_aload_n d_Law_turnKey_0 rfl ?_
  refine V_iconst d_Law_turnKey_1 ?_
  refine V_aload_n d_Law_turnKey_2 rfl ?_
  refine V_iload_n d_Law_turnKey_3 rfl ?_
  refine V_callVc (n := 1) znm d_Law_turnKey_4 g_Law_15 rfl hB rfl hc ⟨co_X_turnKey, by decide +kernel, (Nat.le_of_ble_eq_true rfl)⟩ ⟨(Nat.le_of_ble_eq_true rfl), (Nat.le_of_ble_eq_true rfl), (Nat.le_of_ble_eq_true rfl), (Nat.le_of_ble_eq_true rfl)⟩ (Nat.le_of_ble_eq_true rfl) (fun _ _ _ q => by cases q.1) (fun C w1 s1 q => ?_)
  obtain ⟨q1, q2, q3⟩ := q
  cases q1
  subst q2
  subst q3
  refine ⟨zca_13, List.forall_mem_cons.mpr ⟨⟨zll_13, by decide, Or.inl rfl⟩, List.forall_mem_cons.mpr ⟨⟨zll_19, by decide, Or.inr (by decide)⟩, fun _ h => absurd h List.not_mem_nil⟩⟩, 12, rfl, fun x => ?_⟩
  refine V_astore_n d_Law_turnKey_12 (by decide) ?_
  refine V_iconst d_Law_turnKey_13 ?_
  exact V_ireturn d_Law_turnKey_14 rfl ⟨Nat.le_of_ble_eq_true rfl, Nat.le_of_ble_eq_true rfl⟩ ⟨rfl, rfl, rfl⟩

set_option maxRecDepth 100000 in
set_option maxHeartbeats 4000000 in
theorem w_turnKey_2 (G : zG) (sz B D : Nat) (w : zW) (x1 : Int32) {fs : List Value} (hB : w B = some (zobj cX fs)) (hc : zCt G M_X_turnKey (zR 6 1 6 117) [.ref B, .int x1] sz w (zOut (.inr zISE) w (sz + 1))) : zCt G M_Law_turnKey (zR 7 1 6 139) [.ref B, .int x1, .ref D] sz w (zOut (.inl (some (.int (Int32.ofInt 2)))) w (sz + 1)) := by
  refine V_aload_n d_Law_turnKey_0 rfl ?_
  refine V_iconst d_Law_turnKey_1 ?_
  refine V_aload_n d_Law_turnKey_2 rfl ?_
  refine V_iload_n d_Law_turnKey_3 rfl ?_
  refine V_callVc (n := 1) znm d_Law_turnKey_4 g_Law_15 rfl hB rfl hc ⟨co_X_turnKey, by decide +kernel, (Nat.le_of_ble_eq_true rfl)⟩ ⟨(Nat.le_of_ble_eq_true rfl), (Nat.le_of_ble_eq_true rfl), (Nat.le_of_ble_eq_true rfl), (Nat.le_of_ble_eq_true rfl)⟩ (Nat.le_of_ble_eq_true rfl) (fun _ _ _ q => by cases q.1) (fun C w1 s1 q => ?_)
  obtain ⟨q1, q2, q3⟩ := q
  cases q1
  subst q2
  subst q3
  refine ⟨zca_19, List.forall_mem_cons.mpr ⟨⟨zll_13, by decide, Or.inr (by decide)⟩, List.forall_mem_cons.mpr ⟨⟨zll_19, by decide, Or.inl rfl⟩, fun _ h => absurd h List.not_mem_nil⟩⟩, 15, rfl, fun x => ?_⟩
  refine V_astore_n d_Law_turnKey_15 (by decide) ?_
  refine V_iconst d_Law_turnKey_16 ?_
  exact V_ireturn d_Law_turnKey_17 rfl ⟨Nat.le_of_ble_eq_true rfl, Nat.le_of_ble_eq_true rfl⟩ ⟨rfl, rfl, rfl⟩

set_option maxRecDepth 100000 in
set_option maxHeartbeats 4000000 in
theorem w_turnKey_0 (G : zG) (sz B D : Nat) (w w' : zW) (x1 : Int32) (v : Int) (o : Int → Int) {fs : List Value} (hB : w B = some (zobj cX fs)) (hD : w' D = some (zro G 1 o)) (hv : -2147483648 ≤ v ∧ v < 2147483648) (hc : zCt G M_X_turnKey (zR 6 1 6 117) [.ref B, .int x1] sz w (zdet (some (.int (Int32.ofInt v))) w' sz)) : zCt G M_Law_turnKey (zR 7 1 6 139) [.ref B, .int x1, .ref D] sz w (zdet (some (.int (Int32.ofInt 0))) (zset w' D (zro G 1 (zu o 0 v))) sz) := by
  refine V_aload_n d_Law_turnKey_0 rfl ?_
  refine V_iconst d_Law_turnKey_1 ?_
  refine V_aload_n d_Law_turnKey_2 rfl ?_
  refine V_iload_n d_Law_turnKey_3 rfl ?_
  refine V_callVc (n := 1) znm d_Law_turnKey_4 g_Law_15 rfl hB rfl hc ⟨co_X_turnKey, by decide +kernel, (Nat.le_of_ble_eq_true rfl)⟩ ⟨(Nat.le_of_ble_eq_true rfl), (Nat.le_of_ble_eq_true rfl), (Nat.le_of_ble_eq_true rfl), (Nat.le_of_ble_eq_true rfl)⟩ (Nat.le_of_ble_eq_true rfl) (fun r1 w1 s1 q => ?_) (fun _ _ _ q => False.elim q)
  obtain ⟨rfl, rfl, rfl⟩ := q
  refine J_i2l d_Law_turnKey_7 hv ?_
  refine J_lastore d_Law_turnKey_8 hD (by decide) (by decide) ?_
  refine V_goto 18 d_Law_turnKey_9 (by decide) ?_
  refine V_iconst d_Law_turnKey_18 ?_
  exact V_ireturn d_Law_turnKey_19 rfl ⟨Nat.le_of_ble_eq_true rfl, Nat.le_of_ble_eq_true rfl⟩ ⟨rfl, rfl, rfl⟩

set_option maxRecDepth 100000 in
set_option maxHeartbeats 4000000 in
theorem w_set_1 (G : zG) (sz B D : Nat) (w : zW) (x1 x2 x3 : Int32) {fs : List Value} (hB : w B = some (zobj cX fs)) (hc : zCt G M_X_set (zR 7 1 6 117) [.ref B, .int x1, .int x2, .int x3] sz w (zOut (.inr zNSE) w (sz + 1))) : zCt G M_Law_set (zR 8 1 6 143) [.ref B, .int x1, .int x2, .int x3, .ref D] sz w (zOut (.inl (some (.int (Int32.ofInt 1)))) w (sz + 1)) := by
  refine V_aload d_Law_set_0 rfl ?_
  refine V_iconst d_Law_set_2 ?_
  refine V_aload_n d_Law_set_3 rfl ?_
  refine V_iload_n d_Law_set_4 rfl ?_
  refine V_iload_n d_Law_set_5 rfl ?_
  refine V_iload_n d_Law_set_6 rfl ?_
  refine V_callVc (n := 3) znm d_Law_set_7 g_Law_21 rfl hB rfl hc ⟨co_X_set, by decide +kernel, (Nat.le_of_ble_eq_true rfl)⟩ ⟨(Nat.le_of_ble_eq_true rfl), (Nat.le_of_ble_eq_true rfl), (Nat.le_of_ble_eq_true rfl), (Nat.le_of_ble_eq_true rfl)⟩ (Nat.le_of_ble_eq_true rfl) (fun _ _ _ q => by cases q.1) (fun C w1 s1 q => ?_)
  obtain ⟨q1, q2, q3⟩ := q
  cases q1
  subst q2
  subst q3
  refine ⟨zca_25, List.forall_mem_cons.mpr ⟨⟨zll_25, by decide, Or.inl rfl⟩, fun _ h => absurd h List.not_mem_nil⟩, 15, rfl, fun x => ?_⟩
  refine V_astore d_Law_set_15 (by decide) ?_
  refine V_iconst d_Law_set_17 ?_
  exact V_ireturn d_Law_set_18 rfl ⟨Nat.le_of_ble_eq_true rfl, Nat.le_of_ble_eq_true rfl⟩ ⟨rfl, rfl, rfl⟩

set_option maxRecDepth 100000 in
set_option maxHeartbeats 4000000 in
theorem w_set_0 (G : zG) (sz B D : Nat) (w w' : zW) (x1 x2 x3 : Int32) (v : Int) (o : Int → Int) {fs : List Value} (hB : w B = some (zobj cX fs)) (hD : w' D = some (zro G 1 o)) (hv : -2147483648 ≤ v ∧ v < 2147483648) (hc : zCt G M_X_set (zR 7 1 6 117) [.ref B, .int x1, .int x2, .int x3] sz w (zdet (some (.int (Int32.ofInt v))) w' sz)) : zCt G M_Law_set (zR 8 1 6 143) [.ref B, .int x1, .int x2, .int x3, .ref D] sz w (zdet (some (.int (Int32.ofInt 0))) (zset w' D (zro G 1 (zu o 0 v))) sz) := by
  refine V_aload d_Law_set_0 rfl ?_
  refine V_iconst d_Law_set_2 ?_
  refine V_aload_n d_Law_set_3 rfl ?_
  refine V_iload_n d_Law_set_4 rfl ?_
  refine V_iload_n d_Law_set_5 rfl ?_
  refine V_iload_n d_Law_set_6 rfl ?_
  refine V_callVc (n := 3) znm d_Law_set_7 g_Law_21 rfl hB rfl hc ⟨co_X_set, by decide +kernel, (Nat.le_of_ble_eq_true rfl)⟩ ⟨(Nat.le_of_ble_eq_true rfl), (Nat.le_of_ble_eq_true rfl), (Nat.le_of_ble_eq_true rfl), (Nat.le_of_ble_eq_true rfl)⟩ (Nat.le_of_ble_eq_true rfl) (fun r1 w1 s1 q => ?_) (fun _ _ _ q => False.elim q)
  obtain ⟨rfl, rfl, rfl⟩ := q
  refine J_i2l d_Law_set_10 hv ?_
  refine J_lastore d_Law_set_11 hD (by decide) (by decide) ?_
  refine V_goto 19 d_Law_set_12 (by decide) ?_
  refine V_iconst d_Law_set_19 ?_
  exact V_ireturn d_Law_set_20 rfl ⟨Nat.le_of_ble_eq_true rfl, Nat.le_of_ble_eq_true rfl⟩ ⟨rfl, rfl, rfl⟩

set_option maxRecDepth 100000 in
set_option maxHeartbeats 4000000 in
theorem w_get_1 (G : zG) (sz B D : Nat) (w : zW) (x1 x2 : Int32) {fs : List Value} (hB : w B = some (zobj cX fs)) (hc : zCt G M_X_get (zR 7 1 6 117) [.ref B, .int x1, .int x2] sz w (zOut (.inr zNSE) w (sz + 1))) : zCt G M_Law_get (zR 8 1 6 140) [.ref B, .int x1, .int x2, .ref D] sz w (zOut (.inl (some (.int (Int32.ofInt 1)))) w (sz + 1)) := by
  refine V_aload_n d_Law_get_0 rfl ?_
  refine V_iconst d_Law_get_1 ?_
  refine V_aload_n d_Law_get_2 rfl ?_
  refine V_iload_n d_Law_get_3 rfl ?_
  refine V_iload_n d_Law_get_4 rfl ?_
  refine V_callVc (n := 2) znm d_Law_get_5 g_Law_27 rfl hB rfl hc ⟨co_X_get, by decide +kernel, (Nat.le_of_ble_eq_true rfl)⟩ ⟨(Nat.le_of_ble_eq_true rfl), (Nat.le_of_ble_eq_true rfl), (Nat.le_of_ble_eq_true rfl), (Nat.le_of_ble_eq_true rfl)⟩ (Nat.le_of_ble_eq_true rfl) (fun _ _ _ q => by cases q.1) (fun C w1 s1 q => ?_)
  obtain ⟨q1, q2, q3⟩ := q
  cases q1
  subst q2
  subst q3
  refine ⟨zca_25, List.forall_mem_cons.mpr ⟨⟨zll_25, by decide, Or.inl rfl⟩, fun _ h => absurd h List.not_mem_nil⟩, 13, rfl, fun x => ?_⟩
  refine V_astore d_Law_get_13 (by decide) ?_
  refine V_iconst d_Law_get_15 ?_
  exact V_ireturn d_Law_get_16 rfl ⟨Nat.le_of_ble_eq_true rfl, Nat.le_of_ble_eq_true rfl⟩ ⟨rfl, rfl, rfl⟩

set_option maxRecDepth 100000 in
set_option maxHeartbeats 4000000 in
theorem w_get_0 (G : zG) (sz B D : Nat) (w w' : zW) (x1 x2 : Int32) (v : Int) (o : Int → Int) {fs : List Value} (hB : w B = some (zobj cX fs)) (hD : w' D = some (zro G 1 o)) (hv : -2147483648 ≤ v ∧ v < 2147483648) (hc : zCt G M_X_get (zR 7 1 6 117) [.ref B, .int x1, .int x2] sz w (zdet (some (.int (Int32.ofInt v))) w' sz)) : zCt G M_Law_get (zR 8 1 6 140) [.ref B, .int x1, .int x2, .ref D] sz w (zdet (some (.int (Int32.ofInt 0))) (zset w' D (zro G 1 (zu o 0 v))) sz) := by
  refine V_aload_n d_Law_get_0 rfl ?_
  refine V_iconst d_Law_get_1 ?_
  refine V_aload_n d_Law_get_2 rfl ?_
  refine V_iload_n d_Law_get_3 rfl ?_
  refine V_iload_n d_Law_get_4 rfl ?_
  refine V_callVc (n := 2) znm d_Law_get_5 g_Law_27 rfl hB rfl hc ⟨co_X_get, by decide +kernel, (Nat.le_of_ble_eq_true rfl)⟩ ⟨(Nat.le_of_ble_eq_true rfl), (Nat.le_of_ble_eq_true rfl), (Nat.le_of_ble_eq_true rfl), (Nat.le_of_ble_eq_true rfl)⟩ (Nat.le_of_ble_eq_true rfl) (fun r1 w1 s1 q => ?_) (fun _ _ _ q => False.elim q)
  obtain ⟨rfl, rfl, rfl⟩ := q
  refine J_i2l d_Law_get_8 hv ?_
  refine J_lastore d_Law_get_9 hD (by decide) (by decide) ?_
  refine V_goto 17 d_Law_get_10 (by decide) ?_
  refine V_iconst d_Law_get_17 ?_
  exact V_ireturn d_Law_get_18 rfl ⟨Nat.le_of_ble_eq_true rfl, Nat.le_of_ble_eq_true rfl⟩ ⟨rfl, rfl, rfl⟩

set_option maxRecDepth 100000 in
set_option maxHeartbeats 4000000 in
theorem w_batch_1 (G : zG) (sz B D : Nat) (w : zW) (x1 x2 : Int32) {fs : List Value} (hB : w B = some (zobj cX fs)) (hc : zCt G M_X_batch (zR 7 1 6 117) [.ref B, .int x1, .int x2] sz w (zOut (.inr zNSE) w (sz + 1))) : zCt G M_Law_batch (zR 8 1 6 140) [.ref B, .int x1, .int x2, .ref D] sz w (zOut (.inl (some (.int (Int32.ofInt 1)))) w (sz + 1)) := by
  refine V_aload_n d_Law_batch_0 rfl ?_
  refine V_iconst d_Law_batch_1 ?_
  refine V_aload_n d_Law_batch_2 rfl ?_
  refine V_iload_n d_Law_batch_3 rfl ?_
  refine V_iload_n d_Law_batch_4 rfl ?_
  refine V_callVc (n := 2) znm d_Law_batch_5 g_Law_30 rfl hB rfl hc ⟨co_X_batch, by decide +kernel, (Nat.le_of_ble_eq_true rfl)⟩ ⟨(Nat.le_of_ble_eq_true rfl), (Nat.le_of_ble_eq_true rfl), (Nat.le_of_ble_eq_true rfl), (Nat.le_of_ble_eq_true rfl)⟩ (Nat.le_of_ble_eq_true rfl) (fun _ _ _ q => by cases q.1) (fun C w1 s1 q => ?_)
  obtain ⟨q1, q2, q3⟩ := q
  cases q1
  subst q2
  subst q3
  refine ⟨zca_25, List.forall_mem_cons.mpr ⟨⟨zll_25, by decide, Or.inl rfl⟩, fun _ h => absurd h List.not_mem_nil⟩, 13, rfl, fun x => ?_⟩
  refine V_astore d_Law_batch_13 (by decide) ?_
  refine V_iconst d_Law_batch_15 ?_
  exact V_ireturn d_Law_batch_16 rfl ⟨Nat.le_of_ble_eq_true rfl, Nat.le_of_ble_eq_true rfl⟩ ⟨rfl, rfl, rfl⟩

set_option maxRecDepth 100000 in
set_option maxHeartbeats 4000000 in
theorem w_batch_0 (G : zG) (sz B D : Nat) (w w' : zW) (x1 x2 : Int32) (v : Int) (o : Int → Int) {fs : List Value} (hB : w B = some (zobj cX fs)) (hD : w' D = some (zro G 1 o)) (hv : -2147483648 ≤ v ∧ v < 2147483648) (hc : zCt G M_X_batch (zR 7 1 6 117) [.ref B, .int x1, .int x2] sz w (zdet (some (.int (Int32.ofInt v))) w' sz)) : zCt G M_Law_batch (zR 8 1 6 140) [.ref B, .int x1, .int x2, .ref D] sz w (zdet (some (.int (Int32.ofInt 0))) (zset w' D (zro G 1 (zu o 0 v))) sz) := by
  refine V_aload_n d_Law_batch_0 rfl ?_
  refine V_iconst d_Law_batch_1 ?_
  refine V_aload_n d_Law_batch_2 rfl ?_
  refine V_iload_n d_Law_batch_3 rfl ?_
  refine V_iload_n d_Law_batch_4 rfl ?_
  refine V_callVc (n := 2) znm d_Law_batch_5 g_Law_30 rfl hB rfl hc ⟨co_X_batch, by decide +kernel, (Nat.le_of_ble_eq_true rfl)⟩ ⟨(Nat.le_of_ble_eq_true rfl), (Nat.le_of_ble_eq_true rfl), (Nat.le_of_ble_eq_true rfl), (Nat.le_of_ble_eq_true rfl)⟩ (Nat.le_of_ble_eq_true rfl) (fun r1 w1 s1 q => ?_) (fun _ _ _ q => False.elim q)
  obtain ⟨rfl, rfl, rfl⟩ := q
  refine J_i2l d_Law_batch_8 hv ?_
  refine J_lastore d_Law_batch_9 hD (by decide) (by decide) ?_
  refine V_goto 17 d_Law_batch_10 (by decide) ?_
  refine V_iconst d_Law_batch_17 ?_
  exact V_ireturn d_Law_batch_18 rfl ⟨Nat.le_of_ble_eq_true rfl, Nat.le_of_ble_eq_true rfl⟩ ⟨rfl, rfl, rfl⟩

set_option maxRecDepth 100000 in
set_option maxHeartbeats 4000000 in
theorem w_seal_1 (G : zG) (sz B D : Nat) (w : zW) (x1 x2 : Int32) {fs : List Value} (hB : w B = some (zobj cX fs)) (hc : zCt G M_X_seal (zR 7 1 6 137) [.ref B, .int x1, .int x2] sz w (zOut (.inr zNSE) w (sz + 1))) : zCt G M_Law_seal (zR 8 1 6 162) [.ref B, .int x1, .int x2, .ref D] sz w (zOut (.inl (some (.int (Int32.ofInt 1)))) w (sz + 1)) := by
  refine V_aload_n d_Law_seal_0 rfl ?_
  refine V_iconst d_Law_seal_1 ?_
  refine V_aload_n d_Law_seal_2 rfl ?_
  refine V_iload_n d_Law_seal_3 rfl ?_
  refine V_iload_n d_Law_seal_4 rfl ?_
  refine V_callVc (n := 2) znm d_Law_seal_5 g_Law_34 rfl hB rfl hc ⟨co_X_seal, by decide +kernel, (Nat.le_of_ble_eq_true rfl)⟩ ⟨(Nat.le_of_ble_eq_true rfl), (Nat.le_of_ble_eq_true rfl), (Nat.le_of_ble_eq_true rfl), (Nat.le_of_ble_eq_true rfl)⟩ (Nat.le_of_ble_eq_true rfl) (fun _ _ _ q => by cases q.1) (fun C w1 s1 q => ?_)
  obtain ⟨q1, q2, q3⟩ := q
  cases q1
  subst q2
  subst q3
  refine ⟨zca_25, List.forall_mem_cons.mpr ⟨⟨zll_25, by decide, Or.inl rfl⟩, List.forall_mem_cons.mpr ⟨⟨zll_19, by decide, Or.inr (by decide)⟩, fun _ h => absurd h List.not_mem_nil⟩⟩, 13, rfl, fun x => ?_⟩
  refine V_astore d_Law_seal_13 (by decide) ?_
  refine V_iconst d_Law_seal_15 ?_
  exact V_ireturn d_Law_seal_16 rfl ⟨Nat.le_of_ble_eq_true rfl, Nat.le_of_ble_eq_true rfl⟩ ⟨rfl, rfl, rfl⟩

set_option maxRecDepth 100000 in
set_option maxHeartbeats 4000000 in
theorem w_seal_2 (G : zG) (sz B D : Nat) (w : zW) (x1 x2 : Int32) {fs : List Value} (hB : w B = some (zobj cX fs)) (hc : zCt G M_X_seal (zR 7 1 6 137) [.ref B, .int x1, .int x2] sz w (zOut (.inr zISE) w (sz + 1))) : zCt G M_Law_seal (zR 8 1 6 162) [.ref B, .int x1, .int x2, .ref D] sz w (zOut (.inl (some (.int (Int32.ofInt 2)))) w (sz + 1)) := by
  refine V_aload_n d_Law_seal_0 rfl ?_
  refine V_iconst d_Law_seal_1 ?_
  refine V_aload_n d_Law_seal_2 rfl ?_
  refine V_iload_n d_Law_seal_3 rfl ?_
  refine V_iload_n d_Law_seal_4 rfl ?_
  refine V_callVc (n := 2) znm d_Law_seal_5 g_Law_34 rfl hB rfl hc ⟨co_X_seal, by decide +kernel, (Nat.le_of_ble_eq_true rfl)⟩ ⟨(Nat.le_of_ble_eq_true rfl), (Nat.le_of_ble_eq_true rfl), (Nat.le_of_ble_eq_true rfl), (Nat.le_of_ble_eq_true rfl)⟩ (Nat.le_of_ble_eq_true rfl) (fun _ _ _ q => by cases q.1) (fun C w1 s1 q => ?_)
  obtain ⟨q1, q2, q3⟩ := q
  cases q1
  subst q2
  subst q3
  refine ⟨zca_19, List.forall_mem_cons.mpr ⟨⟨zll_25, by decide, Or.inr (by decide)⟩, List.forall_mem_cons.mpr ⟨⟨zll_19, by decide, Or.inl rfl⟩, fun _ h => absurd h List.not_mem_nil⟩⟩, 17, rfl, fun x => ?_⟩
  refine V_astore d_Law_seal_17 (by decide) ?_
  refine V_iconst d_Law_seal_19 ?_
  exact V_ireturn d_Law_seal_20 rfl ⟨Nat.le_of_ble_eq_true rfl, Nat.le_of_ble_eq_true rfl⟩ ⟨rfl, rfl, rfl⟩

set_option maxRecDepth 100000 in
set_option maxHeartbeats 4000000 in
theorem w_seal_0 (G : zG) (sz B D : Nat) (w w' : zW) (x1 x2 : Int32) (v : Int) (o : Int → Int) {fs : List Value} (hB : w B = some (zobj cX fs)) (hD : w' D = some (zro G 1 o)) (hv : -2147483648 ≤ v ∧ v < 2147483648) (hc : zCt G M_X_seal (zR 7 1 6 137) [.ref B, .int x1, .int x2] sz w (zdet (some (.int (Int32.ofInt v))) w' sz)) : zCt G M_Law_seal (zR 8 1 6 162) [.ref B, .int x1, .int x2, .ref D] sz w (zdet (some (.int (Int32.ofInt 0))) (zset w' D (zro G 1 (zu o 0 v))) sz) := by
  refine V_aload_n d_Law_seal_0 rfl ?_
  refine V_iconst d_Law_seal_1 ?_
  refine V_aload_n d_Law_seal_2 rfl ?_
  refine V_iload_n d_Law_seal_3 rfl ?_
  refine V_iload_n d_Law_seal_4 rfl ?_
  refine V_callVc (n := 2) znm d_Law_seal_5 g_Law_34 rfl hB rfl hc ⟨co_X_seal, by decide +kernel, (Nat.le_of_ble_eq_true rfl)⟩ ⟨(Nat.le_of_ble_eq_true rfl), (Nat.le_of_ble_eq_true rfl), (Nat.le_of_ble_eq_true rfl), (Nat.le_of_ble_eq_true rfl)⟩ (Nat.le_of_ble_eq_true rfl) (fun r1 w1 s1 q => ?_) (fun _ _ _ q => False.elim q)
  obtain ⟨rfl, rfl, rfl⟩ := q
  refine J_i2l d_Law_seal_8 hv ?_
  refine J_lastore d_Law_seal_9 hD (by decide) (by decide) ?_
  refine V_goto 21 d_Law_seal_10 (by decide) ?_
  refine V_iconst d_Law_seal_21 ?_
  exact V_ireturn d_Law_seal_22 rfl ⟨Nat.le_of_ble_eq_true rfl, Nat.le_of_ble_eq_true rfl⟩ ⟨rfl, rfl, rfl⟩

set_option maxRecDepth 100000 in
set_option maxHeartbeats 4000000 in
theorem w_open_1 (G : zG) (sz B D : Nat) (w : zW) (x1 x2 : Int32) {fs : List Value} (hB : w B = some (zobj cX fs)) (hc : zCt G M_X_open (zR 8 1 6 139) [.ref B, .int x1, .int x2] sz w (zOut (.inr zNSE) w (sz + 1))) : zCt G M_Law_open (zR 9 1 6 165) [.ref B, .int x1, .int x2, .ref D] sz w (zOut (.inl (some (.int (Int32.ofInt 1)))) w (sz + 1)) := by
  refine V_aload_n d_Law_open_0 rfl ?_
  refine V_iconst d_Law_open_1 ?_
  refine V_aload_n d_Law_open_2 rfl ?_
  refine V_iload_n d_Law_open_3 rfl ?_
  refine V_iload_n d_Law_open_4 rfl ?_
  refine V_callVc (n := 2) znm d_Law_open_5 g_Law_37 rfl hB rfl hc ⟨co_X_open, by decide +kernel, (Nat.le_of_ble_eq_true rfl)⟩ ⟨(Nat.le_of_ble_eq_true rfl), (Nat.le_of_ble_eq_true rfl), (Nat.le_of_ble_eq_true rfl), (Nat.le_of_ble_eq_true rfl)⟩ (Nat.le_of_ble_eq_true rfl) (fun _ _ _ q => by cases q.1) (fun C w1 s1 q => ?_)
  obtain ⟨q1, q2, q3⟩ := q
  cases q1
  subst q2
  subst q3
  refine ⟨zca_25, List.forall_mem_cons.mpr ⟨⟨zll_25, by decide, Or.inl rfl⟩, fun _ h => absurd h List.not_mem_nil⟩, 13, rfl, fun x => ?_⟩
  refine V_astore d_Law_open_13 (by decide) ?_
  refine V_iconst d_Law_open_15 ?_
  exact V_ireturn d_Law_open_16 rfl ⟨Nat.le_of_ble_eq_true rfl, Nat.le_of_ble_eq_true rfl⟩ ⟨rfl, rfl, rfl⟩

set_option maxRecDepth 100000 in
set_option maxHeartbeats 4000000 in
theorem w_open_0 (G : zG) (sz B D : Nat) (w w' : zW) (x1 x2 : Int32) (v : Int) (o : Int → Int) {fs : List Value} (hB : w B = some (zobj cX fs)) (hD : w' D = some (zro G 1 o)) (hv : -2147483648 ≤ v ∧ v < 2147483648) (hc : zCt G M_X_open (zR 8 1 6 139) [.ref B, .int x1, .int x2] sz w (zdet (some (.int (Int32.ofInt v))) w' sz)) : zCt G M_Law_open (zR 9 1 6 165) [.ref B, .int x1, .int x2, .ref D] sz w (zdet (some (.int (Int32.ofInt 0))) (zset w' D (zro G 1 (zu o 0 v))) sz) := by
  refine V_aload_n d_Law_open_0 rfl ?_
  refine V_iconst d_Law_open_1 ?_
  refine V_aload_n d_Law_open_2 rfl ?_
  refine V_iload_n d_Law_open_3 rfl ?_
  refine V_iload_n d_Law_open_4 rfl ?_
  refine V_callVc (n := 2) znm d_Law_open_5 g_Law_37 rfl hB rfl hc ⟨co_X_open, by decide +kernel, (Nat.le_of_ble_eq_true rfl)⟩ ⟨(Nat.le_of_ble_eq_true rfl), (Nat.le_of_ble_eq_true rfl), (Nat.le_of_ble_eq_true rfl), (Nat.le_of_ble_eq_true rfl)⟩ (Nat.le_of_ble_eq_true rfl) (fun r1 w1 s1 q => ?_) (fun _ _ _ q => False.elim q)
  obtain ⟨rfl, rfl, rfl⟩ := q
  refine J_i2l d_Law_open_8 hv ?_
  refine J_lastore d_Law_open_9 hD (by decide) (by decide) ?_
  refine V_goto 17 d_Law_open_10 (by decide) ?_
  refine V_iconst d_Law_open_17 ?_
  exact V_ireturn d_Law_open_18 rfl ⟨Nat.le_of_ble_eq_true rfl, Nat.le_of_ble_eq_true rfl⟩ ⟨rfl, rfl, rfl⟩

set_option maxRecDepth 100000 in
set_option maxHeartbeats 4000000 in
theorem w_join_1 (G : zG) (sz B D : Nat) (w : zW) (x1 x2 x3 x4 : Int32) {fs : List Value} (hB : w B = some (zobj cX fs)) (hc : zCt G M_X_join (zR 8 1 6 139) [.ref B, .int x1, .int x2, .int x3, .int x4] sz w (zOut (.inr zNSE) w (sz + 1))) : zCt G M_Law_join (zR 9 1 6 166) [.ref B, .int x1, .int x2, .int x3, .int x4, .ref D] sz w (zOut (.inl (some (.int (Int32.ofInt 1)))) w (sz + 1)) := by
  refine V_aload d_Law_join_0 rfl ?_
  refine V_iconst d_Law_join_2 ?_
  refine V_aload_n d_Law_join_3 rfl ?_
  refine V_iload_n d_Law_join_4 rfl ?_
  refine V_iload_n d_Law_join_5 rfl ?_
  refine V_iload_n d_Law_join_6 rfl ?_
  refine V_iload d_Law_join_7 rfl ?_
  refine V_callVc (n := 4) znm d_Law_join_9 g_Law_40 rfl hB rfl hc ⟨co_X_join, by decide +kernel, (Nat.le_of_ble_eq_true rfl)⟩ ⟨(Nat.le_of_ble_eq_true rfl), (Nat.le_of_ble_eq_true rfl), (Nat.le_of_ble_eq_true rfl), (Nat.le_of_ble_eq_true rfl)⟩ (Nat.le_of_ble_eq_true rfl) (fun _ _ _ q => by cases q.1) (fun C w1 s1 q => ?_)
  obtain ⟨q1, q2, q3⟩ := q
  cases q1
  subst q2
  subst q3
  refine ⟨zca_25, List.forall_mem_cons.mpr ⟨⟨zll_25, by decide, Or.inl rfl⟩, List.forall_mem_cons.mpr ⟨⟨zll_13, by decide, Or.inr (by decide)⟩, List.forall_mem_cons.mpr ⟨⟨zll_19, by decide, Or.inr (by decide)⟩, fun _ h => absurd h List.not_mem_nil⟩⟩⟩, 17, rfl, fun x => ?_⟩
  refine V_astore d_Law_join_17 (by decide) ?_
  refine V_iconst d_Law_join_19 ?_
  exact V_ireturn d_Law_join_20 rfl ⟨Nat.le_of_ble_eq_true rfl, Nat.le_of_ble_eq_true rfl⟩ ⟨rfl, rfl, rfl⟩

set_option maxRecDepth 100000 in
set_option maxHeartbeats 4000000 in
theorem w_join_2 (G : zG) (sz B D : Nat) (w : zW) (x1 x2 x3 x4 : Int32) {fs : List Value} (hB : w B = some (zobj cX fs)) (hc : zCt G M_X_join (zR 8 1 6 139) [.ref B, .int x1, .int x2, .int x3, .int x4] sz w (zOut (.inr zIAE) w (sz + 1))) : zCt G M_Law_join (zR 9 1 6 166) [.ref B, .int x1, .int x2, .int x3, .int x4, .ref D] sz w (zOut (.inl (some (.int (Int32.ofInt 2)))) w (sz + 1)) := by
  refine V_aload d_Law_join_0 rfl ?_
  refine V_iconst d_Law_join_2 ?_
  refine V_aload_n d_Law_join_3 rfl ?_
  refine V_iload_n d_Law_join_4 rfl ?_
  refine V_iload_n d_Law_join_5 rfl ?_
  refine V_iload_n d_Law_join_6 rfl ?_
  refine V_iload d_Law_join_7 rfl ?_
  refine V_callVc (n := 4) znm d_Law_join_9 g_Law_40 rfl hB rfl hc ⟨co_X_join, by decide +kernel, (Nat.le_of_ble_eq_true rfl)⟩ ⟨(Nat.le_of_ble_eq_true rfl), (Nat.le_of_ble_eq_true rfl), (Nat.le_of_ble_eq_true rfl), (Nat.le_of_ble_eq_true rfl)⟩ (Nat.le_of_ble_eq_true rfl) (fun _ _ _ q => by cases q.1) (fun C w1 s1 q => ?_)
  obtain ⟨q1, q2, q3⟩ := q
  cases q1
  subst q2
  subst q3
  refine ⟨zca_13, List.forall_mem_cons.mpr ⟨⟨zll_25, by decide, Or.inr (by decide)⟩, List.forall_mem_cons.mpr ⟨⟨zll_13, by decide, Or.inl rfl⟩, List.forall_mem_cons.mpr ⟨⟨zll_19, by decide, Or.inr (by decide)⟩, fun _ h => absurd h List.not_mem_nil⟩⟩⟩, 21, rfl, fun x => ?_⟩
  refine V_astore d_Law_join_21 (by decide) ?_
  refine V_iconst d_Law_join_23 ?_
  exact V_ireturn d_Law_join_24 rfl ⟨Nat.le_of_ble_eq_true rfl, Nat.le_of_ble_eq_true rfl⟩ ⟨rfl, rfl, rfl⟩

set_option maxRecDepth 100000 in
set_option maxHeartbeats 4000000 in
theorem w_join_3 (G : zG) (sz B D : Nat) (w : zW) (x1 x2 x3 x4 : Int32) {fs : List Value} (hB : w B = some (zobj cX fs)) (hc : zCt G M_X_join (zR 8 1 6 139) [.ref B, .int x1, .int x2, .int x3, .int x4] sz w (zOut (.inr zISE) w (sz + 1))) : zCt G M_Law_join (zR 9 1 6 166) [.ref B, .int x1, .int x2, .int x3, .int x4, .ref D] sz w (zOut (.inl (some (.int (Int32.ofInt 3)))) w (sz + 1)) := by
  refine V_aload d_Law_join_0 rfl ?_
  refine V_iconst d_Law_join_2 ?_
  refine V_aload_n d_Law_join_3 rfl ?_
  refine V_iload_n d_Law_join_4 rfl ?_
  refine V_iload_n d_Law_join_5 rfl ?_
  refine V_iload_n d_Law_join_6 rfl ?_
  refine V_iload d_Law_join_7 rfl ?_
  refine V_callVc (n := 4) znm d_Law_join_9 g_Law_40 rfl hB rfl hc ⟨co_X_join, by decide +kernel, (Nat.le_of_ble_eq_true rfl)⟩ ⟨(Nat.le_of_ble_eq_true rfl), (Nat.le_of_ble_eq_true rfl), (Nat.le_of_ble_eq_true rfl), (Nat.le_of_ble_eq_true rfl)⟩ (Nat.le_of_ble_eq_true rfl) (fun _ _ _ q => by cases q.1) (fun C w1 s1 q => ?_)
  obtain ⟨q1, q2, q3⟩ := q
  cases q1
  subst q2
  subst q3
  refine ⟨zca_19, List.forall_mem_cons.mpr ⟨⟨zll_25, by decide, Or.inr (by decide)⟩, List.forall_mem_cons.mpr ⟨⟨zll_13, by decide, Or.inr (by decide)⟩, List.forall_mem_cons.mpr ⟨⟨zll_19, by decide, Or.inl rfl⟩, fun _ h => absurd h List.not_mem_nil⟩⟩⟩, 25, rfl, fun x => ?_⟩
  refine V_astore d_Law_join_25 (by decide) ?_
  refine V_iconst d_Law_join_27 ?_
  exact V_ireturn d_Law_join_28 rfl ⟨Nat.le_of_ble_eq_true rfl, Nat.le_of_ble_eq_true rfl⟩ ⟨rfl, rfl, rfl⟩

set_option maxRecDepth 100000 in
set_option maxHeartbeats 4000000 in
theorem w_join_0 (G : zG) (sz B D : Nat) (w w' : zW) (x1 x2 x3 x4 : Int32) (v : Int) (o : Int → Int) {fs : List Value} (hB : w B = some (zobj cX fs)) (hD : w' D = some (zro G 1 o)) (hv : -2147483648 ≤ v ∧ v < 2147483648) (hc : zCt G M_X_join (zR 8 1 6 139) [.ref B, .int x1, .int x2, .int x3, .int x4] sz w (zdet (some (.int (Int32.ofInt v))) w' sz)) : zCt G M_Law_join (zR 9 1 6 166) [.ref B, .int x1, .int x2, .int x3, .int x4, .ref D] sz w (zdet (some (.int (Int32.ofInt 0))) (zset w' D (zro G 1 (zu o 0 v))) sz) := by
  refine V_aload d_Law_join_0 rfl ?_
  refine V_iconst d_Law_join_2 ?_
  refine V_aload_n d_Law_join_3 rfl ?_
  refine V_iload_n d_Law_join_4 rfl ?_
  refine V_iload_n d_Law_join_5 rfl ?_
  refine V_iload_n d_Law_join_6 rfl ?_
  refine V_iload d_Law_join_7 rfl ?_
  refine V_callVc (n := 4) znm d_Law_join_9 g_Law_40 rfl hB rfl hc ⟨co_X_join, by decide +kernel, (Nat.le_of_ble_eq_true rfl)⟩ ⟨(Nat.le_of_ble_eq_true rfl), (Nat.le_of_ble_eq_true rfl), (Nat.le_of_ble_eq_true rfl), (Nat.le_of_ble_eq_true rfl)⟩ (Nat.le_of_ble_eq_true rfl) (fun r1 w1 s1 q => ?_) (fun _ _ _ q => False.elim q)
  obtain ⟨rfl, rfl, rfl⟩ := q
  refine J_i2l d_Law_join_12 hv ?_
  refine J_lastore d_Law_join_13 hD (by decide) (by decide) ?_
  refine V_goto 29 d_Law_join_14 (by decide) ?_
  refine V_iconst d_Law_join_29 ?_
  exact V_ireturn d_Law_join_30 rfl ⟨Nat.le_of_ble_eq_true rfl, Nat.le_of_ble_eq_true rfl⟩ ⟨rfl, rfl, rfl⟩

set_option maxRecDepth 100000 in
set_option maxHeartbeats 4000000 in
theorem w_plain_1 (G : zG) (sz B D : Nat) (w : zW) (x1 x2 x3 x4 : Int32) {fs : List Value} (hB : w B = some (zobj cX fs)) (hc : zCt G M_X_plain (zR 8 1 6 139) [.ref B, .int x1, .int x2, .int x3, .int x4] sz w (zOut (.inr zNSE) w (sz + 1))) : zCt G M_Law_plain (zR 9 1 6 166) [.ref B, .int x1, .int x2, .int x3, .int x4, .ref D] sz w (zOut (.inl (some (.int (Int32.ofInt 1)))) w (sz + 1)) := by
  refine V_aload d_Law_plain_0 rfl ?_
  refine V_iconst d_Law_plain_2 ?_
  refine V_aload_n d_Law_plain_3 rfl ?_
  refine V_iload_n d_Law_plain_4 rfl ?_
  refine V_iload_n d_Law_plain_5 rfl ?_
  refine V_iload_n d_Law_plain_6 rfl ?_
  refine V_iload d_Law_plain_7 rfl ?_
  refine V_callVc (n := 4) znm d_Law_plain_9 g_Law_44 rfl hB rfl hc ⟨co_X_plain, by decide +kernel, (Nat.le_of_ble_eq_true rfl)⟩ ⟨(Nat.le_of_ble_eq_true rfl), (Nat.le_of_ble_eq_true rfl), (Nat.le_of_ble_eq_true rfl), (Nat.le_of_ble_eq_true rfl)⟩ (Nat.le_of_ble_eq_true rfl) (fun _ _ _ q => by cases q.1) (fun C w1 s1 q => ?_)
  obtain ⟨q1, q2, q3⟩ := q
  cases q1
  subst q2
  subst q3
  refine ⟨zca_25, List.forall_mem_cons.mpr ⟨⟨zll_25, by decide, Or.inl rfl⟩, List.forall_mem_cons.mpr ⟨⟨zll_13, by decide, Or.inr (by decide)⟩, fun _ h => absurd h List.not_mem_nil⟩⟩, 17, rfl, fun x => ?_⟩
  refine V_astore d_Law_plain_17 (by decide) ?_
  refine V_iconst d_Law_plain_19 ?_
  exact V_ireturn d_Law_plain_20 rfl ⟨Nat.le_of_ble_eq_true rfl, Nat.le_of_ble_eq_true rfl⟩ ⟨rfl, rfl, rfl⟩

set_option maxRecDepth 100000 in
set_option maxHeartbeats 4000000 in
theorem w_plain_2 (G : zG) (sz B D : Nat) (w : zW) (x1 x2 x3 x4 : Int32) {fs : List Value} (hB : w B = some (zobj cX fs)) (hc : zCt G M_X_plain (zR 8 1 6 139) [.ref B, .int x1, .int x2, .int x3, .int x4] sz w (zOut (.inr zIAE) w (sz + 1))) : zCt G M_Law_plain (zR 9 1 6 166) [.ref B, .int x1, .int x2, .int x3, .int x4, .ref D] sz w (zOut (.inl (some (.int (Int32.ofInt 2)))) w (sz + 1)) := by
  refine V_aload d_Law_plain_0 rfl ?_
  refine V_iconst d_Law_plain_2 ?_
  refine V_aload_n d_Law_plain_3 rfl ?_
  refine V_iload_n d_Law_plain_4 rfl ?_
  refine V_iload_n d_Law_plain_5 rfl ?_
  refine V_iload_n d_Law_plain_6 rfl ?_
  refine V_iload d_Law_plain_7 rfl ?_
  refine V_callVc (n := 4) znm d_Law_plain_9 g_Law_44 rfl hB rfl hc ⟨co_X_plain, by decide +kernel, (Nat.le_of_ble_eq_true rfl)⟩ ⟨(Nat.le_of_ble_eq_true rfl), (Nat.le_of_ble_eq_true rfl), (Nat.le_of_ble_eq_true rfl), (Nat.le_of_ble_eq_true rfl)⟩ (Nat.le_of_ble_eq_true rfl) (fun _ _ _ q => by cases q.1) (fun C w1 s1 q => ?_)
  obtain ⟨q1, q2, q3⟩ := q
  cases q1
  subst q2
  subst q3
  refine ⟨zca_13, List.forall_mem_cons.mpr ⟨⟨zll_25, by decide, Or.inr (by decide)⟩, List.forall_mem_cons.mpr ⟨⟨zll_13, by decide, Or.inl rfl⟩, fun _ h => absurd h List.not_mem_nil⟩⟩, 21, rfl, fun x => ?_⟩
  refine V_astore d_Law_plain_21 (by decide) ?_
  refine V_iconst d_Law_plain_23 ?_
  exact V_ireturn d_Law_plain_24 rfl ⟨Nat.le_of_ble_eq_true rfl, Nat.le_of_ble_eq_true rfl⟩ ⟨rfl, rfl, rfl⟩

set_option maxRecDepth 100000 in
set_option maxHeartbeats 4000000 in
theorem w_plain_0 (G : zG) (sz B D : Nat) (w w' : zW) (x1 x2 x3 x4 : Int32) (v : Int) (o : Int → Int) {fs : List Value} (hB : w B = some (zobj cX fs)) (hD : w' D = some (zro G 1 o)) (hv : -2147483648 ≤ v ∧ v < 2147483648) (hc : zCt G M_X_plain (zR 8 1 6 139) [.ref B, .int x1, .int x2, .int x3, .int x4] sz w (zdet (some (.int (Int32.ofInt v))) w' sz)) : zCt G M_Law_plain (zR 9 1 6 166) [.ref B, .int x1, .int x2, .int x3, .int x4, .ref D] sz w (zdet (some (.int (Int32.ofInt 0))) (zset w' D (zro G 1 (zu o 0 v))) sz) := by
  refine V_aload d_Law_plain_0 rfl ?_
  refine V_iconst d_Law_plain_2 ?_
  refine V_aload_n d_Law_plain_3 rfl ?_
  refine V_iload_n d_Law_plain_4 rfl ?_
  refine V_iload_n d_Law_plain_5 rfl ?_
  refine V_iload_n d_Law_plain_6 rfl ?_
  refine V_iload d_Law_plain_7 rfl ?_
  refine V_callVc (n := 4) znm d_Law_plain_9 g_Law_44 rfl hB rfl hc ⟨co_X_plain, by decide +kernel, (Nat.le_of_ble_eq_true rfl)⟩ ⟨(Nat.le_of_ble_eq_true rfl), (Nat.le_of_ble_eq_true rfl), (Nat.le_of_ble_eq_true rfl), (Nat.le_of_ble_eq_true rfl)⟩ (Nat.le_of_ble_eq_true rfl) (fun r1 w1 s1 q => ?_) (fun _ _ _ q => False.elim q)
  obtain ⟨rfl, rfl, rfl⟩ := q
  refine J_i2l d_Law_plain_12 hv ?_
  refine J_lastore d_Law_plain_13 hD (by decide) (by decide) ?_
  refine V_goto 25 d_Law_plain_14 (by decide) ?_
  refine V_iconst d_Law_plain_25 ?_
  exact V_ireturn d_Law_plain_26 rfl ⟨Nat.le_of_ble_eq_true rfl, Nat.le_of_ble_eq_true rfl⟩ ⟨rfl, rfl, rfl⟩

set_option maxRecDepth 100000 in
set_option maxHeartbeats 4000000 in
theorem w_shrink_1 (G : zG) (sz B D : Nat) (w : zW) (x1 x2 : Int32) {fs : List Value} (hB : w B = some (zobj cX fs)) (hc : zCt G M_X_shrink (zR 8 1 6 139) [.ref B, .int x1, .int x2] sz w (zOut (.inr zNSE) w (sz + 1))) : zCt G M_Law_shrink (zR 9 1 6 163) [.ref B, .int x1, .int x2, .ref D] sz w (zOut (.inl (some (.int (Int32.ofInt 1)))) w (sz + 1)) := by
  refine V_aload_n d_Law_shrink_0 rfl ?_
  refine V_iconst d_Law_shrink_1 ?_
  refine V_aload_n d_Law_shrink_2 rfl ?_
  refine V_iload_n d_Law_shrink_3 rfl ?_
  refine V_iload_n d_Law_shrink_4 rfl ?_
  refine V_callVc (n := 2) znm d_Law_shrink_5 g_Law_47 rfl hB rfl hc ⟨co_X_shrink, by decide +kernel, (Nat.le_of_ble_eq_true rfl)⟩ ⟨(Nat.le_of_ble_eq_true rfl), (Nat.le_of_ble_eq_true rfl), (Nat.le_of_ble_eq_true rfl), (Nat.le_of_ble_eq_true rfl)⟩ (Nat.le_of_ble_eq_true rfl) (fun _ _ _ q => by cases q.1) (fun C w1 s1 q => ?_)
  obtain ⟨q1, q2, q3⟩ := q
  cases q1
  subst q2
  subst q3
  refine ⟨zca_25, List.forall_mem_cons.mpr ⟨⟨zll_25, by decide, Or.inl rfl⟩, List.forall_mem_cons.mpr ⟨⟨zll_19, by decide, Or.inr (by decide)⟩, fun _ h => absurd h List.not_mem_nil⟩⟩, 13, rfl, fun x => ?_⟩
  refine V_astore d_Law_shrink_13 (by decide) ?_
  refine V_iconst d_Law_shrink_15 ?_
  exact V_ireturn d_Law_shrink_16 rfl ⟨Nat.le_of_ble_eq_true rfl, Nat.le_of_ble_eq_true rfl⟩ ⟨rfl, rfl, rfl⟩

set_option maxRecDepth 100000 in
set_option maxHeartbeats 4000000 in
theorem w_shrink_2 (G : zG) (sz B D : Nat) (w : zW) (x1 x2 : Int32) {fs : List Value} (hB : w B = some (zobj cX fs)) (hc : zCt G M_X_shrink (zR 8 1 6 139) [.ref B, .int x1, .int x2] sz w (zOut (.inr zISE) w (sz + 1))) : zCt G M_Law_shrink (zR 9 1 6 163) [.ref B, .int x1, .int x2, .ref D] sz w (zOut (.inl (some (.int (Int32.ofInt 2)))) w (sz + 1)) := by
  refine V_aload_n d_Law_shrink_0 rfl ?_
  refine V_iconst d_Law_shrink_1 ?_
  refine V_aload_n d_Law_shrink_2 rfl ?_
  refine V_iload_n d_Law_shrink_3 rfl ?_
  refine V_iload_n d_Law_shrink_4 rfl ?_
  refine V_callVc (n := 2) znm d_Law_shrink_5 g_Law_47 rfl hB rfl hc ⟨co_X_shrink, by decide +kernel, (Nat.le_of_ble_eq_true rfl)⟩ ⟨(Nat.le_of_ble_eq_true rfl), (Nat.le_of_ble_eq_true rfl), (Nat.le_of_ble_eq_true rfl), (Nat.le_of_ble_eq_true rfl)⟩ (Nat.le_of_ble_eq_true rfl) (fun _ _ _ q => by cases q.1) (fun C w1 s1 q => ?_)
  obtain ⟨q1, q2, q3⟩ := q
  cases q1
  subst q2
  subst q3
  refine ⟨zca_19, List.forall_mem_cons.mpr ⟨⟨zll_25, by decide, Or.inr (by decide)⟩, List.forall_mem_cons.mpr ⟨⟨zll_19, by decide, Or.inl rfl⟩, fun _ h => absurd h List.not_mem_nil⟩⟩, 17, rfl, fun x => ?_⟩
  refine V_astore d_Law_shrink_17 (by decide) ?_
  refine V_iconst d_Law_shrink_19 ?_
  exact V_ireturn d_Law_shrink_20 rfl ⟨Nat.le_of_ble_eq_true rfl, Nat.le_of_ble_eq_true rfl⟩ ⟨rfl, rfl, rfl⟩

set_option maxRecDepth 100000 in
set_option maxHeartbeats 4000000 in
theorem w_shrink_0 (G : zG) (sz B D : Nat) (w w' : zW) (x1 x2 : Int32) (v : Int) (o : Int → Int) {fs : List Value} (hB : w B = some (zobj cX fs)) (hD : w' D = some (zro G 1 o)) (hv : -2147483648 ≤ v ∧ v < 2147483648) (hc : zCt G M_X_shrink (zR 8 1 6 139) [.ref B, .int x1, .int x2] sz w (zdet (some (.int (Int32.ofInt v))) w' sz)) : zCt G M_Law_shrink (zR 9 1 6 163) [.ref B, .int x1, .int x2, .ref D] sz w (zdet (some (.int (Int32.ofInt 0))) (zset w' D (zro G 1 (zu o 0 v))) sz) := by
  refine V_aload_n d_Law_shrink_0 rfl ?_
  refine V_iconst d_Law_shrink_1 ?_
  refine V_aload_n d_Law_shrink_2 rfl ?_
  refine V_iload_n d_Law_shrink_3 rfl ?_
  refine V_iload_n d_Law_shrink_4 rfl ?_
  refine V_callVc (n := 2) znm d_Law_shrink_5 g_Law_47 rfl hB rfl hc ⟨co_X_shrink, by decide +kernel, (Nat.le_of_ble_eq_true rfl)⟩ ⟨(Nat.le_of_ble_eq_true rfl), (Nat.le_of_ble_eq_true rfl), (Nat.le_of_ble_eq_true rfl), (Nat.le_of_ble_eq_true rfl)⟩ (Nat.le_of_ble_eq_true rfl) (fun r1 w1 s1 q => ?_) (fun _ _ _ q => False.elim q)
  obtain ⟨rfl, rfl, rfl⟩ := q
  refine J_i2l d_Law_shrink_8 hv ?_
  refine J_lastore d_Law_shrink_9 hD (by decide) (by decide) ?_
  refine V_goto 21 d_Law_shrink_10 (by decide) ?_
  refine V_iconst d_Law_shrink_21 ?_
  exact V_ireturn d_Law_shrink_22 rfl ⟨Nat.le_of_ble_eq_true rfl, Nat.le_of_ble_eq_true rfl⟩ ⟨rfl, rfl, rfl⟩

set_option maxRecDepth 100000 in
set_option maxHeartbeats 4000000 in
theorem w_turn_1 (G : zG) (sz B D : Nat) (w : zW) (x1 x2 x3 : Int32) {fs : List Value} (hB : w B = some (zobj cX fs)) (hc : zCt G M_X_turn (zR 8 1 6 139) [.ref B, .int x1, .int x2, .int x3] sz w (zOut (.inr zNSE) w (sz + 1))) : zCt G M_Law_turn (zR 9 1 6 166) [.ref B, .int x1, .int x2, .int x3, .ref D] sz w (zOut (.inl (some (.int (Int32.ofInt 1)))) w (sz + 1)) := by
  refine V_aload d_Law_turn_0 rfl ?_
  refine V_iconst d_Law_turn_2 ?_
  refine V_aload_n d_Law_turn_3 rfl ?_
  refine V_iload_n d_Law_turn_4 rfl ?_
  refine V_iload_n d_Law_turn_5 rfl ?_
  refine V_iload_n d_Law_turn_6 rfl ?_
  refine V_callVc (n := 3) znm d_Law_turn_7 g_Law_50 rfl hB rfl hc ⟨co_X_turn, by decide +kernel, (Nat.le_of_ble_eq_true rfl)⟩ ⟨(Nat.le_of_ble_eq_true rfl), (Nat.le_of_ble_eq_true rfl), (Nat.le_of_ble_eq_true rfl), (Nat.le_of_ble_eq_true rfl)⟩ (Nat.le_of_ble_eq_true rfl) (fun _ _ _ q => by cases q.1) (fun C w1 s1 q => ?_)
  obtain ⟨q1, q2, q3⟩ := q
  cases q1
  subst q2
  subst q3
  refine ⟨zca_25, List.forall_mem_cons.mpr ⟨⟨zll_25, by decide, Or.inl rfl⟩, List.forall_mem_cons.mpr ⟨⟨zll_19, by decide, Or.inr (by decide)⟩, fun _ h => absurd h List.not_mem_nil⟩⟩, 15, rfl, fun x => ?_⟩
  refine V_astore d_Law_turn_15 (by decide) ?_
  refine V_iconst d_Law_turn_17 ?_
  exact V_ireturn d_Law_turn_18 rfl ⟨Nat.le_of_ble_eq_true rfl, Nat.le_of_ble_eq_true rfl⟩ ⟨rfl, rfl, rfl⟩

set_option maxRecDepth 100000 in
set_option maxHeartbeats 4000000 in
theorem w_turn_2 (G : zG) (sz B D : Nat) (w : zW) (x1 x2 x3 : Int32) {fs : List Value} (hB : w B = some (zobj cX fs)) (hc : zCt G M_X_turn (zR 8 1 6 139) [.ref B, .int x1, .int x2, .int x3] sz w (zOut (.inr zISE) w (sz + 1))) : zCt G M_Law_turn (zR 9 1 6 166) [.ref B, .int x1, .int x2, .int x3, .ref D] sz w (zOut (.inl (some (.int (Int32.ofInt 2)))) w (sz + 1)) := by
  refine V_aload d_Law_turn_0 rfl ?_
  refine V_iconst d_Law_turn_2 ?_
  refine V_aload_n d_Law_turn_3 rfl ?_
  refine V_iload_n d_Law_turn_4 rfl ?_
  refine V_iload_n d_Law_turn_5 rfl ?_
  refine V_iload_n d_Law_turn_6 rfl ?_
  refine V_callVc (n := 3) znm d_Law_turn_7 g_Law_50 rfl hB rfl hc ⟨co_X_turn, by decide +kernel, (Nat.le_of_ble_eq_true rfl)⟩ ⟨(Nat.le_of_ble_eq_true rfl), (Nat.le_of_ble_eq_true rfl), (Nat.le_of_ble_eq_true rfl), (Nat.le_of_ble_eq_true rfl)⟩ (Nat.le_of_ble_eq_true rfl) (fun _ _ _ q => by cases q.1) (fun C w1 s1 q => ?_)
  obtain ⟨q1, q2, q3⟩ := q
  cases q1
  subst q2
  subst q3
  refine ⟨zca_19, List.forall_mem_cons.mpr ⟨⟨zll_25, by decide, Or.inr (by decide)⟩, List.forall_mem_cons.mpr ⟨⟨zll_19, by decide, Or.inl rfl⟩, fun _ h => absurd h List.not_mem_nil⟩⟩, 19, rfl, fun x => ?_⟩
  refine V_astore d_Law_turn_19 (by decide) ?_
  refine V_iconst d_Law_turn_21 ?_
  exact V_ireturn d_Law_turn_22 rfl ⟨Nat.le_of_ble_eq_true rfl, Nat.le_of_ble_eq_true rfl⟩ ⟨rfl, rfl, rfl⟩

set_option maxRecDepth 100000 in
set_option maxHeartbeats 4000000 in
theorem w_turn_0 (G : zG) (sz B D : Nat) (w w' : zW) (x1 x2 x3 : Int32) (v : Int) (o : Int → Int) {fs : List Value} (hB : w B = some (zobj cX fs)) (hD : w' D = some (zro G 1 o)) (hv : -2147483648 ≤ v ∧ v < 2147483648) (hc : zCt G M_X_turn (zR 8 1 6 139) [.ref B, .int x1, .int x2, .int x3] sz w (zdet (some (.int (Int32.ofInt v))) w' sz)) : zCt G M_Law_turn (zR 9 1 6 166) [.ref B, .int x1, .int x2, .int x3, .ref D] sz w (zdet (some (.int (Int32.ofInt 0))) (zset w' D (zro G 1 (zu o 0 v))) sz) := by
  refine V_aload d_Law_turn_0 rfl ?_
  refine V_iconst d_Law_turn_2 ?_
  refine V_aload_n d_Law_turn_3 rfl ?_
  refine V_iload_n d_Law_turn_4 rfl ?_
  refine V_iload_n d_Law_turn_5 rfl ?_
  refine V_iload_n d_Law_turn_6 rfl ?_
  refine V_callVc (n := 3) znm d_Law_turn_7 g_Law_50 rfl hB rfl hc ⟨co_X_turn, by decide +kernel, (Nat.le_of_ble_eq_true rfl)⟩ ⟨(Nat.le_of_ble_eq_true rfl), (Nat.le_of_ble_eq_true rfl), (Nat.le_of_ble_eq_true rfl), (Nat.le_of_ble_eq_true rfl)⟩ (Nat.le_of_ble_eq_true rfl) (fun r1 w1 s1 q => ?_) (fun _ _ _ q => False.elim q)
  obtain ⟨rfl, rfl, rfl⟩ := q
  refine J_i2l d_Law_turn_10 hv ?_
  refine J_lastore d_Law_turn_11 hD (by decide) (by decide) ?_
  refine V_goto 23 d_Law_turn_12 (by decide) ?_
  refine V_iconst d_Law_turn_23 ?_
  exact V_ireturn d_Law_turn_24 rfl ⟨Nat.le_of_ble_eq_true rfl, Nat.le_of_ble_eq_true rfl⟩ ⟨rfl, rfl, rfl⟩

set_option maxRecDepth 100000 in
set_option maxHeartbeats 4000000 in
theorem w_part_1 (G : zG) (sz B D : Nat) (w : zW) (x1 x2 x3 : Int32) {fs : List Value} (hB : w B = some (zobj cX fs)) (hc : zCt G M_X_part (zR 8 1 6 139) [.ref B, .int x1, .int x2, .int x3] sz w (zOut (.inr zNSE) w (sz + 1))) : zCt G M_Law_part (zR 9 1 6 163) [.ref B, .int x1, .int x2, .int x3, .ref D] sz w (zOut (.inl (some (.int (Int32.ofInt 1)))) w (sz + 1)) := by
  refine V_aload d_Law_part_0 rfl ?_
  refine V_iconst d_Law_part_2 ?_
  refine V_aload_n d_Law_part_3 rfl ?_
  refine V_iload_n d_Law_part_4 rfl ?_
  refine V_iload_n d_Law_part_5 rfl ?_
  refine V_iload_n d_Law_part_6 rfl ?_
  refine V_callVc (n := 3) znm d_Law_part_7 g_Law_53 rfl hB rfl hc ⟨co_X_part, by decide +kernel, (Nat.le_of_ble_eq_true rfl)⟩ ⟨(Nat.le_of_ble_eq_true rfl), (Nat.le_of_ble_eq_true rfl), (Nat.le_of_ble_eq_true rfl), (Nat.le_of_ble_eq_true rfl)⟩ (Nat.le_of_ble_eq_true rfl) (fun _ _ _ q => by cases q.1) (fun C w1 s1 q => ?_)
  obtain ⟨q1, q2, q3⟩ := q
  cases q1
  subst q2
  subst q3
  refine ⟨zca_25, List.forall_mem_cons.mpr ⟨⟨zll_25, by decide, Or.inl rfl⟩, fun _ h => absurd h List.not_mem_nil⟩, 15, rfl, fun x => ?_⟩
  refine V_astore d_Law_part_15 (by decide) ?_
  refine V_iconst d_Law_part_17 ?_
  exact V_ireturn d_Law_part_18 rfl ⟨Nat.le_of_ble_eq_true rfl, Nat.le_of_ble_eq_true rfl⟩ ⟨rfl, rfl, rfl⟩

set_option maxRecDepth 100000 in
set_option maxHeartbeats 4000000 in
theorem w_part_0 (G : zG) (sz B D : Nat) (w w' : zW) (x1 x2 x3 : Int32) (v : Int) (o : Int → Int) {fs : List Value} (hB : w B = some (zobj cX fs)) (hD : w' D = some (zro G 1 o)) (hv : -2147483648 ≤ v ∧ v < 2147483648) (hc : zCt G M_X_part (zR 8 1 6 139) [.ref B, .int x1, .int x2, .int x3] sz w (zdet (some (.int (Int32.ofInt v))) w' sz)) : zCt G M_Law_part (zR 9 1 6 163) [.ref B, .int x1, .int x2, .int x3, .ref D] sz w (zdet (some (.int (Int32.ofInt 0))) (zset w' D (zro G 1 (zu o 0 v))) sz) := by
  refine V_aload d_Law_part_0 rfl ?_
  refine V_iconst d_Law_part_2 ?_
  refine V_aload_n d_Law_part_3 rfl ?_
  refine V_iload_n d_Law_part_4 rfl ?_
  refine V_iload_n d_Law_part_5 rfl ?_
  refine V_iload_n d_Law_part_6 rfl ?_
  refine V_callVc (n := 3) znm d_Law_part_7 g_Law_53 rfl hB rfl hc ⟨co_X_part, by decide +kernel, (Nat.le_of_ble_eq_true rfl)⟩ ⟨(Nat.le_of_ble_eq_true rfl), (Nat.le_of_ble_eq_true rfl), (Nat.le_of_ble_eq_true rfl), (Nat.le_of_ble_eq_true rfl)⟩ (Nat.le_of_ble_eq_true rfl) (fun r1 w1 s1 q => ?_) (fun _ _ _ q => False.elim q)
  obtain ⟨rfl, rfl, rfl⟩ := q
  refine J_i2l d_Law_part_10 hv ?_
  refine J_lastore d_Law_part_11 hD (by decide) (by decide) ?_
  refine V_goto 19 d_Law_part_12 (by decide) ?_
  refine V_iconst d_Law_part_19 ?_
  exact V_ireturn d_Law_part_20 rfl ⟨Nat.le_of_ble_eq_true rfl, Nat.le_of_ble_eq_true rfl⟩ ⟨rfl, rfl, rfl⟩

set_option maxRecDepth 100000 in
set_option maxHeartbeats 4000000 in
theorem w_about_1 (G : zG) (sz B D : Nat) (w : zW) (x1 x2 : Int32) {fs : List Value} (hB : w B = some (zobj cX fs)) (hc : zCt G M_X_about (zR 8 1 6 139) [.ref B, .int x1, .int x2] sz w (zOut (.inr zNSE) w (sz + 1))) : zCt G M_Law_about (zR 9 1 6 162) [.ref B, .int x1, .int x2, .ref D] sz w (zOut (.inl (some (.int (Int32.ofInt 1)))) w (sz + 1)) := by
  refine V_aload_n d_Law_about_0 rfl ?_
  refine V_iconst d_Law_about_1 ?_
  refine V_aload_n d_Law_about_2 rfl ?_
  refine V_iload_n d_Law_about_3 rfl ?_
  refine V_iload_n d_Law_about_4 rfl ?_
  refine V_callVc (n := 2) znm d_Law_about_5 g_Law_56 rfl hB rfl hc ⟨co_X_about, by decide +kernel, (Nat.le_of_ble_eq_true rfl)⟩ ⟨(Nat.le_of_ble_eq_true rfl), (Nat.le_of_ble_eq_true rfl), (Nat.le_of_ble_eq_true rfl), (Nat.le_of_ble_eq_true rfl)⟩ (Nat.le_of_ble_eq_true rfl) (fun _ _ _ q => by cases q.1) (fun C w1 s1 q => ?_)
  obtain ⟨q1, q2, q3⟩ := q
  cases q1
  subst q2
  subst q3
  refine ⟨zca_25, List.forall_mem_cons.mpr ⟨⟨zll_25, by decide, Or.inl rfl⟩, List.forall_mem_cons.mpr ⟨⟨zll_13, by decide, Or.inr (by decide)⟩, fun _ h => absurd h List.not_mem_nil⟩⟩, 13, rfl, fun x => ?_⟩
  refine V_astore d_Law_about_13 (by decide) ?_
  refine V_iconst d_Law_about_15 ?_
  exact V_ireturn d_Law_about_16 rfl ⟨Nat.le_of_ble_eq_true rfl, Nat.le_of_ble_eq_true rfl⟩ ⟨rfl, rfl, rfl⟩

set_option maxRecDepth 100000 in
set_option maxHeartbeats 4000000 in
theorem w_about_2 (G : zG) (sz B D : Nat) (w : zW) (x1 x2 : Int32) {fs : List Value} (hB : w B = some (zobj cX fs)) (hc : zCt G M_X_about (zR 8 1 6 139) [.ref B, .int x1, .int x2] sz w (zOut (.inr zIAE) w (sz + 1))) : zCt G M_Law_about (zR 9 1 6 162) [.ref B, .int x1, .int x2, .ref D] sz w (zOut (.inl (some (.int (Int32.ofInt 2)))) w (sz + 1)) := by
  refine V_aload_n d_Law_about_0 rfl ?_
  refine V_iconst d_Law_about_1 ?_
  refine V_aload_n d_Law_about_2 rfl ?_
  refine V_iload_n d_Law_about_3 rfl ?_
  refine V_iload_n d_Law_about_4 rfl ?_
  refine V_callVc (n := 2) znm d_Law_about_5 g_Law_56 rfl hB rfl hc ⟨co_X_about, by decide +kernel, (Nat.le_of_ble_eq_true rfl)⟩ ⟨(Nat.le_of_ble_eq_true rfl), (Nat.le_of_ble_eq_true rfl), (Nat.le_of_ble_eq_true rfl), (Nat.le_of_ble_eq_true rfl)⟩ (Nat.le_of_ble_eq_true rfl) (fun _ _ _ q => by cases q.1) (fun C w1 s1 q => ?_)
  obtain ⟨q1, q2, q3⟩ := q
  cases q1
  subst q2
  subst q3
  refine ⟨zca_13, List.forall_mem_cons.mpr ⟨⟨zll_25, by decide, Or.inr (by decide)⟩, List.forall_mem_cons.mpr ⟨⟨zll_13, by decide, Or.inl rfl⟩, fun _ h => absurd h List.not_mem_nil⟩⟩, 17, rfl, fun x => ?_⟩
  refine V_astore d_Law_about_17 (by decide) ?_
  refine V_iconst d_Law_about_19 ?_
  exact V_ireturn d_Law_about_20 rfl ⟨Nat.le_of_ble_eq_true rfl, Nat.le_of_ble_eq_true rfl⟩ ⟨rfl, rfl, rfl⟩

set_option maxRecDepth 100000 in
set_option maxHeartbeats 4000000 in
theorem w_about_0 (G : zG) (sz B D : Nat) (w w' : zW) (x1 x2 : Int32) (v : Int) (o : Int → Int) {fs : List Value} (hB : w B = some (zobj cX fs)) (hD : w' D = some (zro G 1 o)) (hv : -2147483648 ≤ v ∧ v < 2147483648) (hc : zCt G M_X_about (zR 8 1 6 139) [.ref B, .int x1, .int x2] sz w (zdet (some (.int (Int32.ofInt v))) w' sz)) : zCt G M_Law_about (zR 9 1 6 162) [.ref B, .int x1, .int x2, .ref D] sz w (zdet (some (.int (Int32.ofInt 0))) (zset w' D (zro G 1 (zu o 0 v))) sz) := by
  refine V_aload_n d_Law_about_0 rfl ?_
  refine V_iconst d_Law_about_1 ?_
  refine V_aload_n d_Law_about_2 rfl ?_
  refine V_iload_n d_Law_about_3 rfl ?_
  refine V_iload_n d_Law_about_4 rfl ?_
  refine V_callVc (n := 2) znm d_Law_about_5 g_Law_56 rfl hB rfl hc ⟨co_X_about, by decide +kernel, (Nat.le_of_ble_eq_true rfl)⟩ ⟨(Nat.le_of_ble_eq_true rfl), (Nat.le_of_ble_eq_true rfl), (Nat.le_of_ble_eq_true rfl), (Nat.le_of_ble_eq_true rfl)⟩ (Nat.le_of_ble_eq_true rfl) (fun r1 w1 s1 q => ?_) (fun _ _ _ q => False.elim q)
  obtain ⟨rfl, rfl, rfl⟩ := q
  refine J_i2l d_Law_about_8 hv ?_
  refine J_lastore d_Law_about_9 hD (by decide) (by decide) ?_
  refine V_goto 21 d_Law_about_10 (by decide) ?_
  refine V_iconst d_Law_about_21 ?_
  exact V_ireturn d_Law_about_22 rfl ⟨Nat.le_of_ble_eq_true rfl, Nat.le_of_ble_eq_true rfl⟩ ⟨rfl, rfl, rfl⟩

set_option maxRecDepth 100000 in
set_option maxHeartbeats 4000000 in
theorem w_drop_1 (G : zG) (sz B D : Nat) (w : zW) (x1 : Int32) {fs : List Value} (hB : w B = some (zobj cX fs)) (hc : zCt G M_X_drop (zR 7 1 6 117) [.ref B, .int x1] sz w (zOut (.inr zNSE) w (sz + 1))) : zCt G M_Law_drop (zR 8 1 6 140) [.ref B, .int x1, .ref D] sz w (zOut (.inl (some (.int (Int32.ofInt 1)))) w (sz + 1)) := by
  refine V_aload_n d_Law_drop_0 rfl ?_
  refine V_iconst d_Law_drop_1 ?_
  refine V_aload_n d_Law_drop_2 rfl ?_
  refine V_iload_n d_Law_drop_3 rfl ?_
  refine V_callVc (n := 1) znm d_Law_drop_4 g_Law_59 rfl hB rfl hc ⟨co_X_drop, by decide +kernel, (Nat.le_of_ble_eq_true rfl)⟩ ⟨(Nat.le_of_ble_eq_true rfl), (Nat.le_of_ble_eq_true rfl), (Nat.le_of_ble_eq_true rfl), (Nat.le_of_ble_eq_true rfl)⟩ (Nat.le_of_ble_eq_true rfl) (fun _ _ _ q => by cases q.1) (fun C w1 s1 q => ?_)
  obtain ⟨q1, q2, q3⟩ := q
  cases q1
  subst q2
  subst q3
  refine ⟨zca_25, List.forall_mem_cons.mpr ⟨⟨zll_25, by decide, Or.inl rfl⟩, fun _ h => absurd h List.not_mem_nil⟩, 12, rfl, fun x => ?_⟩
  refine V_astore_n d_Law_drop_12 (by decide) ?_
  refine V_iconst d_Law_drop_13 ?_
  exact V_ireturn d_Law_drop_14 rfl ⟨Nat.le_of_ble_eq_true rfl, Nat.le_of_ble_eq_true rfl⟩ ⟨rfl, rfl, rfl⟩

set_option maxRecDepth 100000 in
set_option maxHeartbeats 4000000 in
theorem w_drop_0 (G : zG) (sz B D : Nat) (w w' : zW) (x1 : Int32) (v : Int) (o : Int → Int) {fs : List Value} (hB : w B = some (zobj cX fs)) (hD : w' D = some (zro G 1 o)) (hv : -2147483648 ≤ v ∧ v < 2147483648) (hc : zCt G M_X_drop (zR 7 1 6 117) [.ref B, .int x1] sz w (zdet (some (.int (Int32.ofInt v))) w' sz)) : zCt G M_Law_drop (zR 8 1 6 140) [.ref B, .int x1, .ref D] sz w (zdet (some (.int (Int32.ofInt 0))) (zset w' D (zro G 1 (zu o 0 v))) sz) := by
  refine V_aload_n d_Law_drop_0 rfl ?_
  refine V_iconst d_Law_drop_1 ?_
  refine V_aload_n d_Law_drop_2 rfl ?_
  refine V_iload_n d_Law_drop_3 rfl ?_
  refine V_callVc (n := 1) znm d_Law_drop_4 g_Law_59 rfl hB rfl hc ⟨co_X_drop, by decide +kernel, (Nat.le_of_ble_eq_true rfl)⟩ ⟨(Nat.le_of_ble_eq_true rfl), (Nat.le_of_ble_eq_true rfl), (Nat.le_of_ble_eq_true rfl), (Nat.le_of_ble_eq_true rfl)⟩ (Nat.le_of_ble_eq_true rfl) (fun r1 w1 s1 q => ?_) (fun _ _ _ q => False.elim q)
  obtain ⟨rfl, rfl, rfl⟩ := q
  refine J_i2l d_Law_drop_7 hv ?_
  refine J_lastore d_Law_drop_8 hD (by decide) (by decide) ?_
  refine V_goto 15 d_Law_drop_9 (by decide) ?_
  refine V_iconst d_Law_drop_15 ?_
  exact V_ireturn d_Law_drop_16 rfl ⟨Nat.le_of_ble_eq_true rfl, Nat.le_of_ble_eq_true rfl⟩ ⟨rfl, rfl, rfl⟩

