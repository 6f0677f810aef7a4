/-- what a call may do, on both sides: both refuse, or both answer the same and stay alike -/
def zO (G : zG) (B : Nat) (Mx : zM) (Rx : Room) (Mr : zM) (Rr : Room) (xs : List Value) (exs : List (String × Int)) (kd n t zz : Int) (ch : Int32) (md tc : Int) (tg pt : Nat → Int) (L R : Nat → Int → Int) : Prop :=
  (∃ (e : String) (cd : Int), (e, cd) ∈ exs ∧ (∀ (sz : Nat) (w0 : zW), zCt G Mx Rx (.ref B :: xs) sz (zsys G B kd n t zz ch md tc tg pt L w0) (zOut (.inr e) (zsys G B kd n t zz ch md tc tg pt L w0) (sz + 1))) ∧ ∀ (C : Nat) (th : Int) (sz : Nat) (w0 : zW), zCt G Mr Rr (.ref C :: xs) sz (zqs G C th kd n t tc ch md R w0) (zdet (some (.int (Int32.ofInt 0))) (zqs G C cd kd n t tc ch md R w0) sz)) ∨
  ∃ (v kd' n' t' zz' : Int) (ch' : Int32) (md' tc' : Int) (tg' pt' : Nat → Int) (L' R' : Nat → Int → Int) (nn' : Nat), (-2147483648 ≤ v ∧ v < 2147483648) ∧ zI kd' n' t' zz' md' tc' tg' pt' L' R' nn' ∧ (∀ (sz : Nat) (w0 : zW), zCt G Mx Rx (.ref B :: xs) sz (zsys G B kd n t zz ch md tc tg pt L w0) (zdet (some (.int (Int32.ofInt v))) (zsys G B kd' n' t' zz' ch' md' tc' tg' pt' L' w0) sz)) ∧ ∀ (C : Nat) (th : Int) (sz : Nat) (w0 : zW), zCt G Mr Rr (.ref C :: xs) sz (zqs G C th kd n t tc ch md R w0) (zdet (some (.int (Int32.ofInt v))) (zqs G C 0 kd' n' t' tc' ch' md' R' w0) sz)
theorem zm0 {a : String × Int} {l : List (String × Int)} : a ∈ a :: l := List.mem_cons_self
theorem zm1 {a b : String × Int} {l : List (String × Int)} : a ∈ b :: a :: l := List.mem_cons_of_mem _ List.mem_cons_self
theorem zm2 {a b c : String × Int} {l : List (String × Int)} : a ∈ c :: b :: a :: l := List.mem_cons_of_mem _ (List.mem_cons_of_mem _ List.mem_cons_self)
theorem zBu_b (d : Int) : ∀ k : Nat, zBu d k ≤ k
  | 0 => Nat.le_refl 0
  | k + 1 => by
    show (if d * 2 ^ (k + 2) < 268435399 then k + 1 else zBu d k) ≤ k + 1
    have := zBu_b d k
    split <;> omega
theorem zbud {d : Int} : -2147483648 ≤ ((zBu d 27 : Nat) : Int) ∧ ((zBu d 27 : Nat) : Int) < 2147483648 := by
  have := zBu_b d 27
  omega
theorem znat {a : Int} {m : Nat} (h : ¬ (a < 0 ∨ (m : Int) ≤ a)) : ∃ p : Nat, a = (p : Int) ∧ p < m := ⟨a.toNat, by omega, by omega⟩
theorem zu_self {f : Int → Int} {k : Int} : zu f k (f k) = f := by
  funext j
  unfold zu
  split
  · rename_i h
    rw [h]
  · rfl

theorem zqc_b (f : Int → Int) : ∀ m : Nat, 0 ≤ zqc f m ∧ zqc f m ≤ m
  | 0 => ⟨Int.le_refl 0, Int.le_refl 0⟩
  | m + 1 => by
    have := zqc_b f m
    show 0 ≤ zqc f m + _ ∧ zqc f m + _ ≤ _
    split <;> omega

set_option maxHeartbeats 4000000 in
theorem p_set (G : zG) (B : Nat) (kd n t zz : Int) (ch : Int32) (md tc : Int) (tg pt : Nat → Int) (L R : Nat → Int → Int) (nn : Nat) (h : zI kd n t zz md tc tg pt L R nn) (a b v : Int) (ha : -2147483648 ≤ a ∧ a < 2147483648) (hb : -2147483648 ≤ b ∧ b < 2147483648) (hv : -2147483648 ≤ v ∧ v < 2147483648) : zO G B M_X_set (zR 7 1 6 117) M_Ref_set (zR 1 0 0 20) [.int (Int32.ofInt a), .int (Int32.ofInt b), .int (Int32.ofInt v)] [(zNSE, 1)] kd n t zz ch md tc tg pt L R := by
  have hn := zI_n h
  have h32 := zI_n32 h
  have h8 := zI_nn h
  have ht := zI_tb h
  have hmd := zI_md h
  have hnr : 0 ≤ n ∧ n ≤ 32 := by omega
  by_cases h1 : a < 0 ∨ ((8 : Nat) : Int) ≤ a
  · exact Or.inl ⟨zNSE, 1, zm0, fun sz w0 => c_set_p G sz B kd n t zz ch md tc tg pt L w0 a ha h1 b v, fun C th sz w0 => r_set_p G sz C th kd n t tc ch md R w0 a b _ ha (by omega)⟩
  · obtain ⟨p, rfl, hp⟩ := znat h1
    by_cases h2 : b < 0 ∨ n ≤ b
    · exact Or.inl ⟨zNSE, 1, zm0, fun sz w0 => c_set_i G sz B kd n t zz ch md tc tg pt L w0 p hp b v hb hnr h2, fun C th sz w0 => r_set_i G sz C th kd n t tc ch md R w0 p hp b _ hb hnr h2⟩
    · have e := zI_pl h p hp b (by omega) (by omega)
      have hv0 := zI_pb' h (32 * (p : Int) + b) (by omega) (by omega)
      refine Or.inr ⟨R 7 (32 * (p : Int) + b), kd, n, t, zz, ch, md, tc, tg, pt, _, _, nn, by omega, zI_set (v := v) h hp ⟨by omega, by omega⟩, fun sz w0 => ?_, fun C th sz w0 => r_set G sz C th kd n t tc ch md R w0 p hp b v hnr ⟨by omega, by omega⟩ hv (by omega)⟩
      rw [← e]
      exact c_set G sz B kd n t zz ch md tc tg pt L w0 p hp b v hnr ⟨by omega, by omega⟩ hv (by omega)

set_option maxHeartbeats 4000000 in
theorem p_get (G : zG) (B : Nat) (kd n t zz : Int) (ch : Int32) (md tc : Int) (tg pt : Nat → Int) (L R : Nat → Int → Int) (nn : Nat) (h : zI kd n t zz md tc tg pt L R nn) (a b : Int) (ha : -2147483648 ≤ a ∧ a < 2147483648) (hb : -2147483648 ≤ b ∧ b < 2147483648) : zO G B M_X_get (zR 7 1 6 117) M_Ref_get (zR 1 0 0 20) [.int (Int32.ofInt a), .int (Int32.ofInt b)] [(zNSE, 1)] kd n t zz ch md tc tg pt L R := by
  have hn := zI_n h
  have h32 := zI_n32 h
  have h8 := zI_nn h
  have ht := zI_tb h
  have hmd := zI_md h
  have hnr : 0 ≤ n ∧ n ≤ 32 := by omega
  by_cases h1 : a < 0 ∨ ((8 : Nat) : Int) ≤ a
  · exact Or.inl ⟨zNSE, 1, zm0, fun sz w0 => c_get_p G sz B kd n t zz ch md tc tg pt L w0 a ha h1 b, fun C th sz w0 => r_get_p G sz C th kd n t tc ch md R w0 a b ha (by omega)⟩
  · obtain ⟨p, rfl, hp⟩ := znat h1
    by_cases h2 : b < 0 ∨ n ≤ b
    · exact Or.inl ⟨zNSE, 1, zm0, fun sz w0 => c_get_i G sz B kd n t zz ch md tc tg pt L w0 p hp b hb hnr h2, fun C th sz w0 => r_get_i G sz C th kd n t tc ch md R w0 p hp b hb hnr h2⟩
    · have e := zI_pl h p hp b (by omega) (by omega)
      have hv0 := zI_pb' h (32 * (p : Int) + b) (by omega) (by omega)
      refine Or.inr ⟨R 7 (32 * (p : Int) + b), kd, n, t, zz, ch, md, tc, tg, pt, L, R, nn, by omega, h, fun sz w0 => ?_, fun C th sz w0 => r_get G sz C th kd n t tc ch md R w0 p hp b hnr ⟨by omega, by omega⟩⟩
      rw [← e]
      exact c_get G sz B kd n t zz ch md tc tg pt L w0 p hp b hnr ⟨by omega, by omega⟩

set_option maxHeartbeats 4000000 in
theorem p_drop (G : zG) (B : Nat) (kd n t zz : Int) (ch : Int32) (md tc : Int) (tg pt : Nat → Int) (L R : Nat → Int → Int) (nn : Nat) (h : zI kd n t zz md tc tg pt L R nn) (a : Int) (ha : -2147483648 ≤ a ∧ a < 2147483648) : zO G B M_X_drop (zR 7 1 6 117) M_Ref_drop (zR 1 0 0 20) [.int (Int32.ofInt a)] [(zNSE, 1)] kd n t zz ch md tc tg pt L R := by
  have hn := zI_n h
  have h32 := zI_n32 h
  have h8 := zI_nn h
  have ht := zI_tb h
  have hmd := zI_md h
  have hnr : 0 ≤ n ∧ n ≤ 32 := by omega
  by_cases h1 : a < 0 ∨ ((16 : Nat) : Int) ≤ a
  · exact Or.inl ⟨zNSE, 1, zm0, fun sz w0 => c_drop_no G sz B kd n t zz ch md tc tg pt L w0 a ha h1, fun C th sz w0 => r_drop_no G sz C th kd n t tc ch md R w0 a ha (by omega)⟩
  · obtain ⟨c, rfl, hc⟩ := znat h1
    have h3 := zI_p3 h c hc
    have e := zI_pt h c hc
    refine Or.inr ⟨R 8 c, kd, n, t, zz, ch, md, tc, tg, zpu pt (97 + 5 * c) 0, L, _, nn, by omega, zI_drop h hc, fun sz w0 => ?_, fun C th sz w0 => r_drop G sz C th kd n t tc ch md R w0 c hc⟩
    rw [← e]
    exact c_drop G sz B kd n t zz ch md tc tg pt L w0 c hc

set_option maxHeartbeats 4000000 in
theorem p_part (G : zG) (B : Nat) (kd n t zz : Int) (ch : Int32) (md tc : Int) (tg pt : Nat → Int) (L R : Nat → Int → Int) (nn : Nat) (h : zI kd n t zz md tc tg pt L R nn) (a k i : Int) (ha : -2147483648 ≤ a ∧ a < 2147483648) (hk : -2147483648 ≤ k ∧ k < 2147483648) (hi : -2147483648 ≤ i ∧ i < 2147483648) : zO G B M_X_part (zR 8 1 6 139) M_Ref_part (zR 2 0 0 41) [.int (Int32.ofInt a), .int (Int32.ofInt k), .int (Int32.ofInt i)] [(zNSE, 1)] kd n t zz ch md tc tg pt L R := by
  have hn := zI_n h
  have h32 := zI_n32 h
  have h8 := zI_nn h
  have ht := zI_tb h
  have hmd := zI_md h
  have hnr : 0 ≤ n ∧ n ≤ 32 := by omega
  by_cases h1 : a < 0 ∨ ((16 : Nat) : Int) ≤ a
  · exact Or.inl ⟨zNSE, 1, zm0, fun sz w0 => c_part_no G sz B kd n t zz ch md tc tg pt L w0 a ha h1 k i, fun C th sz w0 => r_part_no G sz C th kd n t tc ch md R w0 a ha (by omega) k i⟩
  · obtain ⟨c, rfl, hc⟩ := znat h1
    have h3 := zI_p3 h c hc
    have e := zI_pt h c hc
    by_cases h2 : R 8 c = 0
    · exact Or.inl ⟨zNSE, 1, zm0, fun sz w0 => c_part_em G sz B kd n t zz ch md tc tg pt L w0 c hc (e.trans h2) k i, fun C th sz w0 => r_part_em G sz C th kd n t tc ch md R w0 c hc h2 k i⟩
    · have hf : 0 < pt (97 + 5 * c) ∧ pt (97 + 5 * c) ≤ 3 := by omega
      have hf' : 0 < R 8 c ∧ R 8 c ≤ 3 := by omega
      by_cases h4 : k < 0
      · exact Or.inl ⟨zNSE, 1, zm0, fun sz w0 => c_part_k1 G sz B kd n t zz ch md tc tg pt L w0 c hc hf k i hk h4, fun C th sz w0 => r_part_k1 G sz C th kd n t tc ch md R w0 c hc hf' k i hk hi hnr h4⟩
      · by_cases h5 : R 8 c ≤ k
        · exact Or.inl ⟨zNSE, 1, zm0, fun sz w0 => c_part_k2 G sz B kd n t zz ch md tc tg pt L w0 c hc hf k i hk (by omega), fun C th sz w0 => r_part_k2 G sz C th kd n t tc ch md R w0 c hc hf' k i hk hi hnr (by omega) h5⟩
        · by_cases h6 : i < 0 ∨ n ≤ i
          · by_cases h7 : i < 0
            · exact Or.inl ⟨zNSE, 1, zm0, fun sz w0 => c_part_i G sz B kd n t zz ch md tc tg pt L w0 c hc hf k i ⟨by omega, by omega⟩ hi hnr h6, fun C th sz w0 => r_part_i1 G sz C th kd n t tc ch md R w0 c hc hf' k i hk hi hnr ⟨by omega, by omega⟩ h7⟩
            · exact Or.inl ⟨zNSE, 1, zm0, fun sz w0 => c_part_i G sz B kd n t zz ch md tc tg pt L w0 c hc hf k i ⟨by omega, by omega⟩ hi hnr h6, fun C th sz w0 => r_part_i2 G sz C th kd n t tc ch md R w0 c hc hf' k i hk hi hnr ⟨by omega, by omega⟩ (by omega) (by omega)⟩
          · obtain ⟨q, rfl, hq⟩ : ∃ q : Nat, k = (q : Int) ∧ q < 3 := ⟨k.toNat, by omega, by omega⟩
            have e2 := zI_c h c q hc hq (by omega) i (by omega) (by omega)
            have hb := zI_cb h hc hq (by omega) (show 0 ≤ i by omega) (by omega)
            refine Or.inr ⟨R 9 ((3 * (c : Int) + q) * 32 + i), kd, n, t, zz, ch, md, tc, tg, pt, L, R, nn, by omega, h, fun sz w0 => ?_, fun C th sz w0 => r_part G sz C th kd n t tc ch md R w0 c hc hf' q i hk hi hnr ⟨by omega, by omega⟩ ⟨by omega, by omega⟩⟩
            rw [← e2]
            exact c_part G sz B kd n t zz ch md tc tg pt L w0 c hc hf q i (by omega) hnr ⟨by omega, by omega⟩

set_option maxHeartbeats 4000000 in
theorem p_about (G : zG) (B : Nat) (kd n t zz : Int) (ch : Int32) (md tc : Int) (tg pt : Nat → Int) (L R : Nat → Int → Int) (nn : Nat) (h : zI kd n t zz md tc tg pt L R nn) (a x : Int) (ha : -2147483648 ≤ a ∧ a < 2147483648) (hx : -2147483648 ≤ x ∧ x < 2147483648) : zO G B M_X_about (zR 8 1 6 139) M_Ref_about (zR 5 0 0 125) [.int (Int32.ofInt a), .int (Int32.ofInt x)] [(zNSE, 1), (zIAE, 2)] kd n t zz ch md tc tg pt L R := by
  have hn := zI_n h
  have h32 := zI_n32 h
  have h8 := zI_nn h
  have ht := zI_tb h
  have hmd := zI_md h
  have hnr : 0 ≤ n ∧ n ≤ 32 := by omega
  by_cases h1 : a < 0 ∨ ((16 : Nat) : Int) ≤ a
  · exact Or.inl ⟨zNSE, 1, zm0, fun sz w0 => c_about_no G sz B kd n t zz ch md tc tg pt L w0 a ha h1 x, fun C th sz w0 => r_about_no G sz C th kd n t tc ch md R w0 a ha (by omega) x⟩
  · obtain ⟨c, rfl, hc⟩ := znat h1
    have h3 := zI_p3 h c hc
    have e := zI_pt h c hc
    by_cases h2 : R 8 c = 0
    · exact Or.inl ⟨zNSE, 1, zm0, fun sz w0 => c_about_em G sz B kd n t zz ch md tc tg pt L w0 c hc (e.trans h2) x, fun C th sz w0 => r_about_em G sz C th kd n t tc ch md R w0 c hc h2 x⟩
    · have hf : 0 < pt (97 + 5 * c) ∧ pt (97 + 5 * c) ≤ 3 := by omega
      have hf' : 0 < R 8 c ∧ R 8 c ≤ 3 := by omega
      have hq : R 8 c = pt (97 + 5 * c) := e.symm
      have hqf : pt (97 + 5 * c) = 2 ∨ pt (97 + 5 * c) = 3 := by omega
      by_cases h4 : x < 0 ∨ 2 < x
      · by_cases h5 : x < 0
        · exact Or.inl ⟨zIAE, 2, zm1, fun sz w0 => c_about_x G sz B kd n t zz ch md tc tg pt L w0 c hc hf x hx h4, fun C th sz w0 => r_about_x1 G sz C th kd n t tc ch md R w0 c hc hf' x hx h5⟩
        · exact Or.inl ⟨zIAE, 2, zm1, fun sz w0 => c_about_x G sz B kd n t zz ch md tc tg pt L w0 c hc hf x hx h4, fun C th sz w0 => r_about_x2 G sz C th kd n t tc ch md R w0 c hc hf' x hx (by omega)⟩
      · have h6 : x = 0 ∨ x = 1 ∨ x = 2 := by omega
        rcases h6 with rfl | rfl | rfl
        · refine Or.inr ⟨R 8 c, kd, n, t, zz, ch, md, tc, tg, pt, L, R, nn, by omega, h, fun sz w0 => ?_, fun C th sz w0 => r_about_0 G sz C th kd n t tc ch md R w0 c hc hf'⟩
          rw [← e]
          exact c_about_0 G sz B kd n t zz ch md tc tg pt L w0 c hc hf
        · refine Or.inr ⟨_, kd, n, t, zz, ch, md, tc, tg, pt, _, _, nn, zbud, zI_ph h c (pt (97 + 5 * c)), fun sz w0 => c_about_1 G sz B kd n t zz ch md tc tg pt L w0 nn hn h32 c hc hf (by omega) (fun i hi => zph_b h hc hq hqf i hi), fun C th sz w0 => ?_⟩
          rw [zph_n h hc hq hqf]
          exact r_about_1 G sz C th kd n t tc ch md R w0 nn hn h32 c hc hf' (zI_pa h) (zI_sb h) (by omega)
        · have hb := zNz_b t (zPL nn c (pt (97 + 5 * c)) L (182 + 0)) nn
          refine Or.inr ⟨zNz t (zPL nn c (pt (97 + 5 * c)) L (182 + 0)) nn, kd, n, t, zz, ch, md, tc, tg, pt, _, _, nn, ⟨by omega, by omega⟩, zI_ph h c (pt (97 + 5 * c)), fun sz w0 => c_about_2 G sz B kd n t zz ch md tc tg pt L w0 nn hn h32 c hc hf (by omega) (fun i hi => zph_b h hc hq hqf i hi), fun C th sz w0 => ?_⟩
          rw [zph_n h hc hq hqf]
          exact r_about_2 G sz C th kd n t tc ch md R w0 nn hn h32 c hc hf' (zI_pa h) (zI_sb h) (by omega)

set_option maxHeartbeats 4000000 in
theorem p_begin (G : zG) (B : Nat) (kd n t zz : Int) (ch : Int32) (md tc : Int) (tg pt : Nat → Int) (L R : Nat → Int → Int) (nn : Nat) (h : zI kd n t zz md tc tg pt L R nn) (a : Int) (s : Int32) (ha : -2147483648 ≤ a ∧ a < 2147483648) : zO G B M_X_begin (zR 6 1 6 96) M_Ref_begin (zR 1 0 0 21) [.int (Int32.ofInt a), .int s] [(zIAE, 1)] kd n t zz ch md tc tg pt L R := by
  have hn := zI_n h
  have h32 := zI_n32 h
  have h8 := zI_nn h
  have ht := zI_tb h
  have hmd := zI_md h
  have hnr : 0 ≤ n ∧ n ≤ 32 := by omega
  by_cases h1 : a < 0 ∨ 2 < a
  · exact Or.inl ⟨zIAE, 1, zm0, fun sz w0 => c_begin_no G sz B kd n t zz ch md tc tg pt L w0 a ha s h1, fun C th sz w0 => r_begin_no G sz C th kd n t tc ch md R w0 a s ha h1⟩
  · have hk : 0 ≤ a ∧ a ≤ 2 := by omega
    have hz := zki hk
    exact Or.inr ⟨zszI a, a, zszI a, zmoI a, _, s, 0, 0, tg, _, _, _, (zszI a).toNat, by omega, zI_begin h hk, fun sz w0 => c_begin G sz B kd n t zz ch md tc tg pt L w0 a s hk, fun C th sz w0 => r_begin G sz C th kd n t tc ch md R w0 a s hk⟩

set_option maxHeartbeats 4000000 in
theorem p_keys (G : zG) (B : Nat) (kd n t zz : Int) (ch : Int32) (md tc : Int) (tg pt : Nat → Int) (L R : Nat → Int → Int) (nn : Nat) (h : zI kd n t zz md tc tg pt L R nn)  : zO G B M_X_keys (zR 5 0 0 115) M_Ref_keys (zR 3 0 0 78) [] [] kd n t zz ch md tc tg pt L R := by
  have hn := zI_n h
  have h32 := zI_n32 h
  have h8 := zI_nn h
  have ht := zI_tb h
  have hmd := zI_md h
  have hnr : 0 ≤ n ∧ n ≤ 32 := by omega
  obtain ⟨k1, k2, k3⟩ := zI_keys (ch := ch) h
  exact Or.inr ⟨n, kd, n, t, zz, zRnc nn ch, 1, 0, tg, _, _, _, nn, by omega, k3, fun sz w0 => c_keys G sz B kd n t zz ch md tc tg pt L w0 nn hn h32 k1 k2, fun C th sz w0 => r_keys G sz C th kd n t tc ch md R w0 nn hn h32 (zI_sb h)⟩

set_option maxHeartbeats 4000000 in
theorem p_turnKey (G : zG) (B : Nat) (kd n t zz : Int) (ch : Int32) (md tc : Int) (tg pt : Nat → Int) (L R : Nat → Int → Int) (nn : Nat) (h : zI kd n t zz md tc tg pt L R nn) (g : Int) (hg : -2147483648 ≤ g ∧ g < 2147483648) : zO G B M_X_turnKey (zR 6 1 6 117) M_Ref_turnKey (zR 3 0 0 78) [.int (Int32.ofInt g)] [(zIAE, 1), (zISE, 2)] kd n t zz ch md tc tg pt L R := by
  have hn := zI_n h
  have h32 := zI_n32 h
  have h8 := zI_nn h
  have ht := zI_tb h
  have hmd := zI_md h
  have hnr : 0 ≤ n ∧ n ≤ 32 := by omega
  by_cases h1 : g < 3
  · exact Or.inl ⟨zIAE, 1, zm0, fun sz w0 => c_turnKey_1 G sz B kd n t zz ch md tc tg pt L w0 g hg hnr h1, fun C th sz w0 => r_turnKey_1 G sz C th kd n t tc ch md R w0 g hg hnr h1⟩
  by_cases h2 : 2 * n ≤ g
  · exact Or.inl ⟨zIAE, 1, zm0, fun sz w0 => c_turnKey_2 G sz B kd n t zz ch md tc tg pt L w0 g hg hnr (by omega) h2, fun C th sz w0 => r_turnKey_2 G sz C th kd n t tc ch md R w0 g hg hnr (by omega) h2⟩
  have h3 : 3 ≤ g ∧ g < 2 * n := by omega
  by_cases h4 : g % 2 = 0
  · exact Or.inl ⟨zIAE, 1, zm0, fun sz w0 => c_turnKey_3 G sz B kd n t zz ch md tc tg pt L w0 g hnr h3 h4, fun C th sz w0 => r_turnKey_3 G sz C th kd n t tc ch md R w0 g hnr h3 h4⟩
  have ho : g % 2 = 1 := by omega
  have htc := zI_tc h
  have htr := zI_tr h
  have htg := zI_tgr h
  rcases hmd with hm | hm
  · exact Or.inl ⟨zISE, 2, zm1, fun sz w0 => c_turnKey_4 G sz B kd n t zz ch md tc tg pt L w0 g hnr h3 ho hm, fun C th sz w0 => r_turnKey_4 G sz C th kd n t tc ch md R w0 g hnr h3 ho htc htr hm⟩
  have hpl := zplc_le (tg := tg) (tc := tc) (g := g) 5 0 (by decide) htc.2 (by omega)
  have hqf := zqf_plc (tr := R 6) (tg := tg) (tc := tc) (g := g) htc.2 (zI_tg h) 5 0 (by decide)
  have hat := zplc_at (tg := tg) (tc := tc) (g := g) 5 0 (by decide) htc.2
  generalize hp : zplc tg tc g 5 0 = p at hpl hqf hat
  by_cases h5 : p = 4
  · rw [if_neg (by omega)] at hqf
    exact Or.inl ⟨zISE, 2, zm1, fun sz w0 => c_turnKey_5 G sz B kd n t zz ch md tc tg pt L w0 g hnr h3 ho hm htc htg (hp.trans h5), fun C th sz w0 => r_turnKey_5 G sz C th kd n t tc ch md R w0 g hnr h3 ho htc htr hm hqf (by omega)⟩
  by_cases h6 : (p : Int) < tc
  · rw [if_pos h6] at hqf
    have hgt : R 6 ((p : Int) + 1) = g := by
      rw [← zI_tg h p (by omega)]
      exact hat h6
    obtain ⟨k1, k2, k3, k4⟩ := zI_turnKey (ch := ch) (p := p) (g := g) (R1 := zlu R 13 (zqt nn g (R 1) (R 13) nn)) h (by omega) h3 ho (by omega) (by
      rw [zlu_n (by decide), ← hgt, zu_self]) (fun j hj _ => zlu_n (by omega)) zlu_s
    have e : (if tc < (p : Int) + 1 then (p : Int) + 1 else tc) = tc := if_neg (by omega)
    refine Or.inr ⟨_, kd, n, t, zz, zSwc nn ch 6, md, _, _, pt, _, _, nn, by rw [e]; omega, k4, fun sz w0 => c_turnKey G sz B kd n t zz ch md tc tg pt L w0 nn hn h32 g h3 ho hm htc htg p hp (by omega) k1 k2, fun C th sz w0 => ?_⟩
    rw [e]
    exact r_turnKey_o G sz C th kd n t tc ch md R w0 nn hn h32 g h3 ho htc htr hm (p + 1) hqf ⟨by omega, by omega⟩ (zI_sb h) k3
  · rw [if_neg h6] at hqf
    obtain ⟨k1, k2, k3, k4⟩ := zI_turnKey (ch := ch) (p := p) (g := g) (R1 := zlu (zlu R 6 (zu (R 6) ((p : Int) + 1) g)) 13 (zqt nn g (R 1) (R 13) nn)) h (by omega) h3 ho (by omega) (by
      rw [zlu_n (by decide), zlu_s]) (fun j hj h7 => by rw [zlu_n (by omega), zlu_n h7]) zlu_s
    have e : (if tc < (p : Int) + 1 then (p : Int) + 1 else tc) = (p : Int) + 1 := if_pos (by omega)
    refine Or.inr ⟨_, kd, n, t, zz, zSwc nn ch 6, md, _, _, pt, _, _, nn, by rw [e]; omega, k4, fun sz w0 => c_turnKey G sz B kd n t zz ch md tc tg pt L w0 nn hn h32 g h3 ho hm htc htg p hp (by omega) k1 k2, fun C th sz w0 => ?_⟩
    rw [e]
    exact r_turnKey_n G sz C th kd n t tc ch md R w0 nn hn h32 g h3 ho p (by omega) (by omega) htc htr hm hqf (zI_sb h) k3

set_option maxHeartbeats 4000000 in
theorem p_seal (G : zG) (B : Nat) (kd n t zz : Int) (ch : Int32) (md tc : Int) (tg pt : Nat → Int) (L R : Nat → Int → Int) (nn : Nat) (h : zI kd n t zz md tc tg pt L R nn) (a b : Int) (ha : -2147483648 ≤ a ∧ a < 2147483648) (hb : -2147483648 ≤ b ∧ b < 2147483648) : zO G B M_X_seal (zR 7 1 6 137) M_Ref_seal (zR 5 0 0 125) [.int (Int32.ofInt a), .int (Int32.ofInt b)] [(zNSE, 1), (zISE, 2)] kd n t zz ch md tc tg pt L R := by
  have hn := zI_n h
  have h32 := zI_n32 h
  have h8 := zI_nn h
  have ht := zI_tb h
  have hmd := zI_md h
  have hnr : 0 ≤ n ∧ n ≤ 32 := by omega
  by_cases h1 : a < 0 ∨ ((16 : Nat) : Int) ≤ a
  · exact Or.inl ⟨zNSE, 1, zm0, fun sz w0 => c_seal_c G sz B kd n t zz ch md tc tg pt L w0 a ha h1 b, fun C th sz w0 => r_seal_c G sz C th kd n t tc ch md R w0 a ha (by omega) b⟩
  obtain ⟨c, rfl, hc⟩ := znat h1
  by_cases h2 : b < 0 ∨ ((8 : Nat) : Int) ≤ b
  · exact Or.inl ⟨zNSE, 1, zm0, fun sz w0 => c_seal_p G sz B kd n t zz ch md tc tg pt L w0 c hc b hb h2, fun C th sz w0 => r_seal_p G sz C th kd n t tc ch md R w0 c hc b hb (by omega)⟩
  obtain ⟨p, rfl, hp⟩ := znat h2
  rcases hmd with hm | hm
  · exact Or.inl ⟨zISE, 2, zm1, fun sz w0 => c_seal_k G sz B kd n t zz ch md tc tg pt L w0 c hc p hp hm, fun C th sz w0 => r_seal_k G sz C th kd n t tc ch md R w0 c hc p hp hm⟩
  obtain ⟨k1, k2⟩ := zI_seal (ch := ch) h hm hc hp
  obtain ⟨k3, k4, k5⟩ := zI_bud hc k2
  refine Or.inr ⟨_, kd, n, t, zz, zlcN (zlcN (zlcN ch nn) nn) nn, md, tc, tg, _, _, _, nn, zbud, k5, fun sz w0 => c_seal G sz B kd n t zz ch md tc tg pt L w0 nn hn h32 c hc p hp hm (by omega) k1 k3, fun C th sz w0 => ?_⟩
  rw [k4]
  exact r_seal G sz C th kd n t tc ch md R w0 nn hn h32 c hc p hp hm (by omega) (zI_pa h) (zI_sb h) (zI_pb' h) (fun j hj => (zI_b h j (by omega) (by omega)).2) (fun j hj => (zI_a h j (by omega) (by omega)).2)

set_option maxHeartbeats 4000000 in
theorem p_open (G : zG) (B : Nat) (kd n t zz : Int) (ch : Int32) (md tc : Int) (tg pt : Nat → Int) (L R : Nat → Int → Int) (nn : Nat) (h : zI kd n t zz md tc tg pt L R nn) (a b : Int) (ha : -2147483648 ≤ a ∧ a < 2147483648) (hb : -2147483648 ≤ b ∧ b < 2147483648) : zO G B M_X_open (zR 8 1 6 139) M_Ref_open (zR 5 0 0 125) [.int (Int32.ofInt a), .int (Int32.ofInt b)] [(zNSE, 1)] kd n t zz ch md tc tg pt L R := by
  have hn := zI_n h
  have h32 := zI_n32 h
  have h8 := zI_nn h
  have ht := zI_tb h
  have hmd := zI_md h
  have hnr : 0 ≤ n ∧ n ≤ 32 := by omega
  by_cases h1 : a < 0 ∨ ((8 : Nat) : Int) ≤ a
  · exact Or.inl ⟨zNSE, 1, zm0, fun sz w0 => c_open_p G sz B kd n t zz ch md tc tg pt L w0 a ha h1 b, fun C th sz w0 => r_open_p G sz C th kd n t tc ch md R w0 a ha (by omega) b⟩
  obtain ⟨p, rfl, hp⟩ := znat h1
  by_cases h2 : b < 0 ∨ ((16 : Nat) : Int) ≤ b
  · exact Or.inl ⟨zNSE, 1, zm0, fun sz w0 => c_open_c G sz B kd n t zz ch md tc tg pt L w0 p hp b hb h2, fun C th sz w0 => r_open_c G sz C th kd n t tc ch md R w0 p hp b hb (by omega)⟩
  obtain ⟨c, rfl, hc⟩ := znat h2
  have h3 := zI_p3 h c hc
  have e := zI_pt h c hc
  by_cases h4 : R 8 c = 0
  · exact Or.inl ⟨zNSE, 1, zm0, fun sz w0 => c_open_e G sz B kd n t zz ch md tc tg pt L w0 p hp c hc (e.trans h4), fun C th sz w0 => r_open_e G sz C th kd n t tc ch md R w0 p hp c hc h4⟩
  have hf : 0 < pt (97 + 5 * c) ∧ pt (97 + 5 * c) ≤ 3 := by omega
  have hf' : 0 < R 8 c ∧ R 8 c ≤ 3 := by omega
  have hq : R 8 c = pt (97 + 5 * c) := e.symm
  have hqf : pt (97 + 5 * c) = 2 ∨ pt (97 + 5 * c) = 3 := by omega
  obtain ⟨k1, k2⟩ := zI_open h hp hc hq hqf
  refine Or.inr ⟨_, kd, n, t, zz, ch, md, tc, tg, pt, _, _, nn, zbud, k2, fun sz w0 => c_open G sz B kd n t zz ch md tc tg pt L w0 nn hn h32 p hp c hc hf (by omega) (fun i hi => zph_b h hc hq hqf i hi), fun C th sz w0 => ?_⟩
  rw [k1]
  exact r_open G sz C th kd n t tc ch md R w0 nn hn h32 p hp c hc hf' (by omega) (zI_pa h) (zI_sb h)

set_option maxHeartbeats 4000000 in
theorem p_shrink (G : zG) (B : Nat) (kd n t zz : Int) (ch : Int32) (md tc : Int) (tg pt : Nat → Int) (L R : Nat → Int → Int) (nn : Nat) (h : zI kd n t zz md tc tg pt L R nn) (a b : Int) (ha : -2147483648 ≤ a ∧ a < 2147483648) (hb : -2147483648 ≤ b ∧ b < 2147483648) : zO G B M_X_shrink (zR 8 1 6 139) M_Ref_shrink (zR 5 0 0 125) [.int (Int32.ofInt a), .int (Int32.ofInt b)] [(zNSE, 1), (zISE, 2)] kd n t zz ch md tc tg pt L R := by
  have hn := zI_n h
  have h32 := zI_n32 h
  have h8 := zI_nn h
  have ht := zI_tb h
  have hmd := zI_md h
  have hnr : 0 ≤ n ∧ n ≤ 32 := by omega
  by_cases h1 : a < 0 ∨ ((16 : Nat) : Int) ≤ a
  · exact Or.inl ⟨zNSE, 1, zm0, fun sz w0 => c_shrink_c G sz B kd n t zz ch md tc tg pt L w0 a ha h1 b, fun C th sz w0 => r_shrink_c G sz C th kd n t tc ch md R w0 a ha (by omega) b⟩
  obtain ⟨c, rfl, hc⟩ := znat h1
  by_cases h2 : b < 0 ∨ ((16 : Nat) : Int) ≤ b
  · exact Or.inl ⟨zNSE, 1, zm0, fun sz w0 => c_shrink_l G sz B kd n t zz ch md tc tg pt L w0 c hc b hb h2, fun C th sz w0 => r_shrink_l G sz C th kd n t tc ch md R w0 c hc b hb (by omega)⟩
  obtain ⟨l, rfl, hl⟩ := znat h2
  have h3 := zI_p3 h l hl
  have e := zI_pt h l hl
  by_cases h4 : R 8 l = 0
  · exact Or.inl ⟨zNSE, 1, zm0, fun sz w0 => c_shrink_le G sz B kd n t zz ch md tc tg pt L w0 c hc l hl (e.trans h4), fun C th sz w0 => r_shrink_le G sz C th kd n t tc ch md R w0 c hc l hl h4⟩
  by_cases h5 : R 8 l = 2
  · exact Or.inl ⟨zISE, 2, zm1, fun sz w0 => c_shrink_2 G sz B kd n t zz ch md tc tg pt L w0 c hc l hl (by omega) (e.trans h5), fun C th sz w0 => r_shrink_2 G sz C th kd n t tc ch md R w0 c hc l hl (by omega) h5⟩
  have h6 : R 8 l = 3 := by omega
  obtain ⟨k1, k2, k3⟩ := zI_shrink h hc hl h6
  obtain ⟨k4, k5, k6⟩ := zI_bud hc k3
  refine Or.inr ⟨_, kd, n, t, zz, ch, md, tc, tg, _, _, _, nn, zbud, k6, fun sz w0 => c_shrink G sz B kd n t zz ch md tc tg pt L w0 nn hn h32 c hc l hl (e.trans h6) (by omega) k1 k2 k4, fun C th sz w0 => ?_⟩
  rw [k5]
  exact r_shrink G sz C th kd n t tc ch md R w0 nn hn h32 c hc l hl h6 (by omega) (zI_pa h) (zI_sb h) (zI_fi h) (zI_se h)

set_option maxHeartbeats 4000000 in
theorem p_turn (G : zG) (B : Nat) (kd n t zz : Int) (ch : Int32) (md tc : Int) (tg pt : Nat → Int) (L R : Nat → Int → Int) (nn : Nat) (h : zI kd n t zz md tc tg pt L R nn) (a b g : Int) (ha : -2147483648 ≤ a ∧ a < 2147483648) (hb : -2147483648 ≤ b ∧ b < 2147483648) (hg : -2147483648 ≤ g ∧ g < 2147483648) : zO G B M_X_turn (zR 8 1 6 139) M_Ref_turn (zR 5 0 0 125) [.int (Int32.ofInt a), .int (Int32.ofInt b), .int (Int32.ofInt g)] [(zNSE, 1), (zISE, 2)] kd n t zz ch md tc tg pt L R := by
  have hn := zI_n h
  have h32 := zI_n32 h
  have h8 := zI_nn h
  have ht := zI_tb h
  have hmd := zI_md h
  have hnr : 0 ≤ n ∧ n ≤ 32 := by omega
  by_cases h1 : a < 0 ∨ ((16 : Nat) : Int) ≤ a
  · exact Or.inl ⟨zNSE, 1, zm0, fun sz w0 => c_turn_c G sz B kd n t zz ch md tc tg pt L w0 a ha h1 b g, fun C th sz w0 => r_turn_c G sz C th kd n t tc ch md R w0 a ha (by omega) b g⟩
  obtain ⟨c, rfl, hc⟩ := znat h1
  by_cases h2 : b < 0 ∨ ((16 : Nat) : Int) ≤ b
  · exact Or.inl ⟨zNSE, 1, zm0, fun sz w0 => c_turn_l G sz B kd n t zz ch md tc tg pt L w0 c hc b hb h2 g, fun C th sz w0 => r_turn_l G sz C th kd n t tc ch md R w0 c hc b hb (by omega) g⟩
  obtain ⟨l, rfl, hl⟩ := znat h2
  have h3 := zI_p3 h l hl
  have e := zI_pt h l hl
  by_cases h4 : R 8 l = 0
  · exact Or.inl ⟨zNSE, 1, zm0, fun sz w0 => c_turn_le G sz B kd n t zz ch md tc tg pt L w0 c hc l hl (e.trans h4) g, fun C th sz w0 => r_turn_le G sz C th kd n t tc ch md R w0 c hc l hl h4 g⟩
  have hf : 0 < pt (97 + 5 * l) ∧ pt (97 + 5 * l) ≤ 3 := by omega
  have hf' : 0 < R 8 l ∧ R 8 l ≤ 3 := by omega
  have htc := zI_tc h
  have htr := zI_tr h
  have htg := zI_tgr h
  have hpl := zplc_le (tg := tg) (tc := tc) (g := g) 5 0 (by decide) htc.2 (by omega)
  have hqf := zqf_plc (tr := R 6) (tg := tg) (tc := tc) (g := g) htc.2 (zI_tg h) 5 0 (by decide)
  have hat := zplc_at (tg := tg) (tc := tc) (g := g) 5 0 (by decide) htc.2
  generalize hp : zplc tg tc g 5 0 = p at hpl hqf hat
  by_cases h5 : (p : Int) = tc
  · rw [if_neg (by omega)] at hqf
    exact Or.inl ⟨zISE, 2, zm1, fun sz w0 => c_turn_g G sz B kd n t zz ch md tc tg pt L w0 c hc l hl hf g hg htc htg p hp h5, fun C th sz w0 => r_turn_g G sz C th kd n t tc ch md R w0 c hc l hl hf' g hg htc htr hqf⟩
  have h6 : (p : Int) < tc := by omega
  rw [if_pos h6] at hqf
  by_cases h7 : R 8 l = 3
  · exact Or.inl ⟨zISE, 2, zm1, fun sz w0 => c_turn_3 G sz B kd n t zz ch md tc tg pt L w0 c hc l hl hf g hg htc htg p hp h6 (e.trans h7), fun C th sz w0 => r_turn_3 G sz C th kd n t tc ch md R w0 c hc l hl hf' g hg htc htr (p + 1) hqf ⟨by omega, by omega⟩ h7⟩
  have h9 : R 8 l = 2 := by omega
  obtain ⟨k1, k2, k3, k4, k5, k6, k7⟩ := zI_turn h hc hl h9 h6 (hat h6)
  obtain ⟨k8, k9, k10⟩ := zI_bud hc k7
  refine Or.inr ⟨((zBu (zNz t (zPL nn c 2 (zSt nn c (zAw nn (25 + 15 * p) (182 + 0) (zTX nn l g L) 6) 2) (182 + 0)) nn) 27 : Nat) : Int), kd, n, t, zz, ch, md, tc, tg, _, _, _, nn, zbud, k10, fun sz w0 => c_turn G sz B kd n t zz ch md tc tg pt L w0 nn hn h32 c hc l hl hf g hg htc htg p hp h6 (by omega) (by omega) k1 k2 k3 k4 k8, fun C th sz w0 => ?_⟩
  rw [k9]
  exact r_turn G sz C th kd n t tc ch md R w0 nn hn h32 c hc l hl hf' g hg htc htr (p + 1) hqf ⟨by omega, by omega⟩ h7 k1 (by omega) (zI_pa h) (zI_sb h) (zI_fi h) (zI_se h) k5 k6

set_option maxHeartbeats 4000000 in
theorem p_plain (G : zG) (B : Nat) (kd n t zz : Int) (ch : Int32) (md tc : Int) (tg pt : Nat → Int) (L R : Nat → Int → Int) (nn : Nat) (h : zI kd n t zz md tc tg pt L R nn) (a o b d : Int) (ha : -2147483648 ≤ a ∧ a < 2147483648) (ho : -2147483648 ≤ o ∧ o < 2147483648) (hb : -2147483648 ≤ b ∧ b < 2147483648) (hd : -2147483648 ≤ d ∧ d < 2147483648) : zO G B M_X_plain (zR 8 1 6 139) M_Ref_plain (zR 2 0 0 53) [.int (Int32.ofInt a), .int (Int32.ofInt o), .int (Int32.ofInt b), .int (Int32.ofInt d)] [(zNSE, 1), (zIAE, 2)] kd n t zz ch md tc tg pt L R := by
  have hn := zI_n h
  have h32 := zI_n32 h
  have h8 := zI_nn h
  have ht := zI_tb h
  have hmd := zI_md h
  have hnr : 0 ≤ n ∧ n ≤ 32 := by omega
  by_cases h1 : a < 0 ∨ ((16 : Nat) : Int) ≤ a
  · exact Or.inl ⟨zNSE, 1, zm0, fun sz w0 => c_plain_c G sz B kd n t zz ch md tc tg pt L w0 a ha h1 o b d, fun C th sz w0 => r_plain_c G sz C th kd n t tc ch md R w0 a ha (by omega) o b d⟩
  obtain ⟨c, rfl, hc⟩ := znat h1
  by_cases h2 : b < 0 ∨ ((16 : Nat) : Int) ≤ b
  · exact Or.inl ⟨zNSE, 1, zm0, fun sz w0 => c_plain_l G sz B kd n t zz ch md tc tg pt L w0 c hc b hb h2 o d, fun C th sz w0 => r_plain_l G sz C th kd n t tc ch md R w0 c hc b hb (by omega) o d⟩
  obtain ⟨l, rfl, hl⟩ := znat h2
  have h3 := zI_p3 h l hl
  have e := zI_pt h l hl
  by_cases h4 : R 8 l = 0
  · exact Or.inl ⟨zNSE, 1, zm0, fun sz w0 => c_plain_le G sz B kd n t zz ch md tc tg pt L w0 c hc l hl (e.trans h4) o d, fun C th sz w0 => r_plain_le G sz C th kd n t tc ch md R w0 c hc l hl h4 o d⟩
  have hf : 0 < pt (97 + 5 * l) ∧ pt (97 + 5 * l) ≤ 3 := by omega
  have hf' : 0 < R 8 l ∧ R 8 l ≤ 3 := by omega
  by_cases h5 : d < 0 ∨ ((8 : Nat) : Int) ≤ d
  · exact Or.inl ⟨zNSE, 1, zm0, fun sz w0 => c_plain_p G sz B kd n t zz ch md tc tg pt L w0 c hc l hl hf d hd h5 o, fun C th sz w0 => r_plain_p G sz C th kd n t tc ch md R w0 c hc l hl hf' d hd (by omega) o⟩
  obtain ⟨p, rfl, hp⟩ := znat h5
  by_cases h6 : o < 0
  · exact Or.inl ⟨zIAE, 2, zm1, fun sz w0 => c_plain_o1 G sz B kd n t zz ch md tc tg pt L w0 c hc l hl hf p hp o ho h6, fun C th sz w0 => r_plain_o1 G sz C th kd n t tc ch md R w0 c hc l hl hf' p hp o ho h6⟩
  by_cases h7 : 1 < o
  · exact Or.inl ⟨zIAE, 2, zm1, fun sz w0 => c_plain_o2 G sz B kd n t zz ch md tc tg pt L w0 c hc l hl hf p hp o ho h7, fun C th sz w0 => r_plain_o2 G sz C th kd n t tc ch md R w0 c hc l hl hf' p hp o ho h7⟩
  obtain ⟨q, hq, hq2⟩ : ∃ q : Nat, R 8 l = (q : Int) ∧ (q = 2 ∨ q = 3) := ⟨(R 8 l).toNat, by omega, by omega⟩
  have h9 : o = 0 ∨ o = 1 := by omega
  rcases h9 with rfl | rfl
  · obtain ⟨k1, k2, k3⟩ := zI_plain0 h hc hl hp hq hq2
    exact Or.inr ⟨(q : Int), kd, n, t, zz, ch, md, tc, tg, _, _, _, nn, by omega, k3, fun sz w0 => c_plain_0 G sz B kd n t zz ch md tc tg pt L w0 nn hn h32 c hc l hl hf p hp q (e.trans hq) (by omega) k1, fun C th sz w0 => r_plain_0 G sz C th kd n t tc ch md R w0 nn hn h32 c hc l hl p hp q hq (by omega) (by omega) (zI_pa h) (zI_pb' h) k2⟩
  · obtain ⟨k1, k2, k3⟩ := zI_plain1 h hc hl hp hq hq2
    exact Or.inr ⟨(q : Int), kd, n, t, zz, ch, md, tc, tg, _, _, _, nn, by omega, k3, fun sz w0 => c_plain_1 G sz B kd n t zz ch md tc tg pt L w0 nn hn h32 c hc l hl hf p hp q (e.trans hq) (by omega) k1, fun C th sz w0 => r_plain_1 G sz C th kd n t tc ch md R w0 nn hn h32 c hc l hl p hp q hq (by omega) (by omega) (zI_pa h) (zI_pb' h) k2⟩

set_option maxHeartbeats 4000000 in
theorem p_join (G : zG) (B : Nat) (kd n t zz : Int) (ch : Int32) (md tc : Int) (tg pt : Nat → Int) (L R : Nat → Int → Int) (nn : Nat) (h : zI kd n t zz md tc tg pt L R nn) (a o b d : Int) (ha : -2147483648 ≤ a ∧ a < 2147483648) (ho : -2147483648 ≤ o ∧ o < 2147483648) (hb : -2147483648 ≤ b ∧ b < 2147483648) (hd : -2147483648 ≤ d ∧ d < 2147483648) : zO G B M_X_join (zR 8 1 6 139) M_Ref_join (zR 3 0 0 70) [.int (Int32.ofInt a), .int (Int32.ofInt o), .int (Int32.ofInt b), .int (Int32.ofInt d)] [(zNSE, 1), (zIAE, 2), (zISE, 3)] kd n t zz ch md tc tg pt L R := by
  have hn := zI_n h
  have h32 := zI_n32 h
  have h8 := zI_nn h
  have ht := zI_tb h
  have hmd := zI_md h
  have hnr : 0 ≤ n ∧ n ≤ 32 := by omega
  by_cases h1 : a < 0 ∨ ((16 : Nat) : Int) ≤ a
  · exact Or.inl ⟨zNSE, 1, zm0, fun sz w0 => c_join_c G sz B kd n t zz ch md tc tg pt L w0 a ha h1 o b d, fun C th sz w0 => r_join_c G sz C th kd n t tc ch md R w0 a ha (by omega) o b d⟩
  obtain ⟨c, rfl, hc⟩ := znat h1
  by_cases h2 : b < 0 ∨ ((16 : Nat) : Int) ≤ b
  · exact Or.inl ⟨zNSE, 1, zm0, fun sz w0 => c_join_l G sz B kd n t zz ch md tc tg pt L w0 c hc b hb h2 o d, fun C th sz w0 => r_join_l G sz C th kd n t tc ch md R w0 c hc b hb (by omega) o d⟩
  obtain ⟨l, rfl, hl⟩ := znat h2
  have h3 := zI_p3 h l hl
  have e := zI_pt h l hl
  by_cases h4 : R 8 l = 0
  · exact Or.inl ⟨zNSE, 1, zm0, fun sz w0 => c_join_le G sz B kd n t zz ch md tc tg pt L w0 c hc l hl (e.trans h4) o d, fun C th sz w0 => r_join_le G sz C th kd n t tc ch md R w0 c hc l hl h4 o d⟩
  have hf : 0 < pt (97 + 5 * l) ∧ pt (97 + 5 * l) ≤ 3 := by omega
  have hf' : 0 < R 8 l ∧ R 8 l ≤ 3 := by omega
  by_cases h5 : d < 0 ∨ ((16 : Nat) : Int) ≤ d
  · exact Or.inl ⟨zNSE, 1, zm0, fun sz w0 => c_join_r G sz B kd n t zz ch md tc tg pt L w0 c hc l hl hf d hd h5 o, fun C th sz w0 => r_join_r G sz C th kd n t tc ch md R w0 c hc l hl hf' d hd (by omega) o⟩
  obtain ⟨r, rfl, hr⟩ := znat h5
  have h3r := zI_p3 h r hr
  have er := zI_pt h r hr
  by_cases h4r : R 8 r = 0
  · exact Or.inl ⟨zNSE, 1, zm0, fun sz w0 => c_join_re G sz B kd n t zz ch md tc tg pt L w0 c hc l hl hf r hr (er.trans h4r) o, fun C th sz w0 => r_join_re G sz C th kd n t tc ch md R w0 c hc l hl hf' r hr h4r o⟩
  have gf : 0 < pt (97 + 5 * r) ∧ pt (97 + 5 * r) ≤ 3 := by omega
  have gf' : 0 < R 8 r ∧ R 8 r ≤ 3 := by omega
  by_cases h6 : o < 0
  · exact Or.inl ⟨zIAE, 2, zm1, fun sz w0 => c_join_o1 G sz B kd n t zz ch md tc tg pt L w0 c hc l hl hf r hr gf o ho h6, fun C th sz w0 => r_join_o1 G sz C th kd n t tc ch md R w0 c hc l hl hf' r hr gf' o ho h6⟩
  by_cases h7 : 2 < o
  · exact Or.inl ⟨zIAE, 2, zm1, fun sz w0 => c_join_o2 G sz B kd n t zz ch md tc tg pt L w0 c hc l hl hf r hr gf o ho h7, fun C th sz w0 => r_join_o2 G sz C th kd n t tc ch md R w0 c hc l hl hf' r hr gf' o ho h7⟩
  have h9 : o = 0 ∨ o = 1 ∨ o = 2 := by omega
  have hmm : ∃ m : Nat, (if R 8 l < R 8 r then R 8 r else R 8 l) = (m : Int) := ⟨(if R 8 l < R 8 r then R 8 r else R 8 l).toNat, by split <;> omega⟩
  obtain ⟨m, hm⟩ := hmm
  rcases h9 with rfl | rfl | rfl
  · obtain ⟨k0, k1, k2, k3⟩ := zI_join01 (o := 0) (f := 1) h (Or.inl ⟨rfl, rfl⟩) hc hl hr h4 h4r hm
    refine Or.inr ⟨(m : Int), kd, n, t, zz, ch, md, tc, tg, _, _, _, nn, by omega, k3, fun sz w0 => ?_, fun C th sz w0 => r_join_0 G sz C th kd n t tc ch md R w0 nn hn h32 c hc l hl hf' r hr gf' m hm (by omega) k2⟩
    rw [← e, ← er] at k1 ⊢
    exact c_join_0 G sz B kd n t zz ch md tc tg pt L w0 nn hn h32 c hc l hl hf r hr gf m (by rw [e, er]; exact hm) k1
  · obtain ⟨k0, k1, k2, k3⟩ := zI_join01 (o := 1) (f := -1) h (Or.inr ⟨rfl, rfl⟩) hc hl hr h4 h4r hm
    refine Or.inr ⟨(m : Int), kd, n, t, zz, ch, md, tc, tg, _, _, _, nn, by omega, k3, fun sz w0 => ?_, fun C th sz w0 => r_join_1 G sz C th kd n t tc ch md R w0 nn hn h32 c hc l hl hf' r hr gf' m hm (by omega) k2⟩
    rw [← e, ← er] at k1 ⊢
    exact c_join_1 G sz B kd n t zz ch md tc tg pt L w0 nn hn h32 c hc l hl hf r hr gf m (by rw [e, er]; exact hm) k1
  · by_cases h10 : R 8 l = 3
    · exact Or.inl ⟨zISE, 3, zm2, fun sz w0 => c_join_3l G sz B kd n t zz ch md tc tg pt L w0 c hc l hl hf r hr gf (e.trans h10), fun C th sz w0 => r_join_3l G sz C th kd n t tc ch md R w0 c hc l hl hf' r hr gf' h10⟩
    by_cases h11 : R 8 r = 3
    · exact Or.inl ⟨zISE, 3, zm2, fun sz w0 => c_join_3r G sz B kd n t zz ch md tc tg pt L w0 c hc l hl hf r hr gf (by omega) (er.trans h11), fun C th sz w0 => r_join_3r G sz C th kd n t tc ch md R w0 c hc l hl hf' r hr gf' h10 h11⟩
    obtain ⟨k1, k2, k3, k4, k5, k6, k7⟩ := zI_join2 h hc hl hr (by omega) (by omega)
    exact Or.inr ⟨((3 : Nat) : Int), kd, n, t, zz, ch, md, tc, tg, _, _, _, nn, by omega, k7, fun sz w0 => c_join_2 G sz B kd n t zz ch md tc tg pt L w0 nn hn h32 c hc l hl hf r hr gf (by omega) (by omega) (by omega) k1 k2 k3 k4, fun C th sz w0 => r_join_2 G sz C th kd n t tc ch md R w0 nn hn h32 c hc l hl hf' r hr gf' h10 h11 (by omega) (zI_pa h) k5 k6⟩

set_option maxHeartbeats 4000000 in
theorem p_batch (G : zG) (B : Nat) (kd n t zz : Int) (ch : Int32) (md tc : Int) (tg pt : Nat → Int) (L R : Nat → Int → Int) (nn : Nat) (h : zI kd n t zz md tc tg pt L R nn) (a : Int) (b : Nat) (hb : b = 0 ∨ b = 1) (ha : -2147483648 ≤ a ∧ a < 2147483648) : zO G B M_X_batch (zR 7 1 6 117) M_Ref_batch (zR 2 0 0 45) [.int (Int32.ofInt a), .int (Int32.ofInt (b : Int))] [(zNSE, 1)] kd n t zz ch md tc tg pt L R := by
  have hn := zI_n h
  have h32 := zI_n32 h
  have h8 := zI_nn h
  have ht := zI_tb h
  have hmd := zI_md h
  have hnr : 0 ≤ n ∧ n ≤ 32 := by omega
  by_cases h1 : a < 0 ∨ ((8 : Nat) : Int) ≤ a
  · exact Or.inl ⟨zNSE, 1, zm0, fun sz w0 => c_batch_no G sz B kd n t zz ch md tc tg pt L w0 a ha h1 b, fun C th sz w0 => r_batch_no G sz C th kd n t tc ch md R w0 a ha (by omega) b⟩
  obtain ⟨p, rfl, hp⟩ := znat h1
  have hk := zI_kd h
  have et := zI_t h
  have en : (nn : Int) = zszI kd := (zI_n h).symm.trans (zI_nk h)
  have en' : (zszI kd).toNat = nn := by omega
  have ez := zI_z h
  have z1 := zroot hk
  have z2 := zinv hk
  have z3 := zlr_b hk
  rw [en', ← et, ← ez] at z1 z3
  rw [← et, ← en] at z2
  obtain ⟨k1, k2, k3, k4⟩ := zI_batch (b := b) h hp
  have hv := zI_pb' k4 (32 * (p : Int)) (by omega) (by omega)
  refine Or.inr ⟨zqBa nn p b t zz (zpm t nn (t - 2).toNat) R 7 (32 * (p : Int)), kd, n, t, zz, ch, md, tc, tg, pt, _, _, nn, ⟨by omega, by omega⟩, k4, fun sz w0 => ?_, fun C th sz w0 => ?_⟩
  · rw [← k3]
    rcases hb with rfl | rfl
    · exact c_batch_0 G sz B kd n t zz ch md tc tg pt L w0 nn hn h32 p hp (by omega) k1 k2
    · exact c_batch_1 G sz B kd n t zz ch md tc tg pt L w0 nn hn h32 p hp (by omega) k1 k2
  · rcases hb with rfl | rfl
    · exact r_batch_0 G sz C th kd n t tc ch md R w0 nn hn h32 (by omega) p hp zz (zpm t nn (t - 2).toNat) (by omega) (by omega) z1.1 z1.2 z2.1 z2.2.1 z2.2.2 (zI_pb' h)
    · exact r_batch_1 G sz C th kd n t tc ch md R w0 nn hn h32 (by omega) p hp zz (zpm t nn (t - 2).toNat) (by omega) (by omega) z1.1 z1.2 z2.1 z2.2.1 z2.2.2 (zI_pb' h)

set_option maxHeartbeats 4000000 in
theorem p_count (G : zG) (B : Nat) (kd n t zz : Int) (ch : Int32) (md tc : Int) (tg pt : Nat → Int) (L R : Nat → Int → Int) (nn : Nat) (h : zI kd n t zz md tc tg pt L R nn) (x : Int) (hx : -2147483648 ≤ x ∧ x < 2147483648) : zO G B M_X_count (zR 1 0 0 22) M_Ref_count (zR 2 0 0 45) [.int (Int32.ofInt x)] [] kd n t zz ch md tc tg pt L R := by
  have hn := zI_n h
  have h32 := zI_n32 h
  have h8 := zI_nn h
  have ht := zI_tb h
  have hmd := zI_md h
  have hnr : 0 ≤ n ∧ n ≤ 32 := by omega
  have hk := zI_kd h
  have et := zI_t h
  have en : (nn : Int) = zszI kd := (zI_n h).symm.trans (zI_nk h)
  have en' : (zszI kd).toNat = nn := by omega
  have ez := zI_z h
  have z1 := zroot hk
  have z3 := zlr_b hk
  rw [en', ← et, ← ez] at z1 z3
  have htc := zI_tc h
  by_cases h1 : x < 0 ∨ 7 < x
  · exact Or.inr ⟨-1, kd, n, t, zz, ch, md, tc, tg, pt, L, R, nn, by decide, h, fun sz w0 => c_count_x G sz B kd n t zz ch md tc tg pt L w0 x hx h1, fun C th sz w0 => r_count_x G sz C th kd n t tc ch md R w0 x hx h1⟩
  have h2 : x = 0 ∨ x = 1 ∨ x = 2 ∨ x = 3 ∨ x = 4 ∨ x = 5 ∨ x = 6 ∨ x = 7 := by omega
  rcases h2 with rfl | rfl | rfl | rfl | rfl | rfl | rfl | rfl
  · exact Or.inr ⟨kd, kd, n, t, zz, ch, md, tc, tg, pt, L, R, nn, by omega, h, fun sz w0 => c_count_0 G sz B kd n t zz ch md tc tg pt L w0, fun C th sz w0 => r_count_0 G sz C th kd n t tc ch md R w0⟩
  · exact Or.inr ⟨n, kd, n, t, zz, ch, md, tc, tg, pt, L, R, nn, by omega, h, fun sz w0 => c_count_1 G sz B kd n t zz ch md tc tg pt L w0, fun C th sz w0 => r_count_1 G sz C th kd n t tc ch md R w0⟩
  · exact Or.inr ⟨t, kd, n, t, zz, ch, md, tc, tg, pt, L, R, nn, by omega, h, fun sz w0 => c_count_2 G sz B kd n t zz ch md tc tg pt L w0, fun C th sz w0 => r_count_2 G sz C th kd n t tc ch md R w0⟩
  · exact Or.inr ⟨zz, kd, n, t, zz, ch, md, tc, tg, pt, L, R, nn, by omega, h, fun sz w0 => c_count_3 G sz B kd n t zz ch md tc tg pt L w0, fun C th sz w0 => r_count_3 G sz C th kd n t tc ch md R w0 nn hn h32 zz (by omega) (by omega) z1.1 z1.2⟩
  · exact Or.inr ⟨md, kd, n, t, zz, ch, md, tc, tg, pt, L, R, nn, by omega, h, fun sz w0 => c_count_4 G sz B kd n t zz ch md tc tg pt L w0 hmd, fun C th sz w0 => r_count_4 G sz C th kd n t tc ch md R w0 hmd⟩
  · exact Or.inr ⟨tc, kd, n, t, zz, ch, md, tc, tg, pt, L, R, nn, by omega, h, fun sz w0 => c_count_5 G sz B kd n t zz ch md tc tg pt L w0, fun C th sz w0 => r_count_5 G sz C th kd n t tc ch md R w0⟩
  · have e6 : zfc pt 16 = zqc (R 8) 16 := zfc_qc 16 (fun c hc => zI_pt h c hc)
    have hb := zqc_b (R 8) 16
    refine Or.inr ⟨zqc (R 8) 16, kd, n, t, zz, ch, md, tc, tg, pt, L, R, nn, by omega, h, fun sz w0 => ?_, fun C th sz w0 => r_count_6 G sz C th kd n t tc ch md R w0 (fun c hc => by have := zI_p3 h c hc; omega)⟩
    rw [← e6]
    exact c_count_6 G sz B kd n t zz ch md tc tg pt L w0 (fun c hc => by have h3 := zI_p3 h c hc; have h4 := zI_pt h c hc; omega)
  · have hb := zup_b ch
    exact Or.inr ⟨zup ch, kd, n, t, zz, ch, md, tc, tg, pt, L, R, nn, by omega, h, fun sz w0 => c_count_7 G sz B kd n t zz ch md tc tg pt L w0, fun C th sz w0 => r_count_7 G sz C th kd n t tc ch md R w0⟩

