/-! what holds between the class's numbers and the reference's -/
def zkj : Nat → Nat
  | 0 => 9
  | p + 1 => 25 + 15 * p
def zIa (kd n t zz : Int) (nn : Nat) (L : Nat → Int → Int) : Prop := (0 ≤ kd ∧ kd ≤ 2) ∧ n = (nn : Int) ∧ n = zszI kd ∧ t = zmoI kd ∧ zz = zlr t nn 1000 2 ∧ ∀ j : Int, 0 ≤ j → j < 2 * n → L 2 j = zpm t zz j.toNat
def zIt (n tc : Int) (tg : Nat → Int) (R : Nat → Int → Int) : Prop := (0 ≤ tc ∧ tc ≤ 4) ∧ (∀ p : Nat, p < 4 → tg (25 + 15 * p) = R 6 (p + 1)) ∧ (∀ p : Nat, p < 5 → -2147483648 ≤ R 6 p ∧ R 6 p < 2147483648) ∧ ∀ p : Nat, (p : Int) < tc → (3 ≤ tg (25 + 15 * p) ∧ tg (25 + 15 * p) < 2 * n) ∧ tg (25 + 15 * p) % 2 = 1
def zIs (md : Int) (nn : Nat) (L R : Nat → Int → Int) : Prop := (∀ i : Int, 0 ≤ i → i < 32 → L 5 i = R 1 i ∧ -1 ≤ R 1 i ∧ R 1 i ≤ 1) ∧ (md = 1 → ∀ i : Int, 0 ≤ i → i < nn → L 6 i = zMl nn (L 5) (L 5) i) ∧ (∀ i : Int, 0 ≤ i → i < 32 → L 7 i = R 2 i ∧ 0 ≤ R 2 i ∧ R 2 i < 268435399) ∧ ∀ i : Int, 0 ≤ i → i < 32 → L 8 i = R 3 i ∧ 0 ≤ R 3 i ∧ R 3 i < 268435399
def zIk (L R : Nat → Int → Int) : Prop := (∀ a k : Nat, a < 5 → k < 6 → ∀ i : Int, 0 ≤ i → i < 32 → L (zkj a + 1 + 1 + k) i = R 4 (((a : Int) * 6 + k) * 32 + i) ∧ L (zkj a + 8 + 1 + k) i = R 5 (((a : Int) * 6 + k) * 32 + i)) ∧ (∀ q : Int, 0 ≤ q → q < 960 → 0 ≤ R 4 q ∧ R 4 q < 268435399) ∧ ∀ q : Int, 0 ≤ q → q < 960 → 0 ≤ R 5 q ∧ R 5 q < 268435399
def zIp (t : Int) (L R : Nat → Int → Int) : Prop := (∀ p : Nat, p < 8 → ∀ i : Int, 0 ≤ i → i < 32 → L (88 + p) i = R 7 (32 * (p : Int) + i)) ∧ ∀ j : Int, 0 ≤ j → j < 256 → 0 ≤ R 7 j ∧ R 7 j < t
def zIc (md : Int) (nn : Nat) (pt : Nat → Int) (L R : Nat → Int → Int) : Prop := (md = 0 → ∀ c : Nat, c < 16 → R 8 c = 0) ∧ (∀ c : Nat, c < 16 → pt (97 + 5 * c) = R 8 c ∧ (R 8 c = 0 ∨ R 8 c = 2 ∨ R 8 c = 3)) ∧ (∀ j : Int, 0 ≤ j → j < 1536 → 0 ≤ R 9 j ∧ R 9 j < 268435399) ∧ ∀ c k : Nat, c < 16 → k < 3 → (k : Int) < R 8 c → ∀ i : Int, 0 ≤ i → i < nn → L (97 + 5 * c + 1 + 1 + k) i = R 9 ((3 * (c : Int) + k) * 32 + i)
def zI (kd n t zz md tc : Int) (tg pt : Nat → Int) (L R : Nat → Int → Int) (nn : Nat) : Prop := (md = 0 ∨ md = 1) ∧ zIa kd n t zz nn L ∧ zIt n tc tg R ∧ zIs md nn L R ∧ zIk L R ∧ zIp t L R ∧ zIc md nn pt L R
theorem zkj_b {a : Nat} (h : a < 5) : zkj a = 9 ∨ zkj a = 25 ∨ zkj a = 40 ∨ zkj a = 55 ∨ zkj a = 70 := by
  have : a = 0 ∨ a = 1 ∨ a = 2 ∨ a = 3 ∨ a = 4 := by omega
  rcases this with rfl | rfl | rfl | rfl | rfl <;> decide
theorem zIa_c {kd n t zz : Int} {nn : Nat} {L L' : Nat → Int → Int} (h : zIa kd n t zz nn L) (e : L' 2 = L 2) : zIa kd n t zz nn L' := by
  unfold zIa at *
  rw [e]
  exact h
theorem zIt_c {n tc : Int} {tg : Nat → Int} {R R' : Nat → Int → Int} (h : zIt n tc tg R) (e : R' 6 = R 6) : zIt n tc tg R' := by
  unfold zIt at *
  rw [e]
  exact h
theorem zIs_c {md : Int} {nn : Nat} {L L' R R' : Nat → Int → Int} (h : zIs md nn L R) (e5 : L' 5 = L 5) (e6 : L' 6 = L 6) (e7 : L' 7 = L 7) (e8 : L' 8 = L 8) (r1 : R' 1 = R 1) (r2 : R' 2 = R 2) (r3 : R' 3 = R 3) : zIs md nn L' R' := by
  unfold zIs at *
  rw [e5, e6, e7, e8, r1, r2, r3]
  exact h
theorem zIk_c {L L' R R' : Nat → Int → Int} (h : zIk L R) (e : ∀ j, 9 ≤ j → j ≤ 84 → L' j = L j) (r4 : R' 4 = R 4) (r5 : R' 5 = R 5) : zIk L' R' := by
  unfold zIk at *
  rw [r4, r5]
  refine ⟨fun a k ha hk i h0 h1 => ?_, h.2⟩
  have hb := zkj_b ha
  rw [e _ (by omega) (by omega), e _ (by omega) (by omega)]
  exact h.1 a k ha hk i h0 h1
theorem zIp_c {t : Int} {L L' R R' : Nat → Int → Int} (h : zIp t L R) (e : ∀ j, 88 ≤ j → j ≤ 95 → L' j = L j) (r7 : R' 7 = R 7) : zIp t L' R' := by
  unfold zIp at *
  rw [r7]
  refine ⟨fun p hp i h0 h1 => ?_, h.2⟩
  rw [e _ (by omega) (by omega)]
  exact h.1 p hp i h0 h1
theorem zIc_c {md : Int} {nn : Nat} {pt : Nat → Int} {L L' R R' : Nat → Int → Int} (h : zIc md nn pt L R) (e : ∀ j, 97 ≤ j → j ≤ 176 → L' j = L j) (r8 : R' 8 = R 8) (r9 : R' 9 = R 9) : zIc md nn pt L' R' := by
  unfold zIc at *
  rw [r8, r9]
  refine ⟨h.1, h.2.1, h.2.2.1, fun c k hc hk h3 i h0 h1 => ?_⟩
  rw [e _ (by omega) (by omega)]
  exact h.2.2.2 c k hc hk h3 i h0 h1
/-- rows that no promise speaks of -/
def zsc (j : Nat) : Prop := j = 85 ∨ j = 86 ∨ (178 ≤ j ∧ j ≤ 180) ∨ (182 ≤ j ∧ j ≤ 185)
theorem zI_scr {kd n t zz md tc : Int} {tg pt : Nat → Int} {L R L' R' : Nat → Int → Int} {nn : Nat} (h : zI kd n t zz md tc tg pt L R nn) (e : ∀ j, ¬ zsc j → L' j = L j) (r : ∀ j, j < 10 → R' j = R j) : zI kd n t zz md tc tg pt L' R' nn := by
  obtain ⟨h0, h1, h2, h3, h4, h5, h6⟩ := h
  have hn : ∀ j, j ≤ 84 ∨ (87 ≤ j ∧ j ≤ 177) → ¬ zsc j := by
    unfold zsc
    intro j
    omega
  exact ⟨h0, zIa_c h1 (e 2 (hn 2 (by decide))), zIt_c h2 (r 6 (by decide)), zIs_c h3 (e 5 (hn 5 (by decide))) (e 6 (hn 6 (by decide))) (e 7 (hn 7 (by decide))) (e 8 (hn 8 (by decide))) (r 1 (by decide)) (r 2 (by decide)) (r 3 (by decide)), zIk_c h4 (fun j a b => e j (hn j (by omega))) (r 4 (by decide)) (r 5 (by decide)), zIp_c h5 (fun j a b => e j (hn j (by omega))) (r 7 (by decide)), zIc_c h6 (fun j a b => e j (hn j (by omega))) (r 8 (by decide)) (r 9 (by decide))⟩
section ZIP
variable {kd n t zz md tc : Int} {tg pt : Nat → Int} {L R : Nat → Int → Int} {nn : Nat}
theorem zI_md (h : zI kd n t zz md tc tg pt L R nn) : md = 0 ∨ md = 1 := h.1
theorem zI_kd (h : zI kd n t zz md tc tg pt L R nn) : 0 ≤ kd ∧ kd ≤ 2 := h.2.1.1
theorem zI_n (h : zI kd n t zz md tc tg pt L R nn) : n = (nn : Int) := h.2.1.2.1
theorem zI_nk (h : zI kd n t zz md tc tg pt L R nn) : n = zszI kd := h.2.1.2.2.1
theorem zI_t (h : zI kd n t zz md tc tg pt L R nn) : t = zmoI kd := h.2.1.2.2.2.1
theorem zI_z (h : zI kd n t zz md tc tg pt L R nn) : zz = zlr t nn 1000 2 := h.2.1.2.2.2.2.1
theorem zI_pw (h : zI kd n t zz md tc tg pt L R nn) : ∀ j : Int, 0 ≤ j → j < 2 * n → L 2 j = zpm t zz j.toNat := h.2.1.2.2.2.2.2
theorem zI_nn (h : zI kd n t zz md tc tg pt L R nn) : nn = 8 ∨ nn = 16 ∨ nn = 32 := by
  have h1 := zI_n h
  have h2 := zI_nk h
  rcases zkd (zI_kd h) with e | e | e <;> subst e <;> rw [h1] at h2 <;> unfold zszI at h2 <;> simp at h2 <;> omega
theorem zI_n32 (h : zI kd n t zz md tc tg pt L R nn) : nn ≤ 32 := by
  have := zI_nn h
  omega
theorem zI_tb (h : zI kd n t zz md tc tg pt L R nn) : 17 ≤ t ∧ t ≤ 193 := by
  rw [zI_t h]
  exact (zki (zI_kd h)).2
theorem zI_tc (h : zI kd n t zz md tc tg pt L R nn) : 0 ≤ tc ∧ tc ≤ 4 := h.2.2.1.1
theorem zI_tg (h : zI kd n t zz md tc tg pt L R nn) : ∀ p : Nat, p < 4 → tg (25 + 15 * p) = R 6 (p + 1) := h.2.2.1.2.1
theorem zI_tr (h : zI kd n t zz md tc tg pt L R nn) : ∀ p : Nat, p < 5 → -2147483648 ≤ R 6 p ∧ R 6 p < 2147483648 := h.2.2.1.2.2.1
theorem zI_to (h : zI kd n t zz md tc tg pt L R nn) : ∀ p : Nat, (p : Int) < tc → (3 ≤ tg (25 + 15 * p) ∧ tg (25 + 15 * p) < 2 * n) ∧ tg (25 + 15 * p) % 2 = 1 := h.2.2.1.2.2.2
theorem zI_tgr (h : zI kd n t zz md tc tg pt L R nn) : ∀ p : Nat, p < 4 → -2147483648 ≤ tg (25 + 15 * p) ∧ tg (25 + 15 * p) < 2147483648 := fun p hp => by
  rw [zI_tg h p hp]
  exact zI_tr h (p + 1) (by omega)
theorem zI_s (h : zI kd n t zz md tc tg pt L R nn) : ∀ i : Int, 0 ≤ i → i < 32 → L 5 i = R 1 i := fun i a b => (h.2.2.2.1.1 i a b).1
theorem zI_sb (h : zI kd n t zz md tc tg pt L R nn) : ∀ i : Int, 0 ≤ i → i < 32 → -1 ≤ R 1 i ∧ R 1 i ≤ 1 := fun i a b => (h.2.2.2.1.1 i a b).2
theorem zI_sq (h : zI kd n t zz md tc tg pt L R nn) : md = 1 → ∀ i : Int, 0 ≤ i → i < nn → L 6 i = zMl nn (L 5) (L 5) i := h.2.2.2.1.2.1
theorem zI_b (h : zI kd n t zz md tc tg pt L R nn) : ∀ i : Int, 0 ≤ i → i < 32 → L 7 i = R 2 i ∧ 0 ≤ R 2 i ∧ R 2 i < 268435399 := h.2.2.2.1.2.2.1
theorem zI_a (h : zI kd n t zz md tc tg pt L R nn) : ∀ i : Int, 0 ≤ i → i < 32 → L 8 i = R 3 i ∧ 0 ≤ R 3 i ∧ R 3 i < 268435399 := h.2.2.2.1.2.2.2
theorem zI_k (h : zI kd n t zz md tc tg pt L R nn) : ∀ a k : Nat, a < 5 → k < 6 → ∀ i : Int, 0 ≤ i → i < 32 → L (zkj a + 1 + 1 + k) i = R 4 (((a : Int) * 6 + k) * 32 + i) ∧ L (zkj a + 8 + 1 + k) i = R 5 (((a : Int) * 6 + k) * 32 + i) := h.2.2.2.2.1.1
theorem zI_fi (h : zI kd n t zz md tc tg pt L R nn) : ∀ q : Int, 0 ≤ q → q < 960 → 0 ≤ R 4 q ∧ R 4 q < 268435399 := h.2.2.2.2.1.2.1
theorem zI_se (h : zI kd n t zz md tc tg pt L R nn) : ∀ q : Int, 0 ≤ q → q < 960 → 0 ≤ R 5 q ∧ R 5 q < 268435399 := h.2.2.2.2.1.2.2
theorem zI_pl (h : zI kd n t zz md tc tg pt L R nn) : ∀ p : Nat, p < 8 → ∀ i : Int, 0 ≤ i → i < 32 → L (88 + p) i = R 7 (32 * (p : Int) + i) := h.2.2.2.2.2.1.1
theorem zI_pb (h : zI kd n t zz md tc tg pt L R nn) : ∀ j : Int, 0 ≤ j → j < 256 → 0 ≤ R 7 j ∧ R 7 j < t := h.2.2.2.2.2.1.2
theorem zI_pb' (h : zI kd n t zz md tc tg pt L R nn) : ∀ j : Int, 0 ≤ j → j < 256 → 0 ≤ R 7 j ∧ R 7 j ≤ 1000 := fun j a b => by
  have h1 := zI_pb h j a b
  have h2 := zI_tb h
  omega
theorem zI_em (h : zI kd n t zz md tc tg pt L R nn) : md = 0 → ∀ c : Nat, c < 16 → R 8 c = 0 := h.2.2.2.2.2.2.1
theorem zI_pt (h : zI kd n t zz md tc tg pt L R nn) : ∀ c : Nat, c < 16 → pt (97 + 5 * c) = R 8 c := fun c hc => (h.2.2.2.2.2.2.2.1 c hc).1
theorem zI_p3 (h : zI kd n t zz md tc tg pt L R nn) : ∀ c : Nat, c < 16 → R 8 c = 0 ∨ R 8 c = 2 ∨ R 8 c = 3 := fun c hc => (h.2.2.2.2.2.2.2.1 c hc).2
theorem zI_pa (h : zI kd n t zz md tc tg pt L R nn) : ∀ j : Int, 0 ≤ j → j < 1536 → 0 ≤ R 9 j ∧ R 9 j < 268435399 := h.2.2.2.2.2.2.2.2.1
theorem zI_c (h : zI kd n t zz md tc tg pt L R nn) : ∀ c k : Nat, c < 16 → k < 3 → (k : Int) < R 8 c → ∀ i : Int, 0 ≤ i → i < nn → L (97 + 5 * c + 1 + 1 + k) i = R 9 ((3 * (c : Int) + k) * 32 + i) := h.2.2.2.2.2.2.2.2.2
/-- a cipher's row is reduced -/
theorem zI_cb (h : zI kd n t zz md tc tg pt L R nn) {c k : Nat} (hc : c < 16) (hk : k < 3) (h3 : (k : Int) < R 8 c) {i : Int} (h0 : 0 ≤ i) (h1 : i < nn) : 0 ≤ L (97 + 5 * c + 1 + 1 + k) i ∧ L (97 + 5 * c + 1 + 1 + k) i < 268435399 := by
  have := zI_n32 h
  rw [zI_c h c k hc hk h3 i h0 h1]
  exact zI_pa h _ (by omega) (by omega)
/-- the row that 'take' takes -/
theorem zI_take (h : zI kd n t zz md tc tg pt L R nn) {c k : Nat} (hc : c < 16) (hk : k < 3) (h3 : (k : Int) < R 8 c) {i : Int} (h0 : 0 ≤ i) (h1 : i < nn) : zqT c k R i = L (97 + 5 * c + 1 + 1 + k) i := by
  unfold zqT
  rw [if_pos h3, zI_c h c k hc hk h3 i h0 h1]
theorem zI_full (h : zI kd n t zz md tc tg pt L R nn) {c : Nat} (hc : c < 16) (hf : ¬ R 8 c = 0) : md = 1 := by
  rcases zI_md h with e | e
  · exact absurd (zI_em h e c hc) hf
  · exact e
end ZIP
