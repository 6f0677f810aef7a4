/-! the class's cells from B on: the flat world -/
def zlay (G : zG) (B : Nat) (kd n t zz : Int) (ch : Int32) (md tc : Int) (tg pt : Nat → Int) (L : Nat → Int → Int) (j : Nat) : va_E :=
  if j = 0 then zobj cX [.ref (B + 1), .ref (B + 3), .ref (B + 4), .ref (B + 87), .ref (B + 96), .ref (B + 177), .ref (B + 181)]
  else if j = 1 then zobj cRing [.int (Int32.ofInt kd), .int (Int32.ofInt n), .int (Int32.ofInt t), .int (Int32.ofInt zz), .ref (B + 2)]
  else if j = 2 then zro G 64 (L j)
  else if j = 3 then zobj cChance [.int ch]
  else if j = 4 then zobj cKeyRing [.int (Int32.ofInt md), .int (Int32.ofInt tc), .ref (B + 5), .ref (B + 6), .ref (B + 7), .ref (B + 8), .ref (B + 9), .ref (B + 24), .ref (B + 85), .ref (B + 86)]
  else if j = 24 then zrefs G 4 4 (fun k => if k < 4 then some (B + (25 + 15 * k)) else none)
  else if j = 87 then zrefs G 1 8 (fun k => if k < 8 then some (B + (88 + k)) else none)
  else if j = 96 then zrefs G 3 16 (fun k => if k < 16 then some (B + (97 + 5 * k)) else none)
  else if j = 177 then zrefs G 1 3 (fun k => if k < 3 then some (B + (178 + k)) else none)
  else if j = 181 then zrefs G 1 4 (fun k => if k < 4 then some (B + (182 + k)) else none)
  else if j = 9 ∨ j = 25 ∨ j = 40 ∨ j = 55 ∨ j = 70 then zobj cSwitchKey [.int (Int32.ofInt (tg j)), .ref (B + (j + 1)), .ref (B + (j + 8))]
  else if j = 10 ∨ j = 26 ∨ j = 41 ∨ j = 56 ∨ j = 71 ∨ j = 17 ∨ j = 33 ∨ j = 48 ∨ j = 63 ∨ j = 78 then zrefs G 1 6 (fun k => if k < 6 then some (B + (j + 1 + k)) else none)
  else if 97 ≤ j ∧ j < 177 ∧ (j - 97) % 5 = 0 then zobj cCipher [.int (Int32.ofInt (pt j)), .ref (B + (j + 1))]
  else if 97 ≤ j ∧ j < 177 ∧ (j - 97) % 5 = 1 then zrefs G 1 3 (fun k => if k < 3 then some (B + (j + 1 + k)) else none)
  else zro G 32 (L j)
/-- a cell that is a row of 32 -/
def zir (j : Nat) : Prop := ¬ (j = 0 ∨ j = 1 ∨ j = 2 ∨ j = 3 ∨ j = 4 ∨ j = 24 ∨ j = 87 ∨ j = 96 ∨ j = 177 ∨ j = 181 ∨ j = 9 ∨ j = 25 ∨ j = 40 ∨ j = 55 ∨ j = 70 ∨ j = 10 ∨ j = 26 ∨ j = 41 ∨ j = 56 ∨ j = 71 ∨ j = 17 ∨ j = 33 ∨ j = 48 ∨ j = 63 ∨ j = 78) ∧ ¬ (97 ≤ j ∧ j < 177 ∧ (j - 97) % 5 < 2) ∧ j < 186
def zsys (G : zG) (B : Nat) (kd n t zz : Int) (ch : Int32) (md tc : Int) (tg pt : Nat → Int) (L : Nat → Int → Int) (w0 : zW) : zW :=
  fun q => if B ≤ q ∧ q < B + 186 then some (zlay G B kd n t zz ch md tc tg pt L (q - B)) else w0 q
section ZSy
variable {G : zG} {B : Nat} {kd n t zz : Int} {ch : Int32} {md tc : Int} {tg pt : Nat → Int} {L : Nat → Int → Int} {w0 : zW}
theorem zsys_at {j : Nat} {e : va_E} (hj : j < 186) (h : zlay G B kd n t zz ch md tc tg pt L j = e) : zsys G B kd n t zz ch md tc tg pt L w0 (B + j) = some e := by
  unfold zsys
  rw [if_pos (by omega), show B + j - B = j by omega, h]
theorem zlay_row {j : Nat} (h : zir j) : zlay G B kd n t zz ch md tc tg pt L j = zro G 32 (L j) := by
  obtain ⟨h1, h2, h3⟩ := h
  unfold zlay
  rw [if_neg (by omega), if_neg (by omega), if_neg (by omega), if_neg (by omega), if_neg (by omega), if_neg (by omega), if_neg (by omega), if_neg (by omega), if_neg (by omega), if_neg (by omega), if_neg (by omega), if_neg (by omega), if_neg (by omega), if_neg (by omega)]
theorem zsys_row {j : Nat} (h : zir j) : zsys G B kd n t zz ch md tc tg pt L w0 (B + j) = some (zro G 32 (L j)) := zsys_at h.2.2 (zlay_row h)
def zlu (L : Nat → Int → Int) (k : Nat) (g : Int → Int) : Nat → Int → Int := fun j => if j = k then g else L j
theorem zlu_s {L : Nat → Int → Int} {k : Nat} {g : Int → Int} : zlu L k g k = g := if_pos rfl
theorem zlu_n {L : Nat → Int → Int} {k j : Nat} {g : Int → Int} (h : j ≠ k) : zlu L k g j = L j := if_neg h
theorem zlu_lu {L : Nat → Int → Int} {k : Nat} {g g' : Int → Int} : zlu (zlu L k g) k g' = zlu L k g' := by
  funext j
  unfold zlu
  by_cases h : j = k
  · rw [if_pos h, if_pos h]
  · rw [if_neg h, if_neg h, if_neg h]
theorem zlay_lu {j k : Nat} {g : Int → Int} (h : j ≠ k) : zlay G B kd n t zz ch md tc tg pt (zlu L k g) j = zlay G B kd n t zz ch md tc tg pt L j := by
  unfold zlay
  rw [zlu_n h]
/-- one cell is another: the world is the flat one of the other numbers -/
theorem zsys_set {kd' n' t' zz' : Int} {ch' : Int32} {md' tc' : Int} {tg' pt' : Nat → Int} {L' : Nat → Int → Int} {j : Nat} {e : va_E} (hj : j < 186) (he : zlay G B kd' n' t' zz' ch' md' tc' tg' pt' L' j = e)
    (ho : ∀ i, i < 186 → i ≠ j → zlay G B kd' n' t' zz' ch' md' tc' tg' pt' L' i = zlay G B kd n t zz ch md tc tg pt L i) :
    zset (zsys G B kd n t zz ch md tc tg pt L w0) (B + j) e = zsys G B kd' n' t' zz' ch' md' tc' tg' pt' L' w0 := by
  funext q
  unfold zset
  by_cases h1 : q = B + j
  · rw [if_pos h1, h1, zsys_at hj he]
  · rw [if_neg h1]
    unfold zsys
    by_cases h2 : B ≤ q ∧ q < B + 186
    · rw [if_pos h2, if_pos h2, ho (q - B) (by omega) (by omega)]
    · rw [if_neg h2, if_neg h2]
theorem zsys_lu {j : Nat} {g : Int → Int} (h : zir j) : zset (zsys G B kd n t zz ch md tc tg pt L w0) (B + j) (zro G 32 g) = zsys G B kd n t zz ch md tc tg pt (zlu L j g) w0 :=
  zsys_set h.2.2 (by rw [zlay_row h, zlu_s]) (fun i _ hi => zlay_lu hi)
theorem zsys_ch {ch' : Int32} : zset (zsys G B kd n t zz ch md tc tg pt L w0) (B + 3) (zobj cChance [.int ch']) = zsys G B kd n t zz ch' md tc tg pt L w0 :=
  zsys_set (by decide) rfl (fun i _ hi => by
    unfold zlay
    by_cases h : i = 3
    · exact absurd h hi
    · simp only [if_neg h])
theorem zsys_kr {md' tc' : Int} {e : va_E} (he : e = zobj cKeyRing [.int (Int32.ofInt md'), .int (Int32.ofInt tc'), .ref (B + 5), .ref (B + 6), .ref (B + 7), .ref (B + 8), .ref (B + 9), .ref (B + 24), .ref (B + 85), .ref (B + 86)]) : zset (zsys G B kd n t zz ch md tc tg pt L w0) (B + 4) e = zsys G B kd n t zz ch md' tc' tg pt L w0 := by
  subst he
  exact zsys_set (by decide) rfl (fun i _ hi => by
    unfold zlay
    by_cases h : i = 4
    · exact absurd h hi
    · simp only [if_neg h])
theorem zlay_swk {j : Nat} (h : j = 9 ∨ j = 25 ∨ j = 40 ∨ j = 55 ∨ j = 70) : zlay G B kd n t zz ch md tc tg pt L j = zobj cSwitchKey [.int (Int32.ofInt (tg j)), .ref (B + (j + 1)), .ref (B + (j + 8))] := by
  rcases h with rfl | rfl | rfl | rfl | rfl <;> rfl
theorem zlay_swr {j : Nat} (h : j = 10 ∨ j = 26 ∨ j = 41 ∨ j = 56 ∨ j = 71 ∨ j = 17 ∨ j = 33 ∨ j = 48 ∨ j = 63 ∨ j = 78) : zlay G B kd n t zz ch md tc tg pt L j = zrefs G 1 6 (fun k => if k < 6 then some (B + (j + 1 + k)) else none) := by
  rcases h with rfl | rfl | rfl | rfl | rfl | rfl | rfl | rfl | rfl | rfl <;> rfl
theorem zlay_cip {c : Nat} (h : c < 16) : zlay G B kd n t zz ch md tc tg pt L (97 + 5 * c) = zobj cCipher [.int (Int32.ofInt (pt (97 + 5 * c))), .ref (B + (97 + 5 * c + 1))] := by
  unfold zlay
  rw [if_neg (by omega), if_neg (by omega), if_neg (by omega), if_neg (by omega), if_neg (by omega), if_neg (by omega), if_neg (by omega), if_neg (by omega), if_neg (by omega), if_neg (by omega), if_neg (by omega), if_neg (by omega), if_pos (by omega)]
theorem zlay_cir {c : Nat} (h : c < 16) : zlay G B kd n t zz ch md tc tg pt L (97 + 5 * c + 1) = zrefs G 1 3 (fun k => if k < 3 then some (B + (97 + 5 * c + 1 + 1 + k)) else none) := by
  unfold zlay
  rw [if_neg (by omega), if_neg (by omega), if_neg (by omega), if_neg (by omega), if_neg (by omega), if_neg (by omega), if_neg (by omega), if_neg (by omega), if_neg (by omega), if_neg (by omega), if_neg (by omega), if_neg (by omega), if_neg (by omega), if_pos (by omega)]
def zpu (f : Nat → Int) (k : Nat) (v : Int) : Nat → Int := fun j => if j = k then v else f j
theorem zsys_pt {c : Nat} {v : Int} {e : va_E} (h : c < 16) (he : e = zobj cCipher [.int (Int32.ofInt v), .ref (B + (97 + 5 * c + 1))]) : zset (zsys G B kd n t zz ch md tc tg pt L w0) (B + (97 + 5 * c)) e = zsys G B kd n t zz ch md tc tg (zpu pt (97 + 5 * c) v) L w0 := by
  subst he
  refine zsys_set (by omega) ?_ (fun i _ hi => ?_)
  · rw [zlay_cip h]
    unfold zpu
    rw [if_pos rfl]
  · unfold zlay
    rw [show zpu pt (97 + 5 * c) v i = pt i from if_neg hi]
theorem zsys_tg {j : Nat} {v : Int} {e : va_E} (h : j = 9 ∨ j = 25 ∨ j = 40 ∨ j = 55 ∨ j = 70) (he : e = zobj cSwitchKey [.int (Int32.ofInt v), .ref (B + (j + 1)), .ref (B + (j + 8))]) : zset (zsys G B kd n t zz ch md tc tg pt L w0) (B + j) e = zsys G B kd n t zz ch md tc (zpu tg j v) pt L w0 := by
  subst he
  refine zsys_set (by omega) ?_ (fun i _ hi => ?_)
  · rw [zlay_swk h]
    unfold zpu
    rw [if_pos rfl]
  · unfold zlay
    rw [show zpu tg j v i = tg i from if_neg hi]
theorem zsys_r : zsys G B kd n t zz ch md tc tg pt L w0 (B + 1) = some (zobj cRing [.int (Int32.ofInt kd), .int (Int32.ofInt n), .int (Int32.ofInt t), .int (Int32.ofInt zz), .ref (B + 2)]) := zsys_at (by decide) rfl
theorem zsys_c : zsys G B kd n t zz ch md tc tg pt L w0 (B + 3) = some (zobj cChance [.int ch]) := zsys_at (by decide) rfl
theorem zsys_k : zsys G B kd n t zz ch md tc tg pt L w0 (B + 4) = some (zobj cKeyRing [.int (Int32.ofInt md), .int (Int32.ofInt tc), .ref (B + 5), .ref (B + 6), .ref (B + 7), .ref (B + 8), .ref (B + 9), .ref (B + 24), .ref (B + 85), .ref (B + 86)]) := zsys_at (by decide) rfl
theorem zsys_x : zsys G B kd n t zz ch md tc tg pt L w0 (B + 0) = some (zobj cX [.ref (B + 1), .ref (B + 3), .ref (B + 4), .ref (B + 87), .ref (B + 96), .ref (B + 177), .ref (B + 181)]) := zsys_at (by decide) rfl
theorem zsys_x0 : zsys G B kd n t zz ch md tc tg pt L w0 B = some (zobj cX [.ref (B + 1), .ref (B + 3), .ref (B + 4), .ref (B + 87), .ref (B + 96), .ref (B + 177), .ref (B + 181)]) := zsys_x
end ZSy
theorem zir_5 : zir 5 := by unfold zir; omega
theorem zir_6 : zir 6 := by unfold zir; omega
theorem zir_7 : zir 7 := by unfold zir; omega
theorem zir_8 : zir 8 := by unfold zir; omega
theorem zir_85 : zir 85 := by unfold zir; omega
theorem zir_86 : zir 86 := by unfold zir; omega
theorem zir_p {p : Nat} (h : p < 8) : zir (88 + p) := by unfold zir; omega
theorem zir_s {p : Nat} (h : p < 3) : zir (178 + p) := by unfold zir; omega
theorem zir_w {p : Nat} (h : p < 4) : zir (182 + p) := by unfold zir; omega
theorem zir_c {c k : Nat} (h : c < 16) (hk : k < 3) : zir (97 + 5 * c + 1 + 1 + k) := by unfold zir; omega
theorem zir_b {j k : Nat} (h : j = 9 ∨ j = 25 ∨ j = 40 ∨ j = 55 ∨ j = 70) (hk : k < 6) : zir (j + 1 + 1 + k) := by unfold zir; omega
theorem zir_m {j k : Nat} (h : j = 9 ∨ j = 25 ∨ j = 40 ∨ j = 55 ∨ j = 70) (hk : k < 6) : zir (j + 8 + 1 + k) := by unfold zir; omega
