/-! batch of the reference: what it does to the rows -/
def zqBe (nn b : Nat) (i : Int) (j : Nat) : Nat := ((if b = 1 then (2 * i + 1) * (j : Int) else (2 * (j : Int) + 1) * (2 * (nn : Int) - 1) * i) % (2 * (nn : Int))).toNat
def zqBs (nn p b : Nat) (t z : Int) (R : Nat → Int → Int) (i : Int) (m : Nat) : Int := zqbs t z (fun j => R 7 (32 * (p : Int) + j)) (zqBe nn b i) m
def zqBF (nn p b : Nat) (t z iv : Int) (R : Nat → Int → Int) (i : Int) : Int := if b = 1 then zqBs nn p b t z R i nn else zqBs nn p b t z R i nn * iv % t
def zqBx (nn p b : Nat) (t z iv : Int) (R : Nat → Int → Int) : Nat → Int → Int := zlu R 16 (zif nn (zqBF nn p b t z iv R) (R 16))
def zqBa (nn p b : Nat) (t z iv : Int) (R : Nat → Int → Int) : Nat → Int → Int := zlu (zqBx nn p b t z iv R) 7 (zsf (32 * (p : Int)) nn (zqBF nn p b t z iv R) (R 7))
/-! batch, on both sides -/
section ZBA
variable {kd n t zz md tc : Int} {tg pt : Nat → Int} {L R : Nat → Int → Int} {nn : Nat}
/-- what the class writes -/
def zcB (nn p b : Nat) (t : Int) (L : Nat → Int → Int) (x : Int) : Int := if b = 1 then zes (L (88 + p)) (L 2) (fun j => (2 * x + 1) * (j : Int) % (2 * (nn : Int))) nn % t else zes (L (88 + p)) (L 2) (fun j => (2 * (nn : Int) - 1) * (2 * (j : Int) + 1) * x % (2 * (nn : Int))) nn % t * zpm t nn (t - 2).toNat % t
theorem zI_bF (h : zI kd n t zz md tc tg pt L R nn) {p b : Nat} (hp : p < 8) {x : Int} : zqBF nn p b t zz (zpm t nn (t - 2).toNat) R x = zcB nn p b t L x := by
  have hn := zI_n32 h
  have h8 := zI_nn h
  have hnn := zI_n h
  have m0 : ∀ y : Int, 0 ≤ y % (2 * (nn : Int)) ∧ y % (2 * (nn : Int)) < 2 * n := fun y => by
    rw [hnn]
    exact ⟨Int.emod_nonneg _ (by omega), Int.emod_lt_of_pos _ (by omega)⟩
  unfold zqBF zcB zqBs
  by_cases hb : b = 1
  · rw [if_pos hb, if_pos hb]
    refine zqbs_e nn (fun j hj => ⟨zI_pl h p hp j (by omega) (by omega), ?_⟩)
    unfold zqBe
    rw [if_pos hb]
    exact zI_pw h _ (m0 _).1 (m0 _).2
  · rw [if_neg hb, if_neg hb]
    congr 2
    refine zqbs_e nn (fun j hj => ⟨zI_pl h p hp j (by omega) (by omega), ?_⟩)
    unfold zqBe
    rw [if_neg hb, Int.mul_comm (2 * (j : Int) + 1)]
    exact zI_pw h _ (m0 _).1 (m0 _).2
theorem zI_batch (h : zI kd n t zz md tc tg pt L R nn) {p b : Nat} (hp : p < 8) :
    (∀ j : Nat, j < nn → 0 ≤ L (88 + p) j ∧ L (88 + p) j ≤ 1000) ∧ (∀ j : Int, 0 ≤ j → j < 2 * nn → 0 ≤ L 2 j ∧ L 2 j ≤ 1000) ∧
    zCy nn (88 + p) (182 + 0) (zlu L (182 + 0) (zif nn (zcB nn p b t L) (L (182 + 0)))) (88 + p) 0 = zqBa nn p b t zz (zpm t nn (t - 2).toNat) R 7 (32 * (p : Int)) ∧
    zI kd n t zz md tc tg pt (zCy nn (88 + p) (182 + 0) (zlu L (182 + 0) (zif nn (zcB nn p b t L) (L (182 + 0))))) (zqBa nn p b t zz (zpm t nn (t - 2).toNat) R) nn := by
  have hn := zI_n32 h
  have h8 := zI_nn h
  have hnn := zI_n h
  have ht := zI_tb h
  have a7 : zqBa nn p b t zz (zpm t nn (t - 2).toNat) R 7 = zsf (32 * (p : Int)) nn (zqBF nn p b t zz (zpm t nn (t - 2).toNat) R) (R 7) := zlu_s
  have aL : ∀ i : Int, 0 ≤ i → i < 32 → zCy nn (88 + p) (182 + 0) (zlu L (182 + 0) (zif nn (zcB nn p b t L) (L (182 + 0)))) (88 + p) i = zqBa nn p b t zz (zpm t nn (t - 2).toNat) R 7 (32 * (p : Int) + i) := fun i i0 i1 => by
    rw [a7]
    by_cases hi : i < nn
    · rw [zCy_at i0 hi, zlu_s, zif_l ⟨i0, hi⟩, zsf_l (by omega), show 32 * (p : Int) + i - 32 * (p : Int) = i by omega, zI_bF h hp]
    · unfold zCy
      rw [zlu_s, zif_r (by omega), zsf_r (by omega), zlu_n (by omega)]
      exact zI_pl h p hp i i0 i1
  refine ⟨fun j hj => ?_, fun j j0 j1 => ?_, ?_, zI_plain h hp (fun j hj hp => ?_) (fun j hj hp => ?_) aL (fun j hj => ?_) (fun i i0 i1 => ?_)⟩
  · rw [zI_pl h p hp j (by omega) (by omega)]
    exact zI_pb' h _ (by omega) (by omega)
  · rw [zI_pw h j j0 (by omega)]
    have := zpm_b (t := t) (b := zz) (by omega) j.toNat
    exact ⟨this.1, by omega⟩
  · have := aL 0 (by decide) (by decide)
    rw [Int.add_zero] at this
    exact this
  · unfold zsc at hj
    rw [zCy_o hp, zlu_n (by omega)]
  · unfold zqBa zqBx
    rw [zlu_n hp, zlu_n (by omega)]
  · rw [a7, zsf_r (by omega)]
  · rw [a7]
    by_cases hi : i < nn
    · rw [zsf_l (by omega)]
      unfold zqBF
      split
      · exact zqbs_b (by omega) nn
      · exact ⟨Int.emod_nonneg _ (by omega), Int.emod_lt_of_pos _ (by omega)⟩
    · rw [zsf_r (by omega)]
      exact zI_pb h _ (by omega) (by omega)
end ZBA
