/-! the law: its script, its world -/
section ZLW
variable {G : zG} {M : zM} {K : zK} {R : Room} {kc ks sz pc : Nat} {lo : List (Nat × Value)} {st : List Value} {w : zW}
theorem zsx_b (G : zG) (i : Nat) : -2147483648 ≤ zsx G i ∧ zsx G i < 2147483648 := ⟨Int32.le_toInt _, Int32.toInt_lt _⟩
theorem V_sld {i : Int} {j : Nat} (d : decode M.2.1 pc = .ok (.iaload, 1)) (hj : i = (j : Int)) (hi : j < G.2.2.2 100001) (hL : G.2.2.2 100001 ≤ 2560) (k : V G M K R kc ks sz (pc + 1) lo (.int (Int32.ofInt (zsx G j)) :: st) w) : V G M K R kc ks sz pc lo (.int (Int32.ofInt i) :: .ref (G.2.2.2 100000) :: st) w :=
  fun p l e s m args below meth c F ls H locs hl hw hS => va_ti F.1 F.2.1 F.kn.2.2.2.2.2.2.2 hS (z32_in (by omega) (by omega)) (by rw [z32_clamp (by omega) (by omega), hj, Int.toNat_natCast]) d (k p l e s m args below meth c F ls H locs hl hw hS)
theorem V_slen (d : decode M.2.1 pc = .ok (.arraylength, 1)) (k : V G M K R kc ks sz (pc + 1) lo (.int (Int32.ofInt ((G.2.2.2 100001 : Nat) : Int)) :: st) w) : V G M K R kc ks sz pc lo (.ref (G.2.2.2 100000) :: st) w :=
  fun p l e s m args below meth c F ls H locs hl hw hS => va_tlen F.1 F.2.1 F.kn.2.2.2.2.2.2.2 hS (show Int32.ofNat _ = Int32.ofInt _ from by apply Int32.toBitVec_inj.mp; show BitVec.ofNat 32 _ = BitVec.ofInt 32 _; rw [BitVec.ofInt_natCast]) d (k p l e s m args below meth c F ls H locs hl hw hS)
end ZLW
theorem zand15 (z : Int) : Int32.ofInt z &&& Int32.ofInt 15 = Int32.ofInt (z % 16) := by
  apply Int32.toBitVec_inj.mp
  apply BitVec.eq_of_toNat_eq
  rw [Int32.toBitVec_and, BitVec.toNat_and]
  show (BitVec.ofInt 32 z).toNat &&& (BitVec.ofInt 32 15).toNat = (BitVec.ofInt 32 (z % 16)).toNat
  rw [BitVec.toNat_ofInt, BitVec.toNat_ofInt, BitVec.toNat_ofInt]
  have e3 : ((15 : Int) % ((2 ^ 32 : Nat) : Int)).toNat = 2 ^ 4 - 1 := by decide
  rw [e3, Nat.and_two_pow_sub_one_eq_mod]
  omega
/-- the world of the law: the class's cells, the reference's, the cell for answers -/
def zWl (G : zG) (B : Nat) (kd n t zz : Int) (ch : Int32) (md tc : Int) (tg pt : Nat → Int) (L : Nat → Int → Int) (th kd2 n2 t2 tc2 : Int) (ch2 : Int32) (md2 : Int) (R : Nat → Int → Int) (o : Int → Int) (w : zW) : zW :=
  zsys G B kd n t zz ch md tc tg pt L (zqs G (B + 186) th kd2 n2 t2 tc2 ch2 md2 R (zset w (B + 204) (zro G 1 o)))
section ZWL
variable {G : zG} {B : Nat} {kd n t zz : Int} {ch : Int32} {md tc : Int} {tg pt : Nat → Int} {L : Nat → Int → Int} {th kd2 n2 t2 tc2 : Int} {ch2 : Int32} {md2 : Int} {R : Nat → Int → Int} {o o' : Int → Int} {w : zW}
theorem zsys_n {q : Nat} {w0 : zW} (h : q < B ∨ B + 186 ≤ q) : zsys G B kd n t zz ch md tc tg pt L w0 q = w0 q := if_neg (by omega)
theorem zqs_n {C q : Nat} {w0 : zW} (h : q < C ∨ C + 18 ≤ q) : zqs G C th kd2 n2 t2 tc2 ch2 md2 R w0 q = w0 q := by
  unfold zqs
  rw [if_neg (by omega), if_neg (by omega)]
theorem zWl_D : zWl G B kd n t zz ch md tc tg pt L th kd2 n2 t2 tc2 ch2 md2 R o w (B + 204) = some (zro G 1 o) := by
  unfold zWl
  rw [zsys_n (by omega), zqs_n (by omega), zset_s]
theorem zWl_q : zWl G B kd n t zz ch md tc tg pt L th kd2 n2 t2 tc2 ch2 md2 R o w = zqs G (B + 186) th kd2 n2 t2 tc2 ch2 md2 R (zsys G B kd n t zz ch md tc tg pt L (zset w (B + 204) (zro G 1 o))) := by
  funext q
  unfold zWl
  by_cases h1 : B ≤ q ∧ q < B + 186
  · rw [zqs_n (by omega)]
    unfold zsys
    rw [if_pos h1, if_pos h1]
  · rw [zsys_n (by omega)]
    by_cases h2 : B + 186 ≤ q ∧ q < B + 204
    · unfold zqs
      by_cases h3 : q = B + 186
      · rw [if_pos h3, if_pos h3]
      · rw [if_neg h3, if_neg h3, if_pos (by omega), if_pos (by omega)]
    · rw [zqs_n (by omega), zqs_n (by omega), zsys_n (by omega)]
theorem zWl_out : zset (zWl G B kd n t zz ch md tc tg pt L th kd2 n2 t2 tc2 ch2 md2 R o w) (B + 204) (zro G 1 o') = zWl G B kd n t zz ch md tc tg pt L th kd2 n2 t2 tc2 ch2 md2 R o' w := by
  funext q
  by_cases h1 : q = B + 204
  · rw [h1, zset_s, zWl_D]
  · rw [zset_n h1]
    unfold zWl
    by_cases h2 : B ≤ q ∧ q < B + 186
    · unfold zsys
      rw [if_pos h2, if_pos h2]
    · rw [zsys_n (by omega), zsys_n (by omega)]
      by_cases h3 : B + 186 ≤ q ∧ q < B + 204
      · unfold zqs
        by_cases h4 : q = B + 186
        · rw [if_pos h4, if_pos h4]
        · rw [if_neg h4, if_neg h4, if_pos (by omega), if_pos (by omega)]
      · rw [zqs_n (by omega), zqs_n (by omega), zset_n h1, zset_n h1]
end ZWL
/-- the law answers true -/
def zKl : zK := (fun o _ _ => match o with
  | .inl v => v = some (.int (Int32.ofInt 1))
  | .inr _ => False, 601024, 7293033)
def zloc (G : zG) (B i : Nat) : List (Nat × Value) := [(0, .ref (G.2.2.2 100000)), (1, .ref B), (2, .ref (B + 186)), (3, .ref (B + 204)), (4, .int (Int32.ofInt (i : Int)))]
/-- the law's loop at i: from every pair that is alike -/
def zQl (G : zG) (B : Nat) (w : zW) (i : Nat) : Prop := ∀ (kc ks sz : Nat) (kd n t zz : Int) (ch : Int32) (md tc : Int) (tg pt : Nat → Int) (L R : Nat → Int → Int) (nn : Nat) (th : Int) (o : Int → Int), kc ≤ 1000 + i → ks ≤ 100000 + 6 * i → zI kd n t zz md tc tg pt L R nn →
  V G M_law zKl room_1 kc ks sz 23 (zloc G B i) [] (zWl G B kd n t zz ch md tc tg pt L th kd n t tc ch md R o w)
