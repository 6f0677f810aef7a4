/-! the rules with numbers as whole numbers: an int is Int32.ofInt z, a long Int64.ofInt z; a row is a function of whole numbers -/
theorem z32 {z : Int} (h : -2147483648 ≤ z ∧ z < 2147483648) : (Int32.ofInt z).toInt = z := Int32.toInt_ofInt_of_le (by omega) (by omega)
theorem z64 {z : Int} (h : -9223372036854775808 ≤ z ∧ z < 9223372036854775808) : (Int64.ofInt z).toInt = z := Int64.toInt_ofInt_of_le (by omega) (by omega)
theorem z32_eq {a b : Int} (ha : -2147483648 ≤ a ∧ a < 2147483648) (hb : -2147483648 ≤ b ∧ b < 2147483648) : Int32.ofInt a = Int32.ofInt b ↔ a = b := by
  constructor
  · intro h
    have := congrArg Int32.toInt h
    rwa [z32 ha, z32 hb] at this
  · intro h
    rw [h]
theorem z32_le {a b : Int} (ha : -2147483648 ≤ a ∧ a < 2147483648) (hb : -2147483648 ≤ b ∧ b < 2147483648) : Int32.ofInt a ≤ Int32.ofInt b ↔ a ≤ b := by
  rw [Int32.le_iff_toInt_le, z32 ha, z32 hb]
theorem z32_lt {a b : Int} (ha : -2147483648 ≤ a ∧ a < 2147483648) (hb : -2147483648 ≤ b ∧ b < 2147483648) : Int32.ofInt a < Int32.ofInt b ↔ a < b := by
  rw [Int32.lt_iff_toInt_lt, z32 ha, z32 hb]
theorem z64_eq {a b : Int} (ha : -9223372036854775808 ≤ a ∧ a < 9223372036854775808) (hb : -9223372036854775808 ≤ b ∧ b < 9223372036854775808) : Int64.ofInt a = Int64.ofInt b ↔ a = b := by
  constructor
  · intro h
    have := congrArg Int64.toInt h
    rwa [z64 ha, z64 hb] at this
  · intro h
    rw [h]
theorem z64_lt {a b : Int} (ha : -9223372036854775808 ≤ a ∧ a < 9223372036854775808) (hb : -9223372036854775808 ≤ b ∧ b < 9223372036854775808) : Int64.ofInt a < Int64.ofInt b ↔ a < b := by
  rw [Int64.lt_iff_toInt_lt, z64 ha, z64 hb]
theorem z32_0 : Int32.ofInt 0 = 0 := by decide
theorem z32_clamp {z : Int} (h0 : 0 ≤ z) (h1 : z < 2147483648) : (Int32.ofInt z).toNatClampNeg = z.toNat := Int32.toNatClampNeg_ofInt_of_le (by omega) (by omega)
theorem z32_in {z : Int} {n : Nat} (h : 0 ≤ z ∧ z < n) (hn : n < 2147483648) : vp_in (Int32.ofInt z) n := by
  rw [vp_in_iff, z32 (by omega)]
  exact h
/-- a row of longs by a function of whole numbers -/
abbrev zro (G : zG) (n : Nat) (g : Int → Int) : va_E := zrow G n (fun j => Int64.ofInt (g j))
abbrev zio (G : zG) (n : Nat) (g : Int → Int) : va_E := zints G n (fun j => Int32.ofInt (g j))
def zu (g : Int → Int) (z v : Int) : Int → Int := fun j => if j = z then v else g j
theorem zu_s {g : Int → Int} {z v : Int} : zu g z v z = v := if_pos rfl
theorem zu_n {g : Int → Int} {z v j : Int} (h : j ≠ z) : zu g z v j = g j := if_neg h
theorem zro_set {G : zG} {n : Nat} {g : Int → Int} {z v : Int} (h : 0 ≤ z) : zrow G n (vp_updL (fun j => Int64.ofInt (g j)) z.toNat (Int64.ofInt v)) = zro G n (zu g z v) := by
  have : vp_updL (fun j => Int64.ofInt (g j)) z.toNat (Int64.ofInt v) = fun j : Nat => Int64.ofInt (zu g z v j) := by
    funext j
    unfold vp_updL zu
    by_cases hj : j = z.toNat
    · rw [if_pos hj, if_pos (by omega)]
    · rw [if_neg hj, if_neg (by omega)]
  rw [this]
theorem zio_set {G : zG} {n : Nat} {g : Int → Int} {z v : Int} (h : 0 ≤ z) : zints G n (va_up (fun j => Int32.ofInt (g j)) z.toNat (Int32.ofInt v)) = zio G n (zu g z v) := by
  have : va_up (fun j => Int32.ofInt (g j)) z.toNat (Int32.ofInt v) = fun j : Nat => Int32.ofInt (zu g z v j) := by
    funext j
    unfold va_up zu
    by_cases hj : j = z.toNat
    · rw [if_pos hj, if_pos (by omega)]
    · rw [if_neg hj, if_neg (by omega)]
  rw [this]
theorem zset_zset {w : zW} {a : Nat} {e e' : va_E} : zset (zset w a e) a e' = zset w a e' := by
  funext q
  unfold zset
  by_cases h : q = a
  · rw [if_pos h, if_pos h]
  · rw [if_neg h, if_neg h, if_neg h]
theorem zset_comm {w : zW} {a b : Nat} {e e' : va_E} (h : a ≠ b) : zset (zset w a e) b e' = zset (zset w b e') a e := by
  funext q
  unfold zset
  by_cases h1 : q = b
  · rw [if_pos h1, if_neg (by omega), if_pos h1]
  · by_cases h2 : q = a
    · rw [if_neg h1, if_pos h2, if_pos h2]
    · rw [if_neg h1, if_neg h2, if_neg h2, if_neg h1]
theorem zset_self {w : zW} {a : Nat} {e : va_E} (h : w a = some e) : zset w a e = w := by
  funext q
  unfold zset
  by_cases h1 : q = a
  · rw [if_pos h1, h1, h]
  · rw [if_neg h1]
def zcm (a b : Int) : Int := if b < a then 1 else if a = b then 0 else -1
section ZJ
variable {G : zG} {M : zM} {K : zK} {R : Room} {kc ks sz pc : Nat} {lo : List (Nat × Value)} {st : List Value} {w : zW}
theorem J_bipush {n : Int} (d : decode M.2.1 pc = .ok (.bipush n, 2)) (hn : -128 ≤ n ∧ n < 128) (k : V G M K R kc ks sz (pc + 2) lo (.int (Int32.ofInt n) :: st) w) : V G M K R kc ks sz pc lo st w :=
  V_bipush d (by rw [show (Int8.ofInt n).toInt32 = Int32.ofInt n from Int32.toInt_inj.mp (by rw [Int8.toInt_toInt32, Int8.toInt_ofInt_of_le (by omega) (by omega), z32 (by omega)])]; exact k)
theorem J_sipush {n : Int} (d : decode M.2.1 pc = .ok (.sipush n, 3)) (hn : -32768 ≤ n ∧ n < 32768) (k : V G M K R kc ks sz (pc + 3) lo (.int (Int32.ofInt n) :: st) w) : V G M K R kc ks sz pc lo st w :=
  V_sipush d (by rw [show (Int16.ofInt n).toInt32 = Int32.ofInt n from Int32.toInt_inj.mp (by rw [Int16.toInt_toInt32, Int16.toInt_ofInt_of_le (by omega) (by omega), z32 (by omega)])]; exact k)
theorem J_lconst {n : Fin 2} {z : Int} (d : decode M.2.1 pc = .ok (.lconst n, 1)) (hz : ((n : Nat) : Int) = z) (k : V G M K R kc ks sz (pc + 1) lo (.long (Int64.ofInt z) :: st) w) : V G M K R kc ks sz pc lo st w :=
  V_lconst d (by rw [← Int64.ofInt_eq_ofNat, hz]; exact k)
theorem J_iinc {i : Nat} {n a : Int} (d : decode M.2.1 pc = .ok (.iinc i n, 3)) (h : zlk lo i = some (.int (Int32.ofInt a))) (hn : i < M.2.2.1) (k : V G M K R kc ks sz (pc + 3) (zst1 lo i (.int (Int32.ofInt (a + n)))) st w) : V G M K R kc ks sz pc lo st w :=
  V_iinc d h hn (by rw [← Int32.ofInt_add]; exact k)
theorem J_iadd {a b : Int} (d : decode M.2.1 pc = .ok (.iadd, 1)) (k : V G M K R kc ks sz (pc + 1) lo (.int (Int32.ofInt (a + b)) :: st) w) : V G M K R kc ks sz pc lo (.int (Int32.ofInt b) :: .int (Int32.ofInt a) :: st) w := V_iadd d (by rw [← Int32.ofInt_add]; exact k)
theorem J_isub {a b : Int} (d : decode M.2.1 pc = .ok (.isub, 1)) (k : V G M K R kc ks sz (pc + 1) lo (.int (Int32.ofInt (a - b)) :: st) w) : V G M K R kc ks sz pc lo (.int (Int32.ofInt b) :: .int (Int32.ofInt a) :: st) w := V_isub d (by rw [← Int32.ofInt_sub]; exact k)
theorem J_imul {a b : Int} (d : decode M.2.1 pc = .ok (.imul, 1)) (k : V G M K R kc ks sz (pc + 1) lo (.int (Int32.ofInt (a * b)) :: st) w) : V G M K R kc ks sz pc lo (.int (Int32.ofInt b) :: .int (Int32.ofInt a) :: st) w := V_imul d (by rw [← Int32.ofInt_mul]; exact k)
theorem J_ineg {a : Int} (d : decode M.2.1 pc = .ok (.ineg, 1)) (k : V G M K R kc ks sz (pc + 1) lo (.int (Int32.ofInt (-a)) :: st) w) : V G M K R kc ks sz pc lo (.int (Int32.ofInt a) :: st) w := V_ineg d (by rw [← Int32.ofInt_neg]; exact k)
theorem J_ladd {a b : Int} (d : decode M.2.1 pc = .ok (.ladd, 1)) (k : V G M K R kc ks sz (pc + 1) lo (.long (Int64.ofInt (a + b)) :: st) w) : V G M K R kc ks sz pc lo (.long (Int64.ofInt b) :: .long (Int64.ofInt a) :: st) w := V_ladd d (by rw [← Int64.ofInt_add]; exact k)
theorem J_lsub {a b : Int} (d : decode M.2.1 pc = .ok (.lsub, 1)) (k : V G M K R kc ks sz (pc + 1) lo (.long (Int64.ofInt (a - b)) :: st) w) : V G M K R kc ks sz pc lo (.long (Int64.ofInt b) :: .long (Int64.ofInt a) :: st) w := V_lsub d (by rw [← Int64.ofInt_sub]; exact k)
theorem J_lmul {a b : Int} (d : decode M.2.1 pc = .ok (.lmul, 1)) (k : V G M K R kc ks sz (pc + 1) lo (.long (Int64.ofInt (a * b)) :: st) w) : V G M K R kc ks sz pc lo (.long (Int64.ofInt b) :: .long (Int64.ofInt a) :: st) w := V_lmul d (by rw [← Int64.ofInt_mul]; exact k)
theorem J_lneg {a : Int} (d : decode M.2.1 pc = .ok (.lneg, 1)) (k : V G M K R kc ks sz (pc + 1) lo (.long (Int64.ofInt (-a)) :: st) w) : V G M K R kc ks sz pc lo (.long (Int64.ofInt a) :: st) w := V_lneg d (by rw [← Int64.ofInt_neg]; exact k)
theorem z32_mod {a b : Int} (ha : -2147483648 ≤ a ∧ a < 2147483648) (hb : -2147483648 ≤ b ∧ b < 2147483648) (h : -2147483648 ≤ a.tmod b ∧ a.tmod b < 2147483648) : Int32.ofInt a - Int32.ofInt a / Int32.ofInt b * Int32.ofInt b = Int32.ofInt (a.tmod b) := by
  rw [irem_eq_mod]
  exact Int32.toInt_inj.mp (by rw [Int32.toInt_mod, z32 ha, z32 hb, z32 h])
theorem zlrem (x y : Int64) : x - x / y * y = x % y := by
  apply Int64.toInt_inj.mp
  have h1 := Int64.le_toInt (x % y)
  have h2 := Int64.toInt_lt (x % y)
  rw [Int64.toInt_sub, Int64.toInt_mul, Int64.toInt_div, Int.bmod_mul_bmod, Int.sub_bmod_bmod, Int.mul_comm (x.toInt.tdiv y.toInt), ← Int.tmod_def, ← Int64.toInt_mod]
  exact Int.bmod_eq_of_le_mul_two (by omega) (by omega)
theorem z64_mod {a b : Int} (ha : -9223372036854775808 ≤ a ∧ a < 9223372036854775808) (hb : -9223372036854775808 ≤ b ∧ b < 9223372036854775808) (h : -9223372036854775808 ≤ a.tmod b ∧ a.tmod b < 9223372036854775808) : Int64.ofInt a - Int64.ofInt a / Int64.ofInt b * Int64.ofInt b = Int64.ofInt (a.tmod b) := by
  rw [zlrem]
  exact Int64.toInt_inj.mp (by rw [Int64.toInt_mod, z64 ha, z64 hb, z64 h])
theorem ztmod_b {a b : Int} (hb : 0 < b) : -b < a.tmod b ∧ a.tmod b < b := tmod_bounds hb
theorem J_irem {a b : Int} (d : decode M.2.1 pc = .ok (.irem, 1)) (ha : -2147483648 ≤ a ∧ a < 2147483648) (hb : 0 < b ∧ b < 2147483648) (k : V G M K R kc ks sz (pc + 1) lo (.int (Int32.ofInt (a.tmod b)) :: st) w) : V G M K R kc ks sz pc lo (.int (Int32.ofInt b) :: .int (Int32.ofInt a) :: st) w := by
  have hm := ztmod_b (a := a) hb.1
  refine V_irem d (fun h => ?_) ?_
  · rw [← z32_0, z32_eq (by omega) (by omega)] at h
    omega
  · rw [z32_mod ha (by omega) (by omega)]
    exact k
/-- of a number that isn't below nothing -/
theorem J_iremP {a b : Int} (d : decode M.2.1 pc = .ok (.irem, 1)) (ha : 0 ≤ a ∧ a < 2147483648) (hb : 0 < b ∧ b < 2147483648) (k : V G M K R kc ks sz (pc + 1) lo (.int (Int32.ofInt (a % b)) :: st) w) : V G M K R kc ks sz pc lo (.int (Int32.ofInt b) :: .int (Int32.ofInt a) :: st) w :=
  J_irem d (by omega) hb (by rw [Int.tmod_eq_emod_of_nonneg ha.1]; exact k)
theorem J_lrem {a b : Int} (d : decode M.2.1 pc = .ok (.lrem, 1)) (ha : -9223372036854775808 ≤ a ∧ a < 9223372036854775808) (hb : 0 < b ∧ b < 9223372036854775808) (k : V G M K R kc ks sz (pc + 1) lo (.long (Int64.ofInt (a.tmod b)) :: st) w) : V G M K R kc ks sz pc lo (.long (Int64.ofInt b) :: .long (Int64.ofInt a) :: st) w := by
  have hm := ztmod_b (a := a) hb.1
  refine V_lrem d (fun h => ?_) ?_
  · rw [show (0 : Int64) = Int64.ofInt 0 from by decide, z64_eq (by omega) (by omega)] at h
    omega
  · rw [z64_mod ha (by omega) (by omega)]
    exact k
theorem J_lremP {a b : Int} (d : decode M.2.1 pc = .ok (.lrem, 1)) (ha : 0 ≤ a ∧ a < 9223372036854775808) (hb : 0 < b ∧ b < 9223372036854775808) (k : V G M K R kc ks sz (pc + 1) lo (.long (Int64.ofInt (a % b)) :: st) w) : V G M K R kc ks sz pc lo (.long (Int64.ofInt b) :: .long (Int64.ofInt a) :: st) w :=
  J_lrem d (by omega) hb (by rw [Int.tmod_eq_emod_of_nonneg ha.1]; exact k)
theorem J_ldiv {a b : Int} (d : decode M.2.1 pc = .ok (.ldiv, 1)) (ha : -9223372036854775808 < a ∧ a < 9223372036854775808) (hb : 0 < b ∧ b < 9223372036854775808) (k : V G M K R kc ks sz (pc + 1) lo (.long (Int64.ofInt (a.tdiv b)) :: st) w) : V G M K R kc ks sz pc lo (.long (Int64.ofInt b) :: .long (Int64.ofInt a) :: st) w := by
  refine V_ldiv d (fun h => ?_) ?_
  · rw [show (0 : Int64) = Int64.ofInt 0 from by decide, z64_eq (by omega) (by omega)] at h
    omega
  · rw [show Int64.ofInt a / Int64.ofInt b = Int64.ofInt (a.tdiv b) from (Int64.ofInt_tdiv (by show -9223372036854775808 ≤ a; omega) (by show a ≤ 9223372036854775807; omega) (by show -9223372036854775808 ≤ b; omega) (by show b ≤ 9223372036854775807; omega)).symm]
    exact k
theorem J_ldivP {a b : Int} (d : decode M.2.1 pc = .ok (.ldiv, 1)) (ha : 0 ≤ a ∧ a < 9223372036854775808) (hb : 0 < b ∧ b < 9223372036854775808) (k : V G M K R kc ks sz (pc + 1) lo (.long (Int64.ofInt (a / b)) :: st) w) : V G M K R kc ks sz pc lo (.long (Int64.ofInt b) :: .long (Int64.ofInt a) :: st) w :=
  J_ldiv d (by omega) hb (by rw [Int.tdiv_eq_ediv_of_nonneg ha.1]; exact k)
theorem J_i2l {a : Int} (d : decode M.2.1 pc = .ok (.i2l, 1)) (ha : -2147483648 ≤ a ∧ a < 2147483648) (k : V G M K R kc ks sz (pc + 1) lo (.long (Int64.ofInt a) :: st) w) : V G M K R kc ks sz pc lo (.int (Int32.ofInt a) :: st) w :=
  V_i2l d (by rw [show (Int32.ofInt a).toInt64 = Int64.ofInt a from Int64.toInt_inj.mp (by rw [Int32.toInt_toInt64, z32 ha, z64 (by omega)])]; exact k)
theorem J_l2i {a : Int} (d : decode M.2.1 pc = .ok (.l2i, 1)) (k : V G M K R kc ks sz (pc + 1) lo (.int (Int32.ofInt a) :: st) w) : V G M K R kc ks sz pc lo (.long (Int64.ofInt a) :: st) w := V_l2i d (by rw [Int64.toInt32_ofInt]; exact k)
theorem J_lcmp {a b : Int} (d : decode M.2.1 pc = .ok (.lcmp, 1)) (ha : -9223372036854775808 ≤ a ∧ a < 9223372036854775808) (hb : -9223372036854775808 ≤ b ∧ b < 9223372036854775808) (k : V G M K R kc ks sz (pc + 1) lo (.int (Int32.ofInt (zcm a b)) :: st) w) : V G M K R kc ks sz pc lo (.long (Int64.ofInt b) :: .long (Int64.ofInt a) :: st) w := by
  refine V_lcmp d ?_
  have e : lg_cmp (Int64.ofInt a) (Int64.ofInt b) = Int32.ofInt (zcm a b) := by
    unfold lg_cmp zcm
    by_cases h1 : b < a
    · rw [if_pos h1, if_pos ((z64_lt hb ha).mpr h1)]
      decide
    · rw [if_neg h1, if_neg (fun q => h1 ((z64_lt hb ha).mp q))]
      by_cases h2 : a = b
      · rw [if_pos h2, if_pos (by rw [h2])]
        decide
      · rw [if_neg h2, if_neg (fun q => h2 ((z64_eq ha hb).mp q))]
        decide
  rw [e]
  exact k
theorem J_laload {a n : Nat} {g : Int → Int} {z : Int} (d : decode M.2.1 pc = .ok (.laload, 1)) (h : w a = some (zro G n g)) (hz : 0 ≤ z ∧ z < n) (hn : n < 2147483648) (k : V G M K R kc ks sz (pc + 1) lo (.long (Int64.ofInt (g z)) :: st) w) : V G M K R kc ks sz pc lo (.int (Int32.ofInt z) :: .ref a :: st) w :=
  V_laload d h (z32_in hz hn) (by rw [z32_clamp hz.1 (by omega), Int.toNat_of_nonneg hz.1]; exact k)
theorem J_iaload {a n : Nat} {g : Int → Int} {z : Int} (d : decode M.2.1 pc = .ok (.iaload, 1)) (h : w a = some (zio G n g)) (hz : 0 ≤ z ∧ z < n) (hn : n < 2147483648) (k : V G M K R kc ks sz (pc + 1) lo (.int (Int32.ofInt (g z)) :: st) w) : V G M K R kc ks sz pc lo (.int (Int32.ofInt z) :: .ref a :: st) w :=
  V_iaload d h (z32_in hz hn) (by rw [z32_clamp hz.1 (by omega), Int.toNat_of_nonneg hz.1]; exact k)
theorem J_lastore {a n : Nat} {g : Int → Int} {z v : Int} (d : decode M.2.1 pc = .ok (.lastore, 1)) (h : w a = some (zro G n g)) (hz : 0 ≤ z ∧ z < n) (hn : n < 2147483648) (k : V G M K R kc ks sz (pc + 1) lo st (zset w a (zro G n (zu g z v)))) : V G M K R kc ks sz pc lo (.long (Int64.ofInt v) :: .int (Int32.ofInt z) :: .ref a :: st) w :=
  V_lastore d h (z32_in hz hn) (by rw [z32_clamp hz.1 (by omega), zro_set hz.1]; exact k)
theorem J_iastore {a n : Nat} {g : Int → Int} {z v : Int} (d : decode M.2.1 pc = .ok (.iastore, 1)) (h : w a = some (zio G n g)) (hz : 0 ≤ z ∧ z < n) (hn : n < 2147483648) (k : V G M K R kc ks sz (pc + 1) lo st (zset w a (zio G n (zu g z v)))) : V G M K R kc ks sz pc lo (.int (Int32.ofInt v) :: .int (Int32.ofInt z) :: .ref a :: st) w :=
  V_iastore d h (z32_in hz hn) (by rw [z32_clamp hz.1 (by omega), zio_set hz.1]; exact k)
theorem J_aaload {a n b ka : Nat} {f : Nat → Option Nat} {z : Int} {ty : FieldType} (d : decode M.2.1 pc = .ok (.aaload, 1)) (h : w a = some (zrefs G ka n f)) (ht : (zty G)[ka]? = some (G.2.1 ka, ty)) (href : ty.isReference = true) (hz : 0 ≤ z ∧ z < n) (hn : n < 2147483648) (hb : f z.toNat = some b) (k : V G M K R kc ks sz (pc + 1) lo (.ref b :: st) w) : V G M K R kc ks sz pc lo (.int (Int32.ofInt z) :: .ref a :: st) w :=
  V_aaload d h ht href (z32_in hz hn) (by rw [z32_clamp hz.1 (by omega)]; exact hb) k
theorem J_icmp_eq {a b off : Int} (tgt : Nat) (d : decode M.2.1 pc = .ok (.if_icmp .eq off, 3)) (ht : (pc : Int) + off = (tgt : Int)) (ha : -2147483648 ≤ a ∧ a < 2147483648) (hb : -2147483648 ≤ b ∧ b < 2147483648) (kt : a = b → V G M K R kc ks sz tgt lo st w) (kf : ¬ a = b → V G M K R kc ks sz (pc + 3) lo st w) : V G M K R kc ks sz pc lo (.int (Int32.ofInt b) :: .int (Int32.ofInt a) :: st) w :=
  V_icmp_eq tgt d ht (fun q => kt ((z32_eq ha hb).mp q)) (fun q => kf ((fun z => q ((z32_eq ha hb).mpr z))))
theorem J_if_eq {a off : Int} (tgt : Nat) (d : decode M.2.1 pc = .ok (.ifCond .eq off, 3)) (ht : (pc : Int) + off = (tgt : Int)) (ha : -2147483648 ≤ a ∧ a < 2147483648) (kt : a = 0 → V G M K R kc ks sz tgt lo st w) (kf : ¬ a = 0 → V G M K R kc ks sz (pc + 3) lo st w) : V G M K R kc ks sz pc lo (.int (Int32.ofInt a) :: st) w := by
  have hz : -2147483648 ≤ (0 : Int) ∧ (0 : Int) < 2147483648 := by decide
  refine V_if_eq tgt d ht (fun q => kt ?_) (fun q => kf ?_)
  · rw [← z32_0] at q
    exact (z32_eq ha hz).mp q
  · rw [← z32_0] at q
    exact (fun z => q ((z32_eq ha hz).mpr z))
theorem J_icmp_ne {a b off : Int} (tgt : Nat) (d : decode M.2.1 pc = .ok (.if_icmp .ne off, 3)) (ht : (pc : Int) + off = (tgt : Int)) (ha : -2147483648 ≤ a ∧ a < 2147483648) (hb : -2147483648 ≤ b ∧ b < 2147483648) (kt : ¬ a = b → V G M K R kc ks sz tgt lo st w) (kf : a = b → V G M K R kc ks sz (pc + 3) lo st w) : V G M K R kc ks sz pc lo (.int (Int32.ofInt b) :: .int (Int32.ofInt a) :: st) w :=
  V_icmp_ne tgt d ht (fun q => kt ((fun z => q ((z32_eq ha hb).mpr z)))) (fun q => kf ((z32_eq ha hb).mp q))
theorem J_if_ne {a off : Int} (tgt : Nat) (d : decode M.2.1 pc = .ok (.ifCond .ne off, 3)) (ht : (pc : Int) + off = (tgt : Int)) (ha : -2147483648 ≤ a ∧ a < 2147483648) (kt : ¬ a = 0 → V G M K R kc ks sz tgt lo st w) (kf : a = 0 → V G M K R kc ks sz (pc + 3) lo st w) : V G M K R kc ks sz pc lo (.int (Int32.ofInt a) :: st) w := by
  have hz : -2147483648 ≤ (0 : Int) ∧ (0 : Int) < 2147483648 := by decide
  refine V_if_ne tgt d ht (fun q => kt ?_) (fun q => kf ?_)
  · rw [← z32_0] at q
    exact (fun z => q ((z32_eq ha hz).mpr z))
  · rw [← z32_0] at q
    exact (z32_eq ha hz).mp q
theorem J_icmp_lt {a b off : Int} (tgt : Nat) (d : decode M.2.1 pc = .ok (.if_icmp .lt off, 3)) (ht : (pc : Int) + off = (tgt : Int)) (ha : -2147483648 ≤ a ∧ a < 2147483648) (hb : -2147483648 ≤ b ∧ b < 2147483648) (kt : a < b → V G M K R kc ks sz tgt lo st w) (kf : b ≤ a → V G M K R kc ks sz (pc + 3) lo st w) : V G M K R kc ks sz pc lo (.int (Int32.ofInt b) :: .int (Int32.ofInt a) :: st) w :=
  V_icmp_lt tgt d ht (fun q => kt ((z32_lt ha hb).mp q)) (fun q => kf ((Int.not_lt.mp fun z => q ((z32_lt ha hb).mpr z))))
theorem J_if_lt {a off : Int} (tgt : Nat) (d : decode M.2.1 pc = .ok (.ifCond .lt off, 3)) (ht : (pc : Int) + off = (tgt : Int)) (ha : -2147483648 ≤ a ∧ a < 2147483648) (kt : a < 0 → V G M K R kc ks sz tgt lo st w) (kf : 0 ≤ a → V G M K R kc ks sz (pc + 3) lo st w) : V G M K R kc ks sz pc lo (.int (Int32.ofInt a) :: st) w := by
  have hz : -2147483648 ≤ (0 : Int) ∧ (0 : Int) < 2147483648 := by decide
  refine V_if_lt tgt d ht (fun q => kt ?_) (fun q => kf ?_)
  · rw [← z32_0] at q
    exact (z32_lt ha hz).mp q
  · rw [← z32_0] at q
    exact (Int.not_lt.mp fun z => q ((z32_lt ha hz).mpr z))
theorem J_icmp_ge {a b off : Int} (tgt : Nat) (d : decode M.2.1 pc = .ok (.if_icmp .ge off, 3)) (ht : (pc : Int) + off = (tgt : Int)) (ha : -2147483648 ≤ a ∧ a < 2147483648) (hb : -2147483648 ≤ b ∧ b < 2147483648) (kt : b ≤ a → V G M K R kc ks sz tgt lo st w) (kf : a < b → V G M K R kc ks sz (pc + 3) lo st w) : V G M K R kc ks sz pc lo (.int (Int32.ofInt b) :: .int (Int32.ofInt a) :: st) w :=
  V_icmp_ge tgt d ht (fun q => kt ((z32_le hb ha).mp q)) (fun q => kf ((Int.not_le.mp fun z => q ((z32_le hb ha).mpr z))))
theorem J_if_ge {a off : Int} (tgt : Nat) (d : decode M.2.1 pc = .ok (.ifCond .ge off, 3)) (ht : (pc : Int) + off = (tgt : Int)) (ha : -2147483648 ≤ a ∧ a < 2147483648) (kt : 0 ≤ a → V G M K R kc ks sz tgt lo st w) (kf : a < 0 → V G M K R kc ks sz (pc + 3) lo st w) : V G M K R kc ks sz pc lo (.int (Int32.ofInt a) :: st) w := by
  have hz : -2147483648 ≤ (0 : Int) ∧ (0 : Int) < 2147483648 := by decide
  refine V_if_ge tgt d ht (fun q => kt ?_) (fun q => kf ?_)
  · rw [← z32_0] at q
    exact (z32_le hz ha).mp q
  · rw [← z32_0] at q
    exact (Int.not_le.mp fun z => q ((z32_le hz ha).mpr z))
theorem J_icmp_gt {a b off : Int} (tgt : Nat) (d : decode M.2.1 pc = .ok (.if_icmp .gt off, 3)) (ht : (pc : Int) + off = (tgt : Int)) (ha : -2147483648 ≤ a ∧ a < 2147483648) (hb : -2147483648 ≤ b ∧ b < 2147483648) (kt : b < a → V G M K R kc ks sz tgt lo st w) (kf : a ≤ b → V G M K R kc ks sz (pc + 3) lo st w) : V G M K R kc ks sz pc lo (.int (Int32.ofInt b) :: .int (Int32.ofInt a) :: st) w :=
  V_icmp_gt tgt d ht (fun q => kt ((z32_lt hb ha).mp q)) (fun q => kf ((Int.not_lt.mp fun z => q ((z32_lt hb ha).mpr z))))
theorem J_if_gt {a off : Int} (tgt : Nat) (d : decode M.2.1 pc = .ok (.ifCond .gt off, 3)) (ht : (pc : Int) + off = (tgt : Int)) (ha : -2147483648 ≤ a ∧ a < 2147483648) (kt : 0 < a → V G M K R kc ks sz tgt lo st w) (kf : a ≤ 0 → V G M K R kc ks sz (pc + 3) lo st w) : V G M K R kc ks sz pc lo (.int (Int32.ofInt a) :: st) w := by
  have hz : -2147483648 ≤ (0 : Int) ∧ (0 : Int) < 2147483648 := by decide
  refine V_if_gt tgt d ht (fun q => kt ?_) (fun q => kf ?_)
  · rw [← z32_0] at q
    exact (z32_lt hz ha).mp q
  · rw [← z32_0] at q
    exact (Int.not_lt.mp fun z => q ((z32_lt hz ha).mpr z))
theorem J_icmp_le {a b off : Int} (tgt : Nat) (d : decode M.2.1 pc = .ok (.if_icmp .le off, 3)) (ht : (pc : Int) + off = (tgt : Int)) (ha : -2147483648 ≤ a ∧ a < 2147483648) (hb : -2147483648 ≤ b ∧ b < 2147483648) (kt : a ≤ b → V G M K R kc ks sz tgt lo st w) (kf : b < a → V G M K R kc ks sz (pc + 3) lo st w) : V G M K R kc ks sz pc lo (.int (Int32.ofInt b) :: .int (Int32.ofInt a) :: st) w :=
  V_icmp_le tgt d ht (fun q => kt ((z32_le ha hb).mp q)) (fun q => kf ((Int.not_le.mp fun z => q ((z32_le ha hb).mpr z))))
theorem J_if_le {a off : Int} (tgt : Nat) (d : decode M.2.1 pc = .ok (.ifCond .le off, 3)) (ht : (pc : Int) + off = (tgt : Int)) (ha : -2147483648 ≤ a ∧ a < 2147483648) (kt : a ≤ 0 → V G M K R kc ks sz tgt lo st w) (kf : 0 < a → V G M K R kc ks sz (pc + 3) lo st w) : V G M K R kc ks sz pc lo (.int (Int32.ofInt a) :: st) w := by
  have hz : -2147483648 ≤ (0 : Int) ∧ (0 : Int) < 2147483648 := by decide
  refine V_if_le tgt d ht (fun q => kt ?_) (fun q => kf ?_)
  · rw [← z32_0] at q
    exact (z32_le ha hz).mp q
  · rw [← z32_0] at q
    exact (Int.not_le.mp fun z => q ((z32_le ha hz).mpr z))
end ZJ
section ZJ2
variable {G : zG} {M : zM} {K : zK} {R : Room} {kc ks sz pc : Nat} {lo : List (Nat × Value)} {st : List Value} {w : zW}
theorem J_ldc2 {idx : Nat} {z : Int} (d : decode M.2.1 pc = .ok (.ldc2_w idx, 3)) (hc : zin (.constantLong M.1.cls idx (Int64.ofInt z))) (k : V G M K R kc ks sz (pc + 3) lo (.long (Int64.ofInt z) :: st) w) : V G M K R kc ks sz pc lo st w := V_ldc2 d hc k
end ZJ2
