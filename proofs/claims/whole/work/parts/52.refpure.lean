/-! pairs, find, turned of the reference -/
theorem zprq {a b : Int} (ha : 0 ≤ a ∧ a < 268435399) (hb : 0 ≤ b ∧ b < 268435399) : 0 ≤ a * b ∧ a * b < 9223372036854775808 := by
  have h1 := Int.mul_nonneg ha.1 hb.1
  have h2 : a * b ≤ 268435399 * 268435399 := Int.mul_le_mul (by omega) (by omega) hb.1 (by decide)
  omega
theorem zqm (a : Int) : 0 ≤ a % 268435399 ∧ a % 268435399 < 268435399 := by omega
theorem zrE_b (c : Int32) (i : Int) : -3 ≤ zrE c i ∧ zrE c i ≤ 3 := by
  unfold zrE zer
  have h1 := zlo_b (zup (zlcN c (i.toNat + 1)))
  have h2 := zhi_b (zup (zlcN c (i.toNat + 1)))
  omega
theorem zrU_b (c : Int32) (i : Int) : 0 ≤ zrU c i ∧ zrU c i < 268435399 := zqm _
theorem zrT_b (c : Int32) (i : Int) : -1 ≤ zrT c i ∧ zrT c i ≤ 1 := by
  unfold zrT
  omega
/-- pairs: the four rows of one round -/
def zqR (nn : Nat) (c : Int32) (X : Nat → Int → Int) : Nat → Int → Int :=
  zlu (zlu (zlu X 16 (zif nn (zrU c) (X 16))) 17 (zif nn (zrE (zlcN c (2 * nn))) (X 17))) 14 (zif nn (fun i => zrd nn (zif nn (zrU c) (X 16)) (X 1) i nn % 268435399) (X 14))
def zqF (k : Nat) (X : Nat → Int → Int) (i : Int) : Int := (-(X 14 i + X 17 i) + (32 ^ k % 268435399 * (X 13 i % 268435399)) % 268435399) % 268435399
def zqW (nn a k i : Nat) (X : Nat → Int → Int) : Nat → Int → Int :=
  zlu (zlu X 4 (zsf (((a : Int) * 6 + k) * 32) i (zqF k X) (X 4))) 5 (zsf (((a : Int) * 6 + k) * 32) i (X 16) (X 5))
def zqP (nn : Nat) (ch : Int32) (a : Nat) (L : Nat → Int → Int) : Nat → Nat → Int → Int
  | 0 => L
  | k + 1 => zqW nn a k nn (zqR nn (zSwc nn ch k) (zqP nn ch a L k))
theorem zqP_o {nn a j : Nat} {ch : Int32} {L : Nat → Int → Int} (h : j ≠ 4 ∧ j ≠ 5 ∧ j ≠ 14 ∧ j ≠ 16 ∧ j ≠ 17) : ∀ k, zqP nn ch a L k j = L j
  | 0 => rfl
  | k + 1 => by
    show zqW nn a k nn (zqR nn (zSwc nn ch k) (zqP nn ch a L k)) j = _
    unfold zqW
    rw [zlu_n (by omega), zlu_n (by omega)]
    unfold zqR
    rw [zlu_n (by omega), zlu_n (by omega), zlu_n (by omega)]
    exact zqP_o h k
def zqf (tr : Int → Int) (tu g : Int) : Nat → Nat → Nat
  | 0, _ => 0
  | f + 1, k => if (k : Int) ≤ tu then (if tr k = g then k else zqf tr tu g f (k + 1)) else 0
def zqv (n g : Int) (f : Int → Int) (i : Nat) : Int := if g * i % (2 * n) < n then f i else -(f i)
def zqt (n g : Int) (f b : Int → Int) : Nat → Int → Int
  | 0 => b
  | i + 1 => zu (zqt n g f b i) (zsp n g i) (zqv n g f i)
/-- scaled: the quotient by trunc, mended -/
theorem zsc1 {t v : Int} (h : 0 ≤ v.tmod 268435399) : t * v.tdiv 268435399 + (2 * t * v.tmod 268435399 + 268435399) / 536870798 = zts t v := by
  have e1 := zof1 h
  have e2 : v.tdiv 268435399 = v / 268435399 := by
    have h1 := Int.tmod_add_mul_tdiv v 268435399
    have h2 := Int.emod_add_mul_ediv v 268435399
    omega
  unfold zts
  rw [e1, e2]
theorem zsc2 {t v : Int} (h : v.tmod 268435399 < 0) : t * (v.tdiv 268435399 - 1) + (2 * t * (v.tmod 268435399 + 268435399) + 268435399) / 536870798 = zts t v := by
  have e1 := zof2 h
  have e2 : v.tdiv 268435399 - 1 = v / 268435399 := by
    have h1 := Int.tmod_add_mul_tdiv v 268435399
    have h2 := Int.emod_add_mul_ediv v 268435399
    omega
  unfold zts
  rw [e1, e2]
def zqT (c k : Nat) (L : Nat → Int → Int) (i : Int) : Int := if (k : Int) < L 8 c then L 9 ((3 * (c : Int) + k) * 32 + i) else 0
def zqTk (nn c k d : Nat) (L : Nat → Int → Int) : Nat → Int → Int := zlu L d (zif nn (zqT c k L) (L d))
def zqPu (nn c k a : Nat) (L : Nat → Int → Int) : Nat → Int → Int := zlu L 9 (zsf ((3 * (c : Int) + k) * 32) nn (fun i => L a i % 268435399) (L 9))
def zqCe (nn a : Nat) (L : Nat → Int → Int) : Nat → Int → Int := zlu L a (zif nn (fun i => zct (L a i)) (L a))
def zqRd (nn a b d : Nat) (L : Nat → Int → Int) : Nat → Int → Int := zlu L d (zif nn (fun i => zrd nn (L a) (L b) i nn % 268435399) (L d))
section ZQu
variable {G : zG} {C : Nat} {th kd n t tu : Int} {ch : Int32} {ke : Int} {L : Nat → Int → Int} {w0 : zW} {g : Int → Int}
theorem zqs_u4 : zset (zqs G C th kd n t tu ch ke L w0) (C + 4) (zro G 960 g) = zqs G C th kd n t tu ch ke (zlu L 4 g) w0 := zqs_u (by decide) rfl
theorem zqs_a4 : zqs G C th kd n t tu ch ke L w0 (C + 4) = some (zro G 960 (L 4)) := zqs_at (by decide)
theorem zqs_u5 : zset (zqs G C th kd n t tu ch ke L w0) (C + 5) (zro G 960 g) = zqs G C th kd n t tu ch ke (zlu L 5 g) w0 := zqs_u (by decide) rfl
theorem zqs_a5 : zqs G C th kd n t tu ch ke L w0 (C + 5) = some (zro G 960 (L 5)) := zqs_at (by decide)
theorem zqs_u6 : zset (zqs G C th kd n t tu ch ke L w0) (C + 6) (zio G 5 g) = zqs G C th kd n t tu ch ke (zlu L 6 g) w0 := zqs_u (by decide) rfl
theorem zqs_a6 : zqs G C th kd n t tu ch ke L w0 (C + 6) = some (zio G 5 (L 6)) := zqs_at (by decide)
theorem zqs_u7 : zset (zqs G C th kd n t tu ch ke L w0) (C + 7) (zio G 256 g) = zqs G C th kd n t tu ch ke (zlu L 7 g) w0 := zqs_u (by decide) rfl
theorem zqs_a7 : zqs G C th kd n t tu ch ke L w0 (C + 7) = some (zio G 256 (L 7)) := zqs_at (by decide)
theorem zqs_u8 : zset (zqs G C th kd n t tu ch ke L w0) (C + 8) (zio G 16 g) = zqs G C th kd n t tu ch ke (zlu L 8 g) w0 := zqs_u (by decide) rfl
theorem zqs_a8 : zqs G C th kd n t tu ch ke L w0 (C + 8) = some (zio G 16 (L 8)) := zqs_at (by decide)
theorem zqs_u9 : zset (zqs G C th kd n t tu ch ke L w0) (C + 9) (zro G 1536 g) = zqs G C th kd n t tu ch ke (zlu L 9 g) w0 := zqs_u (by decide) rfl
theorem zqs_a9 : zqs G C th kd n t tu ch ke L w0 (C + 9) = some (zro G 1536 (L 9)) := zqs_at (by decide)
theorem zqs_u15 : zset (zqs G C th kd n t tu ch ke L w0) (C + 15) (zro G 96 g) = zqs G C th kd n t tu ch ke (zlu L 15 g) w0 := zqs_u (by decide) rfl
theorem zqs_a15 : zqs G C th kd n t tu ch ke L w0 (C + 15) = some (zro G 96 (L 15)) := zqs_at (by decide)
end ZQu
