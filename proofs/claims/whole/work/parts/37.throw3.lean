/-! the three classes that RingCipher throws -/
def zUp : List String := ["java/lang/RuntimeException", "java/lang/Exception"]
def zS13 : ByteArray := ⟨#[0x2a, 0x2b, 0xb7, 0x00, 0x0d, 0xb1]⟩
theorem zS13_0 : decode zS13 0 = .ok (.aload_n 0, 1) := by decide +kernel
theorem zS13_1 : decode zS13 1 = .ok (.aload_n 1, 1) := by decide +kernel
theorem zS13_2 : decode zS13 2 = .ok (.invokespecial 13, 3) := by decide +kernel
theorem zS13_5 : decode zS13 5 = .ok (.return_, 1) := by decide +kernel
abbrev zIAE : String := "java/lang/IllegalArgumentException"
abbrev zISE : String := "java/lang/IllegalStateException"
abbrev zNSE : String := "java/util/NoSuchElementException"
theorem zthA : ∀ a ∈ Bundle.ownAtomsX "RingCipher" 56 zIAE 7 Bundle.six zUp, zin a ∨ zIsR a := by unfold zIsR; decide +kernel
theorem zthA_1 : zin (.classLink "RingCipher" 52 zIAE) := by decide +kernel
theorem zthA_2 : zin (.initialized zIAE) := by decide +kernel
theorem zthA_3 : Bundle.fit zIAE = true := by decide +kernel
theorem zthS : ∀ a ∈ Bundle.ownAtomsX "RingCipher" 96 zISE 7 Bundle.six zUp, zin a ∨ zIsR a := by unfold zIsR; decide +kernel
theorem zthS_1 : zin (.classLink "RingCipher" 92 zISE) := by decide +kernel
theorem zthS_2 : zin (.initialized zISE) := by decide +kernel
theorem zthS_3 : Bundle.fit zISE = true := by decide +kernel
theorem zthN : ∀ a ∈ Bundle.ownAtomsX "RingCipher" 247 zNSE 13 zS13 zUp, zin a ∨ zIsR a := by unfold zIsR; decide +kernel
theorem zthN_1 : zin (.classLink "RingCipher" 243 zNSE) := by decide +kernel
theorem zthN_2 : zin (.initialized zNSE) := by decide +kernel
theorem zthN_3 : Bundle.fit zNSE = true := by decide +kernel
theorem zthU : ∀ n ∈ zUp, Bundle.fit n = true := by decide +kernel
section ZT3
variable {G : zG} {M : zM} {K : zK} {R : Room} {kc ks sz pc : Nat} {lo : List (Nat × Value)} {st : List Value} {w : zW}
theorem V_throwA {tx : String} {si n : Nat} (d0 : decode M.2.1 pc = .ok (.new 52, 3)) (d3 : decode M.2.1 (pc + 3) = .ok (.dup, 1)) (d4 : (decode M.2.1 (pc + 4) = .ok (.ldc si, 2) ∧ n = 2) ∨ (decode M.2.1 (pc + 4) = .ok (.ldc_w si, 3) ∧ n = 3))
    (d6 : decode M.2.1 (pc + 4 + n) = .ok (.invokespecial 56, 3)) (d9 : decode M.2.1 (pc + 4 + n + 3) = .ok (.athrow, 1)) (hown : M.1.cls = "RingCipher") (hs : (si, tx) ∈ zStr) (hh : M.2.2.2.2 = [])
    (hf : 6 ≤ R.frames) (hlo : (st.map fun v => v.category).sum + 82 ≤ R.locals) (hc : kc + 1 ≤ R.cells) (hsl : ks + 6 ≤ R.slots) (hk : kc + 1 ≤ K.2.1 ∧ ks + 6 ≤ K.2.2) (hK : K.1 (.inr zIAE) w (sz + 1)) : V G M K R kc ks sz pc lo st w :=
  V_throw (names := zUp) d0 d3 d4 d6 d9 hown hs Bundle.six_0 Bundle.six_1 Bundle.six_2 Bundle.six_5 zthA_3 zthU (by rw [hown]; exact zthA_1) zthA_2 (by rw [hown]; exact zthA) hh (by show 2 + 3 < _; omega) (by show _ + (13 * (2 + 1) + 43) ≤ _; omega) hc hsl hk hK
theorem V_throwS {tx : String} {si n : Nat} (d0 : decode M.2.1 pc = .ok (.new 92, 3)) (d3 : decode M.2.1 (pc + 3) = .ok (.dup, 1)) (d4 : (decode M.2.1 (pc + 4) = .ok (.ldc si, 2) ∧ n = 2) ∨ (decode M.2.1 (pc + 4) = .ok (.ldc_w si, 3) ∧ n = 3))
    (d6 : decode M.2.1 (pc + 4 + n) = .ok (.invokespecial 96, 3)) (d9 : decode M.2.1 (pc + 4 + n + 3) = .ok (.athrow, 1)) (hown : M.1.cls = "RingCipher") (hs : (si, tx) ∈ zStr) (hh : M.2.2.2.2 = [])
    (hf : 6 ≤ R.frames) (hlo : (st.map fun v => v.category).sum + 82 ≤ R.locals) (hc : kc + 1 ≤ R.cells) (hsl : ks + 6 ≤ R.slots) (hk : kc + 1 ≤ K.2.1 ∧ ks + 6 ≤ K.2.2) (hK : K.1 (.inr zISE) w (sz + 1)) : V G M K R kc ks sz pc lo st w :=
  V_throw (names := zUp) d0 d3 d4 d6 d9 hown hs Bundle.six_0 Bundle.six_1 Bundle.six_2 Bundle.six_5 zthS_3 zthU (by rw [hown]; exact zthS_1) zthS_2 (by rw [hown]; exact zthS) hh (by show 2 + 3 < _; omega) (by show _ + (13 * (2 + 1) + 43) ≤ _; omega) hc hsl hk hK
theorem V_throwN {tx : String} {si n : Nat} (d0 : decode M.2.1 pc = .ok (.new 243, 3)) (d3 : decode M.2.1 (pc + 3) = .ok (.dup, 1)) (d4 : (decode M.2.1 (pc + 4) = .ok (.ldc si, 2) ∧ n = 2) ∨ (decode M.2.1 (pc + 4) = .ok (.ldc_w si, 3) ∧ n = 3))
    (d6 : decode M.2.1 (pc + 4 + n) = .ok (.invokespecial 247, 3)) (d9 : decode M.2.1 (pc + 4 + n + 3) = .ok (.athrow, 1)) (hown : M.1.cls = "RingCipher") (hs : (si, tx) ∈ zStr) (hh : M.2.2.2.2 = [])
    (hf : 6 ≤ R.frames) (hlo : (st.map fun v => v.category).sum + 82 ≤ R.locals) (hc : kc + 1 ≤ R.cells) (hsl : ks + 6 ≤ R.slots) (hk : kc + 1 ≤ K.2.1 ∧ ks + 6 ≤ K.2.2) (hK : K.1 (.inr zNSE) w (sz + 1)) : V G M K R kc ks sz pc lo st w :=
  V_throw (names := zUp) d0 d3 d4 d6 d9 hown hs zS13_0 zS13_1 zS13_2 zS13_5 zthN_3 zthU (by rw [hown]; exact zthN_1) zthN_2 (by rw [hown]; exact zthN) hh (by show 2 + 3 < _; omega) (by show _ + (13 * (2 + 1) + 43) ≤ _; omega) hc hsl hk hK
end ZT3
