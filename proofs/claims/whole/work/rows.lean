section
-- ===== PART A: goes FIRST, ahead of the names: the tables' words, and 'selects' of the private methods out of them =====
/-- a private method of a class that the tables say can be made, by its rows of tables_1 -/
def lw_okq (q : MethodName × Nat) : Prop := (q.1.cls ≠ "java/lang/invoke/MethodHandle" ∧ q.1.cls ≠ "java/lang/invoke/VarHandle") ∧ Cond.instantiable q.1.cls q.2 ∈ tables_1 ∧ Cond.privateMethod q.1 ∈ tables_1 ∧ Cond.instanceMethod q.1 ∈ tables_1
theorem lw_p0 : lw_okq (⟨"RingCipher$Ring", "choose", "(I)V"⟩, 5) := ⟨⟨by decide +kernel, by decide +kernel⟩, List.mem_of_getElem? (i := 27) (by decide +kernel), List.mem_of_getElem? (i := 33) (by decide +kernel), List.mem_of_getElem? (i := 34) (by decide +kernel)⟩
theorem lw_p1 : lw_okq (⟨"RingCipher$Ring", "leastRoot", "()I"⟩, 5) := ⟨⟨by decide +kernel, by decide +kernel⟩, List.mem_of_getElem? (i := 27) (by decide +kernel), List.mem_of_getElem? (i := 41) (by decide +kernel), List.mem_of_getElem? (i := 42) (by decide +kernel)⟩
theorem lw_p2 : lw_okq (⟨"RingCipher$Ring", "powerModT", "(JI)J"⟩, 5) := ⟨⟨by decide +kernel, by decide +kernel⟩, List.mem_of_getElem? (i := 27) (by decide +kernel), List.mem_of_getElem? (i := 45) (by decide +kernel), List.mem_of_getElem? (i := 46) (by decide +kernel)⟩
theorem lw_p3 : lw_okq (⟨"RingCipher$KeyRing", "renew", "(LRingCipher$Ring;LRingCipher$Chance;)V"⟩, 10) := ⟨⟨by decide +kernel, by decide +kernel⟩, List.mem_of_getElem? (i := 81) (by decide +kernel), List.mem_of_getElem? (i := 192) (by decide +kernel), List.mem_of_getElem? (i := 193) (by decide +kernel)⟩
theorem lw_p4 : lw_okq (⟨"RingCipher$Chance", "fillTernary", "([JI)V"⟩, 1) := ⟨⟨by decide +kernel, by decide +kernel⟩, List.mem_of_getElem? (i := 71) (by decide +kernel), List.mem_of_getElem? (i := 196) (by decide +kernel), List.mem_of_getElem? (i := 197) (by decide +kernel)⟩
theorem lw_p5 : lw_okq (⟨"RingCipher$Chance", "draw", "()I"⟩, 1) := ⟨⟨by decide +kernel, by decide +kernel⟩, List.mem_of_getElem? (i := 71) (by decide +kernel), List.mem_of_getElem? (i := 200) (by decide +kernel), List.mem_of_getElem? (i := 201) (by decide +kernel)⟩
theorem lw_p6 : lw_okq (⟨"RingCipher$Ring", "addProduct", "([J[J[J)V"⟩, 5) := ⟨⟨by decide +kernel, by decide +kernel⟩, List.mem_of_getElem? (i := 27) (by decide +kernel), List.mem_of_getElem? (i := 209) (by decide +kernel), List.mem_of_getElem? (i := 210) (by decide +kernel)⟩
theorem lw_p7 : lw_okq (⟨"RingCipher$KeyRing", "makeMask", "(LRingCipher$Ring;LRingCipher$Chance;[J)V"⟩, 10) := ⟨⟨by decide +kernel, by decide +kernel⟩, List.mem_of_getElem? (i := 81) (by decide +kernel), List.mem_of_getElem? (i := 213) (by decide +kernel), List.mem_of_getElem? (i := 214) (by decide +kernel)⟩
theorem lw_p8 : lw_okq (⟨"RingCipher$Chance", "fillUniform", "([JI)V"⟩, 1) := ⟨⟨by decide +kernel, by decide +kernel⟩, List.mem_of_getElem? (i := 71) (by decide +kernel), List.mem_of_getElem? (i := 217) (by decide +kernel), List.mem_of_getElem? (i := 218) (by decide +kernel)⟩
theorem lw_p9 : lw_okq (⟨"RingCipher$Chance", "fillErrors", "([JI)V"⟩, 1) := ⟨⟨by decide +kernel, by decide +kernel⟩, List.mem_of_getElem? (i := 71) (by decide +kernel), List.mem_of_getElem? (i := 223) (by decide +kernel), List.mem_of_getElem? (i := 224) (by decide +kernel)⟩
theorem lw_p10 : lw_okq (⟨"RingCipher$KeyRing", "hideBody", "(LRingCipher$Ring;[J)V"⟩, 10) := ⟨⟨by decide +kernel, by decide +kernel⟩, List.mem_of_getElem? (i := 81) (by decide +kernel), List.mem_of_getElem? (i := 233) (by decide +kernel), List.mem_of_getElem? (i := 234) (by decide +kernel)⟩
theorem lw_p11 : lw_okq (⟨"RingCipher$KeyRing", "makeSwitch", "(LRingCipher$Ring;LRingCipher$Chance;LRingCipher$SwitchKey;[J)V"⟩, 10) := ⟨⟨by decide +kernel, by decide +kernel⟩, List.mem_of_getElem? (i := 81) (by decide +kernel), List.mem_of_getElem? (i := 241) (by decide +kernel), List.mem_of_getElem? (i := 242) (by decide +kernel)⟩
theorem lw_p12 : lw_okq (⟨"RingCipher$Ring", "addScaled", "([J[JJ)V"⟩, 5) := ⟨⟨by decide +kernel, by decide +kernel⟩, List.mem_of_getElem? (i := 27) (by decide +kernel), List.mem_of_getElem? (i := 245) (by decide +kernel), List.mem_of_getElem? (i := 246) (by decide +kernel)⟩
theorem lw_p13 : lw_okq (⟨"RingCipher", "emptyCiphers", "()V"⟩, 7) := ⟨⟨by decide +kernel, by decide +kernel⟩, List.mem_of_getElem? (i := 19) (by decide +kernel), List.mem_of_getElem? (i := 249) (by decide +kernel), List.mem_of_getElem? (i := 250) (by decide +kernel)⟩
theorem lw_p14 : lw_okq (⟨"RingCipher", "fullCiphers", "()I"⟩, 7) := ⟨⟨by decide +kernel, by decide +kernel⟩, List.mem_of_getElem? (i := 19) (by decide +kernel), List.mem_of_getElem? (i := 257) (by decide +kernel), List.mem_of_getElem? (i := 258) (by decide +kernel)⟩
theorem lw_p15 : lw_okq (⟨"RingCipher$Chance", "upperHalf", "()I"⟩, 1) := ⟨⟨by decide +kernel, by decide +kernel⟩, List.mem_of_getElem? (i := 71) (by decide +kernel), List.mem_of_getElem? (i := 261) (by decide +kernel), List.mem_of_getElem? (i := 262) (by decide +kernel)⟩
def lw_privs_1 : List (MethodName × Nat) := [(⟨"RingCipher$Ring", "choose", "(I)V"⟩, 5), (⟨"RingCipher$Ring", "leastRoot", "()I"⟩, 5), (⟨"RingCipher$Ring", "powerModT", "(JI)J"⟩, 5), (⟨"RingCipher$KeyRing", "renew", "(LRingCipher$Ring;LRingCipher$Chance;)V"⟩, 10), (⟨"RingCipher$Chance", "fillTernary", "([JI)V"⟩, 1), (⟨"RingCipher$Chance", "draw", "()I"⟩, 1), (⟨"RingCipher$Ring", "addProduct", "([J[J[J)V"⟩, 5), (⟨"RingCipher$KeyRing", "makeMask", "(LRingCipher$Ring;LRingCipher$Chance;[J)V"⟩, 10), (⟨"RingCipher$Chance", "fillUniform", "([JI)V"⟩, 1), (⟨"RingCipher$Chance", "fillErrors", "([JI)V"⟩, 1), (⟨"RingCipher$KeyRing", "hideBody", "(LRingCipher$Ring;[J)V"⟩, 10), (⟨"RingCipher$KeyRing", "makeSwitch", "(LRingCipher$Ring;LRingCipher$Chance;LRingCipher$SwitchKey;[J)V"⟩, 10), (⟨"RingCipher$Ring", "addScaled", "([J[JJ)V"⟩, 5), (⟨"RingCipher", "emptyCiphers", "()V"⟩, 7), (⟨"RingCipher", "fullCiphers", "()I"⟩, 7), (⟨"RingCipher$Chance", "upperHalf", "()I"⟩, 1)]
theorem lw_r1 : ∀ q ∈ lw_privs_1, lw_okq q := List.forall_mem_cons.mpr ⟨lw_p0, List.forall_mem_cons.mpr ⟨lw_p1, List.forall_mem_cons.mpr ⟨lw_p2, List.forall_mem_cons.mpr ⟨lw_p3, List.forall_mem_cons.mpr ⟨lw_p4, List.forall_mem_cons.mpr ⟨lw_p5, List.forall_mem_cons.mpr ⟨lw_p6, List.forall_mem_cons.mpr ⟨lw_p7, List.forall_mem_cons.mpr ⟨lw_p8, List.forall_mem_cons.mpr ⟨lw_p9, List.forall_mem_cons.mpr ⟨lw_p10, List.forall_mem_cons.mpr ⟨lw_p11, List.forall_mem_cons.mpr ⟨lw_p12, List.forall_mem_cons.mpr ⟨lw_p13, List.forall_mem_cons.mpr ⟨lw_p14, List.forall_mem_cons.mpr ⟨lw_p15, fun _ h => absurd h List.not_mem_nil⟩⟩⟩⟩⟩⟩⟩⟩⟩⟩⟩⟩⟩⟩⟩⟩
theorem lw_p16 : lw_okq (⟨"java/lang/Throwable", "fillInStackTrace", "(I)Ljava/lang/Throwable;"⟩, 6) := ⟨⟨by decide +kernel, by decide +kernel⟩, List.mem_of_getElem? (i := 312) (by decide +kernel), List.mem_of_getElem? (i := 310) (by decide +kernel), List.mem_of_getElem? (i := 311) (by decide +kernel)⟩
theorem lw_p17 : lw_okq (⟨"RingCipher$Chance", "restart", "(I)V"⟩, 1) := ⟨⟨by decide +kernel, by decide +kernel⟩, List.mem_of_getElem? (i := 71) (by decide +kernel), List.mem_of_getElem? (i := 343) (by decide +kernel), List.mem_of_getElem? (i := 344) (by decide +kernel)⟩
theorem lw_p18 : lw_okq (⟨"RingCipher$KeyRing", "forget", "()V"⟩, 10) := ⟨⟨by decide +kernel, by decide +kernel⟩, List.mem_of_getElem? (i := 81) (by decide +kernel), List.mem_of_getElem? (i := 347) (by decide +kernel), List.mem_of_getElem? (i := 348) (by decide +kernel)⟩
theorem lw_p19 : lw_okq (⟨"RingCipher$KeyRing", "placeOfTurn", "(I)I"⟩, 10) := ⟨⟨by decide +kernel, by decide +kernel⟩, List.mem_of_getElem? (i := 81) (by decide +kernel), List.mem_of_getElem? (i := 377) (by decide +kernel), List.mem_of_getElem? (i := 378) (by decide +kernel)⟩
theorem lw_p20 : lw_okq (⟨"RingCipher$KeyRing", "makeTurn", "(LRingCipher$Ring;LRingCipher$Chance;II)V"⟩, 10) := ⟨⟨by decide +kernel, by decide +kernel⟩, List.mem_of_getElem? (i := 81) (by decide +kernel), List.mem_of_getElem? (i := 382) (by decide +kernel), List.mem_of_getElem? (i := 383) (by decide +kernel)⟩
theorem lw_p21 : lw_okq (⟨"RingCipher$Ring", "substitute", "([J[JI)V"⟩, 5) := ⟨⟨by decide +kernel, by decide +kernel⟩, List.mem_of_getElem? (i := 27) (by decide +kernel), List.mem_of_getElem? (i := 386) (by decide +kernel), List.mem_of_getElem? (i := 387) (by decide +kernel)⟩
theorem lw_p22 : lw_okq (⟨"RingCipher", "plainAt", "(I)[J"⟩, 7) := ⟨⟨by decide +kernel, by decide +kernel⟩, List.mem_of_getElem? (i := 19) (by decide +kernel), List.mem_of_getElem? (i := 403) (by decide +kernel), List.mem_of_getElem? (i := 404) (by decide +kernel)⟩
theorem lw_p23 : lw_okq (⟨"RingCipher", "checkCoefficient", "(I)V"⟩, 7) := ⟨⟨by decide +kernel, by decide +kernel⟩, List.mem_of_getElem? (i := 19) (by decide +kernel), List.mem_of_getElem? (i := 423) (by decide +kernel), List.mem_of_getElem? (i := 424) (by decide +kernel)⟩
theorem lw_p24 : lw_okq (⟨"RingCipher$Ring", "evaluate", "([J[J)V"⟩, 5) := ⟨⟨by decide +kernel, by decide +kernel⟩, List.mem_of_getElem? (i := 27) (by decide +kernel), List.mem_of_getElem? (i := 445) (by decide +kernel), List.mem_of_getElem? (i := 446) (by decide +kernel)⟩
theorem lw_p25 : lw_okq (⟨"RingCipher$Ring", "interpolate", "([J[J)V"⟩, 5) := ⟨⟨by decide +kernel, by decide +kernel⟩, List.mem_of_getElem? (i := 27) (by decide +kernel), List.mem_of_getElem? (i := 449) (by decide +kernel), List.mem_of_getElem? (i := 450) (by decide +kernel)⟩
theorem lw_p26 : lw_okq (⟨"RingCipher", "placeAt", "(I)LRingCipher$Cipher;"⟩, 7) := ⟨⟨by decide +kernel, by decide +kernel⟩, List.mem_of_getElem? (i := 19) (by decide +kernel), List.mem_of_getElem? (i := 463) (by decide +kernel), List.mem_of_getElem? (i := 464) (by decide +kernel)⟩
theorem lw_p27 : lw_okq (⟨"RingCipher$Ring", "scale", "()J"⟩, 5) := ⟨⟨by decide +kernel, by decide +kernel⟩, List.mem_of_getElem? (i := 27) (by decide +kernel), List.mem_of_getElem? (i := 471) (by decide +kernel), List.mem_of_getElem? (i := 472) (by decide +kernel)⟩
theorem lw_p28 : lw_okq (⟨"RingCipher", "storeTwoParts", "(LRingCipher$Cipher;)I"⟩, 7) := ⟨⟨by decide +kernel, by decide +kernel⟩, List.mem_of_getElem? (i := 19) (by decide +kernel), List.mem_of_getElem? (i := 476) (by decide +kernel), List.mem_of_getElem? (i := 477) (by decide +kernel)⟩
theorem lw_p29 : lw_okq (⟨"RingCipher", "storeSums", "(LRingCipher$Cipher;I)V"⟩, 7) := ⟨⟨by decide +kernel, by decide +kernel⟩, List.mem_of_getElem? (i := 19) (by decide +kernel), List.mem_of_getElem? (i := 480) (by decide +kernel), List.mem_of_getElem? (i := 481) (by decide +kernel)⟩
theorem lw_p30 : lw_okq (⟨"RingCipher$Ring", "reduce", "([J[J)V"⟩, 5) := ⟨⟨by decide +kernel, by decide +kernel⟩, List.mem_of_getElem? (i := 27) (by decide +kernel), List.mem_of_getElem? (i := 484) (by decide +kernel), List.mem_of_getElem? (i := 485) (by decide +kernel)⟩
theorem lw_p31 : lw_okq (⟨"RingCipher", "phaseOf", "(LRingCipher$Cipher;)[J"⟩, 7) := ⟨⟨by decide +kernel, by decide +kernel⟩, List.mem_of_getElem? (i := 19) (by decide +kernel), List.mem_of_getElem? (i := 488) (by decide +kernel), List.mem_of_getElem? (i := 489) (by decide +kernel)⟩
def lw_privs_2 : List (MethodName × Nat) := [(⟨"java/lang/Throwable", "fillInStackTrace", "(I)Ljava/lang/Throwable;"⟩, 6), (⟨"RingCipher$Chance", "restart", "(I)V"⟩, 1), (⟨"RingCipher$KeyRing", "forget", "()V"⟩, 10), (⟨"RingCipher$KeyRing", "placeOfTurn", "(I)I"⟩, 10), (⟨"RingCipher$KeyRing", "makeTurn", "(LRingCipher$Ring;LRingCipher$Chance;II)V"⟩, 10), (⟨"RingCipher$Ring", "substitute", "([J[JI)V"⟩, 5), (⟨"RingCipher", "plainAt", "(I)[J"⟩, 7), (⟨"RingCipher", "checkCoefficient", "(I)V"⟩, 7), (⟨"RingCipher$Ring", "evaluate", "([J[J)V"⟩, 5), (⟨"RingCipher$Ring", "interpolate", "([J[J)V"⟩, 5), (⟨"RingCipher", "placeAt", "(I)LRingCipher$Cipher;"⟩, 7), (⟨"RingCipher$Ring", "scale", "()J"⟩, 5), (⟨"RingCipher", "storeTwoParts", "(LRingCipher$Cipher;)I"⟩, 7), (⟨"RingCipher", "storeSums", "(LRingCipher$Cipher;I)V"⟩, 7), (⟨"RingCipher$Ring", "reduce", "([J[J)V"⟩, 5), (⟨"RingCipher", "phaseOf", "(LRingCipher$Cipher;)[J"⟩, 7)]
theorem lw_r2 : ∀ q ∈ lw_privs_2, lw_okq q := List.forall_mem_cons.mpr ⟨lw_p16, List.forall_mem_cons.mpr ⟨lw_p17, List.forall_mem_cons.mpr ⟨lw_p18, List.forall_mem_cons.mpr ⟨lw_p19, List.forall_mem_cons.mpr ⟨lw_p20, List.forall_mem_cons.mpr ⟨lw_p21, List.forall_mem_cons.mpr ⟨lw_p22, List.forall_mem_cons.mpr ⟨lw_p23, List.forall_mem_cons.mpr ⟨lw_p24, List.forall_mem_cons.mpr ⟨lw_p25, List.forall_mem_cons.mpr ⟨lw_p26, List.forall_mem_cons.mpr ⟨lw_p27, List.forall_mem_cons.mpr ⟨lw_p28, List.forall_mem_cons.mpr ⟨lw_p29, List.forall_mem_cons.mpr ⟨lw_p30, List.forall_mem_cons.mpr ⟨lw_p31, fun _ h => absurd h List.not_mem_nil⟩⟩⟩⟩⟩⟩⟩⟩⟩⟩⟩⟩⟩⟩⟩⟩
theorem lw_p32 : lw_okq (⟨"RingCipher$KeyRing", "findPhase", "(LRingCipher$Ring;[JLRingCipher$Cipher;)V"⟩, 10) := ⟨⟨by decide +kernel, by decide +kernel⟩, List.mem_of_getElem? (i := 81) (by decide +kernel), List.mem_of_getElem? (i := 492) (by decide +kernel), List.mem_of_getElem? (i := 493) (by decide +kernel)⟩
theorem lw_p33 : lw_okq (⟨"RingCipher$Ring", "copy", "([J[J)V"⟩, 5) := ⟨⟨by decide +kernel, by decide +kernel⟩, List.mem_of_getElem? (i := 27) (by decide +kernel), List.mem_of_getElem? (i := 496) (by decide +kernel), List.mem_of_getElem? (i := 497) (by decide +kernel)⟩
theorem lw_p34 : lw_okq (⟨"RingCipher$Ring", "centre", "([J[J)V"⟩, 5) := ⟨⟨by decide +kernel, by decide +kernel⟩, List.mem_of_getElem? (i := 27) (by decide +kernel), List.mem_of_getElem? (i := 501) (by decide +kernel), List.mem_of_getElem? (i := 502) (by decide +kernel)⟩
theorem lw_p35 : lw_okq (⟨"RingCipher", "noiseIn", "([J)J"⟩, 7) := ⟨⟨by decide +kernel, by decide +kernel⟩, List.mem_of_getElem? (i := 19) (by decide +kernel), List.mem_of_getElem? (i := 511) (by decide +kernel), List.mem_of_getElem? (i := 512) (by decide +kernel)⟩
theorem lw_p36 : lw_okq (⟨"RingCipher", "takenAt", "(I)LRingCipher$Cipher;"⟩, 7) := ⟨⟨by decide +kernel, by decide +kernel⟩, List.mem_of_getElem? (i := 19) (by decide +kernel), List.mem_of_getElem? (i := 532) (by decide +kernel), List.mem_of_getElem? (i := 533) (by decide +kernel)⟩
theorem lw_p37 : lw_okq (⟨"RingCipher$Ring", "timesTOverQ", "(J)J"⟩, 5) := ⟨⟨by decide +kernel, by decide +kernel⟩, List.mem_of_getElem? (i := 27) (by decide +kernel), List.mem_of_getElem? (i := 537) (by decide +kernel), List.mem_of_getElem? (i := 538) (by decide +kernel)⟩
theorem lw_p38 : lw_okq (⟨"RingCipher", "multiply", "(LRingCipher$Cipher;LRingCipher$Cipher;LRingCipher$Cipher;)V"⟩, 7) := ⟨⟨by decide +kernel, by decide +kernel⟩, List.mem_of_getElem? (i := 19) (by decide +kernel), List.mem_of_getElem? (i := 554) (by decide +kernel), List.mem_of_getElem? (i := 555) (by decide +kernel)⟩
theorem lw_p39 : lw_okq (⟨"RingCipher", "combine", "(LRingCipher$Cipher;LRingCipher$Cipher;LRingCipher$Cipher;J)V"⟩, 7) := ⟨⟨by decide +kernel, by decide +kernel⟩, List.mem_of_getElem? (i := 19) (by decide +kernel), List.mem_of_getElem? (i := 560) (by decide +kernel), List.mem_of_getElem? (i := 561) (by decide +kernel)⟩
theorem lw_p40 : lw_okq (⟨"RingCipher", "addPlain", "(LRingCipher$Cipher;LRingCipher$Cipher;[J)V"⟩, 7) := ⟨⟨by decide +kernel, by decide +kernel⟩, List.mem_of_getElem? (i := 19) (by decide +kernel), List.mem_of_getElem? (i := 572) (by decide +kernel), List.mem_of_getElem? (i := 573) (by decide +kernel)⟩
theorem lw_p41 : lw_okq (⟨"RingCipher", "multiplyByPlain", "(LRingCipher$Cipher;LRingCipher$Cipher;[J)V"⟩, 7) := ⟨⟨by decide +kernel, by decide +kernel⟩, List.mem_of_getElem? (i := 19) (by decide +kernel), List.mem_of_getElem? (i := 577) (by decide +kernel), List.mem_of_getElem? (i := 578) (by decide +kernel)⟩
theorem lw_p42 : lw_okq (⟨"RingCipher", "applySwitch", "(LRingCipher$SwitchKey;[J)V"⟩, 7) := ⟨⟨by decide +kernel, by decide +kernel⟩, List.mem_of_getElem? (i := 19) (by decide +kernel), List.mem_of_getElem? (i := 589) (by decide +kernel), List.mem_of_getElem? (i := 590) (by decide +kernel)⟩
theorem lw_p43 : lw_okq (⟨"RingCipherModel", "empty", "()V"⟩, 24) := ⟨⟨by decide +kernel, by decide +kernel⟩, List.mem_of_getElem? (i := 626) (by decide +kernel), List.mem_of_getElem? (i := 714) (by decide +kernel), List.mem_of_getElem? (i := 715) (by decide +kernel)⟩
theorem lw_p44 : lw_okq (⟨"RingCipherModel", "ternary", "([J)V"⟩, 24) := ⟨⟨by decide +kernel, by decide +kernel⟩, List.mem_of_getElem? (i := 626) (by decide +kernel), List.mem_of_getElem? (i := 722) (by decide +kernel), List.mem_of_getElem? (i := 723) (by decide +kernel)⟩
theorem lw_p45 : lw_okq (⟨"RingCipherModel", "draw", "()I"⟩, 24) := ⟨⟨by decide +kernel, by decide +kernel⟩, List.mem_of_getElem? (i := 626) (by decide +kernel), List.mem_of_getElem? (i := 726) (by decide +kernel), List.mem_of_getElem? (i := 727) (by decide +kernel)⟩
theorem lw_p46 : lw_okq (⟨"RingCipherModel", "uniform", "([J)V"⟩, 24) := ⟨⟨by decide +kernel, by decide +kernel⟩, List.mem_of_getElem? (i := 626) (by decide +kernel), List.mem_of_getElem? (i := 732) (by decide +kernel), List.mem_of_getElem? (i := 733) (by decide +kernel)⟩
theorem lw_p47 : lw_okq (⟨"RingCipherModel", "error", "([J)V"⟩, 24) := ⟨⟨by decide +kernel, by decide +kernel⟩, List.mem_of_getElem? (i := 626) (by decide +kernel), List.mem_of_getElem? (i := 738) (by decide +kernel), List.mem_of_getElem? (i := 739) (by decide +kernel)⟩
def lw_privs_3 : List (MethodName × Nat) := [(⟨"RingCipher$KeyRing", "findPhase", "(LRingCipher$Ring;[JLRingCipher$Cipher;)V"⟩, 10), (⟨"RingCipher$Ring", "copy", "([J[J)V"⟩, 5), (⟨"RingCipher$Ring", "centre", "([J[J)V"⟩, 5), (⟨"RingCipher", "noiseIn", "([J)J"⟩, 7), (⟨"RingCipher", "takenAt", "(I)LRingCipher$Cipher;"⟩, 7), (⟨"RingCipher$Ring", "timesTOverQ", "(J)J"⟩, 5), (⟨"RingCipher", "multiply", "(LRingCipher$Cipher;LRingCipher$Cipher;LRingCipher$Cipher;)V"⟩, 7), (⟨"RingCipher", "combine", "(LRingCipher$Cipher;LRingCipher$Cipher;LRingCipher$Cipher;J)V"⟩, 7), (⟨"RingCipher", "addPlain", "(LRingCipher$Cipher;LRingCipher$Cipher;[J)V"⟩, 7), (⟨"RingCipher", "multiplyByPlain", "(LRingCipher$Cipher;LRingCipher$Cipher;[J)V"⟩, 7), (⟨"RingCipher", "applySwitch", "(LRingCipher$SwitchKey;[J)V"⟩, 7), (⟨"RingCipherModel", "empty", "()V"⟩, 24), (⟨"RingCipherModel", "ternary", "([J)V"⟩, 24), (⟨"RingCipherModel", "draw", "()I"⟩, 24), (⟨"RingCipherModel", "uniform", "([J)V"⟩, 24), (⟨"RingCipherModel", "error", "([J)V"⟩, 24)]
theorem lw_r3 : ∀ q ∈ lw_privs_3, lw_okq q := List.forall_mem_cons.mpr ⟨lw_p32, List.forall_mem_cons.mpr ⟨lw_p33, List.forall_mem_cons.mpr ⟨lw_p34, List.forall_mem_cons.mpr ⟨lw_p35, List.forall_mem_cons.mpr ⟨lw_p36, List.forall_mem_cons.mpr ⟨lw_p37, List.forall_mem_cons.mpr ⟨lw_p38, List.forall_mem_cons.mpr ⟨lw_p39, List.forall_mem_cons.mpr ⟨lw_p40, List.forall_mem_cons.mpr ⟨lw_p41, List.forall_mem_cons.mpr ⟨lw_p42, List.forall_mem_cons.mpr ⟨lw_p43, List.forall_mem_cons.mpr ⟨lw_p44, List.forall_mem_cons.mpr ⟨lw_p45, List.forall_mem_cons.mpr ⟨lw_p46, List.forall_mem_cons.mpr ⟨lw_p47, fun _ h => absurd h List.not_mem_nil⟩⟩⟩⟩⟩⟩⟩⟩⟩⟩⟩⟩⟩⟩⟩⟩
theorem lw_p48 : lw_okq (⟨"RingCipherModel", "reduced", "([J[J[J)V"⟩, 24) := ⟨⟨by decide +kernel, by decide +kernel⟩, List.mem_of_getElem? (i := 626) (by decide +kernel), List.mem_of_getElem? (i := 742) (by decide +kernel), List.mem_of_getElem? (i := 743) (by decide +kernel)⟩
theorem lw_p49 : lw_okq (⟨"RingCipherModel", "product", "([J[J[J)V"⟩, 24) := ⟨⟨by decide +kernel, by decide +kernel⟩, List.mem_of_getElem? (i := 626) (by decide +kernel), List.mem_of_getElem? (i := 749) (by decide +kernel), List.mem_of_getElem? (i := 750) (by decide +kernel)⟩
theorem lw_p50 : lw_okq (⟨"RingCipherModel", "pairs", "(I)V"⟩, 24) := ⟨⟨by decide +kernel, by decide +kernel⟩, List.mem_of_getElem? (i := 626) (by decide +kernel), List.mem_of_getElem? (i := 753) (by decide +kernel), List.mem_of_getElem? (i := 754) (by decide +kernel)⟩
theorem lw_p51 : lw_okq (⟨"RingCipherModel", "fail", "(I)I"⟩, 24) := ⟨⟨by decide +kernel, by decide +kernel⟩, List.mem_of_getElem? (i := 626) (by decide +kernel), List.mem_of_getElem? (i := 762) (by decide +kernel), List.mem_of_getElem? (i := 763) (by decide +kernel)⟩
theorem lw_p52 : lw_okq (⟨"RingCipherModel", "find", "(I)I"⟩, 24) := ⟨⟨by decide +kernel, by decide +kernel⟩, List.mem_of_getElem? (i := 626) (by decide +kernel), List.mem_of_getElem? (i := 766) (by decide +kernel), List.mem_of_getElem? (i := 767) (by decide +kernel)⟩
theorem lw_p53 : lw_okq (⟨"RingCipherModel", "turned", "([JI[J)V"⟩, 24) := ⟨⟨by decide +kernel, by decide +kernel⟩, List.mem_of_getElem? (i := 626) (by decide +kernel), List.mem_of_getElem? (i := 770) (by decide +kernel), List.mem_of_getElem? (i := 771) (by decide +kernel)⟩
theorem lw_p54 : lw_okq (⟨"RingCipherModel", "root", "()I"⟩, 24) := ⟨⟨by decide +kernel, by decide +kernel⟩, List.mem_of_getElem? (i := 626) (by decide +kernel), List.mem_of_getElem? (i := 789) (by decide +kernel), List.mem_of_getElem? (i := 790) (by decide +kernel)⟩
theorem lw_p55 : lw_okq (⟨"RingCipherModel", "power", "(II)I"⟩, 24) := ⟨⟨by decide +kernel, by decide +kernel⟩, List.mem_of_getElem? (i := 626) (by decide +kernel), List.mem_of_getElem? (i := 793) (by decide +kernel), List.mem_of_getElem? (i := 794) (by decide +kernel)⟩
theorem lw_p56 : lw_okq (⟨"RingCipherModel", "put", "(II[J)V"⟩, 24) := ⟨⟨by decide +kernel, by decide +kernel⟩, List.mem_of_getElem? (i := 626) (by decide +kernel), List.mem_of_getElem? (i := 804) (by decide +kernel), List.mem_of_getElem? (i := 805) (by decide +kernel)⟩
theorem lw_p57 : lw_okq (⟨"RingCipherModel", "budget", "(I)I"⟩, 24) := ⟨⟨by decide +kernel, by decide +kernel⟩, List.mem_of_getElem? (i := 626) (by decide +kernel), List.mem_of_getElem? (i := 808) (by decide +kernel), List.mem_of_getElem? (i := 809) (by decide +kernel)⟩
theorem lw_p58 : lw_okq (⟨"RingCipherModel", "noise", "(I)J"⟩, 24) := ⟨⟨by decide +kernel, by decide +kernel⟩, List.mem_of_getElem? (i := 626) (by decide +kernel), List.mem_of_getElem? (i := 812) (by decide +kernel), List.mem_of_getElem? (i := 813) (by decide +kernel)⟩
theorem lw_p59 : lw_okq (⟨"RingCipherModel", "phase", "(I)V"⟩, 24) := ⟨⟨by decide +kernel, by decide +kernel⟩, List.mem_of_getElem? (i := 626) (by decide +kernel), List.mem_of_getElem? (i := 816) (by decide +kernel), List.mem_of_getElem? (i := 817) (by decide +kernel)⟩
theorem lw_p60 : lw_okq (⟨"RingCipherModel", "take", "(II[J)V"⟩, 24) := ⟨⟨by decide +kernel, by decide +kernel⟩, List.mem_of_getElem? (i := 626) (by decide +kernel), List.mem_of_getElem? (i := 820) (by decide +kernel), List.mem_of_getElem? (i := 821) (by decide +kernel)⟩
theorem lw_p61 : lw_okq (⟨"RingCipherModel", "empty", "(I)Z"⟩, 24) := ⟨⟨by decide +kernel, by decide +kernel⟩, List.mem_of_getElem? (i := 626) (by decide +kernel), List.mem_of_getElem? (i := 833) (by decide +kernel), List.mem_of_getElem? (i := 834) (by decide +kernel)⟩
theorem lw_p62 : lw_okq (⟨"RingCipherModel", "scaled", "(J)J"⟩, 24) := ⟨⟨by decide +kernel, by decide +kernel⟩, List.mem_of_getElem? (i := 626) (by decide +kernel), List.mem_of_getElem? (i := 837) (by decide +kernel), List.mem_of_getElem? (i := 838) (by decide +kernel)⟩
theorem lw_p63 : lw_okq (⟨"RingCipherModel", "centre", "(II[J)V"⟩, 24) := ⟨⟨by decide +kernel, by decide +kernel⟩, List.mem_of_getElem? (i := 626) (by decide +kernel), List.mem_of_getElem? (i := 847) (by decide +kernel), List.mem_of_getElem? (i := 848) (by decide +kernel)⟩
def lw_privs_4 : List (MethodName × Nat) := [(⟨"RingCipherModel", "reduced", "([J[J[J)V"⟩, 24), (⟨"RingCipherModel", "product", "([J[J[J)V"⟩, 24), (⟨"RingCipherModel", "pairs", "(I)V"⟩, 24), (⟨"RingCipherModel", "fail", "(I)I"⟩, 24), (⟨"RingCipherModel", "find", "(I)I"⟩, 24), (⟨"RingCipherModel", "turned", "([JI[J)V"⟩, 24), (⟨"RingCipherModel", "root", "()I"⟩, 24), (⟨"RingCipherModel", "power", "(II)I"⟩, 24), (⟨"RingCipherModel", "put", "(II[J)V"⟩, 24), (⟨"RingCipherModel", "budget", "(I)I"⟩, 24), (⟨"RingCipherModel", "noise", "(I)J"⟩, 24), (⟨"RingCipherModel", "phase", "(I)V"⟩, 24), (⟨"RingCipherModel", "take", "(II[J)V"⟩, 24), (⟨"RingCipherModel", "empty", "(I)Z"⟩, 24), (⟨"RingCipherModel", "scaled", "(J)J"⟩, 24), (⟨"RingCipherModel", "centre", "(II[J)V"⟩, 24)]
theorem lw_r4 : ∀ q ∈ lw_privs_4, lw_okq q := List.forall_mem_cons.mpr ⟨lw_p48, List.forall_mem_cons.mpr ⟨lw_p49, List.forall_mem_cons.mpr ⟨lw_p50, List.forall_mem_cons.mpr ⟨lw_p51, List.forall_mem_cons.mpr ⟨lw_p52, List.forall_mem_cons.mpr ⟨lw_p53, List.forall_mem_cons.mpr ⟨lw_p54, List.forall_mem_cons.mpr ⟨lw_p55, List.forall_mem_cons.mpr ⟨lw_p56, List.forall_mem_cons.mpr ⟨lw_p57, List.forall_mem_cons.mpr ⟨lw_p58, List.forall_mem_cons.mpr ⟨lw_p59, List.forall_mem_cons.mpr ⟨lw_p60, List.forall_mem_cons.mpr ⟨lw_p61, List.forall_mem_cons.mpr ⟨lw_p62, List.forall_mem_cons.mpr ⟨lw_p63, fun _ h => absurd h List.not_mem_nil⟩⟩⟩⟩⟩⟩⟩⟩⟩⟩⟩⟩⟩⟩⟩⟩
theorem lw_p64 : lw_okq (⟨"RingCipherModel", "applied", "(I)V"⟩, 24) := ⟨⟨by decide +kernel, by decide +kernel⟩, List.mem_of_getElem? (i := 626) (by decide +kernel), List.mem_of_getElem? (i := 859) (by decide +kernel), List.mem_of_getElem? (i := 860) (by decide +kernel)⟩
theorem lw_p65 : lw_okq (⟨"RingCipherModel", "reduce", "([J)V"⟩, 24) := ⟨⟨by decide +kernel, by decide +kernel⟩, List.mem_of_getElem? (i := 626) (by decide +kernel), List.mem_of_getElem? (i := 868) (by decide +kernel), List.mem_of_getElem? (i := 869) (by decide +kernel)⟩
def lw_privs_5 : List (MethodName × Nat) := [(⟨"RingCipherModel", "applied", "(I)V"⟩, 24), (⟨"RingCipherModel", "reduce", "([J)V"⟩, 24)]
theorem lw_r5 : ∀ q ∈ lw_privs_5, lw_okq q := List.forall_mem_cons.mpr ⟨lw_p64, List.forall_mem_cons.mpr ⟨lw_p65, fun _ h => absurd h List.not_mem_nil⟩⟩
def lw_privs : List (MethodName × Nat) := lw_privs_1 ++ (lw_privs_2 ++ (lw_privs_3 ++ (lw_privs_4 ++ (lw_privs_5))))
def lw_tbl : List Cond := k2_sels lw_privs ++ tables_1
theorem lw_privs_ok : ∀ q ∈ lw_privs, lw_okq q := by
  show ∀ q ∈ lw_privs_1 ++ (lw_privs_2 ++ (lw_privs_3 ++ (lw_privs_4 ++ (lw_privs_5)))), lw_okq q
  exact List.forall_mem_append.mpr ⟨lw_r1, List.forall_mem_append.mpr ⟨lw_r2, List.forall_mem_append.mpr ⟨lw_r3, List.forall_mem_append.mpr ⟨lw_r4, lw_r5⟩⟩⟩⟩
abbrev cChance : Nat := 0
def R_Chance : String := "RingCipher$Chance"
def F_Chance : u_T := fun k => match k with
  | _ => ("RingCipher$Chance", "state", "I", false)
def t_Chance : Nat → FieldType := fun k => match k with
  | _ => .int
theorem n_Chance : ∀ a, a < 1 → ∀ b, b < 1 → a ≠ b → (F_Chance a).2.1 ≠ (F_Chance b).2.1 := by decide +kernel
theorem t_Chance_ok : ∀ k, k < 1 → parseFieldDescriptor (F_Chance k).2.2.1 = some (t_Chance k) := by decide +kernel
abbrev cCipher : Nat := 1
def R_Cipher : String := "RingCipher$Cipher"
def F_Cipher : u_T := fun k => match k with
  | 0 => ("RingCipher$Cipher", "parts", "I", false)
  | _ => ("RingCipher$Cipher", "rows", "[[J", true)
def t_Cipher : Nat → FieldType := fun k => match k with
  | 0 => .int
  | _ => (.array (.array .long))
theorem n_Cipher : ∀ a, a < 2 → ∀ b, b < 2 → a ≠ b → (F_Cipher a).2.1 ≠ (F_Cipher b).2.1 := by decide +kernel
theorem t_Cipher_ok : ∀ k, k < 2 → parseFieldDescriptor (F_Cipher k).2.2.1 = some (t_Cipher k) := by decide +kernel
abbrev cKeyRing : Nat := 2
def R_KeyRing : String := "RingCipher$KeyRing"
def F_KeyRing : u_T := fun k => match k with
  | 0 => ("RingCipher$KeyRing", "made", "Z", false)
  | 1 => ("RingCipher$KeyRing", "turnCount", "I", false)
  | 2 => ("RingCipher$KeyRing", "secret", "[J", true)
  | 3 => ("RingCipher$KeyRing", "square", "[J", true)
  | 4 => ("RingCipher$KeyRing", "publicBody", "[J", true)
  | 5 => ("RingCipher$KeyRing", "publicMask", "[J", true)
  | 6 => ("RingCipher$KeyRing", "relin", "LRingCipher$SwitchKey;", true)
  | 7 => ("RingCipher$KeyRing", "turns", "[LRingCipher$SwitchKey;", true)
  | 8 => ("RingCipher$KeyRing", "sum", "[J", true)
  | _ => ("RingCipher$KeyRing", "source", "[J", true)
def t_KeyRing : Nat → FieldType := fun k => match k with
  | 0 => .boolean
  | 1 => .int
  | 2 => (.array .long)
  | 3 => (.array .long)
  | 4 => (.array .long)
  | 5 => (.array .long)
  | 6 => (.object "RingCipher$SwitchKey")
  | 7 => (.array (.object "RingCipher$SwitchKey"))
  | 8 => (.array .long)
  | _ => (.array .long)
theorem n_KeyRing : ∀ a, a < 10 → ∀ b, b < 10 → a ≠ b → (F_KeyRing a).2.1 ≠ (F_KeyRing b).2.1 := by decide +kernel
theorem t_KeyRing_ok : ∀ k, k < 10 → parseFieldDescriptor (F_KeyRing k).2.2.1 = some (t_KeyRing k) := by decide +kernel
abbrev cRing : Nat := 3
def R_Ring : String := "RingCipher$Ring"
def F_Ring : u_T := fun k => match k with
  | 0 => ("RingCipher$Ring", "kind", "I", false)
  | 1 => ("RingCipher$Ring", "n", "I", false)
  | 2 => ("RingCipher$Ring", "t", "I", false)
  | 3 => ("RingCipher$Ring", "z", "I", false)
  | _ => ("RingCipher$Ring", "powersOfZ", "[J", true)
def t_Ring : Nat → FieldType := fun k => match k with
  | 0 => .int
  | 1 => .int
  | 2 => .int
  | 3 => .int
  | _ => (.array .long)
theorem n_Ring : ∀ a, a < 5 → ∀ b, b < 5 → a ≠ b → (F_Ring a).2.1 ≠ (F_Ring b).2.1 := by decide +kernel
theorem t_Ring_ok : ∀ k, k < 5 → parseFieldDescriptor (F_Ring k).2.2.1 = some (t_Ring k) := by decide +kernel
abbrev cSwitchKey : Nat := 4
def R_SwitchKey : String := "RingCipher$SwitchKey"
def F_SwitchKey : u_T := fun k => match k with
  | 0 => ("RingCipher$SwitchKey", "g", "I", false)
  | 1 => ("RingCipher$SwitchKey", "bodies", "[[J", true)
  | _ => ("RingCipher$SwitchKey", "masks", "[[J", true)
def t_SwitchKey : Nat → FieldType := fun k => match k with
  | 0 => .int
  | 1 => (.array (.array .long))
  | _ => (.array (.array .long))
theorem n_SwitchKey : ∀ a, a < 3 → ∀ b, b < 3 → a ≠ b → (F_SwitchKey a).2.1 ≠ (F_SwitchKey b).2.1 := by decide +kernel
theorem t_SwitchKey_ok : ∀ k, k < 3 → parseFieldDescriptor (F_SwitchKey k).2.2.1 = some (t_SwitchKey k) := by decide +kernel
abbrev cX : Nat := 5
def R_X : String := "RingCipher"
def F_X : u_T := fun k => match k with
  | 0 => ("RingCipher", "ring", "LRingCipher$Ring;", true)
  | 1 => ("RingCipher", "chance", "LRingCipher$Chance;", true)
  | 2 => ("RingCipher", "keyRing", "LRingCipher$KeyRing;", true)
  | 3 => ("RingCipher", "plains", "[[J", true)
  | 4 => ("RingCipher", "ciphers", "[LRingCipher$Cipher;", true)
  | 5 => ("RingCipher", "sums", "[[J", true)
  | _ => ("RingCipher", "rows", "[[J", true)
def t_X : Nat → FieldType := fun k => match k with
  | 0 => (.object "RingCipher$Ring")
  | 1 => (.object "RingCipher$Chance")
  | 2 => (.object "RingCipher$KeyRing")
  | 3 => (.array (.array .long))
  | 4 => (.array (.object "RingCipher$Cipher"))
  | 5 => (.array (.array .long))
  | _ => (.array (.array .long))
theorem n_X : ∀ a, a < 7 → ∀ b, b < 7 → a ≠ b → (F_X a).2.1 ≠ (F_X b).2.1 := by decide +kernel
theorem t_X_ok : ∀ k, k < 7 → parseFieldDescriptor (F_X k).2.2.1 = some (t_X k) := by decide +kernel
abbrev cRef : Nat := 6
def R_Ref : String := "RingCipherModel"
def F_Ref : u_T := fun k => match k with
  | 0 => ("RingCipherModel", "thrown", "I", false)
  | 1 => ("RingCipherModel", "kind", "I", false)
  | 2 => ("RingCipherModel", "n", "I", false)
  | 3 => ("RingCipherModel", "t", "I", false)
  | 4 => ("RingCipherModel", "turns", "I", false)
  | 5 => ("RingCipherModel", "chance", "I", false)
  | 6 => ("RingCipherModel", "keyed", "Z", false)
  | 7 => ("RingCipherModel", "s", "[J", true)
  | 8 => ("RingCipherModel", "b", "[J", true)
  | 9 => ("RingCipherModel", "a", "[J", true)
  | 10 => ("RingCipherModel", "first", "[J", true)
  | 11 => ("RingCipherModel", "second", "[J", true)
  | 12 => ("RingCipherModel", "turn", "[I", true)
  | 13 => ("RingCipherModel", "plain", "[I", true)
  | 14 => ("RingCipherModel", "parts", "[I", true)
  | 15 => ("RingCipherModel", "part", "[J", true)
  | 16 => ("RingCipherModel", "p", "[J", true)
  | 17 => ("RingCipherModel", "q", "[J", true)
  | 18 => ("RingCipherModel", "\x72", "[J", true)
  | 19 => ("RingCipherModel", "u", "[J", true)
  | 20 => ("RingCipherModel", "v", "[J", true)
  | 21 => ("RingCipherModel", "w", "[J", true)
  | 22 => ("RingCipherModel", "x", "[J", true)
  | _ => ("RingCipherModel", "y", "[J", true)
def t_Ref : Nat → FieldType := fun k => match k with
  | 0 => .int
  | 1 => .int
  | 2 => .int
  | 3 => .int
  | 4 => .int
  | 5 => .int
  | 6 => .boolean
  | 7 => (.array .long)
  | 8 => (.array .long)
  | 9 => (.array .long)
  | 10 => (.array .long)
  | 11 => (.array .long)
  | 12 => (.array .int)
  | 13 => (.array .int)
  | 14 => (.array .int)
  | 15 => (.array .long)
  | 16 => (.array .long)
  | 17 => (.array .long)
  | 18 => (.array .long)
  | 19 => (.array .long)
  | 20 => (.array .long)
  | 21 => (.array .long)
  | 22 => (.array .long)
  | _ => (.array .long)
theorem n_Ref : ∀ a, a < 24 → ∀ b, b < 24 → a ≠ b → (F_Ref a).2.1 ≠ (F_Ref b).2.1 := by decide +kernel
theorem t_Ref_ok : ∀ k, k < 24 → parseFieldDescriptor (F_Ref k).2.2.1 = some (t_Ref k) := by decide +kernel
abbrev vwCl : List vw_C := [(R_Chance, F_Chance, 1), (R_Cipher, F_Cipher, 2), (R_KeyRing, F_KeyRing, 10), (R_Ring, F_Ring, 5), (R_SwitchKey, F_SwitchKey, 3), (R_X, F_X, 7), (R_Ref, F_Ref, 24)]
end
section
/-! the flat world: which cell lies at which address; V: a walk of a method over it, goal first -/
abbrev zW : Type := Nat → Option va_E
abbrev zG : Type := va_G × (Nat → ClassId) × Nat × (Nat → Nat)
abbrev zM : Type := MethodName × ByteArray × Nat × Option FieldType × List (Nat × Nat × Nat × Nat)
abbrev zK : Type := ((Option Value ⊕ String) → zW → Nat → Prop) × Nat × Nat
def zA (G : zG) : Nat → Prop := fun q => G.2.2.1 ≤ q
def zgw : Cond → Bool
  | .fieldLinkNest .. => true
  | .methodLinkNest .. => true
  | w => goodWord w
def zWd (s : State) : Prop := ∀ w ∈ lw_tbl, zgw w = true → va_Nw w s
abbrev zin (w : Cond) : Prop := w ∈ lw_tbl ∧ zgw w = true
theorem zgw_cases {w : Cond} (h : zgw w = true) : (∃ a i b n d t, w = .fieldLinkNest a i b n d t) ∨ (∃ a i x t, w = .methodLinkNest a i x t) ∨ goodWord w = true := by
  unfold zgw at h
  split at h
  · exact Or.inl ⟨_, _, _, _, _, _, rfl⟩
  · exact Or.inr (Or.inl ⟨_, _, _, _, rfl⟩)
  · exact Or.inr (Or.inr h)
theorem zWd.moved {s U : State} (hW : s.WarmedH U.vm) (h : zWd s) : zWd U := by
  intro w hw hg
  have h1 := h w hw hg
  rcases zgw_cases hg with ⟨_, _, _, _, _, _, rfl⟩ | ⟨_, _, _, _, rfl⟩ | hg
  · exact va_Nw.warmF hW h1
  · exact va_Nw.warmM hW h1
  · exact word_at hW (good_of_word hg) h1
theorem zWd.use {s : State} (h : zWd s) {w : Cond} (hin : zin w) (args : Array Value) : w.before args s = true := by
  have h1 := h w hin.1 hin.2
  rcases zgw_cases hin.2 with ⟨_, _, _, _, _, _, rfl⟩ | ⟨_, _, _, _, rfl⟩ | hg
  · exact va_Nw.use rfl h1
  · exact va_Nw.use rfl h1
  · exact word_at (State.WarmedH.refl s) (good_of_word hg) h1
def zty (G : zG) : List (ClassId × FieldType) := [(G.2.1 0, .long), (G.2.1 1, .array .long), (G.2.1 2, .int), (G.2.1 3, .object "RingCipher$Cipher"), (G.2.1 4, .object "RingCipher$SwitchKey")]
def zStr : List (Nat × String) := [(54, "no such kind"), (86, "no such turn"), (94, "no keys"), (101, "four other turns"), (263, "no such plain"), (269, "no such coefficient"), (265, "no such cipher"), (267, "an empty cipher"), (195, "no such operation"), (200, "a product of three parts"), (219, "nothing to shrink"), (233, "a turn of three parts"), (245, "no such part"), (248, "nothing to tell")]
def zSz (k : Nat) : Value := match k with
  | 0 => .int (Int32.ofInt 8)
  | 1 => .int (Int32.ofInt 16)
  | _ => .int (Int32.ofInt 32)
def zMo (k : Nat) : Value := match k with
  | 0 => .int (Int32.ofInt 17)
  | 1 => .int (Int32.ofInt 97)
  | _ => .int (Int32.ofInt 193)
def zKn (G : zG) (U : State) : Prop := va_K G.1 vwCl (zty G) U ∧ (va_Z "RingCipher" "SIZES" "[I" (.ref (G.2.2.2 0)) (zA G) U U.heap ∧ va_T .int (G.2.2.2 0) 3 zSz (zA G) U U.heap) ∧
  (va_Z "RingCipher" "MODULI" "[I" (.ref (G.2.2.2 1)) (zA G) U U.heap ∧ va_T .int (G.2.2.2 1) 3 zMo (zA G) U U.heap) ∧
  (va_Zq "java/lang/Throwable" "UNASSIGNED_STACK" "[Ljava/lang/StackTraceElement;" (zA G) U U.heap ∧ va_Zq "java/lang/Throwable" "SUPPRESSED_SENTINEL" "Ljava/util/List;" (zA G) U U.heap) ∧
  ∀ q ∈ zStr, vk_R "RingCipher" q.1 q.2 (G.2.2.2 q.1) U
theorem zKn.moved {G : zG} {u U : State} (hW : u.WarmedH U.vm) (hh : ∀ a : Nat, a < u.heap.size → ¬ zA G a → U.heap[a]? = u.heap[a]?) (h : zKn G u) : zKn G U :=
  ⟨h.1.moved hW.alike, ⟨(h.2.1.1.moved hW.alike).kept hh, (h.2.1.2.moved hW.alike).kept hh⟩, ⟨(h.2.2.1.1.moved hW.alike).kept hh, (h.2.2.1.2.moved hW.alike).kept hh⟩,
    ⟨(h.2.2.2.1.1.moved hW.alike).kept hh, (h.2.2.2.1.2.moved hW.alike).kept hh⟩, fun q hq => (h.2.2.2.2 q hq).warm hW⟩
def zH (G : zG) (w : zW) (sz : Nat) (H : Heap) : Prop := H.size = sz ∧ G.2.2.1 ≤ sz ∧ ∀ a e, w a = some e → zA G a ∧ va_at G.1 vwCl (a, e) H
def zF (G : zG) (M : zM) (p : Program) (l : Launch) (s : State) (m : MethodId) (meth : Method) (c : Code) : Prop :=
  p.tables.exec = Jvm.exec ∧ c.code = M.2.1 ∧ c.maxLocals = M.2.2.1 ∧ s.vm.findClass M.1.cls = some m.cls ∧ zWd s ∧ meth.sig.returnType = M.2.2.2.1 ∧ meth.locks = false ∧ meth.name = M.1.name ∧ c.exceptionTable.toList.map (fun h => (h.startPc, h.endPc, h.handlerPc, h.catchType)) = M.2.2.2.2 ∧ zKn G s ∧ l.stackTraces = false
def zEx (C : String) (x : Addr) (t : State) : Prop := ∃ cell : Cell, t.heap[x]? = some cell ∧ (∀ k, cell.vm ≠ .statics k) ∧ t.vm.findClass C = some cell.cls
def zQ (G : zG) (K : zK) (below : List Frame) (s : State) : State → Prop := fun t => ∃ o, t.status = .running ∧ Ended t below o ∧ s.WarmedH t.vm ∧
  (∃ L, s.sameButNew ({ t with vm := s.vm } : State) L K.2.1 K.2.2 ∧ ∀ q ∈ L, zA G q.base) ∧ va_F (zA G) s t ∧ ∃ (w : zW) (sz : Nat), zH G w sz t.heap ∧
  ((∃ v, o = .returned v ∧ K.1 (.inl v) w sz) ∨ ∃ x C, o = .threw x ∧ zEx C x t ∧ K.1 (.inr C) w sz)
def V (G : zG) (M : zM) (K : zK) (R : Room) (kc ks sz pc : Nat) (lo : List (Nat × Value)) (st : List Value) (w : zW) : Prop :=
  ∀ (p : Program) (l : Launch) (e : Env) (s : State) (m : MethodId) (args : Array Value) (below : List Frame) (meth : Method) (c : Code), zF G M p l s m meth c →
    ∀ (ls : Array Slot) (H : Heap) (locs : List Loc), lv_has ls M.2.2.1 lo → zH G w sz H → va_S (zA G) s.heap H locs → W p l e R s m args below meth c H locs kc ks (zQ G K below s) (F0 m pc ls st)
/-! locals -/
def zl2 : Value → Bool
  | .long _ => true
  | .double _ => true
  | _ => false
theorem zl2_cat (v : Value) : (v.category = 2) ↔ zl2 v = true := by cases v <;> simp [Value.category, zl2]
def zlk : List (Nat × Value) → Nat → Option Value
  | [], _ => none
  | q :: r, i => bif Nat.beq q.1 i then some q.2 else zlk r i
def zrm : List (Nat × Value) → Nat → List (Nat × Value)
  | [], _ => []
  | q :: r, i => bif (Nat.beq q.1 i || (Nat.beq (q.1 + 1) i && zl2 q.2)) then zrm r i else q :: zrm r i
def zins : List (Nat × Value) → Nat → Value → List (Nat × Value)
  | [], i, v => [(i, v)]
  | q :: r, i, v => bif Nat.ble i q.1 then (i, v) :: q :: r else q :: zins r i v
def zst1 (lo : List (Nat × Value)) (i : Nat) (v : Value) : List (Nat × Value) := zins (zrm lo i) i v
def zst2 (lo : List (Nat × Value)) (i : Nat) (v : Value) : List (Nat × Value) := zins (zrm (zrm lo (i + 1)) i) i v
def zpk (lo : List (Nat × Value)) : List Nat → List (Nat × Value)
  | [] => []
  | k :: r => match zlk lo k with
    | some v => (k, v) :: zpk lo r
    | none => zpk lo r
theorem zlk_mem {lo : List (Nat × Value)} {i : Nat} {v : Value} (h : zlk lo i = some v) : (i, v) ∈ lo := by
  induction lo with
  | nil => cases h
  | cons q r ih =>
    unfold zlk at h
    cases hb : Nat.beq q.1 i with
    | true =>
      rw [hb] at h
      have e1 : q.1 = i := Nat.eq_of_beq_eq_true hb
      have e2 : q.2 = v := Option.some.inj h
      subst e1; subst e2
      exact List.mem_cons_self
    | false =>
      rw [hb] at h
      exact List.mem_cons_of_mem _ (ih h)
theorem zrm_mem {lo : List (Nat × Value)} {i : Nat} {q : Nat × Value} (h : q ∈ zrm lo i) : q ∈ lo ∧ ¬ q.1 = i ∧ ¬ (q.1 + 1 = i ∧ q.2.category = 2) := by
  induction lo with
  | nil => cases h
  | cons x r ih =>
    unfold zrm at h
    cases hb : (Nat.beq x.1 i || (Nat.beq (x.1 + 1) i && zl2 x.2)) with
    | true =>
      rw [hb] at h
      obtain ⟨h1, h2⟩ := ih h
      exact ⟨List.mem_cons_of_mem _ h1, h2⟩
    | false =>
      rw [hb] at h
      rcases List.mem_cons.mp h with rfl | h
      · simp only [Bool.or_eq_false_iff, Bool.and_eq_false_iff] at hb
        refine ⟨List.mem_cons_self, fun e => ?_, fun e => ?_⟩
        · have := hb.1
          rw [e, Nat.beq_refl] at this
          cases this
        · rcases hb.2 with z | z
          · rw [e.1, Nat.beq_refl] at z
            cases z
          · rw [(zl2_cat _).mp e.2] at z
            cases z
      · obtain ⟨h1, h2⟩ := ih h
        exact ⟨List.mem_cons_of_mem _ h1, h2⟩
theorem zins_mem {lo : List (Nat × Value)} {i : Nat} {v : Value} {q : Nat × Value} (h : q ∈ zins lo i v) : q = (i, v) ∨ q ∈ lo := by
  induction lo with
  | nil => exact Or.inl (List.mem_singleton.mp h)
  | cons x r ih =>
    unfold zins at h
    cases hb : Nat.ble i x.1 with
    | true =>
      rw [hb] at h
      exact List.mem_cons.mp h
    | false =>
      rw [hb] at h
      rcases List.mem_cons.mp h with rfl | h
      · exact Or.inr List.mem_cons_self
      · rcases ih h with h | h
        · exact Or.inl h
        · exact Or.inr (List.mem_cons_of_mem _ h)
theorem zpk_mem {lo : List (Nat × Value)} {ks : List Nat} {q : Nat × Value} (h : q ∈ zpk lo ks) : q ∈ lo := by
  induction ks with
  | nil => cases h
  | cons k r ih =>
    unfold zpk at h
    cases hk : zlk lo k with
    | none =>
      rw [hk] at h
      exact ih h
    | some v =>
      rw [hk] at h
      rcases List.mem_cons.mp h with rfl | h
      · exact zlk_mem hk
      · exact ih h
theorem zhas1 {ls : Array Slot} {nL i : Nat} {v : Value} {lo : List (Nat × Value)} (h : lv_has ls nL ((i, v) :: lo.filter (fun q => !(q.1 == i) && !(q.1 + 1 == i && q.2.category == 2)))) : lv_has ls nL (zst1 lo i v) := by
  refine ⟨h.1, h.2.1, fun q hq => h.2.2 q ?_⟩
  rcases zins_mem hq with rfl | hq
  · exact List.mem_cons_self
  · obtain ⟨h1, h2, h3⟩ := zrm_mem hq
    refine List.mem_cons_of_mem _ (List.mem_filter.mpr ⟨h1, ?_⟩)
    simp only [Bool.and_eq_true, Bool.not_eq_true', beq_eq_false_iff_ne, ne_eq, Bool.and_eq_false_iff]
    exact ⟨h2, by by_cases e : q.1 + 1 = i; exact Or.inr (fun z => h3 ⟨e, z⟩); exact Or.inl e⟩
theorem zhas2 {ls : Array Slot} {nL i : Nat} {v : Value} {lo : List (Nat × Value)} (h : lv_has ls nL ((i, v) :: lo.filter (fun q => !(q.1 == i) && (!(q.1 == i + 1) && !(q.1 + 1 == i && q.2.category == 2))))) : lv_has ls nL (zst2 lo i v) := by
  refine ⟨h.1, h.2.1, fun q hq => h.2.2 q ?_⟩
  rcases zins_mem hq with rfl | hq
  · exact List.mem_cons_self
  · obtain ⟨h1, h2, h3⟩ := zrm_mem hq
    obtain ⟨h4, h5, -⟩ := zrm_mem h1
    refine List.mem_cons_of_mem _ (List.mem_filter.mpr ⟨h4, ?_⟩)
    simp only [Bool.and_eq_true, Bool.not_eq_true', beq_eq_false_iff_ne, ne_eq, Bool.and_eq_false_iff]
    exact ⟨h2, h5, by by_cases e : q.1 + 1 = i; exact Or.inr (fun z => h3 ⟨e, z⟩); exact Or.inl e⟩
theorem zgl {ls : Array Slot} {nL i : Nat} {v : Value} {lo : List (Nat × Value)} (hl : lv_has ls nL lo) (h : zlk lo i = some v) : ls[i]? = some (.val v) := hl.2.2 _ (zlk_mem h)
section ZV
variable {G : zG} {M : zM} {K : zK} {R : Room} {kc ks sz pc : Nat} {lo : List (Nat × Value)} {st : List Value} {w : zW}
/-- fewer known locals -/
theorem V_lo {lo' : List (Nat × Value)} (ns : List Nat) (h : zpk lo ns = lo') (k : V G M K R kc ks sz pc lo' st w) : V G M K R kc ks sz pc lo st w :=
  fun p l e s m args below meth c F ls H locs hl hw hS => k p l e s m args below meth c F ls H locs ⟨hl.1, hl.2.1, fun q hq => hl.2.2 q (zpk_mem (by rw [h]; exact hq))⟩ hw hS
/-- a place's name -/
theorem V_pc {pc' : Nat} (h : pc = pc') (k : V G M K R kc ks sz pc' lo st w) : V G M K R kc ks sz pc lo st w := h ▸ k
theorem V_w {w' : zW} (h : w = w') (k : V G M K R kc ks sz pc lo st w') : V G M K R kc ks sz pc lo st w := h ▸ k
theorem V_widen {kc' ks' : Nat} (h1 : kc ≤ kc') (h2 : ks ≤ ks') (k : V G M K R kc' ks' sz pc lo st w) : V G M K R kc ks sz pc lo st w :=
  fun p l e s m args below meth c F ls H locs hl hw hS => W.widen h1 h2 (k p l e s m args below meth c F ls H locs hl hw hS)
theorem V_iconst {n : Int} (d : decode M.2.1 pc = .ok (.iconst n, 1)) (k : V G M K R kc ks sz (pc + 1) lo (.int (Int32.ofInt n) :: st) w) : V G M K R kc ks sz pc lo (st) w :=
  fun p l e s m args below meth c F ls H locs hl hw hS => lv_iconst F.1 F.2.1 d rfl (k p l e s m args below meth c F ls H locs hl hw hS)
theorem V_bipush {n : Int} (d : decode M.2.1 pc = .ok (.bipush n, 2)) (k : V G M K R kc ks sz (pc + 2) lo (.int ((Int8.ofInt n).toInt32) :: st) w) : V G M K R kc ks sz pc lo (st) w :=
  fun p l e s m args below meth c F ls H locs hl hw hS => lv_bipush F.1 F.2.1 d rfl (k p l e s m args below meth c F ls H locs hl hw hS)
theorem V_sipush {n : Int} (d : decode M.2.1 pc = .ok (.sipush n, 3)) (k : V G M K R kc ks sz (pc + 3) lo (.int ((Int16.ofInt n).toInt32) :: st) w) : V G M K R kc ks sz pc lo (st) w :=
  fun p l e s m args below meth c F ls H locs hl hw hS => lv_sipush F.1 F.2.1 d rfl (k p l e s m args below meth c F ls H locs hl hw hS)
theorem V_lconst {n : Fin 2} (d : decode M.2.1 pc = .ok (.lconst n, 1)) (k : V G M K R kc ks sz (pc + 1) lo (.long (Int64.ofNat (n : Nat)) :: st) w) : V G M K R kc ks sz pc lo (st) w :=
  fun p l e s m args below meth c F ls H locs hl hw hS => lv_lconst F.1 F.2.1 d rfl (k p l e s m args below meth c F ls H locs hl hw hS)
theorem V_iload_n {n : Fin 4} {x : Int32} (d : decode M.2.1 pc = .ok (.iload_n n, 1)) (h : zlk lo (n : Nat) = some (.int x)) (k : V G M K R kc ks sz (pc + 1) lo (.int x :: st) w) : V G M K R kc ks sz pc lo (st) w :=
  fun p l e s m args below meth c F ls H locs hl hw hS => lv_iload_n F.1 F.2.1 d rfl (zgl hl h) (k p l e s m args below meth c F ls H locs hl hw hS)
theorem V_iload {n : Nat} {x : Int32} (d : decode M.2.1 pc = .ok (.iload n, 2)) (h : zlk lo n = some (.int x)) (k : V G M K R kc ks sz (pc + 2) lo (.int x :: st) w) : V G M K R kc ks sz pc lo (st) w :=
  fun p l e s m args below meth c F ls H locs hl hw hS => lv_iload F.1 F.2.1 d (zgl hl h) (k p l e s m args below meth c F ls H locs hl hw hS)
theorem V_lload_n {n : Fin 4} {x : Int64} (d : decode M.2.1 pc = .ok (.lload_n n, 1)) (h : zlk lo (n : Nat) = some (.long x)) (k : V G M K R kc ks sz (pc + 1) lo (.long x :: st) w) : V G M K R kc ks sz pc lo (st) w :=
  fun p l e s m args below meth c F ls H locs hl hw hS => lv_lload_n F.1 F.2.1 d rfl (zgl hl h) (k p l e s m args below meth c F ls H locs hl hw hS)
theorem V_lload {n : Nat} {x : Int64} (d : decode M.2.1 pc = .ok (.lload n, 2)) (h : zlk lo n = some (.long x)) (k : V G M K R kc ks sz (pc + 2) lo (.long x :: st) w) : V G M K R kc ks sz pc lo (st) w :=
  fun p l e s m args below meth c F ls H locs hl hw hS => lv_lload F.1 F.2.1 d (zgl hl h) (k p l e s m args below meth c F ls H locs hl hw hS)
theorem V_aload_n {n : Fin 4} {x : Nat} (d : decode M.2.1 pc = .ok (.aload_n n, 1)) (h : zlk lo (n : Nat) = some (.ref x)) (k : V G M K R kc ks sz (pc + 1) lo (.ref x :: st) w) : V G M K R kc ks sz pc lo (st) w :=
  fun p l e s m args below meth c F ls H locs hl hw hS => lv_aload_n F.1 F.2.1 d rfl (zgl hl h) (k p l e s m args below meth c F ls H locs hl hw hS)
theorem V_aload {n : Nat} {x : Nat} (d : decode M.2.1 pc = .ok (.aload n, 2)) (h : zlk lo n = some (.ref x)) (k : V G M K R kc ks sz (pc + 2) lo (.ref x :: st) w) : V G M K R kc ks sz pc lo (st) w :=
  fun p l e s m args below meth c F ls H locs hl hw hS => lv_aload F.1 F.2.1 d (zgl hl h) (k p l e s m args below meth c F ls H locs hl hw hS)
theorem V_istore_n {n : Fin 4} {x : Int32} (d : decode M.2.1 pc = .ok (.istore_n n, 1)) (hn : (n : Nat) < M.2.2.1) (k : V G M K R kc ks sz (pc + 1) (zst1 lo (n : Nat) (.int x)) st w) : V G M K R kc ks sz pc lo (.int x :: st) w :=
  fun p l e s m args below meth c F ls H locs hl hw hS => lv_istore_n F.1 F.2.1 d rfl hl hn rfl (fun ls1 hl1 => k p l e s m args below meth c F ls1 H locs (zhas1 hl1) hw hS)
theorem V_istore {n : Nat} {x : Int32} (d : decode M.2.1 pc = .ok (.istore n, 2)) (hn : n < M.2.2.1) (k : V G M K R kc ks sz (pc + 2) (zst1 lo n (.int x)) st w) : V G M K R kc ks sz pc lo (.int x :: st) w :=
  fun p l e s m args below meth c F ls H locs hl hw hS => lv_istore F.1 F.2.1 d hl hn rfl (fun ls1 hl1 => k p l e s m args below meth c F ls1 H locs (zhas1 hl1) hw hS)
theorem V_lstore_n {n : Fin 4} {x : Int64} (d : decode M.2.1 pc = .ok (.lstore_n n, 1)) (hn : (n : Nat) + 1 < M.2.2.1) (k : V G M K R kc ks sz (pc + 1) (zst2 lo (n : Nat) (.long x)) st w) : V G M K R kc ks sz pc lo (.long x :: st) w :=
  fun p l e s m args below meth c F ls H locs hl hw hS => lv_lstore_n F.1 F.2.1 d rfl hl hn rfl (fun ls1 hl1 => k p l e s m args below meth c F ls1 H locs (zhas2 hl1) hw hS)
theorem V_lstore {n : Nat} {x : Int64} (d : decode M.2.1 pc = .ok (.lstore n, 2)) (hn : n + 1 < M.2.2.1) (k : V G M K R kc ks sz (pc + 2) (zst2 lo n (.long x)) st w) : V G M K R kc ks sz pc lo (.long x :: st) w :=
  fun p l e s m args below meth c F ls H locs hl hw hS => lv_lstore F.1 F.2.1 d hl hn rfl (fun ls1 hl1 => k p l e s m args below meth c F ls1 H locs (zhas2 hl1) hw hS)
theorem V_astore_n {n : Fin 4} {x : Nat} (d : decode M.2.1 pc = .ok (.astore_n n, 1)) (hn : (n : Nat) < M.2.2.1) (k : V G M K R kc ks sz (pc + 1) (zst1 lo (n : Nat) (.ref x)) st w) : V G M K R kc ks sz pc lo (.ref x :: st) w :=
  fun p l e s m args below meth c F ls H locs hl hw hS => lv_astore_n F.1 F.2.1 d rfl hl hn rfl (fun ls1 hl1 => k p l e s m args below meth c F ls1 H locs (zhas1 hl1) hw hS)
theorem V_astore {n : Nat} {x : Nat} (d : decode M.2.1 pc = .ok (.astore n, 2)) (hn : n < M.2.2.1) (k : V G M K R kc ks sz (pc + 2) (zst1 lo n (.ref x)) st w) : V G M K R kc ks sz pc lo (.ref x :: st) w :=
  fun p l e s m args below meth c F ls H locs hl hw hS => lv_astore F.1 F.2.1 d hl hn rfl (fun ls1 hl1 => k p l e s m args below meth c F ls1 H locs (zhas1 hl1) hw hS)
theorem zlk_at {lo : List (Nat × Value)} {i : Nat} {v : Value} (h : zlk lo i = some v) : ∃ k : Nat, lo[k]? = some (i, v) := by
  obtain ⟨k, hk⟩ := List.getElem?_of_mem (zlk_mem h)
  exact ⟨k, hk⟩
theorem V_iinc {i : Nat} {n : Int} {x : Int32} (d : decode M.2.1 pc = .ok (.iinc i n, 3)) (h : zlk lo i = some (.int x)) (hn : i < M.2.2.1) (k : V G M K R kc ks sz (pc + 3) (zst1 lo i (.int (x + Int32.ofInt n))) st w) : V G M K R kc ks sz pc lo st w :=
  fun p l e s m args below meth c F ls H locs hl hw hS => by
    obtain ⟨k0, hk0⟩ := zlk_at h
    exact lv_iinc F.1 F.2.1 d hl hk0 rfl hn rfl (fun ls1 hl1 => k p l e s m args below meth c F ls1 H locs (zhas1 hl1) hw hS)
theorem V_iadd {x y : Int32} (d : decode M.2.1 pc = .ok (.iadd, 1)) (k : V G M K R kc ks sz (pc + 1) lo (.int (x + y) :: st) w) : V G M K R kc ks sz pc lo (.int y :: .int x :: st) w :=
  fun p l e s m args below meth c F ls H locs hl hw hS => lv_iadd F.1 F.2.1 d (k p l e s m args below meth c F ls H locs hl hw hS)
theorem V_isub {x y : Int32} (d : decode M.2.1 pc = .ok (.isub, 1)) (k : V G M K R kc ks sz (pc + 1) lo (.int (x - y) :: st) w) : V G M K R kc ks sz pc lo (.int y :: .int x :: st) w :=
  fun p l e s m args below meth c F ls H locs hl hw hS => lv_isub F.1 F.2.1 d (k p l e s m args below meth c F ls H locs hl hw hS)
theorem V_imul {x y : Int32} (d : decode M.2.1 pc = .ok (.imul, 1)) (k : V G M K R kc ks sz (pc + 1) lo (.int (x * y) :: st) w) : V G M K R kc ks sz pc lo (.int y :: .int x :: st) w :=
  fun p l e s m args below meth c F ls H locs hl hw hS => lv_imul F.1 F.2.1 d (k p l e s m args below meth c F ls H locs hl hw hS)
theorem V_iand {x y : Int32} (d : decode M.2.1 pc = .ok (.iand, 1)) (k : V G M K R kc ks sz (pc + 1) lo (.int (x &&& y) :: st) w) : V G M K R kc ks sz pc lo (.int y :: .int x :: st) w :=
  fun p l e s m args below meth c F ls H locs hl hw hS => lv_iand F.1 F.2.1 d (k p l e s m args below meth c F ls H locs hl hw hS)
theorem V_ior {x y : Int32} (d : decode M.2.1 pc = .ok (.ior, 1)) (k : V G M K R kc ks sz (pc + 1) lo (.int (x ||| y) :: st) w) : V G M K R kc ks sz pc lo (.int y :: .int x :: st) w :=
  fun p l e s m args below meth c F ls H locs hl hw hS => lv_ior F.1 F.2.1 d (k p l e s m args below meth c F ls H locs hl hw hS)
theorem V_ixor {x y : Int32} (d : decode M.2.1 pc = .ok (.ixor, 1)) (k : V G M K R kc ks sz (pc + 1) lo (.int (x ^^^ y) :: st) w) : V G M K R kc ks sz pc lo (.int y :: .int x :: st) w :=
  fun p l e s m args below meth c F ls H locs hl hw hS => lv_ixor F.1 F.2.1 d (k p l e s m args below meth c F ls H locs hl hw hS)
theorem V_idiv {x y : Int32} (d : decode M.2.1 pc = .ok (.idiv, 1)) (hne : ¬ y = 0) (k : V G M K R kc ks sz (pc + 1) lo (.int (x / y) :: st) w) : V G M K R kc ks sz pc lo (.int y :: .int x :: st) w :=
  fun p l e s m args below meth c F ls H locs hl hw hS => lv_idiv F.1 F.2.1 d hne (k p l e s m args below meth c F ls H locs hl hw hS)
theorem V_irem {x y : Int32} (d : decode M.2.1 pc = .ok (.irem, 1)) (hne : ¬ y = 0) (k : V G M K R kc ks sz (pc + 1) lo (.int (x - x / y * y) :: st) w) : V G M K R kc ks sz pc lo (.int y :: .int x :: st) w :=
  fun p l e s m args below meth c F ls H locs hl hw hS => lv_irem F.1 F.2.1 d hne (k p l e s m args below meth c F ls H locs hl hw hS)
theorem V_ineg {x : Int32} (d : decode M.2.1 pc = .ok (.ineg, 1)) (k : V G M K R kc ks sz (pc + 1) lo (.int (-x) :: st) w) : V G M K R kc ks sz pc lo (.int x :: st) w :=
  fun p l e s m args below meth c F ls H locs hl hw hS => lv_ineg F.1 F.2.1 d (k p l e s m args below meth c F ls H locs hl hw hS)
theorem V_ladd {x y : Int64} (d : decode M.2.1 pc = .ok (.ladd, 1)) (k : V G M K R kc ks sz (pc + 1) lo (.long (x + y) :: st) w) : V G M K R kc ks sz pc lo (.long y :: .long x :: st) w :=
  fun p l e s m args below meth c F ls H locs hl hw hS => lv_ladd F.1 F.2.1 d (k p l e s m args below meth c F ls H locs hl hw hS)
theorem V_lsub {x y : Int64} (d : decode M.2.1 pc = .ok (.lsub, 1)) (k : V G M K R kc ks sz (pc + 1) lo (.long (x - y) :: st) w) : V G M K R kc ks sz pc lo (.long y :: .long x :: st) w :=
  fun p l e s m args below meth c F ls H locs hl hw hS => lv_lsub F.1 F.2.1 d (k p l e s m args below meth c F ls H locs hl hw hS)
theorem V_lmul {x y : Int64} (d : decode M.2.1 pc = .ok (.lmul, 1)) (k : V G M K R kc ks sz (pc + 1) lo (.long (x * y) :: st) w) : V G M K R kc ks sz pc lo (.long y :: .long x :: st) w :=
  fun p l e s m args below meth c F ls H locs hl hw hS => lv_lmul F.1 F.2.1 d (k p l e s m args below meth c F ls H locs hl hw hS)
theorem V_land {x y : Int64} (d : decode M.2.1 pc = .ok (.land, 1)) (k : V G M K R kc ks sz (pc + 1) lo (.long (x &&& y) :: st) w) : V G M K R kc ks sz pc lo (.long y :: .long x :: st) w :=
  fun p l e s m args below meth c F ls H locs hl hw hS => lv_land F.1 F.2.1 d (k p l e s m args below meth c F ls H locs hl hw hS)
theorem V_lor {x y : Int64} (d : decode M.2.1 pc = .ok (.lor, 1)) (k : V G M K R kc ks sz (pc + 1) lo (.long (x ||| y) :: st) w) : V G M K R kc ks sz pc lo (.long y :: .long x :: st) w :=
  fun p l e s m args below meth c F ls H locs hl hw hS => lv_lor F.1 F.2.1 d (k p l e s m args below meth c F ls H locs hl hw hS)
theorem V_lxor {x y : Int64} (d : decode M.2.1 pc = .ok (.lxor, 1)) (k : V G M K R kc ks sz (pc + 1) lo (.long (x ^^^ y) :: st) w) : V G M K R kc ks sz pc lo (.long y :: .long x :: st) w :=
  fun p l e s m args below meth c F ls H locs hl hw hS => lv_lxor F.1 F.2.1 d (k p l e s m args below meth c F ls H locs hl hw hS)
theorem V_ldiv {x y : Int64} (d : decode M.2.1 pc = .ok (.ldiv, 1)) (hne : ¬ y = 0) (k : V G M K R kc ks sz (pc + 1) lo (.long (x / y) :: st) w) : V G M K R kc ks sz pc lo (.long y :: .long x :: st) w :=
  fun p l e s m args below meth c F ls H locs hl hw hS => lv_ldiv F.1 F.2.1 d hne (k p l e s m args below meth c F ls H locs hl hw hS)
theorem V_lrem {x y : Int64} (d : decode M.2.1 pc = .ok (.lrem, 1)) (hne : ¬ y = 0) (k : V G M K R kc ks sz (pc + 1) lo (.long (x - x / y * y) :: st) w) : V G M K R kc ks sz pc lo (.long y :: .long x :: st) w :=
  fun p l e s m args below meth c F ls H locs hl hw hS => lv_lrem F.1 F.2.1 d hne (k p l e s m args below meth c F ls H locs hl hw hS)
theorem V_lneg {x : Int64} (d : decode M.2.1 pc = .ok (.lneg, 1)) (k : V G M K R kc ks sz (pc + 1) lo (.long (-x) :: st) w) : V G M K R kc ks sz pc lo (.long x :: st) w :=
  fun p l e s m args below meth c F ls H locs hl hw hS => lv_lneg F.1 F.2.1 d (k p l e s m args below meth c F ls H locs hl hw hS)
theorem V_ishl {x y : Int32} (d : decode M.2.1 pc = .ok (.ishl, 1)) (k : V G M K R kc ks sz (pc + 1) lo (.int (x <<< (y &&& 31)) :: st) w) : V G M K R kc ks sz pc lo (.int y :: .int x :: st) w :=
  fun p l e s m args below meth c F ls H locs hl hw hS => lv_ishl F.1 F.2.1 d (k p l e s m args below meth c F ls H locs hl hw hS)
theorem V_ishr {x y : Int32} (d : decode M.2.1 pc = .ok (.ishr, 1)) (k : V G M K R kc ks sz (pc + 1) lo (.int (x >>> (y &&& 31)) :: st) w) : V G M K R kc ks sz pc lo (.int y :: .int x :: st) w :=
  fun p l e s m args below meth c F ls H locs hl hw hS => lv_ishr F.1 F.2.1 d (k p l e s m args below meth c F ls H locs hl hw hS)
theorem V_iushr {x y : Int32} (d : decode M.2.1 pc = .ok (.iushr, 1)) (k : V G M K R kc ks sz (pc + 1) lo (.int ((x.toUInt32 >>> (y.toUInt32 &&& Int32.toUInt32 31)).toInt32) :: st) w) : V G M K R kc ks sz pc lo (.int y :: .int x :: st) w :=
  fun p l e s m args below meth c F ls H locs hl hw hS => lv_iushr F.1 F.2.1 d rfl (k p l e s m args below meth c F ls H locs hl hw hS)
theorem V_lshl {x : Int64} {y : Int32} (d : decode M.2.1 pc = .ok (.lshl, 1)) (k : V G M K R kc ks sz (pc + 1) lo (.long (x <<< (y.toInt64 &&& 63)) :: st) w) : V G M K R kc ks sz pc lo (.int y :: .long x :: st) w :=
  fun p l e s m args below meth c F ls H locs hl hw hS => lv_lshl F.1 F.2.1 d rfl (k p l e s m args below meth c F ls H locs hl hw hS)
theorem V_lshr {x : Int64} {y : Int32} (d : decode M.2.1 pc = .ok (.lshr, 1)) (k : V G M K R kc ks sz (pc + 1) lo (.long (x >>> (y.toInt64 &&& 63)) :: st) w) : V G M K R kc ks sz pc lo (.int y :: .long x :: st) w :=
  fun p l e s m args below meth c F ls H locs hl hw hS => lv_lshr F.1 F.2.1 d rfl (k p l e s m args below meth c F ls H locs hl hw hS)
theorem V_i2l {x : Int32} (d : decode M.2.1 pc = .ok (.i2l, 1)) (k : V G M K R kc ks sz (pc + 1) lo (.long x.toInt64 :: st) w) : V G M K R kc ks sz pc lo (.int x :: st) w :=
  fun p l e s m args below meth c F ls H locs hl hw hS => lv_i2l F.1 F.2.1 d rfl (k p l e s m args below meth c F ls H locs hl hw hS)
theorem V_l2i {x : Int64} (d : decode M.2.1 pc = .ok (.l2i, 1)) (k : V G M K R kc ks sz (pc + 1) lo (.int x.toInt32 :: st) w) : V G M K R kc ks sz pc lo (.long x :: st) w :=
  fun p l e s m args below meth c F ls H locs hl hw hS => lv_l2i F.1 F.2.1 d rfl (k p l e s m args below meth c F ls H locs hl hw hS)
theorem V_dup {va : Value} (d : decode M.2.1 pc = .ok (.dup, 1)) (h1 : va.category = 1) (k : V G M K R kc ks sz (pc + 1) lo (va :: va :: st) w) : V G M K R kc ks sz pc lo (va :: st) w :=
  fun p l e s m args below meth c F ls H locs hl hw hS => lv_dup F.1 F.2.1 d h1 (k p l e s m args below meth c F ls H locs hl hw hS)
theorem V_pop {va : Value} (d : decode M.2.1 pc = .ok (.pop, 1)) (h1 : va.category = 1) (k : V G M K R kc ks sz (pc + 1) lo (st) w) : V G M K R kc ks sz pc lo (va :: st) w :=
  fun p l e s m args below meth c F ls H locs hl hw hS => lv_pop F.1 F.2.1 d h1 (k p l e s m args below meth c F ls H locs hl hw hS)
theorem V_dup_x1 {va vb : Value} (d : decode M.2.1 pc = .ok (.dup_x1, 1)) (h1 : va.category = 1) (h2 : vb.category = 1) (k : V G M K R kc ks sz (pc + 1) lo (va :: vb :: va :: st) w) : V G M K R kc ks sz pc lo (va :: vb :: st) w :=
  fun p l e s m args below meth c F ls H locs hl hw hS => lv_dup_x1 F.1 F.2.1 d h1 h2 (k p l e s m args below meth c F ls H locs hl hw hS)
theorem V_dup_x2 {va vb vd : Value} (d : decode M.2.1 pc = .ok (.dup_x2, 1)) (h1 : va.category = 1) (h2 : vb.category = 1) (h3 : vd.category = 1) (k : V G M K R kc ks sz (pc + 1) lo (va :: vb :: vd :: va :: st) w) : V G M K R kc ks sz pc lo (va :: vb :: vd :: st) w :=
  fun p l e s m args below meth c F ls H locs hl hw hS => lv_dup_x2 F.1 F.2.1 d h1 h2 h3 (k p l e s m args below meth c F ls H locs hl hw hS)
theorem V_dup2 {va vb : Value} (d : decode M.2.1 pc = .ok (.dup2, 1)) (h1 : va.category = 1) (h2 : vb.category = 1) (k : V G M K R kc ks sz (pc + 1) lo (va :: vb :: va :: vb :: st) w) : V G M K R kc ks sz pc lo (va :: vb :: st) w :=
  fun p l e s m args below meth c F ls H locs hl hw hS => lv_dup2_11 F.1 F.2.1 d h1 h2 (k p l e s m args below meth c F ls H locs hl hw hS)
theorem V_dup2L {va : Value} (d : decode M.2.1 pc = .ok (.dup2, 1)) (h1 : va.category = 2) (k : V G M K R kc ks sz (pc + 1) lo (va :: va :: st) w) : V G M K R kc ks sz pc lo (va :: st) w :=
  fun p l e s m args below meth c F ls H locs hl hw hS => lv_dup2_2 F.1 F.2.1 d h1 (k p l e s m args below meth c F ls H locs hl hw hS)
theorem V_dup2_x1L {va vb : Value} (d : decode M.2.1 pc = .ok (.dup2_x1, 1)) (h1 : va.category = 2) (h2 : vb.category = 1) (k : V G M K R kc ks sz (pc + 1) lo (va :: vb :: va :: st) w) : V G M K R kc ks sz pc lo (va :: vb :: st) w :=
  fun p l e s m args below meth c F ls H locs hl hw hS => lv_dup2_x1_2 F.1 F.2.1 d h1 h2 (k p l e s m args below meth c F ls H locs hl hw hS)
theorem V_lcmp {x y : Int64} (d : decode M.2.1 pc = .ok (.lcmp, 1)) (k : V G M K R kc ks sz (pc + 1) lo (.int (lg_cmp x y) :: st) w) : V G M K R kc ks sz pc lo (.long y :: .long x :: st) w :=
  fun p l e s m args below meth c F ls H locs hl hw hS => W.lcmp F.1 F.2.1 d (k p l e s m args below meth c F ls H locs hl hw hS)
theorem V_if_eq {x : Int32} {off : Int} (tgt : Nat) (d : decode M.2.1 pc = .ok (.ifCond .eq off, 3)) (ht : (pc : Int) + off = (tgt : Int)) (kt : x = 0 → V G M K R kc ks sz tgt lo st w) (kf : ¬ x = 0 → V G M K R kc ks sz (pc + 3) lo st w) : V G M K R kc ks sz pc lo (.int x :: st) w :=
  fun p l e s m args below meth c F ls H locs hl hw hS => lv_if_eq F.1 F.2.1 d ht (fun q => kt q p l e s m args below meth c F ls H locs hl hw hS) (fun q => kf q p l e s m args below meth c F ls H locs hl hw hS)
theorem V_if_ne {x : Int32} {off : Int} (tgt : Nat) (d : decode M.2.1 pc = .ok (.ifCond .ne off, 3)) (ht : (pc : Int) + off = (tgt : Int)) (kt : ¬ x = 0 → V G M K R kc ks sz tgt lo st w) (kf : x = 0 → V G M K R kc ks sz (pc + 3) lo st w) : V G M K R kc ks sz pc lo (.int x :: st) w :=
  fun p l e s m args below meth c F ls H locs hl hw hS => lv_if_ne F.1 F.2.1 d ht (fun q => kt q p l e s m args below meth c F ls H locs hl hw hS) (fun q => kf q p l e s m args below meth c F ls H locs hl hw hS)
theorem V_if_lt {x : Int32} {off : Int} (tgt : Nat) (d : decode M.2.1 pc = .ok (.ifCond .lt off, 3)) (ht : (pc : Int) + off = (tgt : Int)) (kt : x < 0 → V G M K R kc ks sz tgt lo st w) (kf : ¬ x < 0 → V G M K R kc ks sz (pc + 3) lo st w) : V G M K R kc ks sz pc lo (.int x :: st) w :=
  fun p l e s m args below meth c F ls H locs hl hw hS => lv_if_lt F.1 F.2.1 d ht (fun q => kt q p l e s m args below meth c F ls H locs hl hw hS) (fun q => kf q p l e s m args below meth c F ls H locs hl hw hS)
theorem V_if_ge {x : Int32} {off : Int} (tgt : Nat) (d : decode M.2.1 pc = .ok (.ifCond .ge off, 3)) (ht : (pc : Int) + off = (tgt : Int)) (kt : 0 ≤ x → V G M K R kc ks sz tgt lo st w) (kf : ¬ 0 ≤ x → V G M K R kc ks sz (pc + 3) lo st w) : V G M K R kc ks sz pc lo (.int x :: st) w :=
  fun p l e s m args below meth c F ls H locs hl hw hS => lv_if_ge F.1 F.2.1 d ht (fun q => kt q p l e s m args below meth c F ls H locs hl hw hS) (fun q => kf q p l e s m args below meth c F ls H locs hl hw hS)
theorem V_if_gt {x : Int32} {off : Int} (tgt : Nat) (d : decode M.2.1 pc = .ok (.ifCond .gt off, 3)) (ht : (pc : Int) + off = (tgt : Int)) (kt : 0 < x → V G M K R kc ks sz tgt lo st w) (kf : ¬ 0 < x → V G M K R kc ks sz (pc + 3) lo st w) : V G M K R kc ks sz pc lo (.int x :: st) w :=
  fun p l e s m args below meth c F ls H locs hl hw hS => lv_if_gt F.1 F.2.1 d ht (fun q => kt q p l e s m args below meth c F ls H locs hl hw hS) (fun q => kf q p l e s m args below meth c F ls H locs hl hw hS)
theorem V_if_le {x : Int32} {off : Int} (tgt : Nat) (d : decode M.2.1 pc = .ok (.ifCond .le off, 3)) (ht : (pc : Int) + off = (tgt : Int)) (kt : x ≤ 0 → V G M K R kc ks sz tgt lo st w) (kf : ¬ x ≤ 0 → V G M K R kc ks sz (pc + 3) lo st w) : V G M K R kc ks sz pc lo (.int x :: st) w :=
  fun p l e s m args below meth c F ls H locs hl hw hS => lv_if_le F.1 F.2.1 d ht (fun q => kt q p l e s m args below meth c F ls H locs hl hw hS) (fun q => kf q p l e s m args below meth c F ls H locs hl hw hS)
theorem V_icmp_eq {x y : Int32} {off : Int} (tgt : Nat) (d : decode M.2.1 pc = .ok (.if_icmp .eq off, 3)) (ht : (pc : Int) + off = (tgt : Int)) (kt : x = y → V G M K R kc ks sz tgt lo st w) (kf : ¬ x = y → V G M K R kc ks sz (pc + 3) lo st w) : V G M K R kc ks sz pc lo (.int y :: .int x :: st) w :=
  fun p l e s m args below meth c F ls H locs hl hw hS => lv_icmp_eq F.1 F.2.1 d ht (fun q => kt q p l e s m args below meth c F ls H locs hl hw hS) (fun q => kf q p l e s m args below meth c F ls H locs hl hw hS)
theorem V_icmp_ne {x y : Int32} {off : Int} (tgt : Nat) (d : decode M.2.1 pc = .ok (.if_icmp .ne off, 3)) (ht : (pc : Int) + off = (tgt : Int)) (kt : ¬ x = y → V G M K R kc ks sz tgt lo st w) (kf : x = y → V G M K R kc ks sz (pc + 3) lo st w) : V G M K R kc ks sz pc lo (.int y :: .int x :: st) w :=
  fun p l e s m args below meth c F ls H locs hl hw hS => lv_icmp_ne F.1 F.2.1 d ht (fun q => kt q p l e s m args below meth c F ls H locs hl hw hS) (fun q => kf q p l e s m args below meth c F ls H locs hl hw hS)
theorem V_icmp_lt {x y : Int32} {off : Int} (tgt : Nat) (d : decode M.2.1 pc = .ok (.if_icmp .lt off, 3)) (ht : (pc : Int) + off = (tgt : Int)) (kt : x < y → V G M K R kc ks sz tgt lo st w) (kf : ¬ x < y → V G M K R kc ks sz (pc + 3) lo st w) : V G M K R kc ks sz pc lo (.int y :: .int x :: st) w :=
  fun p l e s m args below meth c F ls H locs hl hw hS => lv_icmp_lt F.1 F.2.1 d ht (fun q => kt q p l e s m args below meth c F ls H locs hl hw hS) (fun q => kf q p l e s m args below meth c F ls H locs hl hw hS)
theorem V_icmp_ge {x y : Int32} {off : Int} (tgt : Nat) (d : decode M.2.1 pc = .ok (.if_icmp .ge off, 3)) (ht : (pc : Int) + off = (tgt : Int)) (kt : y ≤ x → V G M K R kc ks sz tgt lo st w) (kf : ¬ y ≤ x → V G M K R kc ks sz (pc + 3) lo st w) : V G M K R kc ks sz pc lo (.int y :: .int x :: st) w :=
  fun p l e s m args below meth c F ls H locs hl hw hS => lv_icmp_ge F.1 F.2.1 d ht (fun q => kt q p l e s m args below meth c F ls H locs hl hw hS) (fun q => kf q p l e s m args below meth c F ls H locs hl hw hS)
theorem V_icmp_gt {x y : Int32} {off : Int} (tgt : Nat) (d : decode M.2.1 pc = .ok (.if_icmp .gt off, 3)) (ht : (pc : Int) + off = (tgt : Int)) (kt : y < x → V G M K R kc ks sz tgt lo st w) (kf : ¬ y < x → V G M K R kc ks sz (pc + 3) lo st w) : V G M K R kc ks sz pc lo (.int y :: .int x :: st) w :=
  fun p l e s m args below meth c F ls H locs hl hw hS => lv_icmp_gt F.1 F.2.1 d ht (fun q => kt q p l e s m args below meth c F ls H locs hl hw hS) (fun q => kf q p l e s m args below meth c F ls H locs hl hw hS)
theorem V_icmp_le {x y : Int32} {off : Int} (tgt : Nat) (d : decode M.2.1 pc = .ok (.if_icmp .le off, 3)) (ht : (pc : Int) + off = (tgt : Int)) (kt : x ≤ y → V G M K R kc ks sz tgt lo st w) (kf : ¬ x ≤ y → V G M K R kc ks sz (pc + 3) lo st w) : V G M K R kc ks sz pc lo (.int y :: .int x :: st) w :=
  fun p l e s m args below meth c F ls H locs hl hw hS => lv_icmp_le F.1 F.2.1 d ht (fun q => kt q p l e s m args below meth c F ls H locs hl hw hS) (fun q => kf q p l e s m args below meth c F ls H locs hl hw hS)
theorem V_goto {off : Int} (tgt : Nat) (d : decode M.2.1 pc = .ok (.goto off, 3)) (ht : (pc : Int) + off = (tgt : Int)) (k : V G M K R kc ks sz tgt lo st w) : V G M K R kc ks sz pc lo st w :=
  fun p l e s m args below meth c F ls H locs hl hw hS => lv_goto F.1 F.2.1 d ht (k p l e s m args below meth c F ls H locs hl hw hS)
theorem V_tableIn {x : Int32} {dflt tl th : Int} {offs : Array Int} {len : Nat} {off : Int} (tgt : Nat) (d : decode M.2.1 pc = .ok (.tableswitch dflt tl th offs, len)) (h1 : ¬ x.toInt < tl) (h2 : ¬ th < x.toInt) (ho : offs[(x.toInt - tl).toNat]? = some off) (ht : (pc : Int) + off = (tgt : Int)) (k : V G M K R kc ks sz tgt lo st w) : V G M K R kc ks sz pc lo (.int x :: st) w :=
  fun p l e s m args below meth c F ls H locs hl hw hS => lv_tableIn F.1 F.2.1 d h1 h2 ho ht (k p l e s m args below meth c F ls H locs hl hw hS)
theorem V_tableOut {x : Int32} {dflt tl th : Int} {offs : Array Int} {len : Nat} (tgt : Nat) (d : decode M.2.1 pc = .ok (.tableswitch dflt tl th offs, len)) (h : x.toInt < tl ∨ th < x.toInt) (ht : (pc : Int) + dflt = (tgt : Int)) (k : V G M K R kc ks sz tgt lo st w) : V G M K R kc ks sz pc lo (.int x :: st) w :=
  fun p l e s m args below meth c F ls H locs hl hw hS => lv_tableOut F.1 F.2.1 d h ht (k p l e s m args below meth c F ls H locs hl hw hS)
theorem V_ldc {idx : Nat} {v : Int32} (d : decode M.2.1 pc = .ok (.ldc idx, 2)) (hc : zin (.constant M.1.cls idx v)) (k : V G M K R kc ks sz (pc + 2) lo (.int v :: st) w) : V G M K R kc ks sz pc lo st w :=
  fun p l e s m args below meth c F ls H locs hl hw hS => lv_ldc F.1 F.2.1 F.2.2.2.1 (F.2.2.2.2.1.use hc _) d (k p l e s m args below meth c F ls H locs hl hw hS)
theorem V_ldc2 {idx : Nat} {v : Int64} (d : decode M.2.1 pc = .ok (.ldc2_w idx, 3)) (hc : zin (.constantLong M.1.cls idx v)) (k : V G M K R kc ks sz (pc + 3) lo (.long v :: st) w) : V G M K R kc ks sz pc lo st w :=
  fun p l e s m args below meth c F ls H locs hl hw hS => lv_ldc2 F.1 F.2.1 F.2.2.2.1 (F.2.2.2.2.1.use hc _) d (k p l e s m args below meth c F ls H locs hl hw hS)
end ZV
end
section
/-! reading and writing cells, making them, ends and calls -/
theorem zF.wd {G : zG} {M : zM} {p : Program} {l : Launch} {s : State} {m : MethodId} {meth : Method} {c : Code} (F : zF G M p l s m meth c) : zWd s := F.2.2.2.2.1
theorem zF.ml {G : zG} {M : zM} {p : Program} {l : Launch} {s : State} {m : MethodId} {meth : Method} {c : Code} (F : zF G M p l s m meth c) : c.maxLocals = M.2.2.1 := F.2.2.1
theorem zF.own {G : zG} {M : zM} {p : Program} {l : Launch} {s : State} {m : MethodId} {meth : Method} {c : Code} (F : zF G M p l s m meth c) : s.vm.findClass M.1.cls = some m.cls := F.2.2.2.1
theorem zF.ret {G : zG} {M : zM} {p : Program} {l : Launch} {s : State} {m : MethodId} {meth : Method} {c : Code} (F : zF G M p l s m meth c) : meth.sig.returnType = M.2.2.2.1 := F.2.2.2.2.2.1
theorem zF.lk {G : zG} {M : zM} {p : Program} {l : Launch} {s : State} {m : MethodId} {meth : Method} {c : Code} (F : zF G M p l s m meth c) : meth.locks = false := F.2.2.2.2.2.2.1
theorem zF.nm {G : zG} {M : zM} {p : Program} {l : Launch} {s : State} {m : MethodId} {meth : Method} {c : Code} (F : zF G M p l s m meth c) : meth.name = M.1.name := F.2.2.2.2.2.2.2.1
theorem zF.ex {G : zG} {M : zM} {p : Program} {l : Launch} {s : State} {m : MethodId} {meth : Method} {c : Code} (F : zF G M p l s m meth c) : c.exceptionTable.toList.map (fun h => (h.startPc, h.endPc, h.handlerPc, h.catchType)) = M.2.2.2.2 := F.2.2.2.2.2.2.2.2.1
theorem zF.kn {G : zG} {M : zM} {p : Program} {l : Launch} {s : State} {m : MethodId} {meth : Method} {c : Code} (F : zF G M p l s m meth c) : zKn G s := F.2.2.2.2.2.2.2.2.2.1
theorem zF.kk {G : zG} {M : zM} {p : Program} {l : Launch} {s : State} {m : MethodId} {meth : Method} {c : Code} (F : zF G M p l s m meth c) : va_K G.1 vwCl (zty G) s := F.kn.1
def zset (w : zW) (a : Nat) (e : va_E) : zW := fun q => if q = a then some e else w q
theorem zset_s {w : zW} {a : Nat} {e : va_E} : zset w a e a = some e := if_pos rfl
theorem zset_n {w : zW} {a q : Nat} {e : va_E} (h : q ≠ a) : zset w a e q = w q := if_neg h
theorem zH.at {G : zG} {w : zW} {sz a : Nat} {H : Heap} {e : va_E} (h : zH G w sz H) (he : w a = some e) : va_at G.1 vwCl (a, e) H := (h.2.2 _ _ he).2
theorem zH.put {G : zG} {w : zW} {sz a : Nat} {H H1 : Heap} {e0 e : va_E} (h : zH G w sz H) (ha : w a = some e0) (h1 : va_at G.1 vwCl (a, e) H1) (z : H1.size = H.size) (oq : ∀ q, q ≠ a → H1[q]? = H[q]?) : zH G (zset w a e) sz H1 := by
  refine ⟨z.trans h.1, h.2.1, fun q x hx => ?_⟩
  by_cases hq : q = a
  · subst hq
    rw [zset_s] at hx
    cases hx
    exact ⟨(h.2.2 _ _ ha).1, h1⟩
  · rw [zset_n hq] at hx
    exact ⟨(h.2.2 q x hx).1, (h.2.2 q x hx).2.kept (oq q hq)⟩
theorem zH.new {G : zG} {w : zW} {sz : Nat} {H H1 : Heap} {e : va_E} (h : zH G w sz H) (h1 : va_at G.1 vwCl (sz, e) H1) (z : H1.size = sz + 1) (oq : ∀ q, q < sz → H1[q]? = H[q]?) : zH G (zset w sz e) (sz + 1) H1 := by
  refine ⟨z, Nat.le_succ_of_le h.2.1, fun q x hx => ?_⟩
  by_cases hq : q = sz
  · subst hq
    rw [zset_s] at hx
    cases hx
    exact ⟨h.2.1, h1⟩
  · rw [zset_n hq] at hx
    have h2 := h.2.2 q x hx
    exact ⟨h2.1, h2.2.kept (oq q (by have := h2.2.lt; rw [h.1] at this; exact this))⟩
theorem zP1 {G : zG} {w : zW} {sz a : Nat} {H : Heap} {e : va_E} (h : zH G w sz H) (he : w a = some e) : va_P G.1 vwCl [(a, e)] H := by
  intro k q hq
  have hz : k < 1 := (List.getElem?_eq_some_iff.mp hq).1
  rw [show k = 0 by omega] at hq
  cases hq
  exact h.at he
abbrev zrow (G : zG) (n : Nat) (f : Nat → Int64) : va_E := .inl (G.2.1 0, (n, .inr (.inl f)))
abbrev zints (G : zG) (n : Nat) (f : Nat → Int32) : va_E := .inl (G.2.1 2, (n, .inl f))
abbrev zrefs (G : zG) (k n : Nat) (f : Nat → Option Nat) : va_E := .inl (G.2.1 k, (n, .inr (.inr (.inr (.inr f)))))
abbrev zobj (ci : Nat) (fs : List Value) : va_E := .inr (ci, fs)
def zFF (own : String) (idx ci k : Nat) : Prop := ∃ (C : String) (T : u_T) (N : Nat) (ty0 : Nat → FieldType), vwCl[ci]? = some (C, T, N) ∧ k < N ∧ (∀ w ∈ u_ws C T N, zin w) ∧ (∀ j, j < N → parseFieldDescriptor (T j).2.2.1 = some (ty0 j)) ∧
  (∀ a, a < N → ∀ b, b < N → a ≠ b → (T a).2.1 ≠ (T b).2.1) ∧ (zin (.fieldLink own idx (T k).1 (T k).2.1 (T k).2.2.1) ∨ ∃ host, zin (.fieldLinkNest own idx (T k).1 (T k).2.1 (T k).2.2.1 host))
/-- what may be stored in a field that isn't final -/
def zfit (ci k : Nat) (v : Value) : Prop := ∃ (C : String) (T : u_T) (N : Nat) (ty : FieldType), vwCl[ci]? = some (C, T, N) ∧ parseFieldDescriptor (T k).2.2.1 = some ty ∧ narrow ty v = v ∧ fits ty v = true ∧ (T k).2.2.2 = false
section ZH
variable {G : zG} {M : zM} {K : zK} {R : Room} {kc ks sz pc : Nat} {lo : List (Nat × Value)} {st : List Value} {w : zW}
theorem V_getf {a ci k idx : Nat} {fs : List Value} {v : Value} (d : decode M.2.1 pc = .ok (.getfield idx, 3)) (hf : zFF M.1.cls idx ci k) (h : w a = some (.inr (ci, fs))) (hv : fs[k]? = some v) (kk : V G M K R kc ks sz (pc + 3) lo (v :: st) w) : V G M K R kc ks sz pc lo (.ref a :: st) w :=
  fun p l e s m args below meth c F ls H locs hl hw hS => by
    obtain ⟨C, T, N, ty0, h1, h2, h3, h4, h5, h6⟩ := hf
    rcases h6 with h6 | ⟨host, h6⟩
    · exact va_get (D := G.1) (Ts := u_ws C T N) F.1 F.2.1 (fun q hq => F.wd.use (h3 q hq) args) (fun _ hq => hq) F.own F.kk (zP1 hw h) 0 rfl h1 k h2 (F.wd.use h6 args) (fun _ hq => hq) hv d (kk p l e s m args below meth c F ls H locs hl hw hS)
    · exact va_getN (D := G.1) (Ts := u_ws C T N) F.1 F.2.1 (fun q hq => F.wd.use (h3 q hq) args) (fun _ hq => hq) F.own F.kk (zP1 hw h) 0 rfl h1 k h2 (F.wd.use h6 args) (fun _ hq => hq) hv d (kk p l e s m args below meth c F ls H locs hl hw hS)
theorem zob_set {C : String} {T : u_T} {N ci k : Nat} {fs : List Value} {v : Value} {cell : Cell} {a : Nat} {H1 : Heap} {D : va_G} (hc : vwCl[ci]? = some (C, T, N)) (hk : k < N) (hl : k < fs.length) (hap : ∀ x y, x < N → y < N → x ≠ y → D.2 ci x ≠ D.2 ci y)
    (q2 : cell.cls = D.1 ci) (q3 : cell.vm = .none) (q4 : ∀ j, j < N → cell.slots[D.2 ci j]? = some (vp_V fs j)) (e1 : H1[a]? = some (cell.setSlot (D.2 ci k) v)) : va_at D vwCl (a, .inr (ci, fs.set k v)) H1 := by
  refine ⟨_, hc, cell.setSlot (D.2 ci k) v, e1, q2, q3, fun j hj => ?_⟩
  rw [t_set q4 hap hk v j hj, vp_updV_set hl]
theorem V_putf {a ci k idx : Nat} {fs : List Value} {v : Value} (d : decode M.2.1 pc = .ok (.putfield idx, 3)) (hf : zFF M.1.cls idx ci k) (h : w a = some (.inr (ci, fs))) (hft : zfit ci k v) (hlen : k < fs.length) (kk : V G M K R kc ks sz (pc + 3) lo st (zset w a (.inr (ci, fs.set k v)))) : V G M K R kc ks sz pc lo (v :: .ref a :: st) w :=
  fun p l e s m args below meth c F ls H locs hl hw hS => by
    obtain ⟨C, T, N, ty0, h1, h2, h3, h4, h5, h6⟩ := hf
    obtain ⟨C', T', N', ty, g1, g2, g3, g4, g5⟩ := hft
    cases h1.symm.trans g1
    have hts : ∀ q ∈ u_ws C T N, q.before args s = true := fun q hq => F.wd.use (h3 q hq) args
    have hap := va_apart (own := M.1.cls) hts (fun _ hq => hq) ty0 h4 h5 F.kk h1
    obtain ⟨r, r1, cell, q1, q2, q3, q4⟩ := hw.at h
    have hr : r = (C, T, N) := Option.some.inj (r1.symm.trans h1)
    subst hr
    obtain ⟨hSl, hfc, kC, hkC, hkind⟩ := F.kk.1 ci _ h1
    obtain ⟨cf, kf, fi, f, hi, hsl⟩ := hSl k h2
    have hlay := hts _ (u_in_lay h2)
    unfold u_lay at hlay
    rw [if_neg (by rw [g5]; decide)] at hlay
    have hst := (u_facts hfc hkC (u_lays hts (fun _ hq => hq) h2) hi).1
    have h8 := u_store hfc hkC hkind hlay hi g2 g3 g4
    have fin : ∀ H' : Heap, H'[a]? = some (cell.setSlot f.slot v) → H'.size = H.size → (∀ q, q ≠ a → H'[q]? = H[q]?) → W p l e R s m args below meth c H' (locs ++ [⟨a, f.slot⟩]) kc ks (zQ G K below s) (F0 m (pc + 3) ls st) := fun H' e1 e2 e3 =>
      kk p l e s m args below meth c F ls H' _ hl (hw.put h (zob_set (D := G.1) h1 h2 hlen hap q2 q3 q4 (by rw [← hsl]; exact e1)) e2 e3) (hS.put e2 e3 (hw.2.2 _ _ h).1)
    rcases h6 with h6 | ⟨host, h6⟩
    · exact W.putK F.1 F.2.1 (f := f) ⟨F.own, F.wd.use h6 args, ⟨_, _, _, hi⟩, hst⟩ (by rw [q2]; exact h8) q1 q3 (by rw [hsl]; exact k2_hasslot (q4 k h2)) rfl rfl d fin
    · exact va_WputK F.1 F.2.1 (f := f) F.own (F.wd.use h6 args) hi hst (by rw [q2]; exact h8) q1 q3 (by rw [hsl]; exact k2_hasslot (q4 k h2)) rfl rfl d fin
theorem V_laload {a n : Nat} {f : Nat → Int64} {i : Int32} (d : decode M.2.1 pc = .ok (.laload, 1)) (h : w a = some (zrow G n f)) (hin : vp_in i n) (k : V G M K R kc ks sz (pc + 1) lo (.long (f i.toNatClampNeg) :: st) w) : V G M K R kc ks sz pc lo (.int i :: .ref a :: st) w :=
  fun p l e s m args below meth c F ls H locs hl hw hS => va_lald F.1 F.2.1 F.kk (zP1 hw h) 0 0 rfl rfl hin d (k p l e s m args below meth c F ls H locs hl hw hS)
theorem V_iaload {a n : Nat} {f : Nat → Int32} {i : Int32} (d : decode M.2.1 pc = .ok (.iaload, 1)) (h : w a = some (zints G n f)) (hin : vp_in i n) (k : V G M K R kc ks sz (pc + 1) lo (.int (f i.toNatClampNeg) :: st) w) : V G M K R kc ks sz pc lo (.int i :: .ref a :: st) w :=
  fun p l e s m args below meth c F ls H locs hl hw hS => va_iald F.1 F.2.1 F.kk (zP1 hw h) 0 2 rfl rfl hin d (k p l e s m args below meth c F ls H locs hl hw hS)
theorem V_aaload {a n b ka : Nat} {f : Nat → Option Nat} {i : Int32} {ty : FieldType} (d : decode M.2.1 pc = .ok (.aaload, 1)) (h : w a = some (zrefs G ka n f)) (ht : (zty G)[ka]? = some (G.2.1 ka, ty)) (href : ty.isReference = true) (hin : vp_in i n) (hb : f i.toNatClampNeg = some b) (k : V G M K R kc ks sz (pc + 1) lo (.ref b :: st) w) : V G M K R kc ks sz pc lo (.int i :: .ref a :: st) w :=
  fun p l e s m args below meth c F ls H locs hl hw hS => by
    have hlt : i.toNatClampNeg < n := Nat.not_le.mp fun q => hin (Or.inr q)
    exact W.aald (v := .ref b) (ty := ty) F.1 F.2.1 (hw.at h) ((F.kk.2 ka _ ht).1 n (fun j => va_rf (f j))) href (fun q => by cases q) (by show ¬ (i < 0 ∨ (arrV _ _ _).slots.size ≤ _); rw [arrV_size]; exact hin) (by show (arrV _ _ _).slots[_]? = _; rw [arrV_read _ _ hlt, hb]; rfl) rfl rfl d (k p l e s m args below meth c F ls H locs hl hw hS)
theorem V_lastore {a n : Nat} {f : Nat → Int64} {i : Int32} {x : Int64} (d : decode M.2.1 pc = .ok (.lastore, 1)) (h : w a = some (zrow G n f)) (hin : vp_in i n) (k : V G M K R kc ks sz (pc + 1) lo st (zset w a (zrow G n (vp_updL f i.toNatClampNeg x)))) : V G M K R kc ks sz pc lo (.long x :: .int i :: .ref a :: st) w :=
  fun p l e s m args below meth c F ls H locs hl hw hS => by
    refine W.last F.1 F.2.1 (hw.at h) ((F.kk.2 0 _ rfl).1 n (fun j => .long (f j))) (fun q => by cases q) (by show ¬ (i < 0 ∨ (arrV _ _ _).slots.size ≤ _); rw [arrV_size]; exact hin) rfl rfl d fun H1 e1 z oq => ?_
    refine k p l e s m args below meth c F ls H1 _ hl (hw.put h ?_ z oq) (hS.put z oq (hw.2.2 _ _ h).1)
    show H1[a]? = some (vp_cell _ _)
    rw [e1, vp_cell_l, vp_cell_l, arrV_store]
    congr 2
    funext q
    by_cases hq : q = i.toNatClampNeg
    · subst hq
      simp [updV, vp_updL]
    · simp [updV, vp_updL, hq]
theorem V_iastore {a n : Nat} {f : Nat → Int32} {i x : Int32} (d : decode M.2.1 pc = .ok (.iastore, 1)) (h : w a = some (zints G n f)) (hin : vp_in i n) (k : V G M K R kc ks sz (pc + 1) lo st (zset w a (zints G n (va_up f i.toNatClampNeg x)))) : V G M K R kc ks sz pc lo (.int x :: .int i :: .ref a :: st) w :=
  fun p l e s m args below meth c F ls H locs hl hw hS => by
    refine W.iast F.1 F.2.1 (hw.at h) ((F.kk.2 2 _ rfl).1 n (fun j => .int (f j))) (fun q => by cases q) (by show ¬ (i < 0 ∨ (arrV _ _ _).slots.size ≤ _); rw [arrV_size]; exact hin) rfl rfl d fun H1 e1 z oq => ?_
    refine k p l e s m args below meth c F ls H1 _ hl (hw.put h ?_ z oq) (hS.put z oq (hw.2.2 _ _ h).1)
    show H1[a]? = some (vp_cell _ _)
    rw [e1, vp_cell_i, vp_cell_i, arrV_store]
    congr 2
    funext q
    by_cases hq : q = i.toNatClampNeg
    · subst hq
      simp [updV, va_up]
    · simp [updV, va_up, hq]
theorem V_alen {a ka : Nat} {x : vp_A} {ty : FieldType} (d : decode M.2.1 pc = .ok (.arraylength, 1)) (h : w a = some (.inl (G.2.1 ka, x))) (ht : (zty G)[ka]? = some (G.2.1 ka, ty)) (k : V G M K R kc ks sz (pc + 1) lo (.int (Int32.ofNat x.1) :: st) w) : V G M K R kc ks sz pc lo (.ref a :: st) w :=
  fun p l e s m args below meth c F ls H locs hl hw hS => va_alen F.1 F.2.1 F.kk (zP1 hw h) 0 ka rfl ht rfl d (k p l e s m args below meth c F ls H locs hl hw hS)
/-! ends -/
theorem zW_mono {p : Program} {l : Launch} {e : Env} {s : State} {m : MethodId} {args : Array Value} {below : List Frame} {meth : Method} {c : Code} {H : Heap} {locs : List Loc} {Q Q' : State → Prop} {g : JFrame} (h : ∀ t, Q t → Q' t) (k : W p l e R s m args below meth c H locs kc ks Q g) : W p l e R s m args below meth c H locs kc ks Q' g :=
  fun T hT X => by
    obtain ⟨t, a, b⟩ := k T hT X
    exact ⟨t, a, h t b⟩
theorem zQ_of {s : State} {args : Array Value} {below : List Frame} {H : Heap} {locs : List Loc} {v : Option Value} (hk : kc ≤ K.2.1 ∧ ks ≤ K.2.2) (h : K.1 (.inl v) w sz) (hw : zH G w sz H) (hS : va_S (zA G) s.heap H locs) :
    ∀ t, MQ below (fun _ _ o t => o = .returned v ∧ t.heap = H) args s kc ks (zA G) t → zQ G K below s t := by
  rintro t ⟨o, h1, h2, ⟨h3, h4⟩, L, ⟨-, h5, h6⟩, h7⟩
  exact ⟨o, h1, h2, h5, ⟨L, h6.mono hk.1 hk.2, h7⟩, hS.F h4, w, sz, by rw [h4]; exact hw, Or.inl ⟨v, h3, h⟩⟩
theorem V_ireturn {v : Int32} (d : decode M.2.1 pc = .ok (.ireturn, 1)) (hr : M.2.2.2.1 = some .int) (hk : kc ≤ K.2.1 ∧ ks ≤ K.2.2) (h : K.1 (.inl (some (.int v))) w sz) : V G M K R kc ks sz pc lo [.int v] w :=
  fun p l e s m args below meth c F ls H locs hl hw hS => zW_mono (zQ_of hk h hw hS) (W.iret F.1 F.2.1 (F.ret.trans hr) (fun t ht _ => ⟨rfl, ht⟩) hS.2.2 d F.lk)
theorem V_zreturn {v : Int32} (d : decode M.2.1 pc = .ok (.ireturn, 1)) (hr : M.2.2.2.1 = some .boolean) (hv : narrow .boolean (.int v) = .int v) (hk : kc ≤ K.2.1 ∧ ks ≤ K.2.2) (h : K.1 (.inl (some (.int v))) w sz) : V G M K R kc ks sz pc lo [.int v] w :=
  fun p l e s m args below meth c F ls H locs hl hw hS => zW_mono (zQ_of hk h hw hS) (W.zret F.1 F.2.1 (F.ret.trans hr) hv (fun t ht _ => ⟨rfl, ht⟩) hS.2.2 d F.lk)
theorem V_lreturn {v : Int64} (d : decode M.2.1 pc = .ok (.lreturn, 1)) (hr : M.2.2.2.1 = some .long) (hk : kc ≤ K.2.1 ∧ ks ≤ K.2.2) (h : K.1 (.inl (some (.long v))) w sz) : V G M K R kc ks sz pc lo [.long v] w :=
  fun p l e s m args below meth c F ls H locs hl hw hS => zW_mono (zQ_of hk h hw hS) (W.lret F.1 F.2.1 (F.ret.trans hr) (fun t ht _ => ⟨rfl, ht⟩) hS.2.2 d F.lk)
theorem V_areturn {a : Nat} {rt : FieldType} (d : decode M.2.1 pc = .ok (.areturn, 1)) (hr : M.2.2.2.1 = some rt) (hrt : (∃ n, rt = .object n) ∨ ∃ t, rt = .array t) (hk : kc ≤ K.2.1 ∧ ks ≤ K.2.2) (h : K.1 (.inl (some (.ref a))) w sz) : V G M K R kc ks sz pc lo [.ref a] w :=
  fun p l e s m args below meth c F ls H locs hl hw hS => zW_mono (zQ_of hk h hw hS) (W.aret F.1 F.2.1 (F.ret.trans hr) hrt (Or.inr ⟨a, rfl⟩) (fun t ht _ => ⟨rfl, ht⟩) hS.2.2 d F.lk)
theorem V_return (d : decode M.2.1 pc = .ok (.return_, 1)) (hr : M.2.2.2.1 = none) (hk : kc ≤ K.2.1 ∧ ks ≤ K.2.2) (h : K.1 (.inl none) w sz) : V G M K R kc ks sz pc lo [] w :=
  fun p l e s m args below meth c F ls H locs hl hw hS => zW_mono (zQ_of hk h hw hS) (W.vret F.1 F.2.1 (F.ret.trans hr) (fun t ht _ => ⟨rfl, ht⟩) hS.2.2 d F.lk)
end ZH
end
section
/-! calls: the callee's walk is entered and left; it may answer or throw -/
theorem zweaken {tb : Tables} {e : Env} {mid below : List Frame} {a b : State} (h : Steps tb e (mid ++ below) a b) : Steps tb e below a b := by
  obtain ⟨n, hn, w⟩ := h
  exact ⟨n, hn, fun k hk => (w k hk).weaken⟩
def zpop : Nat → List Value → List Value → Option (List Value × List Value)
  | 0, st, acc => some (acc, st)
  | n + 1, v :: st, acc => zpop n st (v :: acc)
  | _ + 1, [], _ => none
theorem zpop_eq {n : Nat} {st acc As rest : List Value} (h : zpop n st acc = some (As, rest)) : ∃ Bs, As = Bs ++ acc ∧ st = Bs.reverse ++ rest ∧ Bs.length = n := by
  induction n generalizing st acc with
  | zero =>
    simp only [zpop] at h
    cases h
    exact ⟨[], rfl, rfl, rfl⟩
  | succ n ih =>
    cases st with
    | nil => simp [zpop] at h
    | cons v st =>
      obtain ⟨Bs, h1, h2, h3⟩ := ih (by simpa [zpop] using h)
      exact ⟨Bs ++ [v], by simp [h1], by simp [h2], by simp [h3]⟩
def zGo (p : Program) (l : Launch) (e : Env) (R : Room) (s : State) (m : MethodId) (args : Array Value) (below : List Frame) (meth : Method) (c : Code) (H : Heap) (locs : List Loc) (kc ks : Nat) (y : MethodName) (as : List Value) (g : JFrame) (rest : List Value) : Prop :=
  ∀ T : State, T.heap = H → Stand p l e R s m args below meth c T locs kc ks → ∃ (vm₁ : Vm) (mk : MethodId), Stand p l e R s m args below meth c (T.setVm vm₁) locs kc ks ∧ s.methodNamed? y = some mk ∧
    ∀ target, (∀ acts, Steps p.tables e below (doInvoke e ((T.setVm vm₁).setTop { g with stack := rest }) acts mk as.toArray).1 target) → Steps p.tables e below (T.setTop g) target
section ZC
variable {G : zG} {M : zM} {K : zK} {R : Room} {kc ks sz pc : Nat} {lo : List (Nat × Value)} {st : List Value} {w : zW}
abbrev zCt (G : zG) (M : zM) (R : Room) (as : List Value) (sz : Nat) (w : zW) (K : zK) : Prop := V G M K R 0 0 sz 0 (lv_args 0 as) [] w
/-- the room of a callee in its caller's -/
abbrev zRm (M' : zM) (R' : Room) (R : Room) (kc ks : Nat) : Prop := R'.frames + 1 ≤ R.frames ∧ 8 + (M'.2.2.1 + 11) + R'.locals ≤ R.locals ∧ kc + R'.cells ≤ R.cells ∧ ks + R'.slots ≤ R.slots
/-- the callee's code stands in the tables -/
def zCo (M' : zM) : Prop := (zin (.code M'.1 M'.2.1 M'.2.2.1 M'.2.2.2.1) ∧ M'.2.2.2.2 = []) ∨ zin (.codeWith M'.1 M'.2.1 M'.2.2.1 M'.2.2.2.1 M'.2.2.2.2)
abbrev zCd (M' : zM) (as : List Value) : Prop := zCo M' ∧ plainName M'.1.cls = true ∧ (lg_sl as).length ≤ M'.2.2.1
theorem zCo.spec {M' : zM} {s : State} (h : zCo M') (hw : zWd s) : ∃ mk meth c, s.methodNamed? M'.1 = some mk ∧ s.vm.method? mk = some meth ∧ meth.code = some c ∧ c.code = M'.2.1 ∧ c.maxLocals = M'.2.2.1 ∧ meth.sig.returnType = M'.2.2.2.1 ∧ meth.locks = false ∧
    c.exceptionTable.toList.map (fun h => (h.startPc, h.endPc, h.handlerPc, h.catchType)) = M'.2.2.2.2 ∧ parseMethodDescriptor M'.1.desc = some meth.sig := by
  rcases h with ⟨h, h0⟩ | h
  · have hc := hw.use h #[]
    obtain ⟨mk, hn⟩ := Cond.code_named hc
    obtain ⟨meth, c, h1, h2, h3, h4, h5, h6, h7, h8⟩ := Cond.code_spec hn hc
    refine ⟨mk, meth, c, hn, h1, h2, h3, h4, h5, h6, ?_, h8⟩
    rw [Array.isEmpty_iff] at h7
    rw [h7, h0]
    rfl
  · obtain ⟨mk, meth, c, hn, h1, h2, h3, h4, h5, h6, h7, h8⟩ := Cond.codeWith_spec (hw.use h #[])
    exact ⟨mk, meth, c, hn, h1, h2, h3, h4, h6, h7, h5, h8⟩
set_option maxHeartbeats 1000000 in
theorem zrun {p : Program} {l : Launch} {e : Env} {s : State} {m : MethodId} {args : Array Value} {below : List Frame} {meth : Method} {c : Code} {H : Heap} {locs : List Loc} {ls : Array Slot} {M' : zM} {K' : zK} {R' : Room} {as rest st0 : List Value} {ig : Instr}
    (hM : zCt G M' R' as sz w K') (hc : zCd M' as) (hR : zRm M' R' R kc ks)
    (F : zF G M p l s m meth c) (hl : lv_has ls M.2.2.1 lo) (hw : zH G w sz H) (hS : va_S (zA G) s.heap H locs)
    (hgo : zGo p l e R s m args below meth c H locs kc ks M'.1 as (F0 m pc ls st0) rest) (hWt : (rest.map fun v => v.category).sum ≤ 8) (hdg : decode M.2.1 pc = .ok (ig, 3))
    (kr : ∀ v w' sz', K'.1 (.inl v) w' sz' → V G M K R (kc + K'.2.1) (ks + K'.2.2) sz' (pc + 3) lo (v.toList ++ rest) w')
    (kt : ∀ C w' sz' x (T' : State) (L : List Loc), K'.1 (.inr C) w' sz' → Stand p l e R s m args below meth c T' (locs ++ L) (kc + K'.2.1) (ks + K'.2.2) → zH G w' sz' T'.heap → va_S (zA G) s.heap T'.heap (locs ++ L) → zEx C x T' →
      ∃ t2, Steps p.tables e below ((T'.setTop (F0 m pc ls rest)).pushFrame (.throwing x)) t2 ∧ zQ G K below s t2) :
    W p l e R s m args below meth c H locs kc ks (zQ G K below s) (F0 m pc ls st0) := by
  intro T hT X
  obtain ⟨vm₁, mk, X₁, hn, hstep⟩ := hgo T hT X
  have hW₁ : s.WarmedH vm₁ := X₁.warmed
  obtain ⟨mk', methk, ck, hn', hmk, hck, hbk, hlk, hrk, hlock, hex, hsig⟩ := hc.1.spec F.wd
  cases hn.symm.trans hn'
  have hmk₁ : (T.setVm vm₁).vm.method? mk = some methk := by
    show vm₁.method? mk = some methk
    rw [hW₁.alike.method?]; exact hmk
  have hn₁ : (T.setVm vm₁).methodNamed? M'.1 = some mk := X₁.named hn
  have hpk : (T.setVm vm₁).plainMethod mk := State.plainMethod.of_named (plainFor_of_name hc.2.1) hn₁ hmk₁
  have hsize : (F0 m pc ls rest).locals.size = c.maxLocals := hl.1.trans F.ml.symm
  have hdg' : decode c.code (F0 m pc ls rest).pc = .ok (ig, 3) := by rw [F.2.1]; exact hdg
  obtain ⟨Y, hin⟩ := X₁.into (g := F0 m pc ls rest) rfl hsize hdg' as.toArray (R' := R') hmk₁ hck hlock hpk hR.1
    (by rw [hlk]; show 2 * 0 + (rest.map fun v => v.category).sum + _ + _ ≤ _; have := hR.2.1; omega) hR.2.2.1 hR.2.2.2
  have hheap : ((T.setVm vm₁).calling (F0 m pc ls rest) mk as.toArray).heap = H := hT
  have hSc : ∀ q : Nat, q < s.heap.size → ¬ zA G q → H[q]? = s.heap[q]? := hS.2.1
  have F' : zF G M' p l ((T.setVm vm₁).calling (F0 m pc ls rest) mk as.toArray) mk methk ck :=
    ⟨F.1, hbk, hlk, findClass_of_methodNamed (s := T.setVm vm₁) hn₁, F.wd.moved hW₁, hrk, hlock, (name_of_methodNamed hn hmk).1, hex, F.kn.moved hW₁ (fun a h1 h2 => by rw [hheap]; exact hSc a h1 h2), F.2.2.2.2.2.2.2.2.2.2⟩
  rw [hlk] at Y hin
  rw [lg_entry_eq] at Y hin
  obtain ⟨t, a1, o, b1, b2, b3, ⟨L, b4, b5⟩, b6, w', sz', b7, b8⟩ := hM p l e ((T.setVm vm₁).calling (F0 m pc ls rest) mk as.toArray) mk as.toArray (.java (F0 m pc ls rest) :: below) methk ck F' _ H [] (lv_entry as hc.2.2) hw
    (by rw [hheap]; exact va_S.rf) (((T.setVm vm₁).setTop (F0 m pc ls rest)).pushFrame (.java (F0 mk 0 ((lg_sl as ++ List.replicate (M'.2.2.1 - (lg_sl as).length) Slot.unset).toArray) []))) hT Y
  have hsz : H.size ≤ t.heap.size := by have := b6.1; rw [hheap] at this; exact this
  have hk6 : ∀ q : Nat, q < H.size → ¬ zA G q → t.heap[q]? = H[q]? := fun q h1 h2 => by have := b6.2 q (by rw [hheap]; exact h1) h2; rw [hheap] at this; exact this
  have hS2 : va_S (zA G) s.heap t.heap (locs ++ L) := ⟨Nat.le_trans hS.1 hsz, fun q h1 h2 => (hk6 q (Nat.lt_of_lt_of_le h1 hS.1) h2).trans (hS.2.1 q h1 h2), fun q hq => by
    rcases List.mem_append.mp hq with h | h
    · exact hS.2.2 q h
    · exact b5 q h⟩
  rcases b8 with ⟨v, rfl, hk⟩ | ⟨x, C, rfl, hx, hk⟩
  · obtain ⟨T', X', hW', hB', ht⟩ := X₁.outOf (g := F0 m pc ls rest) rfl hdg' b2 b3 b4
    have hT' : T'.heap = t.heap := by rw [ht]; rfl
    obtain ⟨t2, c1, c2⟩ := kr v w' sz' hk p l e s m args below meth c F ls t.heap (locs ++ L) hl b7 hS2 T' hT' X'
    refine ⟨t2, hstep _ fun acts => ?_, c2⟩
    rw [hin acts]
    refine (zweaken (mid := [.java (F0 m pc ls rest)]) a1).trans ?_
    rw [ht]
    exact c1
  · obtain ⟨T', X', hW', hB', ht⟩ := X₁.outOfThrown (g := F0 m pc ls rest) rfl b2 b3 b4
    have hT' : T'.heap = t.heap := by rw [ht]; exact (Stand.throwing_heap T' _ x).symm
    have hV' : T'.vm = t.vm := by rw [ht]; exact (Stand.throwing_vm T' _ x).symm
    obtain ⟨t2, c1, c2⟩ := kt C w' sz' x T' L hk X' (by rw [hT']; exact b7) (by rw [hT']; exact hS2) (by
      obtain ⟨cell, g1, g2, g3⟩ := hx
      exact ⟨cell, by rw [hT']; exact g1, g2, by rw [hV']; exact g3⟩)
    refine ⟨t2, hstep _ fun acts => ?_, c2⟩
    rw [hin acts]
    refine (zweaken (mid := [.java (F0 m pc ls rest)]) a1).trans ?_
    rw [ht]
    exact c1
/-- no handler of the method covers the place: what the callee throws leaves it -/
theorem zleave {p : Program} {l : Launch} {e : Env} {s : State} {m : MethodId} {args : Array Value} {below : List Frame} {meth : Method} {c : Code} {locs : List Loc} {ls : Array Slot} {rest : List Value} {C : String} {x : Addr} {T' : State} {kc1 ks1 sz1 : Nat} {w1 : zW}
    (F : zF G M p l s m meth c) (hh : M.2.2.2.2 = []) (X' : Stand p l e R s m args below meth c T' locs kc1 ks1) (hw : zH G w1 sz1 T'.heap) (hS : va_S (zA G) s.heap T'.heap locs) (hx : zEx C x T') (hk : kc1 ≤ K.2.1 ∧ ks1 ≤ K.2.2) (hK : K.1 (.inr C) w1 sz1) :
    ∃ t2, Steps p.tables e below ((T'.setTop (F0 m pc ls rest)).pushFrame (.throwing x)) t2 ∧ zQ G K below s t2 := by
  have hem : c.exceptionTable.toList = [] := by
    have h := F.ex
    rw [hh] at h
    exact List.map_eq_nil_iff.mp h
  obtain ⟨d1, d2, d3, d4, d5⟩ := X'.leaveThrown x (g := F0 m pc ls rest) rfl rfl rfl (fun q hq => by rw [hem] at hq; cases hq) F.lk
  exact ⟨T'.setFrames (.throwing x :: below), d1, .threw x, d2, d3, d4, ⟨locs, d5.mono hk.1 hk.2, hS.2.2⟩, hS.F (t := T'.setFrames (.throwing x :: below)) rfl, w1, sz1, hw, Or.inr ⟨x, C, rfl, hx, hK⟩⟩
abbrev zNo (y : MethodName) : Prop := y.cls ≠ "java/lang/invoke/MethodHandle" ∧ y.cls ≠ "java/lang/invoke/VarHandle"
/-- what an instruction that calls needs of the tables -/
def zGV (own : String) (idx : Nat) (M' : zM) (n : Nat) : Prop := (zin (.methodLink own idx M'.1) ∨ ∃ host, zin (.methodLinkNest own idx M'.1 host)) ∧ zin (.instanceMethod M'.1) ∧ zin (.selects M'.1.cls M'.1 M'.1) ∧ zNo M'.1 ∧ (parseMethodDescriptor M'.1.desc).map (fun d => d.parameters.length) = some n
def zGS (own : String) (idx : Nat) (M' : zM) (n : Nat) : Prop := (zin (.methodLink own idx M'.1) ∨ ∃ host, zin (.methodLinkNest own idx M'.1 host)) ∧ zin (.static M'.1) ∧ zin (.initialized M'.1.cls) ∧ zNo M'.1 ∧ (parseMethodDescriptor M'.1.desc).map (fun d => d.parameters.length) = some n
def zGI (own : String) (idx : Nat) (M' : zM) (n : Nat) : Prop := (zin (.methodLink own idx M'.1) ∨ ∃ host, zin (.methodLinkNest own idx M'.1 host)) ∧ zin (.instanceMethod M'.1) ∧ M'.1.name = "<init>" ∧ M'.2.2.2.1 = none ∧ zin (.code M'.1 M'.2.1 M'.2.2.1 M'.2.2.2.1) ∧ zNo M'.1 ∧ (parseMethodDescriptor M'.1.desc).map (fun d => d.parameters.length) = some n
theorem znum {desc : String} {n k : Nat} (h : (parseMethodDescriptor desc).map (fun d => d.parameters.length) = some n) (hk : k = n) : ∀ sig, parseMethodDescriptor desc = some sig → k = sig.parameters.length := by
  intro sig hs
  rw [hs] at h
  exact hk.trans (Option.some.inj h).symm
theorem V_callV {M' : zM} {K' : zK} {R' : Room} {n idx b ci : Nat} {As rest fs : List Value} {T : u_T} {N : Nat} (d : decode M.2.1 pc = .ok (.invokevirtual idx, 3)) (hg : zGV M.1.cls idx M' n) (hst : zpop n st [] = some (As, .ref b :: rest)) (ho : w b = some (.inr (ci, fs))) (hcl : vwCl[ci]? = some (M'.1.cls, T, N))
    (hM : zCt G M' R' (.ref b :: As) sz w K') (hc : zCd M' (.ref b :: As)) (hR : zRm M' R' R kc ks) (hWt : (rest.map fun v => v.category).sum ≤ 8)
    (kr : ∀ v w' sz', K'.1 (.inl v) w' sz' → V G M K R (kc + K'.2.1) (ks + K'.2.2) sz' (pc + 3) lo (v.toList ++ rest) w')
    (kt : ∀ C w' sz', K'.1 (.inr C) w' sz' → (kc + K'.2.1 ≤ K.2.1 ∧ ks + K'.2.2 ≤ K.2.2) ∧ K.1 (.inr C) w' sz') (hh : M.2.2.2.2 = [] := by rfl) : V G M K R kc ks sz pc lo st w :=
  fun p l e s m args below meth c F ls H locs hl hw hS => by
    refine zrun hM hc hR F hl hw hS (fun T hT X => ?_) hWt d kr (fun C w' sz' x T' L hk X' hw' hS' hx => zleave F hh X' hw' hS' hx (kt C w' sz' hk).1 (kt C w' sz' hk).2)
    obtain ⟨Bs, e1, e2, e3⟩ := zpop_eq hst
    rw [List.append_nil] at e1
    subst e1
    obtain ⟨hlink, hinst, hsel, hy, hnp⟩ := hg
    obtain ⟨mk, methM, hnamed, hmethM, hstM, habM⟩ := Cond.instanceMethod_spec (F.wd.use hinst args)
    obtain ⟨mk', methM', cM, hn', hmethM', -, -, -, -, -, -, hsigM⟩ := hc.1.spec F.wd
    cases hnamed.symm.trans hn'
    cases hmethM.symm.trans hmethM'
    obtain ⟨r, r1, cell, q1, q2, q3, q4⟩ := hw.at ho
    obtain ⟨-, hfc, -⟩ := F.kk.1 ci _ hcl
    obtain ⟨c2, r2, m2, z1, z2, z3, z4, kP, hkP, hkPi⟩ := Cond.selects_spec (F.wd.use hsel args)
    cases hfc.symm.trans z1
    cases (State.methodFound?_of_named hnamed hy).symm.trans z2
    cases hnamed.symm.trans z3
    have hselP : selectMethod e.platform s.vm cell.cls mk = .method mk := by rw [Launch.admits_selectMethod X.admits, q2]; exact z4
    have hob : ∀ z, cell.vm ≠ .statics z := fun z h => by rw [q3] at h; cases h
    rcases hlink with hlink | ⟨host, hlink⟩
    · obtain ⟨vm₁, X₁, hstep₁⟩ := X.invokevirtual F.1 F.own (F.wd.use hlink args) hnamed hmethM hstM hkP hkPi hy (a := b) (cell := cell) (by rw [hT]; exact q1) hob hselP hmethM habM hkP hkPi (g := F0 m pc ls st) rfl (argsL := As) (rest := rest) (znum hnp e3 _ hsigM) e2 (by rw [F.2.1]; exact d)
      exact ⟨vm₁, mk, X₁, hnamed, hstep₁⟩
    · obtain ⟨vm₁, X₁, hstep₁⟩ := X.invokevirtualNest F.1 F.own (F.wd.use hlink args) hnamed hmethM hstM hkP hkPi hy (a := b) (cell := cell) (by rw [hT]; exact q1) hob hselP hmethM habM hkP hkPi (g := F0 m pc ls st) rfl (argsL := As) (rest := rest) (znum hnp e3 _ hsigM) e2 (by rw [F.2.1]; exact d)
      exact ⟨vm₁, mk, X₁, hnamed, hstep₁⟩
theorem V_callS {M' : zM} {K' : zK} {R' : Room} {n idx : Nat} {As rest : List Value} (d : decode M.2.1 pc = .ok (.invokestatic idx, 3)) (hg : zGS M.1.cls idx M' n) (hst : zpop n st [] = some (As, rest))
    (hM : zCt G M' R' As sz w K') (hc : zCd M' As) (hR : zRm M' R' R kc ks) (hWt : (rest.map fun v => v.category).sum ≤ 8)
    (kr : ∀ v w' sz', K'.1 (.inl v) w' sz' → V G M K R (kc + K'.2.1) (ks + K'.2.2) sz' (pc + 3) lo (v.toList ++ rest) w')
    (kt : ∀ C w' sz', K'.1 (.inr C) w' sz' → (kc + K'.2.1 ≤ K.2.1 ∧ ks + K'.2.2 ≤ K.2.2) ∧ K.1 (.inr C) w' sz') (hh : M.2.2.2.2 = [] := by rfl) : V G M K R kc ks sz pc lo st w :=
  fun p l e s m args below meth c F ls H locs hl hw hS => by
    refine zrun hM hc hR F hl hw hS (fun T hT X => ?_) hWt d kr (fun C w' sz' x T' L hk X' hw' hS' hx => zleave F hh X' hw' hS' hx (kt C w' sz' hk).1 (kt C w' sz' hk).2)
    obtain ⟨Bs, e1, e2, e3⟩ := zpop_eq hst
    rw [List.append_nil] at e1
    subst e1
    obtain ⟨hlink, hstat, hini, hy, hnp⟩ := hg
    obtain ⟨mk, methM, cM, hnamed, hmethM, -, -, -, -, -, -, hsigM⟩ := hc.1.spec F.wd
    have hstatic : methM.isStatic = true := Cond.static_spec hnamed hmethM (F.wd.use hstat args)
    obtain ⟨kP, hkP, -⟩ := className_of_methodNamed hnamed
    have hinitP : kP.init = .initialized := Cond.initialized_spec (findClass_of_methodNamed hnamed) hkP (F.wd.use hini args)
    rcases hlink with hlink | ⟨host, hlink⟩
    · obtain ⟨vm₁, X₁, hstep₁⟩ := X.invokestatic F.1 F.own (F.wd.use hlink args) hnamed hmethM hstatic hkP hinitP hy (g := F0 m pc ls st) rfl (argsL := As) (rest := rest) (znum hnp e3 _ hsigM) e2 (by rw [F.2.1]; exact d)
      exact ⟨vm₁, mk, X₁, hnamed, hstep₁⟩
    · obtain ⟨vm₁, X₁, hstep₁⟩ := X.invokestaticNest F.1 F.own (F.wd.use hlink args) hnamed hmethM hstatic hkP hinitP hy (g := F0 m pc ls st) rfl (argsL := As) (rest := rest) (znum hnp e3 _ hsigM) e2 (by rw [F.2.1]; exact d)
      exact ⟨vm₁, mk, X₁, hnamed, hstep₁⟩
theorem V_callI {M' : zM} {K' : zK} {R' : Room} {n idx b : Nat} {As rest : List Value} (d : decode M.2.1 pc = .ok (.invokespecial idx, 3)) (hg : zGI M.1.cls idx M' n) (hst : zpop n st [] = some (As, .ref b :: rest))
    (hM : zCt G M' R' (.ref b :: As) sz w K') (hc : zCd M' (.ref b :: As)) (hR : zRm M' R' R kc ks) (hWt : (rest.map fun v => v.category).sum ≤ 8)
    (kr : ∀ v w' sz', K'.1 (.inl v) w' sz' → V G M K R (kc + K'.2.1) (ks + K'.2.2) sz' (pc + 3) lo (v.toList ++ rest) w')
    (kt : ∀ C w' sz', K'.1 (.inr C) w' sz' → (kc + K'.2.1 ≤ K.2.1 ∧ ks + K'.2.2 ≤ K.2.2) ∧ K.1 (.inr C) w' sz') (hh : M.2.2.2.2 = [] := by rfl) : V G M K R kc ks sz pc lo st w :=
  fun p l e s m args below meth c F ls H locs hl hw hS => by
    refine zrun hM hc hR F hl hw hS (fun T hT X => ?_) hWt d kr (fun C w' sz' x T' L hk X' hw' hS' hx => zleave F hh X' hw' hS' hx (kt C w' sz' hk).1 (kt C w' sz' hk).2)
    obtain ⟨Bs, e1, e2, e3⟩ := zpop_eq hst
    rw [List.append_nil] at e1
    subst e1
    obtain ⟨hlink, hinst, hy1, hno, hco, hy, hnp⟩ := hg
    have hcode := F.wd.use hco args
    rw [hno] at hcode
    have hpl : e.platform.magicAccessors = ({} : Platform).magicAccessors := by rw [X.admits.platform]
    rcases hlink with hlink | ⟨host, hlink⟩
    · obtain ⟨mk, methM, cM, kP, vm₁, hnamed, hmethM, hcodeM, -, hlocalsM, -, hkP, -, hW₁, hstep₁⟩ := Steps.initColdArgs (e := e) X.here F.1 X.warmed hpl F.own hy1 hy (F.wd.use hlink args) (F.wd.use hinst args) hcode (f := F0 m pc ls st) rfl (znum hnp e3) e2 (by rw [F.2.1]; exact d)
      exact ⟨vm₁, mk, X.noted hW₁, hnamed, hstep₁⟩
    · obtain ⟨mk, methM, cM, kP, vm₁, hnamed, hmethM, hcodeM, -, hlocalsM, -, hkP, -, hW₁, hstep₁⟩ := Steps.initColdArgsNest (e := e) X.here F.1 X.warmed hpl F.own hy1 hy (F.wd.use hlink args) (F.wd.use hinst args) hcode (f := F0 m pc ls st) rfl (znum hnp e3) e2 (by rw [F.2.1]; exact d)
      exact ⟨vm₁, mk, X.noted hW₁, hnamed, hstep₁⟩
end ZC
end
section
/-! the rules with numbers as whole numbers: an int is Int32.ofInt z, a long Int64.ofInt z; a row is a function of whole numbers -/
theorem z32 {z : Int} (h : -2147483648 ≤ z ∧ z < 2147483648) : (Int32.ofInt z).toInt = z := Int32.toInt_ofInt_of_le (by omega) (by omega)
theorem z64 {z : Int} (h : -9223372036854775808 ≤ z ∧ z < 9223372036854775808) : (Int64.ofInt z).toInt = z := Int64.toInt_ofInt_of_le (by omega) (by omega)
theorem z32_eq {a b : Int} (ha : -2147483648 ≤ a ∧ a < 2147483648) (hb : -2147483648 ≤ b ∧ b < 2147483648) : Int32.ofInt a = Int32.ofInt b ↔ a = b := by
  constructor
  · intro h
    have := congrArg Int32.toInt h
    rwa [z32 ha, z32 hb] at this
  · intro h
    rw [h]
theorem z32_le {a b : Int} (ha : -2147483648 ≤ a ∧ a < 2147483648) (hb : -2147483648 ≤ b ∧ b < 2147483648) : Int32.ofInt a ≤ Int32.ofInt b ↔ a ≤ b := by
  rw [Int32.le_iff_toInt_le, z32 ha, z32 hb]
theorem z32_lt {a b : Int} (ha : -2147483648 ≤ a ∧ a < 2147483648) (hb : -2147483648 ≤ b ∧ b < 2147483648) : Int32.ofInt a < Int32.ofInt b ↔ a < b := by
  rw [Int32.lt_iff_toInt_lt, z32 ha, z32 hb]
theorem z64_eq {a b : Int} (ha : -9223372036854775808 ≤ a ∧ a < 9223372036854775808) (hb : -9223372036854775808 ≤ b ∧ b < 9223372036854775808) : Int64.ofInt a = Int64.ofInt b ↔ a = b := by
  constructor
  · intro h
    have := congrArg Int64.toInt h
    rwa [z64 ha, z64 hb] at this
  · intro h
    rw [h]
theorem z64_lt {a b : Int} (ha : -9223372036854775808 ≤ a ∧ a < 9223372036854775808) (hb : -9223372036854775808 ≤ b ∧ b < 9223372036854775808) : Int64.ofInt a < Int64.ofInt b ↔ a < b := by
  rw [Int64.lt_iff_toInt_lt, z64 ha, z64 hb]
theorem z32_0 : Int32.ofInt 0 = 0 := by decide
theorem z32_clamp {z : Int} (h0 : 0 ≤ z) (h1 : z < 2147483648) : (Int32.ofInt z).toNatClampNeg = z.toNat := Int32.toNatClampNeg_ofInt_of_le (by omega) (by omega)
theorem z32_in {z : Int} {n : Nat} (h : 0 ≤ z ∧ z < n) (hn : n < 2147483648) : vp_in (Int32.ofInt z) n := by
  rw [vp_in_iff, z32 (by omega)]
  exact h
/-- a row of longs by a function of whole numbers -/
abbrev zro (G : zG) (n : Nat) (g : Int → Int) : va_E := zrow G n (fun j => Int64.ofInt (g j))
abbrev zio (G : zG) (n : Nat) (g : Int → Int) : va_E := zints G n (fun j => Int32.ofInt (g j))
def zu (g : Int → Int) (z v : Int) : Int → Int := fun j => if j = z then v else g j
theorem zu_s {g : Int → Int} {z v : Int} : zu g z v z = v := if_pos rfl
theorem zu_n {g : Int → Int} {z v j : Int} (h : j ≠ z) : zu g z v j = g j := if_neg h
theorem zro_set {G : zG} {n : Nat} {g : Int → Int} {z v : Int} (h : 0 ≤ z) : zrow G n (vp_updL (fun j => Int64.ofInt (g j)) z.toNat (Int64.ofInt v)) = zro G n (zu g z v) := by
  have : vp_updL (fun j => Int64.ofInt (g j)) z.toNat (Int64.ofInt v) = fun j : Nat => Int64.ofInt (zu g z v j) := by
    funext j
    unfold vp_updL zu
    by_cases hj : j = z.toNat
    · rw [if_pos hj, if_pos (by omega)]
    · rw [if_neg hj, if_neg (by omega)]
  rw [this]
theorem zio_set {G : zG} {n : Nat} {g : Int → Int} {z v : Int} (h : 0 ≤ z) : zints G n (va_up (fun j => Int32.ofInt (g j)) z.toNat (Int32.ofInt v)) = zio G n (zu g z v) := by
  have : va_up (fun j => Int32.ofInt (g j)) z.toNat (Int32.ofInt v) = fun j : Nat => Int32.ofInt (zu g z v j) := by
    funext j
    unfold va_up zu
    by_cases hj : j = z.toNat
    · rw [if_pos hj, if_pos (by omega)]
    · rw [if_neg hj, if_neg (by omega)]
  rw [this]
theorem zset_zset {w : zW} {a : Nat} {e e' : va_E} : zset (zset w a e) a e' = zset w a e' := by
  funext q
  unfold zset
  by_cases h : q = a
  · rw [if_pos h, if_pos h]
  · rw [if_neg h, if_neg h, if_neg h]
theorem zset_comm {w : zW} {a b : Nat} {e e' : va_E} (h : a ≠ b) : zset (zset w a e) b e' = zset (zset w b e') a e := by
  funext q
  unfold zset
  by_cases h1 : q = b
  · rw [if_pos h1, if_neg (by omega), if_pos h1]
  · by_cases h2 : q = a
    · rw [if_neg h1, if_pos h2, if_pos h2]
    · rw [if_neg h1, if_neg h2, if_neg h2, if_neg h1]
theorem zset_self {w : zW} {a : Nat} {e : va_E} (h : w a = some e) : zset w a e = w := by
  funext q
  unfold zset
  by_cases h1 : q = a
  · rw [if_pos h1, h1, h]
  · rw [if_neg h1]
def zcm (a b : Int) : Int := if b < a then 1 else if a = b then 0 else -1
section ZJ
variable {G : zG} {M : zM} {K : zK} {R : Room} {kc ks sz pc : Nat} {lo : List (Nat × Value)} {st : List Value} {w : zW}
theorem J_bipush {n : Int} (d : decode M.2.1 pc = .ok (.bipush n, 2)) (hn : -128 ≤ n ∧ n < 128) (k : V G M K R kc ks sz (pc + 2) lo (.int (Int32.ofInt n) :: st) w) : V G M K R kc ks sz pc lo st w :=
  V_bipush d (by rw [show (Int8.ofInt n).toInt32 = Int32.ofInt n from Int32.toInt_inj.mp (by rw [Int8.toInt_toInt32, Int8.toInt_ofInt_of_le (by omega) (by omega), z32 (by omega)])]; exact k)
theorem J_sipush {n : Int} (d : decode M.2.1 pc = .ok (.sipush n, 3)) (hn : -32768 ≤ n ∧ n < 32768) (k : V G M K R kc ks sz (pc + 3) lo (.int (Int32.ofInt n) :: st) w) : V G M K R kc ks sz pc lo st w :=
  V_sipush d (by rw [show (Int16.ofInt n).toInt32 = Int32.ofInt n from Int32.toInt_inj.mp (by rw [Int16.toInt_toInt32, Int16.toInt_ofInt_of_le (by omega) (by omega), z32 (by omega)])]; exact k)
theorem J_lconst {n : Fin 2} {z : Int} (d : decode M.2.1 pc = .ok (.lconst n, 1)) (hz : ((n : Nat) : Int) = z) (k : V G M K R kc ks sz (pc + 1) lo (.long (Int64.ofInt z) :: st) w) : V G M K R kc ks sz pc lo st w :=
  V_lconst d (by rw [← Int64.ofInt_eq_ofNat, hz]; exact k)
theorem J_iinc {i : Nat} {n a : Int} (d : decode M.2.1 pc = .ok (.iinc i n, 3)) (h : zlk lo i = some (.int (Int32.ofInt a))) (hn : i < M.2.2.1) (k : V G M K R kc ks sz (pc + 3) (zst1 lo i (.int (Int32.ofInt (a + n)))) st w) : V G M K R kc ks sz pc lo st w :=
  V_iinc d h hn (by rw [← Int32.ofInt_add]; exact k)
theorem J_iadd {a b : Int} (d : decode M.2.1 pc = .ok (.iadd, 1)) (k : V G M K R kc ks sz (pc + 1) lo (.int (Int32.ofInt (a + b)) :: st) w) : V G M K R kc ks sz pc lo (.int (Int32.ofInt b) :: .int (Int32.ofInt a) :: st) w := V_iadd d (by rw [← Int32.ofInt_add]; exact k)
theorem J_isub {a b : Int} (d : decode M.2.1 pc = .ok (.isub, 1)) (k : V G M K R kc ks sz (pc + 1) lo (.int (Int32.ofInt (a - b)) :: st) w) : V G M K R kc ks sz pc lo (.int (Int32.ofInt b) :: .int (Int32.ofInt a) :: st) w := V_isub d (by rw [← Int32.ofInt_sub]; exact k)
theorem J_imul {a b : Int} (d : decode M.2.1 pc = .ok (.imul, 1)) (k : V G M K R kc ks sz (pc + 1) lo (.int (Int32.ofInt (a * b)) :: st) w) : V G M K R kc ks sz pc lo (.int (Int32.ofInt b) :: .int (Int32.ofInt a) :: st) w := V_imul d (by rw [← Int32.ofInt_mul]; exact k)
theorem J_ineg {a : Int} (d : decode M.2.1 pc = .ok (.ineg, 1)) (k : V G M K R kc ks sz (pc + 1) lo (.int (Int32.ofInt (-a)) :: st) w) : V G M K R kc ks sz pc lo (.int (Int32.ofInt a) :: st) w := V_ineg d (by rw [← Int32.ofInt_neg]; exact k)
theorem J_ladd {a b : Int} (d : decode M.2.1 pc = .ok (.ladd, 1)) (k : V G M K R kc ks sz (pc + 1) lo (.long (Int64.ofInt (a + b)) :: st) w) : V G M K R kc ks sz pc lo (.long (Int64.ofInt b) :: .long (Int64.ofInt a) :: st) w := V_ladd d (by rw [← Int64.ofInt_add]; exact k)
theorem J_lsub {a b : Int} (d : decode M.2.1 pc = .ok (.lsub, 1)) (k : V G M K R kc ks sz (pc + 1) lo (.long (Int64.ofInt (a - b)) :: st) w) : V G M K R kc ks sz pc lo (.long (Int64.ofInt b) :: .long (Int64.ofInt a) :: st) w := V_lsub d (by rw [← Int64.ofInt_sub]; exact k)
theorem J_lmul {a b : Int} (d : decode M.2.1 pc = .ok (.lmul, 1)) (k : V G M K R kc ks sz (pc + 1) lo (.long (Int64.ofInt (a * b)) :: st) w) : V G M K R kc ks sz pc lo (.long (Int64.ofInt b) :: .long (Int64.ofInt a) :: st) w := V_lmul d (by rw [← Int64.ofInt_mul]; exact k)
theorem J_lneg {a : Int} (d : decode M.2.1 pc = .ok (.lneg, 1)) (k : V G M K R kc ks sz (pc + 1) lo (.long (Int64.ofInt (-a)) :: st) w) : V G M K R kc ks sz pc lo (.long (Int64.ofInt a) :: st) w := V_lneg d (by rw [← Int64.ofInt_neg]; exact k)
theorem z32_mod {a b : Int} (ha : -2147483648 ≤ a ∧ a < 2147483648) (hb : -2147483648 ≤ b ∧ b < 2147483648) (h : -2147483648 ≤ a.tmod b ∧ a.tmod b < 2147483648) : Int32.ofInt a - Int32.ofInt a / Int32.ofInt b * Int32.ofInt b = Int32.ofInt (a.tmod b) := by
  rw [irem_eq_mod]
  exact Int32.toInt_inj.mp (by rw [Int32.toInt_mod, z32 ha, z32 hb, z32 h])
theorem zlrem (x y : Int64) : x - x / y * y = x % y := by
  apply Int64.toInt_inj.mp
  have h1 := Int64.le_toInt (x % y)
  have h2 := Int64.toInt_lt (x % y)
  rw [Int64.toInt_sub, Int64.toInt_mul, Int64.toInt_div, Int.bmod_mul_bmod, Int.sub_bmod_bmod, Int.mul_comm (x.toInt.tdiv y.toInt), ← Int.tmod_def, ← Int64.toInt_mod]
  exact Int.bmod_eq_of_le_mul_two (by omega) (by omega)
theorem z64_mod {a b : Int} (ha : -9223372036854775808 ≤ a ∧ a < 9223372036854775808) (hb : -9223372036854775808 ≤ b ∧ b < 9223372036854775808) (h : -9223372036854775808 ≤ a.tmod b ∧ a.tmod b < 9223372036854775808) : Int64.ofInt a - Int64.ofInt a / Int64.ofInt b * Int64.ofInt b = Int64.ofInt (a.tmod b) := by
  rw [zlrem]
  exact Int64.toInt_inj.mp (by rw [Int64.toInt_mod, z64 ha, z64 hb, z64 h])
theorem ztmod_b {a b : Int} (hb : 0 < b) : -b < a.tmod b ∧ a.tmod b < b := tmod_bounds hb
theorem J_irem {a b : Int} (d : decode M.2.1 pc = .ok (.irem, 1)) (ha : -2147483648 ≤ a ∧ a < 2147483648) (hb : 0 < b ∧ b < 2147483648) (k : V G M K R kc ks sz (pc + 1) lo (.int (Int32.ofInt (a.tmod b)) :: st) w) : V G M K R kc ks sz pc lo (.int (Int32.ofInt b) :: .int (Int32.ofInt a) :: st) w := by
  have hm := ztmod_b (a := a) hb.1
  refine V_irem d (fun h => ?_) ?_
  · rw [← z32_0, z32_eq (by omega) (by omega)] at h
    omega
  · rw [z32_mod ha (by omega) (by omega)]
    exact k
/-- of a number that isn't below nothing -/
theorem J_iremP {a b : Int} (d : decode M.2.1 pc = .ok (.irem, 1)) (ha : 0 ≤ a ∧ a < 2147483648) (hb : 0 < b ∧ b < 2147483648) (k : V G M K R kc ks sz (pc + 1) lo (.int (Int32.ofInt (a % b)) :: st) w) : V G M K R kc ks sz pc lo (.int (Int32.ofInt b) :: .int (Int32.ofInt a) :: st) w :=
  J_irem d (by omega) hb (by rw [Int.tmod_eq_emod_of_nonneg ha.1]; exact k)
theorem J_lrem {a b : Int} (d : decode M.2.1 pc = .ok (.lrem, 1)) (ha : -9223372036854775808 ≤ a ∧ a < 9223372036854775808) (hb : 0 < b ∧ b < 9223372036854775808) (k : V G M K R kc ks sz (pc + 1) lo (.long (Int64.ofInt (a.tmod b)) :: st) w) : V G M K R kc ks sz pc lo (.long (Int64.ofInt b) :: .long (Int64.ofInt a) :: st) w := by
  have hm := ztmod_b (a := a) hb.1
  refine V_lrem d (fun h => ?_) ?_
  · rw [show (0 : Int64) = Int64.ofInt 0 from by decide, z64_eq (by omega) (by omega)] at h
    omega
  · rw [z64_mod ha (by omega) (by omega)]
    exact k
theorem J_lremP {a b : Int} (d : decode M.2.1 pc = .ok (.lrem, 1)) (ha : 0 ≤ a ∧ a < 9223372036854775808) (hb : 0 < b ∧ b < 9223372036854775808) (k : V G M K R kc ks sz (pc + 1) lo (.long (Int64.ofInt (a % b)) :: st) w) : V G M K R kc ks sz pc lo (.long (Int64.ofInt b) :: .long (Int64.ofInt a) :: st) w :=
  J_lrem d (by omega) hb (by rw [Int.tmod_eq_emod_of_nonneg ha.1]; exact k)
theorem J_ldiv {a b : Int} (d : decode M.2.1 pc = .ok (.ldiv, 1)) (ha : -9223372036854775808 < a ∧ a < 9223372036854775808) (hb : 0 < b ∧ b < 9223372036854775808) (k : V G M K R kc ks sz (pc + 1) lo (.long (Int64.ofInt (a.tdiv b)) :: st) w) : V G M K R kc ks sz pc lo (.long (Int64.ofInt b) :: .long (Int64.ofInt a) :: st) w := by
  refine V_ldiv d (fun h => ?_) ?_
  · rw [show (0 : Int64) = Int64.ofInt 0 from by decide, z64_eq (by omega) (by omega)] at h
    omega
  · rw [show Int64.ofInt a / Int64.ofInt b = Int64.ofInt (a.tdiv b) from (Int64.ofInt_tdiv (by show -9223372036854775808 ≤ a; omega) (by show a ≤ 9223372036854775807; omega) (by show -9223372036854775808 ≤ b; omega) (by show b ≤ 9223372036854775807; omega)).symm]
    exact k
theorem J_ldivP {a b : Int} (d : decode M.2.1 pc = .ok (.ldiv, 1)) (ha : 0 ≤ a ∧ a < 9223372036854775808) (hb : 0 < b ∧ b < 9223372036854775808) (k : V G M K R kc ks sz (pc + 1) lo (.long (Int64.ofInt (a / b)) :: st) w) : V G M K R kc ks sz pc lo (.long (Int64.ofInt b) :: .long (Int64.ofInt a) :: st) w :=
  J_ldiv d (by omega) hb (by rw [Int.tdiv_eq_ediv_of_nonneg ha.1]; exact k)
theorem J_i2l {a : Int} (d : decode M.2.1 pc = .ok (.i2l, 1)) (ha : -2147483648 ≤ a ∧ a < 2147483648) (k : V G M K R kc ks sz (pc + 1) lo (.long (Int64.ofInt a) :: st) w) : V G M K R kc ks sz pc lo (.int (Int32.ofInt a) :: st) w :=
  V_i2l d (by rw [show (Int32.ofInt a).toInt64 = Int64.ofInt a from Int64.toInt_inj.mp (by rw [Int32.toInt_toInt64, z32 ha, z64 (by omega)])]; exact k)
theorem J_l2i {a : Int} (d : decode M.2.1 pc = .ok (.l2i, 1)) (k : V G M K R kc ks sz (pc + 1) lo (.int (Int32.ofInt a) :: st) w) : V G M K R kc ks sz pc lo (.long (Int64.ofInt a) :: st) w := V_l2i d (by rw [Int64.toInt32_ofInt]; exact k)
theorem J_lcmp {a b : Int} (d : decode M.2.1 pc = .ok (.lcmp, 1)) (ha : -9223372036854775808 ≤ a ∧ a < 9223372036854775808) (hb : -9223372036854775808 ≤ b ∧ b < 9223372036854775808) (k : V G M K R kc ks sz (pc + 1) lo (.int (Int32.ofInt (zcm a b)) :: st) w) : V G M K R kc ks sz pc lo (.long (Int64.ofInt b) :: .long (Int64.ofInt a) :: st) w := by
  refine V_lcmp d ?_
  have e : lg_cmp (Int64.ofInt a) (Int64.ofInt b) = Int32.ofInt (zcm a b) := by
    unfold lg_cmp zcm
    by_cases h1 : b < a
    · rw [if_pos h1, if_pos ((z64_lt hb ha).mpr h1)]
      decide
    · rw [if_neg h1, if_neg (fun q => h1 ((z64_lt hb ha).mp q))]
      by_cases h2 : a = b
      · rw [if_pos h2, if_pos (by rw [h2])]
        decide
      · rw [if_neg h2, if_neg (fun q => h2 ((z64_eq ha hb).mp q))]
        decide
  rw [e]
  exact k
theorem J_laload {a n : Nat} {g : Int → Int} {z : Int} (d : decode M.2.1 pc = .ok (.laload, 1)) (h : w a = some (zro G n g)) (hz : 0 ≤ z ∧ z < n) (hn : n < 2147483648) (k : V G M K R kc ks sz (pc + 1) lo (.long (Int64.ofInt (g z)) :: st) w) : V G M K R kc ks sz pc lo (.int (Int32.ofInt z) :: .ref a :: st) w :=
  V_laload d h (z32_in hz hn) (by rw [z32_clamp hz.1 (by omega), Int.toNat_of_nonneg hz.1]; exact k)
theorem J_iaload {a n : Nat} {g : Int → Int} {z : Int} (d : decode M.2.1 pc = .ok (.iaload, 1)) (h : w a = some (zio G n g)) (hz : 0 ≤ z ∧ z < n) (hn : n < 2147483648) (k : V G M K R kc ks sz (pc + 1) lo (.int (Int32.ofInt (g z)) :: st) w) : V G M K R kc ks sz pc lo (.int (Int32.ofInt z) :: .ref a :: st) w :=
  V_iaload d h (z32_in hz hn) (by rw [z32_clamp hz.1 (by omega), Int.toNat_of_nonneg hz.1]; exact k)
theorem J_lastore {a n : Nat} {g : Int → Int} {z v : Int} (d : decode M.2.1 pc = .ok (.lastore, 1)) (h : w a = some (zro G n g)) (hz : 0 ≤ z ∧ z < n) (hn : n < 2147483648) (k : V G M K R kc ks sz (pc + 1) lo st (zset w a (zro G n (zu g z v)))) : V G M K R kc ks sz pc lo (.long (Int64.ofInt v) :: .int (Int32.ofInt z) :: .ref a :: st) w :=
  V_lastore d h (z32_in hz hn) (by rw [z32_clamp hz.1 (by omega), zro_set hz.1]; exact k)
theorem J_iastore {a n : Nat} {g : Int → Int} {z v : Int} (d : decode M.2.1 pc = .ok (.iastore, 1)) (h : w a = some (zio G n g)) (hz : 0 ≤ z ∧ z < n) (hn : n < 2147483648) (k : V G M K R kc ks sz (pc + 1) lo st (zset w a (zio G n (zu g z v)))) : V G M K R kc ks sz pc lo (.int (Int32.ofInt v) :: .int (Int32.ofInt z) :: .ref a :: st) w :=
  V_iastore d h (z32_in hz hn) (by rw [z32_clamp hz.1 (by omega), zio_set hz.1]; exact k)
theorem J_aaload {a n b ka : Nat} {f : Nat → Option Nat} {z : Int} {ty : FieldType} (d : decode M.2.1 pc = .ok (.aaload, 1)) (h : w a = some (zrefs G ka n f)) (ht : (zty G)[ka]? = some (G.2.1 ka, ty)) (href : ty.isReference = true) (hz : 0 ≤ z ∧ z < n) (hn : n < 2147483648) (hb : f z.toNat = some b) (k : V G M K R kc ks sz (pc + 1) lo (.ref b :: st) w) : V G M K R kc ks sz pc lo (.int (Int32.ofInt z) :: .ref a :: st) w :=
  V_aaload d h ht href (z32_in hz hn) (by rw [z32_clamp hz.1 (by omega)]; exact hb) k
theorem J_icmp_eq {a b off : Int} (tgt : Nat) (d : decode M.2.1 pc = .ok (.if_icmp .eq off, 3)) (ht : (pc : Int) + off = (tgt : Int)) (ha : -2147483648 ≤ a ∧ a < 2147483648) (hb : -2147483648 ≤ b ∧ b < 2147483648) (kt : a = b → V G M K R kc ks sz tgt lo st w) (kf : ¬ a = b → V G M K R kc ks sz (pc + 3) lo st w) : V G M K R kc ks sz pc lo (.int (Int32.ofInt b) :: .int (Int32.ofInt a) :: st) w :=
  V_icmp_eq tgt d ht (fun q => kt ((z32_eq ha hb).mp q)) (fun q => kf ((fun z => q ((z32_eq ha hb).mpr z))))
theorem J_if_eq {a off : Int} (tgt : Nat) (d : decode M.2.1 pc = .ok (.ifCond .eq off, 3)) (ht : (pc : Int) + off = (tgt : Int)) (ha : -2147483648 ≤ a ∧ a < 2147483648) (kt : a = 0 → V G M K R kc ks sz tgt lo st w) (kf : ¬ a = 0 → V G M K R kc ks sz (pc + 3) lo st w) : V G M K R kc ks sz pc lo (.int (Int32.ofInt a) :: st) w := by
  have hz : -2147483648 ≤ (0 : Int) ∧ (0 : Int) < 2147483648 := by decide
  refine V_if_eq tgt d ht (fun q => kt ?_) (fun q => kf ?_)
  · rw [← z32_0] at q
    exact (z32_eq ha hz).mp q
  · rw [← z32_0] at q
    exact (fun z => q ((z32_eq ha hz).mpr z))
theorem J_icmp_ne {a b off : Int} (tgt : Nat) (d : decode M.2.1 pc = .ok (.if_icmp .ne off, 3)) (ht : (pc : Int) + off = (tgt : Int)) (ha : -2147483648 ≤ a ∧ a < 2147483648) (hb : -2147483648 ≤ b ∧ b < 2147483648) (kt : ¬ a = b → V G M K R kc ks sz tgt lo st w) (kf : a = b → V G M K R kc ks sz (pc + 3) lo st w) : V G M K R kc ks sz pc lo (.int (Int32.ofInt b) :: .int (Int32.ofInt a) :: st) w :=
  V_icmp_ne tgt d ht (fun q => kt ((fun z => q ((z32_eq ha hb).mpr z)))) (fun q => kf ((z32_eq ha hb).mp q))
theorem J_if_ne {a off : Int} (tgt : Nat) (d : decode M.2.1 pc = .ok (.ifCond .ne off, 3)) (ht : (pc : Int) + off = (tgt : Int)) (ha : -2147483648 ≤ a ∧ a < 2147483648) (kt : ¬ a = 0 → V G M K R kc ks sz tgt lo st w) (kf : a = 0 → V G M K R kc ks sz (pc + 3) lo st w) : V G M K R kc ks sz pc lo (.int (Int32.ofInt a) :: st) w := by
  have hz : -2147483648 ≤ (0 : Int) ∧ (0 : Int) < 2147483648 := by decide
  refine V_if_ne tgt d ht (fun q => kt ?_) (fun q => kf ?_)
  · rw [← z32_0] at q
    exact (fun z => q ((z32_eq ha hz).mpr z))
  · rw [← z32_0] at q
    exact (z32_eq ha hz).mp q
theorem J_icmp_lt {a b off : Int} (tgt : Nat) (d : decode M.2.1 pc = .ok (.if_icmp .lt off, 3)) (ht : (pc : Int) + off = (tgt : Int)) (ha : -2147483648 ≤ a ∧ a < 2147483648) (hb : -2147483648 ≤ b ∧ b < 2147483648) (kt : a < b → V G M K R kc ks sz tgt lo st w) (kf : b ≤ a → V G M K R kc ks sz (pc + 3) lo st w) : V G M K R kc ks sz pc lo (.int (Int32.ofInt b) :: .int (Int32.ofInt a) :: st) w :=
  V_icmp_lt tgt d ht (fun q => kt ((z32_lt ha hb).mp q)) (fun q => kf ((Int.not_lt.mp fun z => q ((z32_lt ha hb).mpr z))))
theorem J_if_lt {a off : Int} (tgt : Nat) (d : decode M.2.1 pc = .ok (.ifCond .lt off, 3)) (ht : (pc : Int) + off = (tgt : Int)) (ha : -2147483648 ≤ a ∧ a < 2147483648) (kt : a < 0 → V G M K R kc ks sz tgt lo st w) (kf : 0 ≤ a → V G M K R kc ks sz (pc + 3) lo st w) : V G M K R kc ks sz pc lo (.int (Int32.ofInt a) :: st) w := by
  have hz : -2147483648 ≤ (0 : Int) ∧ (0 : Int) < 2147483648 := by decide
  refine V_if_lt tgt d ht (fun q => kt ?_) (fun q => kf ?_)
  · rw [← z32_0] at q
    exact (z32_lt ha hz).mp q
  · rw [← z32_0] at q
    exact (Int.not_lt.mp fun z => q ((z32_lt ha hz).mpr z))
theorem J_icmp_ge {a b off : Int} (tgt : Nat) (d : decode M.2.1 pc = .ok (.if_icmp .ge off, 3)) (ht : (pc : Int) + off = (tgt : Int)) (ha : -2147483648 ≤ a ∧ a < 2147483648) (hb : -2147483648 ≤ b ∧ b < 2147483648) (kt : b ≤ a → V G M K R kc ks sz tgt lo st w) (kf : a < b → V G M K R kc ks sz (pc + 3) lo st w) : V G M K R kc ks sz pc lo (.int (Int32.ofInt b) :: .int (Int32.ofInt a) :: st) w :=
  V_icmp_ge tgt d ht (fun q => kt ((z32_le hb ha).mp q)) (fun q => kf ((Int.not_le.mp fun z => q ((z32_le hb ha).mpr z))))
theorem J_if_ge {a off : Int} (tgt : Nat) (d : decode M.2.1 pc = .ok (.ifCond .ge off, 3)) (ht : (pc : Int) + off = (tgt : Int)) (ha : -2147483648 ≤ a ∧ a < 2147483648) (kt : 0 ≤ a → V G M K R kc ks sz tgt lo st w) (kf : a < 0 → V G M K R kc ks sz (pc + 3) lo st w) : V G M K R kc ks sz pc lo (.int (Int32.ofInt a) :: st) w := by
  have hz : -2147483648 ≤ (0 : Int) ∧ (0 : Int) < 2147483648 := by decide
  refine V_if_ge tgt d ht (fun q => kt ?_) (fun q => kf ?_)
  · rw [← z32_0] at q
    exact (z32_le hz ha).mp q
  · rw [← z32_0] at q
    exact (Int.not_le.mp fun z => q ((z32_le hz ha).mpr z))
theorem J_icmp_gt {a b off : Int} (tgt : Nat) (d : decode M.2.1 pc = .ok (.if_icmp .gt off, 3)) (ht : (pc : Int) + off = (tgt : Int)) (ha : -2147483648 ≤ a ∧ a < 2147483648) (hb : -2147483648 ≤ b ∧ b < 2147483648) (kt : b < a → V G M K R kc ks sz tgt lo st w) (kf : a ≤ b → V G M K R kc ks sz (pc + 3) lo st w) : V G M K R kc ks sz pc lo (.int (Int32.ofInt b) :: .int (Int32.ofInt a) :: st) w :=
  V_icmp_gt tgt d ht (fun q => kt ((z32_lt hb ha).mp q)) (fun q => kf ((Int.not_lt.mp fun z => q ((z32_lt hb ha).mpr z))))
theorem J_if_gt {a off : Int} (tgt : Nat) (d : decode M.2.1 pc = .ok (.ifCond .gt off, 3)) (ht : (pc : Int) + off = (tgt : Int)) (ha : -2147483648 ≤ a ∧ a < 2147483648) (kt : 0 < a → V G M K R kc ks sz tgt lo st w) (kf : a ≤ 0 → V G M K R kc ks sz (pc + 3) lo st w) : V G M K R kc ks sz pc lo (.int (Int32.ofInt a) :: st) w := by
  have hz : -2147483648 ≤ (0 : Int) ∧ (0 : Int) < 2147483648 := by decide
  refine V_if_gt tgt d ht (fun q => kt ?_) (fun q => kf ?_)
  · rw [← z32_0] at q
    exact (z32_lt hz ha).mp q
  · rw [← z32_0] at q
    exact (Int.not_lt.mp fun z => q ((z32_lt hz ha).mpr z))
theorem J_icmp_le {a b off : Int} (tgt : Nat) (d : decode M.2.1 pc = .ok (.if_icmp .le off, 3)) (ht : (pc : Int) + off = (tgt : Int)) (ha : -2147483648 ≤ a ∧ a < 2147483648) (hb : -2147483648 ≤ b ∧ b < 2147483648) (kt : a ≤ b → V G M K R kc ks sz tgt lo st w) (kf : b < a → V G M K R kc ks sz (pc + 3) lo st w) : V G M K R kc ks sz pc lo (.int (Int32.ofInt b) :: .int (Int32.ofInt a) :: st) w :=
  V_icmp_le tgt d ht (fun q => kt ((z32_le ha hb).mp q)) (fun q => kf ((Int.not_le.mp fun z => q ((z32_le ha hb).mpr z))))
theorem J_if_le {a off : Int} (tgt : Nat) (d : decode M.2.1 pc = .ok (.ifCond .le off, 3)) (ht : (pc : Int) + off = (tgt : Int)) (ha : -2147483648 ≤ a ∧ a < 2147483648) (kt : a ≤ 0 → V G M K R kc ks sz tgt lo st w) (kf : 0 < a → V G M K R kc ks sz (pc + 3) lo st w) : V G M K R kc ks sz pc lo (.int (Int32.ofInt a) :: st) w := by
  have hz : -2147483648 ≤ (0 : Int) ∧ (0 : Int) < 2147483648 := by decide
  refine V_if_le tgt d ht (fun q => kt ?_) (fun q => kf ?_)
  · rw [← z32_0] at q
    exact (z32_le ha hz).mp q
  · rw [← z32_0] at q
    exact (Int.not_le.mp fun z => q ((z32_le ha hz).mpr z))
end ZJ
section ZJ2
variable {G : zG} {M : zM} {K : zK} {R : Room} {kc ks sz pc : Nat} {lo : List (Nat × Value)} {st : List Value} {w : zW}
theorem J_ldc2 {idx : Nat} {z : Int} (d : decode M.2.1 pc = .ok (.ldc2_w idx, 3)) (hc : zin (.constantLong M.1.cls idx (Int64.ofInt z))) (k : V G M K R kc ks sz (pc + 3) lo (.long (Int64.ofInt z) :: st) w) : V G M K R kc ks sz pc lo st w := V_ldc2 d hc k
end ZJ2
end
section
/-! pure words -/
abbrev zR (f c s n : Nat) : Room := { frames := f, cells := c, slots := s, locals := n }
abbrev zR0 : Room := zR 0 0 0 0
theorem zfor (n : Nat) (P : Nat → Prop) (done : P n) (body : ∀ i, i < n → P (i + 1) → P i) (i : Nat) (hi : i ≤ n) : P i := by
  obtain ⟨k, hk⟩ : ∃ k, n = i + k := ⟨n - i, by omega⟩
  induction k generalizing i with
  | zero =>
    have e : i = n := by omega
    rw [e]
    exact done
  | succ k ih => exact body i (by omega) (ih (i + 1) (by omega) (by omega))
/-- the first n numbers by f, the rest as they were -/
def zif (n : Int) (f g : Int → Int) : Int → Int := fun j => if 0 ≤ j ∧ j < n then f j else g j
theorem zif_0 {f g : Int → Int} : zif 0 f g = g := by
  funext j
  exact if_neg (by omega)
theorem zif_l {n j : Int} {f g : Int → Int} (h : 0 ≤ j ∧ j < n) : zif n f g j = f j := if_pos h
theorem zif_r {n j : Int} {f g : Int → Int} (h : ¬ (0 ≤ j ∧ j < n)) : zif n f g j = g j := if_neg h
theorem zif_s {i v : Int} {f g : Int → Int} (h : 0 ≤ i) (hv : v = f i) : zu (zif i f g) i v = zif (i + 1) f g := by
  funext j
  unfold zu zif
  by_cases hj : j = i
  · rw [if_pos hj, if_pos (by omega), hv, hj]
  · rw [if_neg hj]
    by_cases h2 : 0 ≤ j ∧ j < i
    · rw [if_pos h2, if_pos (by omega)]
    · rw [if_neg h2, if_neg (by omega)]
theorem zro_eq {G : zG} {n : Nat} {g g' : Int → Int} (h : g = g') : zro G n g = zro G n g' := by rw [h]
/-- an answer and a world, nothing made -/
def zdet (v : Option Value) (w' : zW) (sz' : Nat) : zK := (fun o w1 s1 => match o with
  | .inl v1 => v1 = v ∧ w1 = w' ∧ s1 = sz'
  | .inr _ => False, 0, 0)
/-- as zfor, from a start on -/
theorem zforF (m n : Nat) (P : Nat → Prop) (done : P n) (body : ∀ i, m ≤ i → i < n → P (i + 1) → P i) (i : Nat) (hm : m ≤ i) (hi : i ≤ n) : P i := by
  obtain ⟨k, hk⟩ : ∃ k, n = i + k := ⟨n - i, by omega⟩
  induction k generalizing i with
  | zero =>
    have e : i = n := by omega
    rw [e]
    exact done
  | succ k ih => exact body i hm (by omega) (ih (i + 1) (by omega) (by omega) (by omega))
/-! the product of two rows modulo x^n + 1, as the class sums it up -/
def zcp (n : Int) (a b : Int → Int) (k : Int) : Nat → Int
  | 0 => 0
  | m + 1 => zcp n a b k m + (if (m : Int) ≤ k then a m * b (k - m) else -(a m * b (n + k - m)))
def zap (n : Int) (a b g : Int → Int) (i : Nat) : Int → Int := fun k => if 0 ≤ k ∧ k < n then g k + zcp n a b k i else g k
def zap1 (n : Int) (a b g : Int → Int) (i j : Nat) : Int → Int := fun k => if (i : Int) ≤ k ∧ k < i + j then zap n a b g i k + a i * b (k - i) else zap n a b g i k
def zap2 (n : Int) (a b g : Int → Int) (i j : Nat) : Int → Int := fun k => if (i : Int) ≤ k ∧ k < n then zap n a b g i k + a i * b (k - i) else if 0 ≤ k ∧ k < i + j - n then zap n a b g i k - a i * b (n + k - i) else zap n a b g i k
theorem zap_0 {n : Int} {a b g : Int → Int} : zap n a b g 0 = g := by
  funext k
  unfold zap
  split
  · show g k + 0 = g k
    omega
  · rfl
theorem zap1_0 {n : Int} {a b g : Int → Int} {i : Nat} : zap1 n a b g i 0 = zap n a b g i := by
  funext k
  exact if_neg (by omega)
theorem zap1_s {n : Int} {a b g : Int → Int} {i j : Nat} (h : (i : Int) + j < n) : zu (zap1 n a b g i j) (i + j) (zap1 n a b g i j (i + j) + a i * b j) = zap1 n a b g i (j + 1) := by
  funext k
  unfold zu
  by_cases hk : k = i + j
  · rw [if_pos hk, hk]
    unfold zap1
    rw [if_neg (by omega), if_pos (by omega), show (i : Int) + j - i = j by omega]
  · rw [if_neg hk]
    unfold zap1
    by_cases h2 : (i : Int) ≤ k ∧ k < i + j
    · rw [if_pos h2, if_pos (by omega)]
    · rw [if_neg h2, if_neg (by omega)]
theorem zap2_0 {n : Nat} {a b g : Int → Int} {i : Nat} (h : i ≤ n) : zap2 n a b g i (n - i) = zap1 n a b g i (n - i) := by
  funext k
  unfold zap2 zap1
  by_cases h2 : (i : Int) ≤ k ∧ k < n
  · rw [if_pos h2, if_pos (by omega)]
  · rw [if_neg h2, if_neg (by omega), if_neg (by omega)]
theorem zap2_s {n : Nat} {a b g : Int → Int} {i j : Nat} (h1 : n - i ≤ j) (h2 : j < n) (h3 : i < n) : zu (zap2 n a b g i j) (i + j - n) (zap2 n a b g i j (i + j - n) - a i * b j) = zap2 n a b g i (j + 1) := by
  funext k
  unfold zu
  by_cases hk : k = (i : Int) + j - n
  · rw [if_pos hk, hk]
    unfold zap2
    rw [if_neg (by omega), if_neg (by omega), if_neg (by omega), if_pos (by omega), show (n : Int) + ((i : Int) + j - n) - i = j by omega]
  · rw [if_neg hk]
    unfold zap2
    by_cases h4 : (i : Int) ≤ k ∧ k < n
    · rw [if_pos h4, if_pos h4]
    · rw [if_neg h4, if_neg h4]
      by_cases h5 : 0 ≤ k ∧ k < (i : Int) + j - n
      · rw [if_pos h5, if_pos (by omega)]
      · rw [if_neg h5, if_neg (by omega)]
theorem zap2_n {n : Nat} {a b g : Int → Int} {i : Nat} (h : i < n) : zap2 n a b g i n = zap n a b g (i + 1) := by
  funext k
  unfold zap2 zap
  by_cases h1 : 0 ≤ k ∧ k < (n : Int)
  · rw [if_pos h1, if_pos h1]
    show _ = g k + (zcp n a b k i + _)
    by_cases h2 : (i : Int) ≤ k
    · rw [if_pos ⟨h2, h1.2⟩, if_pos h2]
      omega
    · rw [if_neg (by omega), if_pos (by omega), if_neg h2]
      omega
  · rw [if_neg h1, if_neg h1, if_neg (by omega), if_neg (by omega)]
/-! CHANCE -/
def zlc (c : Int32) : Int32 := 1664525 * c + 1013904223
def zlcN (c : Int32) : Nat → Int32
  | 0 => c
  | n + 1 => zlc (zlcN c n)
def zup (c : Int32) : Int := ((c.toUInt32 >>> 16).toInt32).toInt
theorem zup_b (c : Int32) : 0 ≤ zup c ∧ zup c < 65536 := by
  unfold zup
  have h : (c.toUInt32 >>> 16).toNat < 65536 := by
    rw [UInt32.toNat_shiftRight]
    have := c.toUInt32.toNat_lt
    simp [Nat.shiftRight_eq_div_pow]
    omega
  have h2 : ((c.toUInt32 >>> 16).toInt32).toInt = ((c.toUInt32 >>> 16).toNat : Int) := by
    show (c.toUInt32 >>> 16).toBitVec.toInt = _
    rw [BitVec.toInt_eq_toNat_of_lt]
    · rfl
    · show 2 * (c.toUInt32 >>> 16).toNat < _
      omega
  rw [h2]
  omega
theorem zup_of (c : Int32) : (c.toUInt32 >>> 16).toInt32 = Int32.ofInt (zup c) := (Int32.ofInt_toInt _).symm
end
section
abbrev M_X_init : zM := (⟨"RingCipher", "<init>", "()V"⟩, prog_1_method_1_code, 2, (Option.none : Option Jvm.ClassFile.FieldType), [])
abbrev M_Object_init : zM := (⟨"java/lang/Object", "<init>", "()V"⟩, object_method_1_code, 1, (Option.none : Option Jvm.ClassFile.FieldType), [])
abbrev M_Ring_init : zM := (⟨"RingCipher$Ring", "<init>", "()V"⟩, prog_5_method_1_code, 1, (Option.none : Option Jvm.ClassFile.FieldType), [])
abbrev M_Ring_choose : zM := (⟨"RingCipher$Ring", "choose", "(I)V"⟩, prog_5_method_2_code, 5, (Option.none : Option Jvm.ClassFile.FieldType), [])
abbrev M_Ring_leastRoot : zM := (⟨"RingCipher$Ring", "leastRoot", "()I"⟩, prog_5_method_3_code, 2, (Option.some Jvm.ClassFile.FieldType.int), [])
abbrev M_Ring_powerModT : zM := (⟨"RingCipher$Ring", "powerModT", "(JI)J"⟩, prog_5_method_4_code, 7, (Option.some Jvm.ClassFile.FieldType.long), [])
abbrev M_Chance_init : zM := (⟨"RingCipher$Chance", "<init>", "()V"⟩, prog_2_method_1_code, 1, (Option.none : Option Jvm.ClassFile.FieldType), [])
abbrev M_KeyRing_init : zM := (⟨"RingCipher$KeyRing", "<init>", "()V"⟩, prog_4_method_1_code, 2, (Option.none : Option Jvm.ClassFile.FieldType), [])
abbrev M_SwitchKey_init : zM := (⟨"RingCipher$SwitchKey", "<init>", "()V"⟩, prog_6_method_1_code, 1, (Option.none : Option Jvm.ClassFile.FieldType), [])
abbrev M_Cipher_init : zM := (⟨"RingCipher$Cipher", "<init>", "()V"⟩, prog_3_method_1_code, 1, (Option.none : Option Jvm.ClassFile.FieldType), [])
abbrev M_X_keys : zM := (⟨"RingCipher", "keys", "()I"⟩, prog_1_method_3_code, 1, (Option.some Jvm.ClassFile.FieldType.int), [])
abbrev M_KeyRing_renew : zM := (⟨"RingCipher$KeyRing", "renew", "(LRingCipher$Ring;LRingCipher$Chance;)V"⟩, prog_4_method_3_code, 3, (Option.none : Option Jvm.ClassFile.FieldType), [])
abbrev M_Chance_fillTernary : zM := (⟨"RingCipher$Chance", "fillTernary", "([JI)V"⟩, prog_2_method_5_code, 4, (Option.none : Option Jvm.ClassFile.FieldType), [])
abbrev M_Chance_draw : zM := (⟨"RingCipher$Chance", "draw", "()I"⟩, prog_2_method_4_code, 1, (Option.some Jvm.ClassFile.FieldType.int), [])
abbrev M_Arrays_fill : zM := (⟨"java/util/Arrays", "fill", "([JJ)V"⟩, prog_18_method_101_code, 5, (Option.none : Option Jvm.ClassFile.FieldType), [])
abbrev M_Ring_addProduct : zM := (⟨"RingCipher$Ring", "addProduct", "([J[J[J)V"⟩, prog_5_method_9_code, 8, (Option.none : Option Jvm.ClassFile.FieldType), [])
abbrev M_KeyRing_makeMask : zM := (⟨"RingCipher$KeyRing", "makeMask", "(LRingCipher$Ring;LRingCipher$Chance;[J)V"⟩, prog_4_method_7_code, 4, (Option.none : Option Jvm.ClassFile.FieldType), [])
abbrev M_Chance_fillUniform : zM := (⟨"RingCipher$Chance", "fillUniform", "([JI)V"⟩, prog_2_method_7_code, 6, (Option.none : Option Jvm.ClassFile.FieldType), [])
abbrev M_Chance_fillErrors : zM := (⟨"RingCipher$Chance", "fillErrors", "([JI)V"⟩, prog_2_method_6_code, 5, (Option.none : Option Jvm.ClassFile.FieldType), [])
abbrev M_Integer_bitCount : zM := (⟨"java/lang/Integer", "bitCount", "(I)I"⟩, prog_12_method_49_code, 1, (Option.some Jvm.ClassFile.FieldType.int), [])
abbrev M_KeyRing_hideBody : zM := (⟨"RingCipher$KeyRing", "hideBody", "(LRingCipher$Ring;[J)V"⟩, prog_4_method_8_code, 4, (Option.none : Option Jvm.ClassFile.FieldType), [])
abbrev M_Math_floorMod_JJ : zM := (⟨"java/lang/Math", "floorMod", "(JJ)J"⟩, prog_13_method_52_code, 6, (Option.some Jvm.ClassFile.FieldType.long), [])
abbrev M_KeyRing_makeSwitch : zM := (⟨"RingCipher$KeyRing", "makeSwitch", "(LRingCipher$Ring;LRingCipher$Chance;LRingCipher$SwitchKey;[J)V"⟩, prog_4_method_6_code, 6, (Option.none : Option Jvm.ClassFile.FieldType), [])
abbrev M_Ring_addScaled : zM := (⟨"RingCipher$Ring", "addScaled", "([J[JJ)V"⟩, prog_5_method_10_code, 6, (Option.none : Option Jvm.ClassFile.FieldType), [])
abbrev M_X_emptyCiphers : zM := (⟨"RingCipher", "emptyCiphers", "()V"⟩, prog_1_method_22_code, 2, (Option.none : Option Jvm.ClassFile.FieldType), [])
abbrev M_X_count : zM := (⟨"RingCipher", "count", "(I)I"⟩, prog_1_method_17_code, 2, (Option.some Jvm.ClassFile.FieldType.int), [])
abbrev M_X_fullCiphers : zM := (⟨"RingCipher", "fullCiphers", "()I"⟩, prog_1_method_23_code, 3, (Option.some Jvm.ClassFile.FieldType.int), [])
abbrev M_Chance_upperHalf : zM := (⟨"RingCipher$Chance", "upperHalf", "()I"⟩, prog_2_method_3_code, 1, (Option.some Jvm.ClassFile.FieldType.int), [])
abbrev M_Law_begin : zM := (⟨"RingCipherLaw", "begin", "(LRingCipher;II[J)I"⟩, method_3_code, 5, (Option.some Jvm.ClassFile.FieldType.int), [((0 : Nat), (10 : Nat), (13 : Nat), (13 : Nat))])
abbrev M_X_begin : zM := (⟨"RingCipher", "begin", "(II)I"⟩, prog_1_method_2_code, 4, (Option.some Jvm.ClassFile.FieldType.int), [])
abbrev M_Throwable_init_ : zM := (⟨"java/lang/Throwable", "<init>", "()V"⟩, prog_17_method_1_code, 1, (Option.none : Option Jvm.ClassFile.FieldType), [])
abbrev M_IllegalArgumentException_init : zM := (⟨"java/lang/IllegalArgumentException", "<init>", "(Ljava/lang/String;)V"⟩, prog_10_method_2_code, 2, (Option.none : Option Jvm.ClassFile.FieldType), [])
abbrev M_RuntimeException_init : zM := (⟨"java/lang/RuntimeException", "<init>", "(Ljava/lang/String;)V"⟩, prog_14_method_2_code, 2, (Option.none : Option Jvm.ClassFile.FieldType), [])
abbrev M_Exception_init : zM := (⟨"java/lang/Exception", "<init>", "(Ljava/lang/String;)V"⟩, prog_9_method_2_code, 2, (Option.none : Option Jvm.ClassFile.FieldType), [])
abbrev M_Throwable_init_Ljavalan : zM := (⟨"java/lang/Throwable", "<init>", "(Ljava/lang/String;)V"⟩, prog_17_method_2_code, 2, (Option.none : Option Jvm.ClassFile.FieldType), [])
abbrev M_Chance_restart : zM := (⟨"RingCipher$Chance", "restart", "(I)V"⟩, prog_2_method_2_code, 2, (Option.none : Option Jvm.ClassFile.FieldType), [])
abbrev M_KeyRing_forget : zM := (⟨"RingCipher$KeyRing", "forget", "()V"⟩, prog_4_method_2_code, 1, (Option.none : Option Jvm.ClassFile.FieldType), [])
abbrev M_Law_turnKey : zM := (⟨"RingCipherLaw", "turnKey", "(LRingCipher;I[J)I"⟩, method_4_code, 4, (Option.some Jvm.ClassFile.FieldType.int), [((0 : Nat), (9 : Nat), (12 : Nat), (13 : Nat)), ((0 : Nat), (9 : Nat), (15 : Nat), (19 : Nat))])
abbrev M_X_turnKey : zM := (⟨"RingCipher", "turnKey", "(I)I"⟩, prog_1_method_4_code, 3, (Option.some Jvm.ClassFile.FieldType.int), [])
abbrev M_IllegalStateException_init : zM := (⟨"java/lang/IllegalStateException", "<init>", "(Ljava/lang/String;)V"⟩, prog_11_method_2_code, 2, (Option.none : Option Jvm.ClassFile.FieldType), [])
abbrev M_KeyRing_placeOfTurn : zM := (⟨"RingCipher$KeyRing", "placeOfTurn", "(I)I"⟩, prog_4_method_4_code, 3, (Option.some Jvm.ClassFile.FieldType.int), [])
abbrev M_KeyRing_makeTurn : zM := (⟨"RingCipher$KeyRing", "makeTurn", "(LRingCipher$Ring;LRingCipher$Chance;II)V"⟩, prog_4_method_5_code, 5, (Option.none : Option Jvm.ClassFile.FieldType), [])
abbrev M_Ring_substitute : zM := (⟨"RingCipher$Ring", "substitute", "([J[JI)V"⟩, prog_5_method_14_code, 6, (Option.none : Option Jvm.ClassFile.FieldType), [])
abbrev M_Math_max_II : zM := (⟨"java/lang/Math", "max", "(II)I"⟩, prog_13_method_65_code, 2, (Option.some Jvm.ClassFile.FieldType.int), [])
abbrev M_Law_set : zM := (⟨"RingCipherLaw", "set", "(LRingCipher;III[J)I"⟩, method_5_code, 6, (Option.some Jvm.ClassFile.FieldType.int), [((0 : Nat), (12 : Nat), (15 : Nat), (25 : Nat))])
abbrev M_X_set : zM := (⟨"RingCipher", "set", "(III)I"⟩, prog_1_method_5_code, 7, (Option.some Jvm.ClassFile.FieldType.int), [])
abbrev M_X_plainAt : zM := (⟨"RingCipher", "plainAt", "(I)[J"⟩, prog_1_method_18_code, 2, (Option.some (Jvm.ClassFile.FieldType.array Jvm.ClassFile.FieldType.long)), [])
abbrev M_NoSuchElementException_init : zM := (⟨"java/util/NoSuchElementException", "<init>", "(Ljava/lang/String;)V"⟩, prog_19_method_4_code, 2, (Option.none : Option Jvm.ClassFile.FieldType), [])
abbrev M_X_checkCoefficient : zM := (⟨"RingCipher", "checkCoefficient", "(I)V"⟩, prog_1_method_21_code, 2, (Option.none : Option Jvm.ClassFile.FieldType), [])
abbrev M_Math_floorMod_II : zM := (⟨"java/lang/Math", "floorMod", "(II)I"⟩, prog_13_method_50_code, 3, (Option.some Jvm.ClassFile.FieldType.int), [])
abbrev M_Law_get : zM := (⟨"RingCipherLaw", "get", "(LRingCipher;II[J)I"⟩, method_6_code, 5, (Option.some Jvm.ClassFile.FieldType.int), [((0 : Nat), (10 : Nat), (13 : Nat), (25 : Nat))])
abbrev M_X_get : zM := (⟨"RingCipher", "get", "(II)I"⟩, prog_1_method_6_code, 4, (Option.some Jvm.ClassFile.FieldType.int), [])
abbrev M_Law_batch : zM := (⟨"RingCipherLaw", "batch", "(LRingCipher;IZ[J)I"⟩, method_7_code, 5, (Option.some Jvm.ClassFile.FieldType.int), [((0 : Nat), (10 : Nat), (13 : Nat), (25 : Nat))])
abbrev M_X_batch : zM := (⟨"RingCipher", "batch", "(IZ)I"⟩, prog_1_method_7_code, 4, (Option.some Jvm.ClassFile.FieldType.int), [])
abbrev M_Ring_evaluate : zM := (⟨"RingCipher$Ring", "evaluate", "([J[J)V"⟩, prog_5_method_7_code, 7, (Option.none : Option Jvm.ClassFile.FieldType), [])
abbrev M_Ring_interpolate : zM := (⟨"RingCipher$Ring", "interpolate", "([J[J)V"⟩, prog_5_method_8_code, 9, (Option.none : Option Jvm.ClassFile.FieldType), [])
abbrev M_Law_seal : zM := (⟨"RingCipherLaw", "seal", "(LRingCipher;II[J)I"⟩, method_8_code, 5, (Option.some Jvm.ClassFile.FieldType.int), [((0 : Nat), (10 : Nat), (13 : Nat), (25 : Nat)), ((0 : Nat), (10 : Nat), (17 : Nat), (19 : Nat))])
abbrev M_X_seal : zM := (⟨"RingCipher", "seal", "(II)I"⟩, prog_1_method_8_code, 6, (Option.some Jvm.ClassFile.FieldType.int), [])
abbrev M_X_placeAt : zM := (⟨"RingCipher", "placeAt", "(I)LRingCipher$Cipher;"⟩, prog_1_method_19_code, 2, (Option.some (Jvm.ClassFile.FieldType.object "RingCipher$Cipher")), [])
abbrev M_Ring_scale : zM := (⟨"RingCipher$Ring", "scale", "()J"⟩, prog_5_method_5_code, 1, (Option.some Jvm.ClassFile.FieldType.long), [])
abbrev M_X_storeTwoParts : zM := (⟨"RingCipher", "storeTwoParts", "(LRingCipher$Cipher;)I"⟩, prog_1_method_30_code, 2, (Option.some Jvm.ClassFile.FieldType.int), [])
abbrev M_X_storeSums : zM := (⟨"RingCipher", "storeSums", "(LRingCipher$Cipher;I)V"⟩, prog_1_method_29_code, 4, (Option.none : Option Jvm.ClassFile.FieldType), [])
abbrev M_Ring_reduce : zM := (⟨"RingCipher$Ring", "reduce", "([J[J)V"⟩, prog_5_method_12_code, 4, (Option.none : Option Jvm.ClassFile.FieldType), [])
abbrev M_X_phaseOf : zM := (⟨"RingCipher", "phaseOf", "(LRingCipher$Cipher;)[J"⟩, prog_1_method_31_code, 3, (Option.some (Jvm.ClassFile.FieldType.array Jvm.ClassFile.FieldType.long)), [])
abbrev M_KeyRing_findPhase : zM := (⟨"RingCipher$KeyRing", "findPhase", "(LRingCipher$Ring;[JLRingCipher$Cipher;)V"⟩, prog_4_method_9_code, 4, (Option.none : Option Jvm.ClassFile.FieldType), [])
abbrev M_Ring_copy : zM := (⟨"RingCipher$Ring", "copy", "([J[J)V"⟩, prog_5_method_11_code, 3, (Option.none : Option Jvm.ClassFile.FieldType), [])
abbrev M_Ring_centre : zM := (⟨"RingCipher$Ring", "centre", "([J[J)V"⟩, prog_5_method_13_code, 4, (Option.none : Option Jvm.ClassFile.FieldType), [])
abbrev M_X_centred : zM := (⟨"RingCipher", "centred", "(J)J"⟩, prog_1_method_34_code, 4, (Option.some Jvm.ClassFile.FieldType.long), [])
abbrev M_X_noiseIn : zM := (⟨"RingCipher", "noiseIn", "([J)J"⟩, prog_1_method_32_code, 5, (Option.some Jvm.ClassFile.FieldType.long), [])
abbrev M_Math_abs : zM := (⟨"java/lang/Math", "abs", "(J)J"⟩, prog_13_method_61_code, 2, (Option.some Jvm.ClassFile.FieldType.long), [])
abbrev M_Math_max_JJ : zM := (⟨"java/lang/Math", "max", "(JJ)J"⟩, prog_13_method_66_code, 4, (Option.some Jvm.ClassFile.FieldType.long), [])
abbrev M_X_budgetOf : zM := (⟨"RingCipher", "budgetOf", "(J)I"⟩, prog_1_method_33_code, 3, (Option.some Jvm.ClassFile.FieldType.int), [])
abbrev M_Law_open : zM := (⟨"RingCipherLaw", "open", "(LRingCipher;II[J)I"⟩, method_9_code, 5, (Option.some Jvm.ClassFile.FieldType.int), [((0 : Nat), (10 : Nat), (13 : Nat), (25 : Nat))])
abbrev M_X_open : zM := (⟨"RingCipher", "open", "(II)I"⟩, prog_1_method_9_code, 7, (Option.some Jvm.ClassFile.FieldType.int), [])
abbrev M_X_takenAt : zM := (⟨"RingCipher", "takenAt", "(I)LRingCipher$Cipher;"⟩, prog_1_method_20_code, 3, (Option.some (Jvm.ClassFile.FieldType.object "RingCipher$Cipher")), [])
abbrev M_Ring_timesTOverQ : zM := (⟨"RingCipher$Ring", "timesTOverQ", "(J)J"⟩, prog_5_method_6_code, 7, (Option.some Jvm.ClassFile.FieldType.long), [])
abbrev M_Math_floorDiv : zM := (⟨"java/lang/Math", "floorDiv", "(JJ)J"⟩, prog_13_method_49_code, 6, (Option.some Jvm.ClassFile.FieldType.long), [])
abbrev M_Law_join : zM := (⟨"RingCipherLaw", "join", "(LRingCipher;IIII[J)I"⟩, method_10_code, 7, (Option.some Jvm.ClassFile.FieldType.int), [((0 : Nat), (14 : Nat), (17 : Nat), (25 : Nat)), ((0 : Nat), (14 : Nat), (21 : Nat), (13 : Nat)), ((0 : Nat), (14 : Nat), (25 : Nat), (19 : Nat))])
abbrev M_X_join : zM := (⟨"RingCipher", "join", "(IIII)I"⟩, prog_1_method_10_code, 8, (Option.some Jvm.ClassFile.FieldType.int), [])
abbrev M_X_multiply : zM := (⟨"RingCipher", "multiply", "(LRingCipher$Cipher;LRingCipher$Cipher;LRingCipher$Cipher;)V"⟩, prog_1_method_25_code, 6, (Option.none : Option Jvm.ClassFile.FieldType), [])
abbrev M_X_combine : zM := (⟨"RingCipher", "combine", "(LRingCipher$Cipher;LRingCipher$Cipher;LRingCipher$Cipher;J)V"⟩, prog_1_method_24_code, 8, (Option.none : Option Jvm.ClassFile.FieldType), [])
abbrev M_Law_plain : zM := (⟨"RingCipherLaw", "plain", "(LRingCipher;IIII[J)I"⟩, method_11_code, 7, (Option.some Jvm.ClassFile.FieldType.int), [((0 : Nat), (14 : Nat), (17 : Nat), (25 : Nat)), ((0 : Nat), (14 : Nat), (21 : Nat), (13 : Nat))])
abbrev M_X_plain : zM := (⟨"RingCipher", "plain", "(IIII)I"⟩, prog_1_method_11_code, 8, (Option.some Jvm.ClassFile.FieldType.int), [])
abbrev M_X_addPlain : zM := (⟨"RingCipher", "addPlain", "(LRingCipher$Cipher;LRingCipher$Cipher;[J)V"⟩, prog_1_method_26_code, 5, (Option.none : Option Jvm.ClassFile.FieldType), [])
abbrev M_X_multiplyByPlain : zM := (⟨"RingCipher", "multiplyByPlain", "(LRingCipher$Cipher;LRingCipher$Cipher;[J)V"⟩, prog_1_method_27_code, 5, (Option.none : Option Jvm.ClassFile.FieldType), [])
abbrev M_Law_shrink : zM := (⟨"RingCipherLaw", "shrink", "(LRingCipher;II[J)I"⟩, method_12_code, 5, (Option.some Jvm.ClassFile.FieldType.int), [((0 : Nat), (10 : Nat), (13 : Nat), (25 : Nat)), ((0 : Nat), (10 : Nat), (17 : Nat), (19 : Nat))])
abbrev M_X_shrink : zM := (⟨"RingCipher", "shrink", "(II)I"⟩, prog_1_method_12_code, 5, (Option.some Jvm.ClassFile.FieldType.int), [])
abbrev M_X_applySwitch : zM := (⟨"RingCipher", "applySwitch", "(LRingCipher$SwitchKey;[J)V"⟩, prog_1_method_28_code, 6, (Option.none : Option Jvm.ClassFile.FieldType), [])
abbrev M_Law_turn : zM := (⟨"RingCipherLaw", "turn", "(LRingCipher;III[J)I"⟩, method_13_code, 6, (Option.some Jvm.ClassFile.FieldType.int), [((0 : Nat), (12 : Nat), (15 : Nat), (25 : Nat)), ((0 : Nat), (12 : Nat), (19 : Nat), (19 : Nat))])
abbrev M_X_turn : zM := (⟨"RingCipher", "turn", "(III)I"⟩, prog_1_method_13_code, 8, (Option.some Jvm.ClassFile.FieldType.int), [])
abbrev M_Law_part : zM := (⟨"RingCipherLaw", "part", "(LRingCipher;III[J)I"⟩, method_14_code, 6, (Option.some Jvm.ClassFile.FieldType.int), [((0 : Nat), (12 : Nat), (15 : Nat), (25 : Nat))])
abbrev M_X_part : zM := (⟨"RingCipher", "part", "(III)I"⟩, prog_1_method_14_code, 5, (Option.some Jvm.ClassFile.FieldType.int), [])
abbrev M_Law_about : zM := (⟨"RingCipherLaw", "about", "(LRingCipher;II[J)I"⟩, method_15_code, 5, (Option.some Jvm.ClassFile.FieldType.int), [((0 : Nat), (10 : Nat), (13 : Nat), (25 : Nat)), ((0 : Nat), (10 : Nat), (17 : Nat), (13 : Nat))])
abbrev M_X_about : zM := (⟨"RingCipher", "about", "(II)I"⟩, prog_1_method_15_code, 4, (Option.some Jvm.ClassFile.FieldType.int), [])
abbrev M_Law_drop : zM := (⟨"RingCipherLaw", "drop", "(LRingCipher;I[J)I"⟩, method_16_code, 4, (Option.some Jvm.ClassFile.FieldType.int), [((0 : Nat), (9 : Nat), (12 : Nat), (25 : Nat))])
abbrev M_X_drop : zM := (⟨"RingCipher", "drop", "(I)I"⟩, prog_1_method_16_code, 4, (Option.some Jvm.ClassFile.FieldType.int), [])
abbrev M_Ref_init : zM := (⟨"RingCipherModel", "<init>", "()V"⟩, prog_8_method_1_code, 1, (Option.none : Option Jvm.ClassFile.FieldType), [])
abbrev M_Ref_thrown : zM := (⟨"RingCipherModel", "thrown", "()I"⟩, prog_8_method_2_code, 1, (Option.some Jvm.ClassFile.FieldType.int), [])
abbrev M_Ref_begin : zM := (⟨"RingCipherModel", "begin", "(II)I"⟩, prog_8_method_15_code, 4, (Option.some Jvm.ClassFile.FieldType.int), [])
abbrev M_Ref_empty_ : zM := (⟨"RingCipherModel", "empty", "()V"⟩, prog_8_method_14_code, 2, (Option.none : Option Jvm.ClassFile.FieldType), [])
abbrev M_Ref_keys : zM := (⟨"RingCipherModel", "keys", "()I"⟩, prog_8_method_16_code, 2, (Option.some Jvm.ClassFile.FieldType.int), [])
abbrev M_Ref_ternary : zM := (⟨"RingCipherModel", "ternary", "([J)V"⟩, prog_8_method_10_code, 3, (Option.none : Option Jvm.ClassFile.FieldType), [])
abbrev M_Ref_draw : zM := (⟨"RingCipherModel", "draw", "()I"⟩, prog_8_method_9_code, 1, (Option.some Jvm.ClassFile.FieldType.int), [])
abbrev M_Ref_uniform : zM := (⟨"RingCipherModel", "uniform", "([J)V"⟩, prog_8_method_12_code, 5, (Option.none : Option Jvm.ClassFile.FieldType), [])
abbrev M_Ref_error : zM := (⟨"RingCipherModel", "error", "([J)V"⟩, prog_8_method_11_code, 4, (Option.none : Option Jvm.ClassFile.FieldType), [])
abbrev M_Ref_reduced : zM := (⟨"RingCipherModel", "reduced", "([J[J[J)V"⟩, prog_8_method_8_code, 11, (Option.none : Option Jvm.ClassFile.FieldType), [])
abbrev M_Ref_of : zM := (⟨"RingCipherModel", "of", "(J)J"⟩, prog_8_method_4_code, 4, (Option.some Jvm.ClassFile.FieldType.long), [])
abbrev M_Ref_product : zM := (⟨"RingCipherModel", "product", "([J[J[J)V"⟩, prog_8_method_6_code, 8, (Option.none : Option Jvm.ClassFile.FieldType), [])
abbrev M_Ref_pairs : zM := (⟨"RingCipherModel", "pairs", "(I)V"⟩, prog_8_method_13_code, 6, (Option.none : Option Jvm.ClassFile.FieldType), [])
abbrev M_Ref_turnKey : zM := (⟨"RingCipherModel", "turnKey", "(I)I"⟩, prog_8_method_19_code, 3, (Option.some Jvm.ClassFile.FieldType.int), [])
abbrev M_Ref_fail : zM := (⟨"RingCipherModel", "fail", "(I)I"⟩, prog_8_method_3_code, 2, (Option.some Jvm.ClassFile.FieldType.int), [])
abbrev M_Ref_find : zM := (⟨"RingCipherModel", "find", "(I)I"⟩, prog_8_method_17_code, 3, (Option.some Jvm.ClassFile.FieldType.int), [])
abbrev M_Ref_turned : zM := (⟨"RingCipherModel", "turned", "([JI[J)V"⟩, prog_8_method_18_code, 6, (Option.none : Option Jvm.ClassFile.FieldType), [])
abbrev M_Ref_set : zM := (⟨"RingCipherModel", "set", "(III)I"⟩, prog_8_method_23_code, 6, (Option.some Jvm.ClassFile.FieldType.int), [])
abbrev M_Ref_noPlain : zM := (⟨"RingCipherModel", "noPlain", "(I)Z"⟩, prog_8_method_20_code, 1, (Option.some Jvm.ClassFile.FieldType.boolean), [])
abbrev M_Ref_get : zM := (⟨"RingCipherModel", "get", "(II)I"⟩, prog_8_method_24_code, 3, (Option.some Jvm.ClassFile.FieldType.int), [])
abbrev M_Ref_batch : zM := (⟨"RingCipherModel", "batch", "(IZ)I"⟩, prog_8_method_27_code, 9, (Option.some Jvm.ClassFile.FieldType.int), [])
abbrev M_Ref_root : zM := (⟨"RingCipherModel", "root", "()I"⟩, prog_8_method_26_code, 2, (Option.some Jvm.ClassFile.FieldType.int), [])
abbrev M_Ref_power : zM := (⟨"RingCipherModel", "power", "(II)I"⟩, prog_8_method_25_code, 5, (Option.some Jvm.ClassFile.FieldType.int), [])
abbrev M_Ref_seal : zM := (⟨"RingCipherModel", "seal", "(II)I"⟩, prog_8_method_30_code, 4, (Option.some Jvm.ClassFile.FieldType.int), [])
abbrev M_Ref_noCipher : zM := (⟨"RingCipherModel", "noCipher", "(I)Z"⟩, prog_8_method_21_code, 1, (Option.some Jvm.ClassFile.FieldType.boolean), [])
abbrev M_Ref_put : zM := (⟨"RingCipherModel", "put", "(II[J)V"⟩, prog_8_method_29_code, 5, (Option.none : Option Jvm.ClassFile.FieldType), [])
abbrev M_Ref_budget : zM := (⟨"RingCipherModel", "budget", "(I)I"⟩, prog_8_method_33_code, 5, (Option.some Jvm.ClassFile.FieldType.int), [])
abbrev M_Ref_noise : zM := (⟨"RingCipherModel", "noise", "(I)J"⟩, prog_8_method_32_code, 7, (Option.some Jvm.ClassFile.FieldType.long), [])
abbrev M_Ref_phase : zM := (⟨"RingCipherModel", "phase", "(I)V"⟩, prog_8_method_31_code, 3, (Option.none : Option Jvm.ClassFile.FieldType), [])
abbrev M_Ref_take : zM := (⟨"RingCipherModel", "take", "(II[J)V"⟩, prog_8_method_28_code, 5, (Option.none : Option Jvm.ClassFile.FieldType), [])
abbrev M_Ref_centred : zM := (⟨"RingCipherModel", "centred", "(J)J"⟩, prog_8_method_5_code, 4, (Option.some Jvm.ClassFile.FieldType.long), [])
abbrev M_Ref_open : zM := (⟨"RingCipherModel", "open", "(II)I"⟩, prog_8_method_35_code, 7, (Option.some Jvm.ClassFile.FieldType.int), [])
abbrev M_Ref_empty_I : zM := (⟨"RingCipherModel", "empty", "(I)Z"⟩, prog_8_method_22_code, 2, (Option.some Jvm.ClassFile.FieldType.boolean), [])
abbrev M_Ref_scaled : zM := (⟨"RingCipherModel", "scaled", "(J)J"⟩, prog_8_method_34_code, 7, (Option.some Jvm.ClassFile.FieldType.long), [])
abbrev M_Ref_join : zM := (⟨"RingCipherModel", "join", "(IIII)I"⟩, prog_8_method_37_code, 9, (Option.some Jvm.ClassFile.FieldType.int), [])
abbrev M_Ref_centre : zM := (⟨"RingCipherModel", "centre", "(II[J)V"⟩, prog_8_method_36_code, 5, (Option.none : Option Jvm.ClassFile.FieldType), [])
abbrev M_Ref_plain : zM := (⟨"RingCipherModel", "plain", "(IIII)I"⟩, prog_8_method_38_code, 8, (Option.some Jvm.ClassFile.FieldType.int), [])
abbrev M_Ref_shrink : zM := (⟨"RingCipherModel", "shrink", "(II)I"⟩, prog_8_method_40_code, 4, (Option.some Jvm.ClassFile.FieldType.int), [])
abbrev M_Ref_applied : zM := (⟨"RingCipherModel", "applied", "(I)V"⟩, prog_8_method_39_code, 5, (Option.none : Option Jvm.ClassFile.FieldType), [])
abbrev M_Ref_turn : zM := (⟨"RingCipherModel", "turn", "(III)I"⟩, prog_8_method_41_code, 5, (Option.some Jvm.ClassFile.FieldType.int), [])
abbrev M_Ref_reduce : zM := (⟨"RingCipherModel", "reduce", "([J)V"⟩, prog_8_method_7_code, 3, (Option.none : Option Jvm.ClassFile.FieldType), [])
abbrev M_Ref_part : zM := (⟨"RingCipherModel", "part", "(III)I"⟩, prog_8_method_42_code, 4, (Option.some Jvm.ClassFile.FieldType.int), [])
abbrev M_Ref_about : zM := (⟨"RingCipherModel", "about", "(II)I"⟩, prog_8_method_43_code, 3, (Option.some Jvm.ClassFile.FieldType.int), [])
abbrev M_Ref_drop : zM := (⟨"RingCipherModel", "drop", "(I)I"⟩, prog_8_method_44_code, 3, (Option.some Jvm.ClassFile.FieldType.int), [])
abbrev M_Ref_count : zM := (⟨"RingCipherModel", "count", "(I)I"⟩, prog_8_method_45_code, 4, (Option.some Jvm.ClassFile.FieldType.int), [])
theorem i_Chance : ∀ w ∈ u_ws R_Chance F_Chance 1, zin w := by decide +kernel
theorem i_Cipher : ∀ w ∈ u_ws R_Cipher F_Cipher 2, zin w := by decide +kernel
theorem i_KeyRing : ∀ w ∈ u_ws R_KeyRing F_KeyRing 10, zin w := by decide +kernel
theorem i_Ring : ∀ w ∈ u_ws R_Ring F_Ring 5, zin w := by decide +kernel
theorem i_SwitchKey : ∀ w ∈ u_ws R_SwitchKey F_SwitchKey 3, zin w := by decide +kernel
theorem i_X : ∀ w ∈ u_ws R_X F_X 7, zin w := by decide +kernel
theorem i_Ref : ∀ w ∈ u_ws R_Ref F_Ref 24, zin w := by decide +kernel
end
section
/-! making cells, statics, copying -/
theorem zouter (c : ClassId) (N h0 : Nat) : ∀ i : Nat, Jvm.Free.Multi.outerC c N h0 i = arrV c N (fun j => va_rf (if j < i then some (h0 + 1 + j) else none))
  | 0 => by
    show ({ cls := c, slots := Array.replicate N .null, vm := .none } : Cell) = _
    rw [arrV_new]
    exact congrArg (arrV c N) (funext fun j => by simp [va_rf])
  | i + 1 => by
    show (Jvm.Free.Multi.outerC c N h0 i).setSlot i (.ref (h0 + 1 + i)) = _
    rw [zouter c N h0 i, arrV_store]
    refine congrArg (arrV c N) (funext fun j => ?_)
    unfold updV
    by_cases h : j = i
    · subst h
      rw [if_pos rfl, if_pos (Nat.lt_succ_self j)]
      rfl
    · rw [if_neg h]
      show va_rf (if j < i then some (h0 + 1 + j) else none) = _
      by_cases h2 : j < i
      · rw [if_pos h2, if_pos (by omega)]
      · rw [if_neg h2, if_neg (by omega)]
section ZMk
variable {G : zG} {M : zM} {K : zK} {R : Room} {kc ks sz pc : Nat} {lo : List (Nat × Value)} {st : List Value} {w : zW}
theorem zS_new {G : zG} {s : State} {H H1 : Heap} {locs : List Loc} (hS : va_S (zA G) s.heap H locs) (h1 : H.size ≤ H1.size) (ho : ∀ q, q < H.size → H1[q]? = H[q]?) : va_S (zA G) s.heap H1 locs :=
  ⟨Nat.le_trans hS.1 h1, fun q a b => (ho q (Nat.lt_of_lt_of_le a hS.1)).trans (hS.2.1 q a b), hS.2.2⟩
theorem V_objInit {idx a : Nat} (d : decode M.2.1 pc = .ok (.invokespecial idx, 3)) (h1 : zin (.methodLink M.1.cls idx Lib.objectInit)) (h2 : zin (.instanceMethod Lib.objectInit)) (h3 : zin (.code Lib.objectInit ⟨#[0xb1]⟩ 1 none)) (hf : 1 ≤ R.frames) (hlo : (st.map fun v => v.category).sum + 12 ≤ R.locals)
    (k : V G M K R kc ks sz (pc + 3) lo st w) : V G M K R kc ks sz pc lo (.ref a :: st) w :=
  fun p l e s m args below meth c F ls H locs hl hw hS => W.objInit F.1 F.2.1 F.own (F.wd.use h1 _) (F.wd.use h2 _) (F.wd.use h3 _) rfl (by rw [F.ml]; exact hl.1) rfl d hf (by show 2 * 0 + _ + 12 ≤ _; omega) (k p l e s m args below meth c F ls H locs hl hw hS)
theorem V_new {ci idx N : Nat} {C : String} {T : u_T} {ty : Nat → FieldType} (fs : List Value) (d : decode M.2.1 pc = .ok (.new idx, 3)) (hcl : vwCl[ci]? = some (C, T, N)) (hk : zin (.classLink M.1.cls idx C)) (hi : zin (.instantiable C N)) (hini : zin (.initialized C)) (hts : ∀ q ∈ u_ws C T N, zin q)
    (hty : ∀ k, k < N → parseFieldDescriptor (T k).2.2.1 = some (ty k)) (hfs : ∀ j, j < N → defaultValue (ty j) = vp_V fs j) (hc : kc + 1 ≤ R.cells) (hs : ks + N ≤ R.slots)
    (k : V G M K R (kc + 1) (ks + N) (sz + 1) (pc + 3) lo (.ref sz :: st) (zset w sz (.inr (ci, fs)))) : V G M K R kc ks sz pc lo st w :=
  fun p l e s m args below meth c F ls H locs hl hw hS => by
    have hKn := F.kk.1 ci _ hcl
    refine W.newcK F.1 F.2.1 F.own (F.wd.use hk _) (F.wd.use hi _) (F.wd.use hini _) rfl d hc hs hKn.2.1 hw.1 fun H1 kC hkC e1 z1 o1 => ?_
    exact k p l e s m args below meth c F ls H1 locs hl (hw.new ⟨_, hcl, (u_born ty (fun q hq => F.wd.use (hts q hq) args) (fun _ hq => hq) hKn hkC e1 hty).to hfs⟩ z1 o1) (zS_new hS (by rw [z1, hw.1]; omega) (fun q hq => o1 q (by rw [← hw.1]; exact hq)))
theorem V_newl {n : Int32} {n' : Nat} (d : decode M.2.1 pc = .ok (.newarray .long, 2)) (ha : zin (.arrayClass .long)) (hn : ¬ n < 0) (hN : n.toNatClampNeg = n') (hb : n' * 8 ≤ 536870912) (hc : kc + 1 ≤ R.cells) (hs : ks + n' ≤ R.slots)
    (k : V G M K R (kc + 1) (ks + n') (sz + 1) (pc + 2) lo (.ref sz :: st) (zset w sz (zro G n' (fun _ => 0)))) : V G M K R kc ks sz pc lo (.int n :: st) w :=
  fun p l e s m args below meth c F ls H locs hl hw hS => by
    refine va_newaK (atype := .long) F.1 F.2.1 (F.wd.use ha _) rfl d rfl hn hN hb hc hs hw.1 fun H1 cA e1 z1 o1 hAr hNm => ?_
    have hRA : s.vm.findClass ("[" ++ FieldType.long.toString) = some (G.2.1 0) := (F.kk.2 0 _ rfl).2
    cases hNm.symm.trans hRA
    exact k p l e s m args below meth c F ls H1 locs hl (hw.new e1 z1 o1) (zS_new hS (by rw [z1, hw.1]; omega) (fun q hq => o1 q (by rw [← hw.1]; exact hq)))
theorem V_newi {n : Int32} {n' : Nat} (d : decode M.2.1 pc = .ok (.newarray .int, 2)) (ha : zin (.arrayClass .int)) (hn : ¬ n < 0) (hN : n.toNatClampNeg = n') (hb : n' * 4 ≤ 536870912) (hc : kc + 1 ≤ R.cells) (hs : ks + n' ≤ R.slots)
    (k : V G M K R (kc + 1) (ks + n') (sz + 1) (pc + 2) lo (.ref sz :: st) (zset w sz (zio G n' (fun _ => 0)))) : V G M K R kc ks sz pc lo (.int n :: st) w :=
  fun p l e s m args below meth c F ls H locs hl hw hS => by
    refine va_newaK (atype := .int) F.1 F.2.1 (F.wd.use ha _) rfl d rfl hn hN hb hc hs hw.1 fun H1 cA e1 z1 o1 hAr hNm => ?_
    have hRA : s.vm.findClass ("[" ++ FieldType.int.toString) = some (G.2.1 2) := (F.kk.2 2 _ rfl).2
    cases hNm.symm.trans hRA
    exact k p l e s m args below meth c F ls H1 locs hl (hw.new e1 z1 o1) (zS_new hS (by rw [z1, hw.1]; omega) (fun q hq => o1 q (by rw [← hw.1]; exact hq)))
theorem V_newr {n : Int32} {n' ka idx : Nat} {C : String} (d : decode M.2.1 pc = .ok (.anewarray idx, 3)) (ht : (zty G)[ka]? = some (G.2.1 ka, .object C)) (hk : zin (.classLink M.1.cls idx C)) (ho : zin (.arrayOver (.object C))) (hn : ¬ n < 0) (hN : n.toNatClampNeg = n') (hb : n' * 4 ≤ 536870912) (hc : kc + 1 ≤ R.cells) (hs : ks + n' ≤ R.slots)
    (k : V G M K R (kc + 1) (ks + n') (sz + 1) (pc + 3) lo (.ref sz :: st) (zset w sz (zrefs G ka n' (fun _ => none)))) : V G M K R kc ks sz pc lo (.int n :: st) w :=
  fun p l e s m args below meth c F ls H locs hl hw hS => by
    subst hN
    refine W.anew F.1 F.2.1 F.own (F.wd.use hk _) (F.wd.use ho _) rfl d rfl hn hb hc hs fun cA kA comp h1 h2 h3 h4 => ?_
    obtain ⟨kA', comp', -, -, -, hRA⟩ := (F.kk.2 ka _ ht).2
    cases h1.symm.trans hRA
    have hz := hw.1
    subst hz
    refine k p l e s m args below meth c F ls _ locs hl (hw.new (e := zrefs G ka n.toNatClampNeg (fun _ => none)) ?_ (by simp) (fun q hq => by rw [Array.getElem?_push_lt hq, Array.getElem?_eq_getElem hq])) (zS_new hS (by simp) (fun q hq => by rw [Array.getElem?_push_lt hq, Array.getElem?_eq_getElem hq]))
    show (H.push _)[H.size]? = some (vp_cell _ _)
    rw [Array.getElem?_push_size, vp_cell_q, ← arrV_new]
    rfl
theorem V_aastore {a n v ci ka : Nat} {C : String} {T : u_T} {N : Nat} {f : Nat → Option Nat} {i : Int32} {fs : List Value} (d : decode M.2.1 pc = .ok (.aastore, 1)) (h : w a = some (zrefs G ka n f)) (ht : (zty G)[ka]? = some (G.2.1 ka, .object C)) (hv : w v = some (.inr (ci, fs))) (hcl : vwCl[ci]? = some (C, T, N)) (hin : vp_in i n)
    (k : V G M K R kc ks sz (pc + 1) lo st (zset w a (zrefs G ka n (va_up f i.toNatClampNeg (some v))))) : V G M K R kc ks sz pc lo (.ref v :: .int i :: .ref a :: st) w :=
  fun p l e s m args below meth c F ls H locs hl hw hS => by
    have hlt : i.toNatClampNeg < n := Nat.not_le.mp fun q => hin (Or.inr q)
    have h0 : ¬ i < 0 := fun q => hin (Or.inl q)
    obtain ⟨r', hr', cellV, g1, g2, g3, -⟩ := hw.at hv
    have hcls := (F.kk.1 ci _ hcl).2
    obtain ⟨kA, comp, k1, k2, k3, -⟩ := (F.kk.2 ka _ ht).2
    have hcomp : comp = G.1.1 ci := Option.some.inj (k3.symm.trans hcls.1)
    subst hcomp
    obtain ⟨kC, hkC, -⟩ := hcls.2
    refine W.aast F.1 F.2.1 (hw.at h) (fun q h => by cases h) (fun h => by cases h) k1 k2 rfl hkC ⟨h0, by show _ < (arrV _ _ _).slots.size; rw [arrV_size]; exact hlt⟩ g1 (fun q h => by rw [g3] at h; cases h) (by rw [g2]; exact hkC) (by rw [g2]; exact va_assign hcls) rfl rfl d fun H1 e1 z oq => ?_
    refine k p l e s m args below meth c F ls H1 _ hl (hw.put h ?_ z oq) (hS.put z oq (hw.2.2 _ _ h).1)
    show H1[a]? = some (vp_cell _ _)
    rw [e1, vp_cell_q, vp_cell_q, arrV_store]
    congr 2
    funext q
    by_cases hq : q = i.toNatClampNeg
    · subst hq
      simp [updV, va_up, va_rf]
    · simp [updV, va_up, hq]
/-- the rows of a new array of rows -/
def zrws (G : zG) (w : zW) (a n k : Nat) : zW := fun q => if a ≤ q ∧ q < a + n then some (zro G k (fun _ => 0)) else w q
theorem V_mna {n k : Int32} {n' k' idx : Nat} (d : decode M.2.1 pc = .ok (.multianewarray idx 2, 4)) (hk : zin (.classLink M.1.cls idx "[[J")) (ho : zin (.arrayOver (.array .long))) (ha : zin (.arrayClass .long)) (hn : ¬ n < 0) (hk0 : ¬ k < 0) (hN : n.toNatClampNeg = n') (hK : k.toNatClampNeg = k') (hb1 : n' * 4 ≤ 536870912) (hb2 : k' * 8 ≤ 536870912)
    (hc : kc + (1 + n') ≤ R.cells) (hs : ks + (n' + n' * k') ≤ R.slots)
    (kk : V G M K R (kc + 1 + n') (ks + n' + n' * k') (sz + 1 + n') (pc + 4) lo (.ref sz :: st) (zset (zrws G w (sz + 1) n' k') sz (zrefs G 1 n' (fun i => if i < n' then some (sz + 1 + i) else none)))) : V G M K R kc ks sz pc lo (.int k :: .int n :: st) w :=
  fun p l e s m args below meth c F ls H locs hl hw hS => by
    subst hN
    subst hK
    have hz := hw.1
    subst hz
    intro T hT X
    obtain ⟨vm₁, cA, comp, -, fA, fC, hO, -, X', step⟩ := X.multianewarray2F F.1 (ty := .long) F.own (F.wd.use hk _) (F.wd.use ho _) (F.wd.use ha _) (g := F0 m pc ls (.int k :: .int n :: st)) rfl (by rw [F.2.1]; exact d) rfl hn hk0 hb1 hb2 (by omega) rfl rfl hc hs
    have hRA : s.vm.findClass ("[" ++ FieldType.long.toString) = some (G.2.1 0) := (F.kk.2 0 _ rfl).2
    have hRB : s.vm.findClass ("[" ++ (FieldType.array .long).toString) = some (G.2.1 1) := (F.kk.2 1 _ rfl).2
    cases fC.symm.trans hRA
    cases fA.symm.trans hRB
    have hTh : (T.setVm vm₁).heap = H := hT
    obtain ⟨f1, f2, -, -⟩ := Jvm.Free.Multi.fill_facts (T.setVm vm₁) (G.2.1 1) (G.2.1 0) n.toNatClampNeg k.toNatClampNeg (defaultValue .long) n.toNatClampNeg
    have hold : ∀ x : Nat, x < H.size → (Jvm.Free.Multi.fill (T.setVm vm₁) (G.2.1 1) (G.2.1 0) n.toNatClampNeg k.toNatClampNeg (defaultValue .long) n.toNatClampNeg).heap[x]? = H[x]? := fun x hx => by
      rw [Jvm.Free.Multi.fill_old (T.setVm vm₁) (G.2.1 1) (G.2.1 0) n.toNatClampNeg k.toNatClampNeg (defaultValue .long) (a := x) (by rw [hTh]; exact hx) n.toNatClampNeg, hTh]
    have hrow := Jvm.Free.Multi.fill_inner (T.setVm vm₁) (G.2.1 1) (G.2.1 0) n.toNatClampNeg k.toNatClampNeg (defaultValue .long) n.toNatClampNeg
    generalize Jvm.Free.Multi.fill (T.setVm vm₁) (G.2.1 1) (G.2.1 0) n.toNatClampNeg k.toNatClampNeg (defaultValue .long) n.toNatClampNeg = U at X' step f1 f2 hold hrow
    rw [hTh] at f1 f2 hrow
    have hB : G.2.2.1 ≤ H.size := hw.2.1
    have hH : zH G (zset (zrws G w (H.size + 1) n.toNatClampNeg k.toNatClampNeg) H.size (zrefs G 1 n.toNatClampNeg (fun i => if i < n.toNatClampNeg then some (H.size + 1 + i) else none))) (H.size + 1 + n.toNatClampNeg) U.heap := by
      refine ⟨f1, by omega, fun q x hx => ?_⟩
      unfold zset at hx
      by_cases h1 : q = H.size
      · rw [if_pos h1] at hx
        cases hx
        subst h1
        refine ⟨hB, ?_⟩
        show U.heap[H.size]? = some (vp_cell _ _)
        rw [f2, vp_cell_q]
        exact congrArg some (zouter _ _ _ _)
      · rw [if_neg h1] at hx
        unfold zrws at hx
        by_cases h2 : H.size + 1 ≤ q ∧ q < H.size + 1 + n.toNatClampNeg
        · rw [if_pos h2] at hx
          cases hx
          refine ⟨by show G.2.2.1 ≤ q; omega, ?_⟩
          have h3 := hrow (q - (H.size + 1)) (by omega)
          rw [show H.size + 1 + (q - (H.size + 1)) = q by omega] at h3
          show U.heap[q]? = some (vp_cell _ _)
          rw [h3, vp_cell_l, ← arrV_new]
          rfl
        · rw [if_neg h2] at hx
          have h3 := hw.2.2 q x hx
          exact ⟨h3.1, h3.2.kept (hold q h3.2.lt)⟩
    obtain ⟨t, a1, b1⟩ := kk p l e s m args below meth c F ls U.heap locs hl hH (zS_new hS (by rw [f1]; omega) hold) U rfl X'
    refine ⟨t, step t ?_, b1⟩
    rw [show T.heap.size = H.size by rw [hT]]
    exact a1
end ZMk
end
