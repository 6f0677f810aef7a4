section
-- ===== PART A: goes FIRST, ahead of the names: the tables' words, and 'selects' of the private methods out of them =====
/-- a private method of a class that the tables say can be made, by its rows of tables_1 -/
def lw_okq (q : MethodName × Nat) : Prop := (q.1.cls ≠ "java/lang/invoke/MethodHandle" ∧ q.1.cls ≠ "java/lang/invoke/VarHandle") ∧ Cond.instantiable q.1.cls q.2 ∈ tables_1 ∧ Cond.privateMethod q.1 ∈ tables_1 ∧ Cond.instanceMethod q.1 ∈ tables_1
theorem lw_p0 : lw_okq (⟨"RingCipher$Ring", "choose", "(I)V"⟩, 5) := ⟨⟨by decide +kernel, by decide +kernel⟩, List.mem_of_getElem? (i := 27) (by decide +kernel), List.mem_of_getElem? (i := 33) (by decide +kernel), List.mem_of_getElem? (i := 34) (by decide +kernel)⟩
theorem lw_p1 : lw_okq (⟨"RingCipher$Ring", "leastRoot", "()I"⟩, 5) := ⟨⟨by decide +kernel, by decide +kernel⟩, List.mem_of_getElem? (i := 27) (by decide +kernel), List.mem_of_getElem? (i := 41) (by decide +kernel), List.mem_of_getElem? (i := 42) (by decide +kernel)⟩
theorem lw_p2 : lw_okq (⟨"RingCipher$Ring", "powerModT", "(JI)J"⟩, 5) := ⟨⟨by decide +kernel, by decide +kernel⟩, List.mem_of_getElem? (i := 27) (by decide +kernel), List.mem_of_getElem? (i := 45) (by decide +kernel), List.mem_of_getElem? (i := 46) (by decide +kernel)⟩
theorem lw_p3 : lw_okq (⟨"RingCipher$KeyRing", "renew", "(LRingCipher$Ring;LRingCipher$Chance;)V"⟩, 10) := ⟨⟨by decide +kernel, by decide +kernel⟩, List.mem_of_getElem? (i := 81) (by decide +kernel), List.mem_of_getElem? (i := 192) (by decide +kernel), List.mem_of_getElem? (i := 193) (by decide +kernel)⟩
theorem lw_p4 : lw_okq (⟨"RingCipher$Chance", "fillTernary", "([JI)V"⟩, 1) := ⟨⟨by decide +kernel, by decide +kernel⟩, List.mem_of_getElem? (i := 71) (by decide +kernel), List.mem_of_getElem? (i := 196) (by decide +kernel), List.mem_of_getElem? (i := 197) (by decide +kernel)⟩
theorem lw_p5 : lw_okq (⟨"RingCipher$Chance", "draw", "()I"⟩, 1) := ⟨⟨by decide +kernel, by decide +kernel⟩, List.mem_of_getElem? (i := 71) (by decide +kernel), List.mem_of_getElem? (i := 200) (by decide +kernel), List.mem_of_getElem? (i := 201) (by decide +kernel)⟩
theorem lw_p6 : lw_okq (⟨"RingCipher$Ring", "addProduct", "([J[J[J)V"⟩, 5) := ⟨⟨by decide +kernel, by decide +kernel⟩, List.mem_of_getElem? (i := 27) (by decide +kernel), List.mem_of_getElem? (i := 209) (by decide +kernel), List.mem_of_getElem? (i := 210) (by decide +kernel)⟩
theorem lw_p7 : lw_okq (⟨"RingCipher$KeyRing", "makeMask", "(LRingCipher$Ring;LRingCipher$Chance;[J)V"⟩, 10) := ⟨⟨by decide +kernel, by decide +kernel⟩, List.mem_of_getElem? (i := 81) (by decide +kernel), List.mem_of_getElem? (i := 213) (by decide +kernel), List.mem_of_getElem? (i := 214) (by decide +kernel)⟩
theorem lw_p8 : lw_okq (⟨"RingCipher$Chance", "fillUniform", "([JI)V"⟩, 1) := ⟨⟨by decide +kernel, by decide +kernel⟩, List.mem_of_getElem? (i := 71) (by decide +kernel), List.mem_of_getElem? (i := 217) (by decide +kernel), List.mem_of_getElem? (i := 218) (by decide +kernel)⟩
theorem lw_p9 : lw_okq (⟨"RingCipher$Chance", "fillErrors", "([JI)V"⟩, 1) := ⟨⟨by decide +kernel, by decide +kernel⟩, List.mem_of_getElem? (i := 71) (by decide +kernel), List.mem_of_getElem? (i := 223) (by decide +kernel), List.mem_of_getElem? (i := 224) (by decide +kernel)⟩
theorem lw_p10 : lw_okq (⟨"RingCipher$KeyRing", "hideBody", "(LRingCipher$Ring;[J)V"⟩, 10) := ⟨⟨by decide +kernel, by decide +kernel⟩, List.mem_of_getElem? (i := 81) (by decide +kernel), List.mem_of_getElem? (i := 233) (by decide +kernel), List.mem_of_getElem? (i := 234) (by decide +kernel)⟩
theorem lw_p11 : lw_okq (⟨"RingCipher$KeyRing", "makeSwitch", "(LRingCipher$Ring;LRingCipher$Chance;LRingCipher$SwitchKey;[J)V"⟩, 10) := ⟨⟨by decide +kernel, by decide +kernel⟩, List.mem_of_getElem? (i := 81) (by decide +kernel), List.mem_of_getElem? (i := 241) (by decide +kernel), List.mem_of_getElem? (i := 242) (by decide +kernel)⟩
theorem lw_p12 : lw_okq (⟨"RingCipher$Ring", "addScaled", "([J[JJ)V"⟩, 5) := ⟨⟨by decide +kernel, by decide +kernel⟩, List.mem_of_getElem? (i := 27) (by decide +kernel), List.mem_of_getElem? (i := 245) (by decide +kernel), List.mem_of_getElem? (i := 246) (by decide +kernel)⟩
theorem lw_p13 : lw_okq (⟨"RingCipher", "emptyCiphers", "()V"⟩, 7) := ⟨⟨by decide +kernel, by decide +kernel⟩, List.mem_of_getElem? (i := 19) (by decide +kernel), List.mem_of_getElem? (i := 249) (by decide +kernel), List.mem_of_getElem? (i := 250) (by decide +kernel)⟩
theorem lw_p14 : lw_okq (⟨"RingCipher", "fullCiphers", "()I"⟩, 7) := ⟨⟨by decide +kernel, by decide +kernel⟩, List.mem_of_getElem? (i := 19) (by decide +kernel), List.mem_of_getElem? (i := 257) (by decide +kernel), List.mem_of_getElem? (i := 258) (by decide +kernel)⟩
theorem lw_p15 : lw_okq (⟨"RingCipher$Chance", "upperHalf", "()I"⟩, 1) := ⟨⟨by decide +kernel, by decide +kernel⟩, List.mem_of_getElem? (i := 71) (by decide +kernel), List.mem_of_getElem? (i := 261) (by decide +kernel), List.mem_of_getElem? (i := 262) (by decide +kernel)⟩
def lw_privs_1 : List (MethodName × Nat) := [(⟨"RingCipher$Ring", "choose", "(I)V"⟩, 5), (⟨"RingCipher$Ring", "leastRoot", "()I"⟩, 5), (⟨"RingCipher$Ring", "powerModT", "(JI)J"⟩, 5), (⟨"RingCipher$KeyRing", "renew", "(LRingCipher$Ring;LRingCipher$Chance;)V"⟩, 10), (⟨"RingCipher$Chance", "fillTernary", "([JI)V"⟩, 1), (⟨"RingCipher$Chance", "draw", "()I"⟩, 1), (⟨"RingCipher$Ring", "addProduct", "([J[J[J)V"⟩, 5), (⟨"RingCipher$KeyRing", "makeMask", "(LRingCipher$Ring;LRingCipher$Chance;[J)V"⟩, 10), (⟨"RingCipher$Chance", "fillUniform", "([JI)V"⟩, 1), (⟨"RingCipher$Chance", "fillErrors", "([JI)V"⟩, 1), (⟨"RingCipher$KeyRing", "hideBody", "(LRingCipher$Ring;[J)V"⟩, 10), (⟨"RingCipher$KeyRing", "makeSwitch", "(LRingCipher$Ring;LRingCipher$Chance;LRingCipher$SwitchKey;[J)V"⟩, 10), (⟨"RingCipher$Ring", "addScaled", "([J[JJ)V"⟩, 5), (⟨"RingCipher", "emptyCiphers", "()V"⟩, 7), (⟨"RingCipher", "fullCiphers", "()I"⟩, 7), (⟨"RingCipher$Chance", "upperHalf", "()I"⟩, 1)]
theorem lw_r1 : ∀ q ∈ lw_privs_1, lw_okq q := List.forall_mem_cons.mpr ⟨lw_p0, List.forall_mem_cons.mpr ⟨lw_p1, List.forall_mem_cons.mpr ⟨lw_p2, List.forall_mem_cons.mpr ⟨lw_p3, List.forall_mem_cons.mpr ⟨lw_p4, List.forall_mem_cons.mpr ⟨lw_p5, List.forall_mem_cons.mpr ⟨lw_p6, List.forall_mem_cons.mpr ⟨lw_p7, List.forall_mem_cons.mpr ⟨lw_p8, List.forall_mem_cons.mpr ⟨lw_p9, List.forall_mem_cons.mpr ⟨lw_p10, List.forall_mem_cons.mpr ⟨lw_p11, List.forall_mem_cons.mpr ⟨lw_p12, List.forall_mem_cons.mpr ⟨lw_p13, List.forall_mem_cons.mpr ⟨lw_p14, List.forall_mem_cons.mpr ⟨lw_p15, fun _ h => absurd h List.not_mem_nil⟩⟩⟩⟩⟩⟩⟩⟩⟩⟩⟩⟩⟩⟩⟩⟩
theorem lw_p16 : lw_okq (⟨"java/lang/Throwable", "fillInStackTrace", "(I)Ljava/lang/Throwable;"⟩, 6) := ⟨⟨by decide +kernel, by decide +kernel⟩, List.mem_of_getElem? (i := 312) (by decide +kernel), List.mem_of_getElem? (i := 310) (by decide +kernel), List.mem_of_getElem? (i := 311) (by decide +kernel)⟩
theorem lw_p17 : lw_okq (⟨"RingCipher$Chance", "restart", "(I)V"⟩, 1) := ⟨⟨by decide +kernel, by decide +kernel⟩, List.mem_of_getElem? (i := 71) (by decide +kernel), List.mem_of_getElem? (i := 343) (by decide +kernel), List.mem_of_getElem? (i := 344) (by decide +kernel)⟩
theorem lw_p18 : lw_okq (⟨"RingCipher$KeyRing", "forget", "()V"⟩, 10) := ⟨⟨by decide +kernel, by decide +kernel⟩, List.mem_of_getElem? (i := 81) (by decide +kernel), List.mem_of_getElem? (i := 347) (by decide +kernel), List.mem_of_getElem? (i := 348) (by decide +kernel)⟩
theorem lw_p19 : lw_okq (⟨"RingCipher$KeyRing", "placeOfTurn", "(I)I"⟩, 10) := ⟨⟨by decide +kernel, by decide +kernel⟩, List.mem_of_getElem? (i := 81) (by decide +kernel), List.mem_of_getElem? (i := 377) (by decide +kernel), List.mem_of_getElem? (i := 378) (by decide +kernel)⟩
theorem lw_p20 : lw_okq (⟨"RingCipher$KeyRing", "makeTurn", "(LRingCipher$Ring;LRingCipher$Chance;II)V"⟩, 10) := ⟨⟨by decide +kernel, by decide +kernel⟩, List.mem_of_getElem? (i := 81) (by decide +kernel), List.mem_of_getElem? (i := 382) (by decide +kernel), List.mem_of_getElem? (i := 383) (by decide +kernel)⟩
theorem lw_p21 : lw_okq (⟨"RingCipher$Ring", "substitute", "([J[JI)V"⟩, 5) := ⟨⟨by decide +kernel, by decide +kernel⟩, List.mem_of_getElem? (i := 27) (by decide +kernel), List.mem_of_getElem? (i := 386) (by decide +kernel), List.mem_of_getElem? (i := 387) (by decide +kernel)⟩
theorem lw_p22 : lw_okq (⟨"RingCipher", "plainAt", "(I)[J"⟩, 7) := ⟨⟨by decide +kernel, by decide +kernel⟩, List.mem_of_getElem? (i := 19) (by decide +kernel), List.mem_of_getElem? (i := 403) (by decide +kernel), List.mem_of_getElem? (i := 404) (by decide +kernel)⟩
theorem lw_p23 : lw_okq (⟨"RingCipher", "checkCoefficient", "(I)V"⟩, 7) := ⟨⟨by decide +kernel, by decide +kernel⟩, List.mem_of_getElem? (i := 19) (by decide +kernel), List.mem_of_getElem? (i := 423) (by decide +kernel), List.mem_of_getElem? (i := 424) (by decide +kernel)⟩
theorem lw_p24 : lw_okq (⟨"RingCipher$Ring", "evaluate", "([J[J)V"⟩, 5) := ⟨⟨by decide +kernel, by decide +kernel⟩, List.mem_of_getElem? (i := 27) (by decide +kernel), List.mem_of_getElem? (i := 445) (by decide +kernel), List.mem_of_getElem? (i := 446) (by decide +kernel)⟩
theorem lw_p25 : lw_okq (⟨"RingCipher$Ring", "interpolate", "([J[J)V"⟩, 5) := ⟨⟨by decide +kernel, by decide +kernel⟩, List.mem_of_getElem? (i := 27) (by decide +kernel), List.mem_of_getElem? (i := 449) (by decide +kernel), List.mem_of_getElem? (i := 450) (by decide +kernel)⟩
theorem lw_p26 : lw_okq (⟨"RingCipher", "placeAt", "(I)LRingCipher$Cipher;"⟩, 7) := ⟨⟨by decide +kernel, by decide +kernel⟩, List.mem_of_getElem? (i := 19) (by decide +kernel), List.mem_of_getElem? (i := 463) (by decide +kernel), List.mem_of_getElem? (i := 464) (by decide +kernel)⟩
theorem lw_p27 : lw_okq (⟨"RingCipher$Ring", "scale", "()J"⟩, 5) := ⟨⟨by decide +kernel, by decide +kernel⟩, List.mem_of_getElem? (i := 27) (by decide +kernel), List.mem_of_getElem? (i := 471) (by decide +kernel), List.mem_of_getElem? (i := 472) (by decide +kernel)⟩
theorem lw_p28 : lw_okq (⟨"RingCipher", "storeTwoParts", "(LRingCipher$Cipher;)I"⟩, 7) := ⟨⟨by decide +kernel, by decide +kernel⟩, List.mem_of_getElem? (i := 19) (by decide +kernel), List.mem_of_getElem? (i := 476) (by decide +kernel), List.mem_of_getElem? (i := 477) (by decide +kernel)⟩
theorem lw_p29 : lw_okq (⟨"RingCipher", "storeSums", "(LRingCipher$Cipher;I)V"⟩, 7) := ⟨⟨by decide +kernel, by decide +kernel⟩, List.mem_of_getElem? (i := 19) (by decide +kernel), List.mem_of_getElem? (i := 480) (by decide +kernel), List.mem_of_getElem? (i := 481) (by decide +kernel)⟩
theorem lw_p30 : lw_okq (⟨"RingCipher$Ring", "reduce", "([J[J)V"⟩, 5) := ⟨⟨by decide +kernel, by decide +kernel⟩, List.mem_of_getElem? (i := 27) (by decide +kernel), List.mem_of_getElem? (i := 484) (by decide +kernel), List.mem_of_getElem? (i := 485) (by decide +kernel)⟩
theorem lw_p31 : lw_okq (⟨"RingCipher", "phaseOf", "(LRingCipher$Cipher;)[J"⟩, 7) := ⟨⟨by decide +kernel, by decide +kernel⟩, List.mem_of_getElem? (i := 19) (by decide +kernel), List.mem_of_getElem? (i := 488) (by decide +kernel), List.mem_of_getElem? (i := 489) (by decide +kernel)⟩
def lw_privs_2 : List (MethodName × Nat) := [(⟨"java/lang/Throwable", "fillInStackTrace", "(I)Ljava/lang/Throwable;"⟩, 6), (⟨"RingCipher$Chance", "restart", "(I)V"⟩, 1), (⟨"RingCipher$KeyRing", "forget", "()V"⟩, 10), (⟨"RingCipher$KeyRing", "placeOfTurn", "(I)I"⟩, 10), (⟨"RingCipher$KeyRing", "makeTurn", "(LRingCipher$Ring;LRingCipher$Chance;II)V"⟩, 10), (⟨"RingCipher$Ring", "substitute", "([J[JI)V"⟩, 5), (⟨"RingCipher", "plainAt", "(I)[J"⟩, 7), (⟨"RingCipher", "checkCoefficient", "(I)V"⟩, 7), (⟨"RingCipher$Ring", "evaluate", "([J[J)V"⟩, 5), (⟨"RingCipher$Ring", "interpolate", "([J[J)V"⟩, 5), (⟨"RingCipher", "placeAt", "(I)LRingCipher$Cipher;"⟩, 7), (⟨"RingCipher$Ring", "scale", "()J"⟩, 5), (⟨"RingCipher", "storeTwoParts", "(LRingCipher$Cipher;)I"⟩, 7), (⟨"RingCipher", "storeSums", "(LRingCipher$Cipher;I)V"⟩, 7), (⟨"RingCipher$Ring", "reduce", "([J[J)V"⟩, 5), (⟨"RingCipher", "phaseOf", "(LRingCipher$Cipher;)[J"⟩, 7)]
theorem lw_r2 : ∀ q ∈ lw_privs_2, lw_okq q := List.forall_mem_cons.mpr ⟨lw_p16, List.forall_mem_cons.mpr ⟨lw_p17, List.forall_mem_cons.mpr ⟨lw_p18, List.forall_mem_cons.mpr ⟨lw_p19, List.forall_mem_cons.mpr ⟨lw_p20, List.forall_mem_cons.mpr ⟨lw_p21, List.forall_mem_cons.mpr ⟨lw_p22, List.forall_mem_cons.mpr ⟨lw_p23, List.forall_mem_cons.mpr ⟨lw_p24, List.forall_mem_cons.mpr ⟨lw_p25, List.forall_mem_cons.mpr ⟨lw_p26, List.forall_mem_cons.mpr ⟨lw_p27, List.forall_mem_cons.mpr ⟨lw_p28, List.forall_mem_cons.mpr ⟨lw_p29, List.forall_mem_cons.mpr ⟨lw_p30, List.forall_mem_cons.mpr ⟨lw_p31, fun _ h => absurd h List.not_mem_nil⟩⟩⟩⟩⟩⟩⟩⟩⟩⟩⟩⟩⟩⟩⟩⟩
theorem lw_p32 : lw_okq (⟨"RingCipher$KeyRing", "findPhase", "(LRingCipher$Ring;[JLRingCipher$Cipher;)V"⟩, 10) := ⟨⟨by decide +kernel, by decide +kernel⟩, List.mem_of_getElem? (i := 81) (by decide +kernel), List.mem_of_getElem? (i := 492) (by decide +kernel), List.mem_of_getElem? (i := 493) (by decide +kernel)⟩
theorem lw_p33 : lw_okq (⟨"RingCipher$Ring", "copy", "([J[J)V"⟩, 5) := ⟨⟨by decide +kernel, by decide +kernel⟩, List.mem_of_getElem? (i := 27) (by decide +kernel), List.mem_of_getElem? (i := 496) (by decide +kernel), List.mem_of_getElem? (i := 497) (by decide +kernel)⟩
theorem lw_p34 : lw_okq (⟨"RingCipher$Ring", "centre", "([J[J)V"⟩, 5) := ⟨⟨by decide +kernel, by decide +kernel⟩, List.mem_of_getElem? (i := 27) (by decide +kernel), List.mem_of_getElem? (i := 501) (by decide +kernel), List.mem_of_getElem? (i := 502) (by decide +kernel)⟩
theorem lw_p35 : lw_okq (⟨"RingCipher", "noiseIn", "([J)J"⟩, 7) := ⟨⟨by decide +kernel, by decide +kernel⟩, List.mem_of_getElem? (i := 19) (by decide +kernel), List.mem_of_getElem? (i := 511) (by decide +kernel), List.mem_of_getElem? (i := 512) (by decide +kernel)⟩
theorem lw_p36 : lw_okq (⟨"RingCipher", "takenAt", "(I)LRingCipher$Cipher;"⟩, 7) := ⟨⟨by decide +kernel, by decide +kernel⟩, List.mem_of_getElem? (i := 19) (by decide +kernel), List.mem_of_getElem? (i := 532) (by decide +kernel), List.mem_of_getElem? (i := 533) (by decide +kernel)⟩
theorem lw_p37 : lw_okq (⟨"RingCipher$Ring", "timesTOverQ", "(J)J"⟩, 5) := ⟨⟨by decide +kernel, by decide +kernel⟩, List.mem_of_getElem? (i := 27) (by decide +kernel), List.mem_of_getElem? (i := 537) (by decide +kernel), List.mem_of_getElem? (i := 538) (by decide +kernel)⟩
theorem lw_p38 : lw_okq (⟨"RingCipher", "multiply", "(LRingCipher$Cipher;LRingCipher$Cipher;LRingCipher$Cipher;)V"⟩, 7) := ⟨⟨by decide +kernel, by decide +kernel⟩, List.mem_of_getElem? (i := 19) (by decide +kernel), List.mem_of_getElem? (i := 554) (by decide +kernel), List.mem_of_getElem? (i := 555) (by decide +kernel)⟩
theorem lw_p39 : lw_okq (⟨"RingCipher", "combine", "(LRingCipher$Cipher;LRingCipher$Cipher;LRingCipher$Cipher;J)V"⟩, 7) := ⟨⟨by decide +kernel, by decide +kernel⟩, List.mem_of_getElem? (i := 19) (by decide +kernel), List.mem_of_getElem? (i := 560) (by decide +kernel), List.mem_of_getElem? (i := 561) (by decide +kernel)⟩
theorem lw_p40 : lw_okq (⟨"RingCipher", "addPlain", "(LRingCipher$Cipher;LRingCipher$Cipher;[J)V"⟩, 7) := ⟨⟨by decide +kernel, by decide +kernel⟩, List.mem_of_getElem? (i := 19) (by decide +kernel), List.mem_of_getElem? (i := 572) (by decide +kernel), List.mem_of_getElem? (i := 573) (by decide +kernel)⟩
theorem lw_p41 : lw_okq (⟨"RingCipher", "multiplyByPlain", "(LRingCipher$Cipher;LRingCipher$Cipher;[J)V"⟩, 7) := ⟨⟨by decide +kernel, by decide +kernel⟩, List.mem_of_getElem? (i := 19) (by decide +kernel), List.mem_of_getElem? (i := 577) (by decide +kernel), List.mem_of_getElem? (i := 578) (by decide +kernel)⟩
theorem lw_p42 : lw_okq (⟨"RingCipher", "applySwitch", "(LRingCipher$SwitchKey;[J)V"⟩, 7) := ⟨⟨by decide +kernel, by decide +kernel⟩, List.mem_of_getElem? (i := 19) (by decide +kernel), List.mem_of_getElem? (i := 589) (by decide +kernel), List.mem_of_getElem? (i := 590) (by decide +kernel)⟩
theorem lw_p43 : lw_okq (⟨"RingCipherModel", "empty", "()V"⟩, 24) := ⟨⟨by decide +kernel, by decide +kernel⟩, List.mem_of_getElem? (i := 626) (by decide +kernel), List.mem_of_getElem? (i := 714) (by decide +kernel), List.mem_of_getElem? (i := 715) (by decide +kernel)⟩
theorem lw_p44 : lw_okq (⟨"RingCipherModel", "ternary", "([J)V"⟩, 24) := ⟨⟨by decide +kernel, by decide +kernel⟩, List.mem_of_getElem? (i := 626) (by decide +kernel), List.mem_of_getElem? (i := 722) (by decide +kernel), List.mem_of_getElem? (i := 723) (by decide +kernel)⟩
theorem lw_p45 : lw_okq (⟨"RingCipherModel", "draw", "()I"⟩, 24) := ⟨⟨by decide +kernel, by decide +kernel⟩, List.mem_of_getElem? (i := 626) (by decide +kernel), List.mem_of_getElem? (i := 726) (by decide +kernel), List.mem_of_getElem? (i := 727) (by decide +kernel)⟩
theorem lw_p46 : lw_okq (⟨"RingCipherModel", "uniform", "([J)V"⟩, 24) := ⟨⟨by decide +kernel, by decide +kernel⟩, List.mem_of_getElem? (i := 626) (by decide +kernel), List.mem_of_getElem? (i := 732) (by decide +kernel), List.mem_of_getElem? (i := 733) (by decide +kernel)⟩
theorem lw_p47 : lw_okq (⟨"RingCipherModel", "error", "([J)V"⟩, 24) := ⟨⟨by decide +kernel, by decide +kernel⟩, List.mem_of_getElem? (i := 626) (by decide +kernel), List.mem_of_getElem? (i := 738) (by decide +kernel), List.mem_of_getElem? (i := 739) (by decide +kernel)⟩
def lw_privs_3 : List (MethodName × Nat) := [(⟨"RingCipher$KeyRing", "findPhase", "(LRingCipher$Ring;[JLRingCipher$Cipher;)V"⟩, 10), (⟨"RingCipher$Ring", "copy", "([J[J)V"⟩, 5), (⟨"RingCipher$Ring", "centre", "([J[J)V"⟩, 5), (⟨"RingCipher", "noiseIn", "([J)J"⟩, 7), (⟨"RingCipher", "takenAt", "(I)LRingCipher$Cipher;"⟩, 7), (⟨"RingCipher$Ring", "timesTOverQ", "(J)J"⟩, 5), (⟨"RingCipher", "multiply", "(LRingCipher$Cipher;LRingCipher$Cipher;LRingCipher$Cipher;)V"⟩, 7), (⟨"RingCipher", "combine", "(LRingCipher$Cipher;LRingCipher$Cipher;LRingCipher$Cipher;J)V"⟩, 7), (⟨"RingCipher", "addPlain", "(LRingCipher$Cipher;LRingCipher$Cipher;[J)V"⟩, 7), (⟨"RingCipher", "multiplyByPlain", "(LRingCipher$Cipher;LRingCipher$Cipher;[J)V"⟩, 7), (⟨"RingCipher", "applySwitch", "(LRingCipher$SwitchKey;[J)V"⟩, 7), (⟨"RingCipherModel", "empty", "()V"⟩, 24), (⟨"RingCipherModel", "ternary", "([J)V"⟩, 24), (⟨"RingCipherModel", "draw", "()I"⟩, 24), (⟨"RingCipherModel", "uniform", "([J)V"⟩, 24), (⟨"RingCipherModel", "error", "([J)V"⟩, 24)]
theorem lw_r3 : ∀ q ∈ lw_privs_3, lw_okq q := List.forall_mem_cons.mpr ⟨lw_p32, List.forall_mem_cons.mpr ⟨lw_p33, List.forall_mem_cons.mpr ⟨lw_p34, List.forall_mem_cons.mpr ⟨lw_p35, List.forall_mem_cons.mpr ⟨lw_p36, List.forall_mem_cons.mpr ⟨lw_p37, List.forall_mem_cons.mpr ⟨lw_p38, List.forall_mem_cons.mpr ⟨lw_p39, List.forall_mem_cons.mpr ⟨lw_p40, List.forall_mem_cons.mpr ⟨lw_p41, List.forall_mem_cons.mpr ⟨lw_p42, List.forall_mem_cons.mpr ⟨lw_p43, List.forall_mem_cons.mpr ⟨lw_p44, List.forall_mem_cons.mpr ⟨lw_p45, List.forall_mem_cons.mpr ⟨lw_p46, List.forall_mem_cons.mpr ⟨lw_p47, fun _ h => absurd h List.not_mem_nil⟩⟩⟩⟩⟩⟩⟩⟩⟩⟩⟩⟩⟩⟩⟩⟩
theorem lw_p48 : lw_okq (⟨"RingCipherModel", "reduced", "([J[J[J)V"⟩, 24) := ⟨⟨by decide +kernel, by decide +kernel⟩, List.mem_of_getElem? (i := 626) (by decide +kernel), List.mem_of_getElem? (i := 742) (by decide +kernel), List.mem_of_getElem? (i := 743) (by decide +kernel)⟩
theorem lw_p49 : lw_okq (⟨"RingCipherModel", "product", "([J[J[J)V"⟩, 24) := ⟨⟨by decide +kernel, by decide +kernel⟩, List.mem_of_getElem? (i := 626) (by decide +kernel), List.mem_of_getElem? (i := 749) (by decide +kernel), List.mem_of_getElem? (i := 750) (by decide +kernel)⟩
theorem lw_p50 : lw_okq (⟨"RingCipherModel", "pairs", "(I)V"⟩, 24) := ⟨⟨by decide +kernel, by decide +kernel⟩, List.mem_of_getElem? (i := 626) (by decide +kernel), List.mem_of_getElem? (i := 753) (by decide +kernel), List.mem_of_getElem? (i := 754) (by decide +kernel)⟩
theorem lw_p51 : lw_okq (⟨"RingCipherModel", "fail", "(I)I"⟩, 24) := ⟨⟨by decide +kernel, by decide +kernel⟩, List.mem_of_getElem? (i := 626) (by decide +kernel), List.mem_of_getElem? (i := 762) (by decide +kernel), List.mem_of_getElem? (i := 763) (by decide +kernel)⟩
theorem lw_p52 : lw_okq (⟨"RingCipherModel", "find", "(I)I"⟩, 24) := ⟨⟨by decide +kernel, by decide +kernel⟩, List.mem_of_getElem? (i := 626) (by decide +kernel), List.mem_of_getElem? (i := 766) (by decide +kernel), List.mem_of_getElem? (i := 767) (by decide +kernel)⟩
theorem lw_p53 : lw_okq (⟨"RingCipherModel", "turned", "([JI[J)V"⟩, 24) := ⟨⟨by decide +kernel, by decide +kernel⟩, List.mem_of_getElem? (i := 626) (by decide +kernel), List.mem_of_getElem? (i := 770) (by decide +kernel), List.mem_of_getElem? (i := 771) (by decide +kernel)⟩
theorem lw_p54 : lw_okq (⟨"RingCipherModel", "root", "()I"⟩, 24) := ⟨⟨by decide +kernel, by decide +kernel⟩, List.mem_of_getElem? (i := 626) (by decide +kernel), List.mem_of_getElem? (i := 789) (by decide +kernel), List.mem_of_getElem? (i := 790) (by decide +kernel)⟩
theorem lw_p55 : lw_okq (⟨"RingCipherModel", "power", "(II)I"⟩, 24) := ⟨⟨by decide +kernel, by decide +kernel⟩, List.mem_of_getElem? (i := 626) (by decide +kernel), List.mem_of_getElem? (i := 793) (by decide +kernel), List.mem_of_getElem? (i := 794) (by decide +kernel)⟩
theorem lw_p56 : lw_okq (⟨"RingCipherModel", "put", "(II[J)V"⟩, 24) := ⟨⟨by decide +kernel, by decide +kernel⟩, List.mem_of_getElem? (i := 626) (by decide +kernel), List.mem_of_getElem? (i := 804) (by decide +kernel), List.mem_of_getElem? (i := 805) (by decide +kernel)⟩
theorem lw_p57 : lw_okq (⟨"RingCipherModel", "budget", "(I)I"⟩, 24) := ⟨⟨by decide +kernel, by decide +kernel⟩, List.mem_of_getElem? (i := 626) (by decide +kernel), List.mem_of_getElem? (i := 808) (by decide +kernel), List.mem_of_getElem? (i := 809) (by decide +kernel)⟩
theorem lw_p58 : lw_okq (⟨"RingCipherModel", "noise", "(I)J"⟩, 24) := ⟨⟨by decide +kernel, by decide +kernel⟩, List.mem_of_getElem? (i := 626) (by decide +kernel), List.mem_of_getElem? (i := 812) (by decide +kernel), List.mem_of_getElem? (i := 813) (by decide +kernel)⟩
theorem lw_p59 : lw_okq (⟨"RingCipherModel", "phase", "(I)V"⟩, 24) := ⟨⟨by decide +kernel, by decide +kernel⟩, List.mem_of_getElem? (i := 626) (by decide +kernel), List.mem_of_getElem? (i := 816) (by decide +kernel), List.mem_of_getElem? (i := 817) (by decide +kernel)⟩
theorem lw_p60 : lw_okq (⟨"RingCipherModel", "take", "(II[J)V"⟩, 24) := ⟨⟨by decide +kernel, by decide +kernel⟩, List.mem_of_getElem? (i := 626) (by decide +kernel), List.mem_of_getElem? (i := 820) (by decide +kernel), List.mem_of_getElem? (i := 821) (by decide +kernel)⟩
theorem lw_p61 : lw_okq (⟨"RingCipherModel", "empty", "(I)Z"⟩, 24) := ⟨⟨by decide +kernel, by decide +kernel⟩, List.mem_of_getElem? (i := 626) (by decide +kernel), List.mem_of_getElem? (i := 833) (by decide +kernel), List.mem_of_getElem? (i := 834) (by decide +kernel)⟩
theorem lw_p62 : lw_okq (⟨"RingCipherModel", "scaled", "(J)J"⟩, 24) := ⟨⟨by decide +kernel, by decide +kernel⟩, List.mem_of_getElem? (i := 626) (by decide +kernel), List.mem_of_getElem? (i := 837) (by decide +kernel), List.mem_of_getElem? (i := 838) (by decide +kernel)⟩
theorem lw_p63 : lw_okq (⟨"RingCipherModel", "centre", "(II[J)V"⟩, 24) := ⟨⟨by decide +kernel, by decide +kernel⟩, List.mem_of_getElem? (i := 626) (by decide +kernel), List.mem_of_getElem? (i := 847) (by decide +kernel), List.mem_of_getElem? (i := 848) (by decide +kernel)⟩
def lw_privs_4 : List (MethodName × Nat) := [(⟨"RingCipherModel", "reduced", "([J[J[J)V"⟩, 24), (⟨"RingCipherModel", "product", "([J[J[J)V"⟩, 24), (⟨"RingCipherModel", "pairs", "(I)V"⟩, 24), (⟨"RingCipherModel", "fail", "(I)I"⟩, 24), (⟨"RingCipherModel", "find", "(I)I"⟩, 24), (⟨"RingCipherModel", "turned", "([JI[J)V"⟩, 24), (⟨"RingCipherModel", "root", "()I"⟩, 24), (⟨"RingCipherModel", "power", "(II)I"⟩, 24), (⟨"RingCipherModel", "put", "(II[J)V"⟩, 24), (⟨"RingCipherModel", "budget", "(I)I"⟩, 24), (⟨"RingCipherModel", "noise", "(I)J"⟩, 24), (⟨"RingCipherModel", "phase", "(I)V"⟩, 24), (⟨"RingCipherModel", "take", "(II[J)V"⟩, 24), (⟨"RingCipherModel", "empty", "(I)Z"⟩, 24), (⟨"RingCipherModel", "scaled", "(J)J"⟩, 24), (⟨"RingCipherModel", "centre", "(II[J)V"⟩, 24)]
theorem lw_r4 : ∀ q ∈ lw_privs_4, lw_okq q := List.forall_mem_cons.mpr ⟨lw_p48, List.forall_mem_cons.mpr ⟨lw_p49, List.forall_mem_cons.mpr ⟨lw_p50, List.forall_mem_cons.mpr ⟨lw_p51, List.forall_mem_cons.mpr ⟨lw_p52, List.forall_mem_cons.mpr ⟨lw_p53, List.forall_mem_cons.mpr ⟨lw_p54, List.forall_mem_cons.mpr ⟨lw_p55, List.forall_mem_cons.mpr ⟨lw_p56, List.forall_mem_cons.mpr ⟨lw_p57, List.forall_mem_cons.mpr ⟨lw_p58, List.forall_mem_cons.mpr ⟨lw_p59, List.forall_mem_cons.mpr ⟨lw_p60, List.forall_mem_cons.mpr ⟨lw_p61, List.forall_mem_cons.mpr ⟨lw_p62, List.forall_mem_cons.mpr ⟨lw_p63, fun _ h => absurd h List.not_mem_nil⟩⟩⟩⟩⟩⟩⟩⟩⟩⟩⟩⟩⟩⟩⟩⟩
theorem lw_p64 : lw_okq (⟨"RingCipherModel", "applied", "(I)V"⟩, 24) := ⟨⟨by decide +kernel, by decide +kernel⟩, List.mem_of_getElem? (i := 626) (by decide +kernel), List.mem_of_getElem? (i := 859) (by decide +kernel), List.mem_of_getElem? (i := 860) (by decide +kernel)⟩
theorem lw_p65 : lw_okq (⟨"RingCipherModel", "reduce", "([J)V"⟩, 24) := ⟨⟨by decide +kernel, by decide +kernel⟩, List.mem_of_getElem? (i := 626) (by decide +kernel), List.mem_of_getElem? (i := 868) (by decide +kernel), List.mem_of_getElem? (i := 869) (by decide +kernel)⟩
def lw_privs_5 : List (MethodName × Nat) := [(⟨"RingCipherModel", "applied", "(I)V"⟩, 24), (⟨"RingCipherModel", "reduce", "([J)V"⟩, 24)]
theorem lw_r5 : ∀ q ∈ lw_privs_5, lw_okq q := List.forall_mem_cons.mpr ⟨lw_p64, List.forall_mem_cons.mpr ⟨lw_p65, fun _ h => absurd h List.not_mem_nil⟩⟩
def lw_privs : List (MethodName × Nat) := lw_privs_1 ++ (lw_privs_2 ++ (lw_privs_3 ++ (lw_privs_4 ++ (lw_privs_5))))
def lw_tbl : List Cond := k2_sels lw_privs ++ tables_1
theorem lw_privs_ok : ∀ q ∈ lw_privs, lw_okq q := by
  show ∀ q ∈ lw_privs_1 ++ (lw_privs_2 ++ (lw_privs_3 ++ (lw_privs_4 ++ (lw_privs_5)))), lw_okq q
  exact List.forall_mem_append.mpr ⟨lw_r1, List.forall_mem_append.mpr ⟨lw_r2, List.forall_mem_append.mpr ⟨lw_r3, List.forall_mem_append.mpr ⟨lw_r4, lw_r5⟩⟩⟩⟩
abbrev cChance : Nat := 0
def R_Chance : String := "RingCipher$Chance"
def F_Chance : u_T := fun k => match k with
  | _ => ("RingCipher$Chance", "state", "I", false)
def t_Chance : Nat → FieldType := fun k => match k with
  | _ => .int
theorem n_Chance : ∀ a, a < 1 → ∀ b, b < 1 → a ≠ b → (F_Chance a).2.1 ≠ (F_Chance b).2.1 := by decide +kernel
theorem t_Chance_ok : ∀ k, k < 1 → parseFieldDescriptor (F_Chance k).2.2.1 = some (t_Chance k) := by decide +kernel
abbrev cCipher : Nat := 1
def R_Cipher : String := "RingCipher$Cipher"
def F_Cipher : u_T := fun k => match k with
  | 0 => ("RingCipher$Cipher", "parts", "I", false)
  | _ => ("RingCipher$Cipher", "rows", "[[J", true)
def t_Cipher : Nat → FieldType := fun k => match k with
  | 0 => .int
  | _ => (.array (.array .long))
theorem n_Cipher : ∀ a, a < 2 → ∀ b, b < 2 → a ≠ b → (F_Cipher a).2.1 ≠ (F_Cipher b).2.1 := by decide +kernel
theorem t_Cipher_ok : ∀ k, k < 2 → parseFieldDescriptor (F_Cipher k).2.2.1 = some (t_Cipher k) := by decide +kernel
abbrev cKeyRing : Nat := 2
def R_KeyRing : String := "RingCipher$KeyRing"
def F_KeyRing : u_T := fun k => match k with
  | 0 => ("RingCipher$KeyRing", "made", "Z", false)
  | 1 => ("RingCipher$KeyRing", "turnCount", "I", false)
  | 2 => ("RingCipher$KeyRing", "secret", "[J", true)
  | 3 => ("RingCipher$KeyRing", "square", "[J", true)
  | 4 => ("RingCipher$KeyRing", "publicBody", "[J", true)
  | 5 => ("RingCipher$KeyRing", "publicMask", "[J", true)
  | 6 => ("RingCipher$KeyRing", "relin", "LRingCipher$SwitchKey;", true)
  | 7 => ("RingCipher$KeyRing", "turns", "[LRingCipher$SwitchKey;", true)
  | 8 => ("RingCipher$KeyRing", "sum", "[J", true)
  | _ => ("RingCipher$KeyRing", "source", "[J", true)
def t_KeyRing : Nat → FieldType := fun k => match k with
  | 0 => .boolean
  | 1 => .int
  | 2 => (.array .long)
  | 3 => (.array .long)
  | 4 => (.array .long)
  | 5 => (.array .long)
  | 6 => (.object "RingCipher$SwitchKey")
  | 7 => (.array (.object "RingCipher$SwitchKey"))
  | 8 => (.array .long)
  | _ => (.array .long)
theorem n_KeyRing : ∀ a, a < 10 → ∀ b, b < 10 → a ≠ b → (F_KeyRing a).2.1 ≠ (F_KeyRing b).2.1 := by decide +kernel
theorem t_KeyRing_ok : ∀ k, k < 10 → parseFieldDescriptor (F_KeyRing k).2.2.1 = some (t_KeyRing k) := by decide +kernel
abbrev cRing : Nat := 3
def R_Ring : String := "RingCipher$Ring"
def F_Ring : u_T := fun k => match k with
  | 0 => ("RingCipher$Ring", "kind", "I", false)
  | 1 => ("RingCipher$Ring", "n", "I", false)
  | 2 => ("RingCipher$Ring", "t", "I", false)
  | 3 => ("RingCipher$Ring", "z", "I", false)
  | _ => ("RingCipher$Ring", "powersOfZ", "[J", true)
def t_Ring : Nat → FieldType := fun k => match k with
  | 0 => .int
  | 1 => .int
  | 2 => .int
  | 3 => .int
  | _ => (.array .long)
theorem n_Ring : ∀ a, a < 5 → ∀ b, b < 5 → a ≠ b → (F_Ring a).2.1 ≠ (F_Ring b).2.1 := by decide +kernel
theorem t_Ring_ok : ∀ k, k < 5 → parseFieldDescriptor (F_Ring k).2.2.1 = some (t_Ring k) := by decide +kernel
abbrev cSwitchKey : Nat := 4
def R_SwitchKey : String := "RingCipher$SwitchKey"
def F_SwitchKey : u_T := fun k => match k with
  | 0 => ("RingCipher$SwitchKey", "g", "I", false)
  | 1 => ("RingCipher$SwitchKey", "bodies", "[[J", true)
  | _ => ("RingCipher$SwitchKey", "masks", "[[J", true)
def t_SwitchKey : Nat → FieldType := fun k => match k with
  | 0 => .int
  | 1 => (.array (.array .long))
  | _ => (.array (.array .long))
theorem n_SwitchKey : ∀ a, a < 3 → ∀ b, b < 3 → a ≠ b → (F_SwitchKey a).2.1 ≠ (F_SwitchKey b).2.1 := by decide +kernel
theorem t_SwitchKey_ok : ∀ k, k < 3 → parseFieldDescriptor (F_SwitchKey k).2.2.1 = some (t_SwitchKey k) := by decide +kernel
abbrev cX : Nat := 5
def R_X : String := "RingCipher"
def F_X : u_T := fun k => match k with
  | 0 => ("RingCipher", "ring", "LRingCipher$Ring;", true)
  | 1 => ("RingCipher", "chance", "LRingCipher$Chance;", true)
  | 2 => ("RingCipher", "keyRing", "LRingCipher$KeyRing;", true)
  | 3 => ("RingCipher", "plains", "[[J", true)
  | 4 => ("RingCipher", "ciphers", "[LRingCipher$Cipher;", true)
  | 5 => ("RingCipher", "sums", "[[J", true)
  | _ => ("RingCipher", "rows", "[[J", true)
def t_X : Nat → FieldType := fun k => match k with
  | 0 => (.object "RingCipher$Ring")
  | 1 => (.object "RingCipher$Chance")
  | 2 => (.object "RingCipher$KeyRing")
  | 3 => (.array (.array .long))
  | 4 => (.array (.object "RingCipher$Cipher"))
  | 5 => (.array (.array .long))
  | _ => (.array (.array .long))
theorem n_X : ∀ a, a < 7 → ∀ b, b < 7 → a ≠ b → (F_X a).2.1 ≠ (F_X b).2.1 := by decide +kernel
theorem t_X_ok : ∀ k, k < 7 → parseFieldDescriptor (F_X k).2.2.1 = some (t_X k) := by decide +kernel
abbrev cRef : Nat := 6
def R_Ref : String := "RingCipherModel"
def F_Ref : u_T := fun k => match k with
  | 0 => ("RingCipherModel", "thrown", "I", false)
  | 1 => ("RingCipherModel", "kind", "I", false)
  | 2 => ("RingCipherModel", "n", "I", false)
  | 3 => ("RingCipherModel", "t", "I", false)
  | 4 => ("RingCipherModel", "turns", "I", false)
  | 5 => ("RingCipherModel", "chance", "I", false)
  | 6 => ("RingCipherModel", "keyed", "Z", false)
  | 7 => ("RingCipherModel", "s", "[J", true)
  | 8 => ("RingCipherModel", "b", "[J", true)
  | 9 => ("RingCipherModel", "a", "[J", true)
  | 10 => ("RingCipherModel", "first", "[J", true)
  | 11 => ("RingCipherModel", "second", "[J", true)
  | 12 => ("RingCipherModel", "turn", "[I", true)
  | 13 => ("RingCipherModel", "plain", "[I", true)
  | 14 => ("RingCipherModel", "parts", "[I", true)
  | 15 => ("RingCipherModel", "part", "[J", true)
  | 16 => ("RingCipherModel", "p", "[J", true)
  | 17 => ("RingCipherModel", "q", "[J", true)
  | 18 => ("RingCipherModel", "\x72", "[J", true)
  | 19 => ("RingCipherModel", "u", "[J", true)
  | 20 => ("RingCipherModel", "v", "[J", true)
  | 21 => ("RingCipherModel", "w", "[J", true)
  | 22 => ("RingCipherModel", "x", "[J", true)
  | _ => ("RingCipherModel", "y", "[J", true)
def t_Ref : Nat → FieldType := fun k => match k with
  | 0 => .int
  | 1 => .int
  | 2 => .int
  | 3 => .int
  | 4 => .int
  | 5 => .int
  | 6 => .boolean
  | 7 => (.array .long)
  | 8 => (.array .long)
  | 9 => (.array .long)
  | 10 => (.array .long)
  | 11 => (.array .long)
  | 12 => (.array .int)
  | 13 => (.array .int)
  | 14 => (.array .int)
  | 15 => (.array .long)
  | 16 => (.array .long)
  | 17 => (.array .long)
  | 18 => (.array .long)
  | 19 => (.array .long)
  | 20 => (.array .long)
  | 21 => (.array .long)
  | 22 => (.array .long)
  | _ => (.array .long)
theorem n_Ref : ∀ a, a < 24 → ∀ b, b < 24 → a ≠ b → (F_Ref a).2.1 ≠ (F_Ref b).2.1 := by decide +kernel
theorem t_Ref_ok : ∀ k, k < 24 → parseFieldDescriptor (F_Ref k).2.2.1 = some (t_Ref k) := by decide +kernel
abbrev vwCl : List vw_C := [(R_Chance, F_Chance, 1), (R_Cipher, F_Cipher, 2), (R_KeyRing, F_KeyRing, 10), (R_Ring, F_Ring, 5), (R_SwitchKey, F_SwitchKey, 3), (R_X, F_X, 7), (R_Ref, F_Ref, 24)]
end
section
/-! the flat world: which cell lies at which address; V: a walk of a method over it, goal first -/
abbrev zW : Type := Nat → Option va_E
abbrev zG : Type := va_G × (Nat → ClassId) × Nat × (Nat → Nat)
abbrev zM : Type := MethodName × ByteArray × Nat × Option FieldType × List (Nat × Nat × Nat × Nat)
abbrev zK : Type := ((Option Value ⊕ String) → zW → Nat → Prop) × Nat × Nat
def zA (G : zG) : Nat → Prop := fun q => G.2.2.1 ≤ q
def zgw : Cond → Bool
  | .fieldLinkNest .. => true
  | .methodLinkNest .. => true
  | .declares .. => true
  | .castable .. => true
  | w => goodWord w
def zWd (s : State) : Prop := ∀ w ∈ lw_tbl, zgw w = true → va_Nw w s
abbrev zin (w : Cond) : Prop := w ∈ lw_tbl ∧ zgw w = true
theorem zgw_cases {w : Cond} (h : zgw w = true) : (∃ a i b n d t, w = .fieldLinkNest a i b n d t) ∨ (∃ a i x t, w = .methodLinkNest a i x t) ∨ (∃ x, w = .declares x) ∨ (∃ a b, w = .castable a b) ∨ goodWord w = true := by
  unfold zgw at h
  split at h
  · exact Or.inl ⟨_, _, _, _, _, _, rfl⟩
  · exact Or.inr (Or.inl ⟨_, _, _, _, rfl⟩)
  · exact Or.inr (Or.inr (Or.inl ⟨_, rfl⟩))
  · exact Or.inr (Or.inr (Or.inr (Or.inl ⟨_, _, rfl⟩)))
  · exact Or.inr (Or.inr (Or.inr (Or.inr h)))
theorem zWd.moved {s U : State} (hW : s.WarmedH U.vm) (h : zWd s) : zWd U := by
  intro w hw hg
  have h1 := h w hw hg
  rcases zgw_cases hg with ⟨_, _, _, _, _, _, rfl⟩ | ⟨_, _, _, _, rfl⟩ | ⟨_, rfl⟩ | ⟨_, _, rfl⟩ | hg
  · exact va_Nw.warmF hW h1
  · exact va_Nw.warmM hW h1
  · exact va_tabs rfl (rfl : (s.setVm U.vm).vm = U.vm) ((Cond.declares_setVm (args := #[]) hW.alike _).trans h1)
  · exact va_tabs rfl (rfl : (s.setVm U.vm).vm = U.vm) ((Cond.castable_setVm (args := #[]) hW.alike _ _).trans h1)
  · exact word_at hW (good_of_word hg) h1
theorem zWd.use {s : State} (h : zWd s) {w : Cond} (hin : zin w) (args : Array Value) : w.before args s = true := by
  have h1 := h w hin.1 hin.2
  rcases zgw_cases hin.2 with ⟨_, _, _, _, _, _, rfl⟩ | ⟨_, _, _, _, rfl⟩ | ⟨_, rfl⟩ | ⟨_, _, rfl⟩ | hg
  · exact va_Nw.use rfl h1
  · exact va_Nw.use rfl h1
  · exact va_Nw.use rfl h1
  · exact va_Nw.use rfl h1
  · exact word_at (State.WarmedH.refl s) (good_of_word hg) h1
def zty (G : zG) : List (ClassId × FieldType) := [(G.2.1 0, .long), (G.2.1 1, .array .long), (G.2.1 2, .int), (G.2.1 3, .object "RingCipher$Cipher"), (G.2.1 4, .object "RingCipher$SwitchKey")]
def zStr : List (Nat × String) := [(54, "no such kind"), (86, "no such turn"), (94, "no keys"), (101, "four other turns"), (263, "no such plain"), (269, "no such coefficient"), (265, "no such cipher"), (267, "an empty cipher"), (195, "no such operation"), (200, "a product of three parts"), (219, "nothing to shrink"), (233, "a turn of three parts"), (245, "no such part"), (248, "nothing to tell")]
def zSz (k : Nat) : Value := match k with
  | 0 => .int (Int32.ofInt 8)
  | 1 => .int (Int32.ofInt 16)
  | _ => .int (Int32.ofInt 32)
def zMo (k : Nat) : Value := match k with
  | 0 => .int (Int32.ofInt 17)
  | 1 => .int (Int32.ofInt 97)
  | _ => .int (Int32.ofInt 193)
/-- a static of a class: where it lies -/
def zLs (C n d : String) (A : Nat → Prop) (U : State) (H : Heap) : Prop := ∃ (c : ClassId) (k : Class) (i : Nat) (f : Field) (a : Nat) (cell : Cell), U.vm.findClass C = some c ∧ U.fieldFound? C n d = some (c, k, i, f) ∧ f.isStatic = true ∧ k.statics = some a ∧ H[a]? = some cell ∧ cell.vm.isStatics = true ∧ cell.cls = c ∧ f.slot < cell.slots.size ∧ k.staticTypes[f.slot]? = some f.type ∧ ¬ A a
theorem zLs.moved {C n d : String} {A : Nat → Prop} {u U : State} {H : Heap} (hvm : u.vm.Alike U.vm) (h : zLs C n d A u H) : zLs C n d A U H := by
  obtain ⟨c, k, i, f, a, cell, h0, h1, h2, h3, h4, h5, h6, h7, h8, h9⟩ := h
  obtain ⟨k', hi', he⟩ := State.fieldFound?_setVm hvm h1
  exact ⟨c, k', i, f, a, cell, by rw [hvm.findClass]; exact h0, hi', h2, by rw [he]; exact h3, h4, h5, h6, h7, by rw [he]; exact h8, h9⟩
theorem zLs.kept {C n d : String} {A : Nat → Prop} {U : State} {H H1 : Heap} (h : zLs C n d A U H) (hq : ∀ a : Nat, a < H.size → ¬ A a → H1[a]? = H[a]?) : zLs C n d A U H1 := by
  obtain ⟨c, k, i, f, a, cell, h0, h1, h2, h3, h4, h5, h6, h7, h8, h9⟩ := h
  exact ⟨c, k, i, f, a, cell, h0, h1, h2, h3, by rw [hq a (Array.getElem?_eq_some_iff.mp h4).1 h9]; exact h4, h5, h6, h7, h8, h9⟩
theorem zLs.word {C n d : String} {A : Nat → Prop} {U : State} {args : Array Value} (h : zLs C n d A U U.heap) : (Cond.laysStatic C n d).before args U = true := by
  obtain ⟨c, k, i, f, a, cell, h0, h1, h2, h3, h4, h5, h6, h7, h8, h9⟩ := h
  simp [Cond.before, Cond.holds, Cond.value, h0, h1, h2, h3, h4, h5, h6, h7, h8]
def zNcs : List (String × String) := [("java/lang/IllegalStateException", "java/lang/IllegalArgumentException"), ("java/util/NoSuchElementException", "java/lang/IllegalArgumentException"), ("java/lang/IllegalArgumentException", "java/lang/IllegalStateException"), ("java/util/NoSuchElementException", "java/lang/IllegalStateException"), ("java/lang/IllegalArgumentException", "java/util/NoSuchElementException"), ("java/lang/IllegalStateException", "java/util/NoSuchElementException")]
/-- no object of the one class is one of the other -/
def zNc (U : State) : Prop := ∀ q ∈ zNcs, ∀ c t, U.vm.findClass q.1 = some c → U.vm.findClass q.2 = some t → U.vm.assignable c t = false
theorem zNc.moved {u U : State} (hvm : u.vm.Alike U.vm) (h : zNc u) : zNc U := fun q hq c t h1 h2 => by
  rw [hvm.assignable]
  exact h q hq c t (by rw [← hvm.findClass]; exact h1) (by rw [← hvm.findClass]; exact h2)
def zKn (G : zG) (U : State) : Prop := va_K G.1 vwCl (zty G) U ∧ (va_Z "RingCipher" "SIZES" "[I" (.ref (G.2.2.2 0)) (zA G) U U.heap ∧ va_T .int (G.2.2.2 0) 3 zSz (zA G) U U.heap) ∧
  (va_Z "RingCipher" "MODULI" "[I" (.ref (G.2.2.2 1)) (zA G) U U.heap ∧ va_T .int (G.2.2.2 1) 3 zMo (zA G) U U.heap) ∧
  (va_Zq "java/lang/Throwable" "UNASSIGNED_STACK" "[Ljava/lang/StackTraceElement;" (zA G) U U.heap ∧ va_Zq "java/lang/Throwable" "SUPPRESSED_SENTINEL" "Ljava/util/List;" (zA G) U U.heap) ∧
  (zLs "java/lang/Throwable" "UNASSIGNED_STACK" "[Ljava/lang/StackTraceElement;" (zA G) U U.heap ∧ zLs "java/lang/Throwable" "SUPPRESSED_SENTINEL" "Ljava/util/List;" (zA G) U U.heap) ∧ zNc U ∧
  ∀ q ∈ zStr, vk_R "RingCipher" q.1 q.2 (G.2.2.2 q.1) U
theorem zKn.moved {G : zG} {u U : State} (hW : u.WarmedH U.vm) (hh : ∀ a : Nat, a < u.heap.size → ¬ zA G a → U.heap[a]? = u.heap[a]?) (h : zKn G u) : zKn G U :=
  ⟨h.1.moved hW.alike, ⟨(h.2.1.1.moved hW.alike).kept hh, (h.2.1.2.moved hW.alike).kept hh⟩, ⟨(h.2.2.1.1.moved hW.alike).kept hh, (h.2.2.1.2.moved hW.alike).kept hh⟩,
    ⟨(h.2.2.2.1.1.moved hW.alike).kept hh, (h.2.2.2.1.2.moved hW.alike).kept hh⟩, ⟨(h.2.2.2.2.1.1.moved hW.alike).kept hh, (h.2.2.2.2.1.2.moved hW.alike).kept hh⟩, h.2.2.2.2.2.1.moved hW.alike, fun q hq => (h.2.2.2.2.2.2 q hq).warm hW⟩
def zH (G : zG) (w : zW) (sz : Nat) (H : Heap) : Prop := H.size = sz ∧ G.2.2.1 ≤ sz ∧ ∀ a e, w a = some e → zA G a ∧ va_at G.1 vwCl (a, e) H
def zF (G : zG) (M : zM) (p : Program) (l : Launch) (s : State) (m : MethodId) (meth : Method) (c : Code) : Prop :=
  p.tables.exec = Jvm.exec ∧ c.code = M.2.1 ∧ c.maxLocals = M.2.2.1 ∧ s.vm.findClass M.1.cls = some m.cls ∧ zWd s ∧ meth.sig.returnType = M.2.2.2.1 ∧ meth.locks = false ∧ meth.name = M.1.name ∧ c.exceptionTable.toList.map (fun h => (h.startPc, h.endPc, h.handlerPc, h.catchType)) = M.2.2.2.2 ∧ zKn G s ∧ l.stackTraces = false
def zEx (C : String) (x : Addr) (t : State) : Prop := ∃ cell : Cell, t.heap[x]? = some cell ∧ (∀ k, cell.vm ≠ .statics k) ∧ t.vm.findClass C = some cell.cls
def zQ (G : zG) (K : zK) (below : List Frame) (s : State) : State → Prop := fun t => ∃ o, t.status = .running ∧ Ended t below o ∧ s.WarmedH t.vm ∧
  (∃ L, s.sameButNew ({ t with vm := s.vm } : State) L K.2.1 K.2.2 ∧ ∀ q ∈ L, zA G q.base) ∧ va_F (zA G) s t ∧ ∃ (w : zW) (sz : Nat), zH G w sz t.heap ∧
  ((∃ v, o = .returned v ∧ K.1 (.inl v) w sz) ∨ ∃ x C, o = .threw x ∧ zEx C x t ∧ K.1 (.inr C) w sz)
def V (G : zG) (M : zM) (K : zK) (R : Room) (kc ks sz pc : Nat) (lo : List (Nat × Value)) (st : List Value) (w : zW) : Prop :=
  ∀ (p : Program) (l : Launch) (e : Env) (s : State) (m : MethodId) (args : Array Value) (below : List Frame) (meth : Method) (c : Code), zF G M p l s m meth c →
    ∀ (ls : Array Slot) (H : Heap) (locs : List Loc), lv_has ls M.2.2.1 lo → zH G w sz H → va_S (zA G) s.heap H locs → W p l e R s m args below meth c H locs kc ks (zQ G K below s) (F0 m pc ls st)
/-! locals -/
def zl2 : Value → Bool
  | .long _ => true
  | .double _ => true
  | _ => false
theorem zl2_cat (v : Value) : (v.category = 2) ↔ zl2 v = true := by cases v <;> simp [Value.category, zl2]
def zlk : List (Nat × Value) → Nat → Option Value
  | [], _ => none
  | q :: r, i => bif Nat.beq q.1 i then some q.2 else zlk r i
def zrm : List (Nat × Value) → Nat → List (Nat × Value)
  | [], _ => []
  | q :: r, i => bif (Nat.beq q.1 i || (Nat.beq (q.1 + 1) i && zl2 q.2)) then zrm r i else q :: zrm r i
def zins : List (Nat × Value) → Nat → Value → List (Nat × Value)
  | [], i, v => [(i, v)]
  | q :: r, i, v => bif Nat.ble i q.1 then (i, v) :: q :: r else q :: zins r i v
def zst1 (lo : List (Nat × Value)) (i : Nat) (v : Value) : List (Nat × Value) := zins (zrm lo i) i v
def zst2 (lo : List (Nat × Value)) (i : Nat) (v : Value) : List (Nat × Value) := zins (zrm (zrm lo (i + 1)) i) i v
def zpk (lo : List (Nat × Value)) : List Nat → List (Nat × Value)
  | [] => []
  | k :: r => match zlk lo k with
    | some v => (k, v) :: zpk lo r
    | none => zpk lo r
theorem zlk_mem {lo : List (Nat × Value)} {i : Nat} {v : Value} (h : zlk lo i = some v) : (i, v) ∈ lo := by
  induction lo with
  | nil => cases h
  | cons q r ih =>
    unfold zlk at h
    cases hb : Nat.beq q.1 i with
    | true =>
      rw [hb] at h
      have e1 : q.1 = i := Nat.eq_of_beq_eq_true hb
      have e2 : q.2 = v := Option.some.inj h
      subst e1; subst e2
      exact List.mem_cons_self
    | false =>
      rw [hb] at h
      exact List.mem_cons_of_mem _ (ih h)
theorem zrm_mem {lo : List (Nat × Value)} {i : Nat} {q : Nat × Value} (h : q ∈ zrm lo i) : q ∈ lo ∧ ¬ q.1 = i ∧ ¬ (q.1 + 1 = i ∧ q.2.category = 2) := by
  induction lo with
  | nil => cases h
  | cons x r ih =>
    unfold zrm at h
    cases hb : (Nat.beq x.1 i || (Nat.beq (x.1 + 1) i && zl2 x.2)) with
    | true =>
      rw [hb] at h
      obtain ⟨h1, h2⟩ := ih h
      exact ⟨List.mem_cons_of_mem _ h1, h2⟩
    | false =>
      rw [hb] at h
      rcases List.mem_cons.mp h with rfl | h
      · simp only [Bool.or_eq_false_iff, Bool.and_eq_false_iff] at hb
        refine ⟨List.mem_cons_self, fun e => ?_, fun e => ?_⟩
        · have := hb.1
          rw [e, Nat.beq_refl] at this
          cases this
        · rcases hb.2 with z | z
          · rw [e.1, Nat.beq_refl] at z
            cases z
          · rw [(zl2_cat _).mp e.2] at z
            cases z
      · obtain ⟨h1, h2⟩ := ih h
        exact ⟨List.mem_cons_of_mem _ h1, h2⟩
theorem zins_mem {lo : List (Nat × Value)} {i : Nat} {v : Value} {q : Nat × Value} (h : q ∈ zins lo i v) : q = (i, v) ∨ q ∈ lo := by
  induction lo with
  | nil => exact Or.inl (List.mem_singleton.mp h)
  | cons x r ih =>
    unfold zins at h
    cases hb : Nat.ble i x.1 with
    | true =>
      rw [hb] at h
      exact List.mem_cons.mp h
    | false =>
      rw [hb] at h
      rcases List.mem_cons.mp h with rfl | h
      · exact Or.inr List.mem_cons_self
      · rcases ih h with h | h
        · exact Or.inl h
        · exact Or.inr (List.mem_cons_of_mem _ h)
theorem zpk_mem {lo : List (Nat × Value)} {ks : List Nat} {q : Nat × Value} (h : q ∈ zpk lo ks) : q ∈ lo := by
  induction ks with
  | nil => cases h
  | cons k r ih =>
    unfold zpk at h
    cases hk : zlk lo k with
    | none =>
      rw [hk] at h
      exact ih h
    | some v =>
      rw [hk] at h
      rcases List.mem_cons.mp h with rfl | h
      · exact zlk_mem hk
      · exact ih h
theorem zhas1 {ls : Array Slot} {nL i : Nat} {v : Value} {lo : List (Nat × Value)} (h : lv_has ls nL ((i, v) :: lo.filter (fun q => !(q.1 == i) && !(q.1 + 1 == i && q.2.category == 2)))) : lv_has ls nL (zst1 lo i v) := by
  refine ⟨h.1, h.2.1, fun q hq => h.2.2 q ?_⟩
  rcases zins_mem hq with rfl | hq
  · exact List.mem_cons_self
  · obtain ⟨h1, h2, h3⟩ := zrm_mem hq
    refine List.mem_cons_of_mem _ (List.mem_filter.mpr ⟨h1, ?_⟩)
    simp only [Bool.and_eq_true, Bool.not_eq_true', beq_eq_false_iff_ne, ne_eq, Bool.and_eq_false_iff]
    exact ⟨h2, by by_cases e : q.1 + 1 = i; exact Or.inr (fun z => h3 ⟨e, z⟩); exact Or.inl e⟩
theorem zhas2 {ls : Array Slot} {nL i : Nat} {v : Value} {lo : List (Nat × Value)} (h : lv_has ls nL ((i, v) :: lo.filter (fun q => !(q.1 == i) && (!(q.1 == i + 1) && !(q.1 + 1 == i && q.2.category == 2))))) : lv_has ls nL (zst2 lo i v) := by
  refine ⟨h.1, h.2.1, fun q hq => h.2.2 q ?_⟩
  rcases zins_mem hq with rfl | hq
  · exact List.mem_cons_self
  · obtain ⟨h1, h2, h3⟩ := zrm_mem hq
    obtain ⟨h4, h5, -⟩ := zrm_mem h1
    refine List.mem_cons_of_mem _ (List.mem_filter.mpr ⟨h4, ?_⟩)
    simp only [Bool.and_eq_true, Bool.not_eq_true', beq_eq_false_iff_ne, ne_eq, Bool.and_eq_false_iff]
    exact ⟨h2, h5, by by_cases e : q.1 + 1 = i; exact Or.inr (fun z => h3 ⟨e, z⟩); exact Or.inl e⟩
theorem zgl {ls : Array Slot} {nL i : Nat} {v : Value} {lo : List (Nat × Value)} (hl : lv_has ls nL lo) (h : zlk lo i = some v) : ls[i]? = some (.val v) := hl.2.2 _ (zlk_mem h)
section ZV
variable {G : zG} {M : zM} {K : zK} {R : Room} {kc ks sz pc : Nat} {lo : List (Nat × Value)} {st : List Value} {w : zW}
/-- fewer known locals -/
theorem V_lo {lo' : List (Nat × Value)} (ns : List Nat) (h : zpk lo ns = lo') (k : V G M K R kc ks sz pc lo' st w) : V G M K R kc ks sz pc lo st w :=
  fun p l e s m args below meth c F ls H locs hl hw hS => k p l e s m args below meth c F ls H locs ⟨hl.1, hl.2.1, fun q hq => hl.2.2 q (zpk_mem (by rw [h]; exact hq))⟩ hw hS
/-- a place's name -/
theorem V_pc {pc' : Nat} (h : pc = pc') (k : V G M K R kc ks sz pc' lo st w) : V G M K R kc ks sz pc lo st w := h ▸ k
theorem V_w {w' : zW} (h : w = w') (k : V G M K R kc ks sz pc lo st w') : V G M K R kc ks sz pc lo st w := h ▸ k
theorem V_widen {kc' ks' : Nat} (h1 : kc ≤ kc') (h2 : ks ≤ ks') (k : V G M K R kc' ks' sz pc lo st w) : V G M K R kc ks sz pc lo st w :=
  fun p l e s m args below meth c F ls H locs hl hw hS => W.widen h1 h2 (k p l e s m args below meth c F ls H locs hl hw hS)
theorem V_iconst {n : Int} (d : decode M.2.1 pc = .ok (.iconst n, 1)) (k : V G M K R kc ks sz (pc + 1) lo (.int (Int32.ofInt n) :: st) w) : V G M K R kc ks sz pc lo (st) w :=
  fun p l e s m args below meth c F ls H locs hl hw hS => lv_iconst F.1 F.2.1 d rfl (k p l e s m args below meth c F ls H locs hl hw hS)
theorem V_bipush {n : Int} (d : decode M.2.1 pc = .ok (.bipush n, 2)) (k : V G M K R kc ks sz (pc + 2) lo (.int ((Int8.ofInt n).toInt32) :: st) w) : V G M K R kc ks sz pc lo (st) w :=
  fun p l e s m args below meth c F ls H locs hl hw hS => lv_bipush F.1 F.2.1 d rfl (k p l e s m args below meth c F ls H locs hl hw hS)
theorem V_sipush {n : Int} (d : decode M.2.1 pc = .ok (.sipush n, 3)) (k : V G M K R kc ks sz (pc + 3) lo (.int ((Int16.ofInt n).toInt32) :: st) w) : V G M K R kc ks sz pc lo (st) w :=
  fun p l e s m args below meth c F ls H locs hl hw hS => lv_sipush F.1 F.2.1 d rfl (k p l e s m args below meth c F ls H locs hl hw hS)
theorem V_lconst {n : Fin 2} (d : decode M.2.1 pc = .ok (.lconst n, 1)) (k : V G M K R kc ks sz (pc + 1) lo (.long (Int64.ofNat (n : Nat)) :: st) w) : V G M K R kc ks sz pc lo (st) w :=
  fun p l e s m args below meth c F ls H locs hl hw hS => lv_lconst F.1 F.2.1 d rfl (k p l e s m args below meth c F ls H locs hl hw hS)
theorem V_iload_n {n : Fin 4} {x : Int32} (d : decode M.2.1 pc = .ok (.iload_n n, 1)) (h : zlk lo (n : Nat) = some (.int x)) (k : V G M K R kc ks sz (pc + 1) lo (.int x :: st) w) : V G M K R kc ks sz pc lo (st) w :=
  fun p l e s m args below meth c F ls H locs hl hw hS => lv_iload_n F.1 F.2.1 d rfl (zgl hl h) (k p l e s m args below meth c F ls H locs hl hw hS)
theorem V_iload {n : Nat} {x : Int32} (d : decode M.2.1 pc = .ok (.iload n, 2)) (h : zlk lo n = some (.int x)) (k : V G M K R kc ks sz (pc + 2) lo (.int x :: st) w) : V G M K R kc ks sz pc lo (st) w :=
  fun p l e s m args below meth c F ls H locs hl hw hS => lv_iload F.1 F.2.1 d (zgl hl h) (k p l e s m args below meth c F ls H locs hl hw hS)
theorem V_lload_n {n : Fin 4} {x : Int64} (d : decode M.2.1 pc = .ok (.lload_n n, 1)) (h : zlk lo (n : Nat) = some (.long x)) (k : V G M K R kc ks sz (pc + 1) lo (.long x :: st) w) : V G M K R kc ks sz pc lo (st) w :=
  fun p l e s m args below meth c F ls H locs hl hw hS => lv_lload_n F.1 F.2.1 d rfl (zgl hl h) (k p l e s m args below meth c F ls H locs hl hw hS)
theorem V_lload {n : Nat} {x : Int64} (d : decode M.2.1 pc = .ok (.lload n, 2)) (h : zlk lo n = some (.long x)) (k : V G M K R kc ks sz (pc + 2) lo (.long x :: st) w) : V G M K R kc ks sz pc lo (st) w :=
  fun p l e s m args below meth c F ls H locs hl hw hS => lv_lload F.1 F.2.1 d (zgl hl h) (k p l e s m args below meth c F ls H locs hl hw hS)
theorem V_aload_n {n : Fin 4} {x : Nat} (d : decode M.2.1 pc = .ok (.aload_n n, 1)) (h : zlk lo (n : Nat) = some (.ref x)) (k : V G M K R kc ks sz (pc + 1) lo (.ref x :: st) w) : V G M K R kc ks sz pc lo (st) w :=
  fun p l e s m args below meth c F ls H locs hl hw hS => lv_aload_n F.1 F.2.1 d rfl (zgl hl h) (k p l e s m args below meth c F ls H locs hl hw hS)
theorem V_aload {n : Nat} {x : Nat} (d : decode M.2.1 pc = .ok (.aload n, 2)) (h : zlk lo n = some (.ref x)) (k : V G M K R kc ks sz (pc + 2) lo (.ref x :: st) w) : V G M K R kc ks sz pc lo (st) w :=
  fun p l e s m args below meth c F ls H locs hl hw hS => lv_aload F.1 F.2.1 d (zgl hl h) (k p l e s m args below meth c F ls H locs hl hw hS)
theorem V_istore_n {n : Fin 4} {x : Int32} (d : decode M.2.1 pc = .ok (.istore_n n, 1)) (hn : (n : Nat) < M.2.2.1) (k : V G M K R kc ks sz (pc + 1) (zst1 lo (n : Nat) (.int x)) st w) : V G M K R kc ks sz pc lo (.int x :: st) w :=
  fun p l e s m args below meth c F ls H locs hl hw hS => lv_istore_n F.1 F.2.1 d rfl hl hn rfl (fun ls1 hl1 => k p l e s m args below meth c F ls1 H locs (zhas1 hl1) hw hS)
theorem V_istore {n : Nat} {x : Int32} (d : decode M.2.1 pc = .ok (.istore n, 2)) (hn : n < M.2.2.1) (k : V G M K R kc ks sz (pc + 2) (zst1 lo n (.int x)) st w) : V G M K R kc ks sz pc lo (.int x :: st) w :=
  fun p l e s m args below meth c F ls H locs hl hw hS => lv_istore F.1 F.2.1 d hl hn rfl (fun ls1 hl1 => k p l e s m args below meth c F ls1 H locs (zhas1 hl1) hw hS)
theorem V_lstore_n {n : Fin 4} {x : Int64} (d : decode M.2.1 pc = .ok (.lstore_n n, 1)) (hn : (n : Nat) + 1 < M.2.2.1) (k : V G M K R kc ks sz (pc + 1) (zst2 lo (n : Nat) (.long x)) st w) : V G M K R kc ks sz pc lo (.long x :: st) w :=
  fun p l e s m args below meth c F ls H locs hl hw hS => lv_lstore_n F.1 F.2.1 d rfl hl hn rfl (fun ls1 hl1 => k p l e s m args below meth c F ls1 H locs (zhas2 hl1) hw hS)
theorem V_lstore {n : Nat} {x : Int64} (d : decode M.2.1 pc = .ok (.lstore n, 2)) (hn : n + 1 < M.2.2.1) (k : V G M K R kc ks sz (pc + 2) (zst2 lo n (.long x)) st w) : V G M K R kc ks sz pc lo (.long x :: st) w :=
  fun p l e s m args below meth c F ls H locs hl hw hS => lv_lstore F.1 F.2.1 d hl hn rfl (fun ls1 hl1 => k p l e s m args below meth c F ls1 H locs (zhas2 hl1) hw hS)
theorem V_astore_n {n : Fin 4} {x : Nat} (d : decode M.2.1 pc = .ok (.astore_n n, 1)) (hn : (n : Nat) < M.2.2.1) (k : V G M K R kc ks sz (pc + 1) (zst1 lo (n : Nat) (.ref x)) st w) : V G M K R kc ks sz pc lo (.ref x :: st) w :=
  fun p l e s m args below meth c F ls H locs hl hw hS => lv_astore_n F.1 F.2.1 d rfl hl hn rfl (fun ls1 hl1 => k p l e s m args below meth c F ls1 H locs (zhas1 hl1) hw hS)
theorem V_astore {n : Nat} {x : Nat} (d : decode M.2.1 pc = .ok (.astore n, 2)) (hn : n < M.2.2.1) (k : V G M K R kc ks sz (pc + 2) (zst1 lo n (.ref x)) st w) : V G M K R kc ks sz pc lo (.ref x :: st) w :=
  fun p l e s m args below meth c F ls H locs hl hw hS => lv_astore F.1 F.2.1 d hl hn rfl (fun ls1 hl1 => k p l e s m args below meth c F ls1 H locs (zhas1 hl1) hw hS)
theorem zlk_at {lo : List (Nat × Value)} {i : Nat} {v : Value} (h : zlk lo i = some v) : ∃ k : Nat, lo[k]? = some (i, v) := by
  obtain ⟨k, hk⟩ := List.getElem?_of_mem (zlk_mem h)
  exact ⟨k, hk⟩
theorem V_iinc {i : Nat} {n : Int} {x : Int32} (d : decode M.2.1 pc = .ok (.iinc i n, 3)) (h : zlk lo i = some (.int x)) (hn : i < M.2.2.1) (k : V G M K R kc ks sz (pc + 3) (zst1 lo i (.int (x + Int32.ofInt n))) st w) : V G M K R kc ks sz pc lo st w :=
  fun p l e s m args below meth c F ls H locs hl hw hS => by
    obtain ⟨k0, hk0⟩ := zlk_at h
    exact lv_iinc F.1 F.2.1 d hl hk0 rfl hn rfl (fun ls1 hl1 => k p l e s m args below meth c F ls1 H locs (zhas1 hl1) hw hS)
theorem V_iadd {x y : Int32} (d : decode M.2.1 pc = .ok (.iadd, 1)) (k : V G M K R kc ks sz (pc + 1) lo (.int (x + y) :: st) w) : V G M K R kc ks sz pc lo (.int y :: .int x :: st) w :=
  fun p l e s m args below meth c F ls H locs hl hw hS => lv_iadd F.1 F.2.1 d (k p l e s m args below meth c F ls H locs hl hw hS)
theorem V_isub {x y : Int32} (d : decode M.2.1 pc = .ok (.isub, 1)) (k : V G M K R kc ks sz (pc + 1) lo (.int (x - y) :: st) w) : V G M K R kc ks sz pc lo (.int y :: .int x :: st) w :=
  fun p l e s m args below meth c F ls H locs hl hw hS => lv_isub F.1 F.2.1 d (k p l e s m args below meth c F ls H locs hl hw hS)
theorem V_imul {x y : Int32} (d : decode M.2.1 pc = .ok (.imul, 1)) (k : V G M K R kc ks sz (pc + 1) lo (.int (x * y) :: st) w) : V G M K R kc ks sz pc lo (.int y :: .int x :: st) w :=
  fun p l e s m args below meth c F ls H locs hl hw hS => lv_imul F.1 F.2.1 d (k p l e s m args below meth c F ls H locs hl hw hS)
theorem V_iand {x y : Int32} (d : decode M.2.1 pc = .ok (.iand, 1)) (k : V G M K R kc ks sz (pc + 1) lo (.int (x &&& y) :: st) w) : V G M K R kc ks sz pc lo (.int y :: .int x :: st) w :=
  fun p l e s m args below meth c F ls H locs hl hw hS => lv_iand F.1 F.2.1 d (k p l e s m args below meth c F ls H locs hl hw hS)
theorem V_ior {x y : Int32} (d : decode M.2.1 pc = .ok (.ior, 1)) (k : V G M K R kc ks sz (pc + 1) lo (.int (x ||| y) :: st) w) : V G M K R kc ks sz pc lo (.int y :: .int x :: st) w :=
  fun p l e s m args below meth c F ls H locs hl hw hS => lv_ior F.1 F.2.1 d (k p l e s m args below meth c F ls H locs hl hw hS)
theorem V_ixor {x y : Int32} (d : decode M.2.1 pc = .ok (.ixor, 1)) (k : V G M K R kc ks sz (pc + 1) lo (.int (x ^^^ y) :: st) w) : V G M K R kc ks sz pc lo (.int y :: .int x :: st) w :=
  fun p l e s m args below meth c F ls H locs hl hw hS => lv_ixor F.1 F.2.1 d (k p l e s m args below meth c F ls H locs hl hw hS)
theorem V_idiv {x y : Int32} (d : decode M.2.1 pc = .ok (.idiv, 1)) (hne : ¬ y = 0) (k : V G M K R kc ks sz (pc + 1) lo (.int (x / y) :: st) w) : V G M K R kc ks sz pc lo (.int y :: .int x :: st) w :=
  fun p l e s m args below meth c F ls H locs hl hw hS => lv_idiv F.1 F.2.1 d hne (k p l e s m args below meth c F ls H locs hl hw hS)
theorem V_irem {x y : Int32} (d : decode M.2.1 pc = .ok (.irem, 1)) (hne : ¬ y = 0) (k : V G M K R kc ks sz (pc + 1) lo (.int (x - x / y * y) :: st) w) : V G M K R kc ks sz pc lo (.int y :: .int x :: st) w :=
  fun p l e s m args below meth c F ls H locs hl hw hS => lv_irem F.1 F.2.1 d hne (k p l e s m args below meth c F ls H locs hl hw hS)
theorem V_ineg {x : Int32} (d : decode M.2.1 pc = .ok (.ineg, 1)) (k : V G M K R kc ks sz (pc + 1) lo (.int (-x) :: st) w) : V G M K R kc ks sz pc lo (.int x :: st) w :=
  fun p l e s m args below meth c F ls H locs hl hw hS => lv_ineg F.1 F.2.1 d (k p l e s m args below meth c F ls H locs hl hw hS)
theorem V_ladd {x y : Int64} (d : decode M.2.1 pc = .ok (.ladd, 1)) (k : V G M K R kc ks sz (pc + 1) lo (.long (x + y) :: st) w) : V G M K R kc ks sz pc lo (.long y :: .long x :: st) w :=
  fun p l e s m args below meth c F ls H locs hl hw hS => lv_ladd F.1 F.2.1 d (k p l e s m args below meth c F ls H locs hl hw hS)
theorem V_lsub {x y : Int64} (d : decode M.2.1 pc = .ok (.lsub, 1)) (k : V G M K R kc ks sz (pc + 1) lo (.long (x - y) :: st) w) : V G M K R kc ks sz pc lo (.long y :: .long x :: st) w :=
  fun p l e s m args below meth c F ls H locs hl hw hS => lv_lsub F.1 F.2.1 d (k p l e s m args below meth c F ls H locs hl hw hS)
theorem V_lmul {x y : Int64} (d : decode M.2.1 pc = .ok (.lmul, 1)) (k : V G M K R kc ks sz (pc + 1) lo (.long (x * y) :: st) w) : V G M K R kc ks sz pc lo (.long y :: .long x :: st) w :=
  fun p l e s m args below meth c F ls H locs hl hw hS => lv_lmul F.1 F.2.1 d (k p l e s m args below meth c F ls H locs hl hw hS)
theorem V_land {x y : Int64} (d : decode M.2.1 pc = .ok (.land, 1)) (k : V G M K R kc ks sz (pc + 1) lo (.long (x &&& y) :: st) w) : V G M K R kc ks sz pc lo (.long y :: .long x :: st) w :=
  fun p l e s m args below meth c F ls H locs hl hw hS => lv_land F.1 F.2.1 d (k p l e s m args below meth c F ls H locs hl hw hS)
theorem V_lor {x y : Int64} (d : decode M.2.1 pc = .ok (.lor, 1)) (k : V G M K R kc ks sz (pc + 1) lo (.long (x ||| y) :: st) w) : V G M K R kc ks sz pc lo (.long y :: .long x :: st) w :=
  fun p l e s m args below meth c F ls H locs hl hw hS => lv_lor F.1 F.2.1 d (k p l e s m args below meth c F ls H locs hl hw hS)
theorem V_lxor {x y : Int64} (d : decode M.2.1 pc = .ok (.lxor, 1)) (k : V G M K R kc ks sz (pc + 1) lo (.long (x ^^^ y) :: st) w) : V G M K R kc ks sz pc lo (.long y :: .long x :: st) w :=
  fun p l e s m args below meth c F ls H locs hl hw hS => lv_lxor F.1 F.2.1 d (k p l e s m args below meth c F ls H locs hl hw hS)
theorem V_ldiv {x y : Int64} (d : decode M.2.1 pc = .ok (.ldiv, 1)) (hne : ¬ y = 0) (k : V G M K R kc ks sz (pc + 1) lo (.long (x / y) :: st) w) : V G M K R kc ks sz pc lo (.long y :: .long x :: st) w :=
  fun p l e s m args below meth c F ls H locs hl hw hS => lv_ldiv F.1 F.2.1 d hne (k p l e s m args below meth c F ls H locs hl hw hS)
theorem V_lrem {x y : Int64} (d : decode M.2.1 pc = .ok (.lrem, 1)) (hne : ¬ y = 0) (k : V G M K R kc ks sz (pc + 1) lo (.long (x - x / y * y) :: st) w) : V G M K R kc ks sz pc lo (.long y :: .long x :: st) w :=
  fun p l e s m args below meth c F ls H locs hl hw hS => lv_lrem F.1 F.2.1 d hne (k p l e s m args below meth c F ls H locs hl hw hS)
theorem V_lneg {x : Int64} (d : decode M.2.1 pc = .ok (.lneg, 1)) (k : V G M K R kc ks sz (pc + 1) lo (.long (-x) :: st) w) : V G M K R kc ks sz pc lo (.long x :: st) w :=
  fun p l e s m args below meth c F ls H locs hl hw hS => lv_lneg F.1 F.2.1 d (k p l e s m args below meth c F ls H locs hl hw hS)
theorem V_ishl {x y : Int32} (d : decode M.2.1 pc = .ok (.ishl, 1)) (k : V G M K R kc ks sz (pc + 1) lo (.int (x <<< (y &&& 31)) :: st) w) : V G M K R kc ks sz pc lo (.int y :: .int x :: st) w :=
  fun p l e s m args below meth c F ls H locs hl hw hS => lv_ishl F.1 F.2.1 d (k p l e s m args below meth c F ls H locs hl hw hS)
theorem V_ishr {x y : Int32} (d : decode M.2.1 pc = .ok (.ishr, 1)) (k : V G M K R kc ks sz (pc + 1) lo (.int (x >>> (y &&& 31)) :: st) w) : V G M K R kc ks sz pc lo (.int y :: .int x :: st) w :=
  fun p l e s m args below meth c F ls H locs hl hw hS => lv_ishr F.1 F.2.1 d (k p l e s m args below meth c F ls H locs hl hw hS)
theorem V_iushr {x y : Int32} (d : decode M.2.1 pc = .ok (.iushr, 1)) (k : V G M K R kc ks sz (pc + 1) lo (.int ((x.toUInt32 >>> (y.toUInt32 &&& Int32.toUInt32 31)).toInt32) :: st) w) : V G M K R kc ks sz pc lo (.int y :: .int x :: st) w :=
  fun p l e s m args below meth c F ls H locs hl hw hS => lv_iushr F.1 F.2.1 d rfl (k p l e s m args below meth c F ls H locs hl hw hS)
theorem V_lshl {x : Int64} {y : Int32} (d : decode M.2.1 pc = .ok (.lshl, 1)) (k : V G M K R kc ks sz (pc + 1) lo (.long (x <<< (y.toInt64 &&& 63)) :: st) w) : V G M K R kc ks sz pc lo (.int y :: .long x :: st) w :=
  fun p l e s m args below meth c F ls H locs hl hw hS => lv_lshl F.1 F.2.1 d rfl (k p l e s m args below meth c F ls H locs hl hw hS)
theorem V_lshr {x : Int64} {y : Int32} (d : decode M.2.1 pc = .ok (.lshr, 1)) (k : V G M K R kc ks sz (pc + 1) lo (.long (x >>> (y.toInt64 &&& 63)) :: st) w) : V G M K R kc ks sz pc lo (.int y :: .long x :: st) w :=
  fun p l e s m args below meth c F ls H locs hl hw hS => lv_lshr F.1 F.2.1 d rfl (k p l e s m args below meth c F ls H locs hl hw hS)
theorem V_i2l {x : Int32} (d : decode M.2.1 pc = .ok (.i2l, 1)) (k : V G M K R kc ks sz (pc + 1) lo (.long x.toInt64 :: st) w) : V G M K R kc ks sz pc lo (.int x :: st) w :=
  fun p l e s m args below meth c F ls H locs hl hw hS => lv_i2l F.1 F.2.1 d rfl (k p l e s m args below meth c F ls H locs hl hw hS)
theorem V_l2i {x : Int64} (d : decode M.2.1 pc = .ok (.l2i, 1)) (k : V G M K R kc ks sz (pc + 1) lo (.int x.toInt32 :: st) w) : V G M K R kc ks sz pc lo (.long x :: st) w :=
  fun p l e s m args below meth c F ls H locs hl hw hS => lv_l2i F.1 F.2.1 d rfl (k p l e s m args below meth c F ls H locs hl hw hS)
theorem V_dup {va : Value} (d : decode M.2.1 pc = .ok (.dup, 1)) (h1 : va.category = 1) (k : V G M K R kc ks sz (pc + 1) lo (va :: va :: st) w) : V G M K R kc ks sz pc lo (va :: st) w :=
  fun p l e s m args below meth c F ls H locs hl hw hS => lv_dup F.1 F.2.1 d h1 (k p l e s m args below meth c F ls H locs hl hw hS)
theorem V_pop {va : Value} (d : decode M.2.1 pc = .ok (.pop, 1)) (h1 : va.category = 1) (k : V G M K R kc ks sz (pc + 1) lo (st) w) : V G M K R kc ks sz pc lo (va :: st) w :=
  fun p l e s m args below meth c F ls H locs hl hw hS => lv_pop F.1 F.2.1 d h1 (k p l e s m args below meth c F ls H locs hl hw hS)
theorem V_dup_x1 {va vb : Value} (d : decode M.2.1 pc = .ok (.dup_x1, 1)) (h1 : va.category = 1) (h2 : vb.category = 1) (k : V G M K R kc ks sz (pc + 1) lo (va :: vb :: va :: st) w) : V G M K R kc ks sz pc lo (va :: vb :: st) w :=
  fun p l e s m args below meth c F ls H locs hl hw hS => lv_dup_x1 F.1 F.2.1 d h1 h2 (k p l e s m args below meth c F ls H locs hl hw hS)
theorem V_dup_x2 {va vb vd : Value} (d : decode M.2.1 pc = .ok (.dup_x2, 1)) (h1 : va.category = 1) (h2 : vb.category = 1) (h3 : vd.category = 1) (k : V G M K R kc ks sz (pc + 1) lo (va :: vb :: vd :: va :: st) w) : V G M K R kc ks sz pc lo (va :: vb :: vd :: st) w :=
  fun p l e s m args below meth c F ls H locs hl hw hS => lv_dup_x2 F.1 F.2.1 d h1 h2 h3 (k p l e s m args below meth c F ls H locs hl hw hS)
theorem V_dup2 {va vb : Value} (d : decode M.2.1 pc = .ok (.dup2, 1)) (h1 : va.category = 1) (h2 : vb.category = 1) (k : V G M K R kc ks sz (pc + 1) lo (va :: vb :: va :: vb :: st) w) : V G M K R kc ks sz pc lo (va :: vb :: st) w :=
  fun p l e s m args below meth c F ls H locs hl hw hS => lv_dup2_11 F.1 F.2.1 d h1 h2 (k p l e s m args below meth c F ls H locs hl hw hS)
theorem V_dup2L {va : Value} (d : decode M.2.1 pc = .ok (.dup2, 1)) (h1 : va.category = 2) (k : V G M K R kc ks sz (pc + 1) lo (va :: va :: st) w) : V G M K R kc ks sz pc lo (va :: st) w :=
  fun p l e s m args below meth c F ls H locs hl hw hS => lv_dup2_2 F.1 F.2.1 d h1 (k p l e s m args below meth c F ls H locs hl hw hS)
theorem V_dup2_x1L {va vb : Value} (d : decode M.2.1 pc = .ok (.dup2_x1, 1)) (h1 : va.category = 2) (h2 : vb.category = 1) (k : V G M K R kc ks sz (pc + 1) lo (va :: vb :: va :: st) w) : V G M K R kc ks sz pc lo (va :: vb :: st) w :=
  fun p l e s m args below meth c F ls H locs hl hw hS => lv_dup2_x1_2 F.1 F.2.1 d h1 h2 (k p l e s m args below meth c F ls H locs hl hw hS)
theorem V_lcmp {x y : Int64} (d : decode M.2.1 pc = .ok (.lcmp, 1)) (k : V G M K R kc ks sz (pc + 1) lo (.int (lg_cmp x y) :: st) w) : V G M K R kc ks sz pc lo (.long y :: .long x :: st) w :=
  fun p l e s m args below meth c F ls H locs hl hw hS => W.lcmp F.1 F.2.1 d (k p l e s m args below meth c F ls H locs hl hw hS)
theorem V_if_eq {x : Int32} {off : Int} (tgt : Nat) (d : decode M.2.1 pc = .ok (.ifCond .eq off, 3)) (ht : (pc : Int) + off = (tgt : Int)) (kt : x = 0 → V G M K R kc ks sz tgt lo st w) (kf : ¬ x = 0 → V G M K R kc ks sz (pc + 3) lo st w) : V G M K R kc ks sz pc lo (.int x :: st) w :=
  fun p l e s m args below meth c F ls H locs hl hw hS => lv_if_eq F.1 F.2.1 d ht (fun q => kt q p l e s m args below meth c F ls H locs hl hw hS) (fun q => kf q p l e s m args below meth c F ls H locs hl hw hS)
theorem V_if_ne {x : Int32} {off : Int} (tgt : Nat) (d : decode M.2.1 pc = .ok (.ifCond .ne off, 3)) (ht : (pc : Int) + off = (tgt : Int)) (kt : ¬ x = 0 → V G M K R kc ks sz tgt lo st w) (kf : x = 0 → V G M K R kc ks sz (pc + 3) lo st w) : V G M K R kc ks sz pc lo (.int x :: st) w :=
  fun p l e s m args below meth c F ls H locs hl hw hS => lv_if_ne F.1 F.2.1 d ht (fun q => kt q p l e s m args below meth c F ls H locs hl hw hS) (fun q => kf q p l e s m args below meth c F ls H locs hl hw hS)
theorem V_if_lt {x : Int32} {off : Int} (tgt : Nat) (d : decode M.2.1 pc = .ok (.ifCond .lt off, 3)) (ht : (pc : Int) + off = (tgt : Int)) (kt : x < 0 → V G M K R kc ks sz tgt lo st w) (kf : ¬ x < 0 → V G M K R kc ks sz (pc + 3) lo st w) : V G M K R kc ks sz pc lo (.int x :: st) w :=
  fun p l e s m args below meth c F ls H locs hl hw hS => lv_if_lt F.1 F.2.1 d ht (fun q => kt q p l e s m args below meth c F ls H locs hl hw hS) (fun q => kf q p l e s m args below meth c F ls H locs hl hw hS)
theorem V_if_ge {x : Int32} {off : Int} (tgt : Nat) (d : decode M.2.1 pc = .ok (.ifCond .ge off, 3)) (ht : (pc : Int) + off = (tgt : Int)) (kt : 0 ≤ x → V G M K R kc ks sz tgt lo st w) (kf : ¬ 0 ≤ x → V G M K R kc ks sz (pc + 3) lo st w) : V G M K R kc ks sz pc lo (.int x :: st) w :=
  fun p l e s m args below meth c F ls H locs hl hw hS => lv_if_ge F.1 F.2.1 d ht (fun q => kt q p l e s m args below meth c F ls H locs hl hw hS) (fun q => kf q p l e s m args below meth c F ls H locs hl hw hS)
theorem V_if_gt {x : Int32} {off : Int} (tgt : Nat) (d : decode M.2.1 pc = .ok (.ifCond .gt off, 3)) (ht : (pc : Int) + off = (tgt : Int)) (kt : 0 < x → V G M K R kc ks sz tgt lo st w) (kf : ¬ 0 < x → V G M K R kc ks sz (pc + 3) lo st w) : V G M K R kc ks sz pc lo (.int x :: st) w :=
  fun p l e s m args below meth c F ls H locs hl hw hS => lv_if_gt F.1 F.2.1 d ht (fun q => kt q p l e s m args below meth c F ls H locs hl hw hS) (fun q => kf q p l e s m args below meth c F ls H locs hl hw hS)
theorem V_if_le {x : Int32} {off : Int} (tgt : Nat) (d : decode M.2.1 pc = .ok (.ifCond .le off, 3)) (ht : (pc : Int) + off = (tgt : Int)) (kt : x ≤ 0 → V G M K R kc ks sz tgt lo st w) (kf : ¬ x ≤ 0 → V G M K R kc ks sz (pc + 3) lo st w) : V G M K R kc ks sz pc lo (.int x :: st) w :=
  fun p l e s m args below meth c F ls H locs hl hw hS => lv_if_le F.1 F.2.1 d ht (fun q => kt q p l e s m args below meth c F ls H locs hl hw hS) (fun q => kf q p l e s m args below meth c F ls H locs hl hw hS)
theorem V_icmp_eq {x y : Int32} {off : Int} (tgt : Nat) (d : decode M.2.1 pc = .ok (.if_icmp .eq off, 3)) (ht : (pc : Int) + off = (tgt : Int)) (kt : x = y → V G M K R kc ks sz tgt lo st w) (kf : ¬ x = y → V G M K R kc ks sz (pc + 3) lo st w) : V G M K R kc ks sz pc lo (.int y :: .int x :: st) w :=
  fun p l e s m args below meth c F ls H locs hl hw hS => lv_icmp_eq F.1 F.2.1 d ht (fun q => kt q p l e s m args below meth c F ls H locs hl hw hS) (fun q => kf q p l e s m args below meth c F ls H locs hl hw hS)
theorem V_icmp_ne {x y : Int32} {off : Int} (tgt : Nat) (d : decode M.2.1 pc = .ok (.if_icmp .ne off, 3)) (ht : (pc : Int) + off = (tgt : Int)) (kt : ¬ x = y → V G M K R kc ks sz tgt lo st w) (kf : x = y → V G M K R kc ks sz (pc + 3) lo st w) : V G M K R kc ks sz pc lo (.int y :: .int x :: st) w :=
  fun p l e s m args below meth c F ls H locs hl hw hS => lv_icmp_ne F.1 F.2.1 d ht (fun q => kt q p l e s m args below meth c F ls H locs hl hw hS) (fun q => kf q p l e s m args below meth c F ls H locs hl hw hS)
theorem V_icmp_lt {x y : Int32} {off : Int} (tgt : Nat) (d : decode M.2.1 pc = .ok (.if_icmp .lt off, 3)) (ht : (pc : Int) + off = (tgt : Int)) (kt : x < y → V G M K R kc ks sz tgt lo st w) (kf : ¬ x < y → V G M K R kc ks sz (pc + 3) lo st w) : V G M K R kc ks sz pc lo (.int y :: .int x :: st) w :=
  fun p l e s m args below meth c F ls H locs hl hw hS => lv_icmp_lt F.1 F.2.1 d ht (fun q => kt q p l e s m args below meth c F ls H locs hl hw hS) (fun q => kf q p l e s m args below meth c F ls H locs hl hw hS)
theorem V_icmp_ge {x y : Int32} {off : Int} (tgt : Nat) (d : decode M.2.1 pc = .ok (.if_icmp .ge off, 3)) (ht : (pc : Int) + off = (tgt : Int)) (kt : y ≤ x → V G M K R kc ks sz tgt lo st w) (kf : ¬ y ≤ x → V G M K R kc ks sz (pc + 3) lo st w) : V G M K R kc ks sz pc lo (.int y :: .int x :: st) w :=
  fun p l e s m args below meth c F ls H locs hl hw hS => lv_icmp_ge F.1 F.2.1 d ht (fun q => kt q p l e s m args below meth c F ls H locs hl hw hS) (fun q => kf q p l e s m args below meth c F ls H locs hl hw hS)
theorem V_icmp_gt {x y : Int32} {off : Int} (tgt : Nat) (d : decode M.2.1 pc = .ok (.if_icmp .gt off, 3)) (ht : (pc : Int) + off = (tgt : Int)) (kt : y < x → V G M K R kc ks sz tgt lo st w) (kf : ¬ y < x → V G M K R kc ks sz (pc + 3) lo st w) : V G M K R kc ks sz pc lo (.int y :: .int x :: st) w :=
  fun p l e s m args below meth c F ls H locs hl hw hS => lv_icmp_gt F.1 F.2.1 d ht (fun q => kt q p l e s m args below meth c F ls H locs hl hw hS) (fun q => kf q p l e s m args below meth c F ls H locs hl hw hS)
theorem V_icmp_le {x y : Int32} {off : Int} (tgt : Nat) (d : decode M.2.1 pc = .ok (.if_icmp .le off, 3)) (ht : (pc : Int) + off = (tgt : Int)) (kt : x ≤ y → V G M K R kc ks sz tgt lo st w) (kf : ¬ x ≤ y → V G M K R kc ks sz (pc + 3) lo st w) : V G M K R kc ks sz pc lo (.int y :: .int x :: st) w :=
  fun p l e s m args below meth c F ls H locs hl hw hS => lv_icmp_le F.1 F.2.1 d ht (fun q => kt q p l e s m args below meth c F ls H locs hl hw hS) (fun q => kf q p l e s m args below meth c F ls H locs hl hw hS)
theorem V_goto {off : Int} (tgt : Nat) (d : decode M.2.1 pc = .ok (.goto off, 3)) (ht : (pc : Int) + off = (tgt : Int)) (k : V G M K R kc ks sz tgt lo st w) : V G M K R kc ks sz pc lo st w :=
  fun p l e s m args below meth c F ls H locs hl hw hS => lv_goto F.1 F.2.1 d ht (k p l e s m args below meth c F ls H locs hl hw hS)
theorem V_tableIn {x : Int32} {dflt tl th : Int} {offs : Array Int} {len : Nat} {off : Int} (tgt : Nat) (d : decode M.2.1 pc = .ok (.tableswitch dflt tl th offs, len)) (h1 : ¬ x.toInt < tl) (h2 : ¬ th < x.toInt) (ho : offs[(x.toInt - tl).toNat]? = some off) (ht : (pc : Int) + off = (tgt : Int)) (k : V G M K R kc ks sz tgt lo st w) : V G M K R kc ks sz pc lo (.int x :: st) w :=
  fun p l e s m args below meth c F ls H locs hl hw hS => lv_tableIn F.1 F.2.1 d h1 h2 ho ht (k p l e s m args below meth c F ls H locs hl hw hS)
theorem V_tableOut {x : Int32} {dflt tl th : Int} {offs : Array Int} {len : Nat} (tgt : Nat) (d : decode M.2.1 pc = .ok (.tableswitch dflt tl th offs, len)) (h : x.toInt < tl ∨ th < x.toInt) (ht : (pc : Int) + dflt = (tgt : Int)) (k : V G M K R kc ks sz tgt lo st w) : V G M K R kc ks sz pc lo (.int x :: st) w :=
  fun p l e s m args below meth c F ls H locs hl hw hS => lv_tableOut F.1 F.2.1 d h ht (k p l e s m args below meth c F ls H locs hl hw hS)
theorem V_ldc {idx : Nat} {v : Int32} (d : decode M.2.1 pc = .ok (.ldc idx, 2)) (hc : zin (.constant M.1.cls idx v)) (k : V G M K R kc ks sz (pc + 2) lo (.int v :: st) w) : V G M K R kc ks sz pc lo st w :=
  fun p l e s m args below meth c F ls H locs hl hw hS => lv_ldc F.1 F.2.1 F.2.2.2.1 (F.2.2.2.2.1.use hc _) d (k p l e s m args below meth c F ls H locs hl hw hS)
theorem V_ldc2 {idx : Nat} {v : Int64} (d : decode M.2.1 pc = .ok (.ldc2_w idx, 3)) (hc : zin (.constantLong M.1.cls idx v)) (k : V G M K R kc ks sz (pc + 3) lo (.long v :: st) w) : V G M K R kc ks sz pc lo st w :=
  fun p l e s m args below meth c F ls H locs hl hw hS => lv_ldc2 F.1 F.2.1 F.2.2.2.1 (F.2.2.2.2.1.use hc _) d (k p l e s m args below meth c F ls H locs hl hw hS)
end ZV
end
section
/-! reading and writing cells, making them, ends and calls -/
theorem zF.wd {G : zG} {M : zM} {p : Program} {l : Launch} {s : State} {m : MethodId} {meth : Method} {c : Code} (F : zF G M p l s m meth c) : zWd s := F.2.2.2.2.1
theorem zF.ml {G : zG} {M : zM} {p : Program} {l : Launch} {s : State} {m : MethodId} {meth : Method} {c : Code} (F : zF G M p l s m meth c) : c.maxLocals = M.2.2.1 := F.2.2.1
theorem zF.own {G : zG} {M : zM} {p : Program} {l : Launch} {s : State} {m : MethodId} {meth : Method} {c : Code} (F : zF G M p l s m meth c) : s.vm.findClass M.1.cls = some m.cls := F.2.2.2.1
theorem zF.ret {G : zG} {M : zM} {p : Program} {l : Launch} {s : State} {m : MethodId} {meth : Method} {c : Code} (F : zF G M p l s m meth c) : meth.sig.returnType = M.2.2.2.1 := F.2.2.2.2.2.1
theorem zF.lk {G : zG} {M : zM} {p : Program} {l : Launch} {s : State} {m : MethodId} {meth : Method} {c : Code} (F : zF G M p l s m meth c) : meth.locks = false := F.2.2.2.2.2.2.1
theorem zF.nm {G : zG} {M : zM} {p : Program} {l : Launch} {s : State} {m : MethodId} {meth : Method} {c : Code} (F : zF G M p l s m meth c) : meth.name = M.1.name := F.2.2.2.2.2.2.2.1
theorem zF.ex {G : zG} {M : zM} {p : Program} {l : Launch} {s : State} {m : MethodId} {meth : Method} {c : Code} (F : zF G M p l s m meth c) : c.exceptionTable.toList.map (fun h => (h.startPc, h.endPc, h.handlerPc, h.catchType)) = M.2.2.2.2 := F.2.2.2.2.2.2.2.2.1
theorem zF.kn {G : zG} {M : zM} {p : Program} {l : Launch} {s : State} {m : MethodId} {meth : Method} {c : Code} (F : zF G M p l s m meth c) : zKn G s := F.2.2.2.2.2.2.2.2.2.1
theorem zF.kk {G : zG} {M : zM} {p : Program} {l : Launch} {s : State} {m : MethodId} {meth : Method} {c : Code} (F : zF G M p l s m meth c) : va_K G.1 vwCl (zty G) s := F.kn.1
def zset (w : zW) (a : Nat) (e : va_E) : zW := fun q => if q = a then some e else w q
theorem zset_s {w : zW} {a : Nat} {e : va_E} : zset w a e a = some e := if_pos rfl
theorem zset_n {w : zW} {a q : Nat} {e : va_E} (h : q ≠ a) : zset w a e q = w q := if_neg h
theorem zH.at {G : zG} {w : zW} {sz a : Nat} {H : Heap} {e : va_E} (h : zH G w sz H) (he : w a = some e) : va_at G.1 vwCl (a, e) H := (h.2.2 _ _ he).2
theorem zH.put {G : zG} {w : zW} {sz a : Nat} {H H1 : Heap} {e0 e : va_E} (h : zH G w sz H) (ha : w a = some e0) (h1 : va_at G.1 vwCl (a, e) H1) (z : H1.size = H.size) (oq : ∀ q, q ≠ a → H1[q]? = H[q]?) : zH G (zset w a e) sz H1 := by
  refine ⟨z.trans h.1, h.2.1, fun q x hx => ?_⟩
  by_cases hq : q = a
  · subst hq
    rw [zset_s] at hx
    cases hx
    exact ⟨(h.2.2 _ _ ha).1, h1⟩
  · rw [zset_n hq] at hx
    exact ⟨(h.2.2 q x hx).1, (h.2.2 q x hx).2.kept (oq q hq)⟩
theorem zH.new {G : zG} {w : zW} {sz : Nat} {H H1 : Heap} {e : va_E} (h : zH G w sz H) (h1 : va_at G.1 vwCl (sz, e) H1) (z : H1.size = sz + 1) (oq : ∀ q, q < sz → H1[q]? = H[q]?) : zH G (zset w sz e) (sz + 1) H1 := by
  refine ⟨z, Nat.le_succ_of_le h.2.1, fun q x hx => ?_⟩
  by_cases hq : q = sz
  · subst hq
    rw [zset_s] at hx
    cases hx
    exact ⟨h.2.1, h1⟩
  · rw [zset_n hq] at hx
    have h2 := h.2.2 q x hx
    exact ⟨h2.1, h2.2.kept (oq q (by have := h2.2.lt; rw [h.1] at this; exact this))⟩
theorem zP1 {G : zG} {w : zW} {sz a : Nat} {H : Heap} {e : va_E} (h : zH G w sz H) (he : w a = some e) : va_P G.1 vwCl [(a, e)] H := by
  intro k q hq
  have hz : k < 1 := (List.getElem?_eq_some_iff.mp hq).1
  rw [show k = 0 by omega] at hq
  cases hq
  exact h.at he
abbrev zrow (G : zG) (n : Nat) (f : Nat → Int64) : va_E := .inl (G.2.1 0, (n, .inr (.inl f)))
abbrev zints (G : zG) (n : Nat) (f : Nat → Int32) : va_E := .inl (G.2.1 2, (n, .inl f))
abbrev zrefs (G : zG) (k n : Nat) (f : Nat → Option Nat) : va_E := .inl (G.2.1 k, (n, .inr (.inr (.inr (.inr f)))))
abbrev zobj (ci : Nat) (fs : List Value) : va_E := .inr (ci, fs)
def zFF (own : String) (idx ci k : Nat) : Prop := ∃ (C : String) (T : u_T) (N : Nat) (ty0 : Nat → FieldType), vwCl[ci]? = some (C, T, N) ∧ k < N ∧ (∀ w ∈ u_ws C T N, zin w) ∧ (∀ j, j < N → parseFieldDescriptor (T j).2.2.1 = some (ty0 j)) ∧
  (∀ a, a < N → ∀ b, b < N → a ≠ b → (T a).2.1 ≠ (T b).2.1) ∧ (zin (.fieldLink own idx (T k).1 (T k).2.1 (T k).2.2.1) ∨ ∃ host, zin (.fieldLinkNest own idx (T k).1 (T k).2.1 (T k).2.2.1 host))
/-- what may be stored in a field that isn't final -/
def zfit (ci k : Nat) (v : Value) : Prop := ∃ (C : String) (T : u_T) (N : Nat) (ty : FieldType), vwCl[ci]? = some (C, T, N) ∧ parseFieldDescriptor (T k).2.2.1 = some ty ∧ narrow ty v = v ∧ fits ty v = true ∧ (T k).2.2.2 = false
section ZH
variable {G : zG} {M : zM} {K : zK} {R : Room} {kc ks sz pc : Nat} {lo : List (Nat × Value)} {st : List Value} {w : zW}
theorem V_getf {a ci k idx : Nat} {fs : List Value} {v : Value} (d : decode M.2.1 pc = .ok (.getfield idx, 3)) (hf : zFF M.1.cls idx ci k) (h : w a = some (.inr (ci, fs))) (hv : fs[k]? = some v) (kk : V G M K R kc ks sz (pc + 3) lo (v :: st) w) : V G M K R kc ks sz pc lo (.ref a :: st) w :=
  fun p l e s m args below meth c F ls H locs hl hw hS => by
    obtain ⟨C, T, N, ty0, h1, h2, h3, h4, h5, h6⟩ := hf
    rcases h6 with h6 | ⟨host, h6⟩
    · exact va_get (D := G.1) (Ts := u_ws C T N) F.1 F.2.1 (fun q hq => F.wd.use (h3 q hq) args) (fun _ hq => hq) F.own F.kk (zP1 hw h) 0 rfl h1 k h2 (F.wd.use h6 args) (fun _ hq => hq) hv d (kk p l e s m args below meth c F ls H locs hl hw hS)
    · exact va_getN (D := G.1) (Ts := u_ws C T N) F.1 F.2.1 (fun q hq => F.wd.use (h3 q hq) args) (fun _ hq => hq) F.own F.kk (zP1 hw h) 0 rfl h1 k h2 (F.wd.use h6 args) (fun _ hq => hq) hv d (kk p l e s m args below meth c F ls H locs hl hw hS)
theorem zob_set {C : String} {T : u_T} {N ci k : Nat} {fs : List Value} {v : Value} {cell : Cell} {a : Nat} {H1 : Heap} {D : va_G} (hc : vwCl[ci]? = some (C, T, N)) (hk : k < N) (hl : k < fs.length) (hap : ∀ x y, x < N → y < N → x ≠ y → D.2 ci x ≠ D.2 ci y)
    (q2 : cell.cls = D.1 ci) (q3 : cell.vm = .none) (q4 : ∀ j, j < N → cell.slots[D.2 ci j]? = some (vp_V fs j)) (e1 : H1[a]? = some (cell.setSlot (D.2 ci k) v)) : va_at D vwCl (a, .inr (ci, fs.set k v)) H1 := by
  refine ⟨_, hc, cell.setSlot (D.2 ci k) v, e1, q2, q3, fun j hj => ?_⟩
  rw [t_set q4 hap hk v j hj, vp_updV_set hl]
theorem V_putf {a ci k idx : Nat} {fs : List Value} {v : Value} (d : decode M.2.1 pc = .ok (.putfield idx, 3)) (hf : zFF M.1.cls idx ci k) (h : w a = some (.inr (ci, fs))) (hft : zfit ci k v) (hlen : k < fs.length) (kk : V G M K R kc ks sz (pc + 3) lo st (zset w a (.inr (ci, fs.set k v)))) : V G M K R kc ks sz pc lo (v :: .ref a :: st) w :=
  fun p l e s m args below meth c F ls H locs hl hw hS => by
    obtain ⟨C, T, N, ty0, h1, h2, h3, h4, h5, h6⟩ := hf
    obtain ⟨C', T', N', ty, g1, g2, g3, g4, g5⟩ := hft
    cases h1.symm.trans g1
    have hts : ∀ q ∈ u_ws C T N, q.before args s = true := fun q hq => F.wd.use (h3 q hq) args
    have hap := va_apart (own := M.1.cls) hts (fun _ hq => hq) ty0 h4 h5 F.kk h1
    obtain ⟨r, r1, cell, q1, q2, q3, q4⟩ := hw.at h
    have hr : r = (C, T, N) := Option.some.inj (r1.symm.trans h1)
    subst hr
    obtain ⟨hSl, hfc, kC, hkC, hkind⟩ := F.kk.1 ci _ h1
    obtain ⟨cf, kf, fi, f, hi, hsl⟩ := hSl k h2
    have hlay := hts _ (u_in_lay h2)
    unfold u_lay at hlay
    rw [if_neg (by rw [g5]; decide)] at hlay
    have hst := (u_facts hfc hkC (u_lays hts (fun _ hq => hq) h2) hi).1
    have h8 := u_store hfc hkC hkind hlay hi g2 g3 g4
    have fin : ∀ H' : Heap, H'[a]? = some (cell.setSlot f.slot v) → H'.size = H.size → (∀ q, q ≠ a → H'[q]? = H[q]?) → W p l e R s m args below meth c H' (locs ++ [⟨a, f.slot⟩]) kc ks (zQ G K below s) (F0 m (pc + 3) ls st) := fun H' e1 e2 e3 =>
      kk p l e s m args below meth c F ls H' _ hl (hw.put h (zob_set (D := G.1) h1 h2 hlen hap q2 q3 q4 (by rw [← hsl]; exact e1)) e2 e3) (hS.put e2 e3 (hw.2.2 _ _ h).1)
    rcases h6 with h6 | ⟨host, h6⟩
    · exact W.putK F.1 F.2.1 (f := f) ⟨F.own, F.wd.use h6 args, ⟨_, _, _, hi⟩, hst⟩ (by rw [q2]; exact h8) q1 q3 (by rw [hsl]; exact k2_hasslot (q4 k h2)) rfl rfl d fin
    · exact va_WputK F.1 F.2.1 (f := f) F.own (F.wd.use h6 args) hi hst (by rw [q2]; exact h8) q1 q3 (by rw [hsl]; exact k2_hasslot (q4 k h2)) rfl rfl d fin
theorem V_laload {a n : Nat} {f : Nat → Int64} {i : Int32} (d : decode M.2.1 pc = .ok (.laload, 1)) (h : w a = some (zrow G n f)) (hin : vp_in i n) (k : V G M K R kc ks sz (pc + 1) lo (.long (f i.toNatClampNeg) :: st) w) : V G M K R kc ks sz pc lo (.int i :: .ref a :: st) w :=
  fun p l e s m args below meth c F ls H locs hl hw hS => va_lald F.1 F.2.1 F.kk (zP1 hw h) 0 0 rfl rfl hin d (k p l e s m args below meth c F ls H locs hl hw hS)
theorem V_iaload {a n : Nat} {f : Nat → Int32} {i : Int32} (d : decode M.2.1 pc = .ok (.iaload, 1)) (h : w a = some (zints G n f)) (hin : vp_in i n) (k : V G M K R kc ks sz (pc + 1) lo (.int (f i.toNatClampNeg) :: st) w) : V G M K R kc ks sz pc lo (.int i :: .ref a :: st) w :=
  fun p l e s m args below meth c F ls H locs hl hw hS => va_iald F.1 F.2.1 F.kk (zP1 hw h) 0 2 rfl rfl hin d (k p l e s m args below meth c F ls H locs hl hw hS)
theorem V_aaload {a n b ka : Nat} {f : Nat → Option Nat} {i : Int32} {ty : FieldType} (d : decode M.2.1 pc = .ok (.aaload, 1)) (h : w a = some (zrefs G ka n f)) (ht : (zty G)[ka]? = some (G.2.1 ka, ty)) (href : ty.isReference = true) (hin : vp_in i n) (hb : f i.toNatClampNeg = some b) (k : V G M K R kc ks sz (pc + 1) lo (.ref b :: st) w) : V G M K R kc ks sz pc lo (.int i :: .ref a :: st) w :=
  fun p l e s m args below meth c F ls H locs hl hw hS => by
    have hlt : i.toNatClampNeg < n := Nat.not_le.mp fun q => hin (Or.inr q)
    exact W.aald (v := .ref b) (ty := ty) F.1 F.2.1 (hw.at h) ((F.kk.2 ka _ ht).1 n (fun j => va_rf (f j))) href (fun q => by cases q) (by show ¬ (i < 0 ∨ (arrV _ _ _).slots.size ≤ _); rw [arrV_size]; exact hin) (by show (arrV _ _ _).slots[_]? = _; rw [arrV_read _ _ hlt, hb]; rfl) rfl rfl d (k p l e s m args below meth c F ls H locs hl hw hS)
theorem V_lastore {a n : Nat} {f : Nat → Int64} {i : Int32} {x : Int64} (d : decode M.2.1 pc = .ok (.lastore, 1)) (h : w a = some (zrow G n f)) (hin : vp_in i n) (k : V G M K R kc ks sz (pc + 1) lo st (zset w a (zrow G n (vp_updL f i.toNatClampNeg x)))) : V G M K R kc ks sz pc lo (.long x :: .int i :: .ref a :: st) w :=
  fun p l e s m args below meth c F ls H locs hl hw hS => by
    refine W.last F.1 F.2.1 (hw.at h) ((F.kk.2 0 _ rfl).1 n (fun j => .long (f j))) (fun q => by cases q) (by show ¬ (i < 0 ∨ (arrV _ _ _).slots.size ≤ _); rw [arrV_size]; exact hin) rfl rfl d fun H1 e1 z oq => ?_
    refine k p l e s m args below meth c F ls H1 _ hl (hw.put h ?_ z oq) (hS.put z oq (hw.2.2 _ _ h).1)
    show H1[a]? = some (vp_cell _ _)
    rw [e1, vp_cell_l, vp_cell_l, arrV_store]
    congr 2
    funext q
    by_cases hq : q = i.toNatClampNeg
    · subst hq
      simp [updV, vp_updL]
    · simp [updV, vp_updL, hq]
theorem V_iastore {a n : Nat} {f : Nat → Int32} {i x : Int32} (d : decode M.2.1 pc = .ok (.iastore, 1)) (h : w a = some (zints G n f)) (hin : vp_in i n) (k : V G M K R kc ks sz (pc + 1) lo st (zset w a (zints G n (va_up f i.toNatClampNeg x)))) : V G M K R kc ks sz pc lo (.int x :: .int i :: .ref a :: st) w :=
  fun p l e s m args below meth c F ls H locs hl hw hS => by
    refine W.iast F.1 F.2.1 (hw.at h) ((F.kk.2 2 _ rfl).1 n (fun j => .int (f j))) (fun q => by cases q) (by show ¬ (i < 0 ∨ (arrV _ _ _).slots.size ≤ _); rw [arrV_size]; exact hin) rfl rfl d fun H1 e1 z oq => ?_
    refine k p l e s m args below meth c F ls H1 _ hl (hw.put h ?_ z oq) (hS.put z oq (hw.2.2 _ _ h).1)
    show H1[a]? = some (vp_cell _ _)
    rw [e1, vp_cell_i, vp_cell_i, arrV_store]
    congr 2
    funext q
    by_cases hq : q = i.toNatClampNeg
    · subst hq
      simp [updV, va_up]
    · simp [updV, va_up, hq]
theorem V_alen {a ka : Nat} {x : vp_A} {ty : FieldType} (d : decode M.2.1 pc = .ok (.arraylength, 1)) (h : w a = some (.inl (G.2.1 ka, x))) (ht : (zty G)[ka]? = some (G.2.1 ka, ty)) (k : V G M K R kc ks sz (pc + 1) lo (.int (Int32.ofNat x.1) :: st) w) : V G M K R kc ks sz pc lo (.ref a :: st) w :=
  fun p l e s m args below meth c F ls H locs hl hw hS => va_alen F.1 F.2.1 F.kk (zP1 hw h) 0 ka rfl ht rfl d (k p l e s m args below meth c F ls H locs hl hw hS)
/-! ends -/
theorem zW_mono {p : Program} {l : Launch} {e : Env} {s : State} {m : MethodId} {args : Array Value} {below : List Frame} {meth : Method} {c : Code} {H : Heap} {locs : List Loc} {Q Q' : State → Prop} {g : JFrame} (h : ∀ t, Q t → Q' t) (k : W p l e R s m args below meth c H locs kc ks Q g) : W p l e R s m args below meth c H locs kc ks Q' g :=
  fun T hT X => by
    obtain ⟨t, a, b⟩ := k T hT X
    exact ⟨t, a, h t b⟩
theorem zQ_of {s : State} {args : Array Value} {below : List Frame} {H : Heap} {locs : List Loc} {v : Option Value} (hk : kc ≤ K.2.1 ∧ ks ≤ K.2.2) (h : K.1 (.inl v) w sz) (hw : zH G w sz H) (hS : va_S (zA G) s.heap H locs) :
    ∀ t, MQ below (fun _ _ o t => o = .returned v ∧ t.heap = H) args s kc ks (zA G) t → zQ G K below s t := by
  rintro t ⟨o, h1, h2, ⟨h3, h4⟩, L, ⟨-, h5, h6⟩, h7⟩
  exact ⟨o, h1, h2, h5, ⟨L, h6.mono hk.1 hk.2, h7⟩, hS.F h4, w, sz, by rw [h4]; exact hw, Or.inl ⟨v, h3, h⟩⟩
theorem V_ireturn {v : Int32} (d : decode M.2.1 pc = .ok (.ireturn, 1)) (hr : M.2.2.2.1 = some .int) (hk : kc ≤ K.2.1 ∧ ks ≤ K.2.2) (h : K.1 (.inl (some (.int v))) w sz) : V G M K R kc ks sz pc lo [.int v] w :=
  fun p l e s m args below meth c F ls H locs hl hw hS => zW_mono (zQ_of hk h hw hS) (W.iret F.1 F.2.1 (F.ret.trans hr) (fun t ht _ => ⟨rfl, ht⟩) hS.2.2 d F.lk)
theorem V_zreturn {v : Int32} (d : decode M.2.1 pc = .ok (.ireturn, 1)) (hr : M.2.2.2.1 = some .boolean) (hv : narrow .boolean (.int v) = .int v) (hk : kc ≤ K.2.1 ∧ ks ≤ K.2.2) (h : K.1 (.inl (some (.int v))) w sz) : V G M K R kc ks sz pc lo [.int v] w :=
  fun p l e s m args below meth c F ls H locs hl hw hS => zW_mono (zQ_of hk h hw hS) (W.zret F.1 F.2.1 (F.ret.trans hr) hv (fun t ht _ => ⟨rfl, ht⟩) hS.2.2 d F.lk)
theorem V_lreturn {v : Int64} (d : decode M.2.1 pc = .ok (.lreturn, 1)) (hr : M.2.2.2.1 = some .long) (hk : kc ≤ K.2.1 ∧ ks ≤ K.2.2) (h : K.1 (.inl (some (.long v))) w sz) : V G M K R kc ks sz pc lo [.long v] w :=
  fun p l e s m args below meth c F ls H locs hl hw hS => zW_mono (zQ_of hk h hw hS) (W.lret F.1 F.2.1 (F.ret.trans hr) (fun t ht _ => ⟨rfl, ht⟩) hS.2.2 d F.lk)
theorem V_areturn {a : Nat} {rt : FieldType} (d : decode M.2.1 pc = .ok (.areturn, 1)) (hr : M.2.2.2.1 = some rt) (hrt : (∃ n, rt = .object n) ∨ ∃ t, rt = .array t) (hk : kc ≤ K.2.1 ∧ ks ≤ K.2.2) (h : K.1 (.inl (some (.ref a))) w sz) : V G M K R kc ks sz pc lo [.ref a] w :=
  fun p l e s m args below meth c F ls H locs hl hw hS => zW_mono (zQ_of hk h hw hS) (W.aret F.1 F.2.1 (F.ret.trans hr) hrt (Or.inr ⟨a, rfl⟩) (fun t ht _ => ⟨rfl, ht⟩) hS.2.2 d F.lk)
theorem V_return (d : decode M.2.1 pc = .ok (.return_, 1)) (hr : M.2.2.2.1 = none) (hk : kc ≤ K.2.1 ∧ ks ≤ K.2.2) (h : K.1 (.inl none) w sz) : V G M K R kc ks sz pc lo [] w :=
  fun p l e s m args below meth c F ls H locs hl hw hS => zW_mono (zQ_of hk h hw hS) (W.vret F.1 F.2.1 (F.ret.trans hr) (fun t ht _ => ⟨rfl, ht⟩) hS.2.2 d F.lk)
end ZH
end
section
/-! calls: the callee's walk is entered and left; it may answer or throw -/
theorem zweaken {tb : Tables} {e : Env} {mid below : List Frame} {a b : State} (h : Steps tb e (mid ++ below) a b) : Steps tb e below a b := by
  obtain ⟨n, hn, w⟩ := h
  exact ⟨n, hn, fun k hk => (w k hk).weaken⟩
def zpop : Nat → List Value → List Value → Option (List Value × List Value)
  | 0, st, acc => some (acc, st)
  | n + 1, v :: st, acc => zpop n st (v :: acc)
  | _ + 1, [], _ => none
theorem zpop_eq {n : Nat} {st acc As rest : List Value} (h : zpop n st acc = some (As, rest)) : ∃ Bs, As = Bs ++ acc ∧ st = Bs.reverse ++ rest ∧ Bs.length = n := by
  induction n generalizing st acc with
  | zero =>
    simp only [zpop] at h
    cases h
    exact ⟨[], rfl, rfl, rfl⟩
  | succ n ih =>
    cases st with
    | nil => simp [zpop] at h
    | cons v st =>
      obtain ⟨Bs, h1, h2, h3⟩ := ih (by simpa [zpop] using h)
      exact ⟨Bs ++ [v], by simp [h1], by simp [h2], by simp [h3]⟩
def zGo (p : Program) (l : Launch) (e : Env) (R : Room) (s : State) (m : MethodId) (args : Array Value) (below : List Frame) (meth : Method) (c : Code) (H : Heap) (locs : List Loc) (kc ks : Nat) (y : MethodName) (as : List Value) (g : JFrame) (rest : List Value) : Prop :=
  ∀ T : State, T.heap = H → Stand p l e R s m args below meth c T locs kc ks → ∃ (vm₁ : Vm) (mk : MethodId), Stand p l e R s m args below meth c (T.setVm vm₁) locs kc ks ∧ s.methodNamed? y = some mk ∧
    ∀ target, (∀ acts, Steps p.tables e below (doInvoke e ((T.setVm vm₁).setTop { g with stack := rest }) acts mk as.toArray).1 target) → Steps p.tables e below (T.setTop g) target
section ZC
variable {G : zG} {M : zM} {K : zK} {R : Room} {kc ks sz pc : Nat} {lo : List (Nat × Value)} {st : List Value} {w : zW}
abbrev zCt (G : zG) (M : zM) (R : Room) (as : List Value) (sz : Nat) (w : zW) (K : zK) : Prop := V G M K R 0 0 sz 0 (lv_args 0 as) [] w
/-- the room of a callee in its caller's -/
abbrev zRm (M' : zM) (R' : Room) (R : Room) (kc ks : Nat) : Prop := R'.frames + 1 ≤ R.frames ∧ 8 + (M'.2.2.1 + 11) + R'.locals ≤ R.locals ∧ kc + R'.cells ≤ R.cells ∧ ks + R'.slots ≤ R.slots
/-- the callee's code stands in the tables -/
def zCo (M' : zM) : Prop := (zin (.code M'.1 M'.2.1 M'.2.2.1 M'.2.2.2.1) ∧ M'.2.2.2.2 = []) ∨ zin (.codeWith M'.1 M'.2.1 M'.2.2.1 M'.2.2.2.1 M'.2.2.2.2)
abbrev zCd (M' : zM) (as : List Value) : Prop := zCo M' ∧ plainFor M'.1 = true ∧ (lg_sl as).length ≤ M'.2.2.1
theorem zCo.spec {M' : zM} {s : State} (h : zCo M') (hw : zWd s) : ∃ mk meth c, s.methodNamed? M'.1 = some mk ∧ s.vm.method? mk = some meth ∧ meth.code = some c ∧ c.code = M'.2.1 ∧ c.maxLocals = M'.2.2.1 ∧ meth.sig.returnType = M'.2.2.2.1 ∧ meth.locks = false ∧
    c.exceptionTable.toList.map (fun h => (h.startPc, h.endPc, h.handlerPc, h.catchType)) = M'.2.2.2.2 ∧ parseMethodDescriptor M'.1.desc = some meth.sig := by
  rcases h with ⟨h, h0⟩ | h
  · have hc := hw.use h #[]
    obtain ⟨mk, hn⟩ := Cond.code_named hc
    obtain ⟨meth, c, h1, h2, h3, h4, h5, h6, h7, h8⟩ := Cond.code_spec hn hc
    refine ⟨mk, meth, c, hn, h1, h2, h3, h4, h5, h6, ?_, h8⟩
    rw [Array.isEmpty_iff] at h7
    rw [h7, h0]
    rfl
  · obtain ⟨mk, meth, c, hn, h1, h2, h3, h4, h5, h6, h7, h8⟩ := Cond.codeWith_spec (hw.use h #[])
    exact ⟨mk, meth, c, hn, h1, h2, h3, h4, h6, h7, h5, h8⟩
set_option maxHeartbeats 1000000 in
theorem zrun {p : Program} {l : Launch} {e : Env} {s : State} {m : MethodId} {args : Array Value} {below : List Frame} {meth : Method} {c : Code} {H : Heap} {locs : List Loc} {ls : Array Slot} {M' : zM} {K' : zK} {R' : Room} {as rest st0 : List Value} {ig : Instr}
    (hM : zCt G M' R' as sz w K') (hc : zCd M' as) (hR : zRm M' R' R kc ks)
    (F : zF G M p l s m meth c) (hl : lv_has ls M.2.2.1 lo) (hw : zH G w sz H) (hS : va_S (zA G) s.heap H locs)
    (hgo : zGo p l e R s m args below meth c H locs kc ks M'.1 as (F0 m pc ls st0) rest) (hWt : (rest.map fun v => v.category).sum ≤ 8) (hdg : decode M.2.1 pc = .ok (ig, 3))
    (kr : ∀ v w' sz', K'.1 (.inl v) w' sz' → V G M K R (kc + K'.2.1) (ks + K'.2.2) sz' (pc + 3) lo (v.toList ++ rest) w')
    (kt : ∀ C w' sz' x (T' : State) (L : List Loc), K'.1 (.inr C) w' sz' → Stand p l e R s m args below meth c T' (locs ++ L) (kc + K'.2.1) (ks + K'.2.2) → zH G w' sz' T'.heap → va_S (zA G) s.heap T'.heap (locs ++ L) → zEx C x T' →
      ∃ t2, Steps p.tables e below ((T'.setTop (F0 m pc ls rest)).pushFrame (.throwing x)) t2 ∧ zQ G K below s t2) :
    W p l e R s m args below meth c H locs kc ks (zQ G K below s) (F0 m pc ls st0) := by
  intro T hT X
  obtain ⟨vm₁, mk, X₁, hn, hstep⟩ := hgo T hT X
  have hW₁ : s.WarmedH vm₁ := X₁.warmed
  obtain ⟨mk', methk, ck, hn', hmk, hck, hbk, hlk, hrk, hlock, hex, hsig⟩ := hc.1.spec F.wd
  cases hn.symm.trans hn'
  have hmk₁ : (T.setVm vm₁).vm.method? mk = some methk := by
    show vm₁.method? mk = some methk
    rw [hW₁.alike.method?]; exact hmk
  have hn₁ : (T.setVm vm₁).methodNamed? M'.1 = some mk := X₁.named hn
  have hpk : (T.setVm vm₁).plainMethod mk := State.plainMethod.of_named hc.2.1 hn₁ hmk₁
  have hsize : (F0 m pc ls rest).locals.size = c.maxLocals := hl.1.trans F.ml.symm
  have hdg' : decode c.code (F0 m pc ls rest).pc = .ok (ig, 3) := by rw [F.2.1]; exact hdg
  obtain ⟨Y, hin⟩ := X₁.into (g := F0 m pc ls rest) rfl hsize hdg' as.toArray (R' := R') hmk₁ hck hlock hpk hR.1
    (by rw [hlk]; show 2 * 0 + (rest.map fun v => v.category).sum + _ + _ ≤ _; have := hR.2.1; omega) hR.2.2.1 hR.2.2.2
  have hheap : ((T.setVm vm₁).calling (F0 m pc ls rest) mk as.toArray).heap = H := hT
  have hSc : ∀ q : Nat, q < s.heap.size → ¬ zA G q → H[q]? = s.heap[q]? := hS.2.1
  have F' : zF G M' p l ((T.setVm vm₁).calling (F0 m pc ls rest) mk as.toArray) mk methk ck :=
    ⟨F.1, hbk, hlk, findClass_of_methodNamed (s := T.setVm vm₁) hn₁, F.wd.moved hW₁, hrk, hlock, (name_of_methodNamed hn hmk).1, hex, F.kn.moved hW₁ (fun a h1 h2 => by rw [hheap]; exact hSc a h1 h2), F.2.2.2.2.2.2.2.2.2.2⟩
  rw [hlk] at Y hin
  rw [lg_entry_eq] at Y hin
  obtain ⟨t, a1, o, b1, b2, b3, ⟨L, b4, b5⟩, b6, w', sz', b7, b8⟩ := hM p l e ((T.setVm vm₁).calling (F0 m pc ls rest) mk as.toArray) mk as.toArray (.java (F0 m pc ls rest) :: below) methk ck F' _ H [] (lv_entry as hc.2.2) hw
    (by rw [hheap]; exact va_S.rf) (((T.setVm vm₁).setTop (F0 m pc ls rest)).pushFrame (.java (F0 mk 0 ((lg_sl as ++ List.replicate (M'.2.2.1 - (lg_sl as).length) Slot.unset).toArray) []))) hT Y
  have hsz : H.size ≤ t.heap.size := by have := b6.1; rw [hheap] at this; exact this
  have hk6 : ∀ q : Nat, q < H.size → ¬ zA G q → t.heap[q]? = H[q]? := fun q h1 h2 => by have := b6.2 q (by rw [hheap]; exact h1) h2; rw [hheap] at this; exact this
  have hS2 : va_S (zA G) s.heap t.heap (locs ++ L) := ⟨Nat.le_trans hS.1 hsz, fun q h1 h2 => (hk6 q (Nat.lt_of_lt_of_le h1 hS.1) h2).trans (hS.2.1 q h1 h2), fun q hq => by
    rcases List.mem_append.mp hq with h | h
    · exact hS.2.2 q h
    · exact b5 q h⟩
  rcases b8 with ⟨v, rfl, hk⟩ | ⟨x, C, rfl, hx, hk⟩
  · obtain ⟨T', X', hW', hB', ht⟩ := X₁.outOf (g := F0 m pc ls rest) rfl hdg' b2 b3 b4
    have hT' : T'.heap = t.heap := by rw [ht]; rfl
    obtain ⟨t2, c1, c2⟩ := kr v w' sz' hk p l e s m args below meth c F ls t.heap (locs ++ L) hl b7 hS2 T' hT' X'
    refine ⟨t2, hstep _ fun acts => ?_, c2⟩
    rw [hin acts]
    refine (zweaken (mid := [.java (F0 m pc ls rest)]) a1).trans ?_
    rw [ht]
    exact c1
  · obtain ⟨T', X', hW', hB', ht⟩ := X₁.outOfThrown (g := F0 m pc ls rest) rfl b2 b3 b4
    have hT' : T'.heap = t.heap := by rw [ht]; exact (Stand.throwing_heap T' _ x).symm
    have hV' : T'.vm = t.vm := by rw [ht]; exact (Stand.throwing_vm T' _ x).symm
    obtain ⟨t2, c1, c2⟩ := kt C w' sz' x T' L hk X' (by rw [hT']; exact b7) (by rw [hT']; exact hS2) (by
      obtain ⟨cell, g1, g2, g3⟩ := hx
      exact ⟨cell, by rw [hT']; exact g1, g2, by rw [hV']; exact g3⟩)
    refine ⟨t2, hstep _ fun acts => ?_, c2⟩
    rw [hin acts]
    refine (zweaken (mid := [.java (F0 m pc ls rest)]) a1).trans ?_
    rw [ht]
    exact c1
/-- no handler of the method covers the place: what the callee throws leaves it -/
theorem zleave {p : Program} {l : Launch} {e : Env} {s : State} {m : MethodId} {args : Array Value} {below : List Frame} {meth : Method} {c : Code} {locs : List Loc} {ls : Array Slot} {rest : List Value} {C : String} {x : Addr} {T' : State} {kc1 ks1 sz1 : Nat} {w1 : zW}
    (F : zF G M p l s m meth c) (hh : M.2.2.2.2 = []) (X' : Stand p l e R s m args below meth c T' locs kc1 ks1) (hw : zH G w1 sz1 T'.heap) (hS : va_S (zA G) s.heap T'.heap locs) (hx : zEx C x T') (hk : kc1 ≤ K.2.1 ∧ ks1 ≤ K.2.2) (hK : K.1 (.inr C) w1 sz1) :
    ∃ t2, Steps p.tables e below ((T'.setTop (F0 m pc ls rest)).pushFrame (.throwing x)) t2 ∧ zQ G K below s t2 := by
  have hem : c.exceptionTable.toList = [] := by
    have h := F.ex
    rw [hh] at h
    exact List.map_eq_nil_iff.mp h
  obtain ⟨d1, d2, d3, d4, d5⟩ := X'.leaveThrown x (g := F0 m pc ls rest) rfl rfl rfl (fun q hq => by rw [hem] at hq; cases hq) F.lk
  exact ⟨T'.setFrames (.throwing x :: below), d1, .threw x, d2, d3, d4, ⟨locs, d5.mono hk.1 hk.2, hS.2.2⟩, hS.F (t := T'.setFrames (.throwing x :: below)) rfl, w1, sz1, hw, Or.inr ⟨x, C, rfl, hx, hK⟩⟩
abbrev zNo (y : MethodName) : Prop := y.cls ≠ "java/lang/invoke/MethodHandle" ∧ y.cls ≠ "java/lang/invoke/VarHandle"
/-- what an instruction that calls needs of the tables -/
def zGV (own : String) (idx : Nat) (M' : zM) (n : Nat) : Prop := (zin (.methodLink own idx M'.1) ∨ ∃ host, zin (.methodLinkNest own idx M'.1 host)) ∧ zin (.instanceMethod M'.1) ∧ zin (.selects M'.1.cls M'.1 M'.1) ∧ zNo M'.1 ∧ (parseMethodDescriptor M'.1.desc).map (fun d => d.parameters.length) = some n
def zGS (own : String) (idx : Nat) (M' : zM) (n : Nat) : Prop := (zin (.methodLink own idx M'.1) ∨ ∃ host, zin (.methodLinkNest own idx M'.1 host)) ∧ zin (.static M'.1) ∧ zin (.initialized M'.1.cls) ∧ zNo M'.1 ∧ (parseMethodDescriptor M'.1.desc).map (fun d => d.parameters.length) = some n
def zGI (own : String) (idx : Nat) (M' : zM) (n : Nat) : Prop := (zin (.methodLink own idx M'.1) ∨ ∃ host, zin (.methodLinkNest own idx M'.1 host)) ∧ zin (.instanceMethod M'.1) ∧ M'.1.name = "<init>" ∧ M'.2.2.2.1 = none ∧ zin (.code M'.1 M'.2.1 M'.2.2.1 M'.2.2.2.1) ∧ zNo M'.1 ∧ (parseMethodDescriptor M'.1.desc).map (fun d => d.parameters.length) = some n
theorem znum {desc : String} {n k : Nat} (h : (parseMethodDescriptor desc).map (fun d => d.parameters.length) = some n) (hk : k = n) : ∀ sig, parseMethodDescriptor desc = some sig → k = sig.parameters.length := by
  intro sig hs
  rw [hs] at h
  exact hk.trans (Option.some.inj h).symm
theorem V_callV {M' : zM} {K' : zK} {R' : Room} {n idx b ci : Nat} {As rest fs : List Value} {T : u_T} {N : Nat} (d : decode M.2.1 pc = .ok (.invokevirtual idx, 3)) (hg : zGV M.1.cls idx M' n) (hst : zpop n st [] = some (As, .ref b :: rest)) (ho : w b = some (.inr (ci, fs))) (hcl : vwCl[ci]? = some (M'.1.cls, T, N))
    (hM : zCt G M' R' (.ref b :: As) sz w K') (hc : zCd M' (.ref b :: As)) (hR : zRm M' R' R kc ks) (hWt : (rest.map fun v => v.category).sum ≤ 8)
    (kr : ∀ v w' sz', K'.1 (.inl v) w' sz' → V G M K R (kc + K'.2.1) (ks + K'.2.2) sz' (pc + 3) lo (v.toList ++ rest) w')
    (kt : ∀ C w' sz', K'.1 (.inr C) w' sz' → (kc + K'.2.1 ≤ K.2.1 ∧ ks + K'.2.2 ≤ K.2.2) ∧ K.1 (.inr C) w' sz') (hh : M.2.2.2.2 = [] := by rfl) : V G M K R kc ks sz pc lo st w :=
  fun p l e s m args below meth c F ls H locs hl hw hS => by
    refine zrun hM hc hR F hl hw hS (fun T hT X => ?_) hWt d kr (fun C w' sz' x T' L hk X' hw' hS' hx => zleave F hh X' hw' hS' hx (kt C w' sz' hk).1 (kt C w' sz' hk).2)
    obtain ⟨Bs, e1, e2, e3⟩ := zpop_eq hst
    rw [List.append_nil] at e1
    subst e1
    obtain ⟨hlink, hinst, hsel, hy, hnp⟩ := hg
    obtain ⟨mk, methM, hnamed, hmethM, hstM, habM⟩ := Cond.instanceMethod_spec (F.wd.use hinst args)
    obtain ⟨mk', methM', cM, hn', hmethM', -, -, -, -, -, -, hsigM⟩ := hc.1.spec F.wd
    cases hnamed.symm.trans hn'
    cases hmethM.symm.trans hmethM'
    obtain ⟨r, r1, cell, q1, q2, q3, q4⟩ := hw.at ho
    obtain ⟨-, hfc, -⟩ := F.kk.1 ci _ hcl
    obtain ⟨c2, r2, m2, z1, z2, z3, z4, kP, hkP, hkPi⟩ := Cond.selects_spec (F.wd.use hsel args)
    cases hfc.symm.trans z1
    cases (State.methodFound?_of_named hnamed hy).symm.trans z2
    cases hnamed.symm.trans z3
    have hselP : selectMethod e.platform s.vm cell.cls mk = .method mk := by rw [Launch.admits_selectMethod X.admits, q2]; exact z4
    have hob : ∀ z, cell.vm ≠ .statics z := fun z h => by rw [q3] at h; cases h
    rcases hlink with hlink | ⟨host, hlink⟩
    · obtain ⟨vm₁, X₁, hstep₁⟩ := X.invokevirtual F.1 F.own (F.wd.use hlink args) hnamed hmethM hstM hkP hkPi hy (a := b) (cell := cell) (by rw [hT]; exact q1) hob hselP hmethM habM hkP hkPi (g := F0 m pc ls st) rfl (argsL := As) (rest := rest) (znum hnp e3 _ hsigM) e2 (by rw [F.2.1]; exact d)
      exact ⟨vm₁, mk, X₁, hnamed, hstep₁⟩
    · obtain ⟨vm₁, X₁, hstep₁⟩ := X.invokevirtualNest F.1 F.own (F.wd.use hlink args) hnamed hmethM hstM hkP hkPi hy (a := b) (cell := cell) (by rw [hT]; exact q1) hob hselP hmethM habM hkP hkPi (g := F0 m pc ls st) rfl (argsL := As) (rest := rest) (znum hnp e3 _ hsigM) e2 (by rw [F.2.1]; exact d)
      exact ⟨vm₁, mk, X₁, hnamed, hstep₁⟩
theorem V_callS {M' : zM} {K' : zK} {R' : Room} {n idx : Nat} {As rest : List Value} (d : decode M.2.1 pc = .ok (.invokestatic idx, 3)) (hg : zGS M.1.cls idx M' n) (hst : zpop n st [] = some (As, rest))
    (hM : zCt G M' R' As sz w K') (hc : zCd M' As) (hR : zRm M' R' R kc ks) (hWt : (rest.map fun v => v.category).sum ≤ 8)
    (kr : ∀ v w' sz', K'.1 (.inl v) w' sz' → V G M K R (kc + K'.2.1) (ks + K'.2.2) sz' (pc + 3) lo (v.toList ++ rest) w')
    (kt : ∀ C w' sz', K'.1 (.inr C) w' sz' → (kc + K'.2.1 ≤ K.2.1 ∧ ks + K'.2.2 ≤ K.2.2) ∧ K.1 (.inr C) w' sz') (hh : M.2.2.2.2 = [] := by rfl) : V G M K R kc ks sz pc lo st w :=
  fun p l e s m args below meth c F ls H locs hl hw hS => by
    refine zrun hM hc hR F hl hw hS (fun T hT X => ?_) hWt d kr (fun C w' sz' x T' L hk X' hw' hS' hx => zleave F hh X' hw' hS' hx (kt C w' sz' hk).1 (kt C w' sz' hk).2)
    obtain ⟨Bs, e1, e2, e3⟩ := zpop_eq hst
    rw [List.append_nil] at e1
    subst e1
    obtain ⟨hlink, hstat, hini, hy, hnp⟩ := hg
    obtain ⟨mk, methM, cM, hnamed, hmethM, -, -, -, -, -, -, hsigM⟩ := hc.1.spec F.wd
    have hstatic : methM.isStatic = true := Cond.static_spec hnamed hmethM (F.wd.use hstat args)
    obtain ⟨kP, hkP, -⟩ := className_of_methodNamed hnamed
    have hinitP : kP.init = .initialized := Cond.initialized_spec (findClass_of_methodNamed hnamed) hkP (F.wd.use hini args)
    rcases hlink with hlink | ⟨host, hlink⟩
    · obtain ⟨vm₁, X₁, hstep₁⟩ := X.invokestatic F.1 F.own (F.wd.use hlink args) hnamed hmethM hstatic hkP hinitP hy (g := F0 m pc ls st) rfl (argsL := As) (rest := rest) (znum hnp e3 _ hsigM) e2 (by rw [F.2.1]; exact d)
      exact ⟨vm₁, mk, X₁, hnamed, hstep₁⟩
    · obtain ⟨vm₁, X₁, hstep₁⟩ := X.invokestaticNest F.1 F.own (F.wd.use hlink args) hnamed hmethM hstatic hkP hinitP hy (g := F0 m pc ls st) rfl (argsL := As) (rest := rest) (znum hnp e3 _ hsigM) e2 (by rw [F.2.1]; exact d)
      exact ⟨vm₁, mk, X₁, hnamed, hstep₁⟩
theorem V_callI {M' : zM} {K' : zK} {R' : Room} {n idx b : Nat} {As rest : List Value} (d : decode M.2.1 pc = .ok (.invokespecial idx, 3)) (hg : zGI M.1.cls idx M' n) (hst : zpop n st [] = some (As, .ref b :: rest))
    (hM : zCt G M' R' (.ref b :: As) sz w K') (hc : zCd M' (.ref b :: As)) (hR : zRm M' R' R kc ks) (hWt : (rest.map fun v => v.category).sum ≤ 8)
    (kr : ∀ v w' sz', K'.1 (.inl v) w' sz' → V G M K R (kc + K'.2.1) (ks + K'.2.2) sz' (pc + 3) lo (v.toList ++ rest) w')
    (kt : ∀ C w' sz', K'.1 (.inr C) w' sz' → (kc + K'.2.1 ≤ K.2.1 ∧ ks + K'.2.2 ≤ K.2.2) ∧ K.1 (.inr C) w' sz') (hh : M.2.2.2.2 = [] := by rfl) : V G M K R kc ks sz pc lo st w :=
  fun p l e s m args below meth c F ls H locs hl hw hS => by
    refine zrun hM hc hR F hl hw hS (fun T hT X => ?_) hWt d kr (fun C w' sz' x T' L hk X' hw' hS' hx => zleave F hh X' hw' hS' hx (kt C w' sz' hk).1 (kt C w' sz' hk).2)
    obtain ⟨Bs, e1, e2, e3⟩ := zpop_eq hst
    rw [List.append_nil] at e1
    subst e1
    obtain ⟨hlink, hinst, hy1, hno, hco, hy, hnp⟩ := hg
    have hcode := F.wd.use hco args
    rw [hno] at hcode
    have hpl : e.platform.magicAccessors = ({} : Platform).magicAccessors := by rw [X.admits.platform]
    rcases hlink with hlink | ⟨host, hlink⟩
    · obtain ⟨mk, methM, cM, kP, vm₁, hnamed, hmethM, hcodeM, -, hlocalsM, -, hkP, -, hW₁, hstep₁⟩ := Steps.initColdArgs (e := e) X.here F.1 X.warmed hpl F.own hy1 hy (F.wd.use hlink args) (F.wd.use hinst args) hcode (f := F0 m pc ls st) rfl (znum hnp e3) e2 (by rw [F.2.1]; exact d)
      exact ⟨vm₁, mk, X.noted hW₁, hnamed, hstep₁⟩
    · obtain ⟨mk, methM, cM, kP, vm₁, hnamed, hmethM, hcodeM, -, hlocalsM, -, hkP, -, hW₁, hstep₁⟩ := Steps.initColdArgsNest (e := e) X.here F.1 X.warmed hpl F.own hy1 hy (F.wd.use hlink args) (F.wd.use hinst args) hcode (f := F0 m pc ls st) rfl (znum hnp e3) e2 (by rw [F.2.1]; exact d)
      exact ⟨vm₁, mk, X.noted hW₁, hnamed, hstep₁⟩
end ZC
end
section
/-! the rules with numbers as whole numbers: an int is Int32.ofInt z, a long Int64.ofInt z; a row is a function of whole numbers -/
theorem z32 {z : Int} (h : -2147483648 ≤ z ∧ z < 2147483648) : (Int32.ofInt z).toInt = z := Int32.toInt_ofInt_of_le (by omega) (by omega)
theorem z64 {z : Int} (h : -9223372036854775808 ≤ z ∧ z < 9223372036854775808) : (Int64.ofInt z).toInt = z := Int64.toInt_ofInt_of_le (by omega) (by omega)
theorem z32_eq {a b : Int} (ha : -2147483648 ≤ a ∧ a < 2147483648) (hb : -2147483648 ≤ b ∧ b < 2147483648) : Int32.ofInt a = Int32.ofInt b ↔ a = b := by
  constructor
  · intro h
    have := congrArg Int32.toInt h
    rwa [z32 ha, z32 hb] at this
  · intro h
    rw [h]
theorem z32_le {a b : Int} (ha : -2147483648 ≤ a ∧ a < 2147483648) (hb : -2147483648 ≤ b ∧ b < 2147483648) : Int32.ofInt a ≤ Int32.ofInt b ↔ a ≤ b := by
  rw [Int32.le_iff_toInt_le, z32 ha, z32 hb]
theorem z32_lt {a b : Int} (ha : -2147483648 ≤ a ∧ a < 2147483648) (hb : -2147483648 ≤ b ∧ b < 2147483648) : Int32.ofInt a < Int32.ofInt b ↔ a < b := by
  rw [Int32.lt_iff_toInt_lt, z32 ha, z32 hb]
theorem z64_eq {a b : Int} (ha : -9223372036854775808 ≤ a ∧ a < 9223372036854775808) (hb : -9223372036854775808 ≤ b ∧ b < 9223372036854775808) : Int64.ofInt a = Int64.ofInt b ↔ a = b := by
  constructor
  · intro h
    have := congrArg Int64.toInt h
    rwa [z64 ha, z64 hb] at this
  · intro h
    rw [h]
theorem z64_lt {a b : Int} (ha : -9223372036854775808 ≤ a ∧ a < 9223372036854775808) (hb : -9223372036854775808 ≤ b ∧ b < 9223372036854775808) : Int64.ofInt a < Int64.ofInt b ↔ a < b := by
  rw [Int64.lt_iff_toInt_lt, z64 ha, z64 hb]
theorem z32_0 : Int32.ofInt 0 = 0 := by decide
theorem z32_clamp {z : Int} (h0 : 0 ≤ z) (h1 : z < 2147483648) : (Int32.ofInt z).toNatClampNeg = z.toNat := Int32.toNatClampNeg_ofInt_of_le (by omega) (by omega)
theorem z32_in {z : Int} {n : Nat} (h : 0 ≤ z ∧ z < n) (hn : n < 2147483648) : vp_in (Int32.ofInt z) n := by
  rw [vp_in_iff, z32 (by omega)]
  exact h
/-- a row of longs by a function of whole numbers -/
abbrev zro (G : zG) (n : Nat) (g : Int → Int) : va_E := zrow G n (fun j => Int64.ofInt (g j))
abbrev zio (G : zG) (n : Nat) (g : Int → Int) : va_E := zints G n (fun j => Int32.ofInt (g j))
def zu (g : Int → Int) (z v : Int) : Int → Int := fun j => if j = z then v else g j
theorem zu_s {g : Int → Int} {z v : Int} : zu g z v z = v := if_pos rfl
theorem zu_n {g : Int → Int} {z v j : Int} (h : j ≠ z) : zu g z v j = g j := if_neg h
theorem zro_set {G : zG} {n : Nat} {g : Int → Int} {z v : Int} (h : 0 ≤ z) : zrow G n (vp_updL (fun j => Int64.ofInt (g j)) z.toNat (Int64.ofInt v)) = zro G n (zu g z v) := by
  have : vp_updL (fun j => Int64.ofInt (g j)) z.toNat (Int64.ofInt v) = fun j : Nat => Int64.ofInt (zu g z v j) := by
    funext j
    unfold vp_updL zu
    by_cases hj : j = z.toNat
    · rw [if_pos hj, if_pos (by omega)]
    · rw [if_neg hj, if_neg (by omega)]
  rw [this]
theorem zio_set {G : zG} {n : Nat} {g : Int → Int} {z v : Int} (h : 0 ≤ z) : zints G n (va_up (fun j => Int32.ofInt (g j)) z.toNat (Int32.ofInt v)) = zio G n (zu g z v) := by
  have : va_up (fun j => Int32.ofInt (g j)) z.toNat (Int32.ofInt v) = fun j : Nat => Int32.ofInt (zu g z v j) := by
    funext j
    unfold va_up zu
    by_cases hj : j = z.toNat
    · rw [if_pos hj, if_pos (by omega)]
    · rw [if_neg hj, if_neg (by omega)]
  rw [this]
theorem zset_zset {w : zW} {a : Nat} {e e' : va_E} : zset (zset w a e) a e' = zset w a e' := by
  funext q
  unfold zset
  by_cases h : q = a
  · rw [if_pos h, if_pos h]
  · rw [if_neg h, if_neg h, if_neg h]
theorem zset_comm {w : zW} {a b : Nat} {e e' : va_E} (h : a ≠ b) : zset (zset w a e) b e' = zset (zset w b e') a e := by
  funext q
  unfold zset
  by_cases h1 : q = b
  · rw [if_pos h1, if_neg (by omega), if_pos h1]
  · by_cases h2 : q = a
    · rw [if_neg h1, if_pos h2, if_pos h2]
    · rw [if_neg h1, if_neg h2, if_neg h2, if_neg h1]
theorem zset_self {w : zW} {a : Nat} {e : va_E} (h : w a = some e) : zset w a e = w := by
  funext q
  unfold zset
  by_cases h1 : q = a
  · rw [if_pos h1, h1, h]
  · rw [if_neg h1]
def zcm (a b : Int) : Int := if b < a then 1 else if a = b then 0 else -1
section ZJ
variable {G : zG} {M : zM} {K : zK} {R : Room} {kc ks sz pc : Nat} {lo : List (Nat × Value)} {st : List Value} {w : zW}
theorem J_bipush {n : Int} (d : decode M.2.1 pc = .ok (.bipush n, 2)) (hn : -128 ≤ n ∧ n < 128) (k : V G M K R kc ks sz (pc + 2) lo (.int (Int32.ofInt n) :: st) w) : V G M K R kc ks sz pc lo st w :=
  V_bipush d (by rw [show (Int8.ofInt n).toInt32 = Int32.ofInt n from Int32.toInt_inj.mp (by rw [Int8.toInt_toInt32, Int8.toInt_ofInt_of_le (by omega) (by omega), z32 (by omega)])]; exact k)
theorem J_sipush {n : Int} (d : decode M.2.1 pc = .ok (.sipush n, 3)) (hn : -32768 ≤ n ∧ n < 32768) (k : V G M K R kc ks sz (pc + 3) lo (.int (Int32.ofInt n) :: st) w) : V G M K R kc ks sz pc lo st w :=
  V_sipush d (by rw [show (Int16.ofInt n).toInt32 = Int32.ofInt n from Int32.toInt_inj.mp (by rw [Int16.toInt_toInt32, Int16.toInt_ofInt_of_le (by omega) (by omega), z32 (by omega)])]; exact k)
theorem J_lconst {n : Fin 2} {z : Int} (d : decode M.2.1 pc = .ok (.lconst n, 1)) (hz : ((n : Nat) : Int) = z) (k : V G M K R kc ks sz (pc + 1) lo (.long (Int64.ofInt z) :: st) w) : V G M K R kc ks sz pc lo st w :=
  V_lconst d (by rw [← Int64.ofInt_eq_ofNat, hz]; exact k)
theorem J_iinc {i : Nat} {n a : Int} (d : decode M.2.1 pc = .ok (.iinc i n, 3)) (h : zlk lo i = some (.int (Int32.ofInt a))) (hn : i < M.2.2.1) (k : V G M K R kc ks sz (pc + 3) (zst1 lo i (.int (Int32.ofInt (a + n)))) st w) : V G M K R kc ks sz pc lo st w :=
  V_iinc d h hn (by rw [← Int32.ofInt_add]; exact k)
theorem J_iadd {a b : Int} (d : decode M.2.1 pc = .ok (.iadd, 1)) (k : V G M K R kc ks sz (pc + 1) lo (.int (Int32.ofInt (a + b)) :: st) w) : V G M K R kc ks sz pc lo (.int (Int32.ofInt b) :: .int (Int32.ofInt a) :: st) w := V_iadd d (by rw [← Int32.ofInt_add]; exact k)
theorem J_isub {a b : Int} (d : decode M.2.1 pc = .ok (.isub, 1)) (k : V G M K R kc ks sz (pc + 1) lo (.int (Int32.ofInt (a - b)) :: st) w) : V G M K R kc ks sz pc lo (.int (Int32.ofInt b) :: .int (Int32.ofInt a) :: st) w := V_isub d (by rw [← Int32.ofInt_sub]; exact k)
theorem J_imul {a b : Int} (d : decode M.2.1 pc = .ok (.imul, 1)) (k : V G M K R kc ks sz (pc + 1) lo (.int (Int32.ofInt (a * b)) :: st) w) : V G M K R kc ks sz pc lo (.int (Int32.ofInt b) :: .int (Int32.ofInt a) :: st) w := V_imul d (by rw [← Int32.ofInt_mul]; exact k)
theorem J_ineg {a : Int} (d : decode M.2.1 pc = .ok (.ineg, 1)) (k : V G M K R kc ks sz (pc + 1) lo (.int (Int32.ofInt (-a)) :: st) w) : V G M K R kc ks sz pc lo (.int (Int32.ofInt a) :: st) w := V_ineg d (by rw [← Int32.ofInt_neg]; exact k)
theorem J_ladd {a b : Int} (d : decode M.2.1 pc = .ok (.ladd, 1)) (k : V G M K R kc ks sz (pc + 1) lo (.long (Int64.ofInt (a + b)) :: st) w) : V G M K R kc ks sz pc lo (.long (Int64.ofInt b) :: .long (Int64.ofInt a) :: st) w := V_ladd d (by rw [← Int64.ofInt_add]; exact k)
theorem J_lsub {a b : Int} (d : decode M.2.1 pc = .ok (.lsub, 1)) (k : V G M K R kc ks sz (pc + 1) lo (.long (Int64.ofInt (a - b)) :: st) w) : V G M K R kc ks sz pc lo (.long (Int64.ofInt b) :: .long (Int64.ofInt a) :: st) w := V_lsub d (by rw [← Int64.ofInt_sub]; exact k)
theorem J_lmul {a b : Int} (d : decode M.2.1 pc = .ok (.lmul, 1)) (k : V G M K R kc ks sz (pc + 1) lo (.long (Int64.ofInt (a * b)) :: st) w) : V G M K R kc ks sz pc lo (.long (Int64.ofInt b) :: .long (Int64.ofInt a) :: st) w := V_lmul d (by rw [← Int64.ofInt_mul]; exact k)
theorem J_lneg {a : Int} (d : decode M.2.1 pc = .ok (.lneg, 1)) (k : V G M K R kc ks sz (pc + 1) lo (.long (Int64.ofInt (-a)) :: st) w) : V G M K R kc ks sz pc lo (.long (Int64.ofInt a) :: st) w := V_lneg d (by rw [← Int64.ofInt_neg]; exact k)
theorem z32_mod {a b : Int} (ha : -2147483648 ≤ a ∧ a < 2147483648) (hb : -2147483648 ≤ b ∧ b < 2147483648) (h : -2147483648 ≤ a.tmod b ∧ a.tmod b < 2147483648) : Int32.ofInt a - Int32.ofInt a / Int32.ofInt b * Int32.ofInt b = Int32.ofInt (a.tmod b) := by
  rw [irem_eq_mod]
  exact Int32.toInt_inj.mp (by rw [Int32.toInt_mod, z32 ha, z32 hb, z32 h])
theorem zlrem (x y : Int64) : x - x / y * y = x % y := by
  apply Int64.toInt_inj.mp
  have h1 := Int64.le_toInt (x % y)
  have h2 := Int64.toInt_lt (x % y)
  rw [Int64.toInt_sub, Int64.toInt_mul, Int64.toInt_div, Int.bmod_mul_bmod, Int.sub_bmod_bmod, Int.mul_comm (x.toInt.tdiv y.toInt), ← Int.tmod_def, ← Int64.toInt_mod]
  exact Int.bmod_eq_of_le_mul_two (by omega) (by omega)
theorem z64_mod {a b : Int} (ha : -9223372036854775808 ≤ a ∧ a < 9223372036854775808) (hb : -9223372036854775808 ≤ b ∧ b < 9223372036854775808) (h : -9223372036854775808 ≤ a.tmod b ∧ a.tmod b < 9223372036854775808) : Int64.ofInt a - Int64.ofInt a / Int64.ofInt b * Int64.ofInt b = Int64.ofInt (a.tmod b) := by
  rw [zlrem]
  exact Int64.toInt_inj.mp (by rw [Int64.toInt_mod, z64 ha, z64 hb, z64 h])
theorem ztmod_b {a b : Int} (hb : 0 < b) : -b < a.tmod b ∧ a.tmod b < b := tmod_bounds hb
theorem J_irem {a b : Int} (d : decode M.2.1 pc = .ok (.irem, 1)) (ha : -2147483648 ≤ a ∧ a < 2147483648) (hb : 0 < b ∧ b < 2147483648) (k : V G M K R kc ks sz (pc + 1) lo (.int (Int32.ofInt (a.tmod b)) :: st) w) : V G M K R kc ks sz pc lo (.int (Int32.ofInt b) :: .int (Int32.ofInt a) :: st) w := by
  have hm := ztmod_b (a := a) hb.1
  refine V_irem d (fun h => ?_) ?_
  · rw [← z32_0, z32_eq (by omega) (by omega)] at h
    omega
  · rw [z32_mod ha (by omega) (by omega)]
    exact k
/-- of a number that isn't below nothing -/
theorem J_iremP {a b : Int} (d : decode M.2.1 pc = .ok (.irem, 1)) (ha : 0 ≤ a ∧ a < 2147483648) (hb : 0 < b ∧ b < 2147483648) (k : V G M K R kc ks sz (pc + 1) lo (.int (Int32.ofInt (a % b)) :: st) w) : V G M K R kc ks sz pc lo (.int (Int32.ofInt b) :: .int (Int32.ofInt a) :: st) w :=
  J_irem d (by omega) hb (by rw [Int.tmod_eq_emod_of_nonneg ha.1]; exact k)
theorem J_lrem {a b : Int} (d : decode M.2.1 pc = .ok (.lrem, 1)) (ha : -9223372036854775808 ≤ a ∧ a < 9223372036854775808) (hb : 0 < b ∧ b < 9223372036854775808) (k : V G M K R kc ks sz (pc + 1) lo (.long (Int64.ofInt (a.tmod b)) :: st) w) : V G M K R kc ks sz pc lo (.long (Int64.ofInt b) :: .long (Int64.ofInt a) :: st) w := by
  have hm := ztmod_b (a := a) hb.1
  refine V_lrem d (fun h => ?_) ?_
  · rw [show (0 : Int64) = Int64.ofInt 0 from by decide, z64_eq (by omega) (by omega)] at h
    omega
  · rw [z64_mod ha (by omega) (by omega)]
    exact k
theorem J_lremP {a b : Int} (d : decode M.2.1 pc = .ok (.lrem, 1)) (ha : 0 ≤ a ∧ a < 9223372036854775808) (hb : 0 < b ∧ b < 9223372036854775808) (k : V G M K R kc ks sz (pc + 1) lo (.long (Int64.ofInt (a % b)) :: st) w) : V G M K R kc ks sz pc lo (.long (Int64.ofInt b) :: .long (Int64.ofInt a) :: st) w :=
  J_lrem d (by omega) hb (by rw [Int.tmod_eq_emod_of_nonneg ha.1]; exact k)
theorem J_ldiv {a b : Int} (d : decode M.2.1 pc = .ok (.ldiv, 1)) (ha : -9223372036854775808 < a ∧ a < 9223372036854775808) (hb : 0 < b ∧ b < 9223372036854775808) (k : V G M K R kc ks sz (pc + 1) lo (.long (Int64.ofInt (a.tdiv b)) :: st) w) : V G M K R kc ks sz pc lo (.long (Int64.ofInt b) :: .long (Int64.ofInt a) :: st) w := by
  refine V_ldiv d (fun h => ?_) ?_
  · rw [show (0 : Int64) = Int64.ofInt 0 from by decide, z64_eq (by omega) (by omega)] at h
    omega
  · rw [show Int64.ofInt a / Int64.ofInt b = Int64.ofInt (a.tdiv b) from (Int64.ofInt_tdiv (by show -9223372036854775808 ≤ a; omega) (by show a ≤ 9223372036854775807; omega) (by show -9223372036854775808 ≤ b; omega) (by show b ≤ 9223372036854775807; omega)).symm]
    exact k
theorem J_ldivP {a b : Int} (d : decode M.2.1 pc = .ok (.ldiv, 1)) (ha : 0 ≤ a ∧ a < 9223372036854775808) (hb : 0 < b ∧ b < 9223372036854775808) (k : V G M K R kc ks sz (pc + 1) lo (.long (Int64.ofInt (a / b)) :: st) w) : V G M K R kc ks sz pc lo (.long (Int64.ofInt b) :: .long (Int64.ofInt a) :: st) w :=
  J_ldiv d (by omega) hb (by rw [Int.tdiv_eq_ediv_of_nonneg ha.1]; exact k)
theorem J_i2l {a : Int} (d : decode M.2.1 pc = .ok (.i2l, 1)) (ha : -2147483648 ≤ a ∧ a < 2147483648) (k : V G M K R kc ks sz (pc + 1) lo (.long (Int64.ofInt a) :: st) w) : V G M K R kc ks sz pc lo (.int (Int32.ofInt a) :: st) w :=
  V_i2l d (by rw [show (Int32.ofInt a).toInt64 = Int64.ofInt a from Int64.toInt_inj.mp (by rw [Int32.toInt_toInt64, z32 ha, z64 (by omega)])]; exact k)
theorem J_l2i {a : Int} (d : decode M.2.1 pc = .ok (.l2i, 1)) (k : V G M K R kc ks sz (pc + 1) lo (.int (Int32.ofInt a) :: st) w) : V G M K R kc ks sz pc lo (.long (Int64.ofInt a) :: st) w := V_l2i d (by rw [Int64.toInt32_ofInt]; exact k)
theorem J_lcmp {a b : Int} (d : decode M.2.1 pc = .ok (.lcmp, 1)) (ha : -9223372036854775808 ≤ a ∧ a < 9223372036854775808) (hb : -9223372036854775808 ≤ b ∧ b < 9223372036854775808) (k : V G M K R kc ks sz (pc + 1) lo (.int (Int32.ofInt (zcm a b)) :: st) w) : V G M K R kc ks sz pc lo (.long (Int64.ofInt b) :: .long (Int64.ofInt a) :: st) w := by
  refine V_lcmp d ?_
  have e : lg_cmp (Int64.ofInt a) (Int64.ofInt b) = Int32.ofInt (zcm a b) := by
    unfold lg_cmp zcm
    by_cases h1 : b < a
    · rw [if_pos h1, if_pos ((z64_lt hb ha).mpr h1)]
      decide
    · rw [if_neg h1, if_neg (fun q => h1 ((z64_lt hb ha).mp q))]
      by_cases h2 : a = b
      · rw [if_pos h2, if_pos (by rw [h2])]
        decide
      · rw [if_neg h2, if_neg (fun q => h2 ((z64_eq ha hb).mp q))]
        decide
  rw [e]
  exact k
theorem J_laload {a n : Nat} {g : Int → Int} {z : Int} (d : decode M.2.1 pc = .ok (.laload, 1)) (h : w a = some (zro G n g)) (hz : 0 ≤ z ∧ z < n) (hn : n < 2147483648) (k : V G M K R kc ks sz (pc + 1) lo (.long (Int64.ofInt (g z)) :: st) w) : V G M K R kc ks sz pc lo (.int (Int32.ofInt z) :: .ref a :: st) w :=
  V_laload d h (z32_in hz hn) (by rw [z32_clamp hz.1 (by omega), Int.toNat_of_nonneg hz.1]; exact k)
theorem J_iaload {a n : Nat} {g : Int → Int} {z : Int} (d : decode M.2.1 pc = .ok (.iaload, 1)) (h : w a = some (zio G n g)) (hz : 0 ≤ z ∧ z < n) (hn : n < 2147483648) (k : V G M K R kc ks sz (pc + 1) lo (.int (Int32.ofInt (g z)) :: st) w) : V G M K R kc ks sz pc lo (.int (Int32.ofInt z) :: .ref a :: st) w :=
  V_iaload d h (z32_in hz hn) (by rw [z32_clamp hz.1 (by omega), Int.toNat_of_nonneg hz.1]; exact k)
theorem J_lastore {a n : Nat} {g : Int → Int} {z v : Int} (d : decode M.2.1 pc = .ok (.lastore, 1)) (h : w a = some (zro G n g)) (hz : 0 ≤ z ∧ z < n) (hn : n < 2147483648) (k : V G M K R kc ks sz (pc + 1) lo st (zset w a (zro G n (zu g z v)))) : V G M K R kc ks sz pc lo (.long (Int64.ofInt v) :: .int (Int32.ofInt z) :: .ref a :: st) w :=
  V_lastore d h (z32_in hz hn) (by rw [z32_clamp hz.1 (by omega), zro_set hz.1]; exact k)
theorem J_iastore {a n : Nat} {g : Int → Int} {z v : Int} (d : decode M.2.1 pc = .ok (.iastore, 1)) (h : w a = some (zio G n g)) (hz : 0 ≤ z ∧ z < n) (hn : n < 2147483648) (k : V G M K R kc ks sz (pc + 1) lo st (zset w a (zio G n (zu g z v)))) : V G M K R kc ks sz pc lo (.int (Int32.ofInt v) :: .int (Int32.ofInt z) :: .ref a :: st) w :=
  V_iastore d h (z32_in hz hn) (by rw [z32_clamp hz.1 (by omega), zio_set hz.1]; exact k)
theorem J_aaload {a n b ka : Nat} {f : Nat → Option Nat} {z : Int} {ty : FieldType} (d : decode M.2.1 pc = .ok (.aaload, 1)) (h : w a = some (zrefs G ka n f)) (ht : (zty G)[ka]? = some (G.2.1 ka, ty)) (href : ty.isReference = true) (hz : 0 ≤ z ∧ z < n) (hn : n < 2147483648) (hb : f z.toNat = some b) (k : V G M K R kc ks sz (pc + 1) lo (.ref b :: st) w) : V G M K R kc ks sz pc lo (.int (Int32.ofInt z) :: .ref a :: st) w :=
  V_aaload d h ht href (z32_in hz hn) (by rw [z32_clamp hz.1 (by omega)]; exact hb) k
theorem J_icmp_eq {a b off : Int} (tgt : Nat) (d : decode M.2.1 pc = .ok (.if_icmp .eq off, 3)) (ht : (pc : Int) + off = (tgt : Int)) (ha : -2147483648 ≤ a ∧ a < 2147483648) (hb : -2147483648 ≤ b ∧ b < 2147483648) (kt : a = b → V G M K R kc ks sz tgt lo st w) (kf : ¬ a = b → V G M K R kc ks sz (pc + 3) lo st w) : V G M K R kc ks sz pc lo (.int (Int32.ofInt b) :: .int (Int32.ofInt a) :: st) w :=
  V_icmp_eq tgt d ht (fun q => kt ((z32_eq ha hb).mp q)) (fun q => kf ((fun z => q ((z32_eq ha hb).mpr z))))
theorem J_if_eq {a off : Int} (tgt : Nat) (d : decode M.2.1 pc = .ok (.ifCond .eq off, 3)) (ht : (pc : Int) + off = (tgt : Int)) (ha : -2147483648 ≤ a ∧ a < 2147483648) (kt : a = 0 → V G M K R kc ks sz tgt lo st w) (kf : ¬ a = 0 → V G M K R kc ks sz (pc + 3) lo st w) : V G M K R kc ks sz pc lo (.int (Int32.ofInt a) :: st) w := by
  have hz : -2147483648 ≤ (0 : Int) ∧ (0 : Int) < 2147483648 := by decide
  refine V_if_eq tgt d ht (fun q => kt ?_) (fun q => kf ?_)
  · rw [← z32_0] at q
    exact (z32_eq ha hz).mp q
  · rw [← z32_0] at q
    exact (fun z => q ((z32_eq ha hz).mpr z))
theorem J_icmp_ne {a b off : Int} (tgt : Nat) (d : decode M.2.1 pc = .ok (.if_icmp .ne off, 3)) (ht : (pc : Int) + off = (tgt : Int)) (ha : -2147483648 ≤ a ∧ a < 2147483648) (hb : -2147483648 ≤ b ∧ b < 2147483648) (kt : ¬ a = b → V G M K R kc ks sz tgt lo st w) (kf : a = b → V G M K R kc ks sz (pc + 3) lo st w) : V G M K R kc ks sz pc lo (.int (Int32.ofInt b) :: .int (Int32.ofInt a) :: st) w :=
  V_icmp_ne tgt d ht (fun q => kt ((fun z => q ((z32_eq ha hb).mpr z)))) (fun q => kf ((z32_eq ha hb).mp q))
theorem J_if_ne {a off : Int} (tgt : Nat) (d : decode M.2.1 pc = .ok (.ifCond .ne off, 3)) (ht : (pc : Int) + off = (tgt : Int)) (ha : -2147483648 ≤ a ∧ a < 2147483648) (kt : ¬ a = 0 → V G M K R kc ks sz tgt lo st w) (kf : a = 0 → V G M K R kc ks sz (pc + 3) lo st w) : V G M K R kc ks sz pc lo (.int (Int32.ofInt a) :: st) w := by
  have hz : -2147483648 ≤ (0 : Int) ∧ (0 : Int) < 2147483648 := by decide
  refine V_if_ne tgt d ht (fun q => kt ?_) (fun q => kf ?_)
  · rw [← z32_0] at q
    exact (fun z => q ((z32_eq ha hz).mpr z))
  · rw [← z32_0] at q
    exact (z32_eq ha hz).mp q
theorem J_icmp_lt {a b off : Int} (tgt : Nat) (d : decode M.2.1 pc = .ok (.if_icmp .lt off, 3)) (ht : (pc : Int) + off = (tgt : Int)) (ha : -2147483648 ≤ a ∧ a < 2147483648) (hb : -2147483648 ≤ b ∧ b < 2147483648) (kt : a < b → V G M K R kc ks sz tgt lo st w) (kf : b ≤ a → V G M K R kc ks sz (pc + 3) lo st w) : V G M K R kc ks sz pc lo (.int (Int32.ofInt b) :: .int (Int32.ofInt a) :: st) w :=
  V_icmp_lt tgt d ht (fun q => kt ((z32_lt ha hb).mp q)) (fun q => kf ((Int.not_lt.mp fun z => q ((z32_lt ha hb).mpr z))))
theorem J_if_lt {a off : Int} (tgt : Nat) (d : decode M.2.1 pc = .ok (.ifCond .lt off, 3)) (ht : (pc : Int) + off = (tgt : Int)) (ha : -2147483648 ≤ a ∧ a < 2147483648) (kt : a < 0 → V G M K R kc ks sz tgt lo st w) (kf : 0 ≤ a → V G M K R kc ks sz (pc + 3) lo st w) : V G M K R kc ks sz pc lo (.int (Int32.ofInt a) :: st) w := by
  have hz : -2147483648 ≤ (0 : Int) ∧ (0 : Int) < 2147483648 := by decide
  refine V_if_lt tgt d ht (fun q => kt ?_) (fun q => kf ?_)
  · rw [← z32_0] at q
    exact (z32_lt ha hz).mp q
  · rw [← z32_0] at q
    exact (Int.not_lt.mp fun z => q ((z32_lt ha hz).mpr z))
theorem J_icmp_ge {a b off : Int} (tgt : Nat) (d : decode M.2.1 pc = .ok (.if_icmp .ge off, 3)) (ht : (pc : Int) + off = (tgt : Int)) (ha : -2147483648 ≤ a ∧ a < 2147483648) (hb : -2147483648 ≤ b ∧ b < 2147483648) (kt : b ≤ a → V G M K R kc ks sz tgt lo st w) (kf : a < b → V G M K R kc ks sz (pc + 3) lo st w) : V G M K R kc ks sz pc lo (.int (Int32.ofInt b) :: .int (Int32.ofInt a) :: st) w :=
  V_icmp_ge tgt d ht (fun q => kt ((z32_le hb ha).mp q)) (fun q => kf ((Int.not_le.mp fun z => q ((z32_le hb ha).mpr z))))
theorem J_if_ge {a off : Int} (tgt : Nat) (d : decode M.2.1 pc = .ok (.ifCond .ge off, 3)) (ht : (pc : Int) + off = (tgt : Int)) (ha : -2147483648 ≤ a ∧ a < 2147483648) (kt : 0 ≤ a → V G M K R kc ks sz tgt lo st w) (kf : a < 0 → V G M K R kc ks sz (pc + 3) lo st w) : V G M K R kc ks sz pc lo (.int (Int32.ofInt a) :: st) w := by
  have hz : -2147483648 ≤ (0 : Int) ∧ (0 : Int) < 2147483648 := by decide
  refine V_if_ge tgt d ht (fun q => kt ?_) (fun q => kf ?_)
  · rw [← z32_0] at q
    exact (z32_le hz ha).mp q
  · rw [← z32_0] at q
    exact (Int.not_le.mp fun z => q ((z32_le hz ha).mpr z))
theorem J_icmp_gt {a b off : Int} (tgt : Nat) (d : decode M.2.1 pc = .ok (.if_icmp .gt off, 3)) (ht : (pc : Int) + off = (tgt : Int)) (ha : -2147483648 ≤ a ∧ a < 2147483648) (hb : -2147483648 ≤ b ∧ b < 2147483648) (kt : b < a → V G M K R kc ks sz tgt lo st w) (kf : a ≤ b → V G M K R kc ks sz (pc + 3) lo st w) : V G M K R kc ks sz pc lo (.int (Int32.ofInt b) :: .int (Int32.ofInt a) :: st) w :=
  V_icmp_gt tgt d ht (fun q => kt ((z32_lt hb ha).mp q)) (fun q => kf ((Int.not_lt.mp fun z => q ((z32_lt hb ha).mpr z))))
theorem J_if_gt {a off : Int} (tgt : Nat) (d : decode M.2.1 pc = .ok (.ifCond .gt off, 3)) (ht : (pc : Int) + off = (tgt : Int)) (ha : -2147483648 ≤ a ∧ a < 2147483648) (kt : 0 < a → V G M K R kc ks sz tgt lo st w) (kf : a ≤ 0 → V G M K R kc ks sz (pc + 3) lo st w) : V G M K R kc ks sz pc lo (.int (Int32.ofInt a) :: st) w := by
  have hz : -2147483648 ≤ (0 : Int) ∧ (0 : Int) < 2147483648 := by decide
  refine V_if_gt tgt d ht (fun q => kt ?_) (fun q => kf ?_)
  · rw [← z32_0] at q
    exact (z32_lt hz ha).mp q
  · rw [← z32_0] at q
    exact (Int.not_lt.mp fun z => q ((z32_lt hz ha).mpr z))
theorem J_icmp_le {a b off : Int} (tgt : Nat) (d : decode M.2.1 pc = .ok (.if_icmp .le off, 3)) (ht : (pc : Int) + off = (tgt : Int)) (ha : -2147483648 ≤ a ∧ a < 2147483648) (hb : -2147483648 ≤ b ∧ b < 2147483648) (kt : a ≤ b → V G M K R kc ks sz tgt lo st w) (kf : b < a → V G M K R kc ks sz (pc + 3) lo st w) : V G M K R kc ks sz pc lo (.int (Int32.ofInt b) :: .int (Int32.ofInt a) :: st) w :=
  V_icmp_le tgt d ht (fun q => kt ((z32_le ha hb).mp q)) (fun q => kf ((Int.not_le.mp fun z => q ((z32_le ha hb).mpr z))))
theorem J_if_le {a off : Int} (tgt : Nat) (d : decode M.2.1 pc = .ok (.ifCond .le off, 3)) (ht : (pc : Int) + off = (tgt : Int)) (ha : -2147483648 ≤ a ∧ a < 2147483648) (kt : a ≤ 0 → V G M K R kc ks sz tgt lo st w) (kf : 0 < a → V G M K R kc ks sz (pc + 3) lo st w) : V G M K R kc ks sz pc lo (.int (Int32.ofInt a) :: st) w := by
  have hz : -2147483648 ≤ (0 : Int) ∧ (0 : Int) < 2147483648 := by decide
  refine V_if_le tgt d ht (fun q => kt ?_) (fun q => kf ?_)
  · rw [← z32_0] at q
    exact (z32_le ha hz).mp q
  · rw [← z32_0] at q
    exact (Int.not_le.mp fun z => q ((z32_le ha hz).mpr z))
end ZJ
section ZJ2
variable {G : zG} {M : zM} {K : zK} {R : Room} {kc ks sz pc : Nat} {lo : List (Nat × Value)} {st : List Value} {w : zW}
theorem J_ldc2 {idx : Nat} {z : Int} (d : decode M.2.1 pc = .ok (.ldc2_w idx, 3)) (hc : zin (.constantLong M.1.cls idx (Int64.ofInt z))) (k : V G M K R kc ks sz (pc + 3) lo (.long (Int64.ofInt z) :: st) w) : V G M K R kc ks sz pc lo st w := V_ldc2 d hc k
end ZJ2
end
section
/-! pure words -/
abbrev zR (f c s n : Nat) : Room := { frames := f, cells := c, slots := s, locals := n }
abbrev zR0 : Room := zR 0 0 0 0
theorem zfor (n : Nat) (P : Nat → Prop) (done : P n) (body : ∀ i, i < n → P (i + 1) → P i) (i : Nat) (hi : i ≤ n) : P i := by
  obtain ⟨k, hk⟩ : ∃ k, n = i + k := ⟨n - i, by omega⟩
  induction k generalizing i with
  | zero =>
    have e : i = n := by omega
    rw [e]
    exact done
  | succ k ih => exact body i (by omega) (ih (i + 1) (by omega) (by omega))
/-- the first n numbers by f, the rest as they were -/
def zif (n : Int) (f g : Int → Int) : Int → Int := fun j => if 0 ≤ j ∧ j < n then f j else g j
theorem zif_0 {f g : Int → Int} : zif 0 f g = g := by
  funext j
  exact if_neg (by omega)
theorem zif_l {n j : Int} {f g : Int → Int} (h : 0 ≤ j ∧ j < n) : zif n f g j = f j := if_pos h
theorem zif_r {n j : Int} {f g : Int → Int} (h : ¬ (0 ≤ j ∧ j < n)) : zif n f g j = g j := if_neg h
theorem zif_s {i v : Int} {f g : Int → Int} (h : 0 ≤ i) (hv : v = f i) : zu (zif i f g) i v = zif (i + 1) f g := by
  funext j
  unfold zu zif
  by_cases hj : j = i
  · rw [if_pos hj, if_pos (by omega), hv, hj]
  · rw [if_neg hj]
    by_cases h2 : 0 ≤ j ∧ j < i
    · rw [if_pos h2, if_pos (by omega)]
    · rw [if_neg h2, if_neg (by omega)]
theorem zro_eq {G : zG} {n : Nat} {g g' : Int → Int} (h : g = g') : zro G n g = zro G n g' := by rw [h]
/-- an answer and a world, nothing made -/
def zdet (v : Option Value) (w' : zW) (sz' : Nat) : zK := (fun o w1 s1 => match o with
  | .inl v1 => v = v1 ∧ w' = w1 ∧ sz' = s1
  | .inr _ => False, 0, 0)
/-- as zfor, from a start on -/
theorem zforF (m n : Nat) (P : Nat → Prop) (done : P n) (body : ∀ i, m ≤ i → i < n → P (i + 1) → P i) (i : Nat) (hm : m ≤ i) (hi : i ≤ n) : P i := by
  obtain ⟨k, hk⟩ : ∃ k, n = i + k := ⟨n - i, by omega⟩
  induction k generalizing i with
  | zero =>
    have e : i = n := by omega
    rw [e]
    exact done
  | succ k ih => exact body i hm (by omega) (ih (i + 1) (by omega) (by omega) (by omega))
/-! the product of two rows modulo x^n + 1, as the class sums it up -/
def zcp (n : Int) (a b : Int → Int) (k : Int) : Nat → Int
  | 0 => 0
  | m + 1 => zcp n a b k m + (if (m : Int) ≤ k then a m * b (k - m) else -(a m * b (n + k - m)))
def zap (n : Int) (a b g : Int → Int) (i : Nat) : Int → Int := fun k => if 0 ≤ k ∧ k < n then g k + zcp n a b k i else g k
def zap1 (n : Int) (a b g : Int → Int) (i j : Nat) : Int → Int := fun k => if (i : Int) ≤ k ∧ k < i + j then zap n a b g i k + a i * b (k - i) else zap n a b g i k
def zap2 (n : Int) (a b g : Int → Int) (i j : Nat) : Int → Int := fun k => if (i : Int) ≤ k ∧ k < n then zap n a b g i k + a i * b (k - i) else if 0 ≤ k ∧ k < i + j - n then zap n a b g i k - a i * b (n + k - i) else zap n a b g i k
theorem zap_0 {n : Int} {a b g : Int → Int} : zap n a b g 0 = g := by
  funext k
  unfold zap
  split
  · show g k + 0 = g k
    omega
  · rfl
theorem zap1_0 {n : Int} {a b g : Int → Int} {i : Nat} : zap1 n a b g i 0 = zap n a b g i := by
  funext k
  exact if_neg (by omega)
theorem zap1_s {n : Int} {a b g : Int → Int} {i j : Nat} (h : (i : Int) + j < n) : zu (zap1 n a b g i j) (i + j) (zap1 n a b g i j (i + j) + a i * b j) = zap1 n a b g i (j + 1) := by
  funext k
  unfold zu
  by_cases hk : k = i + j
  · rw [if_pos hk, hk]
    unfold zap1
    rw [if_neg (by omega), if_pos (by omega), show (i : Int) + j - i = j by omega]
  · rw [if_neg hk]
    unfold zap1
    by_cases h2 : (i : Int) ≤ k ∧ k < i + j
    · rw [if_pos h2, if_pos (by omega)]
    · rw [if_neg h2, if_neg (by omega)]
theorem zap2_0 {n : Nat} {a b g : Int → Int} {i : Nat} (h : i ≤ n) : zap2 n a b g i (n - i) = zap1 n a b g i (n - i) := by
  funext k
  unfold zap2 zap1
  by_cases h2 : (i : Int) ≤ k ∧ k < n
  · rw [if_pos h2, if_pos (by omega)]
  · rw [if_neg h2, if_neg (by omega), if_neg (by omega)]
theorem zap2_s {n : Nat} {a b g : Int → Int} {i j : Nat} (h1 : n - i ≤ j) (h2 : j < n) (h3 : i < n) : zu (zap2 n a b g i j) (i + j - n) (zap2 n a b g i j (i + j - n) - a i * b j) = zap2 n a b g i (j + 1) := by
  funext k
  unfold zu
  by_cases hk : k = (i : Int) + j - n
  · rw [if_pos hk, hk]
    unfold zap2
    rw [if_neg (by omega), if_neg (by omega), if_neg (by omega), if_pos (by omega), show (n : Int) + ((i : Int) + j - n) - i = j by omega]
  · rw [if_neg hk]
    unfold zap2
    by_cases h4 : (i : Int) ≤ k ∧ k < n
    · rw [if_pos h4, if_pos h4]
    · rw [if_neg h4, if_neg h4]
      by_cases h5 : 0 ≤ k ∧ k < (i : Int) + j - n
      · rw [if_pos h5, if_pos (by omega)]
      · rw [if_neg h5, if_neg (by omega)]
theorem zap2_n {n : Nat} {a b g : Int → Int} {i : Nat} (h : i < n) : zap2 n a b g i n = zap n a b g (i + 1) := by
  funext k
  unfold zap2 zap
  by_cases h1 : 0 ≤ k ∧ k < (n : Int)
  · rw [if_pos h1, if_pos h1]
    show _ = g k + (zcp n a b k i + _)
    by_cases h2 : (i : Int) ≤ k
    · rw [if_pos ⟨h2, h1.2⟩, if_pos h2]
      omega
    · rw [if_neg (by omega), if_pos (by omega), if_neg h2]
      omega
  · rw [if_neg h1, if_neg h1, if_neg (by omega), if_neg (by omega)]
/-! CHANCE -/
def zlc (c : Int32) : Int32 := 1664525 * c + 1013904223
def zlcN (c : Int32) : Nat → Int32
  | 0 => c
  | n + 1 => zlc (zlcN c n)
def zup (c : Int32) : Int := ((c.toUInt32 >>> 16).toInt32).toInt
theorem zup_b (c : Int32) : 0 ≤ zup c ∧ zup c < 65536 := by
  unfold zup
  have h : (c.toUInt32 >>> 16).toNat < 65536 := by
    rw [UInt32.toNat_shiftRight]
    have := c.toUInt32.toNat_lt
    simp [Nat.shiftRight_eq_div_pow]
    omega
  have h2 : ((c.toUInt32 >>> 16).toInt32).toInt = ((c.toUInt32 >>> 16).toNat : Int) := by
    show (c.toUInt32 >>> 16).toBitVec.toInt = _
    rw [BitVec.toInt_eq_toNat_of_lt]
    · rfl
    · show 2 * (c.toUInt32 >>> 16).toNat < _
      omega
  rw [h2]
  omega
theorem zup_of (c : Int32) : (c.toUInt32 >>> 16).toInt32 = Int32.ofInt (zup c) := (Int32.ofInt_toInt _).symm
end
section
abbrev M_X_init : zM := (⟨"RingCipher", "<init>", "()V"⟩, prog_1_method_1_code, 2, (Option.none : Option Jvm.ClassFile.FieldType), [])
abbrev M_Object_init : zM := (⟨"java/lang/Object", "<init>", "()V"⟩, object_method_1_code, 1, (Option.none : Option Jvm.ClassFile.FieldType), [])
abbrev M_Ring_init : zM := (⟨"RingCipher$Ring", "<init>", "()V"⟩, prog_5_method_1_code, 1, (Option.none : Option Jvm.ClassFile.FieldType), [])
abbrev M_Ring_choose : zM := (⟨"RingCipher$Ring", "choose", "(I)V"⟩, prog_5_method_2_code, 5, (Option.none : Option Jvm.ClassFile.FieldType), [])
abbrev M_Ring_leastRoot : zM := (⟨"RingCipher$Ring", "leastRoot", "()I"⟩, prog_5_method_3_code, 2, (Option.some Jvm.ClassFile.FieldType.int), [])
abbrev M_Ring_powerModT : zM := (⟨"RingCipher$Ring", "powerModT", "(JI)J"⟩, prog_5_method_4_code, 7, (Option.some Jvm.ClassFile.FieldType.long), [])
abbrev M_Chance_init : zM := (⟨"RingCipher$Chance", "<init>", "()V"⟩, prog_2_method_1_code, 1, (Option.none : Option Jvm.ClassFile.FieldType), [])
abbrev M_KeyRing_init : zM := (⟨"RingCipher$KeyRing", "<init>", "()V"⟩, prog_4_method_1_code, 2, (Option.none : Option Jvm.ClassFile.FieldType), [])
abbrev M_SwitchKey_init : zM := (⟨"RingCipher$SwitchKey", "<init>", "()V"⟩, prog_6_method_1_code, 1, (Option.none : Option Jvm.ClassFile.FieldType), [])
abbrev M_Cipher_init : zM := (⟨"RingCipher$Cipher", "<init>", "()V"⟩, prog_3_method_1_code, 1, (Option.none : Option Jvm.ClassFile.FieldType), [])
abbrev M_X_keys : zM := (⟨"RingCipher", "keys", "()I"⟩, prog_1_method_3_code, 1, (Option.some Jvm.ClassFile.FieldType.int), [])
abbrev M_KeyRing_renew : zM := (⟨"RingCipher$KeyRing", "renew", "(LRingCipher$Ring;LRingCipher$Chance;)V"⟩, prog_4_method_3_code, 3, (Option.none : Option Jvm.ClassFile.FieldType), [])
abbrev M_Chance_fillTernary : zM := (⟨"RingCipher$Chance", "fillTernary", "([JI)V"⟩, prog_2_method_5_code, 4, (Option.none : Option Jvm.ClassFile.FieldType), [])
abbrev M_Chance_draw : zM := (⟨"RingCipher$Chance", "draw", "()I"⟩, prog_2_method_4_code, 1, (Option.some Jvm.ClassFile.FieldType.int), [])
abbrev M_Arrays_fill : zM := (⟨"java/util/Arrays", "fill", "([JJ)V"⟩, prog_18_method_101_code, 5, (Option.none : Option Jvm.ClassFile.FieldType), [])
abbrev M_Ring_addProduct : zM := (⟨"RingCipher$Ring", "addProduct", "([J[J[J)V"⟩, prog_5_method_9_code, 8, (Option.none : Option Jvm.ClassFile.FieldType), [])
abbrev M_KeyRing_makeMask : zM := (⟨"RingCipher$KeyRing", "makeMask", "(LRingCipher$Ring;LRingCipher$Chance;[J)V"⟩, prog_4_method_7_code, 4, (Option.none : Option Jvm.ClassFile.FieldType), [])
abbrev M_Chance_fillUniform : zM := (⟨"RingCipher$Chance", "fillUniform", "([JI)V"⟩, prog_2_method_7_code, 6, (Option.none : Option Jvm.ClassFile.FieldType), [])
abbrev M_Chance_fillErrors : zM := (⟨"RingCipher$Chance", "fillErrors", "([JI)V"⟩, prog_2_method_6_code, 5, (Option.none : Option Jvm.ClassFile.FieldType), [])
abbrev M_Integer_bitCount : zM := (⟨"java/lang/Integer", "bitCount", "(I)I"⟩, prog_12_method_49_code, 1, (Option.some Jvm.ClassFile.FieldType.int), [])
abbrev M_KeyRing_hideBody : zM := (⟨"RingCipher$KeyRing", "hideBody", "(LRingCipher$Ring;[J)V"⟩, prog_4_method_8_code, 4, (Option.none : Option Jvm.ClassFile.FieldType), [])
abbrev M_Math_floorMod_JJ : zM := (⟨"java/lang/Math", "floorMod", "(JJ)J"⟩, prog_13_method_52_code, 6, (Option.some Jvm.ClassFile.FieldType.long), [])
abbrev M_KeyRing_makeSwitch : zM := (⟨"RingCipher$KeyRing", "makeSwitch", "(LRingCipher$Ring;LRingCipher$Chance;LRingCipher$SwitchKey;[J)V"⟩, prog_4_method_6_code, 6, (Option.none : Option Jvm.ClassFile.FieldType), [])
abbrev M_Ring_addScaled : zM := (⟨"RingCipher$Ring", "addScaled", "([J[JJ)V"⟩, prog_5_method_10_code, 6, (Option.none : Option Jvm.ClassFile.FieldType), [])
abbrev M_X_emptyCiphers : zM := (⟨"RingCipher", "emptyCiphers", "()V"⟩, prog_1_method_22_code, 2, (Option.none : Option Jvm.ClassFile.FieldType), [])
abbrev M_X_count : zM := (⟨"RingCipher", "count", "(I)I"⟩, prog_1_method_17_code, 2, (Option.some Jvm.ClassFile.FieldType.int), [])
abbrev M_X_fullCiphers : zM := (⟨"RingCipher", "fullCiphers", "()I"⟩, prog_1_method_23_code, 3, (Option.some Jvm.ClassFile.FieldType.int), [])
abbrev M_Chance_upperHalf : zM := (⟨"RingCipher$Chance", "upperHalf", "()I"⟩, prog_2_method_3_code, 1, (Option.some Jvm.ClassFile.FieldType.int), [])
abbrev M_Law_begin : zM := (⟨"RingCipherLaw", "begin", "(LRingCipher;II[J)I"⟩, method_3_code, 5, (Option.some Jvm.ClassFile.FieldType.int), [((0 : Nat), (10 : Nat), (13 : Nat), (13 : Nat))])
abbrev M_X_begin : zM := (⟨"RingCipher", "begin", "(II)I"⟩, prog_1_method_2_code, 4, (Option.some Jvm.ClassFile.FieldType.int), [])
abbrev M_Throwable_init_ : zM := (⟨"java/lang/Throwable", "<init>", "()V"⟩, prog_17_method_1_code, 1, (Option.none : Option Jvm.ClassFile.FieldType), [])
abbrev M_IllegalArgumentException_init : zM := (⟨"java/lang/IllegalArgumentException", "<init>", "(Ljava/lang/String;)V"⟩, prog_10_method_2_code, 2, (Option.none : Option Jvm.ClassFile.FieldType), [])
abbrev M_RuntimeException_init : zM := (⟨"java/lang/RuntimeException", "<init>", "(Ljava/lang/String;)V"⟩, prog_14_method_2_code, 2, (Option.none : Option Jvm.ClassFile.FieldType), [])
abbrev M_Exception_init : zM := (⟨"java/lang/Exception", "<init>", "(Ljava/lang/String;)V"⟩, prog_9_method_2_code, 2, (Option.none : Option Jvm.ClassFile.FieldType), [])
abbrev M_Throwable_init_Ljavalan : zM := (⟨"java/lang/Throwable", "<init>", "(Ljava/lang/String;)V"⟩, prog_17_method_2_code, 2, (Option.none : Option Jvm.ClassFile.FieldType), [])
abbrev M_Chance_restart : zM := (⟨"RingCipher$Chance", "restart", "(I)V"⟩, prog_2_method_2_code, 2, (Option.none : Option Jvm.ClassFile.FieldType), [])
abbrev M_KeyRing_forget : zM := (⟨"RingCipher$KeyRing", "forget", "()V"⟩, prog_4_method_2_code, 1, (Option.none : Option Jvm.ClassFile.FieldType), [])
abbrev M_Law_turnKey : zM := (⟨"RingCipherLaw", "turnKey", "(LRingCipher;I[J)I"⟩, method_4_code, 4, (Option.some Jvm.ClassFile.FieldType.int), [((0 : Nat), (9 : Nat), (12 : Nat), (13 : Nat)), ((0 : Nat), (9 : Nat), (15 : Nat), (19 : Nat))])
abbrev M_X_turnKey : zM := (⟨"RingCipher", "turnKey", "(I)I"⟩, prog_1_method_4_code, 3, (Option.some Jvm.ClassFile.FieldType.int), [])
abbrev M_IllegalStateException_init : zM := (⟨"java/lang/IllegalStateException", "<init>", "(Ljava/lang/String;)V"⟩, prog_11_method_2_code, 2, (Option.none : Option Jvm.ClassFile.FieldType), [])
abbrev M_KeyRing_placeOfTurn : zM := (⟨"RingCipher$KeyRing", "placeOfTurn", "(I)I"⟩, prog_4_method_4_code, 3, (Option.some Jvm.ClassFile.FieldType.int), [])
abbrev M_KeyRing_makeTurn : zM := (⟨"RingCipher$KeyRing", "makeTurn", "(LRingCipher$Ring;LRingCipher$Chance;II)V"⟩, prog_4_method_5_code, 5, (Option.none : Option Jvm.ClassFile.FieldType), [])
abbrev M_Ring_substitute : zM := (⟨"RingCipher$Ring", "substitute", "([J[JI)V"⟩, prog_5_method_14_code, 6, (Option.none : Option Jvm.ClassFile.FieldType), [])
abbrev M_Math_max_II : zM := (⟨"java/lang/Math", "max", "(II)I"⟩, prog_13_method_65_code, 2, (Option.some Jvm.ClassFile.FieldType.int), [])
abbrev M_Law_set : zM := (⟨"RingCipherLaw", "set", "(LRingCipher;III[J)I"⟩, method_5_code, 6, (Option.some Jvm.ClassFile.FieldType.int), [((0 : Nat), (12 : Nat), (15 : Nat), (25 : Nat))])
abbrev M_X_set : zM := (⟨"RingCipher", "set", "(III)I"⟩, prog_1_method_5_code, 7, (Option.some Jvm.ClassFile.FieldType.int), [])
abbrev M_X_plainAt : zM := (⟨"RingCipher", "plainAt", "(I)[J"⟩, prog_1_method_18_code, 2, (Option.some (Jvm.ClassFile.FieldType.array Jvm.ClassFile.FieldType.long)), [])
abbrev M_NoSuchElementException_init : zM := (⟨"java/util/NoSuchElementException", "<init>", "(Ljava/lang/String;)V"⟩, prog_19_method_4_code, 2, (Option.none : Option Jvm.ClassFile.FieldType), [])
abbrev M_X_checkCoefficient : zM := (⟨"RingCipher", "checkCoefficient", "(I)V"⟩, prog_1_method_21_code, 2, (Option.none : Option Jvm.ClassFile.FieldType), [])
abbrev M_Math_floorMod_II : zM := (⟨"java/lang/Math", "floorMod", "(II)I"⟩, prog_13_method_50_code, 3, (Option.some Jvm.ClassFile.FieldType.int), [])
abbrev M_Law_get : zM := (⟨"RingCipherLaw", "get", "(LRingCipher;II[J)I"⟩, method_6_code, 5, (Option.some Jvm.ClassFile.FieldType.int), [((0 : Nat), (10 : Nat), (13 : Nat), (25 : Nat))])
abbrev M_X_get : zM := (⟨"RingCipher", "get", "(II)I"⟩, prog_1_method_6_code, 4, (Option.some Jvm.ClassFile.FieldType.int), [])
abbrev M_Law_batch : zM := (⟨"RingCipherLaw", "batch", "(LRingCipher;IZ[J)I"⟩, method_7_code, 5, (Option.some Jvm.ClassFile.FieldType.int), [((0 : Nat), (10 : Nat), (13 : Nat), (25 : Nat))])
abbrev M_X_batch : zM := (⟨"RingCipher", "batch", "(IZ)I"⟩, prog_1_method_7_code, 4, (Option.some Jvm.ClassFile.FieldType.int), [])
abbrev M_Ring_evaluate : zM := (⟨"RingCipher$Ring", "evaluate", "([J[J)V"⟩, prog_5_method_7_code, 7, (Option.none : Option Jvm.ClassFile.FieldType), [])
abbrev M_Ring_interpolate : zM := (⟨"RingCipher$Ring", "interpolate", "([J[J)V"⟩, prog_5_method_8_code, 9, (Option.none : Option Jvm.ClassFile.FieldType), [])
abbrev M_Law_seal : zM := (⟨"RingCipherLaw", "seal", "(LRingCipher;II[J)I"⟩, method_8_code, 5, (Option.some Jvm.ClassFile.FieldType.int), [((0 : Nat), (10 : Nat), (13 : Nat), (25 : Nat)), ((0 : Nat), (10 : Nat), (17 : Nat), (19 : Nat))])
abbrev M_X_seal : zM := (⟨"RingCipher", "seal", "(II)I"⟩, prog_1_method_8_code, 6, (Option.some Jvm.ClassFile.FieldType.int), [])
abbrev M_X_placeAt : zM := (⟨"RingCipher", "placeAt", "(I)LRingCipher$Cipher;"⟩, prog_1_method_19_code, 2, (Option.some (Jvm.ClassFile.FieldType.object "RingCipher$Cipher")), [])
abbrev M_Ring_scale : zM := (⟨"RingCipher$Ring", "scale", "()J"⟩, prog_5_method_5_code, 1, (Option.some Jvm.ClassFile.FieldType.long), [])
abbrev M_X_storeTwoParts : zM := (⟨"RingCipher", "storeTwoParts", "(LRingCipher$Cipher;)I"⟩, prog_1_method_30_code, 2, (Option.some Jvm.ClassFile.FieldType.int), [])
abbrev M_X_storeSums : zM := (⟨"RingCipher", "storeSums", "(LRingCipher$Cipher;I)V"⟩, prog_1_method_29_code, 4, (Option.none : Option Jvm.ClassFile.FieldType), [])
abbrev M_Ring_reduce : zM := (⟨"RingCipher$Ring", "reduce", "([J[J)V"⟩, prog_5_method_12_code, 4, (Option.none : Option Jvm.ClassFile.FieldType), [])
abbrev M_X_phaseOf : zM := (⟨"RingCipher", "phaseOf", "(LRingCipher$Cipher;)[J"⟩, prog_1_method_31_code, 3, (Option.some (Jvm.ClassFile.FieldType.array Jvm.ClassFile.FieldType.long)), [])
abbrev M_KeyRing_findPhase : zM := (⟨"RingCipher$KeyRing", "findPhase", "(LRingCipher$Ring;[JLRingCipher$Cipher;)V"⟩, prog_4_method_9_code, 4, (Option.none : Option Jvm.ClassFile.FieldType), [])
abbrev M_Ring_copy : zM := (⟨"RingCipher$Ring", "copy", "([J[J)V"⟩, prog_5_method_11_code, 3, (Option.none : Option Jvm.ClassFile.FieldType), [])
abbrev M_Ring_centre : zM := (⟨"RingCipher$Ring", "centre", "([J[J)V"⟩, prog_5_method_13_code, 4, (Option.none : Option Jvm.ClassFile.FieldType), [])
abbrev M_X_centred : zM := (⟨"RingCipher", "centred", "(J)J"⟩, prog_1_method_34_code, 4, (Option.some Jvm.ClassFile.FieldType.long), [])
abbrev M_X_noiseIn : zM := (⟨"RingCipher", "noiseIn", "([J)J"⟩, prog_1_method_32_code, 5, (Option.some Jvm.ClassFile.FieldType.long), [])
abbrev M_Math_abs : zM := (⟨"java/lang/Math", "abs", "(J)J"⟩, prog_13_method_61_code, 2, (Option.some Jvm.ClassFile.FieldType.long), [])
abbrev M_Math_max_JJ : zM := (⟨"java/lang/Math", "max", "(JJ)J"⟩, prog_13_method_66_code, 4, (Option.some Jvm.ClassFile.FieldType.long), [])
abbrev M_X_budgetOf : zM := (⟨"RingCipher", "budgetOf", "(J)I"⟩, prog_1_method_33_code, 3, (Option.some Jvm.ClassFile.FieldType.int), [])
abbrev M_Law_open : zM := (⟨"RingCipherLaw", "open", "(LRingCipher;II[J)I"⟩, method_9_code, 5, (Option.some Jvm.ClassFile.FieldType.int), [((0 : Nat), (10 : Nat), (13 : Nat), (25 : Nat))])
abbrev M_X_open : zM := (⟨"RingCipher", "open", "(II)I"⟩, prog_1_method_9_code, 7, (Option.some Jvm.ClassFile.FieldType.int), [])
abbrev M_X_takenAt : zM := (⟨"RingCipher", "takenAt", "(I)LRingCipher$Cipher;"⟩, prog_1_method_20_code, 3, (Option.some (Jvm.ClassFile.FieldType.object "RingCipher$Cipher")), [])
abbrev M_Ring_timesTOverQ : zM := (⟨"RingCipher$Ring", "timesTOverQ", "(J)J"⟩, prog_5_method_6_code, 7, (Option.some Jvm.ClassFile.FieldType.long), [])
abbrev M_Math_floorDiv : zM := (⟨"java/lang/Math", "floorDiv", "(JJ)J"⟩, prog_13_method_49_code, 6, (Option.some Jvm.ClassFile.FieldType.long), [])
abbrev M_Law_join : zM := (⟨"RingCipherLaw", "join", "(LRingCipher;IIII[J)I"⟩, method_10_code, 7, (Option.some Jvm.ClassFile.FieldType.int), [((0 : Nat), (14 : Nat), (17 : Nat), (25 : Nat)), ((0 : Nat), (14 : Nat), (21 : Nat), (13 : Nat)), ((0 : Nat), (14 : Nat), (25 : Nat), (19 : Nat))])
abbrev M_X_join : zM := (⟨"RingCipher", "join", "(IIII)I"⟩, prog_1_method_10_code, 8, (Option.some Jvm.ClassFile.FieldType.int), [])
abbrev M_X_multiply : zM := (⟨"RingCipher", "multiply", "(LRingCipher$Cipher;LRingCipher$Cipher;LRingCipher$Cipher;)V"⟩, prog_1_method_25_code, 6, (Option.none : Option Jvm.ClassFile.FieldType), [])
abbrev M_X_combine : zM := (⟨"RingCipher", "combine", "(LRingCipher$Cipher;LRingCipher$Cipher;LRingCipher$Cipher;J)V"⟩, prog_1_method_24_code, 8, (Option.none : Option Jvm.ClassFile.FieldType), [])
abbrev M_Law_plain : zM := (⟨"RingCipherLaw", "plain", "(LRingCipher;IIII[J)I"⟩, method_11_code, 7, (Option.some Jvm.ClassFile.FieldType.int), [((0 : Nat), (14 : Nat), (17 : Nat), (25 : Nat)), ((0 : Nat), (14 : Nat), (21 : Nat), (13 : Nat))])
abbrev M_X_plain : zM := (⟨"RingCipher", "plain", "(IIII)I"⟩, prog_1_method_11_code, 8, (Option.some Jvm.ClassFile.FieldType.int), [])
abbrev M_X_addPlain : zM := (⟨"RingCipher", "addPlain", "(LRingCipher$Cipher;LRingCipher$Cipher;[J)V"⟩, prog_1_method_26_code, 5, (Option.none : Option Jvm.ClassFile.FieldType), [])
abbrev M_X_multiplyByPlain : zM := (⟨"RingCipher", "multiplyByPlain", "(LRingCipher$Cipher;LRingCipher$Cipher;[J)V"⟩, prog_1_method_27_code, 5, (Option.none : Option Jvm.ClassFile.FieldType), [])
abbrev M_Law_shrink : zM := (⟨"RingCipherLaw", "shrink", "(LRingCipher;II[J)I"⟩, method_12_code, 5, (Option.some Jvm.ClassFile.FieldType.int), [((0 : Nat), (10 : Nat), (13 : Nat), (25 : Nat)), ((0 : Nat), (10 : Nat), (17 : Nat), (19 : Nat))])
abbrev M_X_shrink : zM := (⟨"RingCipher", "shrink", "(II)I"⟩, prog_1_method_12_code, 5, (Option.some Jvm.ClassFile.FieldType.int), [])
abbrev M_X_applySwitch : zM := (⟨"RingCipher", "applySwitch", "(LRingCipher$SwitchKey;[J)V"⟩, prog_1_method_28_code, 6, (Option.none : Option Jvm.ClassFile.FieldType), [])
abbrev M_Law_turn : zM := (⟨"RingCipherLaw", "turn", "(LRingCipher;III[J)I"⟩, method_13_code, 6, (Option.some Jvm.ClassFile.FieldType.int), [((0 : Nat), (12 : Nat), (15 : Nat), (25 : Nat)), ((0 : Nat), (12 : Nat), (19 : Nat), (19 : Nat))])
abbrev M_X_turn : zM := (⟨"RingCipher", "turn", "(III)I"⟩, prog_1_method_13_code, 8, (Option.some Jvm.ClassFile.FieldType.int), [])
abbrev M_Law_part : zM := (⟨"RingCipherLaw", "part", "(LRingCipher;III[J)I"⟩, method_14_code, 6, (Option.some Jvm.ClassFile.FieldType.int), [((0 : Nat), (12 : Nat), (15 : Nat), (25 : Nat))])
abbrev M_X_part : zM := (⟨"RingCipher", "part", "(III)I"⟩, prog_1_method_14_code, 5, (Option.some Jvm.ClassFile.FieldType.int), [])
abbrev M_Law_about : zM := (⟨"RingCipherLaw", "about", "(LRingCipher;II[J)I"⟩, method_15_code, 5, (Option.some Jvm.ClassFile.FieldType.int), [((0 : Nat), (10 : Nat), (13 : Nat), (25 : Nat)), ((0 : Nat), (10 : Nat), (17 : Nat), (13 : Nat))])
abbrev M_X_about : zM := (⟨"RingCipher", "about", "(II)I"⟩, prog_1_method_15_code, 4, (Option.some Jvm.ClassFile.FieldType.int), [])
abbrev M_Law_drop : zM := (⟨"RingCipherLaw", "drop", "(LRingCipher;I[J)I"⟩, method_16_code, 4, (Option.some Jvm.ClassFile.FieldType.int), [((0 : Nat), (9 : Nat), (12 : Nat), (25 : Nat))])
abbrev M_X_drop : zM := (⟨"RingCipher", "drop", "(I)I"⟩, prog_1_method_16_code, 4, (Option.some Jvm.ClassFile.FieldType.int), [])
abbrev M_Ref_init : zM := (⟨"RingCipherModel", "<init>", "()V"⟩, prog_8_method_1_code, 1, (Option.none : Option Jvm.ClassFile.FieldType), [])
abbrev M_Ref_thrown : zM := (⟨"RingCipherModel", "thrown", "()I"⟩, prog_8_method_2_code, 1, (Option.some Jvm.ClassFile.FieldType.int), [])
abbrev M_Ref_begin : zM := (⟨"RingCipherModel", "begin", "(II)I"⟩, prog_8_method_15_code, 4, (Option.some Jvm.ClassFile.FieldType.int), [])
abbrev M_Ref_empty_ : zM := (⟨"RingCipherModel", "empty", "()V"⟩, prog_8_method_14_code, 2, (Option.none : Option Jvm.ClassFile.FieldType), [])
abbrev M_Ref_keys : zM := (⟨"RingCipherModel", "keys", "()I"⟩, prog_8_method_16_code, 2, (Option.some Jvm.ClassFile.FieldType.int), [])
abbrev M_Ref_ternary : zM := (⟨"RingCipherModel", "ternary", "([J)V"⟩, prog_8_method_10_code, 3, (Option.none : Option Jvm.ClassFile.FieldType), [])
abbrev M_Ref_draw : zM := (⟨"RingCipherModel", "draw", "()I"⟩, prog_8_method_9_code, 1, (Option.some Jvm.ClassFile.FieldType.int), [])
abbrev M_Ref_uniform : zM := (⟨"RingCipherModel", "uniform", "([J)V"⟩, prog_8_method_12_code, 5, (Option.none : Option Jvm.ClassFile.FieldType), [])
abbrev M_Ref_error : zM := (⟨"RingCipherModel", "error", "([J)V"⟩, prog_8_method_11_code, 4, (Option.none : Option Jvm.ClassFile.FieldType), [])
abbrev M_Ref_reduced : zM := (⟨"RingCipherModel", "reduced", "([J[J[J)V"⟩, prog_8_method_8_code, 11, (Option.none : Option Jvm.ClassFile.FieldType), [])
abbrev M_Ref_of : zM := (⟨"RingCipherModel", "of", "(J)J"⟩, prog_8_method_4_code, 4, (Option.some Jvm.ClassFile.FieldType.long), [])
abbrev M_Ref_product : zM := (⟨"RingCipherModel", "product", "([J[J[J)V"⟩, prog_8_method_6_code, 8, (Option.none : Option Jvm.ClassFile.FieldType), [])
abbrev M_Ref_pairs : zM := (⟨"RingCipherModel", "pairs", "(I)V"⟩, prog_8_method_13_code, 6, (Option.none : Option Jvm.ClassFile.FieldType), [])
abbrev M_Ref_turnKey : zM := (⟨"RingCipherModel", "turnKey", "(I)I"⟩, prog_8_method_19_code, 3, (Option.some Jvm.ClassFile.FieldType.int), [])
abbrev M_Ref_fail : zM := (⟨"RingCipherModel", "fail", "(I)I"⟩, prog_8_method_3_code, 2, (Option.some Jvm.ClassFile.FieldType.int), [])
abbrev M_Ref_find : zM := (⟨"RingCipherModel", "find", "(I)I"⟩, prog_8_method_17_code, 3, (Option.some Jvm.ClassFile.FieldType.int), [])
abbrev M_Ref_turned : zM := (⟨"RingCipherModel", "turned", "([JI[J)V"⟩, prog_8_method_18_code, 6, (Option.none : Option Jvm.ClassFile.FieldType), [])
abbrev M_Ref_set : zM := (⟨"RingCipherModel", "set", "(III)I"⟩, prog_8_method_23_code, 6, (Option.some Jvm.ClassFile.FieldType.int), [])
abbrev M_Ref_noPlain : zM := (⟨"RingCipherModel", "noPlain", "(I)Z"⟩, prog_8_method_20_code, 1, (Option.some Jvm.ClassFile.FieldType.boolean), [])
abbrev M_Ref_get : zM := (⟨"RingCipherModel", "get", "(II)I"⟩, prog_8_method_24_code, 3, (Option.some Jvm.ClassFile.FieldType.int), [])
abbrev M_Ref_batch : zM := (⟨"RingCipherModel", "batch", "(IZ)I"⟩, prog_8_method_27_code, 9, (Option.some Jvm.ClassFile.FieldType.int), [])
abbrev M_Ref_root : zM := (⟨"RingCipherModel", "root", "()I"⟩, prog_8_method_26_code, 2, (Option.some Jvm.ClassFile.FieldType.int), [])
abbrev M_Ref_power : zM := (⟨"RingCipherModel", "power", "(II)I"⟩, prog_8_method_25_code, 5, (Option.some Jvm.ClassFile.FieldType.int), [])
abbrev M_Ref_seal : zM := (⟨"RingCipherModel", "seal", "(II)I"⟩, prog_8_method_30_code, 4, (Option.some Jvm.ClassFile.FieldType.int), [])
abbrev M_Ref_noCipher : zM := (⟨"RingCipherModel", "noCipher", "(I)Z"⟩, prog_8_method_21_code, 1, (Option.some Jvm.ClassFile.FieldType.boolean), [])
abbrev M_Ref_put : zM := (⟨"RingCipherModel", "put", "(II[J)V"⟩, prog_8_method_29_code, 5, (Option.none : Option Jvm.ClassFile.FieldType), [])
abbrev M_Ref_budget : zM := (⟨"RingCipherModel", "budget", "(I)I"⟩, prog_8_method_33_code, 5, (Option.some Jvm.ClassFile.FieldType.int), [])
abbrev M_Ref_noise : zM := (⟨"RingCipherModel", "noise", "(I)J"⟩, prog_8_method_32_code, 7, (Option.some Jvm.ClassFile.FieldType.long), [])
abbrev M_Ref_phase : zM := (⟨"RingCipherModel", "phase", "(I)V"⟩, prog_8_method_31_code, 3, (Option.none : Option Jvm.ClassFile.FieldType), [])
abbrev M_Ref_take : zM := (⟨"RingCipherModel", "take", "(II[J)V"⟩, prog_8_method_28_code, 5, (Option.none : Option Jvm.ClassFile.FieldType), [])
abbrev M_Ref_centred : zM := (⟨"RingCipherModel", "centred", "(J)J"⟩, prog_8_method_5_code, 4, (Option.some Jvm.ClassFile.FieldType.long), [])
abbrev M_Ref_open : zM := (⟨"RingCipherModel", "open", "(II)I"⟩, prog_8_method_35_code, 7, (Option.some Jvm.ClassFile.FieldType.int), [])
abbrev M_Ref_empty_I : zM := (⟨"RingCipherModel", "empty", "(I)Z"⟩, prog_8_method_22_code, 2, (Option.some Jvm.ClassFile.FieldType.boolean), [])
abbrev M_Ref_scaled : zM := (⟨"RingCipherModel", "scaled", "(J)J"⟩, prog_8_method_34_code, 7, (Option.some Jvm.ClassFile.FieldType.long), [])
abbrev M_Ref_join : zM := (⟨"RingCipherModel", "join", "(IIII)I"⟩, prog_8_method_37_code, 9, (Option.some Jvm.ClassFile.FieldType.int), [])
abbrev M_Ref_centre : zM := (⟨"RingCipherModel", "centre", "(II[J)V"⟩, prog_8_method_36_code, 5, (Option.none : Option Jvm.ClassFile.FieldType), [])
abbrev M_Ref_plain : zM := (⟨"RingCipherModel", "plain", "(IIII)I"⟩, prog_8_method_38_code, 8, (Option.some Jvm.ClassFile.FieldType.int), [])
abbrev M_Ref_shrink : zM := (⟨"RingCipherModel", "shrink", "(II)I"⟩, prog_8_method_40_code, 4, (Option.some Jvm.ClassFile.FieldType.int), [])
abbrev M_Ref_applied : zM := (⟨"RingCipherModel", "applied", "(I)V"⟩, prog_8_method_39_code, 5, (Option.none : Option Jvm.ClassFile.FieldType), [])
abbrev M_Ref_turn : zM := (⟨"RingCipherModel", "turn", "(III)I"⟩, prog_8_method_41_code, 5, (Option.some Jvm.ClassFile.FieldType.int), [])
abbrev M_Ref_reduce : zM := (⟨"RingCipherModel", "reduce", "([J)V"⟩, prog_8_method_7_code, 3, (Option.none : Option Jvm.ClassFile.FieldType), [])
abbrev M_Ref_part : zM := (⟨"RingCipherModel", "part", "(III)I"⟩, prog_8_method_42_code, 4, (Option.some Jvm.ClassFile.FieldType.int), [])
abbrev M_Ref_about : zM := (⟨"RingCipherModel", "about", "(II)I"⟩, prog_8_method_43_code, 3, (Option.some Jvm.ClassFile.FieldType.int), [])
abbrev M_Ref_drop : zM := (⟨"RingCipherModel", "drop", "(I)I"⟩, prog_8_method_44_code, 3, (Option.some Jvm.ClassFile.FieldType.int), [])
abbrev M_Ref_count : zM := (⟨"RingCipherModel", "count", "(I)I"⟩, prog_8_method_45_code, 4, (Option.some Jvm.ClassFile.FieldType.int), [])
theorem i_Chance : ∀ w ∈ u_ws R_Chance F_Chance 1, zin w := by decide +kernel
theorem i_Cipher : ∀ w ∈ u_ws R_Cipher F_Cipher 2, zin w := by decide +kernel
theorem i_KeyRing : ∀ w ∈ u_ws R_KeyRing F_KeyRing 10, zin w := by decide +kernel
theorem i_Ring : ∀ w ∈ u_ws R_Ring F_Ring 5, zin w := by decide +kernel
theorem i_SwitchKey : ∀ w ∈ u_ws R_SwitchKey F_SwitchKey 3, zin w := by decide +kernel
theorem i_X : ∀ w ∈ u_ws R_X F_X 7, zin w := by decide +kernel
theorem i_Ref : ∀ w ∈ u_ws R_Ref F_Ref 24, zin w := by decide +kernel
end
section
/-! making cells, statics, copying -/
theorem zouter (c : ClassId) (N h0 : Nat) : ∀ i : Nat, Jvm.Free.Multi.outerC c N h0 i = arrV c N (fun j => va_rf (if j < i then some (h0 + 1 + j) else none))
  | 0 => by
    show ({ cls := c, slots := Array.replicate N .null, vm := .none } : Cell) = _
    rw [arrV_new]
    exact congrArg (arrV c N) (funext fun j => by simp [va_rf])
  | i + 1 => by
    show (Jvm.Free.Multi.outerC c N h0 i).setSlot i (.ref (h0 + 1 + i)) = _
    rw [zouter c N h0 i, arrV_store]
    refine congrArg (arrV c N) (funext fun j => ?_)
    unfold updV
    by_cases h : j = i
    · subst h
      rw [if_pos rfl, if_pos (Nat.lt_succ_self j)]
      rfl
    · rw [if_neg h]
      show va_rf (if j < i then some (h0 + 1 + j) else none) = _
      by_cases h2 : j < i
      · rw [if_pos h2, if_pos (by omega)]
      · rw [if_neg h2, if_neg (by omega)]
section ZMk
variable {G : zG} {M : zM} {K : zK} {R : Room} {kc ks sz pc : Nat} {lo : List (Nat × Value)} {st : List Value} {w : zW}
theorem zS_new {G : zG} {s : State} {H H1 : Heap} {locs : List Loc} (hS : va_S (zA G) s.heap H locs) (h1 : H.size ≤ H1.size) (ho : ∀ q, q < H.size → H1[q]? = H[q]?) : va_S (zA G) s.heap H1 locs :=
  ⟨Nat.le_trans hS.1 h1, fun q a b => (ho q (Nat.lt_of_lt_of_le a hS.1)).trans (hS.2.1 q a b), hS.2.2⟩
theorem V_objInit {idx a : Nat} (d : decode M.2.1 pc = .ok (.invokespecial idx, 3)) (h1 : zin (.methodLink M.1.cls idx Lib.objectInit)) (h2 : zin (.instanceMethod Lib.objectInit)) (h3 : zin (.code Lib.objectInit ⟨#[0xb1]⟩ 1 none)) (hf : 1 ≤ R.frames) (hlo : (st.map fun v => v.category).sum + 12 ≤ R.locals)
    (k : V G M K R kc ks sz (pc + 3) lo st w) : V G M K R kc ks sz pc lo (.ref a :: st) w :=
  fun p l e s m args below meth c F ls H locs hl hw hS => W.objInit F.1 F.2.1 F.own (F.wd.use h1 _) (F.wd.use h2 _) (F.wd.use h3 _) rfl (by rw [F.ml]; exact hl.1) rfl d hf (by show 2 * 0 + _ + 12 ≤ _; omega) (k p l e s m args below meth c F ls H locs hl hw hS)
theorem V_new {ci idx N : Nat} {C : String} {T : u_T} {ty : Nat → FieldType} (fs : List Value) (d : decode M.2.1 pc = .ok (.new idx, 3)) (hcl : vwCl[ci]? = some (C, T, N)) (hk : zin (.classLink M.1.cls idx C)) (hi : zin (.instantiable C N)) (hini : zin (.initialized C)) (hts : ∀ q ∈ u_ws C T N, zin q)
    (hty : ∀ k, k < N → parseFieldDescriptor (T k).2.2.1 = some (ty k)) (hfs : ∀ j, j < N → defaultValue (ty j) = vp_V fs j) (hc : kc + 1 ≤ R.cells) (hs : ks + N ≤ R.slots)
    (k : V G M K R (kc + 1) (ks + N) (sz + 1) (pc + 3) lo (.ref sz :: st) (zset w sz (.inr (ci, fs)))) : V G M K R kc ks sz pc lo st w :=
  fun p l e s m args below meth c F ls H locs hl hw hS => by
    have hKn := F.kk.1 ci _ hcl
    refine W.newcK F.1 F.2.1 F.own (F.wd.use hk _) (F.wd.use hi _) (F.wd.use hini _) rfl d hc hs hKn.2.1 hw.1 fun H1 kC hkC e1 z1 o1 => ?_
    exact k p l e s m args below meth c F ls H1 locs hl (hw.new ⟨_, hcl, (u_born ty (fun q hq => F.wd.use (hts q hq) args) (fun _ hq => hq) hKn hkC e1 hty).to hfs⟩ z1 o1) (zS_new hS (by rw [z1, hw.1]; omega) (fun q hq => o1 q (by rw [← hw.1]; exact hq)))
theorem V_newl {n : Int32} {n' : Nat} (d : decode M.2.1 pc = .ok (.newarray .long, 2)) (ha : zin (.arrayClass .long)) (hn : ¬ n < 0) (hN : n.toNatClampNeg = n') (hb : n' * 8 ≤ 536870912) (hc : kc + 1 ≤ R.cells) (hs : ks + n' ≤ R.slots)
    (k : V G M K R (kc + 1) (ks + n') (sz + 1) (pc + 2) lo (.ref sz :: st) (zset w sz (zro G n' (fun _ => 0)))) : V G M K R kc ks sz pc lo (.int n :: st) w :=
  fun p l e s m args below meth c F ls H locs hl hw hS => by
    refine va_newaK (atype := .long) F.1 F.2.1 (F.wd.use ha _) rfl d rfl hn hN hb hc hs hw.1 fun H1 cA e1 z1 o1 hAr hNm => ?_
    have hRA : s.vm.findClass ("[" ++ FieldType.long.toString) = some (G.2.1 0) := (F.kk.2 0 _ rfl).2
    cases hNm.symm.trans hRA
    exact k p l e s m args below meth c F ls H1 locs hl (hw.new e1 z1 o1) (zS_new hS (by rw [z1, hw.1]; omega) (fun q hq => o1 q (by rw [← hw.1]; exact hq)))
theorem V_newi {n : Int32} {n' : Nat} (d : decode M.2.1 pc = .ok (.newarray .int, 2)) (ha : zin (.arrayClass .int)) (hn : ¬ n < 0) (hN : n.toNatClampNeg = n') (hb : n' * 4 ≤ 536870912) (hc : kc + 1 ≤ R.cells) (hs : ks + n' ≤ R.slots)
    (k : V G M K R (kc + 1) (ks + n') (sz + 1) (pc + 2) lo (.ref sz :: st) (zset w sz (zio G n' (fun _ => 0)))) : V G M K R kc ks sz pc lo (.int n :: st) w :=
  fun p l e s m args below meth c F ls H locs hl hw hS => by
    refine va_newaK (atype := .int) F.1 F.2.1 (F.wd.use ha _) rfl d rfl hn hN hb hc hs hw.1 fun H1 cA e1 z1 o1 hAr hNm => ?_
    have hRA : s.vm.findClass ("[" ++ FieldType.int.toString) = some (G.2.1 2) := (F.kk.2 2 _ rfl).2
    cases hNm.symm.trans hRA
    exact k p l e s m args below meth c F ls H1 locs hl (hw.new e1 z1 o1) (zS_new hS (by rw [z1, hw.1]; omega) (fun q hq => o1 q (by rw [← hw.1]; exact hq)))
theorem V_newr {n : Int32} {n' ka idx : Nat} {C : String} (d : decode M.2.1 pc = .ok (.anewarray idx, 3)) (ht : (zty G)[ka]? = some (G.2.1 ka, .object C)) (hk : zin (.classLink M.1.cls idx C)) (ho : zin (.arrayOver (.object C))) (hn : ¬ n < 0) (hN : n.toNatClampNeg = n') (hb : n' * 4 ≤ 536870912) (hc : kc + 1 ≤ R.cells) (hs : ks + n' ≤ R.slots)
    (k : V G M K R (kc + 1) (ks + n') (sz + 1) (pc + 3) lo (.ref sz :: st) (zset w sz (zrefs G ka n' (fun _ => none)))) : V G M K R kc ks sz pc lo (.int n :: st) w :=
  fun p l e s m args below meth c F ls H locs hl hw hS => by
    subst hN
    refine W.anew F.1 F.2.1 F.own (F.wd.use hk _) (F.wd.use ho _) rfl d rfl hn hb hc hs fun cA kA comp h1 h2 h3 h4 => ?_
    obtain ⟨kA', comp', -, -, -, hRA⟩ := (F.kk.2 ka _ ht).2
    cases h1.symm.trans hRA
    have hz := hw.1
    subst hz
    refine k p l e s m args below meth c F ls _ locs hl (hw.new (e := zrefs G ka n.toNatClampNeg (fun _ => none)) ?_ (by simp) (fun q hq => by rw [Array.getElem?_push_lt hq, Array.getElem?_eq_getElem hq])) (zS_new hS (by simp) (fun q hq => by rw [Array.getElem?_push_lt hq, Array.getElem?_eq_getElem hq]))
    show (H.push _)[H.size]? = some (vp_cell _ _)
    rw [Array.getElem?_push_size, vp_cell_q, ← arrV_new]
    rfl
theorem V_aastore {a n v ci ka : Nat} {C : String} {T : u_T} {N : Nat} {f : Nat → Option Nat} {i : Int32} {fs : List Value} (d : decode M.2.1 pc = .ok (.aastore, 1)) (h : w a = some (zrefs G ka n f)) (ht : (zty G)[ka]? = some (G.2.1 ka, .object C)) (hv : w v = some (.inr (ci, fs))) (hcl : vwCl[ci]? = some (C, T, N)) (hin : vp_in i n)
    (k : V G M K R kc ks sz (pc + 1) lo st (zset w a (zrefs G ka n (va_up f i.toNatClampNeg (some v))))) : V G M K R kc ks sz pc lo (.ref v :: .int i :: .ref a :: st) w :=
  fun p l e s m args below meth c F ls H locs hl hw hS => by
    have hlt : i.toNatClampNeg < n := Nat.not_le.mp fun q => hin (Or.inr q)
    have h0 : ¬ i < 0 := fun q => hin (Or.inl q)
    obtain ⟨r', hr', cellV, g1, g2, g3, -⟩ := hw.at hv
    have hcls := (F.kk.1 ci _ hcl).2
    obtain ⟨kA, comp, k1, k2, k3, -⟩ := (F.kk.2 ka _ ht).2
    have hcomp : comp = G.1.1 ci := Option.some.inj (k3.symm.trans hcls.1)
    subst hcomp
    obtain ⟨kC, hkC, -⟩ := hcls.2
    refine W.aast F.1 F.2.1 (hw.at h) (fun q h => by cases h) (fun h => by cases h) k1 k2 rfl hkC ⟨h0, by show _ < (arrV _ _ _).slots.size; rw [arrV_size]; exact hlt⟩ g1 (fun q h => by rw [g3] at h; cases h) (by rw [g2]; exact hkC) (by rw [g2]; exact va_assign hcls) rfl rfl d fun H1 e1 z oq => ?_
    refine k p l e s m args below meth c F ls H1 _ hl (hw.put h ?_ z oq) (hS.put z oq (hw.2.2 _ _ h).1)
    show H1[a]? = some (vp_cell _ _)
    rw [e1, vp_cell_q, vp_cell_q, arrV_store]
    congr 2
    funext q
    by_cases hq : q = i.toNatClampNeg
    · subst hq
      simp [updV, va_up, va_rf]
    · simp [updV, va_up, hq]
/-- the rows of a new array of rows -/
def zrws (G : zG) (w : zW) (a n k : Nat) : zW := fun q => if a ≤ q ∧ q < a + n then some (zro G k (fun _ => 0)) else w q
theorem V_mna {n k : Int32} {n' k' idx : Nat} (d : decode M.2.1 pc = .ok (.multianewarray idx 2, 4)) (hk : zin (.classLink M.1.cls idx "[[J")) (ho : zin (.arrayOver (.array .long))) (ha : zin (.arrayClass .long)) (hn : ¬ n < 0) (hk0 : ¬ k < 0) (hN : n.toNatClampNeg = n') (hK : k.toNatClampNeg = k') (hb1 : n' * 4 ≤ 536870912) (hb2 : k' * 8 ≤ 536870912)
    (hc : kc + (1 + n') ≤ R.cells) (hs : ks + (n' + n' * k') ≤ R.slots)
    (kk : V G M K R (kc + 1 + n') (ks + n' + n' * k') (sz + 1 + n') (pc + 4) lo (.ref sz :: st) (zset (zrws G w (sz + 1) n' k') sz (zrefs G 1 n' (fun i => if i < n' then some (sz + 1 + i) else none)))) : V G M K R kc ks sz pc lo (.int k :: .int n :: st) w :=
  fun p l e s m args below meth c F ls H locs hl hw hS => by
    subst hN
    subst hK
    have hz := hw.1
    subst hz
    intro T hT X
    obtain ⟨vm₁, cA, comp, -, fA, fC, hO, -, X', step⟩ := X.multianewarray2F F.1 (ty := .long) F.own (F.wd.use hk _) (F.wd.use ho _) (F.wd.use ha _) (g := F0 m pc ls (.int k :: .int n :: st)) rfl (by rw [F.2.1]; exact d) rfl hn hk0 hb1 hb2 (by omega) rfl rfl hc hs
    have hRA : s.vm.findClass ("[" ++ FieldType.long.toString) = some (G.2.1 0) := (F.kk.2 0 _ rfl).2
    have hRB : s.vm.findClass ("[" ++ (FieldType.array .long).toString) = some (G.2.1 1) := (F.kk.2 1 _ rfl).2
    cases fC.symm.trans hRA
    cases fA.symm.trans hRB
    have hTh : (T.setVm vm₁).heap = H := hT
    obtain ⟨f1, f2, -, -⟩ := Jvm.Free.Multi.fill_facts (T.setVm vm₁) (G.2.1 1) (G.2.1 0) n.toNatClampNeg k.toNatClampNeg (defaultValue .long) n.toNatClampNeg
    have hold : ∀ x : Nat, x < H.size → (Jvm.Free.Multi.fill (T.setVm vm₁) (G.2.1 1) (G.2.1 0) n.toNatClampNeg k.toNatClampNeg (defaultValue .long) n.toNatClampNeg).heap[x]? = H[x]? := fun x hx => by
      rw [Jvm.Free.Multi.fill_old (T.setVm vm₁) (G.2.1 1) (G.2.1 0) n.toNatClampNeg k.toNatClampNeg (defaultValue .long) (a := x) (by rw [hTh]; exact hx) n.toNatClampNeg, hTh]
    have hrow := Jvm.Free.Multi.fill_inner (T.setVm vm₁) (G.2.1 1) (G.2.1 0) n.toNatClampNeg k.toNatClampNeg (defaultValue .long) n.toNatClampNeg
    generalize Jvm.Free.Multi.fill (T.setVm vm₁) (G.2.1 1) (G.2.1 0) n.toNatClampNeg k.toNatClampNeg (defaultValue .long) n.toNatClampNeg = U at X' step f1 f2 hold hrow
    rw [hTh] at f1 f2 hrow
    have hB : G.2.2.1 ≤ H.size := hw.2.1
    have hH : zH G (zset (zrws G w (H.size + 1) n.toNatClampNeg k.toNatClampNeg) H.size (zrefs G 1 n.toNatClampNeg (fun i => if i < n.toNatClampNeg then some (H.size + 1 + i) else none))) (H.size + 1 + n.toNatClampNeg) U.heap := by
      refine ⟨f1, by omega, fun q x hx => ?_⟩
      unfold zset at hx
      by_cases h1 : q = H.size
      · rw [if_pos h1] at hx
        cases hx
        subst h1
        refine ⟨hB, ?_⟩
        show U.heap[H.size]? = some (vp_cell _ _)
        rw [f2, vp_cell_q]
        exact congrArg some (zouter _ _ _ _)
      · rw [if_neg h1] at hx
        unfold zrws at hx
        by_cases h2 : H.size + 1 ≤ q ∧ q < H.size + 1 + n.toNatClampNeg
        · rw [if_pos h2] at hx
          cases hx
          refine ⟨by show G.2.2.1 ≤ q; omega, ?_⟩
          have h3 := hrow (q - (H.size + 1)) (by omega)
          rw [show H.size + 1 + (q - (H.size + 1)) = q by omega] at h3
          show U.heap[q]? = some (vp_cell _ _)
          rw [h3, vp_cell_l, ← arrV_new]
          rfl
        · rw [if_neg h2] at hx
          have h3 := hw.2.2 q x hx
          exact ⟨h3.1, h3.2.kept (hold q h3.2.lt)⟩
    obtain ⟨t, a1, b1⟩ := kk p l e s m args below meth c F ls U.heap locs hl hH (zS_new hS (by rw [f1]; omega) hold) U rfl X'
    refine ⟨t, step t ?_, b1⟩
    rw [show T.heap.size = H.size by rw [hT]]
    exact a1
end ZMk
end
section
/-! statics, final fields, copying -/
section ZMo
variable {G : zG} {M : zM} {K : zK} {R : Room} {kc ks sz pc : Nat} {lo : List (Nat × Value)} {st : List Value} {w : zW}
def zGs (own : String) (idx : Nat) (n d : String) : Prop := zin (.fieldLink own idx "RingCipher" n d) ∨ ∃ host, zin (.fieldLinkNest own idx "RingCipher" n d host)
theorem V_getSz {idx : Nat} (d : decode M.2.1 pc = .ok (.getstatic idx, 3)) (hg : zGs M.1.cls idx "SIZES" "[I") (k : V G M K R kc ks sz (pc + 3) lo (.ref (G.2.2.2 0) :: st) w) : V G M K R kc ks sz pc lo st w :=
  fun p l e s m args below meth c F ls H locs hl hw hS => by
    rcases hg with hg | ⟨host, hg⟩
    · exact va_gets F.1 F.2.1 F.kn.2.1.1 hS F.own (F.wd.use hg _) (fun _ h => h) d (k p l e s m args below meth c F ls H locs hl hw hS)
    · exact va_getsN F.1 F.2.1 F.kn.2.1.1 hS F.own (F.wd.use hg _) (fun _ h => h) d (k p l e s m args below meth c F ls H locs hl hw hS)
theorem V_getMo {idx : Nat} (d : decode M.2.1 pc = .ok (.getstatic idx, 3)) (hg : zGs M.1.cls idx "MODULI" "[I") (k : V G M K R kc ks sz (pc + 3) lo (.ref (G.2.2.2 1) :: st) w) : V G M K R kc ks sz pc lo st w :=
  fun p l e s m args below meth c F ls H locs hl hw hS => by
    rcases hg with hg | ⟨host, hg⟩
    · exact va_gets F.1 F.2.1 F.kn.2.2.1.1 hS F.own (F.wd.use hg _) (fun _ h => h) d (k p l e s m args below meth c F ls H locs hl hw hS)
    · exact va_getsN F.1 F.2.1 F.kn.2.2.1.1 hS F.own (F.wd.use hg _) (fun _ h => h) d (k p l e s m args below meth c F ls H locs hl hw hS)
theorem V_ldSz {i : Int32} {v : Value} (d : decode M.2.1 pc = .ok (.iaload, 1)) (hin : vp_in i 3) (hv : zSz i.toNatClampNeg = v) (k : V G M K R kc ks sz (pc + 1) lo (v :: st) w) : V G M K R kc ks sz pc lo (.int i :: .ref (G.2.2.2 0) :: st) w :=
  fun p l e s m args below meth c F ls H locs hl hw hS => va_ti F.1 F.2.1 F.kn.2.1.2 hS hin hv d (k p l e s m args below meth c F ls H locs hl hw hS)
theorem V_ldMo {i : Int32} {v : Value} (d : decode M.2.1 pc = .ok (.iaload, 1)) (hin : vp_in i 3) (hv : zMo i.toNatClampNeg = v) (k : V G M K R kc ks sz (pc + 1) lo (v :: st) w) : V G M K R kc ks sz pc lo (.int i :: .ref (G.2.2.2 1) :: st) w :=
  fun p l e s m args below meth c F ls H locs hl hw hS => va_ti F.1 F.2.1 F.kn.2.2.1.2 hS hin hv d (k p l e s m args below meth c F ls H locs hl hw hS)
theorem V_lenSz (d : decode M.2.1 pc = .ok (.arraylength, 1)) (k : V G M K R kc ks sz (pc + 1) lo (.int (Int32.ofInt 3) :: st) w) : V G M K R kc ks sz pc lo (.ref (G.2.2.2 0) :: st) w :=
  fun p l e s m args below meth c F ls H locs hl hw hS => va_tlen F.1 F.2.1 F.kn.2.1.2 hS rfl d (k p l e s m args below meth c F ls H locs hl hw hS)
/-- a final field, in the constructor of its own class -/
theorem V_putF {a ci k idx : Nat} {fs : List Value} {v : Value} {C : String} {T : u_T} {N : Nat} {ty : FieldType} (d : decode M.2.1 pc = .ok (.putfield idx, 3)) (hf : zFF M.1.cls idx ci k) (h : w a = some (.inr (ci, fs))) (hi0 : M.1.name = "<init>") (hc0 : vwCl[ci]? = some (C, T, N)) (hdc : (T k).1 = M.1.cls) (g2 : parseFieldDescriptor (T k).2.2.1 = some ty) (g3 : narrow ty v = v) (g4 : fits ty v = true) (g5 : (T k).2.2.2 = true) (hlen : k < fs.length)
    (kk : V G M K R kc ks sz (pc + 3) lo st (zset w a (.inr (ci, fs.set k v)))) : V G M K R kc ks sz pc lo (v :: .ref a :: st) w :=
  fun p l e s m args below meth c F ls H locs hl hw hS => by
    obtain ⟨C', T', N', ty0, h1, h2, h3, h4, h5, h6⟩ := hf
    cases h1.symm.trans hc0
    have hts : ∀ q ∈ u_ws C T N, q.before args s = true := fun q hq => F.wd.use (h3 q hq) args
    have hap := va_apart (own := M.1.cls) hts (fun _ hq => hq) ty0 h4 h5 F.kk h1
    obtain ⟨r, r1, cell, q1, q2, q3, q4⟩ := hw.at h
    have hr : r = (C, T, N) := Option.some.inj (r1.symm.trans h1)
    subst hr
    obtain ⟨hSl, hfc, kC, hkC, hkind⟩ := F.kk.1 ci _ h1
    obtain ⟨cf, kf, fi, f, hi, hsl⟩ := hSl k h2
    have hlay := hts _ (u_in_lay h2)
    unfold u_lay at hlay
    rw [if_pos g5] at hlay
    have hst := (u_facts hfc hkC (u_lays hts (fun _ hq => hq) h2) hi).1
    have hcf : m.cls = cf := by
      obtain ⟨_, _, c', _, _, _, -, -, hf', -, -, -, hown2, -⟩ := Cond.laysFinal_spec hlay
      have e1 : c' = cf := by have := hi.symm.trans hf'; simp at this; exact this.1.symm
      rw [hdc] at hown2
      rw [← e1]
      exact Option.some.inj (F.own.symm.trans hown2)
    have h8 := u_fits hfc hkC hkind (Or.inr hlay) hi g2 g3 g4
    rcases h6 with h6 | ⟨host, h6⟩
    · refine W.putFinK F.1 F.2.1 F.own (F.wd.use h6 args) hi hst hcf (F.nm.trans hi0) (by rw [q2]; exact h8) q1 q3 (by rw [hsl]; exact k2_hasslot (q4 k h2)) rfl rfl d fun H' e1 e2 e3 => ?_
      exact kk p l e s m args below meth c F ls H' _ hl (hw.put h (zob_set (D := G.1) h1 h2 hlen hap q2 q3 q4 (by rw [← hsl]; exact e1)) e2 e3) (hS.put e2 e3 (hw.2.2 _ _ h).1)
    · have ha : a < H.size := (Array.getElem?_eq_some_iff.mp q1).1
      refine va_Wputf F.1 F.2.1 F.own (F.wd.use h6 args) hi hst (Or.inr ⟨hcf, F.nm.trans hi0⟩) q1 (by rw [q3]; exact fun q => by cases q) (by rw [hsl]; exact k2_hasslot (q4 k h2)) h8.1 (by rw [q2, q3]; exact h8.2) rfl rfl d ?_
      have e2 : (H.setIfInBounds a (cell.setSlot f.slot v)).size = H.size := by simp
      have e3 : ∀ q, q ≠ a → (H.setIfInBounds a (cell.setSlot f.slot v))[q]? = H[q]? := fun q hq => by simp [Array.getElem?_setIfInBounds, Ne.symm hq]
      exact kk p l e s m args below meth c F ls _ _ hl (hw.put h (zob_set (D := G.1) h1 h2 hlen hap q2 q3 q4 (by rw [← hsl]; simp [Array.getElem?_setIfInBounds, ha])) e2 e3) (hS.put e2 e3 (hw.2.2 _ _ h).1)
/-- System.arraycopy of the first longs of a row into another row -/
theorem J_copy {a a0 n0 n1 idx : Nat} {f g : Int → Int} {n : Int} (d : decode M.2.1 pc = .ok (.invokestatic idx, 3)) (h1 : zin (.methodLink M.1.cls idx arraycopyName)) (h2 : zin (.native arraycopyName)) (h3 : zin (.static arraycopyName)) (h4 : zin (.initialized "java/lang/System")) (hf : w a0 = some (zro G n0 f)) (hg : w a = some (zro G n1 g)) (hn : 0 ≤ n ∧ n ≤ n0 ∧ n ≤ n1 ∧ n < 2147483648) (hfr : 1 ≤ R.frames) (hlo : (st.map fun v => v.category).sum + 18 ≤ R.locals)
    (k : V G M K R kc ks sz (pc + 3) lo st (zset w a (zro G n1 (zif n f g)))) : V G M K R kc ks sz pc lo (.int (Int32.ofInt n) :: .int (Int32.ofInt 0) :: .ref a :: .int (Int32.ofInt 0) :: .ref a0 :: st) w :=
  fun p l e s m args below meth c F ls H locs hl hw hS => by
    have hc : (Int32.ofInt n).toNatClampNeg = n.toNat := z32_clamp hn.1 (by omega)
    have hz : (Int32.ofInt 0).toNatClampNeg = 0 := by decide
    have hnn : ¬ Int32.ofInt n < 0 := by
      rw [← z32_0, z32_lt (by omega) (by omega)]
      omega
    intro T hT X
    have hc0 : H[a0]? = some (vp_cell (G.2.1 0) (n0, .inr (.inl (fun j => Int64.ofInt (f j))))) := hw.at hf
    have hc1 : H[a]? = some (vp_cell (G.2.1 0) (n1, .inr (.inl (fun j => Int64.ofInt (g j))))) := hw.at hg
    obtain ⟨-, k0, hk0, cm0, hkk0⟩ := (F.kk.2 0 _ rfl).1 n0 (fun j => .long (Int64.ofInt (f j)))
    obtain ⟨vm', X', step⟩ := X.arraycopy F.1 F.own (F.wd.use h1 _) (F.wd.use h2 _) (F.wd.use h3 _) (F.wd.use h4 _) (src := a0) (dst := a) (cs := vp_cell (G.2.1 0) (n0, .inr (.inl (fun j => Int64.ofInt (f j))))) (cd := vp_cell (G.2.1 0) (n1, .inr (.inl (fun j => Int64.ofInt (g j))))) (srcPos := Int32.ofInt 0) (destPos := Int32.ofInt 0) (n := Int32.ofInt n) (by rw [hT]; exact hc0) (by rw [hT]; exact hc1)
      (fun _ h => by cases h) (fun _ h => by cases h) (fun h => by cases h) (fun h => by cases h) hk0 hk0 hkk0 hkk0 rfl (by decide) (by decide) hnn
      (by rw [z32 (z := n) (by omega), show (Int32.ofInt 0).toInt = 0 by decide]; show ¬ _ > ((arrV (G.2.1 0) n0 (fun j => .long (Int64.ofInt (f j)))).slots.size : Int); rw [arrV_size]; omega)
      (by rw [z32 (z := n) (by omega), show (Int32.ofInt 0).toInt = 0 by decide]; show ¬ _ > ((arrV (G.2.1 0) n1 (fun j => .long (Int64.ofInt (g j)))).slots.size : Int); rw [arrV_size]; omega)
      (fun vm₁ _ i hi => by
        have e : (vp_cell (G.2.1 0) (n0, .inr (.inl (fun j => Int64.ofInt (f j))))).slots.getD ((Int32.ofInt 0).toNatClampNeg + i) .null = .long (Int64.ofInt (f ((0 + i : Nat) : Int))) := by
          show (arrV (G.2.1 0) n0 (fun j => .long (Int64.ofInt (f j)))).slots.getD _ _ = _
          rw [hz, Array.getD_eq_getD_getElem?, arrV_read _ _ (by rw [hc] at hi; omega)]
          rfl
        rw [e]
        exact ⟨rfl, trivial⟩)
      (g := F0 m pc ls (.int (Int32.ofInt n) :: .int (Int32.ofInt 0) :: .ref a :: .int (Int32.ofInt 0) :: .ref a0 :: st)) rfl (by rw [F.ml]; exact hl.1) (rest := st) rfl (by rw [F.2.1]; exact d) hfr (by show 2 * 0 + _ + (7 + 11) ≤ _; omega)
    have e1 : copied (vp_cell (G.2.1 0) (n0, .inr (.inl (fun j => Int64.ofInt (f j))))) (vp_cell (G.2.1 0) (n1, .inr (.inl (fun j => Int64.ofInt (g j))))) (Int32.ofInt 0) (Int32.ofInt 0) (Int32.ofInt n) = vp_cell (G.2.1 0) (n1, .inr (.inl (fun j => Int64.ofInt (zif n f g j)))) := by
      refine (va_copied (fun z => .long z) (G.2.1 0) (G.2.1 0) (fun j => Int64.ofInt (f j)) (fun j => Int64.ofInt (g j)) (by rw [hz, hc]; omega)).trans ?_
      rw [hz, hc, vp_cell_l]
      congr 1
      funext j
      unfold va_cpy zif
      by_cases hj : j < n.toNat
      · rw [if_pos (by omega), if_pos (by omega)]
        congr 3
        omega
      · rw [if_neg (by omega), if_neg (by omega)]
    rw [e1] at X' step
    have hlt : a < H.size := (Array.getElem?_eq_some_iff.mp hc1).1
    have oq : ∀ (y : Cell) (q : Nat), q ≠ a → (H.setIfInBounds a y)[q]? = H[q]? := fun y q hq => by simp [Array.getElem?_setIfInBounds, Ne.symm hq]
    obtain ⟨t, a1, b1⟩ := k p l e s m args below meth c F ls (H.setIfInBounds a (vp_cell (G.2.1 0) (n1, .inr (.inl (fun j => Int64.ofInt (zif n f g j)))))) _ hl
      (hw.put hg (show (H.setIfInBounds a _)[a]? = some _ by simp [Array.getElem?_setIfInBounds, hlt]) (by simp) (oq _))
      ⟨by simp; exact hS.1, fun q g1 g2 => by
        rw [oq _ q (fun e => g2 (by rw [e]; exact (hw.2.2 _ _ hg).1))]
        exact hS.2.1 q g1 g2, fun q hq => by
        rcases List.mem_append.mp hq with h | h
        · exact hS.2.2 q h
        · obtain ⟨z, -, hz⟩ := List.mem_map.mp h
          rw [← hz]
          exact (hw.2.2 _ _ hg).1⟩ _ (by rw [← hT]; rfl) X'
    exact ⟨t, step t a1, b1⟩
end ZMo
end
section
theorem co_Math_floorMod_JJ : zCo M_Math_floorMod_JJ := Or.inl ⟨⟨List.mem_append_right _ (List.mem_of_getElem? (i := 239) (by decide +kernel)), by decide +kernel⟩, rfl⟩
theorem co_Math_max_II : zCo M_Math_max_II := Or.inl ⟨⟨List.mem_append_right _ (List.mem_of_getElem? (i := 393) (by decide +kernel)), by decide +kernel⟩, rfl⟩
theorem co_Math_floorMod_II : zCo M_Math_floorMod_II := Or.inl ⟨⟨List.mem_append_right _ (List.mem_of_getElem? (i := 429) (by decide +kernel)), by decide +kernel⟩, rfl⟩
theorem co_Math_abs : zCo M_Math_abs := Or.inl ⟨⟨List.mem_append_right _ (List.mem_of_getElem? (i := 517) (by decide +kernel)), by decide +kernel⟩, rfl⟩
theorem co_Math_max_JJ : zCo M_Math_max_JJ := Or.inl ⟨⟨List.mem_append_right _ (List.mem_of_getElem? (i := 520) (by decide +kernel)), by decide +kernel⟩, rfl⟩
theorem co_Math_floorDiv : zCo M_Math_floorDiv := Or.inl ⟨⟨List.mem_append_right _ (List.mem_of_getElem? (i := 542) (by decide +kernel)), by decide +kernel⟩, rfl⟩
theorem d_Math_floorMod_JJ_0 : decode prog_13_method_52_code 0 = .ok (.lload_n 0, 1) := by decide +kernel
theorem d_Math_floorMod_JJ_1 : decode prog_13_method_52_code 1 = .ok (.lload_n 2, 1) := by decide +kernel
theorem d_Math_floorMod_JJ_2 : decode prog_13_method_52_code 2 = .ok (.lrem, 1) := by decide +kernel
theorem d_Math_floorMod_JJ_3 : decode prog_13_method_52_code 3 = .ok (.lstore 4, 2) := by decide +kernel
theorem d_Math_floorMod_JJ_5 : decode prog_13_method_52_code 5 = .ok (.lload_n 0, 1) := by decide +kernel
theorem d_Math_floorMod_JJ_6 : decode prog_13_method_52_code 6 = .ok (.lload_n 2, 1) := by decide +kernel
theorem d_Math_floorMod_JJ_7 : decode prog_13_method_52_code 7 = .ok (.lxor, 1) := by decide +kernel
theorem d_Math_floorMod_JJ_8 : decode prog_13_method_52_code 8 = .ok (.lconst 0, 1) := by decide +kernel
theorem d_Math_floorMod_JJ_9 : decode prog_13_method_52_code 9 = .ok (.lcmp, 1) := by decide +kernel
theorem d_Math_floorMod_JJ_10 : decode prog_13_method_52_code 10 = .ok (.ifCond .ge 15, 3) := by decide +kernel
theorem d_Math_floorMod_JJ_13 : decode prog_13_method_52_code 13 = .ok (.lload 4, 2) := by decide +kernel
theorem d_Math_floorMod_JJ_15 : decode prog_13_method_52_code 15 = .ok (.lconst 0, 1) := by decide +kernel
theorem d_Math_floorMod_JJ_16 : decode prog_13_method_52_code 16 = .ok (.lcmp, 1) := by decide +kernel
theorem d_Math_floorMod_JJ_17 : decode prog_13_method_52_code 17 = .ok (.ifCond .eq 8, 3) := by decide +kernel
theorem d_Math_floorMod_JJ_20 : decode prog_13_method_52_code 20 = .ok (.lload 4, 2) := by decide +kernel
theorem d_Math_floorMod_JJ_22 : decode prog_13_method_52_code 22 = .ok (.lload_n 2, 1) := by decide +kernel
theorem d_Math_floorMod_JJ_23 : decode prog_13_method_52_code 23 = .ok (.ladd, 1) := by decide +kernel
theorem d_Math_floorMod_JJ_24 : decode prog_13_method_52_code 24 = .ok (.lreturn, 1) := by decide +kernel
theorem d_Math_floorMod_JJ_25 : decode prog_13_method_52_code 25 = .ok (.lload 4, 2) := by decide +kernel
theorem d_Math_floorMod_JJ_27 : decode prog_13_method_52_code 27 = .ok (.lreturn, 1) := by decide +kernel
theorem d_Math_max_II_0 : decode prog_13_method_65_code 0 = .ok (.iload_n 0, 1) := by decide +kernel
theorem d_Math_max_II_1 : decode prog_13_method_65_code 1 = .ok (.iload_n 1, 1) := by decide +kernel
theorem d_Math_max_II_2 : decode prog_13_method_65_code 2 = .ok (.if_icmp .lt 7, 3) := by decide +kernel
theorem d_Math_max_II_5 : decode prog_13_method_65_code 5 = .ok (.iload_n 0, 1) := by decide +kernel
theorem d_Math_max_II_6 : decode prog_13_method_65_code 6 = .ok (.goto 4, 3) := by decide +kernel
theorem d_Math_max_II_9 : decode prog_13_method_65_code 9 = .ok (.iload_n 1, 1) := by decide +kernel
theorem d_Math_max_II_10 : decode prog_13_method_65_code 10 = .ok (.ireturn, 1) := by decide +kernel
theorem d_Math_floorMod_II_0 : decode prog_13_method_50_code 0 = .ok (.iload_n 0, 1) := by decide +kernel
theorem d_Math_floorMod_II_1 : decode prog_13_method_50_code 1 = .ok (.iload_n 1, 1) := by decide +kernel
theorem d_Math_floorMod_II_2 : decode prog_13_method_50_code 2 = .ok (.irem, 1) := by decide +kernel
theorem d_Math_floorMod_II_3 : decode prog_13_method_50_code 3 = .ok (.istore_n 2, 1) := by decide +kernel
theorem d_Math_floorMod_II_4 : decode prog_13_method_50_code 4 = .ok (.iload_n 0, 1) := by decide +kernel
theorem d_Math_floorMod_II_5 : decode prog_13_method_50_code 5 = .ok (.iload_n 1, 1) := by decide +kernel
theorem d_Math_floorMod_II_6 : decode prog_13_method_50_code 6 = .ok (.ixor, 1) := by decide +kernel
theorem d_Math_floorMod_II_7 : decode prog_13_method_50_code 7 = .ok (.ifCond .ge 11, 3) := by decide +kernel
theorem d_Math_floorMod_II_10 : decode prog_13_method_50_code 10 = .ok (.iload_n 2, 1) := by decide +kernel
theorem d_Math_floorMod_II_11 : decode prog_13_method_50_code 11 = .ok (.ifCond .eq 7, 3) := by decide +kernel
theorem d_Math_floorMod_II_14 : decode prog_13_method_50_code 14 = .ok (.iload_n 2, 1) := by decide +kernel
theorem d_Math_floorMod_II_15 : decode prog_13_method_50_code 15 = .ok (.iload_n 1, 1) := by decide +kernel
theorem d_Math_floorMod_II_16 : decode prog_13_method_50_code 16 = .ok (.iadd, 1) := by decide +kernel
theorem d_Math_floorMod_II_17 : decode prog_13_method_50_code 17 = .ok (.ireturn, 1) := by decide +kernel
theorem d_Math_floorMod_II_18 : decode prog_13_method_50_code 18 = .ok (.iload_n 2, 1) := by decide +kernel
theorem d_Math_floorMod_II_19 : decode prog_13_method_50_code 19 = .ok (.ireturn, 1) := by decide +kernel
theorem d_Math_abs_0 : decode prog_13_method_61_code 0 = .ok (.lload_n 0, 1) := by decide +kernel
theorem d_Math_abs_1 : decode prog_13_method_61_code 1 = .ok (.lconst 0, 1) := by decide +kernel
theorem d_Math_abs_2 : decode prog_13_method_61_code 2 = .ok (.lcmp, 1) := by decide +kernel
theorem d_Math_abs_3 : decode prog_13_method_61_code 3 = .ok (.ifCond .ge 8, 3) := by decide +kernel
theorem d_Math_abs_6 : decode prog_13_method_61_code 6 = .ok (.lload_n 0, 1) := by decide +kernel
theorem d_Math_abs_7 : decode prog_13_method_61_code 7 = .ok (.lneg, 1) := by decide +kernel
theorem d_Math_abs_8 : decode prog_13_method_61_code 8 = .ok (.goto 4, 3) := by decide +kernel
theorem d_Math_abs_11 : decode prog_13_method_61_code 11 = .ok (.lload_n 0, 1) := by decide +kernel
theorem d_Math_abs_12 : decode prog_13_method_61_code 12 = .ok (.lreturn, 1) := by decide +kernel
theorem d_Math_max_JJ_0 : decode prog_13_method_66_code 0 = .ok (.lload_n 0, 1) := by decide +kernel
theorem d_Math_max_JJ_1 : decode prog_13_method_66_code 1 = .ok (.lload_n 2, 1) := by decide +kernel
theorem d_Math_max_JJ_2 : decode prog_13_method_66_code 2 = .ok (.lcmp, 1) := by decide +kernel
theorem d_Math_max_JJ_3 : decode prog_13_method_66_code 3 = .ok (.ifCond .lt 7, 3) := by decide +kernel
theorem d_Math_max_JJ_6 : decode prog_13_method_66_code 6 = .ok (.lload_n 0, 1) := by decide +kernel
theorem d_Math_max_JJ_7 : decode prog_13_method_66_code 7 = .ok (.goto 4, 3) := by decide +kernel
theorem d_Math_max_JJ_10 : decode prog_13_method_66_code 10 = .ok (.lload_n 2, 1) := by decide +kernel
theorem d_Math_max_JJ_11 : decode prog_13_method_66_code 11 = .ok (.lreturn, 1) := by decide +kernel
theorem d_Math_floorDiv_0 : decode prog_13_method_49_code 0 = .ok (.lload_n 0, 1) := by decide +kernel
theorem d_Math_floorDiv_1 : decode prog_13_method_49_code 1 = .ok (.lload_n 2, 1) := by decide +kernel
theorem d_Math_floorDiv_2 : decode prog_13_method_49_code 2 = .ok (.ldiv, 1) := by decide +kernel
theorem d_Math_floorDiv_3 : decode prog_13_method_49_code 3 = .ok (.lstore 4, 2) := by decide +kernel
theorem d_Math_floorDiv_5 : decode prog_13_method_49_code 5 = .ok (.lload_n 0, 1) := by decide +kernel
theorem d_Math_floorDiv_6 : decode prog_13_method_49_code 6 = .ok (.lload_n 2, 1) := by decide +kernel
theorem d_Math_floorDiv_7 : decode prog_13_method_49_code 7 = .ok (.lxor, 1) := by decide +kernel
theorem d_Math_floorDiv_8 : decode prog_13_method_49_code 8 = .ok (.lconst 0, 1) := by decide +kernel
theorem d_Math_floorDiv_9 : decode prog_13_method_49_code 9 = .ok (.lcmp, 1) := by decide +kernel
theorem d_Math_floorDiv_10 : decode prog_13_method_49_code 10 = .ok (.ifCond .ge 17, 3) := by decide +kernel
theorem d_Math_floorDiv_13 : decode prog_13_method_49_code 13 = .ok (.lload 4, 2) := by decide +kernel
theorem d_Math_floorDiv_15 : decode prog_13_method_49_code 15 = .ok (.lload_n 2, 1) := by decide +kernel
theorem d_Math_floorDiv_16 : decode prog_13_method_49_code 16 = .ok (.lmul, 1) := by decide +kernel
theorem d_Math_floorDiv_17 : decode prog_13_method_49_code 17 = .ok (.lload_n 0, 1) := by decide +kernel
theorem d_Math_floorDiv_18 : decode prog_13_method_49_code 18 = .ok (.lcmp, 1) := by decide +kernel
theorem d_Math_floorDiv_19 : decode prog_13_method_49_code 19 = .ok (.ifCond .eq 8, 3) := by decide +kernel
theorem d_Math_floorDiv_22 : decode prog_13_method_49_code 22 = .ok (.lload 4, 2) := by decide +kernel
theorem d_Math_floorDiv_24 : decode prog_13_method_49_code 24 = .ok (.lconst 1, 1) := by decide +kernel
theorem d_Math_floorDiv_25 : decode prog_13_method_49_code 25 = .ok (.lsub, 1) := by decide +kernel
theorem d_Math_floorDiv_26 : decode prog_13_method_49_code 26 = .ok (.lreturn, 1) := by decide +kernel
theorem d_Math_floorDiv_27 : decode prog_13_method_49_code 27 = .ok (.lload 4, 2) := by decide +kernel
theorem d_Math_floorDiv_29 : decode prog_13_method_49_code 29 = .ok (.lreturn, 1) := by decide +kernel

theorem k_Integer_265 : zin (.constant "java/lang/Integer" 265 (1431655765)) := ⟨List.mem_append_right _ (List.mem_of_getElem? (i := 229) (by decide +kernel)), by decide +kernel⟩
theorem k_Integer_266 : zin (.constant "java/lang/Integer" 266 (858993459)) := ⟨List.mem_append_right _ (List.mem_of_getElem? (i := 230) (by decide +kernel)), by decide +kernel⟩
theorem k_Integer_267 : zin (.constant "java/lang/Integer" 267 (252645135)) := ⟨List.mem_append_right _ (List.mem_of_getElem? (i := 231) (by decide +kernel)), by decide +kernel⟩
theorem co_Integer_bitCount : zCo M_Integer_bitCount := Or.inl ⟨⟨List.mem_append_right _ (List.mem_of_getElem? (i := 228) (by decide +kernel)), by decide +kernel⟩, rfl⟩
theorem d_Integer_bitCount_0 : decode prog_12_method_49_code 0 = .ok (.iload_n 0, 1) := by decide +kernel
theorem d_Integer_bitCount_1 : decode prog_12_method_49_code 1 = .ok (.iload_n 0, 1) := by decide +kernel
theorem d_Integer_bitCount_2 : decode prog_12_method_49_code 2 = .ok (.iconst 1, 1) := by decide +kernel
theorem d_Integer_bitCount_3 : decode prog_12_method_49_code 3 = .ok (.iushr, 1) := by decide +kernel
theorem d_Integer_bitCount_4 : decode prog_12_method_49_code 4 = .ok (.ldc_w 265, 3) := by decide +kernel
theorem d_Integer_bitCount_7 : decode prog_12_method_49_code 7 = .ok (.iand, 1) := by decide +kernel
theorem d_Integer_bitCount_8 : decode prog_12_method_49_code 8 = .ok (.isub, 1) := by decide +kernel
theorem d_Integer_bitCount_9 : decode prog_12_method_49_code 9 = .ok (.istore_n 0, 1) := by decide +kernel
theorem d_Integer_bitCount_10 : decode prog_12_method_49_code 10 = .ok (.iload_n 0, 1) := by decide +kernel
theorem d_Integer_bitCount_11 : decode prog_12_method_49_code 11 = .ok (.ldc_w 266, 3) := by decide +kernel
theorem d_Integer_bitCount_14 : decode prog_12_method_49_code 14 = .ok (.iand, 1) := by decide +kernel
theorem d_Integer_bitCount_15 : decode prog_12_method_49_code 15 = .ok (.iload_n 0, 1) := by decide +kernel
theorem d_Integer_bitCount_16 : decode prog_12_method_49_code 16 = .ok (.iconst 2, 1) := by decide +kernel
theorem d_Integer_bitCount_17 : decode prog_12_method_49_code 17 = .ok (.iushr, 1) := by decide +kernel
theorem d_Integer_bitCount_18 : decode prog_12_method_49_code 18 = .ok (.ldc_w 266, 3) := by decide +kernel
theorem d_Integer_bitCount_21 : decode prog_12_method_49_code 21 = .ok (.iand, 1) := by decide +kernel
theorem d_Integer_bitCount_22 : decode prog_12_method_49_code 22 = .ok (.iadd, 1) := by decide +kernel
theorem d_Integer_bitCount_23 : decode prog_12_method_49_code 23 = .ok (.istore_n 0, 1) := by decide +kernel
theorem d_Integer_bitCount_24 : decode prog_12_method_49_code 24 = .ok (.iload_n 0, 1) := by decide +kernel
theorem d_Integer_bitCount_25 : decode prog_12_method_49_code 25 = .ok (.iload_n 0, 1) := by decide +kernel
theorem d_Integer_bitCount_26 : decode prog_12_method_49_code 26 = .ok (.iconst 4, 1) := by decide +kernel
theorem d_Integer_bitCount_27 : decode prog_12_method_49_code 27 = .ok (.iushr, 1) := by decide +kernel
theorem d_Integer_bitCount_28 : decode prog_12_method_49_code 28 = .ok (.iadd, 1) := by decide +kernel
theorem d_Integer_bitCount_29 : decode prog_12_method_49_code 29 = .ok (.ldc_w 267, 3) := by decide +kernel
theorem d_Integer_bitCount_32 : decode prog_12_method_49_code 32 = .ok (.iand, 1) := by decide +kernel
theorem d_Integer_bitCount_33 : decode prog_12_method_49_code 33 = .ok (.istore_n 0, 1) := by decide +kernel
theorem d_Integer_bitCount_34 : decode prog_12_method_49_code 34 = .ok (.iload_n 0, 1) := by decide +kernel
theorem d_Integer_bitCount_35 : decode prog_12_method_49_code 35 = .ok (.iload_n 0, 1) := by decide +kernel
theorem d_Integer_bitCount_36 : decode prog_12_method_49_code 36 = .ok (.bipush 8, 2) := by decide +kernel
theorem d_Integer_bitCount_38 : decode prog_12_method_49_code 38 = .ok (.iushr, 1) := by decide +kernel
theorem d_Integer_bitCount_39 : decode prog_12_method_49_code 39 = .ok (.iadd, 1) := by decide +kernel
theorem d_Integer_bitCount_40 : decode prog_12_method_49_code 40 = .ok (.istore_n 0, 1) := by decide +kernel
theorem d_Integer_bitCount_41 : decode prog_12_method_49_code 41 = .ok (.iload_n 0, 1) := by decide +kernel
theorem d_Integer_bitCount_42 : decode prog_12_method_49_code 42 = .ok (.iload_n 0, 1) := by decide +kernel
theorem d_Integer_bitCount_43 : decode prog_12_method_49_code 43 = .ok (.bipush 16, 2) := by decide +kernel
theorem d_Integer_bitCount_45 : decode prog_12_method_49_code 45 = .ok (.iushr, 1) := by decide +kernel
theorem d_Integer_bitCount_46 : decode prog_12_method_49_code 46 = .ok (.iadd, 1) := by decide +kernel
theorem d_Integer_bitCount_47 : decode prog_12_method_49_code 47 = .ok (.istore_n 0, 1) := by decide +kernel
theorem d_Integer_bitCount_48 : decode prog_12_method_49_code 48 = .ok (.iload_n 0, 1) := by decide +kernel
theorem d_Integer_bitCount_49 : decode prog_12_method_49_code 49 = .ok (.bipush 63, 2) := by decide +kernel
theorem d_Integer_bitCount_51 : decode prog_12_method_49_code 51 = .ok (.iand, 1) := by decide +kernel
theorem d_Integer_bitCount_52 : decode prog_12_method_49_code 52 = .ok (.ireturn, 1) := by decide +kernel

theorem co_Arrays_fill : zCo M_Arrays_fill := Or.inl ⟨⟨List.mem_append_right _ (List.mem_of_getElem? (i := 207) (by decide +kernel)), by decide +kernel⟩, rfl⟩
theorem d_Arrays_fill_0 : decode prog_18_method_101_code 0 = .ok (.iconst 0, 1) := by decide +kernel
theorem d_Arrays_fill_1 : decode prog_18_method_101_code 1 = .ok (.istore_n 3, 1) := by decide +kernel
theorem d_Arrays_fill_2 : decode prog_18_method_101_code 2 = .ok (.aload_n 0, 1) := by decide +kernel
theorem d_Arrays_fill_3 : decode prog_18_method_101_code 3 = .ok (.arraylength, 1) := by decide +kernel
theorem d_Arrays_fill_4 : decode prog_18_method_101_code 4 = .ok (.istore 4, 2) := by decide +kernel
theorem d_Arrays_fill_6 : decode prog_18_method_101_code 6 = .ok (.iload_n 3, 1) := by decide +kernel
theorem d_Arrays_fill_7 : decode prog_18_method_101_code 7 = .ok (.iload 4, 2) := by decide +kernel
theorem d_Arrays_fill_9 : decode prog_18_method_101_code 9 = .ok (.if_icmp .ge 13, 3) := by decide +kernel
theorem d_Arrays_fill_12 : decode prog_18_method_101_code 12 = .ok (.aload_n 0, 1) := by decide +kernel
theorem d_Arrays_fill_13 : decode prog_18_method_101_code 13 = .ok (.iload_n 3, 1) := by decide +kernel
theorem d_Arrays_fill_14 : decode prog_18_method_101_code 14 = .ok (.lload_n 1, 1) := by decide +kernel
theorem d_Arrays_fill_15 : decode prog_18_method_101_code 15 = .ok (.lastore, 1) := by decide +kernel
theorem d_Arrays_fill_16 : decode prog_18_method_101_code 16 = .ok (.iinc 3 1, 3) := by decide +kernel
theorem d_Arrays_fill_19 : decode prog_18_method_101_code 19 = .ok (.goto (-13), 3) := by decide +kernel
theorem d_Arrays_fill_22 : decode prog_18_method_101_code 22 = .ok (.return_, 1) := by decide +kernel

theorem ff_Chance_9 : zFF "RingCipher$Chance" 9 cChance 0 := ⟨R_Chance, F_Chance, 1, t_Chance, rfl, by decide, i_Chance, t_Chance_ok, n_Chance, Or.inl ⟨List.mem_append_right _ (List.mem_of_getElem? (i := 76) (by decide +kernel)), by decide +kernel⟩⟩
theorem k_Chance_15 : zin (.constant "RingCipher$Chance" 15 (1664525)) := ⟨List.mem_append_right _ (List.mem_of_getElem? (i := 203) (by decide +kernel)), by decide +kernel⟩
theorem k_Chance_16 : zin (.constant "RingCipher$Chance" 16 (1013904223)) := ⟨List.mem_append_right _ (List.mem_of_getElem? (i := 204) (by decide +kernel)), by decide +kernel⟩
theorem k_Chance_27 : zin (.constantLong "RingCipher$Chance" 27 (Int64.ofInt 65536)) := ⟨List.mem_append_right _ (List.mem_of_getElem? (i := 220) (by decide +kernel)), by decide +kernel⟩
theorem k_Chance_29 : zin (.constantLong "RingCipher$Chance" 29 (Int64.ofInt 268435399)) := ⟨List.mem_append_right _ (List.mem_of_getElem? (i := 221) (by decide +kernel)), by decide +kernel⟩
theorem g_Chance_17 : zGV "RingCipher$Chance" 17 M_Chance_draw 0 := ⟨Or.inl ⟨List.mem_append_right _ (List.mem_of_getElem? (i := 199) (by decide +kernel)), by decide +kernel⟩, ⟨List.mem_append_right _ (List.mem_of_getElem? (i := 201) (by decide +kernel)), by decide +kernel⟩, ⟨List.mem_append_left _ (List.mem_of_getElem? (i := 5) (by decide +kernel)), by decide +kernel⟩, ⟨by decide +kernel, by decide +kernel⟩, by decide +kernel⟩
theorem g_Chance_21 : zGS "RingCipher$Chance" 21 M_Integer_bitCount 1 := ⟨Or.inl ⟨List.mem_append_right _ (List.mem_of_getElem? (i := 226) (by decide +kernel)), by decide +kernel⟩, ⟨List.mem_append_right _ (List.mem_of_getElem? (i := 227) (by decide +kernel)), by decide +kernel⟩, ⟨List.mem_append_right _ (List.mem_of_getElem? (i := 13) (by decide +kernel)), by decide +kernel⟩, ⟨by decide +kernel, by decide +kernel⟩, by decide +kernel⟩
theorem co_Chance_init : zCo M_Chance_init := Or.inl ⟨⟨List.mem_append_right _ (List.mem_of_getElem? (i := 74) (by decide +kernel)), by decide +kernel⟩, rfl⟩
theorem co_Chance_fillTernary : zCo M_Chance_fillTernary := Or.inl ⟨⟨List.mem_append_right _ (List.mem_of_getElem? (i := 198) (by decide +kernel)), by decide +kernel⟩, rfl⟩
theorem co_Chance_draw : zCo M_Chance_draw := Or.inl ⟨⟨List.mem_append_right _ (List.mem_of_getElem? (i := 202) (by decide +kernel)), by decide +kernel⟩, rfl⟩
theorem co_Chance_fillUniform : zCo M_Chance_fillUniform := Or.inl ⟨⟨List.mem_append_right _ (List.mem_of_getElem? (i := 219) (by decide +kernel)), by decide +kernel⟩, rfl⟩
theorem co_Chance_fillErrors : zCo M_Chance_fillErrors := Or.inl ⟨⟨List.mem_append_right _ (List.mem_of_getElem? (i := 225) (by decide +kernel)), by decide +kernel⟩, rfl⟩
theorem co_Chance_upperHalf : zCo M_Chance_upperHalf := Or.inl ⟨⟨List.mem_append_right _ (List.mem_of_getElem? (i := 263) (by decide +kernel)), by decide +kernel⟩, rfl⟩
theorem co_Chance_restart : zCo M_Chance_restart := Or.inl ⟨⟨List.mem_append_right _ (List.mem_of_getElem? (i := 345) (by decide +kernel)), by decide +kernel⟩, rfl⟩
theorem d_Chance_init_0 : decode prog_2_method_1_code 0 = .ok (.aload_n 0, 1) := by decide +kernel
theorem d_Chance_init_1 : decode prog_2_method_1_code 1 = .ok (.invokespecial 3, 3) := by decide +kernel
theorem d_Chance_init_4 : decode prog_2_method_1_code 4 = .ok (.return_, 1) := by decide +kernel
theorem d_Chance_restart_0 : decode prog_2_method_2_code 0 = .ok (.aload_n 0, 1) := by decide +kernel
theorem d_Chance_restart_1 : decode prog_2_method_2_code 1 = .ok (.iload_n 1, 1) := by decide +kernel
theorem d_Chance_restart_2 : decode prog_2_method_2_code 2 = .ok (.putfield 9, 3) := by decide +kernel
theorem d_Chance_restart_5 : decode prog_2_method_2_code 5 = .ok (.return_, 1) := by decide +kernel
theorem d_Chance_upperHalf_0 : decode prog_2_method_3_code 0 = .ok (.aload_n 0, 1) := by decide +kernel
theorem d_Chance_upperHalf_1 : decode prog_2_method_3_code 1 = .ok (.getfield 9, 3) := by decide +kernel
theorem d_Chance_upperHalf_4 : decode prog_2_method_3_code 4 = .ok (.bipush 16, 2) := by decide +kernel
theorem d_Chance_upperHalf_6 : decode prog_2_method_3_code 6 = .ok (.iushr, 1) := by decide +kernel
theorem d_Chance_upperHalf_7 : decode prog_2_method_3_code 7 = .ok (.ireturn, 1) := by decide +kernel
theorem d_Chance_draw_0 : decode prog_2_method_4_code 0 = .ok (.aload_n 0, 1) := by decide +kernel
theorem d_Chance_draw_1 : decode prog_2_method_4_code 1 = .ok (.ldc 15, 2) := by decide +kernel
theorem d_Chance_draw_3 : decode prog_2_method_4_code 3 = .ok (.aload_n 0, 1) := by decide +kernel
theorem d_Chance_draw_4 : decode prog_2_method_4_code 4 = .ok (.getfield 9, 3) := by decide +kernel
theorem d_Chance_draw_7 : decode prog_2_method_4_code 7 = .ok (.imul, 1) := by decide +kernel
theorem d_Chance_draw_8 : decode prog_2_method_4_code 8 = .ok (.ldc 16, 2) := by decide +kernel
theorem d_Chance_draw_10 : decode prog_2_method_4_code 10 = .ok (.iadd, 1) := by decide +kernel
theorem d_Chance_draw_11 : decode prog_2_method_4_code 11 = .ok (.putfield 9, 3) := by decide +kernel
theorem d_Chance_draw_14 : decode prog_2_method_4_code 14 = .ok (.aload_n 0, 1) := by decide +kernel
theorem d_Chance_draw_15 : decode prog_2_method_4_code 15 = .ok (.getfield 9, 3) := by decide +kernel
theorem d_Chance_draw_18 : decode prog_2_method_4_code 18 = .ok (.bipush 16, 2) := by decide +kernel
theorem d_Chance_draw_20 : decode prog_2_method_4_code 20 = .ok (.iushr, 1) := by decide +kernel
theorem d_Chance_draw_21 : decode prog_2_method_4_code 21 = .ok (.ireturn, 1) := by decide +kernel
theorem d_Chance_fillTernary_0 : decode prog_2_method_5_code 0 = .ok (.iconst 0, 1) := by decide +kernel
theorem d_Chance_fillTernary_1 : decode prog_2_method_5_code 1 = .ok (.istore_n 3, 1) := by decide +kernel
theorem d_Chance_fillTernary_2 : decode prog_2_method_5_code 2 = .ok (.iload_n 3, 1) := by decide +kernel
theorem d_Chance_fillTernary_3 : decode prog_2_method_5_code 3 = .ok (.iload_n 2, 1) := by decide +kernel
theorem d_Chance_fillTernary_4 : decode prog_2_method_5_code 4 = .ok (.if_icmp .ge 21, 3) := by decide +kernel
theorem d_Chance_fillTernary_7 : decode prog_2_method_5_code 7 = .ok (.aload_n 1, 1) := by decide +kernel
theorem d_Chance_fillTernary_8 : decode prog_2_method_5_code 8 = .ok (.iload_n 3, 1) := by decide +kernel
theorem d_Chance_fillTernary_9 : decode prog_2_method_5_code 9 = .ok (.aload_n 0, 1) := by decide +kernel
theorem d_Chance_fillTernary_10 : decode prog_2_method_5_code 10 = .ok (.invokevirtual 17, 3) := by decide +kernel
theorem d_Chance_fillTernary_13 : decode prog_2_method_5_code 13 = .ok (.iconst 3, 1) := by decide +kernel
theorem d_Chance_fillTernary_14 : decode prog_2_method_5_code 14 = .ok (.irem, 1) := by decide +kernel
theorem d_Chance_fillTernary_15 : decode prog_2_method_5_code 15 = .ok (.iconst 1, 1) := by decide +kernel
theorem d_Chance_fillTernary_16 : decode prog_2_method_5_code 16 = .ok (.isub, 1) := by decide +kernel
theorem d_Chance_fillTernary_17 : decode prog_2_method_5_code 17 = .ok (.i2l, 1) := by decide +kernel
theorem d_Chance_fillTernary_18 : decode prog_2_method_5_code 18 = .ok (.lastore, 1) := by decide +kernel
theorem d_Chance_fillTernary_19 : decode prog_2_method_5_code 19 = .ok (.iinc 3 1, 3) := by decide +kernel
theorem d_Chance_fillTernary_22 : decode prog_2_method_5_code 22 = .ok (.goto (-20), 3) := by decide +kernel
theorem d_Chance_fillTernary_25 : decode prog_2_method_5_code 25 = .ok (.return_, 1) := by decide +kernel
theorem d_Chance_fillErrors_0 : decode prog_2_method_6_code 0 = .ok (.iconst 0, 1) := by decide +kernel
theorem d_Chance_fillErrors_1 : decode prog_2_method_6_code 1 = .ok (.istore_n 3, 1) := by decide +kernel
theorem d_Chance_fillErrors_2 : decode prog_2_method_6_code 2 = .ok (.iload_n 3, 1) := by decide +kernel
theorem d_Chance_fillErrors_3 : decode prog_2_method_6_code 3 = .ok (.iload_n 2, 1) := by decide +kernel
theorem d_Chance_fillErrors_4 : decode prog_2_method_6_code 4 = .ok (.if_icmp .ge 36, 3) := by decide +kernel
theorem d_Chance_fillErrors_7 : decode prog_2_method_6_code 7 = .ok (.aload_n 0, 1) := by decide +kernel
theorem d_Chance_fillErrors_8 : decode prog_2_method_6_code 8 = .ok (.invokevirtual 17, 3) := by decide +kernel
theorem d_Chance_fillErrors_11 : decode prog_2_method_6_code 11 = .ok (.istore 4, 2) := by decide +kernel
theorem d_Chance_fillErrors_13 : decode prog_2_method_6_code 13 = .ok (.aload_n 1, 1) := by decide +kernel
theorem d_Chance_fillErrors_14 : decode prog_2_method_6_code 14 = .ok (.iload_n 3, 1) := by decide +kernel
theorem d_Chance_fillErrors_15 : decode prog_2_method_6_code 15 = .ok (.iload 4, 2) := by decide +kernel
theorem d_Chance_fillErrors_17 : decode prog_2_method_6_code 17 = .ok (.bipush 7, 2) := by decide +kernel
theorem d_Chance_fillErrors_19 : decode prog_2_method_6_code 19 = .ok (.iand, 1) := by decide +kernel
theorem d_Chance_fillErrors_20 : decode prog_2_method_6_code 20 = .ok (.invokestatic 21, 3) := by decide +kernel
theorem d_Chance_fillErrors_23 : decode prog_2_method_6_code 23 = .ok (.iload 4, 2) := by decide +kernel
theorem d_Chance_fillErrors_25 : decode prog_2_method_6_code 25 = .ok (.bipush 56, 2) := by decide +kernel
theorem d_Chance_fillErrors_27 : decode prog_2_method_6_code 27 = .ok (.iand, 1) := by decide +kernel
theorem d_Chance_fillErrors_28 : decode prog_2_method_6_code 28 = .ok (.invokestatic 21, 3) := by decide +kernel
theorem d_Chance_fillErrors_31 : decode prog_2_method_6_code 31 = .ok (.isub, 1) := by decide +kernel
theorem d_Chance_fillErrors_32 : decode prog_2_method_6_code 32 = .ok (.i2l, 1) := by decide +kernel
theorem d_Chance_fillErrors_33 : decode prog_2_method_6_code 33 = .ok (.lastore, 1) := by decide +kernel
theorem d_Chance_fillErrors_34 : decode prog_2_method_6_code 34 = .ok (.iinc 3 1, 3) := by decide +kernel
theorem d_Chance_fillErrors_37 : decode prog_2_method_6_code 37 = .ok (.goto (-35), 3) := by decide +kernel
theorem d_Chance_fillErrors_40 : decode prog_2_method_6_code 40 = .ok (.return_, 1) := by decide +kernel
theorem d_Chance_fillUniform_0 : decode prog_2_method_7_code 0 = .ok (.iconst 0, 1) := by decide +kernel
theorem d_Chance_fillUniform_1 : decode prog_2_method_7_code 1 = .ok (.istore_n 3, 1) := by decide +kernel
theorem d_Chance_fillUniform_2 : decode prog_2_method_7_code 2 = .ok (.iload_n 3, 1) := by decide +kernel
theorem d_Chance_fillUniform_3 : decode prog_2_method_7_code 3 = .ok (.iload_n 2, 1) := by decide +kernel
theorem d_Chance_fillUniform_4 : decode prog_2_method_7_code 4 = .ok (.if_icmp .ge 35, 3) := by decide +kernel
theorem d_Chance_fillUniform_7 : decode prog_2_method_7_code 7 = .ok (.aload_n 0, 1) := by decide +kernel
theorem d_Chance_fillUniform_8 : decode prog_2_method_7_code 8 = .ok (.invokevirtual 17, 3) := by decide +kernel
theorem d_Chance_fillUniform_11 : decode prog_2_method_7_code 11 = .ok (.i2l, 1) := by decide +kernel
theorem d_Chance_fillUniform_12 : decode prog_2_method_7_code 12 = .ok (.lstore 4, 2) := by decide +kernel
theorem d_Chance_fillUniform_14 : decode prog_2_method_7_code 14 = .ok (.aload_n 1, 1) := by decide +kernel
theorem d_Chance_fillUniform_15 : decode prog_2_method_7_code 15 = .ok (.iload_n 3, 1) := by decide +kernel
theorem d_Chance_fillUniform_16 : decode prog_2_method_7_code 16 = .ok (.ldc2_w 27, 3) := by decide +kernel
theorem d_Chance_fillUniform_19 : decode prog_2_method_7_code 19 = .ok (.lload 4, 2) := by decide +kernel
theorem d_Chance_fillUniform_21 : decode prog_2_method_7_code 21 = .ok (.lmul, 1) := by decide +kernel
theorem d_Chance_fillUniform_22 : decode prog_2_method_7_code 22 = .ok (.aload_n 0, 1) := by decide +kernel
theorem d_Chance_fillUniform_23 : decode prog_2_method_7_code 23 = .ok (.invokevirtual 17, 3) := by decide +kernel
theorem d_Chance_fillUniform_26 : decode prog_2_method_7_code 26 = .ok (.i2l, 1) := by decide +kernel
theorem d_Chance_fillUniform_27 : decode prog_2_method_7_code 27 = .ok (.ladd, 1) := by decide +kernel
theorem d_Chance_fillUniform_28 : decode prog_2_method_7_code 28 = .ok (.ldc2_w 29, 3) := by decide +kernel
theorem d_Chance_fillUniform_31 : decode prog_2_method_7_code 31 = .ok (.lrem, 1) := by decide +kernel
theorem d_Chance_fillUniform_32 : decode prog_2_method_7_code 32 = .ok (.lastore, 1) := by decide +kernel
theorem d_Chance_fillUniform_33 : decode prog_2_method_7_code 33 = .ok (.iinc 3 1, 3) := by decide +kernel
theorem d_Chance_fillUniform_36 : decode prog_2_method_7_code 36 = .ok (.goto (-34), 3) := by decide +kernel
theorem d_Chance_fillUniform_39 : decode prog_2_method_7_code 39 = .ok (.return_, 1) := by decide +kernel

theorem ff_Ring_19 : zFF "RingCipher$Ring" 19 cRing 0 := ⟨R_Ring, F_Ring, 5, t_Ring, rfl, by decide, i_Ring, t_Ring_ok, n_Ring, Or.inl ⟨List.mem_append_right _ (List.mem_of_getElem? (i := 48) (by decide +kernel)), by decide +kernel⟩⟩
theorem ff_Ring_27 : zFF "RingCipher$Ring" 27 cRing 1 := ⟨R_Ring, F_Ring, 5, t_Ring, rfl, by decide, i_Ring, t_Ring_ok, n_Ring, Or.inl ⟨List.mem_append_right _ (List.mem_of_getElem? (i := 50) (by decide +kernel)), by decide +kernel⟩⟩
theorem ff_Ring_33 : zFF "RingCipher$Ring" 33 cRing 2 := ⟨R_Ring, F_Ring, 5, t_Ring, rfl, by decide, i_Ring, t_Ring_ok, n_Ring, Or.inl ⟨List.mem_append_right _ (List.mem_of_getElem? (i := 53) (by decide +kernel)), by decide +kernel⟩⟩
theorem ff_Ring_40 : zFF "RingCipher$Ring" 40 cRing 3 := ⟨R_Ring, F_Ring, 5, t_Ring, rfl, by decide, i_Ring, t_Ring_ok, n_Ring, Or.inl ⟨List.mem_append_right _ (List.mem_of_getElem? (i := 55) (by decide +kernel)), by decide +kernel⟩⟩
theorem ff_Ring_9 : zFF "RingCipher$Ring" 9 cRing 4 := ⟨R_Ring, F_Ring, 5, t_Ring, rfl, by decide, i_Ring, t_Ring_ok, n_Ring, Or.inl ⟨List.mem_append_right _ (List.mem_of_getElem? (i := 57) (by decide +kernel)), by decide +kernel⟩⟩
theorem k_Ring_47 : zin (.constantLong "RingCipher$Ring" 47 (Int64.ofInt 268435399)) := ⟨List.mem_append_right _ (List.mem_of_getElem? (i := 389) (by decide +kernel)), by decide +kernel⟩
theorem k_Ring_58 : zin (.constantLong "RingCipher$Ring" 58 (Int64.ofInt 536870798)) := ⟨List.mem_append_right _ (List.mem_of_getElem? (i := 543) (by decide +kernel)), by decide +kernel⟩
theorem g_Ring_15 : zGV "RingCipher$Ring" 15 M_Ring_choose 1 := ⟨Or.inl ⟨List.mem_append_right _ (List.mem_of_getElem? (i := 32) (by decide +kernel)), by decide +kernel⟩, ⟨List.mem_append_right _ (List.mem_of_getElem? (i := 34) (by decide +kernel)), by decide +kernel⟩, ⟨List.mem_append_left _ (List.mem_of_getElem? (i := 0) (by decide +kernel)), by decide +kernel⟩, ⟨by decide +kernel, by decide +kernel⟩, by decide +kernel⟩
theorem g_Ring_36 : zGV "RingCipher$Ring" 36 M_Ring_leastRoot 0 := ⟨Or.inl ⟨List.mem_append_right _ (List.mem_of_getElem? (i := 40) (by decide +kernel)), by decide +kernel⟩, ⟨List.mem_append_right _ (List.mem_of_getElem? (i := 42) (by decide +kernel)), by decide +kernel⟩, ⟨List.mem_append_left _ (List.mem_of_getElem? (i := 1) (by decide +kernel)), by decide +kernel⟩, ⟨by decide +kernel, by decide +kernel⟩, by decide +kernel⟩
theorem g_Ring_43 : zGV "RingCipher$Ring" 43 M_Ring_powerModT 2 := ⟨Or.inl ⟨List.mem_append_right _ (List.mem_of_getElem? (i := 44) (by decide +kernel)), by decide +kernel⟩, ⟨List.mem_append_right _ (List.mem_of_getElem? (i := 46) (by decide +kernel)), by decide +kernel⟩, ⟨List.mem_append_left _ (List.mem_of_getElem? (i := 2) (by decide +kernel)), by decide +kernel⟩, ⟨by decide +kernel, by decide +kernel⟩, by decide +kernel⟩
theorem g_Ring_55 : zGS "RingCipher$Ring" 55 M_Math_floorMod_JJ 2 := ⟨Or.inl ⟨List.mem_append_right _ (List.mem_of_getElem? (i := 390) (by decide +kernel)), by decide +kernel⟩, ⟨List.mem_append_right _ (List.mem_of_getElem? (i := 238) (by decide +kernel)), by decide +kernel⟩, ⟨List.mem_append_right _ (List.mem_of_getElem? (i := 14) (by decide +kernel)), by decide +kernel⟩, ⟨by decide +kernel, by decide +kernel⟩, by decide +kernel⟩
theorem g_Ring_66 : zGS "RingCipher$Ring" 66 M_X_centred 1 := ⟨Or.inr ⟨"RingCipher", List.mem_append_right _ (List.mem_of_getElem? (i := 504) (by decide +kernel)), by decide +kernel⟩, ⟨List.mem_append_right _ (List.mem_of_getElem? (i := 505) (by decide +kernel)), by decide +kernel⟩, ⟨List.mem_append_right _ (List.mem_of_getElem? (i := 1) (by decide +kernel)), by decide +kernel⟩, ⟨by decide +kernel, by decide +kernel⟩, by decide +kernel⟩
theorem g_Ring_49 : zGS "RingCipher$Ring" 49 M_Math_floorDiv 2 := ⟨Or.inl ⟨List.mem_append_right _ (List.mem_of_getElem? (i := 540) (by decide +kernel)), by decide +kernel⟩, ⟨List.mem_append_right _ (List.mem_of_getElem? (i := 541) (by decide +kernel)), by decide +kernel⟩, ⟨List.mem_append_right _ (List.mem_of_getElem? (i := 14) (by decide +kernel)), by decide +kernel⟩, ⟨by decide +kernel, by decide +kernel⟩, by decide +kernel⟩
theorem co_Ring_init : zCo M_Ring_init := Or.inl ⟨⟨List.mem_append_right _ (List.mem_of_getElem? (i := 30) (by decide +kernel)), by decide +kernel⟩, rfl⟩
theorem co_Ring_choose : zCo M_Ring_choose := Or.inl ⟨⟨List.mem_append_right _ (List.mem_of_getElem? (i := 35) (by decide +kernel)), by decide +kernel⟩, rfl⟩
theorem co_Ring_leastRoot : zCo M_Ring_leastRoot := Or.inl ⟨⟨List.mem_append_right _ (List.mem_of_getElem? (i := 43) (by decide +kernel)), by decide +kernel⟩, rfl⟩
theorem co_Ring_powerModT : zCo M_Ring_powerModT := Or.inl ⟨⟨List.mem_append_right _ (List.mem_of_getElem? (i := 47) (by decide +kernel)), by decide +kernel⟩, rfl⟩
theorem co_Ring_addProduct : zCo M_Ring_addProduct := Or.inl ⟨⟨List.mem_append_right _ (List.mem_of_getElem? (i := 211) (by decide +kernel)), by decide +kernel⟩, rfl⟩
theorem co_Ring_addScaled : zCo M_Ring_addScaled := Or.inl ⟨⟨List.mem_append_right _ (List.mem_of_getElem? (i := 247) (by decide +kernel)), by decide +kernel⟩, rfl⟩
theorem co_Ring_substitute : zCo M_Ring_substitute := Or.inl ⟨⟨List.mem_append_right _ (List.mem_of_getElem? (i := 388) (by decide +kernel)), by decide +kernel⟩, rfl⟩
theorem co_Ring_evaluate : zCo M_Ring_evaluate := Or.inl ⟨⟨List.mem_append_right _ (List.mem_of_getElem? (i := 447) (by decide +kernel)), by decide +kernel⟩, rfl⟩
theorem co_Ring_interpolate : zCo M_Ring_interpolate := Or.inl ⟨⟨List.mem_append_right _ (List.mem_of_getElem? (i := 451) (by decide +kernel)), by decide +kernel⟩, rfl⟩
theorem co_Ring_scale : zCo M_Ring_scale := Or.inl ⟨⟨List.mem_append_right _ (List.mem_of_getElem? (i := 473) (by decide +kernel)), by decide +kernel⟩, rfl⟩
theorem co_Ring_reduce : zCo M_Ring_reduce := Or.inl ⟨⟨List.mem_append_right _ (List.mem_of_getElem? (i := 486) (by decide +kernel)), by decide +kernel⟩, rfl⟩
theorem co_Ring_copy : zCo M_Ring_copy := Or.inl ⟨⟨List.mem_append_right _ (List.mem_of_getElem? (i := 498) (by decide +kernel)), by decide +kernel⟩, rfl⟩
theorem co_Ring_centre : zCo M_Ring_centre := Or.inl ⟨⟨List.mem_append_right _ (List.mem_of_getElem? (i := 503) (by decide +kernel)), by decide +kernel⟩, rfl⟩
theorem co_Ring_timesTOverQ : zCo M_Ring_timesTOverQ := Or.inl ⟨⟨List.mem_append_right _ (List.mem_of_getElem? (i := 539) (by decide +kernel)), by decide +kernel⟩, rfl⟩
theorem d_Ring_init_0 : decode prog_5_method_1_code 0 = .ok (.aload_n 0, 1) := by decide +kernel
theorem d_Ring_init_1 : decode prog_5_method_1_code 1 = .ok (.invokespecial 3, 3) := by decide +kernel
theorem d_Ring_init_4 : decode prog_5_method_1_code 4 = .ok (.aload_n 0, 1) := by decide +kernel
theorem d_Ring_init_5 : decode prog_5_method_1_code 5 = .ok (.bipush 64, 2) := by decide +kernel
theorem d_Ring_init_7 : decode prog_5_method_1_code 7 = .ok (.newarray .long, 2) := by decide +kernel
theorem d_Ring_init_9 : decode prog_5_method_1_code 9 = .ok (.putfield 9, 3) := by decide +kernel
theorem d_Ring_init_12 : decode prog_5_method_1_code 12 = .ok (.aload_n 0, 1) := by decide +kernel
theorem d_Ring_init_13 : decode prog_5_method_1_code 13 = .ok (.iconst 0, 1) := by decide +kernel
theorem d_Ring_init_14 : decode prog_5_method_1_code 14 = .ok (.invokevirtual 15, 3) := by decide +kernel
theorem d_Ring_init_17 : decode prog_5_method_1_code 17 = .ok (.return_, 1) := by decide +kernel
theorem d_Ring_choose_0 : decode prog_5_method_2_code 0 = .ok (.aload_n 0, 1) := by decide +kernel
theorem d_Ring_choose_1 : decode prog_5_method_2_code 1 = .ok (.iload_n 1, 1) := by decide +kernel
theorem d_Ring_choose_2 : decode prog_5_method_2_code 2 = .ok (.putfield 19, 3) := by decide +kernel
theorem d_Ring_choose_5 : decode prog_5_method_2_code 5 = .ok (.aload_n 0, 1) := by decide +kernel
theorem d_Ring_choose_6 : decode prog_5_method_2_code 6 = .ok (.getstatic 23, 3) := by decide +kernel
theorem d_Ring_choose_9 : decode prog_5_method_2_code 9 = .ok (.iload_n 1, 1) := by decide +kernel
theorem d_Ring_choose_10 : decode prog_5_method_2_code 10 = .ok (.iaload, 1) := by decide +kernel
theorem d_Ring_choose_11 : decode prog_5_method_2_code 11 = .ok (.putfield 27, 3) := by decide +kernel
theorem d_Ring_choose_14 : decode prog_5_method_2_code 14 = .ok (.aload_n 0, 1) := by decide +kernel
theorem d_Ring_choose_15 : decode prog_5_method_2_code 15 = .ok (.getstatic 30, 3) := by decide +kernel
theorem d_Ring_choose_18 : decode prog_5_method_2_code 18 = .ok (.iload_n 1, 1) := by decide +kernel
theorem d_Ring_choose_19 : decode prog_5_method_2_code 19 = .ok (.iaload, 1) := by decide +kernel
theorem d_Ring_choose_20 : decode prog_5_method_2_code 20 = .ok (.putfield 33, 3) := by decide +kernel
theorem d_Ring_choose_23 : decode prog_5_method_2_code 23 = .ok (.aload_n 0, 1) := by decide +kernel
theorem d_Ring_choose_24 : decode prog_5_method_2_code 24 = .ok (.aload_n 0, 1) := by decide +kernel
theorem d_Ring_choose_25 : decode prog_5_method_2_code 25 = .ok (.invokevirtual 36, 3) := by decide +kernel
theorem d_Ring_choose_28 : decode prog_5_method_2_code 28 = .ok (.putfield 40, 3) := by decide +kernel
theorem d_Ring_choose_31 : decode prog_5_method_2_code 31 = .ok (.lconst 1, 1) := by decide +kernel
theorem d_Ring_choose_32 : decode prog_5_method_2_code 32 = .ok (.lstore_n 2, 1) := by decide +kernel
theorem d_Ring_choose_33 : decode prog_5_method_2_code 33 = .ok (.iconst 0, 1) := by decide +kernel
theorem d_Ring_choose_34 : decode prog_5_method_2_code 34 = .ok (.istore 4, 2) := by decide +kernel
theorem d_Ring_choose_36 : decode prog_5_method_2_code 36 = .ok (.iload 4, 2) := by decide +kernel
theorem d_Ring_choose_38 : decode prog_5_method_2_code 38 = .ok (.iconst 2, 1) := by decide +kernel
theorem d_Ring_choose_39 : decode prog_5_method_2_code 39 = .ok (.aload_n 0, 1) := by decide +kernel
theorem d_Ring_choose_40 : decode prog_5_method_2_code 40 = .ok (.getfield 27, 3) := by decide +kernel
theorem d_Ring_choose_43 : decode prog_5_method_2_code 43 = .ok (.imul, 1) := by decide +kernel
theorem d_Ring_choose_44 : decode prog_5_method_2_code 44 = .ok (.if_icmp .ge 31, 3) := by decide +kernel
theorem d_Ring_choose_47 : decode prog_5_method_2_code 47 = .ok (.aload_n 0, 1) := by decide +kernel
theorem d_Ring_choose_48 : decode prog_5_method_2_code 48 = .ok (.getfield 9, 3) := by decide +kernel
theorem d_Ring_choose_51 : decode prog_5_method_2_code 51 = .ok (.iload 4, 2) := by decide +kernel
theorem d_Ring_choose_53 : decode prog_5_method_2_code 53 = .ok (.lload_n 2, 1) := by decide +kernel
theorem d_Ring_choose_54 : decode prog_5_method_2_code 54 = .ok (.lastore, 1) := by decide +kernel
theorem d_Ring_choose_55 : decode prog_5_method_2_code 55 = .ok (.lload_n 2, 1) := by decide +kernel
theorem d_Ring_choose_56 : decode prog_5_method_2_code 56 = .ok (.aload_n 0, 1) := by decide +kernel
theorem d_Ring_choose_57 : decode prog_5_method_2_code 57 = .ok (.getfield 40, 3) := by decide +kernel
theorem d_Ring_choose_60 : decode prog_5_method_2_code 60 = .ok (.i2l, 1) := by decide +kernel
theorem d_Ring_choose_61 : decode prog_5_method_2_code 61 = .ok (.lmul, 1) := by decide +kernel
theorem d_Ring_choose_62 : decode prog_5_method_2_code 62 = .ok (.aload_n 0, 1) := by decide +kernel
theorem d_Ring_choose_63 : decode prog_5_method_2_code 63 = .ok (.getfield 33, 3) := by decide +kernel
theorem d_Ring_choose_66 : decode prog_5_method_2_code 66 = .ok (.i2l, 1) := by decide +kernel
theorem d_Ring_choose_67 : decode prog_5_method_2_code 67 = .ok (.lrem, 1) := by decide +kernel
theorem d_Ring_choose_68 : decode prog_5_method_2_code 68 = .ok (.lstore_n 2, 1) := by decide +kernel
theorem d_Ring_choose_69 : decode prog_5_method_2_code 69 = .ok (.iinc 4 1, 3) := by decide +kernel
theorem d_Ring_choose_72 : decode prog_5_method_2_code 72 = .ok (.goto (-36), 3) := by decide +kernel
theorem d_Ring_choose_75 : decode prog_5_method_2_code 75 = .ok (.return_, 1) := by decide +kernel
theorem d_Ring_leastRoot_0 : decode prog_5_method_3_code 0 = .ok (.iconst 2, 1) := by decide +kernel
theorem d_Ring_leastRoot_1 : decode prog_5_method_3_code 1 = .ok (.istore_n 1, 1) := by decide +kernel
theorem d_Ring_leastRoot_2 : decode prog_5_method_3_code 2 = .ok (.iload_n 1, 1) := by decide +kernel
theorem d_Ring_leastRoot_3 : decode prog_5_method_3_code 3 = .ok (.aload_n 0, 1) := by decide +kernel
theorem d_Ring_leastRoot_4 : decode prog_5_method_3_code 4 = .ok (.getfield 33, 3) := by decide +kernel
theorem d_Ring_leastRoot_7 : decode prog_5_method_3_code 7 = .ok (.if_icmp .ge 30, 3) := by decide +kernel
theorem d_Ring_leastRoot_10 : decode prog_5_method_3_code 10 = .ok (.aload_n 0, 1) := by decide +kernel
theorem d_Ring_leastRoot_11 : decode prog_5_method_3_code 11 = .ok (.iload_n 1, 1) := by decide +kernel
theorem d_Ring_leastRoot_12 : decode prog_5_method_3_code 12 = .ok (.i2l, 1) := by decide +kernel
theorem d_Ring_leastRoot_13 : decode prog_5_method_3_code 13 = .ok (.aload_n 0, 1) := by decide +kernel
theorem d_Ring_leastRoot_14 : decode prog_5_method_3_code 14 = .ok (.getfield 27, 3) := by decide +kernel
theorem d_Ring_leastRoot_17 : decode prog_5_method_3_code 17 = .ok (.invokevirtual 43, 3) := by decide +kernel
theorem d_Ring_leastRoot_20 : decode prog_5_method_3_code 20 = .ok (.aload_n 0, 1) := by decide +kernel
theorem d_Ring_leastRoot_21 : decode prog_5_method_3_code 21 = .ok (.getfield 33, 3) := by decide +kernel
theorem d_Ring_leastRoot_24 : decode prog_5_method_3_code 24 = .ok (.iconst 1, 1) := by decide +kernel
theorem d_Ring_leastRoot_25 : decode prog_5_method_3_code 25 = .ok (.isub, 1) := by decide +kernel
theorem d_Ring_leastRoot_26 : decode prog_5_method_3_code 26 = .ok (.i2l, 1) := by decide +kernel
theorem d_Ring_leastRoot_27 : decode prog_5_method_3_code 27 = .ok (.lcmp, 1) := by decide +kernel
theorem d_Ring_leastRoot_28 : decode prog_5_method_3_code 28 = .ok (.ifCond .eq 9, 3) := by decide +kernel
theorem d_Ring_leastRoot_31 : decode prog_5_method_3_code 31 = .ok (.iinc 1 1, 3) := by decide +kernel
theorem d_Ring_leastRoot_34 : decode prog_5_method_3_code 34 = .ok (.goto (-32), 3) := by decide +kernel
theorem d_Ring_leastRoot_37 : decode prog_5_method_3_code 37 = .ok (.iload_n 1, 1) := by decide +kernel
theorem d_Ring_leastRoot_38 : decode prog_5_method_3_code 38 = .ok (.ireturn, 1) := by decide +kernel
theorem d_Ring_powerModT_0 : decode prog_5_method_4_code 0 = .ok (.lconst 1, 1) := by decide +kernel
theorem d_Ring_powerModT_1 : decode prog_5_method_4_code 1 = .ok (.lstore 4, 2) := by decide +kernel
theorem d_Ring_powerModT_3 : decode prog_5_method_4_code 3 = .ok (.iconst 0, 1) := by decide +kernel
theorem d_Ring_powerModT_4 : decode prog_5_method_4_code 4 = .ok (.istore 6, 2) := by decide +kernel
theorem d_Ring_powerModT_6 : decode prog_5_method_4_code 6 = .ok (.iload 6, 2) := by decide +kernel
theorem d_Ring_powerModT_8 : decode prog_5_method_4_code 8 = .ok (.iload_n 3, 1) := by decide +kernel
theorem d_Ring_powerModT_9 : decode prog_5_method_4_code 9 = .ok (.if_icmp .ge 21, 3) := by decide +kernel
theorem d_Ring_powerModT_12 : decode prog_5_method_4_code 12 = .ok (.lload 4, 2) := by decide +kernel
theorem d_Ring_powerModT_14 : decode prog_5_method_4_code 14 = .ok (.lload_n 1, 1) := by decide +kernel
theorem d_Ring_powerModT_15 : decode prog_5_method_4_code 15 = .ok (.lmul, 1) := by decide +kernel
theorem d_Ring_powerModT_16 : decode prog_5_method_4_code 16 = .ok (.aload_n 0, 1) := by decide +kernel
theorem d_Ring_powerModT_17 : decode prog_5_method_4_code 17 = .ok (.getfield 33, 3) := by decide +kernel
theorem d_Ring_powerModT_20 : decode prog_5_method_4_code 20 = .ok (.i2l, 1) := by decide +kernel
theorem d_Ring_powerModT_21 : decode prog_5_method_4_code 21 = .ok (.lrem, 1) := by decide +kernel
theorem d_Ring_powerModT_22 : decode prog_5_method_4_code 22 = .ok (.lstore 4, 2) := by decide +kernel
theorem d_Ring_powerModT_24 : decode prog_5_method_4_code 24 = .ok (.iinc 6 1, 3) := by decide +kernel
theorem d_Ring_powerModT_27 : decode prog_5_method_4_code 27 = .ok (.goto (-21), 3) := by decide +kernel
theorem d_Ring_powerModT_30 : decode prog_5_method_4_code 30 = .ok (.lload 4, 2) := by decide +kernel
theorem d_Ring_powerModT_32 : decode prog_5_method_4_code 32 = .ok (.lreturn, 1) := by decide +kernel
theorem d_Ring_scale_0 : decode prog_5_method_5_code 0 = .ok (.ldc2_w 47, 3) := by decide +kernel
theorem d_Ring_scale_3 : decode prog_5_method_5_code 3 = .ok (.aload_n 0, 1) := by decide +kernel
theorem d_Ring_scale_4 : decode prog_5_method_5_code 4 = .ok (.getfield 33, 3) := by decide +kernel
theorem d_Ring_scale_7 : decode prog_5_method_5_code 7 = .ok (.i2l, 1) := by decide +kernel
theorem d_Ring_scale_8 : decode prog_5_method_5_code 8 = .ok (.ldiv, 1) := by decide +kernel
theorem d_Ring_scale_9 : decode prog_5_method_5_code 9 = .ok (.lreturn, 1) := by decide +kernel
theorem d_Ring_timesTOverQ_0 : decode prog_5_method_6_code 0 = .ok (.lload_n 1, 1) := by decide +kernel
theorem d_Ring_timesTOverQ_1 : decode prog_5_method_6_code 1 = .ok (.ldc2_w 47, 3) := by decide +kernel
theorem d_Ring_timesTOverQ_4 : decode prog_5_method_6_code 4 = .ok (.invokestatic 49, 3) := by decide +kernel
theorem d_Ring_timesTOverQ_7 : decode prog_5_method_6_code 7 = .ok (.lstore_n 3, 1) := by decide +kernel
theorem d_Ring_timesTOverQ_8 : decode prog_5_method_6_code 8 = .ok (.lload_n 1, 1) := by decide +kernel
theorem d_Ring_timesTOverQ_9 : decode prog_5_method_6_code 9 = .ok (.ldc2_w 47, 3) := by decide +kernel
theorem d_Ring_timesTOverQ_12 : decode prog_5_method_6_code 12 = .ok (.invokestatic 55, 3) := by decide +kernel
theorem d_Ring_timesTOverQ_15 : decode prog_5_method_6_code 15 = .ok (.lstore 5, 2) := by decide +kernel
theorem d_Ring_timesTOverQ_17 : decode prog_5_method_6_code 17 = .ok (.aload_n 0, 1) := by decide +kernel
theorem d_Ring_timesTOverQ_18 : decode prog_5_method_6_code 18 = .ok (.getfield 33, 3) := by decide +kernel
theorem d_Ring_timesTOverQ_21 : decode prog_5_method_6_code 21 = .ok (.i2l, 1) := by decide +kernel
theorem d_Ring_timesTOverQ_22 : decode prog_5_method_6_code 22 = .ok (.lload_n 3, 1) := by decide +kernel
theorem d_Ring_timesTOverQ_23 : decode prog_5_method_6_code 23 = .ok (.lmul, 1) := by decide +kernel
theorem d_Ring_timesTOverQ_24 : decode prog_5_method_6_code 24 = .ok (.iconst 2, 1) := by decide +kernel
theorem d_Ring_timesTOverQ_25 : decode prog_5_method_6_code 25 = .ok (.aload_n 0, 1) := by decide +kernel
theorem d_Ring_timesTOverQ_26 : decode prog_5_method_6_code 26 = .ok (.getfield 33, 3) := by decide +kernel
theorem d_Ring_timesTOverQ_29 : decode prog_5_method_6_code 29 = .ok (.imul, 1) := by decide +kernel
theorem d_Ring_timesTOverQ_30 : decode prog_5_method_6_code 30 = .ok (.i2l, 1) := by decide +kernel
theorem d_Ring_timesTOverQ_31 : decode prog_5_method_6_code 31 = .ok (.lload 5, 2) := by decide +kernel
theorem d_Ring_timesTOverQ_33 : decode prog_5_method_6_code 33 = .ok (.lmul, 1) := by decide +kernel
theorem d_Ring_timesTOverQ_34 : decode prog_5_method_6_code 34 = .ok (.ldc2_w 47, 3) := by decide +kernel
theorem d_Ring_timesTOverQ_37 : decode prog_5_method_6_code 37 = .ok (.ladd, 1) := by decide +kernel
theorem d_Ring_timesTOverQ_38 : decode prog_5_method_6_code 38 = .ok (.ldc2_w 58, 3) := by decide +kernel
theorem d_Ring_timesTOverQ_41 : decode prog_5_method_6_code 41 = .ok (.ldiv, 1) := by decide +kernel
theorem d_Ring_timesTOverQ_42 : decode prog_5_method_6_code 42 = .ok (.ladd, 1) := by decide +kernel
theorem d_Ring_timesTOverQ_43 : decode prog_5_method_6_code 43 = .ok (.lreturn, 1) := by decide +kernel
theorem d_Ring_evaluate_0 : decode prog_5_method_7_code 0 = .ok (.iconst 0, 1) := by decide +kernel
theorem d_Ring_evaluate_1 : decode prog_5_method_7_code 1 = .ok (.istore_n 3, 1) := by decide +kernel
theorem d_Ring_evaluate_2 : decode prog_5_method_7_code 2 = .ok (.iload_n 3, 1) := by decide +kernel
theorem d_Ring_evaluate_3 : decode prog_5_method_7_code 3 = .ok (.aload_n 0, 1) := by decide +kernel
theorem d_Ring_evaluate_4 : decode prog_5_method_7_code 4 = .ok (.getfield 27, 3) := by decide +kernel
theorem d_Ring_evaluate_7 : decode prog_5_method_7_code 7 = .ok (.if_icmp .ge 71, 3) := by decide +kernel
theorem d_Ring_evaluate_10 : decode prog_5_method_7_code 10 = .ok (.lconst 0, 1) := by decide +kernel
theorem d_Ring_evaluate_11 : decode prog_5_method_7_code 11 = .ok (.lstore 4, 2) := by decide +kernel
theorem d_Ring_evaluate_13 : decode prog_5_method_7_code 13 = .ok (.iconst 0, 1) := by decide +kernel
theorem d_Ring_evaluate_14 : decode prog_5_method_7_code 14 = .ok (.istore 6, 2) := by decide +kernel
theorem d_Ring_evaluate_16 : decode prog_5_method_7_code 16 = .ok (.iload 6, 2) := by decide +kernel
theorem d_Ring_evaluate_18 : decode prog_5_method_7_code 18 = .ok (.aload_n 0, 1) := by decide +kernel
theorem d_Ring_evaluate_19 : decode prog_5_method_7_code 19 = .ok (.getfield 27, 3) := by decide +kernel
theorem d_Ring_evaluate_22 : decode prog_5_method_7_code 22 = .ok (.if_icmp .ge 39, 3) := by decide +kernel
theorem d_Ring_evaluate_25 : decode prog_5_method_7_code 25 = .ok (.lload 4, 2) := by decide +kernel
theorem d_Ring_evaluate_27 : decode prog_5_method_7_code 27 = .ok (.aload_n 2, 1) := by decide +kernel
theorem d_Ring_evaluate_28 : decode prog_5_method_7_code 28 = .ok (.iload 6, 2) := by decide +kernel
theorem d_Ring_evaluate_30 : decode prog_5_method_7_code 30 = .ok (.laload, 1) := by decide +kernel
theorem d_Ring_evaluate_31 : decode prog_5_method_7_code 31 = .ok (.aload_n 0, 1) := by decide +kernel
theorem d_Ring_evaluate_32 : decode prog_5_method_7_code 32 = .ok (.getfield 9, 3) := by decide +kernel
theorem d_Ring_evaluate_35 : decode prog_5_method_7_code 35 = .ok (.iconst 2, 1) := by decide +kernel
theorem d_Ring_evaluate_36 : decode prog_5_method_7_code 36 = .ok (.iload_n 3, 1) := by decide +kernel
theorem d_Ring_evaluate_37 : decode prog_5_method_7_code 37 = .ok (.imul, 1) := by decide +kernel
theorem d_Ring_evaluate_38 : decode prog_5_method_7_code 38 = .ok (.iconst 1, 1) := by decide +kernel
theorem d_Ring_evaluate_39 : decode prog_5_method_7_code 39 = .ok (.iadd, 1) := by decide +kernel
theorem d_Ring_evaluate_40 : decode prog_5_method_7_code 40 = .ok (.iload 6, 2) := by decide +kernel
theorem d_Ring_evaluate_42 : decode prog_5_method_7_code 42 = .ok (.imul, 1) := by decide +kernel
theorem d_Ring_evaluate_43 : decode prog_5_method_7_code 43 = .ok (.iconst 2, 1) := by decide +kernel
theorem d_Ring_evaluate_44 : decode prog_5_method_7_code 44 = .ok (.aload_n 0, 1) := by decide +kernel
theorem d_Ring_evaluate_45 : decode prog_5_method_7_code 45 = .ok (.getfield 27, 3) := by decide +kernel
theorem d_Ring_evaluate_48 : decode prog_5_method_7_code 48 = .ok (.imul, 1) := by decide +kernel
theorem d_Ring_evaluate_49 : decode prog_5_method_7_code 49 = .ok (.irem, 1) := by decide +kernel
theorem d_Ring_evaluate_50 : decode prog_5_method_7_code 50 = .ok (.laload, 1) := by decide +kernel
theorem d_Ring_evaluate_51 : decode prog_5_method_7_code 51 = .ok (.lmul, 1) := by decide +kernel
theorem d_Ring_evaluate_52 : decode prog_5_method_7_code 52 = .ok (.ladd, 1) := by decide +kernel
theorem d_Ring_evaluate_53 : decode prog_5_method_7_code 53 = .ok (.lstore 4, 2) := by decide +kernel
theorem d_Ring_evaluate_55 : decode prog_5_method_7_code 55 = .ok (.iinc 6 1, 3) := by decide +kernel
theorem d_Ring_evaluate_58 : decode prog_5_method_7_code 58 = .ok (.goto (-42), 3) := by decide +kernel
theorem d_Ring_evaluate_61 : decode prog_5_method_7_code 61 = .ok (.aload_n 1, 1) := by decide +kernel
theorem d_Ring_evaluate_62 : decode prog_5_method_7_code 62 = .ok (.iload_n 3, 1) := by decide +kernel
theorem d_Ring_evaluate_63 : decode prog_5_method_7_code 63 = .ok (.lload 4, 2) := by decide +kernel
theorem d_Ring_evaluate_65 : decode prog_5_method_7_code 65 = .ok (.aload_n 0, 1) := by decide +kernel
theorem d_Ring_evaluate_66 : decode prog_5_method_7_code 66 = .ok (.getfield 33, 3) := by decide +kernel
theorem d_Ring_evaluate_69 : decode prog_5_method_7_code 69 = .ok (.i2l, 1) := by decide +kernel
theorem d_Ring_evaluate_70 : decode prog_5_method_7_code 70 = .ok (.lrem, 1) := by decide +kernel
theorem d_Ring_evaluate_71 : decode prog_5_method_7_code 71 = .ok (.lastore, 1) := by decide +kernel
theorem d_Ring_evaluate_72 : decode prog_5_method_7_code 72 = .ok (.iinc 3 1, 3) := by decide +kernel
theorem d_Ring_evaluate_75 : decode prog_5_method_7_code 75 = .ok (.goto (-73), 3) := by decide +kernel
theorem d_Ring_evaluate_78 : decode prog_5_method_7_code 78 = .ok (.return_, 1) := by decide +kernel
theorem d_Ring_interpolate_0 : decode prog_5_method_8_code 0 = .ok (.aload_n 0, 1) := by decide +kernel
theorem d_Ring_interpolate_1 : decode prog_5_method_8_code 1 = .ok (.aload_n 0, 1) := by decide +kernel
theorem d_Ring_interpolate_2 : decode prog_5_method_8_code 2 = .ok (.getfield 27, 3) := by decide +kernel
theorem d_Ring_interpolate_5 : decode prog_5_method_8_code 5 = .ok (.i2l, 1) := by decide +kernel
theorem d_Ring_interpolate_6 : decode prog_5_method_8_code 6 = .ok (.aload_n 0, 1) := by decide +kernel
theorem d_Ring_interpolate_7 : decode prog_5_method_8_code 7 = .ok (.getfield 33, 3) := by decide +kernel
theorem d_Ring_interpolate_10 : decode prog_5_method_8_code 10 = .ok (.iconst 2, 1) := by decide +kernel
theorem d_Ring_interpolate_11 : decode prog_5_method_8_code 11 = .ok (.isub, 1) := by decide +kernel
theorem d_Ring_interpolate_12 : decode prog_5_method_8_code 12 = .ok (.invokevirtual 43, 3) := by decide +kernel
theorem d_Ring_interpolate_15 : decode prog_5_method_8_code 15 = .ok (.lstore_n 3, 1) := by decide +kernel
theorem d_Ring_interpolate_16 : decode prog_5_method_8_code 16 = .ok (.iconst 0, 1) := by decide +kernel
theorem d_Ring_interpolate_17 : decode prog_5_method_8_code 17 = .ok (.istore 5, 2) := by decide +kernel
theorem d_Ring_interpolate_19 : decode prog_5_method_8_code 19 = .ok (.iload 5, 2) := by decide +kernel
theorem d_Ring_interpolate_21 : decode prog_5_method_8_code 21 = .ok (.aload_n 0, 1) := by decide +kernel
theorem d_Ring_interpolate_22 : decode prog_5_method_8_code 22 = .ok (.getfield 27, 3) := by decide +kernel
theorem d_Ring_interpolate_25 : decode prog_5_method_8_code 25 = .ok (.if_icmp .ge 90, 3) := by decide +kernel
theorem d_Ring_interpolate_28 : decode prog_5_method_8_code 28 = .ok (.lconst 0, 1) := by decide +kernel
theorem d_Ring_interpolate_29 : decode prog_5_method_8_code 29 = .ok (.lstore 6, 2) := by decide +kernel
theorem d_Ring_interpolate_31 : decode prog_5_method_8_code 31 = .ok (.iconst 0, 1) := by decide +kernel
theorem d_Ring_interpolate_32 : decode prog_5_method_8_code 32 = .ok (.istore 8, 2) := by decide +kernel
theorem d_Ring_interpolate_34 : decode prog_5_method_8_code 34 = .ok (.iload 8, 2) := by decide +kernel
theorem d_Ring_interpolate_36 : decode prog_5_method_8_code 36 = .ok (.aload_n 0, 1) := by decide +kernel
theorem d_Ring_interpolate_37 : decode prog_5_method_8_code 37 = .ok (.getfield 27, 3) := by decide +kernel
theorem d_Ring_interpolate_40 : decode prog_5_method_8_code 40 = .ok (.if_icmp .ge 49, 3) := by decide +kernel
theorem d_Ring_interpolate_43 : decode prog_5_method_8_code 43 = .ok (.lload 6, 2) := by decide +kernel
theorem d_Ring_interpolate_45 : decode prog_5_method_8_code 45 = .ok (.aload_n 2, 1) := by decide +kernel
theorem d_Ring_interpolate_46 : decode prog_5_method_8_code 46 = .ok (.iload 8, 2) := by decide +kernel
theorem d_Ring_interpolate_48 : decode prog_5_method_8_code 48 = .ok (.laload, 1) := by decide +kernel
theorem d_Ring_interpolate_49 : decode prog_5_method_8_code 49 = .ok (.aload_n 0, 1) := by decide +kernel
theorem d_Ring_interpolate_50 : decode prog_5_method_8_code 50 = .ok (.getfield 9, 3) := by decide +kernel
theorem d_Ring_interpolate_53 : decode prog_5_method_8_code 53 = .ok (.iconst 2, 1) := by decide +kernel
theorem d_Ring_interpolate_54 : decode prog_5_method_8_code 54 = .ok (.aload_n 0, 1) := by decide +kernel
theorem d_Ring_interpolate_55 : decode prog_5_method_8_code 55 = .ok (.getfield 27, 3) := by decide +kernel
theorem d_Ring_interpolate_58 : decode prog_5_method_8_code 58 = .ok (.imul, 1) := by decide +kernel
theorem d_Ring_interpolate_59 : decode prog_5_method_8_code 59 = .ok (.iconst 1, 1) := by decide +kernel
theorem d_Ring_interpolate_60 : decode prog_5_method_8_code 60 = .ok (.isub, 1) := by decide +kernel
theorem d_Ring_interpolate_61 : decode prog_5_method_8_code 61 = .ok (.iconst 2, 1) := by decide +kernel
theorem d_Ring_interpolate_62 : decode prog_5_method_8_code 62 = .ok (.iload 8, 2) := by decide +kernel
theorem d_Ring_interpolate_64 : decode prog_5_method_8_code 64 = .ok (.imul, 1) := by decide +kernel
theorem d_Ring_interpolate_65 : decode prog_5_method_8_code 65 = .ok (.iconst 1, 1) := by decide +kernel
theorem d_Ring_interpolate_66 : decode prog_5_method_8_code 66 = .ok (.iadd, 1) := by decide +kernel
theorem d_Ring_interpolate_67 : decode prog_5_method_8_code 67 = .ok (.imul, 1) := by decide +kernel
theorem d_Ring_interpolate_68 : decode prog_5_method_8_code 68 = .ok (.iload 5, 2) := by decide +kernel
theorem d_Ring_interpolate_70 : decode prog_5_method_8_code 70 = .ok (.imul, 1) := by decide +kernel
theorem d_Ring_interpolate_71 : decode prog_5_method_8_code 71 = .ok (.iconst 2, 1) := by decide +kernel
theorem d_Ring_interpolate_72 : decode prog_5_method_8_code 72 = .ok (.aload_n 0, 1) := by decide +kernel
theorem d_Ring_interpolate_73 : decode prog_5_method_8_code 73 = .ok (.getfield 27, 3) := by decide +kernel
theorem d_Ring_interpolate_76 : decode prog_5_method_8_code 76 = .ok (.imul, 1) := by decide +kernel
theorem d_Ring_interpolate_77 : decode prog_5_method_8_code 77 = .ok (.irem, 1) := by decide +kernel
theorem d_Ring_interpolate_78 : decode prog_5_method_8_code 78 = .ok (.laload, 1) := by decide +kernel
theorem d_Ring_interpolate_79 : decode prog_5_method_8_code 79 = .ok (.lmul, 1) := by decide +kernel
theorem d_Ring_interpolate_80 : decode prog_5_method_8_code 80 = .ok (.ladd, 1) := by decide +kernel
theorem d_Ring_interpolate_81 : decode prog_5_method_8_code 81 = .ok (.lstore 6, 2) := by decide +kernel
theorem d_Ring_interpolate_83 : decode prog_5_method_8_code 83 = .ok (.iinc 8 1, 3) := by decide +kernel
theorem d_Ring_interpolate_86 : decode prog_5_method_8_code 86 = .ok (.goto (-52), 3) := by decide +kernel
theorem d_Ring_interpolate_89 : decode prog_5_method_8_code 89 = .ok (.aload_n 1, 1) := by decide +kernel
theorem d_Ring_interpolate_90 : decode prog_5_method_8_code 90 = .ok (.iload 5, 2) := by decide +kernel
theorem d_Ring_interpolate_92 : decode prog_5_method_8_code 92 = .ok (.lload 6, 2) := by decide +kernel
theorem d_Ring_interpolate_94 : decode prog_5_method_8_code 94 = .ok (.aload_n 0, 1) := by decide +kernel
theorem d_Ring_interpolate_95 : decode prog_5_method_8_code 95 = .ok (.getfield 33, 3) := by decide +kernel
theorem d_Ring_interpolate_98 : decode prog_5_method_8_code 98 = .ok (.i2l, 1) := by decide +kernel
theorem d_Ring_interpolate_99 : decode prog_5_method_8_code 99 = .ok (.lrem, 1) := by decide +kernel
theorem d_Ring_interpolate_100 : decode prog_5_method_8_code 100 = .ok (.lload_n 3, 1) := by decide +kernel
theorem d_Ring_interpolate_101 : decode prog_5_method_8_code 101 = .ok (.lmul, 1) := by decide +kernel
theorem d_Ring_interpolate_102 : decode prog_5_method_8_code 102 = .ok (.aload_n 0, 1) := by decide +kernel
theorem d_Ring_interpolate_103 : decode prog_5_method_8_code 103 = .ok (.getfield 33, 3) := by decide +kernel
theorem d_Ring_interpolate_106 : decode prog_5_method_8_code 106 = .ok (.i2l, 1) := by decide +kernel
theorem d_Ring_interpolate_107 : decode prog_5_method_8_code 107 = .ok (.lrem, 1) := by decide +kernel
theorem d_Ring_interpolate_108 : decode prog_5_method_8_code 108 = .ok (.lastore, 1) := by decide +kernel
theorem d_Ring_interpolate_109 : decode prog_5_method_8_code 109 = .ok (.iinc 5 1, 3) := by decide +kernel
theorem d_Ring_interpolate_112 : decode prog_5_method_8_code 112 = .ok (.goto (-93), 3) := by decide +kernel
theorem d_Ring_interpolate_115 : decode prog_5_method_8_code 115 = .ok (.return_, 1) := by decide +kernel
theorem d_Ring_addProduct_0 : decode prog_5_method_9_code 0 = .ok (.iconst 0, 1) := by decide +kernel
theorem d_Ring_addProduct_1 : decode prog_5_method_9_code 1 = .ok (.istore 4, 2) := by decide +kernel
theorem d_Ring_addProduct_3 : decode prog_5_method_9_code 3 = .ok (.iload 4, 2) := by decide +kernel
theorem d_Ring_addProduct_5 : decode prog_5_method_9_code 5 = .ok (.aload_n 0, 1) := by decide +kernel
theorem d_Ring_addProduct_6 : decode prog_5_method_9_code 6 = .ok (.getfield 27, 3) := by decide +kernel
theorem d_Ring_addProduct_9 : decode prog_5_method_9_code 9 = .ok (.if_icmp .ge 99, 3) := by decide +kernel
theorem d_Ring_addProduct_12 : decode prog_5_method_9_code 12 = .ok (.aload_n 2, 1) := by decide +kernel
theorem d_Ring_addProduct_13 : decode prog_5_method_9_code 13 = .ok (.iload 4, 2) := by decide +kernel
theorem d_Ring_addProduct_15 : decode prog_5_method_9_code 15 = .ok (.laload, 1) := by decide +kernel
theorem d_Ring_addProduct_16 : decode prog_5_method_9_code 16 = .ok (.lstore 5, 2) := by decide +kernel
theorem d_Ring_addProduct_18 : decode prog_5_method_9_code 18 = .ok (.iconst 0, 1) := by decide +kernel
theorem d_Ring_addProduct_19 : decode prog_5_method_9_code 19 = .ok (.istore 7, 2) := by decide +kernel
theorem d_Ring_addProduct_21 : decode prog_5_method_9_code 21 = .ok (.iload 7, 2) := by decide +kernel
theorem d_Ring_addProduct_23 : decode prog_5_method_9_code 23 = .ok (.aload_n 0, 1) := by decide +kernel
theorem d_Ring_addProduct_24 : decode prog_5_method_9_code 24 = .ok (.getfield 27, 3) := by decide +kernel
theorem d_Ring_addProduct_27 : decode prog_5_method_9_code 27 = .ok (.iload 4, 2) := by decide +kernel
theorem d_Ring_addProduct_29 : decode prog_5_method_9_code 29 = .ok (.isub, 1) := by decide +kernel
theorem d_Ring_addProduct_30 : decode prog_5_method_9_code 30 = .ok (.if_icmp .ge 26, 3) := by decide +kernel
theorem d_Ring_addProduct_33 : decode prog_5_method_9_code 33 = .ok (.aload_n 1, 1) := by decide +kernel
theorem d_Ring_addProduct_34 : decode prog_5_method_9_code 34 = .ok (.iload 4, 2) := by decide +kernel
theorem d_Ring_addProduct_36 : decode prog_5_method_9_code 36 = .ok (.iload 7, 2) := by decide +kernel
theorem d_Ring_addProduct_38 : decode prog_5_method_9_code 38 = .ok (.iadd, 1) := by decide +kernel
theorem d_Ring_addProduct_39 : decode prog_5_method_9_code 39 = .ok (.dup2, 1) := by decide +kernel
theorem d_Ring_addProduct_40 : decode prog_5_method_9_code 40 = .ok (.laload, 1) := by decide +kernel
theorem d_Ring_addProduct_41 : decode prog_5_method_9_code 41 = .ok (.lload 5, 2) := by decide +kernel
theorem d_Ring_addProduct_43 : decode prog_5_method_9_code 43 = .ok (.aload_n 3, 1) := by decide +kernel
theorem d_Ring_addProduct_44 : decode prog_5_method_9_code 44 = .ok (.iload 7, 2) := by decide +kernel
theorem d_Ring_addProduct_46 : decode prog_5_method_9_code 46 = .ok (.laload, 1) := by decide +kernel
theorem d_Ring_addProduct_47 : decode prog_5_method_9_code 47 = .ok (.lmul, 1) := by decide +kernel
theorem d_Ring_addProduct_48 : decode prog_5_method_9_code 48 = .ok (.ladd, 1) := by decide +kernel
theorem d_Ring_addProduct_49 : decode prog_5_method_9_code 49 = .ok (.lastore, 1) := by decide +kernel
theorem d_Ring_addProduct_50 : decode prog_5_method_9_code 50 = .ok (.iinc 7 1, 3) := by decide +kernel
theorem d_Ring_addProduct_53 : decode prog_5_method_9_code 53 = .ok (.goto (-32), 3) := by decide +kernel
theorem d_Ring_addProduct_56 : decode prog_5_method_9_code 56 = .ok (.aload_n 0, 1) := by decide +kernel
theorem d_Ring_addProduct_57 : decode prog_5_method_9_code 57 = .ok (.getfield 27, 3) := by decide +kernel
theorem d_Ring_addProduct_60 : decode prog_5_method_9_code 60 = .ok (.iload 4, 2) := by decide +kernel
theorem d_Ring_addProduct_62 : decode prog_5_method_9_code 62 = .ok (.isub, 1) := by decide +kernel
theorem d_Ring_addProduct_63 : decode prog_5_method_9_code 63 = .ok (.istore 7, 2) := by decide +kernel
theorem d_Ring_addProduct_65 : decode prog_5_method_9_code 65 = .ok (.iload 7, 2) := by decide +kernel
theorem d_Ring_addProduct_67 : decode prog_5_method_9_code 67 = .ok (.aload_n 0, 1) := by decide +kernel
theorem d_Ring_addProduct_68 : decode prog_5_method_9_code 68 = .ok (.getfield 27, 3) := by decide +kernel
theorem d_Ring_addProduct_71 : decode prog_5_method_9_code 71 = .ok (.if_icmp .ge 31, 3) := by decide +kernel
theorem d_Ring_addProduct_74 : decode prog_5_method_9_code 74 = .ok (.aload_n 1, 1) := by decide +kernel
theorem d_Ring_addProduct_75 : decode prog_5_method_9_code 75 = .ok (.iload 4, 2) := by decide +kernel
theorem d_Ring_addProduct_77 : decode prog_5_method_9_code 77 = .ok (.iload 7, 2) := by decide +kernel
theorem d_Ring_addProduct_79 : decode prog_5_method_9_code 79 = .ok (.iadd, 1) := by decide +kernel
theorem d_Ring_addProduct_80 : decode prog_5_method_9_code 80 = .ok (.aload_n 0, 1) := by decide +kernel
theorem d_Ring_addProduct_81 : decode prog_5_method_9_code 81 = .ok (.getfield 27, 3) := by decide +kernel
theorem d_Ring_addProduct_84 : decode prog_5_method_9_code 84 = .ok (.isub, 1) := by decide +kernel
theorem d_Ring_addProduct_85 : decode prog_5_method_9_code 85 = .ok (.dup2, 1) := by decide +kernel
theorem d_Ring_addProduct_86 : decode prog_5_method_9_code 86 = .ok (.laload, 1) := by decide +kernel
theorem d_Ring_addProduct_87 : decode prog_5_method_9_code 87 = .ok (.lload 5, 2) := by decide +kernel
theorem d_Ring_addProduct_89 : decode prog_5_method_9_code 89 = .ok (.aload_n 3, 1) := by decide +kernel
theorem d_Ring_addProduct_90 : decode prog_5_method_9_code 90 = .ok (.iload 7, 2) := by decide +kernel
theorem d_Ring_addProduct_92 : decode prog_5_method_9_code 92 = .ok (.laload, 1) := by decide +kernel
theorem d_Ring_addProduct_93 : decode prog_5_method_9_code 93 = .ok (.lmul, 1) := by decide +kernel
theorem d_Ring_addProduct_94 : decode prog_5_method_9_code 94 = .ok (.lsub, 1) := by decide +kernel
theorem d_Ring_addProduct_95 : decode prog_5_method_9_code 95 = .ok (.lastore, 1) := by decide +kernel
theorem d_Ring_addProduct_96 : decode prog_5_method_9_code 96 = .ok (.iinc 7 1, 3) := by decide +kernel
theorem d_Ring_addProduct_99 : decode prog_5_method_9_code 99 = .ok (.goto (-34), 3) := by decide +kernel
theorem d_Ring_addProduct_102 : decode prog_5_method_9_code 102 = .ok (.iinc 4 1, 3) := by decide +kernel
theorem d_Ring_addProduct_105 : decode prog_5_method_9_code 105 = .ok (.goto (-102), 3) := by decide +kernel
theorem d_Ring_addProduct_108 : decode prog_5_method_9_code 108 = .ok (.return_, 1) := by decide +kernel
theorem d_Ring_addScaled_0 : decode prog_5_method_10_code 0 = .ok (.iconst 0, 1) := by decide +kernel
theorem d_Ring_addScaled_1 : decode prog_5_method_10_code 1 = .ok (.istore 5, 2) := by decide +kernel
theorem d_Ring_addScaled_3 : decode prog_5_method_10_code 3 = .ok (.iload 5, 2) := by decide +kernel
theorem d_Ring_addScaled_5 : decode prog_5_method_10_code 5 = .ok (.aload_n 0, 1) := by decide +kernel
theorem d_Ring_addScaled_6 : decode prog_5_method_10_code 6 = .ok (.getfield 27, 3) := by decide +kernel
theorem d_Ring_addScaled_9 : decode prog_5_method_10_code 9 = .ok (.if_icmp .ge 22, 3) := by decide +kernel
theorem d_Ring_addScaled_12 : decode prog_5_method_10_code 12 = .ok (.aload_n 1, 1) := by decide +kernel
theorem d_Ring_addScaled_13 : decode prog_5_method_10_code 13 = .ok (.iload 5, 2) := by decide +kernel
theorem d_Ring_addScaled_15 : decode prog_5_method_10_code 15 = .ok (.dup2, 1) := by decide +kernel
theorem d_Ring_addScaled_16 : decode prog_5_method_10_code 16 = .ok (.laload, 1) := by decide +kernel
theorem d_Ring_addScaled_17 : decode prog_5_method_10_code 17 = .ok (.lload_n 3, 1) := by decide +kernel
theorem d_Ring_addScaled_18 : decode prog_5_method_10_code 18 = .ok (.aload_n 2, 1) := by decide +kernel
theorem d_Ring_addScaled_19 : decode prog_5_method_10_code 19 = .ok (.iload 5, 2) := by decide +kernel
theorem d_Ring_addScaled_21 : decode prog_5_method_10_code 21 = .ok (.laload, 1) := by decide +kernel
theorem d_Ring_addScaled_22 : decode prog_5_method_10_code 22 = .ok (.lmul, 1) := by decide +kernel
theorem d_Ring_addScaled_23 : decode prog_5_method_10_code 23 = .ok (.ladd, 1) := by decide +kernel
theorem d_Ring_addScaled_24 : decode prog_5_method_10_code 24 = .ok (.lastore, 1) := by decide +kernel
theorem d_Ring_addScaled_25 : decode prog_5_method_10_code 25 = .ok (.iinc 5 1, 3) := by decide +kernel
theorem d_Ring_addScaled_28 : decode prog_5_method_10_code 28 = .ok (.goto (-25), 3) := by decide +kernel
theorem d_Ring_addScaled_31 : decode prog_5_method_10_code 31 = .ok (.return_, 1) := by decide +kernel
theorem d_Ring_copy_0 : decode prog_5_method_11_code 0 = .ok (.aload_n 2, 1) := by decide +kernel
theorem d_Ring_copy_1 : decode prog_5_method_11_code 1 = .ok (.iconst 0, 1) := by decide +kernel
theorem d_Ring_copy_2 : decode prog_5_method_11_code 2 = .ok (.aload_n 1, 1) := by decide +kernel
theorem d_Ring_copy_3 : decode prog_5_method_11_code 3 = .ok (.iconst 0, 1) := by decide +kernel
theorem d_Ring_copy_4 : decode prog_5_method_11_code 4 = .ok (.aload_n 0, 1) := by decide +kernel
theorem d_Ring_copy_5 : decode prog_5_method_11_code 5 = .ok (.getfield 27, 3) := by decide +kernel
theorem d_Ring_copy_8 : decode prog_5_method_11_code 8 = .ok (.invokestatic 60, 3) := by decide +kernel
theorem d_Ring_copy_11 : decode prog_5_method_11_code 11 = .ok (.return_, 1) := by decide +kernel
theorem d_Ring_reduce_0 : decode prog_5_method_12_code 0 = .ok (.iconst 0, 1) := by decide +kernel
theorem d_Ring_reduce_1 : decode prog_5_method_12_code 1 = .ok (.istore_n 3, 1) := by decide +kernel
theorem d_Ring_reduce_2 : decode prog_5_method_12_code 2 = .ok (.iload_n 3, 1) := by decide +kernel
theorem d_Ring_reduce_3 : decode prog_5_method_12_code 3 = .ok (.aload_n 0, 1) := by decide +kernel
theorem d_Ring_reduce_4 : decode prog_5_method_12_code 4 = .ok (.getfield 27, 3) := by decide +kernel
theorem d_Ring_reduce_7 : decode prog_5_method_12_code 7 = .ok (.if_icmp .ge 21, 3) := by decide +kernel
theorem d_Ring_reduce_10 : decode prog_5_method_12_code 10 = .ok (.aload_n 1, 1) := by decide +kernel
theorem d_Ring_reduce_11 : decode prog_5_method_12_code 11 = .ok (.iload_n 3, 1) := by decide +kernel
theorem d_Ring_reduce_12 : decode prog_5_method_12_code 12 = .ok (.aload_n 2, 1) := by decide +kernel
theorem d_Ring_reduce_13 : decode prog_5_method_12_code 13 = .ok (.iload_n 3, 1) := by decide +kernel
theorem d_Ring_reduce_14 : decode prog_5_method_12_code 14 = .ok (.laload, 1) := by decide +kernel
theorem d_Ring_reduce_15 : decode prog_5_method_12_code 15 = .ok (.ldc2_w 47, 3) := by decide +kernel
theorem d_Ring_reduce_18 : decode prog_5_method_12_code 18 = .ok (.invokestatic 55, 3) := by decide +kernel
theorem d_Ring_reduce_21 : decode prog_5_method_12_code 21 = .ok (.lastore, 1) := by decide +kernel
theorem d_Ring_reduce_22 : decode prog_5_method_12_code 22 = .ok (.iinc 3 1, 3) := by decide +kernel
theorem d_Ring_reduce_25 : decode prog_5_method_12_code 25 = .ok (.goto (-23), 3) := by decide +kernel
theorem d_Ring_reduce_28 : decode prog_5_method_12_code 28 = .ok (.return_, 1) := by decide +kernel
theorem d_Ring_centre_0 : decode prog_5_method_13_code 0 = .ok (.iconst 0, 1) := by decide +kernel
theorem d_Ring_centre_1 : decode prog_5_method_13_code 1 = .ok (.istore_n 3, 1) := by decide +kernel
theorem d_Ring_centre_2 : decode prog_5_method_13_code 2 = .ok (.iload_n 3, 1) := by decide +kernel
theorem d_Ring_centre_3 : decode prog_5_method_13_code 3 = .ok (.aload_n 0, 1) := by decide +kernel
theorem d_Ring_centre_4 : decode prog_5_method_13_code 4 = .ok (.getfield 27, 3) := by decide +kernel
theorem d_Ring_centre_7 : decode prog_5_method_13_code 7 = .ok (.if_icmp .ge 18, 3) := by decide +kernel
theorem d_Ring_centre_10 : decode prog_5_method_13_code 10 = .ok (.aload_n 1, 1) := by decide +kernel
theorem d_Ring_centre_11 : decode prog_5_method_13_code 11 = .ok (.iload_n 3, 1) := by decide +kernel
theorem d_Ring_centre_12 : decode prog_5_method_13_code 12 = .ok (.aload_n 2, 1) := by decide +kernel
theorem d_Ring_centre_13 : decode prog_5_method_13_code 13 = .ok (.iload_n 3, 1) := by decide +kernel
theorem d_Ring_centre_14 : decode prog_5_method_13_code 14 = .ok (.laload, 1) := by decide +kernel
theorem d_Ring_centre_15 : decode prog_5_method_13_code 15 = .ok (.invokestatic 66, 3) := by decide +kernel
theorem d_Ring_centre_18 : decode prog_5_method_13_code 18 = .ok (.lastore, 1) := by decide +kernel
theorem d_Ring_centre_19 : decode prog_5_method_13_code 19 = .ok (.iinc 3 1, 3) := by decide +kernel
theorem d_Ring_centre_22 : decode prog_5_method_13_code 22 = .ok (.goto (-20), 3) := by decide +kernel
theorem d_Ring_centre_25 : decode prog_5_method_13_code 25 = .ok (.return_, 1) := by decide +kernel
theorem d_Ring_substitute_0 : decode prog_5_method_14_code 0 = .ok (.iconst 0, 1) := by decide +kernel
theorem d_Ring_substitute_1 : decode prog_5_method_14_code 1 = .ok (.istore 4, 2) := by decide +kernel
theorem d_Ring_substitute_3 : decode prog_5_method_14_code 3 = .ok (.iload 4, 2) := by decide +kernel
theorem d_Ring_substitute_5 : decode prog_5_method_14_code 5 = .ok (.aload_n 0, 1) := by decide +kernel
theorem d_Ring_substitute_6 : decode prog_5_method_14_code 6 = .ok (.getfield 27, 3) := by decide +kernel
theorem d_Ring_substitute_9 : decode prog_5_method_14_code 9 = .ok (.if_icmp .ge 68, 3) := by decide +kernel
theorem d_Ring_substitute_12 : decode prog_5_method_14_code 12 = .ok (.iload_n 3, 1) := by decide +kernel
theorem d_Ring_substitute_13 : decode prog_5_method_14_code 13 = .ok (.iload 4, 2) := by decide +kernel
theorem d_Ring_substitute_15 : decode prog_5_method_14_code 15 = .ok (.imul, 1) := by decide +kernel
theorem d_Ring_substitute_16 : decode prog_5_method_14_code 16 = .ok (.iconst 2, 1) := by decide +kernel
theorem d_Ring_substitute_17 : decode prog_5_method_14_code 17 = .ok (.aload_n 0, 1) := by decide +kernel
theorem d_Ring_substitute_18 : decode prog_5_method_14_code 18 = .ok (.getfield 27, 3) := by decide +kernel
theorem d_Ring_substitute_21 : decode prog_5_method_14_code 21 = .ok (.imul, 1) := by decide +kernel
theorem d_Ring_substitute_22 : decode prog_5_method_14_code 22 = .ok (.irem, 1) := by decide +kernel
theorem d_Ring_substitute_23 : decode prog_5_method_14_code 23 = .ok (.istore 5, 2) := by decide +kernel
theorem d_Ring_substitute_25 : decode prog_5_method_14_code 25 = .ok (.iload 5, 2) := by decide +kernel
theorem d_Ring_substitute_27 : decode prog_5_method_14_code 27 = .ok (.aload_n 0, 1) := by decide +kernel
theorem d_Ring_substitute_28 : decode prog_5_method_14_code 28 = .ok (.getfield 27, 3) := by decide +kernel
theorem d_Ring_substitute_31 : decode prog_5_method_14_code 31 = .ok (.if_icmp .ge 20, 3) := by decide +kernel
theorem d_Ring_substitute_34 : decode prog_5_method_14_code 34 = .ok (.aload_n 1, 1) := by decide +kernel
theorem d_Ring_substitute_35 : decode prog_5_method_14_code 35 = .ok (.iload 5, 2) := by decide +kernel
theorem d_Ring_substitute_37 : decode prog_5_method_14_code 37 = .ok (.aload_n 2, 1) := by decide +kernel
theorem d_Ring_substitute_38 : decode prog_5_method_14_code 38 = .ok (.iload 4, 2) := by decide +kernel
theorem d_Ring_substitute_40 : decode prog_5_method_14_code 40 = .ok (.laload, 1) := by decide +kernel
theorem d_Ring_substitute_41 : decode prog_5_method_14_code 41 = .ok (.ldc2_w 47, 3) := by decide +kernel
theorem d_Ring_substitute_44 : decode prog_5_method_14_code 44 = .ok (.invokestatic 55, 3) := by decide +kernel
theorem d_Ring_substitute_47 : decode prog_5_method_14_code 47 = .ok (.lastore, 1) := by decide +kernel
theorem d_Ring_substitute_48 : decode prog_5_method_14_code 48 = .ok (.goto 23, 3) := by decide +kernel
theorem d_Ring_substitute_51 : decode prog_5_method_14_code 51 = .ok (.aload_n 1, 1) := by decide +kernel
theorem d_Ring_substitute_52 : decode prog_5_method_14_code 52 = .ok (.iload 5, 2) := by decide +kernel
theorem d_Ring_substitute_54 : decode prog_5_method_14_code 54 = .ok (.aload_n 0, 1) := by decide +kernel
theorem d_Ring_substitute_55 : decode prog_5_method_14_code 55 = .ok (.getfield 27, 3) := by decide +kernel
theorem d_Ring_substitute_58 : decode prog_5_method_14_code 58 = .ok (.isub, 1) := by decide +kernel
theorem d_Ring_substitute_59 : decode prog_5_method_14_code 59 = .ok (.aload_n 2, 1) := by decide +kernel
theorem d_Ring_substitute_60 : decode prog_5_method_14_code 60 = .ok (.iload 4, 2) := by decide +kernel
theorem d_Ring_substitute_62 : decode prog_5_method_14_code 62 = .ok (.laload, 1) := by decide +kernel
theorem d_Ring_substitute_63 : decode prog_5_method_14_code 63 = .ok (.lneg, 1) := by decide +kernel
theorem d_Ring_substitute_64 : decode prog_5_method_14_code 64 = .ok (.ldc2_w 47, 3) := by decide +kernel
theorem d_Ring_substitute_67 : decode prog_5_method_14_code 67 = .ok (.invokestatic 55, 3) := by decide +kernel
theorem d_Ring_substitute_70 : decode prog_5_method_14_code 70 = .ok (.lastore, 1) := by decide +kernel
theorem d_Ring_substitute_71 : decode prog_5_method_14_code 71 = .ok (.iinc 4 1, 3) := by decide +kernel
theorem d_Ring_substitute_74 : decode prog_5_method_14_code 74 = .ok (.goto (-71), 3) := by decide +kernel
theorem d_Ring_substitute_77 : decode prog_5_method_14_code 77 = .ok (.return_, 1) := by decide +kernel
end
section
theorem ff_KeyRing_49 : zFF "RingCipher$KeyRing" 49 cRing 1 := ⟨R_Ring, F_Ring, 5, t_Ring, rfl, by decide, i_Ring, t_Ring_ok, n_Ring, Or.inr ⟨"RingCipher", List.mem_append_right _ (List.mem_of_getElem? (i := 52) (by decide +kernel)), by decide +kernel⟩⟩
theorem ff_KeyRing_82 : zFF "RingCipher$KeyRing" 82 cSwitchKey 0 := ⟨R_SwitchKey, F_SwitchKey, 3, t_SwitchKey, rfl, by decide, i_SwitchKey, t_SwitchKey_ok, n_SwitchKey, Or.inr ⟨"RingCipher", List.mem_append_right _ (List.mem_of_getElem? (i := 94) (by decide +kernel)), by decide +kernel⟩⟩
theorem ff_KeyRing_103 : zFF "RingCipher$KeyRing" 103 cSwitchKey 1 := ⟨R_SwitchKey, F_SwitchKey, 3, t_SwitchKey, rfl, by decide, i_SwitchKey, t_SwitchKey_ok, n_SwitchKey, Or.inr ⟨"RingCipher", List.mem_append_right _ (List.mem_of_getElem? (i := 96) (by decide +kernel)), by decide +kernel⟩⟩
theorem ff_KeyRing_95 : zFF "RingCipher$KeyRing" 95 cSwitchKey 2 := ⟨R_SwitchKey, F_SwitchKey, 3, t_SwitchKey, rfl, by decide, i_SwitchKey, t_SwitchKey_ok, n_SwitchKey, Or.inr ⟨"RingCipher", List.mem_append_right _ (List.mem_of_getElem? (i := 99) (by decide +kernel)), by decide +kernel⟩⟩
theorem ff_KeyRing_41 : zFF "RingCipher$KeyRing" 41 cKeyRing 0 := ⟨R_KeyRing, F_KeyRing, 10, t_KeyRing, rfl, by decide, i_KeyRing, t_KeyRing_ok, n_KeyRing, Or.inl ⟨List.mem_append_right _ (List.mem_of_getElem? (i := 109) (by decide +kernel)), by decide +kernel⟩⟩
theorem ff_KeyRing_45 : zFF "RingCipher$KeyRing" 45 cKeyRing 1 := ⟨R_KeyRing, F_KeyRing, 10, t_KeyRing, rfl, by decide, i_KeyRing, t_KeyRing_ok, n_KeyRing, Or.inl ⟨List.mem_append_right _ (List.mem_of_getElem? (i := 111) (by decide +kernel)), by decide +kernel⟩⟩
theorem ff_KeyRing_9 : zFF "RingCipher$KeyRing" 9 cKeyRing 2 := ⟨R_KeyRing, F_KeyRing, 10, t_KeyRing, rfl, by decide, i_KeyRing, t_KeyRing_ok, n_KeyRing, Or.inl ⟨List.mem_append_right _ (List.mem_of_getElem? (i := 113) (by decide +kernel)), by decide +kernel⟩⟩
theorem ff_KeyRing_15 : zFF "RingCipher$KeyRing" 15 cKeyRing 3 := ⟨R_KeyRing, F_KeyRing, 10, t_KeyRing, rfl, by decide, i_KeyRing, t_KeyRing_ok, n_KeyRing, Or.inl ⟨List.mem_append_right _ (List.mem_of_getElem? (i := 114) (by decide +kernel)), by decide +kernel⟩⟩
theorem ff_KeyRing_18 : zFF "RingCipher$KeyRing" 18 cKeyRing 4 := ⟨R_KeyRing, F_KeyRing, 10, t_KeyRing, rfl, by decide, i_KeyRing, t_KeyRing_ok, n_KeyRing, Or.inl ⟨List.mem_append_right _ (List.mem_of_getElem? (i := 115) (by decide +kernel)), by decide +kernel⟩⟩
theorem ff_KeyRing_21 : zFF "RingCipher$KeyRing" 21 cKeyRing 5 := ⟨R_KeyRing, F_KeyRing, 10, t_KeyRing, rfl, by decide, i_KeyRing, t_KeyRing_ok, n_KeyRing, Or.inl ⟨List.mem_append_right _ (List.mem_of_getElem? (i := 117) (by decide +kernel)), by decide +kernel⟩⟩
theorem ff_KeyRing_27 : zFF "RingCipher$KeyRing" 27 cKeyRing 6 := ⟨R_KeyRing, F_KeyRing, 10, t_KeyRing, rfl, by decide, i_KeyRing, t_KeyRing_ok, n_KeyRing, Or.inl ⟨List.mem_append_right _ (List.mem_of_getElem? (i := 119) (by decide +kernel)), by decide +kernel⟩⟩
theorem ff_KeyRing_31 : zFF "RingCipher$KeyRing" 31 cKeyRing 7 := ⟨R_KeyRing, F_KeyRing, 10, t_KeyRing, rfl, by decide, i_KeyRing, t_KeyRing_ok, n_KeyRing, Or.inl ⟨List.mem_append_right _ (List.mem_of_getElem? (i := 121) (by decide +kernel)), by decide +kernel⟩⟩
theorem ff_KeyRing_35 : zFF "RingCipher$KeyRing" 35 cKeyRing 8 := ⟨R_KeyRing, F_KeyRing, 10, t_KeyRing, rfl, by decide, i_KeyRing, t_KeyRing_ok, n_KeyRing, Or.inl ⟨List.mem_append_right _ (List.mem_of_getElem? (i := 123) (by decide +kernel)), by decide +kernel⟩⟩
theorem ff_KeyRing_38 : zFF "RingCipher$KeyRing" 38 cKeyRing 9 := ⟨R_KeyRing, F_KeyRing, 10, t_KeyRing, rfl, by decide, i_KeyRing, t_KeyRing_ok, n_KeyRing, Or.inl ⟨List.mem_append_right _ (List.mem_of_getElem? (i := 124) (by decide +kernel)), by decide +kernel⟩⟩
theorem ff_KeyRing_127 : zFF "RingCipher$KeyRing" 127 cCipher 0 := ⟨R_Cipher, F_Cipher, 2, t_Cipher, rfl, by decide, i_Cipher, t_Cipher_ok, n_Cipher, Or.inr ⟨"RingCipher", List.mem_append_right _ (List.mem_of_getElem? (i := 155) (by decide +kernel)), by decide +kernel⟩⟩
theorem ff_KeyRing_118 : zFF "RingCipher$KeyRing" 118 cCipher 1 := ⟨R_Cipher, F_Cipher, 2, t_Cipher, rfl, by decide, i_Cipher, t_Cipher_ok, n_Cipher, Or.inr ⟨"RingCipher", List.mem_append_right _ (List.mem_of_getElem? (i := 158) (by decide +kernel)), by decide +kernel⟩⟩
theorem k_KeyRing_112 : zin (.constantLong "RingCipher$KeyRing" 112 (Int64.ofInt 268435399)) := ⟨List.mem_append_right _ (List.mem_of_getElem? (i := 236) (by decide +kernel)), by decide +kernel⟩
theorem g_KeyRing_26 : zGI "RingCipher$KeyRing" 26 M_SwitchKey_init 0 := ⟨Or.inr ⟨"RingCipher", List.mem_append_right _ (List.mem_of_getElem? (i := 88) (by decide +kernel)), by decide +kernel⟩, ⟨List.mem_append_right _ (List.mem_of_getElem? (i := 89) (by decide +kernel)), by decide +kernel⟩, rfl, rfl, ⟨List.mem_append_right _ (List.mem_of_getElem? (i := 90) (by decide +kernel)), by decide +kernel⟩, ⟨by decide +kernel, by decide +kernel⟩, by decide +kernel⟩
theorem g_KeyRing_54 : zGV "RingCipher$KeyRing" 54 M_Chance_fillTernary 2 := ⟨Or.inr ⟨"RingCipher", List.mem_append_right _ (List.mem_of_getElem? (i := 195) (by decide +kernel)), by decide +kernel⟩, ⟨List.mem_append_right _ (List.mem_of_getElem? (i := 197) (by decide +kernel)), by decide +kernel⟩, ⟨List.mem_append_left _ (List.mem_of_getElem? (i := 4) (by decide +kernel)), by decide +kernel⟩, ⟨by decide +kernel, by decide +kernel⟩, by decide +kernel⟩
theorem g_KeyRing_60 : zGS "RingCipher$KeyRing" 60 M_Arrays_fill 2 := ⟨Or.inl ⟨List.mem_append_right _ (List.mem_of_getElem? (i := 205) (by decide +kernel)), by decide +kernel⟩, ⟨List.mem_append_right _ (List.mem_of_getElem? (i := 206) (by decide +kernel)), by decide +kernel⟩, ⟨List.mem_append_right _ (List.mem_of_getElem? (i := 12) (by decide +kernel)), by decide +kernel⟩, ⟨by decide +kernel, by decide +kernel⟩, by decide +kernel⟩
theorem g_KeyRing_66 : zGV "RingCipher$KeyRing" 66 M_Ring_addProduct 3 := ⟨Or.inr ⟨"RingCipher", List.mem_append_right _ (List.mem_of_getElem? (i := 208) (by decide +kernel)), by decide +kernel⟩, ⟨List.mem_append_right _ (List.mem_of_getElem? (i := 210) (by decide +kernel)), by decide +kernel⟩, ⟨List.mem_append_left _ (List.mem_of_getElem? (i := 6) (by decide +kernel)), by decide +kernel⟩, ⟨by decide +kernel, by decide +kernel⟩, by decide +kernel⟩
theorem g_KeyRing_70 : zGV "RingCipher$KeyRing" 70 M_KeyRing_makeMask 3 := ⟨Or.inl ⟨List.mem_append_right _ (List.mem_of_getElem? (i := 212) (by decide +kernel)), by decide +kernel⟩, ⟨List.mem_append_right _ (List.mem_of_getElem? (i := 214) (by decide +kernel)), by decide +kernel⟩, ⟨List.mem_append_left _ (List.mem_of_getElem? (i := 7) (by decide +kernel)), by decide +kernel⟩, ⟨by decide +kernel, by decide +kernel⟩, by decide +kernel⟩
theorem g_KeyRing_106 : zGV "RingCipher$KeyRing" 106 M_Chance_fillUniform 2 := ⟨Or.inr ⟨"RingCipher", List.mem_append_right _ (List.mem_of_getElem? (i := 216) (by decide +kernel)), by decide +kernel⟩, ⟨List.mem_append_right _ (List.mem_of_getElem? (i := 218) (by decide +kernel)), by decide +kernel⟩, ⟨List.mem_append_left _ (List.mem_of_getElem? (i := 8) (by decide +kernel)), by decide +kernel⟩, ⟨by decide +kernel, by decide +kernel⟩, by decide +kernel⟩
theorem g_KeyRing_109 : zGV "RingCipher$KeyRing" 109 M_Chance_fillErrors 2 := ⟨Or.inr ⟨"RingCipher", List.mem_append_right _ (List.mem_of_getElem? (i := 222) (by decide +kernel)), by decide +kernel⟩, ⟨List.mem_append_right _ (List.mem_of_getElem? (i := 224) (by decide +kernel)), by decide +kernel⟩, ⟨List.mem_append_left _ (List.mem_of_getElem? (i := 9) (by decide +kernel)), by decide +kernel⟩, ⟨by decide +kernel, by decide +kernel⟩, by decide +kernel⟩
theorem g_KeyRing_74 : zGV "RingCipher$KeyRing" 74 M_KeyRing_hideBody 2 := ⟨Or.inl ⟨List.mem_append_right _ (List.mem_of_getElem? (i := 232) (by decide +kernel)), by decide +kernel⟩, ⟨List.mem_append_right _ (List.mem_of_getElem? (i := 234) (by decide +kernel)), by decide +kernel⟩, ⟨List.mem_append_left _ (List.mem_of_getElem? (i := 10) (by decide +kernel)), by decide +kernel⟩, ⟨by decide +kernel, by decide +kernel⟩, by decide +kernel⟩
theorem g_KeyRing_114 : zGS "RingCipher$KeyRing" 114 M_Math_floorMod_JJ 2 := ⟨Or.inl ⟨List.mem_append_right _ (List.mem_of_getElem? (i := 237) (by decide +kernel)), by decide +kernel⟩, ⟨List.mem_append_right _ (List.mem_of_getElem? (i := 238) (by decide +kernel)), by decide +kernel⟩, ⟨List.mem_append_right _ (List.mem_of_getElem? (i := 14) (by decide +kernel)), by decide +kernel⟩, ⟨by decide +kernel, by decide +kernel⟩, by decide +kernel⟩
theorem g_KeyRing_78 : zGV "RingCipher$KeyRing" 78 M_KeyRing_makeSwitch 4 := ⟨Or.inl ⟨List.mem_append_right _ (List.mem_of_getElem? (i := 240) (by decide +kernel)), by decide +kernel⟩, ⟨List.mem_append_right _ (List.mem_of_getElem? (i := 242) (by decide +kernel)), by decide +kernel⟩, ⟨List.mem_append_left _ (List.mem_of_getElem? (i := 11) (by decide +kernel)), by decide +kernel⟩, ⟨by decide +kernel, by decide +kernel⟩, by decide +kernel⟩
theorem g_KeyRing_99 : zGV "RingCipher$KeyRing" 99 M_Ring_addScaled 3 := ⟨Or.inr ⟨"RingCipher", List.mem_append_right _ (List.mem_of_getElem? (i := 244) (by decide +kernel)), by decide +kernel⟩, ⟨List.mem_append_right _ (List.mem_of_getElem? (i := 246) (by decide +kernel)), by decide +kernel⟩, ⟨List.mem_append_left _ (List.mem_of_getElem? (i := 12) (by decide +kernel)), by decide +kernel⟩, ⟨by decide +kernel, by decide +kernel⟩, by decide +kernel⟩
theorem g_KeyRing_85 : zGV "RingCipher$KeyRing" 85 M_Ring_substitute 3 := ⟨Or.inr ⟨"RingCipher", List.mem_append_right _ (List.mem_of_getElem? (i := 385) (by decide +kernel)), by decide +kernel⟩, ⟨List.mem_append_right _ (List.mem_of_getElem? (i := 387) (by decide +kernel)), by decide +kernel⟩, ⟨List.mem_append_left _ (List.mem_of_getElem? (i := 21) (by decide +kernel)), by decide +kernel⟩, ⟨by decide +kernel, by decide +kernel⟩, by decide +kernel⟩
theorem g_KeyRing_89 : zGS "RingCipher$KeyRing" 89 M_Math_max_II 2 := ⟨Or.inl ⟨List.mem_append_right _ (List.mem_of_getElem? (i := 391) (by decide +kernel)), by decide +kernel⟩, ⟨List.mem_append_right _ (List.mem_of_getElem? (i := 392) (by decide +kernel)), by decide +kernel⟩, ⟨List.mem_append_right _ (List.mem_of_getElem? (i := 14) (by decide +kernel)), by decide +kernel⟩, ⟨by decide +kernel, by decide +kernel⟩, by decide +kernel⟩
theorem g_KeyRing_123 : zGV "RingCipher$KeyRing" 123 M_Ring_copy 2 := ⟨Or.inr ⟨"RingCipher", List.mem_append_right _ (List.mem_of_getElem? (i := 495) (by decide +kernel)), by decide +kernel⟩, ⟨List.mem_append_right _ (List.mem_of_getElem? (i := 497) (by decide +kernel)), by decide +kernel⟩, ⟨List.mem_append_left _ (List.mem_of_getElem? (i := 33) (by decide +kernel)), by decide +kernel⟩, ⟨by decide +kernel, by decide +kernel⟩, by decide +kernel⟩
theorem g_KeyRing_130 : zGV "RingCipher$KeyRing" 130 M_Ring_centre 2 := ⟨Or.inr ⟨"RingCipher", List.mem_append_right _ (List.mem_of_getElem? (i := 500) (by decide +kernel)), by decide +kernel⟩, ⟨List.mem_append_right _ (List.mem_of_getElem? (i := 502) (by decide +kernel)), by decide +kernel⟩, ⟨List.mem_append_left _ (List.mem_of_getElem? (i := 34) (by decide +kernel)), by decide +kernel⟩, ⟨by decide +kernel, by decide +kernel⟩, by decide +kernel⟩
theorem co_KeyRing_init : zCo M_KeyRing_init := Or.inl ⟨⟨List.mem_append_right _ (List.mem_of_getElem? (i := 84) (by decide +kernel)), by decide +kernel⟩, rfl⟩
theorem co_KeyRing_renew : zCo M_KeyRing_renew := Or.inl ⟨⟨List.mem_append_right _ (List.mem_of_getElem? (i := 194) (by decide +kernel)), by decide +kernel⟩, rfl⟩
theorem co_KeyRing_makeMask : zCo M_KeyRing_makeMask := Or.inl ⟨⟨List.mem_append_right _ (List.mem_of_getElem? (i := 215) (by decide +kernel)), by decide +kernel⟩, rfl⟩
theorem co_KeyRing_hideBody : zCo M_KeyRing_hideBody := Or.inl ⟨⟨List.mem_append_right _ (List.mem_of_getElem? (i := 235) (by decide +kernel)), by decide +kernel⟩, rfl⟩
theorem co_KeyRing_makeSwitch : zCo M_KeyRing_makeSwitch := Or.inl ⟨⟨List.mem_append_right _ (List.mem_of_getElem? (i := 243) (by decide +kernel)), by decide +kernel⟩, rfl⟩
theorem co_KeyRing_forget : zCo M_KeyRing_forget := Or.inl ⟨⟨List.mem_append_right _ (List.mem_of_getElem? (i := 349) (by decide +kernel)), by decide +kernel⟩, rfl⟩
theorem co_KeyRing_placeOfTurn : zCo M_KeyRing_placeOfTurn := Or.inl ⟨⟨List.mem_append_right _ (List.mem_of_getElem? (i := 379) (by decide +kernel)), by decide +kernel⟩, rfl⟩
theorem co_KeyRing_makeTurn : zCo M_KeyRing_makeTurn := Or.inl ⟨⟨List.mem_append_right _ (List.mem_of_getElem? (i := 384) (by decide +kernel)), by decide +kernel⟩, rfl⟩
theorem co_KeyRing_findPhase : zCo M_KeyRing_findPhase := Or.inl ⟨⟨List.mem_append_right _ (List.mem_of_getElem? (i := 494) (by decide +kernel)), by decide +kernel⟩, rfl⟩
theorem d_KeyRing_init_0 : decode prog_4_method_1_code 0 = .ok (.aload_n 0, 1) := by decide +kernel
theorem d_KeyRing_init_1 : decode prog_4_method_1_code 1 = .ok (.invokespecial 3, 3) := by decide +kernel
theorem d_KeyRing_init_4 : decode prog_4_method_1_code 4 = .ok (.aload_n 0, 1) := by decide +kernel
theorem d_KeyRing_init_5 : decode prog_4_method_1_code 5 = .ok (.bipush 32, 2) := by decide +kernel
theorem d_KeyRing_init_7 : decode prog_4_method_1_code 7 = .ok (.newarray .long, 2) := by decide +kernel
theorem d_KeyRing_init_9 : decode prog_4_method_1_code 9 = .ok (.putfield 9, 3) := by decide +kernel
theorem d_KeyRing_init_12 : decode prog_4_method_1_code 12 = .ok (.aload_n 0, 1) := by decide +kernel
theorem d_KeyRing_init_13 : decode prog_4_method_1_code 13 = .ok (.bipush 32, 2) := by decide +kernel
theorem d_KeyRing_init_15 : decode prog_4_method_1_code 15 = .ok (.newarray .long, 2) := by decide +kernel
theorem d_KeyRing_init_17 : decode prog_4_method_1_code 17 = .ok (.putfield 15, 3) := by decide +kernel
theorem d_KeyRing_init_20 : decode prog_4_method_1_code 20 = .ok (.aload_n 0, 1) := by decide +kernel
theorem d_KeyRing_init_21 : decode prog_4_method_1_code 21 = .ok (.bipush 32, 2) := by decide +kernel
theorem d_KeyRing_init_23 : decode prog_4_method_1_code 23 = .ok (.newarray .long, 2) := by decide +kernel
theorem d_KeyRing_init_25 : decode prog_4_method_1_code 25 = .ok (.putfield 18, 3) := by decide +kernel
theorem d_KeyRing_init_28 : decode prog_4_method_1_code 28 = .ok (.aload_n 0, 1) := by decide +kernel
theorem d_KeyRing_init_29 : decode prog_4_method_1_code 29 = .ok (.bipush 32, 2) := by decide +kernel
theorem d_KeyRing_init_31 : decode prog_4_method_1_code 31 = .ok (.newarray .long, 2) := by decide +kernel
theorem d_KeyRing_init_33 : decode prog_4_method_1_code 33 = .ok (.putfield 21, 3) := by decide +kernel
theorem d_KeyRing_init_36 : decode prog_4_method_1_code 36 = .ok (.aload_n 0, 1) := by decide +kernel
theorem d_KeyRing_init_37 : decode prog_4_method_1_code 37 = .ok (.new 24, 3) := by decide +kernel
theorem d_KeyRing_init_40 : decode prog_4_method_1_code 40 = .ok (.dup, 1) := by decide +kernel
theorem d_KeyRing_init_41 : decode prog_4_method_1_code 41 = .ok (.invokespecial 26, 3) := by decide +kernel
theorem d_KeyRing_init_44 : decode prog_4_method_1_code 44 = .ok (.putfield 27, 3) := by decide +kernel
theorem d_KeyRing_init_47 : decode prog_4_method_1_code 47 = .ok (.aload_n 0, 1) := by decide +kernel
theorem d_KeyRing_init_48 : decode prog_4_method_1_code 48 = .ok (.iconst 4, 1) := by decide +kernel
theorem d_KeyRing_init_49 : decode prog_4_method_1_code 49 = .ok (.anewarray 24, 3) := by decide +kernel
theorem d_KeyRing_init_52 : decode prog_4_method_1_code 52 = .ok (.putfield 31, 3) := by decide +kernel
theorem d_KeyRing_init_55 : decode prog_4_method_1_code 55 = .ok (.iconst 0, 1) := by decide +kernel
theorem d_KeyRing_init_56 : decode prog_4_method_1_code 56 = .ok (.istore_n 1, 1) := by decide +kernel
theorem d_KeyRing_init_57 : decode prog_4_method_1_code 57 = .ok (.iload_n 1, 1) := by decide +kernel
theorem d_KeyRing_init_58 : decode prog_4_method_1_code 58 = .ok (.iconst 4, 1) := by decide +kernel
theorem d_KeyRing_init_59 : decode prog_4_method_1_code 59 = .ok (.if_icmp .ge 22, 3) := by decide +kernel
theorem d_KeyRing_init_62 : decode prog_4_method_1_code 62 = .ok (.aload_n 0, 1) := by decide +kernel
theorem d_KeyRing_init_63 : decode prog_4_method_1_code 63 = .ok (.getfield 31, 3) := by decide +kernel
theorem d_KeyRing_init_66 : decode prog_4_method_1_code 66 = .ok (.iload_n 1, 1) := by decide +kernel
theorem d_KeyRing_init_67 : decode prog_4_method_1_code 67 = .ok (.new 24, 3) := by decide +kernel
theorem d_KeyRing_init_70 : decode prog_4_method_1_code 70 = .ok (.dup, 1) := by decide +kernel
theorem d_KeyRing_init_71 : decode prog_4_method_1_code 71 = .ok (.invokespecial 26, 3) := by decide +kernel
theorem d_KeyRing_init_74 : decode prog_4_method_1_code 74 = .ok (.aastore, 1) := by decide +kernel
theorem d_KeyRing_init_75 : decode prog_4_method_1_code 75 = .ok (.iinc 1 1, 3) := by decide +kernel
theorem d_KeyRing_init_78 : decode prog_4_method_1_code 78 = .ok (.goto (-21), 3) := by decide +kernel
theorem d_KeyRing_init_81 : decode prog_4_method_1_code 81 = .ok (.aload_n 0, 1) := by decide +kernel
theorem d_KeyRing_init_82 : decode prog_4_method_1_code 82 = .ok (.bipush 32, 2) := by decide +kernel
theorem d_KeyRing_init_84 : decode prog_4_method_1_code 84 = .ok (.newarray .long, 2) := by decide +kernel
theorem d_KeyRing_init_86 : decode prog_4_method_1_code 86 = .ok (.putfield 35, 3) := by decide +kernel
theorem d_KeyRing_init_89 : decode prog_4_method_1_code 89 = .ok (.aload_n 0, 1) := by decide +kernel
theorem d_KeyRing_init_90 : decode prog_4_method_1_code 90 = .ok (.bipush 32, 2) := by decide +kernel
theorem d_KeyRing_init_92 : decode prog_4_method_1_code 92 = .ok (.newarray .long, 2) := by decide +kernel
theorem d_KeyRing_init_94 : decode prog_4_method_1_code 94 = .ok (.putfield 38, 3) := by decide +kernel
theorem d_KeyRing_init_97 : decode prog_4_method_1_code 97 = .ok (.return_, 1) := by decide +kernel
theorem d_KeyRing_forget_0 : decode prog_4_method_2_code 0 = .ok (.aload_n 0, 1) := by decide +kernel
theorem d_KeyRing_forget_1 : decode prog_4_method_2_code 1 = .ok (.iconst 0, 1) := by decide +kernel
theorem d_KeyRing_forget_2 : decode prog_4_method_2_code 2 = .ok (.putfield 41, 3) := by decide +kernel
theorem d_KeyRing_forget_5 : decode prog_4_method_2_code 5 = .ok (.aload_n 0, 1) := by decide +kernel
theorem d_KeyRing_forget_6 : decode prog_4_method_2_code 6 = .ok (.iconst 0, 1) := by decide +kernel
theorem d_KeyRing_forget_7 : decode prog_4_method_2_code 7 = .ok (.putfield 45, 3) := by decide +kernel
theorem d_KeyRing_forget_10 : decode prog_4_method_2_code 10 = .ok (.return_, 1) := by decide +kernel
theorem d_KeyRing_renew_0 : decode prog_4_method_3_code 0 = .ok (.aload_n 2, 1) := by decide +kernel
theorem d_KeyRing_renew_1 : decode prog_4_method_3_code 1 = .ok (.aload_n 0, 1) := by decide +kernel
theorem d_KeyRing_renew_2 : decode prog_4_method_3_code 2 = .ok (.getfield 9, 3) := by decide +kernel
theorem d_KeyRing_renew_5 : decode prog_4_method_3_code 5 = .ok (.aload_n 1, 1) := by decide +kernel
theorem d_KeyRing_renew_6 : decode prog_4_method_3_code 6 = .ok (.getfield 49, 3) := by decide +kernel
theorem d_KeyRing_renew_9 : decode prog_4_method_3_code 9 = .ok (.invokevirtual 54, 3) := by decide +kernel
theorem d_KeyRing_renew_12 : decode prog_4_method_3_code 12 = .ok (.aload_n 0, 1) := by decide +kernel
theorem d_KeyRing_renew_13 : decode prog_4_method_3_code 13 = .ok (.getfield 15, 3) := by decide +kernel
theorem d_KeyRing_renew_16 : decode prog_4_method_3_code 16 = .ok (.lconst 0, 1) := by decide +kernel
theorem d_KeyRing_renew_17 : decode prog_4_method_3_code 17 = .ok (.invokestatic 60, 3) := by decide +kernel
theorem d_KeyRing_renew_20 : decode prog_4_method_3_code 20 = .ok (.aload_n 1, 1) := by decide +kernel
theorem d_KeyRing_renew_21 : decode prog_4_method_3_code 21 = .ok (.aload_n 0, 1) := by decide +kernel
theorem d_KeyRing_renew_22 : decode prog_4_method_3_code 22 = .ok (.getfield 15, 3) := by decide +kernel
theorem d_KeyRing_renew_25 : decode prog_4_method_3_code 25 = .ok (.aload_n 0, 1) := by decide +kernel
theorem d_KeyRing_renew_26 : decode prog_4_method_3_code 26 = .ok (.getfield 9, 3) := by decide +kernel
theorem d_KeyRing_renew_29 : decode prog_4_method_3_code 29 = .ok (.aload_n 0, 1) := by decide +kernel
theorem d_KeyRing_renew_30 : decode prog_4_method_3_code 30 = .ok (.getfield 9, 3) := by decide +kernel
theorem d_KeyRing_renew_33 : decode prog_4_method_3_code 33 = .ok (.invokevirtual 66, 3) := by decide +kernel
theorem d_KeyRing_renew_36 : decode prog_4_method_3_code 36 = .ok (.aload_n 0, 1) := by decide +kernel
theorem d_KeyRing_renew_37 : decode prog_4_method_3_code 37 = .ok (.aload_n 1, 1) := by decide +kernel
theorem d_KeyRing_renew_38 : decode prog_4_method_3_code 38 = .ok (.aload_n 2, 1) := by decide +kernel
theorem d_KeyRing_renew_39 : decode prog_4_method_3_code 39 = .ok (.aload_n 0, 1) := by decide +kernel
theorem d_KeyRing_renew_40 : decode prog_4_method_3_code 40 = .ok (.getfield 21, 3) := by decide +kernel
theorem d_KeyRing_renew_43 : decode prog_4_method_3_code 43 = .ok (.invokevirtual 70, 3) := by decide +kernel
theorem d_KeyRing_renew_46 : decode prog_4_method_3_code 46 = .ok (.aload_n 0, 1) := by decide +kernel
theorem d_KeyRing_renew_47 : decode prog_4_method_3_code 47 = .ok (.aload_n 1, 1) := by decide +kernel
theorem d_KeyRing_renew_48 : decode prog_4_method_3_code 48 = .ok (.aload_n 0, 1) := by decide +kernel
theorem d_KeyRing_renew_49 : decode prog_4_method_3_code 49 = .ok (.getfield 18, 3) := by decide +kernel
theorem d_KeyRing_renew_52 : decode prog_4_method_3_code 52 = .ok (.invokevirtual 74, 3) := by decide +kernel
theorem d_KeyRing_renew_55 : decode prog_4_method_3_code 55 = .ok (.aload_n 0, 1) := by decide +kernel
theorem d_KeyRing_renew_56 : decode prog_4_method_3_code 56 = .ok (.aload_n 1, 1) := by decide +kernel
theorem d_KeyRing_renew_57 : decode prog_4_method_3_code 57 = .ok (.aload_n 2, 1) := by decide +kernel
theorem d_KeyRing_renew_58 : decode prog_4_method_3_code 58 = .ok (.aload_n 0, 1) := by decide +kernel
theorem d_KeyRing_renew_59 : decode prog_4_method_3_code 59 = .ok (.getfield 27, 3) := by decide +kernel
theorem d_KeyRing_renew_62 : decode prog_4_method_3_code 62 = .ok (.aload_n 0, 1) := by decide +kernel
theorem d_KeyRing_renew_63 : decode prog_4_method_3_code 63 = .ok (.getfield 15, 3) := by decide +kernel
theorem d_KeyRing_renew_66 : decode prog_4_method_3_code 66 = .ok (.invokevirtual 78, 3) := by decide +kernel
theorem d_KeyRing_renew_69 : decode prog_4_method_3_code 69 = .ok (.aload_n 0, 1) := by decide +kernel
theorem d_KeyRing_renew_70 : decode prog_4_method_3_code 70 = .ok (.iconst 1, 1) := by decide +kernel
theorem d_KeyRing_renew_71 : decode prog_4_method_3_code 71 = .ok (.putfield 41, 3) := by decide +kernel
theorem d_KeyRing_renew_74 : decode prog_4_method_3_code 74 = .ok (.aload_n 0, 1) := by decide +kernel
theorem d_KeyRing_renew_75 : decode prog_4_method_3_code 75 = .ok (.iconst 0, 1) := by decide +kernel
theorem d_KeyRing_renew_76 : decode prog_4_method_3_code 76 = .ok (.putfield 45, 3) := by decide +kernel
theorem d_KeyRing_renew_79 : decode prog_4_method_3_code 79 = .ok (.return_, 1) := by decide +kernel
theorem d_KeyRing_placeOfTurn_0 : decode prog_4_method_4_code 0 = .ok (.iconst 0, 1) := by decide +kernel
theorem d_KeyRing_placeOfTurn_1 : decode prog_4_method_4_code 1 = .ok (.istore_n 2, 1) := by decide +kernel
theorem d_KeyRing_placeOfTurn_2 : decode prog_4_method_4_code 2 = .ok (.iload_n 2, 1) := by decide +kernel
theorem d_KeyRing_placeOfTurn_3 : decode prog_4_method_4_code 3 = .ok (.aload_n 0, 1) := by decide +kernel
theorem d_KeyRing_placeOfTurn_4 : decode prog_4_method_4_code 4 = .ok (.getfield 45, 3) := by decide +kernel
theorem d_KeyRing_placeOfTurn_7 : decode prog_4_method_4_code 7 = .ok (.if_icmp .ge 22, 3) := by decide +kernel
theorem d_KeyRing_placeOfTurn_10 : decode prog_4_method_4_code 10 = .ok (.aload_n 0, 1) := by decide +kernel
theorem d_KeyRing_placeOfTurn_11 : decode prog_4_method_4_code 11 = .ok (.getfield 31, 3) := by decide +kernel
theorem d_KeyRing_placeOfTurn_14 : decode prog_4_method_4_code 14 = .ok (.iload_n 2, 1) := by decide +kernel
theorem d_KeyRing_placeOfTurn_15 : decode prog_4_method_4_code 15 = .ok (.aaload, 1) := by decide +kernel
theorem d_KeyRing_placeOfTurn_16 : decode prog_4_method_4_code 16 = .ok (.getfield 82, 3) := by decide +kernel
theorem d_KeyRing_placeOfTurn_19 : decode prog_4_method_4_code 19 = .ok (.iload_n 1, 1) := by decide +kernel
theorem d_KeyRing_placeOfTurn_20 : decode prog_4_method_4_code 20 = .ok (.if_icmp .eq 9, 3) := by decide +kernel
theorem d_KeyRing_placeOfTurn_23 : decode prog_4_method_4_code 23 = .ok (.iinc 2 1, 3) := by decide +kernel
theorem d_KeyRing_placeOfTurn_26 : decode prog_4_method_4_code 26 = .ok (.goto (-24), 3) := by decide +kernel
theorem d_KeyRing_placeOfTurn_29 : decode prog_4_method_4_code 29 = .ok (.iload_n 2, 1) := by decide +kernel
theorem d_KeyRing_placeOfTurn_30 : decode prog_4_method_4_code 30 = .ok (.ireturn, 1) := by decide +kernel
theorem d_KeyRing_makeTurn_0 : decode prog_4_method_5_code 0 = .ok (.aload_n 1, 1) := by decide +kernel
theorem d_KeyRing_makeTurn_1 : decode prog_4_method_5_code 1 = .ok (.aload_n 0, 1) := by decide +kernel
theorem d_KeyRing_makeTurn_2 : decode prog_4_method_5_code 2 = .ok (.getfield 38, 3) := by decide +kernel
theorem d_KeyRing_makeTurn_5 : decode prog_4_method_5_code 5 = .ok (.aload_n 0, 1) := by decide +kernel
theorem d_KeyRing_makeTurn_6 : decode prog_4_method_5_code 6 = .ok (.getfield 9, 3) := by decide +kernel
theorem d_KeyRing_makeTurn_9 : decode prog_4_method_5_code 9 = .ok (.iload 4, 2) := by decide +kernel
theorem d_KeyRing_makeTurn_11 : decode prog_4_method_5_code 11 = .ok (.invokevirtual 85, 3) := by decide +kernel
theorem d_KeyRing_makeTurn_14 : decode prog_4_method_5_code 14 = .ok (.aload_n 0, 1) := by decide +kernel
theorem d_KeyRing_makeTurn_15 : decode prog_4_method_5_code 15 = .ok (.aload_n 1, 1) := by decide +kernel
theorem d_KeyRing_makeTurn_16 : decode prog_4_method_5_code 16 = .ok (.aload_n 2, 1) := by decide +kernel
theorem d_KeyRing_makeTurn_17 : decode prog_4_method_5_code 17 = .ok (.aload_n 0, 1) := by decide +kernel
theorem d_KeyRing_makeTurn_18 : decode prog_4_method_5_code 18 = .ok (.getfield 31, 3) := by decide +kernel
theorem d_KeyRing_makeTurn_21 : decode prog_4_method_5_code 21 = .ok (.iload_n 3, 1) := by decide +kernel
theorem d_KeyRing_makeTurn_22 : decode prog_4_method_5_code 22 = .ok (.aaload, 1) := by decide +kernel
theorem d_KeyRing_makeTurn_23 : decode prog_4_method_5_code 23 = .ok (.aload_n 0, 1) := by decide +kernel
theorem d_KeyRing_makeTurn_24 : decode prog_4_method_5_code 24 = .ok (.getfield 38, 3) := by decide +kernel
theorem d_KeyRing_makeTurn_27 : decode prog_4_method_5_code 27 = .ok (.invokevirtual 78, 3) := by decide +kernel
theorem d_KeyRing_makeTurn_30 : decode prog_4_method_5_code 30 = .ok (.aload_n 0, 1) := by decide +kernel
theorem d_KeyRing_makeTurn_31 : decode prog_4_method_5_code 31 = .ok (.getfield 31, 3) := by decide +kernel
theorem d_KeyRing_makeTurn_34 : decode prog_4_method_5_code 34 = .ok (.iload_n 3, 1) := by decide +kernel
theorem d_KeyRing_makeTurn_35 : decode prog_4_method_5_code 35 = .ok (.aaload, 1) := by decide +kernel
theorem d_KeyRing_makeTurn_36 : decode prog_4_method_5_code 36 = .ok (.iload 4, 2) := by decide +kernel
theorem d_KeyRing_makeTurn_38 : decode prog_4_method_5_code 38 = .ok (.putfield 82, 3) := by decide +kernel
theorem d_KeyRing_makeTurn_41 : decode prog_4_method_5_code 41 = .ok (.aload_n 0, 1) := by decide +kernel
theorem d_KeyRing_makeTurn_42 : decode prog_4_method_5_code 42 = .ok (.aload_n 0, 1) := by decide +kernel
theorem d_KeyRing_makeTurn_43 : decode prog_4_method_5_code 43 = .ok (.getfield 45, 3) := by decide +kernel
theorem d_KeyRing_makeTurn_46 : decode prog_4_method_5_code 46 = .ok (.iload_n 3, 1) := by decide +kernel
theorem d_KeyRing_makeTurn_47 : decode prog_4_method_5_code 47 = .ok (.iconst 1, 1) := by decide +kernel
theorem d_KeyRing_makeTurn_48 : decode prog_4_method_5_code 48 = .ok (.iadd, 1) := by decide +kernel
theorem d_KeyRing_makeTurn_49 : decode prog_4_method_5_code 49 = .ok (.invokestatic 89, 3) := by decide +kernel
theorem d_KeyRing_makeTurn_52 : decode prog_4_method_5_code 52 = .ok (.putfield 45, 3) := by decide +kernel
theorem d_KeyRing_makeTurn_55 : decode prog_4_method_5_code 55 = .ok (.return_, 1) := by decide +kernel
theorem d_KeyRing_makeSwitch_0 : decode prog_4_method_6_code 0 = .ok (.iconst 0, 1) := by decide +kernel
theorem d_KeyRing_makeSwitch_1 : decode prog_4_method_6_code 1 = .ok (.istore 5, 2) := by decide +kernel
theorem d_KeyRing_makeSwitch_3 : decode prog_4_method_6_code 3 = .ok (.iload 5, 2) := by decide +kernel
theorem d_KeyRing_makeSwitch_5 : decode prog_4_method_6_code 5 = .ok (.bipush 6, 2) := by decide +kernel
theorem d_KeyRing_makeSwitch_7 : decode prog_4_method_6_code 7 = .ok (.if_icmp .ge 51, 3) := by decide +kernel
theorem d_KeyRing_makeSwitch_10 : decode prog_4_method_6_code 10 = .ok (.aload_n 0, 1) := by decide +kernel
theorem d_KeyRing_makeSwitch_11 : decode prog_4_method_6_code 11 = .ok (.aload_n 1, 1) := by decide +kernel
theorem d_KeyRing_makeSwitch_12 : decode prog_4_method_6_code 12 = .ok (.aload_n 2, 1) := by decide +kernel
theorem d_KeyRing_makeSwitch_13 : decode prog_4_method_6_code 13 = .ok (.aload_n 3, 1) := by decide +kernel
theorem d_KeyRing_makeSwitch_14 : decode prog_4_method_6_code 14 = .ok (.getfield 95, 3) := by decide +kernel
theorem d_KeyRing_makeSwitch_17 : decode prog_4_method_6_code 17 = .ok (.iload 5, 2) := by decide +kernel
theorem d_KeyRing_makeSwitch_19 : decode prog_4_method_6_code 19 = .ok (.aaload, 1) := by decide +kernel
theorem d_KeyRing_makeSwitch_20 : decode prog_4_method_6_code 20 = .ok (.invokevirtual 70, 3) := by decide +kernel
theorem d_KeyRing_makeSwitch_23 : decode prog_4_method_6_code 23 = .ok (.aload_n 1, 1) := by decide +kernel
theorem d_KeyRing_makeSwitch_24 : decode prog_4_method_6_code 24 = .ok (.aload_n 0, 1) := by decide +kernel
theorem d_KeyRing_makeSwitch_25 : decode prog_4_method_6_code 25 = .ok (.getfield 35, 3) := by decide +kernel
theorem d_KeyRing_makeSwitch_28 : decode prog_4_method_6_code 28 = .ok (.aload 4, 2) := by decide +kernel
theorem d_KeyRing_makeSwitch_30 : decode prog_4_method_6_code 30 = .ok (.lconst 1, 1) := by decide +kernel
theorem d_KeyRing_makeSwitch_31 : decode prog_4_method_6_code 31 = .ok (.iconst 5, 1) := by decide +kernel
theorem d_KeyRing_makeSwitch_32 : decode prog_4_method_6_code 32 = .ok (.iload 5, 2) := by decide +kernel
theorem d_KeyRing_makeSwitch_34 : decode prog_4_method_6_code 34 = .ok (.imul, 1) := by decide +kernel
theorem d_KeyRing_makeSwitch_35 : decode prog_4_method_6_code 35 = .ok (.lshl, 1) := by decide +kernel
theorem d_KeyRing_makeSwitch_36 : decode prog_4_method_6_code 36 = .ok (.lneg, 1) := by decide +kernel
theorem d_KeyRing_makeSwitch_37 : decode prog_4_method_6_code 37 = .ok (.invokevirtual 99, 3) := by decide +kernel
theorem d_KeyRing_makeSwitch_40 : decode prog_4_method_6_code 40 = .ok (.aload_n 0, 1) := by decide +kernel
theorem d_KeyRing_makeSwitch_41 : decode prog_4_method_6_code 41 = .ok (.aload_n 1, 1) := by decide +kernel
theorem d_KeyRing_makeSwitch_42 : decode prog_4_method_6_code 42 = .ok (.aload_n 3, 1) := by decide +kernel
theorem d_KeyRing_makeSwitch_43 : decode prog_4_method_6_code 43 = .ok (.getfield 103, 3) := by decide +kernel
theorem d_KeyRing_makeSwitch_46 : decode prog_4_method_6_code 46 = .ok (.iload 5, 2) := by decide +kernel
theorem d_KeyRing_makeSwitch_48 : decode prog_4_method_6_code 48 = .ok (.aaload, 1) := by decide +kernel
theorem d_KeyRing_makeSwitch_49 : decode prog_4_method_6_code 49 = .ok (.invokevirtual 74, 3) := by decide +kernel
theorem d_KeyRing_makeSwitch_52 : decode prog_4_method_6_code 52 = .ok (.iinc 5 1, 3) := by decide +kernel
theorem d_KeyRing_makeSwitch_55 : decode prog_4_method_6_code 55 = .ok (.goto (-52), 3) := by decide +kernel
theorem d_KeyRing_makeSwitch_58 : decode prog_4_method_6_code 58 = .ok (.return_, 1) := by decide +kernel
theorem d_KeyRing_makeMask_0 : decode prog_4_method_7_code 0 = .ok (.aload_n 2, 1) := by decide +kernel
theorem d_KeyRing_makeMask_1 : decode prog_4_method_7_code 1 = .ok (.aload_n 3, 1) := by decide +kernel
theorem d_KeyRing_makeMask_2 : decode prog_4_method_7_code 2 = .ok (.aload_n 1, 1) := by decide +kernel
theorem d_KeyRing_makeMask_3 : decode prog_4_method_7_code 3 = .ok (.getfield 49, 3) := by decide +kernel
theorem d_KeyRing_makeMask_6 : decode prog_4_method_7_code 6 = .ok (.invokevirtual 106, 3) := by decide +kernel
theorem d_KeyRing_makeMask_9 : decode prog_4_method_7_code 9 = .ok (.aload_n 2, 1) := by decide +kernel
theorem d_KeyRing_makeMask_10 : decode prog_4_method_7_code 10 = .ok (.aload_n 0, 1) := by decide +kernel
theorem d_KeyRing_makeMask_11 : decode prog_4_method_7_code 11 = .ok (.getfield 35, 3) := by decide +kernel
theorem d_KeyRing_makeMask_14 : decode prog_4_method_7_code 14 = .ok (.aload_n 1, 1) := by decide +kernel
theorem d_KeyRing_makeMask_15 : decode prog_4_method_7_code 15 = .ok (.getfield 49, 3) := by decide +kernel
theorem d_KeyRing_makeMask_18 : decode prog_4_method_7_code 18 = .ok (.invokevirtual 109, 3) := by decide +kernel
theorem d_KeyRing_makeMask_21 : decode prog_4_method_7_code 21 = .ok (.aload_n 1, 1) := by decide +kernel
theorem d_KeyRing_makeMask_22 : decode prog_4_method_7_code 22 = .ok (.aload_n 0, 1) := by decide +kernel
theorem d_KeyRing_makeMask_23 : decode prog_4_method_7_code 23 = .ok (.getfield 35, 3) := by decide +kernel
theorem d_KeyRing_makeMask_26 : decode prog_4_method_7_code 26 = .ok (.aload_n 0, 1) := by decide +kernel
theorem d_KeyRing_makeMask_27 : decode prog_4_method_7_code 27 = .ok (.getfield 9, 3) := by decide +kernel
theorem d_KeyRing_makeMask_30 : decode prog_4_method_7_code 30 = .ok (.aload_n 3, 1) := by decide +kernel
theorem d_KeyRing_makeMask_31 : decode prog_4_method_7_code 31 = .ok (.invokevirtual 66, 3) := by decide +kernel
theorem d_KeyRing_makeMask_34 : decode prog_4_method_7_code 34 = .ok (.return_, 1) := by decide +kernel
theorem d_KeyRing_hideBody_0 : decode prog_4_method_8_code 0 = .ok (.iconst 0, 1) := by decide +kernel
theorem d_KeyRing_hideBody_1 : decode prog_4_method_8_code 1 = .ok (.istore_n 3, 1) := by decide +kernel
theorem d_KeyRing_hideBody_2 : decode prog_4_method_8_code 2 = .ok (.iload_n 3, 1) := by decide +kernel
theorem d_KeyRing_hideBody_3 : decode prog_4_method_8_code 3 = .ok (.aload_n 1, 1) := by decide +kernel
theorem d_KeyRing_hideBody_4 : decode prog_4_method_8_code 4 = .ok (.getfield 49, 3) := by decide +kernel
theorem d_KeyRing_hideBody_7 : decode prog_4_method_8_code 7 = .ok (.if_icmp .ge 25, 3) := by decide +kernel
theorem d_KeyRing_hideBody_10 : decode prog_4_method_8_code 10 = .ok (.aload_n 2, 1) := by decide +kernel
theorem d_KeyRing_hideBody_11 : decode prog_4_method_8_code 11 = .ok (.iload_n 3, 1) := by decide +kernel
theorem d_KeyRing_hideBody_12 : decode prog_4_method_8_code 12 = .ok (.aload_n 0, 1) := by decide +kernel
theorem d_KeyRing_hideBody_13 : decode prog_4_method_8_code 13 = .ok (.getfield 35, 3) := by decide +kernel
theorem d_KeyRing_hideBody_16 : decode prog_4_method_8_code 16 = .ok (.iload_n 3, 1) := by decide +kernel
theorem d_KeyRing_hideBody_17 : decode prog_4_method_8_code 17 = .ok (.laload, 1) := by decide +kernel
theorem d_KeyRing_hideBody_18 : decode prog_4_method_8_code 18 = .ok (.lneg, 1) := by decide +kernel
theorem d_KeyRing_hideBody_19 : decode prog_4_method_8_code 19 = .ok (.ldc2_w 112, 3) := by decide +kernel
theorem d_KeyRing_hideBody_22 : decode prog_4_method_8_code 22 = .ok (.invokestatic 114, 3) := by decide +kernel
theorem d_KeyRing_hideBody_25 : decode prog_4_method_8_code 25 = .ok (.lastore, 1) := by decide +kernel
theorem d_KeyRing_hideBody_26 : decode prog_4_method_8_code 26 = .ok (.iinc 3 1, 3) := by decide +kernel
theorem d_KeyRing_hideBody_29 : decode prog_4_method_8_code 29 = .ok (.goto (-27), 3) := by decide +kernel
theorem d_KeyRing_hideBody_32 : decode prog_4_method_8_code 32 = .ok (.return_, 1) := by decide +kernel
theorem d_KeyRing_findPhase_0 : decode prog_4_method_9_code 0 = .ok (.aload_n 1, 1) := by decide +kernel
theorem d_KeyRing_findPhase_1 : decode prog_4_method_9_code 1 = .ok (.aload_n 0, 1) := by decide +kernel
theorem d_KeyRing_findPhase_2 : decode prog_4_method_9_code 2 = .ok (.getfield 35, 3) := by decide +kernel
theorem d_KeyRing_findPhase_5 : decode prog_4_method_9_code 5 = .ok (.aload_n 3, 1) := by decide +kernel
theorem d_KeyRing_findPhase_6 : decode prog_4_method_9_code 6 = .ok (.getfield 118, 3) := by decide +kernel
theorem d_KeyRing_findPhase_9 : decode prog_4_method_9_code 9 = .ok (.iconst 0, 1) := by decide +kernel
theorem d_KeyRing_findPhase_10 : decode prog_4_method_9_code 10 = .ok (.aaload, 1) := by decide +kernel
theorem d_KeyRing_findPhase_11 : decode prog_4_method_9_code 11 = .ok (.invokevirtual 123, 3) := by decide +kernel
theorem d_KeyRing_findPhase_14 : decode prog_4_method_9_code 14 = .ok (.aload_n 1, 1) := by decide +kernel
theorem d_KeyRing_findPhase_15 : decode prog_4_method_9_code 15 = .ok (.aload_n 0, 1) := by decide +kernel
theorem d_KeyRing_findPhase_16 : decode prog_4_method_9_code 16 = .ok (.getfield 35, 3) := by decide +kernel
theorem d_KeyRing_findPhase_19 : decode prog_4_method_9_code 19 = .ok (.aload_n 0, 1) := by decide +kernel
theorem d_KeyRing_findPhase_20 : decode prog_4_method_9_code 20 = .ok (.getfield 9, 3) := by decide +kernel
theorem d_KeyRing_findPhase_23 : decode prog_4_method_9_code 23 = .ok (.aload_n 3, 1) := by decide +kernel
theorem d_KeyRing_findPhase_24 : decode prog_4_method_9_code 24 = .ok (.getfield 118, 3) := by decide +kernel
theorem d_KeyRing_findPhase_27 : decode prog_4_method_9_code 27 = .ok (.iconst 1, 1) := by decide +kernel
theorem d_KeyRing_findPhase_28 : decode prog_4_method_9_code 28 = .ok (.aaload, 1) := by decide +kernel
theorem d_KeyRing_findPhase_29 : decode prog_4_method_9_code 29 = .ok (.invokevirtual 66, 3) := by decide +kernel
theorem d_KeyRing_findPhase_32 : decode prog_4_method_9_code 32 = .ok (.aload_n 3, 1) := by decide +kernel
theorem d_KeyRing_findPhase_33 : decode prog_4_method_9_code 33 = .ok (.getfield 127, 3) := by decide +kernel
theorem d_KeyRing_findPhase_36 : decode prog_4_method_9_code 36 = .ok (.iconst 3, 1) := by decide +kernel
theorem d_KeyRing_findPhase_37 : decode prog_4_method_9_code 37 = .ok (.if_icmp .ne 21, 3) := by decide +kernel
theorem d_KeyRing_findPhase_40 : decode prog_4_method_9_code 40 = .ok (.aload_n 1, 1) := by decide +kernel
theorem d_KeyRing_findPhase_41 : decode prog_4_method_9_code 41 = .ok (.aload_n 0, 1) := by decide +kernel
theorem d_KeyRing_findPhase_42 : decode prog_4_method_9_code 42 = .ok (.getfield 35, 3) := by decide +kernel
theorem d_KeyRing_findPhase_45 : decode prog_4_method_9_code 45 = .ok (.aload_n 0, 1) := by decide +kernel
theorem d_KeyRing_findPhase_46 : decode prog_4_method_9_code 46 = .ok (.getfield 15, 3) := by decide +kernel
theorem d_KeyRing_findPhase_49 : decode prog_4_method_9_code 49 = .ok (.aload_n 3, 1) := by decide +kernel
theorem d_KeyRing_findPhase_50 : decode prog_4_method_9_code 50 = .ok (.getfield 118, 3) := by decide +kernel
theorem d_KeyRing_findPhase_53 : decode prog_4_method_9_code 53 = .ok (.iconst 2, 1) := by decide +kernel
theorem d_KeyRing_findPhase_54 : decode prog_4_method_9_code 54 = .ok (.aaload, 1) := by decide +kernel
theorem d_KeyRing_findPhase_55 : decode prog_4_method_9_code 55 = .ok (.invokevirtual 66, 3) := by decide +kernel
theorem d_KeyRing_findPhase_58 : decode prog_4_method_9_code 58 = .ok (.aload_n 1, 1) := by decide +kernel
theorem d_KeyRing_findPhase_59 : decode prog_4_method_9_code 59 = .ok (.aload_n 2, 1) := by decide +kernel
theorem d_KeyRing_findPhase_60 : decode prog_4_method_9_code 60 = .ok (.aload_n 0, 1) := by decide +kernel
theorem d_KeyRing_findPhase_61 : decode prog_4_method_9_code 61 = .ok (.getfield 35, 3) := by decide +kernel
theorem d_KeyRing_findPhase_64 : decode prog_4_method_9_code 64 = .ok (.invokevirtual 130, 3) := by decide +kernel
theorem d_KeyRing_findPhase_67 : decode prog_4_method_9_code 67 = .ok (.return_, 1) := by decide +kernel

theorem ff_Cipher_11 : zFF "RingCipher$Cipher" 11 cCipher 1 := ⟨R_Cipher, F_Cipher, 2, t_Cipher, rfl, by decide, i_Cipher, t_Cipher_ok, n_Cipher, Or.inl ⟨List.mem_append_right _ (List.mem_of_getElem? (i := 157) (by decide +kernel)), by decide +kernel⟩⟩
theorem co_Cipher_init : zCo M_Cipher_init := Or.inl ⟨⟨List.mem_append_right _ (List.mem_of_getElem? (i := 152) (by decide +kernel)), by decide +kernel⟩, rfl⟩
theorem d_Cipher_init_0 : decode prog_3_method_1_code 0 = .ok (.aload_n 0, 1) := by decide +kernel
theorem d_Cipher_init_1 : decode prog_3_method_1_code 1 = .ok (.invokespecial 3, 3) := by decide +kernel
theorem d_Cipher_init_4 : decode prog_3_method_1_code 4 = .ok (.aload_n 0, 1) := by decide +kernel
theorem d_Cipher_init_5 : decode prog_3_method_1_code 5 = .ok (.iconst 3, 1) := by decide +kernel
theorem d_Cipher_init_6 : decode prog_3_method_1_code 6 = .ok (.bipush 32, 2) := by decide +kernel
theorem d_Cipher_init_8 : decode prog_3_method_1_code 8 = .ok (.multianewarray 9 2, 4) := by decide +kernel
theorem d_Cipher_init_12 : decode prog_3_method_1_code 12 = .ok (.putfield 11, 3) := by decide +kernel
theorem d_Cipher_init_15 : decode prog_3_method_1_code 15 = .ok (.return_, 1) := by decide +kernel

theorem ff_SwitchKey_11 : zFF "RingCipher$SwitchKey" 11 cSwitchKey 1 := ⟨R_SwitchKey, F_SwitchKey, 3, t_SwitchKey, rfl, by decide, i_SwitchKey, t_SwitchKey_ok, n_SwitchKey, Or.inl ⟨List.mem_append_right _ (List.mem_of_getElem? (i := 95) (by decide +kernel)), by decide +kernel⟩⟩
theorem ff_SwitchKey_16 : zFF "RingCipher$SwitchKey" 16 cSwitchKey 2 := ⟨R_SwitchKey, F_SwitchKey, 3, t_SwitchKey, rfl, by decide, i_SwitchKey, t_SwitchKey_ok, n_SwitchKey, Or.inl ⟨List.mem_append_right _ (List.mem_of_getElem? (i := 98) (by decide +kernel)), by decide +kernel⟩⟩
theorem co_SwitchKey_init : zCo M_SwitchKey_init := Or.inl ⟨⟨List.mem_append_right _ (List.mem_of_getElem? (i := 90) (by decide +kernel)), by decide +kernel⟩, rfl⟩
theorem d_SwitchKey_init_0 : decode prog_6_method_1_code 0 = .ok (.aload_n 0, 1) := by decide +kernel
theorem d_SwitchKey_init_1 : decode prog_6_method_1_code 1 = .ok (.invokespecial 3, 3) := by decide +kernel
theorem d_SwitchKey_init_4 : decode prog_6_method_1_code 4 = .ok (.aload_n 0, 1) := by decide +kernel
theorem d_SwitchKey_init_5 : decode prog_6_method_1_code 5 = .ok (.bipush 6, 2) := by decide +kernel
theorem d_SwitchKey_init_7 : decode prog_6_method_1_code 7 = .ok (.bipush 32, 2) := by decide +kernel
theorem d_SwitchKey_init_9 : decode prog_6_method_1_code 9 = .ok (.multianewarray 9 2, 4) := by decide +kernel
theorem d_SwitchKey_init_13 : decode prog_6_method_1_code 13 = .ok (.putfield 11, 3) := by decide +kernel
theorem d_SwitchKey_init_16 : decode prog_6_method_1_code 16 = .ok (.aload_n 0, 1) := by decide +kernel
theorem d_SwitchKey_init_17 : decode prog_6_method_1_code 17 = .ok (.bipush 6, 2) := by decide +kernel
theorem d_SwitchKey_init_19 : decode prog_6_method_1_code 19 = .ok (.bipush 32, 2) := by decide +kernel
theorem d_SwitchKey_init_21 : decode prog_6_method_1_code 21 = .ok (.multianewarray 9 2, 4) := by decide +kernel
theorem d_SwitchKey_init_25 : decode prog_6_method_1_code 25 = .ok (.putfield 16, 3) := by decide +kernel
theorem d_SwitchKey_init_28 : decode prog_6_method_1_code 28 = .ok (.return_, 1) := by decide +kernel
end
section
theorem ff_X_250 : zFF "RingCipher" 250 cRing 0 := ⟨R_Ring, F_Ring, 5, t_Ring, rfl, by decide, i_Ring, t_Ring_ok, n_Ring, Or.inr ⟨"RingCipher", List.mem_append_right _ (List.mem_of_getElem? (i := 49) (by decide +kernel)), by decide +kernel⟩⟩
theorem ff_X_78 : zFF "RingCipher" 78 cRing 1 := ⟨R_Ring, F_Ring, 5, t_Ring, rfl, by decide, i_Ring, t_Ring_ok, n_Ring, Or.inr ⟨"RingCipher", List.mem_append_right _ (List.mem_of_getElem? (i := 51) (by decide +kernel)), by decide +kernel⟩⟩
theorem ff_X_117 : zFF "RingCipher" 117 cRing 2 := ⟨R_Ring, F_Ring, 5, t_Ring, rfl, by decide, i_Ring, t_Ring_ok, n_Ring, Or.inr ⟨"RingCipher", List.mem_append_right _ (List.mem_of_getElem? (i := 54) (by decide +kernel)), by decide +kernel⟩⟩
theorem ff_X_253 : zFF "RingCipher" 253 cRing 3 := ⟨R_Ring, F_Ring, 5, t_Ring, rfl, by decide, i_Ring, t_Ring_ok, n_Ring, Or.inr ⟨"RingCipher", List.mem_append_right _ (List.mem_of_getElem? (i := 56) (by decide +kernel)), by decide +kernel⟩⟩
theorem ff_X_283 : zFF "RingCipher" 283 cSwitchKey 1 := ⟨R_SwitchKey, F_SwitchKey, 3, t_SwitchKey, rfl, by decide, i_SwitchKey, t_SwitchKey_ok, n_SwitchKey, Or.inr ⟨"RingCipher", List.mem_append_right _ (List.mem_of_getElem? (i := 97) (by decide +kernel)), by decide +kernel⟩⟩
theorem ff_X_288 : zFF "RingCipher" 288 cSwitchKey 2 := ⟨R_SwitchKey, F_SwitchKey, 3, t_SwitchKey, rfl, by decide, i_SwitchKey, t_SwitchKey_ok, n_SwitchKey, Or.inr ⟨"RingCipher", List.mem_append_right _ (List.mem_of_getElem? (i := 100) (by decide +kernel)), by decide +kernel⟩⟩
theorem ff_X_88 : zFF "RingCipher" 88 cKeyRing 0 := ⟨R_KeyRing, F_KeyRing, 10, t_KeyRing, rfl, by decide, i_KeyRing, t_KeyRing_ok, n_KeyRing, Or.inr ⟨"RingCipher", List.mem_append_right _ (List.mem_of_getElem? (i := 110) (by decide +kernel)), by decide +kernel⟩⟩
theorem ff_X_107 : zFF "RingCipher" 107 cKeyRing 1 := ⟨R_KeyRing, F_KeyRing, 10, t_KeyRing, rfl, by decide, i_KeyRing, t_KeyRing_ok, n_KeyRing, Or.inr ⟨"RingCipher", List.mem_append_right _ (List.mem_of_getElem? (i := 112) (by decide +kernel)), by decide +kernel⟩⟩
theorem ff_X_150 : zFF "RingCipher" 150 cKeyRing 4 := ⟨R_KeyRing, F_KeyRing, 10, t_KeyRing, rfl, by decide, i_KeyRing, t_KeyRing_ok, n_KeyRing, Or.inr ⟨"RingCipher", List.mem_append_right _ (List.mem_of_getElem? (i := 116) (by decide +kernel)), by decide +kernel⟩⟩
theorem ff_X_166 : zFF "RingCipher" 166 cKeyRing 5 := ⟨R_KeyRing, F_KeyRing, 10, t_KeyRing, rfl, by decide, i_KeyRing, t_KeyRing_ok, n_KeyRing, Or.inr ⟨"RingCipher", List.mem_append_right _ (List.mem_of_getElem? (i := 118) (by decide +kernel)), by decide +kernel⟩⟩
theorem ff_X_225 : zFF "RingCipher" 225 cKeyRing 6 := ⟨R_KeyRing, F_KeyRing, 10, t_KeyRing, rfl, by decide, i_KeyRing, t_KeyRing_ok, n_KeyRing, Or.inr ⟨"RingCipher", List.mem_append_right _ (List.mem_of_getElem? (i := 120) (by decide +kernel)), by decide +kernel⟩⟩
theorem ff_X_239 : zFF "RingCipher" 239 cKeyRing 7 := ⟨R_KeyRing, F_KeyRing, 10, t_KeyRing, rfl, by decide, i_KeyRing, t_KeyRing_ok, n_KeyRing, Or.inr ⟨"RingCipher", List.mem_append_right _ (List.mem_of_getElem? (i := 122) (by decide +kernel)), by decide +kernel⟩⟩
theorem ff_X_197 : zFF "RingCipher" 197 cCipher 0 := ⟨R_Cipher, F_Cipher, 2, t_Cipher, rfl, by decide, i_Cipher, t_Cipher_ok, n_Cipher, Or.inr ⟨"RingCipher", List.mem_append_right _ (List.mem_of_getElem? (i := 156) (by decide +kernel)), by decide +kernel⟩⟩
theorem ff_X_221 : zFF "RingCipher" 221 cCipher 1 := ⟨R_Cipher, F_Cipher, 2, t_Cipher, rfl, by decide, i_Cipher, t_Cipher_ok, n_Cipher, Or.inr ⟨"RingCipher", List.mem_append_right _ (List.mem_of_getElem? (i := 159) (by decide +kernel)), by decide +kernel⟩⟩
theorem ff_X_12 : zFF "RingCipher" 12 cX 0 := ⟨R_X, F_X, 7, t_X, rfl, by decide, i_X, t_X_ok, n_X, Or.inl ⟨List.mem_append_right _ (List.mem_of_getElem? (i := 165) (by decide +kernel)), by decide +kernel⟩⟩
theorem ff_X_19 : zFF "RingCipher" 19 cX 1 := ⟨R_X, F_X, 7, t_X, rfl, by decide, i_X, t_X_ok, n_X, Or.inl ⟨List.mem_append_right _ (List.mem_of_getElem? (i := 166) (by decide +kernel)), by decide +kernel⟩⟩
theorem ff_X_26 : zFF "RingCipher" 26 cX 2 := ⟨R_X, F_X, 7, t_X, rfl, by decide, i_X, t_X_ok, n_X, Or.inl ⟨List.mem_append_right _ (List.mem_of_getElem? (i := 167) (by decide +kernel)), by decide +kernel⟩⟩
theorem ff_X_32 : zFF "RingCipher" 32 cX 3 := ⟨R_X, F_X, 7, t_X, rfl, by decide, i_X, t_X_ok, n_X, Or.inl ⟨List.mem_append_right _ (List.mem_of_getElem? (i := 168) (by decide +kernel)), by decide +kernel⟩⟩
theorem ff_X_37 : zFF "RingCipher" 37 cX 4 := ⟨R_X, F_X, 7, t_X, rfl, by decide, i_X, t_X_ok, n_X, Or.inl ⟨List.mem_append_right _ (List.mem_of_getElem? (i := 169) (by decide +kernel)), by decide +kernel⟩⟩
theorem ff_X_42 : zFF "RingCipher" 42 cX 5 := ⟨R_X, F_X, 7, t_X, rfl, by decide, i_X, t_X_ok, n_X, Or.inl ⟨List.mem_append_right _ (List.mem_of_getElem? (i := 170) (by decide +kernel)), by decide +kernel⟩⟩
theorem ff_X_45 : zFF "RingCipher" 45 cX 6 := ⟨R_X, F_X, 7, t_X, rfl, by decide, i_X, t_X_ok, n_X, Or.inl ⟨List.mem_append_right _ (List.mem_of_getElem? (i := 171) (by decide +kernel)), by decide +kernel⟩⟩
theorem k_X_306 : zin (.constantLong "RingCipher" 306 (Int64.ofInt (268435399))) := ⟨List.mem_append_right _ (List.mem_of_getElem? (i := 507) (by decide +kernel)), by decide +kernel⟩
theorem k_X_308 : zin (.constantLong "RingCipher" 308 (Int64.ofInt (134217699))) := ⟨List.mem_append_right _ (List.mem_of_getElem? (i := 509) (by decide +kernel)), by decide +kernel⟩
theorem k_X_206 : zin (.constantLong "RingCipher" 206 (Int64.ofInt (-1))) := ⟨List.mem_append_right _ (List.mem_of_getElem? (i := 558) (by decide +kernel)), by decide +kernel⟩
theorem k_X_281 : zin (.constantLong "RingCipher" 281 (Int64.ofInt (31))) := ⟨List.mem_append_right _ (List.mem_of_getElem? (i := 592) (by decide +kernel)), by decide +kernel⟩
theorem g_X_11 : zGI "RingCipher" 11 M_Ring_init 0 := ⟨Or.inr ⟨"RingCipher", List.mem_append_right _ (List.mem_of_getElem? (i := 28) (by decide +kernel)), by decide +kernel⟩, ⟨List.mem_append_right _ (List.mem_of_getElem? (i := 29) (by decide +kernel)), by decide +kernel⟩, rfl, rfl, ⟨List.mem_append_right _ (List.mem_of_getElem? (i := 30) (by decide +kernel)), by decide +kernel⟩, ⟨by decide +kernel, by decide +kernel⟩, by decide +kernel⟩
theorem g_X_18 : zGI "RingCipher" 18 M_Chance_init 0 := ⟨Or.inr ⟨"RingCipher", List.mem_append_right _ (List.mem_of_getElem? (i := 72) (by decide +kernel)), by decide +kernel⟩, ⟨List.mem_append_right _ (List.mem_of_getElem? (i := 73) (by decide +kernel)), by decide +kernel⟩, rfl, rfl, ⟨List.mem_append_right _ (List.mem_of_getElem? (i := 74) (by decide +kernel)), by decide +kernel⟩, ⟨by decide +kernel, by decide +kernel⟩, by decide +kernel⟩
theorem g_X_25 : zGI "RingCipher" 25 M_KeyRing_init 0 := ⟨Or.inr ⟨"RingCipher", List.mem_append_right _ (List.mem_of_getElem? (i := 82) (by decide +kernel)), by decide +kernel⟩, ⟨List.mem_append_right _ (List.mem_of_getElem? (i := 83) (by decide +kernel)), by decide +kernel⟩, rfl, rfl, ⟨List.mem_append_right _ (List.mem_of_getElem? (i := 84) (by decide +kernel)), by decide +kernel⟩, ⟨by decide +kernel, by decide +kernel⟩, by decide +kernel⟩
theorem g_X_41 : zGI "RingCipher" 41 M_Cipher_init 0 := ⟨Or.inr ⟨"RingCipher", List.mem_append_right _ (List.mem_of_getElem? (i := 150) (by decide +kernel)), by decide +kernel⟩, ⟨List.mem_append_right _ (List.mem_of_getElem? (i := 151) (by decide +kernel)), by decide +kernel⟩, rfl, rfl, ⟨List.mem_append_right _ (List.mem_of_getElem? (i := 152) (by decide +kernel)), by decide +kernel⟩, ⟨by decide +kernel, by decide +kernel⟩, by decide +kernel⟩
theorem g_X_82 : zGV "RingCipher" 82 M_KeyRing_renew 2 := ⟨Or.inr ⟨"RingCipher", List.mem_append_right _ (List.mem_of_getElem? (i := 191) (by decide +kernel)), by decide +kernel⟩, ⟨List.mem_append_right _ (List.mem_of_getElem? (i := 193) (by decide +kernel)), by decide +kernel⟩, ⟨List.mem_append_left _ (List.mem_of_getElem? (i := 3) (by decide +kernel)), by decide +kernel⟩, ⟨by decide +kernel, by decide +kernel⟩, by decide +kernel⟩
theorem g_X_69 : zGV "RingCipher" 69 M_X_emptyCiphers 0 := ⟨Or.inl ⟨List.mem_append_right _ (List.mem_of_getElem? (i := 248) (by decide +kernel)), by decide +kernel⟩, ⟨List.mem_append_right _ (List.mem_of_getElem? (i := 250) (by decide +kernel)), by decide +kernel⟩, ⟨List.mem_append_left _ (List.mem_of_getElem? (i := 13) (by decide +kernel)), by decide +kernel⟩, ⟨by decide +kernel, by decide +kernel⟩, by decide +kernel⟩
theorem g_X_256 : zGV "RingCipher" 256 M_X_fullCiphers 0 := ⟨Or.inl ⟨List.mem_append_right _ (List.mem_of_getElem? (i := 256) (by decide +kernel)), by decide +kernel⟩, ⟨List.mem_append_right _ (List.mem_of_getElem? (i := 258) (by decide +kernel)), by decide +kernel⟩, ⟨List.mem_append_left _ (List.mem_of_getElem? (i := 14) (by decide +kernel)), by decide +kernel⟩, ⟨by decide +kernel, by decide +kernel⟩, by decide +kernel⟩
theorem g_X_260 : zGV "RingCipher" 260 M_Chance_upperHalf 0 := ⟨Or.inr ⟨"RingCipher", List.mem_append_right _ (List.mem_of_getElem? (i := 260) (by decide +kernel)), by decide +kernel⟩, ⟨List.mem_append_right _ (List.mem_of_getElem? (i := 262) (by decide +kernel)), by decide +kernel⟩, ⟨List.mem_append_left _ (List.mem_of_getElem? (i := 15) (by decide +kernel)), by decide +kernel⟩, ⟨by decide +kernel, by decide +kernel⟩, by decide +kernel⟩
theorem g_X_59 : zGV "RingCipher" 59 M_Ring_choose 1 := ⟨Or.inr ⟨"RingCipher", List.mem_append_right _ (List.mem_of_getElem? (i := 341) (by decide +kernel)), by decide +kernel⟩, ⟨List.mem_append_right _ (List.mem_of_getElem? (i := 34) (by decide +kernel)), by decide +kernel⟩, ⟨List.mem_append_left _ (List.mem_of_getElem? (i := 0) (by decide +kernel)), by decide +kernel⟩, ⟨by decide +kernel, by decide +kernel⟩, by decide +kernel⟩
theorem g_X_63 : zGV "RingCipher" 63 M_Chance_restart 1 := ⟨Or.inr ⟨"RingCipher", List.mem_append_right _ (List.mem_of_getElem? (i := 342) (by decide +kernel)), by decide +kernel⟩, ⟨List.mem_append_right _ (List.mem_of_getElem? (i := 344) (by decide +kernel)), by decide +kernel⟩, ⟨List.mem_append_left _ (List.mem_of_getElem? (i := 17) (by decide +kernel)), by decide +kernel⟩, ⟨by decide +kernel, by decide +kernel⟩, by decide +kernel⟩
theorem g_X_66 : zGV "RingCipher" 66 M_KeyRing_forget 0 := ⟨Or.inr ⟨"RingCipher", List.mem_append_right _ (List.mem_of_getElem? (i := 346) (by decide +kernel)), by decide +kernel⟩, ⟨List.mem_append_right _ (List.mem_of_getElem? (i := 348) (by decide +kernel)), by decide +kernel⟩, ⟨List.mem_append_left _ (List.mem_of_getElem? (i := 18) (by decide +kernel)), by decide +kernel⟩, ⟨by decide +kernel, by decide +kernel⟩, by decide +kernel⟩
theorem g_X_72 : zGS "RingCipher" 72 M_Arrays_fill 2 := ⟨Or.inl ⟨List.mem_append_right _ (List.mem_of_getElem? (i := 350) (by decide +kernel)), by decide +kernel⟩, ⟨List.mem_append_right _ (List.mem_of_getElem? (i := 206) (by decide +kernel)), by decide +kernel⟩, ⟨List.mem_append_right _ (List.mem_of_getElem? (i := 12) (by decide +kernel)), by decide +kernel⟩, ⟨by decide +kernel, by decide +kernel⟩, by decide +kernel⟩
theorem g_X_97 : zGV "RingCipher" 97 M_KeyRing_placeOfTurn 1 := ⟨Or.inr ⟨"RingCipher", List.mem_append_right _ (List.mem_of_getElem? (i := 376) (by decide +kernel)), by decide +kernel⟩, ⟨List.mem_append_right _ (List.mem_of_getElem? (i := 378) (by decide +kernel)), by decide +kernel⟩, ⟨List.mem_append_left _ (List.mem_of_getElem? (i := 19) (by decide +kernel)), by decide +kernel⟩, ⟨by decide +kernel, by decide +kernel⟩, by decide +kernel⟩
theorem g_X_103 : zGV "RingCipher" 103 M_KeyRing_makeTurn 4 := ⟨Or.inr ⟨"RingCipher", List.mem_append_right _ (List.mem_of_getElem? (i := 381) (by decide +kernel)), by decide +kernel⟩, ⟨List.mem_append_right _ (List.mem_of_getElem? (i := 383) (by decide +kernel)), by decide +kernel⟩, ⟨List.mem_append_left _ (List.mem_of_getElem? (i := 20) (by decide +kernel)), by decide +kernel⟩, ⟨by decide +kernel, by decide +kernel⟩, by decide +kernel⟩
theorem g_X_110 : zGV "RingCipher" 110 M_X_plainAt 1 := ⟨Or.inl ⟨List.mem_append_right _ (List.mem_of_getElem? (i := 402) (by decide +kernel)), by decide +kernel⟩, ⟨List.mem_append_right _ (List.mem_of_getElem? (i := 404) (by decide +kernel)), by decide +kernel⟩, ⟨List.mem_append_left _ (List.mem_of_getElem? (i := 22) (by decide +kernel)), by decide +kernel⟩, ⟨by decide +kernel, by decide +kernel⟩, by decide +kernel⟩
theorem g_X_114 : zGV "RingCipher" 114 M_X_checkCoefficient 1 := ⟨Or.inl ⟨List.mem_append_right _ (List.mem_of_getElem? (i := 422) (by decide +kernel)), by decide +kernel⟩, ⟨List.mem_append_right _ (List.mem_of_getElem? (i := 424) (by decide +kernel)), by decide +kernel⟩, ⟨List.mem_append_left _ (List.mem_of_getElem? (i := 23) (by decide +kernel)), by decide +kernel⟩, ⟨by decide +kernel, by decide +kernel⟩, by decide +kernel⟩
theorem g_X_120 : zGS "RingCipher" 120 M_Math_floorMod_II 2 := ⟨Or.inl ⟨List.mem_append_right _ (List.mem_of_getElem? (i := 427) (by decide +kernel)), by decide +kernel⟩, ⟨List.mem_append_right _ (List.mem_of_getElem? (i := 428) (by decide +kernel)), by decide +kernel⟩, ⟨List.mem_append_right _ (List.mem_of_getElem? (i := 14) (by decide +kernel)), by decide +kernel⟩, ⟨by decide +kernel, by decide +kernel⟩, by decide +kernel⟩
theorem g_X_126 : zGV "RingCipher" 126 M_Ring_evaluate 2 := ⟨Or.inr ⟨"RingCipher", List.mem_append_right _ (List.mem_of_getElem? (i := 444) (by decide +kernel)), by decide +kernel⟩, ⟨List.mem_append_right _ (List.mem_of_getElem? (i := 446) (by decide +kernel)), by decide +kernel⟩, ⟨List.mem_append_left _ (List.mem_of_getElem? (i := 24) (by decide +kernel)), by decide +kernel⟩, ⟨by decide +kernel, by decide +kernel⟩, by decide +kernel⟩
theorem g_X_130 : zGV "RingCipher" 130 M_Ring_interpolate 2 := ⟨Or.inr ⟨"RingCipher", List.mem_append_right _ (List.mem_of_getElem? (i := 448) (by decide +kernel)), by decide +kernel⟩, ⟨List.mem_append_right _ (List.mem_of_getElem? (i := 450) (by decide +kernel)), by decide +kernel⟩, ⟨List.mem_append_left _ (List.mem_of_getElem? (i := 25) (by decide +kernel)), by decide +kernel⟩, ⟨by decide +kernel, by decide +kernel⟩, by decide +kernel⟩
theorem g_X_139 : zGV "RingCipher" 139 M_X_placeAt 1 := ⟨Or.inl ⟨List.mem_append_right _ (List.mem_of_getElem? (i := 462) (by decide +kernel)), by decide +kernel⟩, ⟨List.mem_append_right _ (List.mem_of_getElem? (i := 464) (by decide +kernel)), by decide +kernel⟩, ⟨List.mem_append_left _ (List.mem_of_getElem? (i := 26) (by decide +kernel)), by decide +kernel⟩, ⟨by decide +kernel, by decide +kernel⟩, by decide +kernel⟩
theorem g_X_143 : zGV "RingCipher" 143 M_Chance_fillTernary 2 := ⟨Or.inr ⟨"RingCipher", List.mem_append_right _ (List.mem_of_getElem? (i := 467) (by decide +kernel)), by decide +kernel⟩, ⟨List.mem_append_right _ (List.mem_of_getElem? (i := 197) (by decide +kernel)), by decide +kernel⟩, ⟨List.mem_append_left _ (List.mem_of_getElem? (i := 4) (by decide +kernel)), by decide +kernel⟩, ⟨by decide +kernel, by decide +kernel⟩, by decide +kernel⟩
theorem g_X_147 : zGV "RingCipher" 147 M_Chance_fillErrors 2 := ⟨Or.inr ⟨"RingCipher", List.mem_append_right _ (List.mem_of_getElem? (i := 468) (by decide +kernel)), by decide +kernel⟩, ⟨List.mem_append_right _ (List.mem_of_getElem? (i := 224) (by decide +kernel)), by decide +kernel⟩, ⟨List.mem_append_left _ (List.mem_of_getElem? (i := 9) (by decide +kernel)), by decide +kernel⟩, ⟨by decide +kernel, by decide +kernel⟩, by decide +kernel⟩
theorem g_X_154 : zGV "RingCipher" 154 M_Ring_addProduct 3 := ⟨Or.inr ⟨"RingCipher", List.mem_append_right _ (List.mem_of_getElem? (i := 469) (by decide +kernel)), by decide +kernel⟩, ⟨List.mem_append_right _ (List.mem_of_getElem? (i := 210) (by decide +kernel)), by decide +kernel⟩, ⟨List.mem_append_left _ (List.mem_of_getElem? (i := 6) (by decide +kernel)), by decide +kernel⟩, ⟨by decide +kernel, by decide +kernel⟩, by decide +kernel⟩
theorem g_X_158 : zGV "RingCipher" 158 M_Ring_scale 0 := ⟨Or.inr ⟨"RingCipher", List.mem_append_right _ (List.mem_of_getElem? (i := 470) (by decide +kernel)), by decide +kernel⟩, ⟨List.mem_append_right _ (List.mem_of_getElem? (i := 472) (by decide +kernel)), by decide +kernel⟩, ⟨List.mem_append_left _ (List.mem_of_getElem? (i := 27) (by decide +kernel)), by decide +kernel⟩, ⟨by decide +kernel, by decide +kernel⟩, by decide +kernel⟩
theorem g_X_162 : zGV "RingCipher" 162 M_Ring_addScaled 3 := ⟨Or.inr ⟨"RingCipher", List.mem_append_right _ (List.mem_of_getElem? (i := 474) (by decide +kernel)), by decide +kernel⟩, ⟨List.mem_append_right _ (List.mem_of_getElem? (i := 246) (by decide +kernel)), by decide +kernel⟩, ⟨List.mem_append_left _ (List.mem_of_getElem? (i := 12) (by decide +kernel)), by decide +kernel⟩, ⟨by decide +kernel, by decide +kernel⟩, by decide +kernel⟩
theorem g_X_169 : zGV "RingCipher" 169 M_X_storeTwoParts 1 := ⟨Or.inl ⟨List.mem_append_right _ (List.mem_of_getElem? (i := 475) (by decide +kernel)), by decide +kernel⟩, ⟨List.mem_append_right _ (List.mem_of_getElem? (i := 477) (by decide +kernel)), by decide +kernel⟩, ⟨List.mem_append_left _ (List.mem_of_getElem? (i := 28) (by decide +kernel)), by decide +kernel⟩, ⟨by decide +kernel, by decide +kernel⟩, by decide +kernel⟩
theorem g_X_274 : zGV "RingCipher" 274 M_X_storeSums 2 := ⟨Or.inl ⟨List.mem_append_right _ (List.mem_of_getElem? (i := 479) (by decide +kernel)), by decide +kernel⟩, ⟨List.mem_append_right _ (List.mem_of_getElem? (i := 481) (by decide +kernel)), by decide +kernel⟩, ⟨List.mem_append_left _ (List.mem_of_getElem? (i := 29) (by decide +kernel)), by decide +kernel⟩, ⟨by decide +kernel, by decide +kernel⟩, by decide +kernel⟩
theorem g_X_291 : zGV "RingCipher" 291 M_Ring_reduce 2 := ⟨Or.inr ⟨"RingCipher", List.mem_append_right _ (List.mem_of_getElem? (i := 483) (by decide +kernel)), by decide +kernel⟩, ⟨List.mem_append_right _ (List.mem_of_getElem? (i := 485) (by decide +kernel)), by decide +kernel⟩, ⟨List.mem_append_left _ (List.mem_of_getElem? (i := 30) (by decide +kernel)), by decide +kernel⟩, ⟨by decide +kernel, by decide +kernel⟩, by decide +kernel⟩
theorem g_X_176 : zGV "RingCipher" 176 M_X_phaseOf 1 := ⟨Or.inl ⟨List.mem_append_right _ (List.mem_of_getElem? (i := 487) (by decide +kernel)), by decide +kernel⟩, ⟨List.mem_append_right _ (List.mem_of_getElem? (i := 489) (by decide +kernel)), by decide +kernel⟩, ⟨List.mem_append_left _ (List.mem_of_getElem? (i := 31) (by decide +kernel)), by decide +kernel⟩, ⟨by decide +kernel, by decide +kernel⟩, by decide +kernel⟩
theorem g_X_294 : zGV "RingCipher" 294 M_KeyRing_findPhase 3 := ⟨Or.inr ⟨"RingCipher", List.mem_append_right _ (List.mem_of_getElem? (i := 491) (by decide +kernel)), by decide +kernel⟩, ⟨List.mem_append_right _ (List.mem_of_getElem? (i := 493) (by decide +kernel)), by decide +kernel⟩, ⟨List.mem_append_left _ (List.mem_of_getElem? (i := 32) (by decide +kernel)), by decide +kernel⟩, ⟨by decide +kernel, by decide +kernel⟩, by decide +kernel⟩
theorem g_X_184 : zGS "RingCipher" 184 M_Math_floorMod_JJ 2 := ⟨Or.inl ⟨List.mem_append_right _ (List.mem_of_getElem? (i := 508) (by decide +kernel)), by decide +kernel⟩, ⟨List.mem_append_right _ (List.mem_of_getElem? (i := 238) (by decide +kernel)), by decide +kernel⟩, ⟨List.mem_append_right _ (List.mem_of_getElem? (i := 14) (by decide +kernel)), by decide +kernel⟩, ⟨by decide +kernel, by decide +kernel⟩, by decide +kernel⟩
theorem g_X_187 : zGV "RingCipher" 187 M_X_noiseIn 1 := ⟨Or.inl ⟨List.mem_append_right _ (List.mem_of_getElem? (i := 510) (by decide +kernel)), by decide +kernel⟩, ⟨List.mem_append_right _ (List.mem_of_getElem? (i := 512) (by decide +kernel)), by decide +kernel⟩, ⟨List.mem_append_left _ (List.mem_of_getElem? (i := 35) (by decide +kernel)), by decide +kernel⟩, ⟨by decide +kernel, by decide +kernel⟩, by decide +kernel⟩
theorem g_X_298 : zGS "RingCipher" 298 M_X_centred 1 := ⟨Or.inl ⟨List.mem_append_right _ (List.mem_of_getElem? (i := 514) (by decide +kernel)), by decide +kernel⟩, ⟨List.mem_append_right _ (List.mem_of_getElem? (i := 505) (by decide +kernel)), by decide +kernel⟩, ⟨List.mem_append_right _ (List.mem_of_getElem? (i := 1) (by decide +kernel)), by decide +kernel⟩, ⟨by decide +kernel, by decide +kernel⟩, by decide +kernel⟩
theorem g_X_301 : zGS "RingCipher" 301 M_Math_abs 1 := ⟨Or.inl ⟨List.mem_append_right _ (List.mem_of_getElem? (i := 515) (by decide +kernel)), by decide +kernel⟩, ⟨List.mem_append_right _ (List.mem_of_getElem? (i := 516) (by decide +kernel)), by decide +kernel⟩, ⟨List.mem_append_right _ (List.mem_of_getElem? (i := 14) (by decide +kernel)), by decide +kernel⟩, ⟨by decide +kernel, by decide +kernel⟩, by decide +kernel⟩
theorem g_X_304 : zGS "RingCipher" 304 M_Math_max_JJ 2 := ⟨Or.inl ⟨List.mem_append_right _ (List.mem_of_getElem? (i := 518) (by decide +kernel)), by decide +kernel⟩, ⟨List.mem_append_right _ (List.mem_of_getElem? (i := 519) (by decide +kernel)), by decide +kernel⟩, ⟨List.mem_append_right _ (List.mem_of_getElem? (i := 14) (by decide +kernel)), by decide +kernel⟩, ⟨by decide +kernel, by decide +kernel⟩, by decide +kernel⟩
theorem g_X_191 : zGS "RingCipher" 191 M_X_budgetOf 1 := ⟨Or.inl ⟨List.mem_append_right _ (List.mem_of_getElem? (i := 521) (by decide +kernel)), by decide +kernel⟩, ⟨List.mem_append_right _ (List.mem_of_getElem? (i := 522) (by decide +kernel)), by decide +kernel⟩, ⟨List.mem_append_right _ (List.mem_of_getElem? (i := 1) (by decide +kernel)), by decide +kernel⟩, ⟨by decide +kernel, by decide +kernel⟩, by decide +kernel⟩
theorem g_X_173 : zGV "RingCipher" 173 M_X_takenAt 1 := ⟨Or.inl ⟨List.mem_append_right _ (List.mem_of_getElem? (i := 531) (by decide +kernel)), by decide +kernel⟩, ⟨List.mem_append_right _ (List.mem_of_getElem? (i := 533) (by decide +kernel)), by decide +kernel⟩, ⟨List.mem_append_left _ (List.mem_of_getElem? (i := 36) (by decide +kernel)), by decide +kernel⟩, ⟨by decide +kernel, by decide +kernel⟩, by decide +kernel⟩
theorem g_X_180 : zGV "RingCipher" 180 M_Ring_timesTOverQ 1 := ⟨Or.inr ⟨"RingCipher", List.mem_append_right _ (List.mem_of_getElem? (i := 536) (by decide +kernel)), by decide +kernel⟩, ⟨List.mem_append_right _ (List.mem_of_getElem? (i := 538) (by decide +kernel)), by decide +kernel⟩, ⟨List.mem_append_left _ (List.mem_of_getElem? (i := 37) (by decide +kernel)), by decide +kernel⟩, ⟨by decide +kernel, by decide +kernel⟩, by decide +kernel⟩
theorem g_X_202 : zGV "RingCipher" 202 M_X_multiply 3 := ⟨Or.inl ⟨List.mem_append_right _ (List.mem_of_getElem? (i := 553) (by decide +kernel)), by decide +kernel⟩, ⟨List.mem_append_right _ (List.mem_of_getElem? (i := 555) (by decide +kernel)), by decide +kernel⟩, ⟨List.mem_append_left _ (List.mem_of_getElem? (i := 38) (by decide +kernel)), by decide +kernel⟩, ⟨by decide +kernel, by decide +kernel⟩, by decide +kernel⟩
theorem g_X_278 : zGV "RingCipher" 278 M_Ring_centre 2 := ⟨Or.inr ⟨"RingCipher", List.mem_append_right _ (List.mem_of_getElem? (i := 557) (by decide +kernel)), by decide +kernel⟩, ⟨List.mem_append_right _ (List.mem_of_getElem? (i := 502) (by decide +kernel)), by decide +kernel⟩, ⟨List.mem_append_left _ (List.mem_of_getElem? (i := 34) (by decide +kernel)), by decide +kernel⟩, ⟨by decide +kernel, by decide +kernel⟩, by decide +kernel⟩
theorem g_X_208 : zGV "RingCipher" 208 M_X_combine 4 := ⟨Or.inl ⟨List.mem_append_right _ (List.mem_of_getElem? (i := 559) (by decide +kernel)), by decide +kernel⟩, ⟨List.mem_append_right _ (List.mem_of_getElem? (i := 561) (by decide +kernel)), by decide +kernel⟩, ⟨List.mem_append_left _ (List.mem_of_getElem? (i := 39) (by decide +kernel)), by decide +kernel⟩, ⟨by decide +kernel, by decide +kernel⟩, by decide +kernel⟩
theorem g_X_271 : zGS "RingCipher" 271 M_Math_max_II 2 := ⟨Or.inl ⟨List.mem_append_right _ (List.mem_of_getElem? (i := 563) (by decide +kernel)), by decide +kernel⟩, ⟨List.mem_append_right _ (List.mem_of_getElem? (i := 392) (by decide +kernel)), by decide +kernel⟩, ⟨List.mem_append_right _ (List.mem_of_getElem? (i := 14) (by decide +kernel)), by decide +kernel⟩, ⟨by decide +kernel, by decide +kernel⟩, by decide +kernel⟩
theorem g_X_212 : zGV "RingCipher" 212 M_X_addPlain 3 := ⟨Or.inl ⟨List.mem_append_right _ (List.mem_of_getElem? (i := 571) (by decide +kernel)), by decide +kernel⟩, ⟨List.mem_append_right _ (List.mem_of_getElem? (i := 573) (by decide +kernel)), by decide +kernel⟩, ⟨List.mem_append_left _ (List.mem_of_getElem? (i := 40) (by decide +kernel)), by decide +kernel⟩, ⟨by decide +kernel, by decide +kernel⟩, by decide +kernel⟩
theorem g_X_222 : zGV "RingCipher" 222 M_Ring_copy 2 := ⟨Or.inr ⟨"RingCipher", List.mem_append_right _ (List.mem_of_getElem? (i := 575) (by decide +kernel)), by decide +kernel⟩, ⟨List.mem_append_right _ (List.mem_of_getElem? (i := 497) (by decide +kernel)), by decide +kernel⟩, ⟨List.mem_append_left _ (List.mem_of_getElem? (i := 33) (by decide +kernel)), by decide +kernel⟩, ⟨by decide +kernel, by decide +kernel⟩, by decide +kernel⟩
theorem g_X_216 : zGV "RingCipher" 216 M_X_multiplyByPlain 3 := ⟨Or.inl ⟨List.mem_append_right _ (List.mem_of_getElem? (i := 576) (by decide +kernel)), by decide +kernel⟩, ⟨List.mem_append_right _ (List.mem_of_getElem? (i := 578) (by decide +kernel)), by decide +kernel⟩, ⟨List.mem_append_left _ (List.mem_of_getElem? (i := 41) (by decide +kernel)), by decide +kernel⟩, ⟨by decide +kernel, by decide +kernel⟩, by decide +kernel⟩
theorem g_X_229 : zGV "RingCipher" 229 M_X_applySwitch 2 := ⟨Or.inl ⟨List.mem_append_right _ (List.mem_of_getElem? (i := 588) (by decide +kernel)), by decide +kernel⟩, ⟨List.mem_append_right _ (List.mem_of_getElem? (i := 590) (by decide +kernel)), by decide +kernel⟩, ⟨List.mem_append_left _ (List.mem_of_getElem? (i := 42) (by decide +kernel)), by decide +kernel⟩, ⟨by decide +kernel, by decide +kernel⟩, by decide +kernel⟩
theorem g_X_235 : zGV "RingCipher" 235 M_Ring_substitute 3 := ⟨Or.inr ⟨"RingCipher", List.mem_append_right _ (List.mem_of_getElem? (i := 601) (by decide +kernel)), by decide +kernel⟩, ⟨List.mem_append_right _ (List.mem_of_getElem? (i := 387) (by decide +kernel)), by decide +kernel⟩, ⟨List.mem_append_left _ (List.mem_of_getElem? (i := 21) (by decide +kernel)), by decide +kernel⟩, ⟨by decide +kernel, by decide +kernel⟩, by decide +kernel⟩
theorem co_X_init : zCo M_X_init := Or.inl ⟨⟨List.mem_append_right _ (List.mem_of_getElem? (i := 22) (by decide +kernel)), by decide +kernel⟩, rfl⟩
theorem co_X_keys : zCo M_X_keys := Or.inl ⟨⟨List.mem_append_right _ (List.mem_of_getElem? (i := 190) (by decide +kernel)), by decide +kernel⟩, rfl⟩
theorem co_X_emptyCiphers : zCo M_X_emptyCiphers := Or.inl ⟨⟨List.mem_append_right _ (List.mem_of_getElem? (i := 251) (by decide +kernel)), by decide +kernel⟩, rfl⟩
theorem co_X_count : zCo M_X_count := Or.inl ⟨⟨List.mem_append_right _ (List.mem_of_getElem? (i := 255) (by decide +kernel)), by decide +kernel⟩, rfl⟩
theorem co_X_fullCiphers : zCo M_X_fullCiphers := Or.inl ⟨⟨List.mem_append_right _ (List.mem_of_getElem? (i := 259) (by decide +kernel)), by decide +kernel⟩, rfl⟩
theorem co_X_begin : zCo M_X_begin := Or.inl ⟨⟨List.mem_append_right _ (List.mem_of_getElem? (i := 271) (by decide +kernel)), by decide +kernel⟩, rfl⟩
theorem co_X_turnKey : zCo M_X_turnKey := Or.inl ⟨⟨List.mem_append_right _ (List.mem_of_getElem? (i := 358) (by decide +kernel)), by decide +kernel⟩, rfl⟩
theorem co_X_set : zCo M_X_set := Or.inl ⟨⟨List.mem_append_right _ (List.mem_of_getElem? (i := 401) (by decide +kernel)), by decide +kernel⟩, rfl⟩
theorem co_X_plainAt : zCo M_X_plainAt := Or.inl ⟨⟨List.mem_append_right _ (List.mem_of_getElem? (i := 405) (by decide +kernel)), by decide +kernel⟩, rfl⟩
theorem co_X_checkCoefficient : zCo M_X_checkCoefficient := Or.inl ⟨⟨List.mem_append_right _ (List.mem_of_getElem? (i := 425) (by decide +kernel)), by decide +kernel⟩, rfl⟩
theorem co_X_get : zCo M_X_get := Or.inl ⟨⟨List.mem_append_right _ (List.mem_of_getElem? (i := 436) (by decide +kernel)), by decide +kernel⟩, rfl⟩
theorem co_X_batch : zCo M_X_batch := Or.inl ⟨⟨List.mem_append_right _ (List.mem_of_getElem? (i := 443) (by decide +kernel)), by decide +kernel⟩, rfl⟩
theorem co_X_seal : zCo M_X_seal := Or.inl ⟨⟨List.mem_append_right _ (List.mem_of_getElem? (i := 461) (by decide +kernel)), by decide +kernel⟩, rfl⟩
theorem co_X_placeAt : zCo M_X_placeAt := Or.inl ⟨⟨List.mem_append_right _ (List.mem_of_getElem? (i := 465) (by decide +kernel)), by decide +kernel⟩, rfl⟩
theorem co_X_storeTwoParts : zCo M_X_storeTwoParts := Or.inl ⟨⟨List.mem_append_right _ (List.mem_of_getElem? (i := 478) (by decide +kernel)), by decide +kernel⟩, rfl⟩
theorem co_X_storeSums : zCo M_X_storeSums := Or.inl ⟨⟨List.mem_append_right _ (List.mem_of_getElem? (i := 482) (by decide +kernel)), by decide +kernel⟩, rfl⟩
theorem co_X_phaseOf : zCo M_X_phaseOf := Or.inl ⟨⟨List.mem_append_right _ (List.mem_of_getElem? (i := 490) (by decide +kernel)), by decide +kernel⟩, rfl⟩
theorem co_X_centred : zCo M_X_centred := Or.inl ⟨⟨List.mem_append_right _ (List.mem_of_getElem? (i := 506) (by decide +kernel)), by decide +kernel⟩, rfl⟩
theorem co_X_noiseIn : zCo M_X_noiseIn := Or.inl ⟨⟨List.mem_append_right _ (List.mem_of_getElem? (i := 513) (by decide +kernel)), by decide +kernel⟩, rfl⟩
theorem co_X_budgetOf : zCo M_X_budgetOf := Or.inl ⟨⟨List.mem_append_right _ (List.mem_of_getElem? (i := 523) (by decide +kernel)), by decide +kernel⟩, rfl⟩
theorem co_X_open : zCo M_X_open := Or.inl ⟨⟨List.mem_append_right _ (List.mem_of_getElem? (i := 530) (by decide +kernel)), by decide +kernel⟩, rfl⟩
theorem co_X_takenAt : zCo M_X_takenAt := Or.inl ⟨⟨List.mem_append_right _ (List.mem_of_getElem? (i := 534) (by decide +kernel)), by decide +kernel⟩, rfl⟩
theorem co_X_join : zCo M_X_join := Or.inl ⟨⟨List.mem_append_right _ (List.mem_of_getElem? (i := 550) (by decide +kernel)), by decide +kernel⟩, rfl⟩
theorem co_X_multiply : zCo M_X_multiply := Or.inl ⟨⟨List.mem_append_right _ (List.mem_of_getElem? (i := 556) (by decide +kernel)), by decide +kernel⟩, rfl⟩
theorem co_X_combine : zCo M_X_combine := Or.inl ⟨⟨List.mem_append_right _ (List.mem_of_getElem? (i := 562) (by decide +kernel)), by decide +kernel⟩, rfl⟩
theorem co_X_plain : zCo M_X_plain := Or.inl ⟨⟨List.mem_append_right _ (List.mem_of_getElem? (i := 570) (by decide +kernel)), by decide +kernel⟩, rfl⟩
theorem co_X_addPlain : zCo M_X_addPlain := Or.inl ⟨⟨List.mem_append_right _ (List.mem_of_getElem? (i := 574) (by decide +kernel)), by decide +kernel⟩, rfl⟩
theorem co_X_multiplyByPlain : zCo M_X_multiplyByPlain := Or.inl ⟨⟨List.mem_append_right _ (List.mem_of_getElem? (i := 579) (by decide +kernel)), by decide +kernel⟩, rfl⟩
theorem co_X_shrink : zCo M_X_shrink := Or.inl ⟨⟨List.mem_append_right _ (List.mem_of_getElem? (i := 586) (by decide +kernel)), by decide +kernel⟩, rfl⟩
theorem co_X_applySwitch : zCo M_X_applySwitch := Or.inl ⟨⟨List.mem_append_right _ (List.mem_of_getElem? (i := 591) (by decide +kernel)), by decide +kernel⟩, rfl⟩
theorem co_X_turn : zCo M_X_turn := Or.inl ⟨⟨List.mem_append_right _ (List.mem_of_getElem? (i := 599) (by decide +kernel)), by decide +kernel⟩, rfl⟩
theorem co_X_part : zCo M_X_part := Or.inl ⟨⟨List.mem_append_right _ (List.mem_of_getElem? (i := 608) (by decide +kernel)), by decide +kernel⟩, rfl⟩
theorem co_X_about : zCo M_X_about := Or.inl ⟨⟨List.mem_append_right _ (List.mem_of_getElem? (i := 616) (by decide +kernel)), by decide +kernel⟩, rfl⟩
theorem co_X_drop : zCo M_X_drop := Or.inl ⟨⟨List.mem_append_right _ (List.mem_of_getElem? (i := 624) (by decide +kernel)), by decide +kernel⟩, rfl⟩
theorem d_X_init_0 : decode prog_1_method_1_code 0 = .ok (.aload_n 0, 1) := by decide +kernel
theorem d_X_init_1 : decode prog_1_method_1_code 1 = .ok (.invokespecial 3, 3) := by decide +kernel
theorem d_X_init_4 : decode prog_1_method_1_code 4 = .ok (.aload_n 0, 1) := by decide +kernel
theorem d_X_init_5 : decode prog_1_method_1_code 5 = .ok (.new 9, 3) := by decide +kernel
theorem d_X_init_8 : decode prog_1_method_1_code 8 = .ok (.dup, 1) := by decide +kernel
theorem d_X_init_9 : decode prog_1_method_1_code 9 = .ok (.invokespecial 11, 3) := by decide +kernel
theorem d_X_init_12 : decode prog_1_method_1_code 12 = .ok (.putfield 12, 3) := by decide +kernel
theorem d_X_init_15 : decode prog_1_method_1_code 15 = .ok (.aload_n 0, 1) := by decide +kernel
theorem d_X_init_16 : decode prog_1_method_1_code 16 = .ok (.new 16, 3) := by decide +kernel
theorem d_X_init_19 : decode prog_1_method_1_code 19 = .ok (.dup, 1) := by decide +kernel
theorem d_X_init_20 : decode prog_1_method_1_code 20 = .ok (.invokespecial 18, 3) := by decide +kernel
theorem d_X_init_23 : decode prog_1_method_1_code 23 = .ok (.putfield 19, 3) := by decide +kernel
theorem d_X_init_26 : decode prog_1_method_1_code 26 = .ok (.aload_n 0, 1) := by decide +kernel
theorem d_X_init_27 : decode prog_1_method_1_code 27 = .ok (.new 23, 3) := by decide +kernel
theorem d_X_init_30 : decode prog_1_method_1_code 30 = .ok (.dup, 1) := by decide +kernel
theorem d_X_init_31 : decode prog_1_method_1_code 31 = .ok (.invokespecial 25, 3) := by decide +kernel
theorem d_X_init_34 : decode prog_1_method_1_code 34 = .ok (.putfield 26, 3) := by decide +kernel
theorem d_X_init_37 : decode prog_1_method_1_code 37 = .ok (.aload_n 0, 1) := by decide +kernel
theorem d_X_init_38 : decode prog_1_method_1_code 38 = .ok (.bipush 8, 2) := by decide +kernel
theorem d_X_init_40 : decode prog_1_method_1_code 40 = .ok (.bipush 32, 2) := by decide +kernel
theorem d_X_init_42 : decode prog_1_method_1_code 42 = .ok (.multianewarray 30 2, 4) := by decide +kernel
theorem d_X_init_46 : decode prog_1_method_1_code 46 = .ok (.putfield 32, 3) := by decide +kernel
theorem d_X_init_49 : decode prog_1_method_1_code 49 = .ok (.aload_n 0, 1) := by decide +kernel
theorem d_X_init_50 : decode prog_1_method_1_code 50 = .ok (.bipush 16, 2) := by decide +kernel
theorem d_X_init_52 : decode prog_1_method_1_code 52 = .ok (.anewarray 35, 3) := by decide +kernel
theorem d_X_init_55 : decode prog_1_method_1_code 55 = .ok (.putfield 37, 3) := by decide +kernel
theorem d_X_init_58 : decode prog_1_method_1_code 58 = .ok (.iconst 0, 1) := by decide +kernel
theorem d_X_init_59 : decode prog_1_method_1_code 59 = .ok (.istore_n 1, 1) := by decide +kernel
theorem d_X_init_60 : decode prog_1_method_1_code 60 = .ok (.iload_n 1, 1) := by decide +kernel
theorem d_X_init_61 : decode prog_1_method_1_code 61 = .ok (.bipush 16, 2) := by decide +kernel
theorem d_X_init_63 : decode prog_1_method_1_code 63 = .ok (.if_icmp .ge 22, 3) := by decide +kernel
theorem d_X_init_66 : decode prog_1_method_1_code 66 = .ok (.aload_n 0, 1) := by decide +kernel
theorem d_X_init_67 : decode prog_1_method_1_code 67 = .ok (.getfield 37, 3) := by decide +kernel
theorem d_X_init_70 : decode prog_1_method_1_code 70 = .ok (.iload_n 1, 1) := by decide +kernel
theorem d_X_init_71 : decode prog_1_method_1_code 71 = .ok (.new 35, 3) := by decide +kernel
theorem d_X_init_74 : decode prog_1_method_1_code 74 = .ok (.dup, 1) := by decide +kernel
theorem d_X_init_75 : decode prog_1_method_1_code 75 = .ok (.invokespecial 41, 3) := by decide +kernel
theorem d_X_init_78 : decode prog_1_method_1_code 78 = .ok (.aastore, 1) := by decide +kernel
theorem d_X_init_79 : decode prog_1_method_1_code 79 = .ok (.iinc 1 1, 3) := by decide +kernel
theorem d_X_init_82 : decode prog_1_method_1_code 82 = .ok (.goto (-22), 3) := by decide +kernel
theorem d_X_init_85 : decode prog_1_method_1_code 85 = .ok (.aload_n 0, 1) := by decide +kernel
theorem d_X_init_86 : decode prog_1_method_1_code 86 = .ok (.iconst 3, 1) := by decide +kernel
theorem d_X_init_87 : decode prog_1_method_1_code 87 = .ok (.bipush 32, 2) := by decide +kernel
theorem d_X_init_89 : decode prog_1_method_1_code 89 = .ok (.multianewarray 30 2, 4) := by decide +kernel
theorem d_X_init_93 : decode prog_1_method_1_code 93 = .ok (.putfield 42, 3) := by decide +kernel
theorem d_X_init_96 : decode prog_1_method_1_code 96 = .ok (.aload_n 0, 1) := by decide +kernel
theorem d_X_init_97 : decode prog_1_method_1_code 97 = .ok (.iconst 4, 1) := by decide +kernel
theorem d_X_init_98 : decode prog_1_method_1_code 98 = .ok (.bipush 32, 2) := by decide +kernel
theorem d_X_init_100 : decode prog_1_method_1_code 100 = .ok (.multianewarray 30 2, 4) := by decide +kernel
theorem d_X_init_104 : decode prog_1_method_1_code 104 = .ok (.putfield 45, 3) := by decide +kernel
theorem d_X_init_107 : decode prog_1_method_1_code 107 = .ok (.return_, 1) := by decide +kernel
theorem d_X_begin_0 : decode prog_1_method_2_code 0 = .ok (.iload_n 1, 1) := by decide +kernel
theorem d_X_begin_1 : decode prog_1_method_2_code 1 = .ok (.ifCond .lt 11, 3) := by decide +kernel
theorem d_X_begin_4 : decode prog_1_method_2_code 4 = .ok (.iload_n 1, 1) := by decide +kernel
theorem d_X_begin_5 : decode prog_1_method_2_code 5 = .ok (.getstatic 48, 3) := by decide +kernel
theorem d_X_begin_8 : decode prog_1_method_2_code 8 = .ok (.arraylength, 1) := by decide +kernel
theorem d_X_begin_9 : decode prog_1_method_2_code 9 = .ok (.if_icmp .lt 13, 3) := by decide +kernel
theorem d_X_begin_12 : decode prog_1_method_2_code 12 = .ok (.new 52, 3) := by decide +kernel
theorem d_X_begin_15 : decode prog_1_method_2_code 15 = .ok (.dup, 1) := by decide +kernel
theorem d_X_begin_16 : decode prog_1_method_2_code 16 = .ok (.ldc 54, 2) := by decide +kernel
theorem d_X_begin_18 : decode prog_1_method_2_code 18 = .ok (.invokespecial 56, 3) := by decide +kernel
theorem d_X_begin_21 : decode prog_1_method_2_code 21 = .ok (.athrow, 1) := by decide +kernel
theorem d_X_begin_22 : decode prog_1_method_2_code 22 = .ok (.aload_n 0, 1) := by decide +kernel
theorem d_X_begin_23 : decode prog_1_method_2_code 23 = .ok (.getfield 12, 3) := by decide +kernel
theorem d_X_begin_26 : decode prog_1_method_2_code 26 = .ok (.iload_n 1, 1) := by decide +kernel
theorem d_X_begin_27 : decode prog_1_method_2_code 27 = .ok (.invokevirtual 59, 3) := by decide +kernel
theorem d_X_begin_30 : decode prog_1_method_2_code 30 = .ok (.aload_n 0, 1) := by decide +kernel
theorem d_X_begin_31 : decode prog_1_method_2_code 31 = .ok (.getfield 19, 3) := by decide +kernel
theorem d_X_begin_34 : decode prog_1_method_2_code 34 = .ok (.iload_n 2, 1) := by decide +kernel
theorem d_X_begin_35 : decode prog_1_method_2_code 35 = .ok (.invokevirtual 63, 3) := by decide +kernel
theorem d_X_begin_38 : decode prog_1_method_2_code 38 = .ok (.aload_n 0, 1) := by decide +kernel
theorem d_X_begin_39 : decode prog_1_method_2_code 39 = .ok (.getfield 26, 3) := by decide +kernel
theorem d_X_begin_42 : decode prog_1_method_2_code 42 = .ok (.invokevirtual 66, 3) := by decide +kernel
theorem d_X_begin_45 : decode prog_1_method_2_code 45 = .ok (.aload_n 0, 1) := by decide +kernel
theorem d_X_begin_46 : decode prog_1_method_2_code 46 = .ok (.invokevirtual 69, 3) := by decide +kernel
theorem d_X_begin_49 : decode prog_1_method_2_code 49 = .ok (.iconst 0, 1) := by decide +kernel
theorem d_X_begin_50 : decode prog_1_method_2_code 50 = .ok (.istore_n 3, 1) := by decide +kernel
theorem d_X_begin_51 : decode prog_1_method_2_code 51 = .ok (.iload_n 3, 1) := by decide +kernel
theorem d_X_begin_52 : decode prog_1_method_2_code 52 = .ok (.bipush 8, 2) := by decide +kernel
theorem d_X_begin_54 : decode prog_1_method_2_code 54 = .ok (.if_icmp .ge 19, 3) := by decide +kernel
theorem d_X_begin_57 : decode prog_1_method_2_code 57 = .ok (.aload_n 0, 1) := by decide +kernel
theorem d_X_begin_58 : decode prog_1_method_2_code 58 = .ok (.getfield 32, 3) := by decide +kernel
theorem d_X_begin_61 : decode prog_1_method_2_code 61 = .ok (.iload_n 3, 1) := by decide +kernel
theorem d_X_begin_62 : decode prog_1_method_2_code 62 = .ok (.aaload, 1) := by decide +kernel
theorem d_X_begin_63 : decode prog_1_method_2_code 63 = .ok (.lconst 0, 1) := by decide +kernel
theorem d_X_begin_64 : decode prog_1_method_2_code 64 = .ok (.invokestatic 72, 3) := by decide +kernel
theorem d_X_begin_67 : decode prog_1_method_2_code 67 = .ok (.iinc 3 1, 3) := by decide +kernel
theorem d_X_begin_70 : decode prog_1_method_2_code 70 = .ok (.goto (-19), 3) := by decide +kernel
theorem d_X_begin_73 : decode prog_1_method_2_code 73 = .ok (.aload_n 0, 1) := by decide +kernel
theorem d_X_begin_74 : decode prog_1_method_2_code 74 = .ok (.getfield 12, 3) := by decide +kernel
theorem d_X_begin_77 : decode prog_1_method_2_code 77 = .ok (.getfield 78, 3) := by decide +kernel
theorem d_X_begin_80 : decode prog_1_method_2_code 80 = .ok (.ireturn, 1) := by decide +kernel
theorem d_X_keys_0 : decode prog_1_method_3_code 0 = .ok (.aload_n 0, 1) := by decide +kernel
theorem d_X_keys_1 : decode prog_1_method_3_code 1 = .ok (.getfield 26, 3) := by decide +kernel
theorem d_X_keys_4 : decode prog_1_method_3_code 4 = .ok (.aload_n 0, 1) := by decide +kernel
theorem d_X_keys_5 : decode prog_1_method_3_code 5 = .ok (.getfield 12, 3) := by decide +kernel
theorem d_X_keys_8 : decode prog_1_method_3_code 8 = .ok (.aload_n 0, 1) := by decide +kernel
theorem d_X_keys_9 : decode prog_1_method_3_code 9 = .ok (.getfield 19, 3) := by decide +kernel
theorem d_X_keys_12 : decode prog_1_method_3_code 12 = .ok (.invokevirtual 82, 3) := by decide +kernel
theorem d_X_keys_15 : decode prog_1_method_3_code 15 = .ok (.aload_n 0, 1) := by decide +kernel
theorem d_X_keys_16 : decode prog_1_method_3_code 16 = .ok (.invokevirtual 69, 3) := by decide +kernel
theorem d_X_keys_19 : decode prog_1_method_3_code 19 = .ok (.aload_n 0, 1) := by decide +kernel
theorem d_X_keys_20 : decode prog_1_method_3_code 20 = .ok (.getfield 12, 3) := by decide +kernel
theorem d_X_keys_23 : decode prog_1_method_3_code 23 = .ok (.getfield 78, 3) := by decide +kernel
theorem d_X_keys_26 : decode prog_1_method_3_code 26 = .ok (.ireturn, 1) := by decide +kernel
theorem d_X_turnKey_0 : decode prog_1_method_4_code 0 = .ok (.iload_n 1, 1) := by decide +kernel
theorem d_X_turnKey_1 : decode prog_1_method_4_code 1 = .ok (.iconst 3, 1) := by decide +kernel
theorem d_X_turnKey_2 : decode prog_1_method_4_code 2 = .ok (.if_icmp .lt 24, 3) := by decide +kernel
theorem d_X_turnKey_5 : decode prog_1_method_4_code 5 = .ok (.iload_n 1, 1) := by decide +kernel
theorem d_X_turnKey_6 : decode prog_1_method_4_code 6 = .ok (.iconst 2, 1) := by decide +kernel
theorem d_X_turnKey_7 : decode prog_1_method_4_code 7 = .ok (.aload_n 0, 1) := by decide +kernel
theorem d_X_turnKey_8 : decode prog_1_method_4_code 8 = .ok (.getfield 12, 3) := by decide +kernel
theorem d_X_turnKey_11 : decode prog_1_method_4_code 11 = .ok (.getfield 78, 3) := by decide +kernel
theorem d_X_turnKey_14 : decode prog_1_method_4_code 14 = .ok (.imul, 1) := by decide +kernel
theorem d_X_turnKey_15 : decode prog_1_method_4_code 15 = .ok (.iconst 1, 1) := by decide +kernel
theorem d_X_turnKey_16 : decode prog_1_method_4_code 16 = .ok (.isub, 1) := by decide +kernel
theorem d_X_turnKey_17 : decode prog_1_method_4_code 17 = .ok (.if_icmp .gt 9, 3) := by decide +kernel
theorem d_X_turnKey_20 : decode prog_1_method_4_code 20 = .ok (.iload_n 1, 1) := by decide +kernel
theorem d_X_turnKey_21 : decode prog_1_method_4_code 21 = .ok (.iconst 2, 1) := by decide +kernel
theorem d_X_turnKey_22 : decode prog_1_method_4_code 22 = .ok (.irem, 1) := by decide +kernel
theorem d_X_turnKey_23 : decode prog_1_method_4_code 23 = .ok (.ifCond .ne 13, 3) := by decide +kernel
theorem d_X_turnKey_26 : decode prog_1_method_4_code 26 = .ok (.new 52, 3) := by decide +kernel
theorem d_X_turnKey_29 : decode prog_1_method_4_code 29 = .ok (.dup, 1) := by decide +kernel
theorem d_X_turnKey_30 : decode prog_1_method_4_code 30 = .ok (.ldc 86, 2) := by decide +kernel
theorem d_X_turnKey_32 : decode prog_1_method_4_code 32 = .ok (.invokespecial 56, 3) := by decide +kernel
theorem d_X_turnKey_35 : decode prog_1_method_4_code 35 = .ok (.athrow, 1) := by decide +kernel
theorem d_X_turnKey_36 : decode prog_1_method_4_code 36 = .ok (.aload_n 0, 1) := by decide +kernel
theorem d_X_turnKey_37 : decode prog_1_method_4_code 37 = .ok (.getfield 26, 3) := by decide +kernel
theorem d_X_turnKey_40 : decode prog_1_method_4_code 40 = .ok (.getfield 88, 3) := by decide +kernel
theorem d_X_turnKey_43 : decode prog_1_method_4_code 43 = .ok (.ifCond .ne 13, 3) := by decide +kernel
theorem d_X_turnKey_46 : decode prog_1_method_4_code 46 = .ok (.new 92, 3) := by decide +kernel
theorem d_X_turnKey_49 : decode prog_1_method_4_code 49 = .ok (.dup, 1) := by decide +kernel
theorem d_X_turnKey_50 : decode prog_1_method_4_code 50 = .ok (.ldc 94, 2) := by decide +kernel
theorem d_X_turnKey_52 : decode prog_1_method_4_code 52 = .ok (.invokespecial 96, 3) := by decide +kernel
theorem d_X_turnKey_55 : decode prog_1_method_4_code 55 = .ok (.athrow, 1) := by decide +kernel
theorem d_X_turnKey_56 : decode prog_1_method_4_code 56 = .ok (.aload_n 0, 1) := by decide +kernel
theorem d_X_turnKey_57 : decode prog_1_method_4_code 57 = .ok (.getfield 26, 3) := by decide +kernel
theorem d_X_turnKey_60 : decode prog_1_method_4_code 60 = .ok (.iload_n 1, 1) := by decide +kernel
theorem d_X_turnKey_61 : decode prog_1_method_4_code 61 = .ok (.invokevirtual 97, 3) := by decide +kernel
theorem d_X_turnKey_64 : decode prog_1_method_4_code 64 = .ok (.istore_n 2, 1) := by decide +kernel
theorem d_X_turnKey_65 : decode prog_1_method_4_code 65 = .ok (.iload_n 2, 1) := by decide +kernel
theorem d_X_turnKey_66 : decode prog_1_method_4_code 66 = .ok (.iconst 4, 1) := by decide +kernel
theorem d_X_turnKey_67 : decode prog_1_method_4_code 67 = .ok (.if_icmp .ne 13, 3) := by decide +kernel
theorem d_X_turnKey_70 : decode prog_1_method_4_code 70 = .ok (.new 92, 3) := by decide +kernel
theorem d_X_turnKey_73 : decode prog_1_method_4_code 73 = .ok (.dup, 1) := by decide +kernel
theorem d_X_turnKey_74 : decode prog_1_method_4_code 74 = .ok (.ldc 101, 2) := by decide +kernel
theorem d_X_turnKey_76 : decode prog_1_method_4_code 76 = .ok (.invokespecial 96, 3) := by decide +kernel
theorem d_X_turnKey_79 : decode prog_1_method_4_code 79 = .ok (.athrow, 1) := by decide +kernel
theorem d_X_turnKey_80 : decode prog_1_method_4_code 80 = .ok (.aload_n 0, 1) := by decide +kernel
theorem d_X_turnKey_81 : decode prog_1_method_4_code 81 = .ok (.getfield 26, 3) := by decide +kernel
theorem d_X_turnKey_84 : decode prog_1_method_4_code 84 = .ok (.aload_n 0, 1) := by decide +kernel
theorem d_X_turnKey_85 : decode prog_1_method_4_code 85 = .ok (.getfield 12, 3) := by decide +kernel
theorem d_X_turnKey_88 : decode prog_1_method_4_code 88 = .ok (.aload_n 0, 1) := by decide +kernel
theorem d_X_turnKey_89 : decode prog_1_method_4_code 89 = .ok (.getfield 19, 3) := by decide +kernel
theorem d_X_turnKey_92 : decode prog_1_method_4_code 92 = .ok (.iload_n 2, 1) := by decide +kernel
theorem d_X_turnKey_93 : decode prog_1_method_4_code 93 = .ok (.iload_n 1, 1) := by decide +kernel
theorem d_X_turnKey_94 : decode prog_1_method_4_code 94 = .ok (.invokevirtual 103, 3) := by decide +kernel
theorem d_X_turnKey_97 : decode prog_1_method_4_code 97 = .ok (.aload_n 0, 1) := by decide +kernel
theorem d_X_turnKey_98 : decode prog_1_method_4_code 98 = .ok (.getfield 26, 3) := by decide +kernel
theorem d_X_turnKey_101 : decode prog_1_method_4_code 101 = .ok (.getfield 107, 3) := by decide +kernel
theorem d_X_turnKey_104 : decode prog_1_method_4_code 104 = .ok (.ireturn, 1) := by decide +kernel
theorem d_X_set_0 : decode prog_1_method_5_code 0 = .ok (.aload_n 0, 1) := by decide +kernel
theorem d_X_set_1 : decode prog_1_method_5_code 1 = .ok (.iload_n 1, 1) := by decide +kernel
theorem d_X_set_2 : decode prog_1_method_5_code 2 = .ok (.invokevirtual 110, 3) := by decide +kernel
theorem d_X_set_5 : decode prog_1_method_5_code 5 = .ok (.astore 4, 2) := by decide +kernel
theorem d_X_set_7 : decode prog_1_method_5_code 7 = .ok (.aload_n 0, 1) := by decide +kernel
theorem d_X_set_8 : decode prog_1_method_5_code 8 = .ok (.iload_n 2, 1) := by decide +kernel
theorem d_X_set_9 : decode prog_1_method_5_code 9 = .ok (.invokevirtual 114, 3) := by decide +kernel
theorem d_X_set_12 : decode prog_1_method_5_code 12 = .ok (.aload 4, 2) := by decide +kernel
theorem d_X_set_14 : decode prog_1_method_5_code 14 = .ok (.iload_n 2, 1) := by decide +kernel
theorem d_X_set_15 : decode prog_1_method_5_code 15 = .ok (.laload, 1) := by decide +kernel
theorem d_X_set_16 : decode prog_1_method_5_code 16 = .ok (.lstore 5, 2) := by decide +kernel
theorem d_X_set_18 : decode prog_1_method_5_code 18 = .ok (.aload 4, 2) := by decide +kernel
theorem d_X_set_20 : decode prog_1_method_5_code 20 = .ok (.iload_n 2, 1) := by decide +kernel
theorem d_X_set_21 : decode prog_1_method_5_code 21 = .ok (.iload_n 3, 1) := by decide +kernel
theorem d_X_set_22 : decode prog_1_method_5_code 22 = .ok (.aload_n 0, 1) := by decide +kernel
theorem d_X_set_23 : decode prog_1_method_5_code 23 = .ok (.getfield 12, 3) := by decide +kernel
theorem d_X_set_26 : decode prog_1_method_5_code 26 = .ok (.getfield 117, 3) := by decide +kernel
theorem d_X_set_29 : decode prog_1_method_5_code 29 = .ok (.invokestatic 120, 3) := by decide +kernel
theorem d_X_set_32 : decode prog_1_method_5_code 32 = .ok (.i2l, 1) := by decide +kernel
theorem d_X_set_33 : decode prog_1_method_5_code 33 = .ok (.lastore, 1) := by decide +kernel
theorem d_X_set_34 : decode prog_1_method_5_code 34 = .ok (.lload 5, 2) := by decide +kernel
theorem d_X_set_36 : decode prog_1_method_5_code 36 = .ok (.l2i, 1) := by decide +kernel
theorem d_X_set_37 : decode prog_1_method_5_code 37 = .ok (.ireturn, 1) := by decide +kernel
theorem d_X_get_0 : decode prog_1_method_6_code 0 = .ok (.aload_n 0, 1) := by decide +kernel
theorem d_X_get_1 : decode prog_1_method_6_code 1 = .ok (.iload_n 1, 1) := by decide +kernel
theorem d_X_get_2 : decode prog_1_method_6_code 2 = .ok (.invokevirtual 110, 3) := by decide +kernel
theorem d_X_get_5 : decode prog_1_method_6_code 5 = .ok (.astore_n 3, 1) := by decide +kernel
theorem d_X_get_6 : decode prog_1_method_6_code 6 = .ok (.aload_n 0, 1) := by decide +kernel
theorem d_X_get_7 : decode prog_1_method_6_code 7 = .ok (.iload_n 2, 1) := by decide +kernel
theorem d_X_get_8 : decode prog_1_method_6_code 8 = .ok (.invokevirtual 114, 3) := by decide +kernel
theorem d_X_get_11 : decode prog_1_method_6_code 11 = .ok (.aload_n 3, 1) := by decide +kernel
theorem d_X_get_12 : decode prog_1_method_6_code 12 = .ok (.iload_n 2, 1) := by decide +kernel
theorem d_X_get_13 : decode prog_1_method_6_code 13 = .ok (.laload, 1) := by decide +kernel
theorem d_X_get_14 : decode prog_1_method_6_code 14 = .ok (.l2i, 1) := by decide +kernel
theorem d_X_get_15 : decode prog_1_method_6_code 15 = .ok (.ireturn, 1) := by decide +kernel
theorem d_X_batch_0 : decode prog_1_method_7_code 0 = .ok (.aload_n 0, 1) := by decide +kernel
theorem d_X_batch_1 : decode prog_1_method_7_code 1 = .ok (.iload_n 1, 1) := by decide +kernel
theorem d_X_batch_2 : decode prog_1_method_7_code 2 = .ok (.invokevirtual 110, 3) := by decide +kernel
theorem d_X_batch_5 : decode prog_1_method_7_code 5 = .ok (.astore_n 3, 1) := by decide +kernel
theorem d_X_batch_6 : decode prog_1_method_7_code 6 = .ok (.iload_n 2, 1) := by decide +kernel
theorem d_X_batch_7 : decode prog_1_method_7_code 7 = .ok (.ifCond .eq 20, 3) := by decide +kernel
theorem d_X_batch_10 : decode prog_1_method_7_code 10 = .ok (.aload_n 0, 1) := by decide +kernel
theorem d_X_batch_11 : decode prog_1_method_7_code 11 = .ok (.getfield 12, 3) := by decide +kernel
theorem d_X_batch_14 : decode prog_1_method_7_code 14 = .ok (.aload_n 0, 1) := by decide +kernel
theorem d_X_batch_15 : decode prog_1_method_7_code 15 = .ok (.getfield 45, 3) := by decide +kernel
theorem d_X_batch_18 : decode prog_1_method_7_code 18 = .ok (.iconst 0, 1) := by decide +kernel
theorem d_X_batch_19 : decode prog_1_method_7_code 19 = .ok (.aaload, 1) := by decide +kernel
theorem d_X_batch_20 : decode prog_1_method_7_code 20 = .ok (.aload_n 3, 1) := by decide +kernel
theorem d_X_batch_21 : decode prog_1_method_7_code 21 = .ok (.invokevirtual 126, 3) := by decide +kernel
theorem d_X_batch_24 : decode prog_1_method_7_code 24 = .ok (.goto 17, 3) := by decide +kernel
theorem d_X_batch_27 : decode prog_1_method_7_code 27 = .ok (.aload_n 0, 1) := by decide +kernel
theorem d_X_batch_28 : decode prog_1_method_7_code 28 = .ok (.getfield 12, 3) := by decide +kernel
theorem d_X_batch_31 : decode prog_1_method_7_code 31 = .ok (.aload_n 0, 1) := by decide +kernel
theorem d_X_batch_32 : decode prog_1_method_7_code 32 = .ok (.getfield 45, 3) := by decide +kernel
theorem d_X_batch_35 : decode prog_1_method_7_code 35 = .ok (.iconst 0, 1) := by decide +kernel
theorem d_X_batch_36 : decode prog_1_method_7_code 36 = .ok (.aaload, 1) := by decide +kernel
theorem d_X_batch_37 : decode prog_1_method_7_code 37 = .ok (.aload_n 3, 1) := by decide +kernel
theorem d_X_batch_38 : decode prog_1_method_7_code 38 = .ok (.invokevirtual 130, 3) := by decide +kernel
theorem d_X_batch_41 : decode prog_1_method_7_code 41 = .ok (.aload_n 0, 1) := by decide +kernel
theorem d_X_batch_42 : decode prog_1_method_7_code 42 = .ok (.getfield 45, 3) := by decide +kernel
theorem d_X_batch_45 : decode prog_1_method_7_code 45 = .ok (.iconst 0, 1) := by decide +kernel
theorem d_X_batch_46 : decode prog_1_method_7_code 46 = .ok (.aaload, 1) := by decide +kernel
theorem d_X_batch_47 : decode prog_1_method_7_code 47 = .ok (.iconst 0, 1) := by decide +kernel
theorem d_X_batch_48 : decode prog_1_method_7_code 48 = .ok (.aload_n 3, 1) := by decide +kernel
theorem d_X_batch_49 : decode prog_1_method_7_code 49 = .ok (.iconst 0, 1) := by decide +kernel
theorem d_X_batch_50 : decode prog_1_method_7_code 50 = .ok (.aload_n 0, 1) := by decide +kernel
theorem d_X_batch_51 : decode prog_1_method_7_code 51 = .ok (.getfield 12, 3) := by decide +kernel
theorem d_X_batch_54 : decode prog_1_method_7_code 54 = .ok (.getfield 78, 3) := by decide +kernel
theorem d_X_batch_57 : decode prog_1_method_7_code 57 = .ok (.invokestatic 133, 3) := by decide +kernel
theorem d_X_batch_60 : decode prog_1_method_7_code 60 = .ok (.aload_n 3, 1) := by decide +kernel
theorem d_X_batch_61 : decode prog_1_method_7_code 61 = .ok (.iconst 0, 1) := by decide +kernel
theorem d_X_batch_62 : decode prog_1_method_7_code 62 = .ok (.laload, 1) := by decide +kernel
theorem d_X_batch_63 : decode prog_1_method_7_code 63 = .ok (.l2i, 1) := by decide +kernel
theorem d_X_batch_64 : decode prog_1_method_7_code 64 = .ok (.ireturn, 1) := by decide +kernel
theorem d_X_seal_0 : decode prog_1_method_8_code 0 = .ok (.aload_n 0, 1) := by decide +kernel
theorem d_X_seal_1 : decode prog_1_method_8_code 1 = .ok (.iload_n 1, 1) := by decide +kernel
theorem d_X_seal_2 : decode prog_1_method_8_code 2 = .ok (.invokevirtual 139, 3) := by decide +kernel
theorem d_X_seal_5 : decode prog_1_method_8_code 5 = .ok (.astore_n 3, 1) := by decide +kernel
theorem d_X_seal_6 : decode prog_1_method_8_code 6 = .ok (.aload_n 0, 1) := by decide +kernel
theorem d_X_seal_7 : decode prog_1_method_8_code 7 = .ok (.iload_n 2, 1) := by decide +kernel
theorem d_X_seal_8 : decode prog_1_method_8_code 8 = .ok (.invokevirtual 110, 3) := by decide +kernel
theorem d_X_seal_11 : decode prog_1_method_8_code 11 = .ok (.astore 4, 2) := by decide +kernel
theorem d_X_seal_13 : decode prog_1_method_8_code 13 = .ok (.aload_n 0, 1) := by decide +kernel
theorem d_X_seal_14 : decode prog_1_method_8_code 14 = .ok (.getfield 26, 3) := by decide +kernel
theorem d_X_seal_17 : decode prog_1_method_8_code 17 = .ok (.getfield 88, 3) := by decide +kernel
theorem d_X_seal_20 : decode prog_1_method_8_code 20 = .ok (.ifCond .ne 13, 3) := by decide +kernel
theorem d_X_seal_23 : decode prog_1_method_8_code 23 = .ok (.new 92, 3) := by decide +kernel
theorem d_X_seal_26 : decode prog_1_method_8_code 26 = .ok (.dup, 1) := by decide +kernel
theorem d_X_seal_27 : decode prog_1_method_8_code 27 = .ok (.ldc 94, 2) := by decide +kernel
theorem d_X_seal_29 : decode prog_1_method_8_code 29 = .ok (.invokespecial 96, 3) := by decide +kernel
theorem d_X_seal_32 : decode prog_1_method_8_code 32 = .ok (.athrow, 1) := by decide +kernel
theorem d_X_seal_33 : decode prog_1_method_8_code 33 = .ok (.aload_n 0, 1) := by decide +kernel
theorem d_X_seal_34 : decode prog_1_method_8_code 34 = .ok (.getfield 45, 3) := by decide +kernel
theorem d_X_seal_37 : decode prog_1_method_8_code 37 = .ok (.iconst 0, 1) := by decide +kernel
theorem d_X_seal_38 : decode prog_1_method_8_code 38 = .ok (.aaload, 1) := by decide +kernel
theorem d_X_seal_39 : decode prog_1_method_8_code 39 = .ok (.astore 5, 2) := by decide +kernel
theorem d_X_seal_41 : decode prog_1_method_8_code 41 = .ok (.aload_n 0, 1) := by decide +kernel
theorem d_X_seal_42 : decode prog_1_method_8_code 42 = .ok (.getfield 19, 3) := by decide +kernel
theorem d_X_seal_45 : decode prog_1_method_8_code 45 = .ok (.aload 5, 2) := by decide +kernel
theorem d_X_seal_47 : decode prog_1_method_8_code 47 = .ok (.aload_n 0, 1) := by decide +kernel
theorem d_X_seal_48 : decode prog_1_method_8_code 48 = .ok (.getfield 12, 3) := by decide +kernel
theorem d_X_seal_51 : decode prog_1_method_8_code 51 = .ok (.getfield 78, 3) := by decide +kernel
theorem d_X_seal_54 : decode prog_1_method_8_code 54 = .ok (.invokevirtual 143, 3) := by decide +kernel
theorem d_X_seal_57 : decode prog_1_method_8_code 57 = .ok (.aload_n 0, 1) := by decide +kernel
theorem d_X_seal_58 : decode prog_1_method_8_code 58 = .ok (.getfield 19, 3) := by decide +kernel
theorem d_X_seal_61 : decode prog_1_method_8_code 61 = .ok (.aload_n 0, 1) := by decide +kernel
theorem d_X_seal_62 : decode prog_1_method_8_code 62 = .ok (.getfield 42, 3) := by decide +kernel
theorem d_X_seal_65 : decode prog_1_method_8_code 65 = .ok (.iconst 0, 1) := by decide +kernel
theorem d_X_seal_66 : decode prog_1_method_8_code 66 = .ok (.aaload, 1) := by decide +kernel
theorem d_X_seal_67 : decode prog_1_method_8_code 67 = .ok (.aload_n 0, 1) := by decide +kernel
theorem d_X_seal_68 : decode prog_1_method_8_code 68 = .ok (.getfield 12, 3) := by decide +kernel
theorem d_X_seal_71 : decode prog_1_method_8_code 71 = .ok (.getfield 78, 3) := by decide +kernel
theorem d_X_seal_74 : decode prog_1_method_8_code 74 = .ok (.invokevirtual 147, 3) := by decide +kernel
theorem d_X_seal_77 : decode prog_1_method_8_code 77 = .ok (.aload_n 0, 1) := by decide +kernel
theorem d_X_seal_78 : decode prog_1_method_8_code 78 = .ok (.getfield 19, 3) := by decide +kernel
theorem d_X_seal_81 : decode prog_1_method_8_code 81 = .ok (.aload_n 0, 1) := by decide +kernel
theorem d_X_seal_82 : decode prog_1_method_8_code 82 = .ok (.getfield 42, 3) := by decide +kernel
theorem d_X_seal_85 : decode prog_1_method_8_code 85 = .ok (.iconst 1, 1) := by decide +kernel
theorem d_X_seal_86 : decode prog_1_method_8_code 86 = .ok (.aaload, 1) := by decide +kernel
theorem d_X_seal_87 : decode prog_1_method_8_code 87 = .ok (.aload_n 0, 1) := by decide +kernel
theorem d_X_seal_88 : decode prog_1_method_8_code 88 = .ok (.getfield 12, 3) := by decide +kernel
theorem d_X_seal_91 : decode prog_1_method_8_code 91 = .ok (.getfield 78, 3) := by decide +kernel
theorem d_X_seal_94 : decode prog_1_method_8_code 94 = .ok (.invokevirtual 147, 3) := by decide +kernel
theorem d_X_seal_97 : decode prog_1_method_8_code 97 = .ok (.aload_n 0, 1) := by decide +kernel
theorem d_X_seal_98 : decode prog_1_method_8_code 98 = .ok (.getfield 12, 3) := by decide +kernel
theorem d_X_seal_101 : decode prog_1_method_8_code 101 = .ok (.aload_n 0, 1) := by decide +kernel
theorem d_X_seal_102 : decode prog_1_method_8_code 102 = .ok (.getfield 42, 3) := by decide +kernel
theorem d_X_seal_105 : decode prog_1_method_8_code 105 = .ok (.iconst 0, 1) := by decide +kernel
theorem d_X_seal_106 : decode prog_1_method_8_code 106 = .ok (.aaload, 1) := by decide +kernel
theorem d_X_seal_107 : decode prog_1_method_8_code 107 = .ok (.aload_n 0, 1) := by decide +kernel
theorem d_X_seal_108 : decode prog_1_method_8_code 108 = .ok (.getfield 26, 3) := by decide +kernel
theorem d_X_seal_111 : decode prog_1_method_8_code 111 = .ok (.getfield 150, 3) := by decide +kernel
theorem d_X_seal_114 : decode prog_1_method_8_code 114 = .ok (.aload 5, 2) := by decide +kernel
theorem d_X_seal_116 : decode prog_1_method_8_code 116 = .ok (.invokevirtual 154, 3) := by decide +kernel
theorem d_X_seal_119 : decode prog_1_method_8_code 119 = .ok (.aload_n 0, 1) := by decide +kernel
theorem d_X_seal_120 : decode prog_1_method_8_code 120 = .ok (.getfield 12, 3) := by decide +kernel
theorem d_X_seal_123 : decode prog_1_method_8_code 123 = .ok (.aload_n 0, 1) := by decide +kernel
theorem d_X_seal_124 : decode prog_1_method_8_code 124 = .ok (.getfield 42, 3) := by decide +kernel
theorem d_X_seal_127 : decode prog_1_method_8_code 127 = .ok (.iconst 0, 1) := by decide +kernel
theorem d_X_seal_128 : decode prog_1_method_8_code 128 = .ok (.aaload, 1) := by decide +kernel
theorem d_X_seal_129 : decode prog_1_method_8_code 129 = .ok (.aload 4, 2) := by decide +kernel
theorem d_X_seal_131 : decode prog_1_method_8_code 131 = .ok (.aload_n 0, 1) := by decide +kernel
theorem d_X_seal_132 : decode prog_1_method_8_code 132 = .ok (.getfield 12, 3) := by decide +kernel
theorem d_X_seal_135 : decode prog_1_method_8_code 135 = .ok (.invokevirtual 158, 3) := by decide +kernel
theorem d_X_seal_138 : decode prog_1_method_8_code 138 = .ok (.invokevirtual 162, 3) := by decide +kernel
theorem d_X_seal_141 : decode prog_1_method_8_code 141 = .ok (.aload_n 0, 1) := by decide +kernel
theorem d_X_seal_142 : decode prog_1_method_8_code 142 = .ok (.getfield 12, 3) := by decide +kernel
theorem d_X_seal_145 : decode prog_1_method_8_code 145 = .ok (.aload_n 0, 1) := by decide +kernel
theorem d_X_seal_146 : decode prog_1_method_8_code 146 = .ok (.getfield 42, 3) := by decide +kernel
theorem d_X_seal_149 : decode prog_1_method_8_code 149 = .ok (.iconst 1, 1) := by decide +kernel
theorem d_X_seal_150 : decode prog_1_method_8_code 150 = .ok (.aaload, 1) := by decide +kernel
theorem d_X_seal_151 : decode prog_1_method_8_code 151 = .ok (.aload_n 0, 1) := by decide +kernel
theorem d_X_seal_152 : decode prog_1_method_8_code 152 = .ok (.getfield 26, 3) := by decide +kernel
theorem d_X_seal_155 : decode prog_1_method_8_code 155 = .ok (.getfield 166, 3) := by decide +kernel
theorem d_X_seal_158 : decode prog_1_method_8_code 158 = .ok (.aload 5, 2) := by decide +kernel
theorem d_X_seal_160 : decode prog_1_method_8_code 160 = .ok (.invokevirtual 154, 3) := by decide +kernel
theorem d_X_seal_163 : decode prog_1_method_8_code 163 = .ok (.aload_n 0, 1) := by decide +kernel
theorem d_X_seal_164 : decode prog_1_method_8_code 164 = .ok (.aload_n 3, 1) := by decide +kernel
theorem d_X_seal_165 : decode prog_1_method_8_code 165 = .ok (.invokevirtual 169, 3) := by decide +kernel
theorem d_X_seal_168 : decode prog_1_method_8_code 168 = .ok (.ireturn, 1) := by decide +kernel
theorem d_X_open_0 : decode prog_1_method_9_code 0 = .ok (.aload_n 0, 1) := by decide +kernel
theorem d_X_open_1 : decode prog_1_method_9_code 1 = .ok (.iload_n 1, 1) := by decide +kernel
theorem d_X_open_2 : decode prog_1_method_9_code 2 = .ok (.invokevirtual 110, 3) := by decide +kernel
theorem d_X_open_5 : decode prog_1_method_9_code 5 = .ok (.astore_n 3, 1) := by decide +kernel
theorem d_X_open_6 : decode prog_1_method_9_code 6 = .ok (.aload_n 0, 1) := by decide +kernel
theorem d_X_open_7 : decode prog_1_method_9_code 7 = .ok (.iload_n 2, 1) := by decide +kernel
theorem d_X_open_8 : decode prog_1_method_9_code 8 = .ok (.invokevirtual 173, 3) := by decide +kernel
theorem d_X_open_11 : decode prog_1_method_9_code 11 = .ok (.astore 4, 2) := by decide +kernel
theorem d_X_open_13 : decode prog_1_method_9_code 13 = .ok (.aload_n 0, 1) := by decide +kernel
theorem d_X_open_14 : decode prog_1_method_9_code 14 = .ok (.aload 4, 2) := by decide +kernel
theorem d_X_open_16 : decode prog_1_method_9_code 16 = .ok (.invokevirtual 176, 3) := by decide +kernel
theorem d_X_open_19 : decode prog_1_method_9_code 19 = .ok (.astore 5, 2) := by decide +kernel
theorem d_X_open_21 : decode prog_1_method_9_code 21 = .ok (.iconst 0, 1) := by decide +kernel
theorem d_X_open_22 : decode prog_1_method_9_code 22 = .ok (.istore 6, 2) := by decide +kernel
theorem d_X_open_24 : decode prog_1_method_9_code 24 = .ok (.iload 6, 2) := by decide +kernel
theorem d_X_open_26 : decode prog_1_method_9_code 26 = .ok (.aload_n 0, 1) := by decide +kernel
theorem d_X_open_27 : decode prog_1_method_9_code 27 = .ok (.getfield 12, 3) := by decide +kernel
theorem d_X_open_30 : decode prog_1_method_9_code 30 = .ok (.getfield 78, 3) := by decide +kernel
theorem d_X_open_33 : decode prog_1_method_9_code 33 = .ok (.if_icmp .ge 36, 3) := by decide +kernel
theorem d_X_open_36 : decode prog_1_method_9_code 36 = .ok (.aload_n 3, 1) := by decide +kernel
theorem d_X_open_37 : decode prog_1_method_9_code 37 = .ok (.iload 6, 2) := by decide +kernel
theorem d_X_open_39 : decode prog_1_method_9_code 39 = .ok (.aload_n 0, 1) := by decide +kernel
theorem d_X_open_40 : decode prog_1_method_9_code 40 = .ok (.getfield 12, 3) := by decide +kernel
theorem d_X_open_43 : decode prog_1_method_9_code 43 = .ok (.aload 5, 2) := by decide +kernel
theorem d_X_open_45 : decode prog_1_method_9_code 45 = .ok (.iload 6, 2) := by decide +kernel
theorem d_X_open_47 : decode prog_1_method_9_code 47 = .ok (.laload, 1) := by decide +kernel
theorem d_X_open_48 : decode prog_1_method_9_code 48 = .ok (.invokevirtual 180, 3) := by decide +kernel
theorem d_X_open_51 : decode prog_1_method_9_code 51 = .ok (.aload_n 0, 1) := by decide +kernel
theorem d_X_open_52 : decode prog_1_method_9_code 52 = .ok (.getfield 12, 3) := by decide +kernel
theorem d_X_open_55 : decode prog_1_method_9_code 55 = .ok (.getfield 117, 3) := by decide +kernel
theorem d_X_open_58 : decode prog_1_method_9_code 58 = .ok (.i2l, 1) := by decide +kernel
theorem d_X_open_59 : decode prog_1_method_9_code 59 = .ok (.invokestatic 184, 3) := by decide +kernel
theorem d_X_open_62 : decode prog_1_method_9_code 62 = .ok (.lastore, 1) := by decide +kernel
theorem d_X_open_63 : decode prog_1_method_9_code 63 = .ok (.iinc 6 1, 3) := by decide +kernel
theorem d_X_open_66 : decode prog_1_method_9_code 66 = .ok (.goto (-42), 3) := by decide +kernel
theorem d_X_open_69 : decode prog_1_method_9_code 69 = .ok (.aload_n 0, 1) := by decide +kernel
theorem d_X_open_70 : decode prog_1_method_9_code 70 = .ok (.aload 5, 2) := by decide +kernel
theorem d_X_open_72 : decode prog_1_method_9_code 72 = .ok (.invokevirtual 187, 3) := by decide +kernel
theorem d_X_open_75 : decode prog_1_method_9_code 75 = .ok (.invokestatic 191, 3) := by decide +kernel
theorem d_X_open_78 : decode prog_1_method_9_code 78 = .ok (.ireturn, 1) := by decide +kernel
theorem d_X_join_0 : decode prog_1_method_10_code 0 = .ok (.aload_n 0, 1) := by decide +kernel
theorem d_X_join_1 : decode prog_1_method_10_code 1 = .ok (.iload_n 1, 1) := by decide +kernel
theorem d_X_join_2 : decode prog_1_method_10_code 2 = .ok (.invokevirtual 139, 3) := by decide +kernel
theorem d_X_join_5 : decode prog_1_method_10_code 5 = .ok (.astore 5, 2) := by decide +kernel
theorem d_X_join_7 : decode prog_1_method_10_code 7 = .ok (.aload_n 0, 1) := by decide +kernel
theorem d_X_join_8 : decode prog_1_method_10_code 8 = .ok (.iload_n 3, 1) := by decide +kernel
theorem d_X_join_9 : decode prog_1_method_10_code 9 = .ok (.invokevirtual 173, 3) := by decide +kernel
theorem d_X_join_12 : decode prog_1_method_10_code 12 = .ok (.astore 6, 2) := by decide +kernel
theorem d_X_join_14 : decode prog_1_method_10_code 14 = .ok (.aload_n 0, 1) := by decide +kernel
theorem d_X_join_15 : decode prog_1_method_10_code 15 = .ok (.iload 4, 2) := by decide +kernel
theorem d_X_join_17 : decode prog_1_method_10_code 17 = .ok (.invokevirtual 173, 3) := by decide +kernel
theorem d_X_join_20 : decode prog_1_method_10_code 20 = .ok (.astore 7, 2) := by decide +kernel
theorem d_X_join_22 : decode prog_1_method_10_code 22 = .ok (.iload_n 2, 1) := by decide +kernel
theorem d_X_join_23 : decode prog_1_method_10_code 23 = .ok (.ifCond .lt 8, 3) := by decide +kernel
theorem d_X_join_26 : decode prog_1_method_10_code 26 = .ok (.iload_n 2, 1) := by decide +kernel
theorem d_X_join_27 : decode prog_1_method_10_code 27 = .ok (.iconst 2, 1) := by decide +kernel
theorem d_X_join_28 : decode prog_1_method_10_code 28 = .ok (.if_icmp .le 13, 3) := by decide +kernel
theorem d_X_join_31 : decode prog_1_method_10_code 31 = .ok (.new 52, 3) := by decide +kernel
theorem d_X_join_34 : decode prog_1_method_10_code 34 = .ok (.dup, 1) := by decide +kernel
theorem d_X_join_35 : decode prog_1_method_10_code 35 = .ok (.ldc 195, 2) := by decide +kernel
theorem d_X_join_37 : decode prog_1_method_10_code 37 = .ok (.invokespecial 56, 3) := by decide +kernel
theorem d_X_join_40 : decode prog_1_method_10_code 40 = .ok (.athrow, 1) := by decide +kernel
theorem d_X_join_41 : decode prog_1_method_10_code 41 = .ok (.iload_n 2, 1) := by decide +kernel
theorem d_X_join_42 : decode prog_1_method_10_code 42 = .ok (.iconst 2, 1) := by decide +kernel
theorem d_X_join_43 : decode prog_1_method_10_code 43 = .ok (.if_icmp .ne 31, 3) := by decide +kernel
theorem d_X_join_46 : decode prog_1_method_10_code 46 = .ok (.aload 6, 2) := by decide +kernel
theorem d_X_join_48 : decode prog_1_method_10_code 48 = .ok (.getfield 197, 3) := by decide +kernel
theorem d_X_join_51 : decode prog_1_method_10_code 51 = .ok (.iconst 3, 1) := by decide +kernel
theorem d_X_join_52 : decode prog_1_method_10_code 52 = .ok (.if_icmp .eq 12, 3) := by decide +kernel
theorem d_X_join_55 : decode prog_1_method_10_code 55 = .ok (.aload 7, 2) := by decide +kernel
theorem d_X_join_57 : decode prog_1_method_10_code 57 = .ok (.getfield 197, 3) := by decide +kernel
theorem d_X_join_60 : decode prog_1_method_10_code 60 = .ok (.iconst 3, 1) := by decide +kernel
theorem d_X_join_61 : decode prog_1_method_10_code 61 = .ok (.if_icmp .ne 13, 3) := by decide +kernel
theorem d_X_join_64 : decode prog_1_method_10_code 64 = .ok (.new 92, 3) := by decide +kernel
theorem d_X_join_67 : decode prog_1_method_10_code 67 = .ok (.dup, 1) := by decide +kernel
theorem d_X_join_68 : decode prog_1_method_10_code 68 = .ok (.ldc 200, 2) := by decide +kernel
theorem d_X_join_70 : decode prog_1_method_10_code 70 = .ok (.invokespecial 96, 3) := by decide +kernel
theorem d_X_join_73 : decode prog_1_method_10_code 73 = .ok (.athrow, 1) := by decide +kernel
theorem d_X_join_74 : decode prog_1_method_10_code 74 = .ok (.iload_n 2, 1) := by decide +kernel
theorem d_X_join_75 : decode prog_1_method_10_code 75 = .ok (.iconst 2, 1) := by decide +kernel
theorem d_X_join_76 : decode prog_1_method_10_code 76 = .ok (.if_icmp .ne 16, 3) := by decide +kernel
theorem d_X_join_79 : decode prog_1_method_10_code 79 = .ok (.aload_n 0, 1) := by decide +kernel
theorem d_X_join_80 : decode prog_1_method_10_code 80 = .ok (.aload 5, 2) := by decide +kernel
theorem d_X_join_82 : decode prog_1_method_10_code 82 = .ok (.aload 6, 2) := by decide +kernel
theorem d_X_join_84 : decode prog_1_method_10_code 84 = .ok (.aload 7, 2) := by decide +kernel
theorem d_X_join_86 : decode prog_1_method_10_code 86 = .ok (.invokevirtual 202, 3) := by decide +kernel
theorem d_X_join_89 : decode prog_1_method_10_code 89 = .ok (.goto 24, 3) := by decide +kernel
theorem d_X_join_92 : decode prog_1_method_10_code 92 = .ok (.aload_n 0, 1) := by decide +kernel
theorem d_X_join_93 : decode prog_1_method_10_code 93 = .ok (.aload 5, 2) := by decide +kernel
theorem d_X_join_95 : decode prog_1_method_10_code 95 = .ok (.aload 6, 2) := by decide +kernel
theorem d_X_join_97 : decode prog_1_method_10_code 97 = .ok (.aload 7, 2) := by decide +kernel
theorem d_X_join_99 : decode prog_1_method_10_code 99 = .ok (.iload_n 2, 1) := by decide +kernel
theorem d_X_join_100 : decode prog_1_method_10_code 100 = .ok (.ifCond .ne 7, 3) := by decide +kernel
theorem d_X_join_103 : decode prog_1_method_10_code 103 = .ok (.lconst 1, 1) := by decide +kernel
theorem d_X_join_104 : decode prog_1_method_10_code 104 = .ok (.goto 6, 3) := by decide +kernel
theorem d_X_join_107 : decode prog_1_method_10_code 107 = .ok (.ldc2_w 206, 3) := by decide +kernel
theorem d_X_join_110 : decode prog_1_method_10_code 110 = .ok (.invokevirtual 208, 3) := by decide +kernel
theorem d_X_join_113 : decode prog_1_method_10_code 113 = .ok (.aload 5, 2) := by decide +kernel
theorem d_X_join_115 : decode prog_1_method_10_code 115 = .ok (.getfield 197, 3) := by decide +kernel
theorem d_X_join_118 : decode prog_1_method_10_code 118 = .ok (.ireturn, 1) := by decide +kernel
theorem d_X_plain_0 : decode prog_1_method_11_code 0 = .ok (.aload_n 0, 1) := by decide +kernel
theorem d_X_plain_1 : decode prog_1_method_11_code 1 = .ok (.iload_n 1, 1) := by decide +kernel
theorem d_X_plain_2 : decode prog_1_method_11_code 2 = .ok (.invokevirtual 139, 3) := by decide +kernel
theorem d_X_plain_5 : decode prog_1_method_11_code 5 = .ok (.astore 5, 2) := by decide +kernel
theorem d_X_plain_7 : decode prog_1_method_11_code 7 = .ok (.aload_n 0, 1) := by decide +kernel
theorem d_X_plain_8 : decode prog_1_method_11_code 8 = .ok (.iload_n 3, 1) := by decide +kernel
theorem d_X_plain_9 : decode prog_1_method_11_code 9 = .ok (.invokevirtual 173, 3) := by decide +kernel
theorem d_X_plain_12 : decode prog_1_method_11_code 12 = .ok (.astore 6, 2) := by decide +kernel
theorem d_X_plain_14 : decode prog_1_method_11_code 14 = .ok (.aload_n 0, 1) := by decide +kernel
theorem d_X_plain_15 : decode prog_1_method_11_code 15 = .ok (.iload 4, 2) := by decide +kernel
theorem d_X_plain_17 : decode prog_1_method_11_code 17 = .ok (.invokevirtual 110, 3) := by decide +kernel
theorem d_X_plain_20 : decode prog_1_method_11_code 20 = .ok (.astore 7, 2) := by decide +kernel
theorem d_X_plain_22 : decode prog_1_method_11_code 22 = .ok (.iload_n 2, 1) := by decide +kernel
theorem d_X_plain_23 : decode prog_1_method_11_code 23 = .ok (.ifCond .lt 8, 3) := by decide +kernel
theorem d_X_plain_26 : decode prog_1_method_11_code 26 = .ok (.iload_n 2, 1) := by decide +kernel
theorem d_X_plain_27 : decode prog_1_method_11_code 27 = .ok (.iconst 1, 1) := by decide +kernel
theorem d_X_plain_28 : decode prog_1_method_11_code 28 = .ok (.if_icmp .le 13, 3) := by decide +kernel
theorem d_X_plain_31 : decode prog_1_method_11_code 31 = .ok (.new 52, 3) := by decide +kernel
theorem d_X_plain_34 : decode prog_1_method_11_code 34 = .ok (.dup, 1) := by decide +kernel
theorem d_X_plain_35 : decode prog_1_method_11_code 35 = .ok (.ldc 195, 2) := by decide +kernel
theorem d_X_plain_37 : decode prog_1_method_11_code 37 = .ok (.invokespecial 56, 3) := by decide +kernel
theorem d_X_plain_40 : decode prog_1_method_11_code 40 = .ok (.athrow, 1) := by decide +kernel
theorem d_X_plain_41 : decode prog_1_method_11_code 41 = .ok (.iload_n 2, 1) := by decide +kernel
theorem d_X_plain_42 : decode prog_1_method_11_code 42 = .ok (.ifCond .ne 16, 3) := by decide +kernel
theorem d_X_plain_45 : decode prog_1_method_11_code 45 = .ok (.aload_n 0, 1) := by decide +kernel
theorem d_X_plain_46 : decode prog_1_method_11_code 46 = .ok (.aload 5, 2) := by decide +kernel
theorem d_X_plain_48 : decode prog_1_method_11_code 48 = .ok (.aload 6, 2) := by decide +kernel
theorem d_X_plain_50 : decode prog_1_method_11_code 50 = .ok (.aload 7, 2) := by decide +kernel
theorem d_X_plain_52 : decode prog_1_method_11_code 52 = .ok (.invokevirtual 212, 3) := by decide +kernel
theorem d_X_plain_55 : decode prog_1_method_11_code 55 = .ok (.goto 13, 3) := by decide +kernel
theorem d_X_plain_58 : decode prog_1_method_11_code 58 = .ok (.aload_n 0, 1) := by decide +kernel
theorem d_X_plain_59 : decode prog_1_method_11_code 59 = .ok (.aload 5, 2) := by decide +kernel
theorem d_X_plain_61 : decode prog_1_method_11_code 61 = .ok (.aload 6, 2) := by decide +kernel
theorem d_X_plain_63 : decode prog_1_method_11_code 63 = .ok (.aload 7, 2) := by decide +kernel
theorem d_X_plain_65 : decode prog_1_method_11_code 65 = .ok (.invokevirtual 216, 3) := by decide +kernel
theorem d_X_plain_68 : decode prog_1_method_11_code 68 = .ok (.aload 5, 2) := by decide +kernel
theorem d_X_plain_70 : decode prog_1_method_11_code 70 = .ok (.getfield 197, 3) := by decide +kernel
theorem d_X_plain_73 : decode prog_1_method_11_code 73 = .ok (.ireturn, 1) := by decide +kernel
theorem d_X_shrink_0 : decode prog_1_method_12_code 0 = .ok (.aload_n 0, 1) := by decide +kernel
theorem d_X_shrink_1 : decode prog_1_method_12_code 1 = .ok (.iload_n 1, 1) := by decide +kernel
theorem d_X_shrink_2 : decode prog_1_method_12_code 2 = .ok (.invokevirtual 139, 3) := by decide +kernel
theorem d_X_shrink_5 : decode prog_1_method_12_code 5 = .ok (.astore_n 3, 1) := by decide +kernel
theorem d_X_shrink_6 : decode prog_1_method_12_code 6 = .ok (.aload_n 0, 1) := by decide +kernel
theorem d_X_shrink_7 : decode prog_1_method_12_code 7 = .ok (.iload_n 2, 1) := by decide +kernel
theorem d_X_shrink_8 : decode prog_1_method_12_code 8 = .ok (.invokevirtual 173, 3) := by decide +kernel
theorem d_X_shrink_11 : decode prog_1_method_12_code 11 = .ok (.astore 4, 2) := by decide +kernel
theorem d_X_shrink_13 : decode prog_1_method_12_code 13 = .ok (.aload 4, 2) := by decide +kernel
theorem d_X_shrink_15 : decode prog_1_method_12_code 15 = .ok (.getfield 197, 3) := by decide +kernel
theorem d_X_shrink_18 : decode prog_1_method_12_code 18 = .ok (.iconst 2, 1) := by decide +kernel
theorem d_X_shrink_19 : decode prog_1_method_12_code 19 = .ok (.if_icmp .ne 13, 3) := by decide +kernel
theorem d_X_shrink_22 : decode prog_1_method_12_code 22 = .ok (.new 92, 3) := by decide +kernel
theorem d_X_shrink_25 : decode prog_1_method_12_code 25 = .ok (.dup, 1) := by decide +kernel
theorem d_X_shrink_26 : decode prog_1_method_12_code 26 = .ok (.ldc 219, 2) := by decide +kernel
theorem d_X_shrink_28 : decode prog_1_method_12_code 28 = .ok (.invokespecial 96, 3) := by decide +kernel
theorem d_X_shrink_31 : decode prog_1_method_12_code 31 = .ok (.athrow, 1) := by decide +kernel
theorem d_X_shrink_32 : decode prog_1_method_12_code 32 = .ok (.aload_n 0, 1) := by decide +kernel
theorem d_X_shrink_33 : decode prog_1_method_12_code 33 = .ok (.getfield 12, 3) := by decide +kernel
theorem d_X_shrink_36 : decode prog_1_method_12_code 36 = .ok (.aload_n 0, 1) := by decide +kernel
theorem d_X_shrink_37 : decode prog_1_method_12_code 37 = .ok (.getfield 42, 3) := by decide +kernel
theorem d_X_shrink_40 : decode prog_1_method_12_code 40 = .ok (.iconst 0, 1) := by decide +kernel
theorem d_X_shrink_41 : decode prog_1_method_12_code 41 = .ok (.aaload, 1) := by decide +kernel
theorem d_X_shrink_42 : decode prog_1_method_12_code 42 = .ok (.aload 4, 2) := by decide +kernel
theorem d_X_shrink_44 : decode prog_1_method_12_code 44 = .ok (.getfield 221, 3) := by decide +kernel
theorem d_X_shrink_47 : decode prog_1_method_12_code 47 = .ok (.iconst 0, 1) := by decide +kernel
theorem d_X_shrink_48 : decode prog_1_method_12_code 48 = .ok (.aaload, 1) := by decide +kernel
theorem d_X_shrink_49 : decode prog_1_method_12_code 49 = .ok (.invokevirtual 222, 3) := by decide +kernel
theorem d_X_shrink_52 : decode prog_1_method_12_code 52 = .ok (.aload_n 0, 1) := by decide +kernel
theorem d_X_shrink_53 : decode prog_1_method_12_code 53 = .ok (.getfield 12, 3) := by decide +kernel
theorem d_X_shrink_56 : decode prog_1_method_12_code 56 = .ok (.aload_n 0, 1) := by decide +kernel
theorem d_X_shrink_57 : decode prog_1_method_12_code 57 = .ok (.getfield 42, 3) := by decide +kernel
theorem d_X_shrink_60 : decode prog_1_method_12_code 60 = .ok (.iconst 1, 1) := by decide +kernel
theorem d_X_shrink_61 : decode prog_1_method_12_code 61 = .ok (.aaload, 1) := by decide +kernel
theorem d_X_shrink_62 : decode prog_1_method_12_code 62 = .ok (.aload 4, 2) := by decide +kernel
theorem d_X_shrink_64 : decode prog_1_method_12_code 64 = .ok (.getfield 221, 3) := by decide +kernel
theorem d_X_shrink_67 : decode prog_1_method_12_code 67 = .ok (.iconst 1, 1) := by decide +kernel
theorem d_X_shrink_68 : decode prog_1_method_12_code 68 = .ok (.aaload, 1) := by decide +kernel
theorem d_X_shrink_69 : decode prog_1_method_12_code 69 = .ok (.invokevirtual 222, 3) := by decide +kernel
theorem d_X_shrink_72 : decode prog_1_method_12_code 72 = .ok (.aload_n 0, 1) := by decide +kernel
theorem d_X_shrink_73 : decode prog_1_method_12_code 73 = .ok (.aload_n 0, 1) := by decide +kernel
theorem d_X_shrink_74 : decode prog_1_method_12_code 74 = .ok (.getfield 26, 3) := by decide +kernel
theorem d_X_shrink_77 : decode prog_1_method_12_code 77 = .ok (.getfield 225, 3) := by decide +kernel
theorem d_X_shrink_80 : decode prog_1_method_12_code 80 = .ok (.aload 4, 2) := by decide +kernel
theorem d_X_shrink_82 : decode prog_1_method_12_code 82 = .ok (.getfield 221, 3) := by decide +kernel
theorem d_X_shrink_85 : decode prog_1_method_12_code 85 = .ok (.iconst 2, 1) := by decide +kernel
theorem d_X_shrink_86 : decode prog_1_method_12_code 86 = .ok (.aaload, 1) := by decide +kernel
theorem d_X_shrink_87 : decode prog_1_method_12_code 87 = .ok (.invokevirtual 229, 3) := by decide +kernel
theorem d_X_shrink_90 : decode prog_1_method_12_code 90 = .ok (.aload_n 0, 1) := by decide +kernel
theorem d_X_shrink_91 : decode prog_1_method_12_code 91 = .ok (.aload_n 3, 1) := by decide +kernel
theorem d_X_shrink_92 : decode prog_1_method_12_code 92 = .ok (.invokevirtual 169, 3) := by decide +kernel
theorem d_X_shrink_95 : decode prog_1_method_12_code 95 = .ok (.ireturn, 1) := by decide +kernel
theorem d_X_turn_0 : decode prog_1_method_13_code 0 = .ok (.aload_n 0, 1) := by decide +kernel
theorem d_X_turn_1 : decode prog_1_method_13_code 1 = .ok (.iload_n 1, 1) := by decide +kernel
theorem d_X_turn_2 : decode prog_1_method_13_code 2 = .ok (.invokevirtual 139, 3) := by decide +kernel
theorem d_X_turn_5 : decode prog_1_method_13_code 5 = .ok (.astore 4, 2) := by decide +kernel
theorem d_X_turn_7 : decode prog_1_method_13_code 7 = .ok (.aload_n 0, 1) := by decide +kernel
theorem d_X_turn_8 : decode prog_1_method_13_code 8 = .ok (.iload_n 2, 1) := by decide +kernel
theorem d_X_turn_9 : decode prog_1_method_13_code 9 = .ok (.invokevirtual 173, 3) := by decide +kernel
theorem d_X_turn_12 : decode prog_1_method_13_code 12 = .ok (.astore 5, 2) := by decide +kernel
theorem d_X_turn_14 : decode prog_1_method_13_code 14 = .ok (.aload_n 0, 1) := by decide +kernel
theorem d_X_turn_15 : decode prog_1_method_13_code 15 = .ok (.getfield 26, 3) := by decide +kernel
theorem d_X_turn_18 : decode prog_1_method_13_code 18 = .ok (.iload_n 3, 1) := by decide +kernel
theorem d_X_turn_19 : decode prog_1_method_13_code 19 = .ok (.invokevirtual 97, 3) := by decide +kernel
theorem d_X_turn_22 : decode prog_1_method_13_code 22 = .ok (.istore 6, 2) := by decide +kernel
theorem d_X_turn_24 : decode prog_1_method_13_code 24 = .ok (.iload 6, 2) := by decide +kernel
theorem d_X_turn_26 : decode prog_1_method_13_code 26 = .ok (.aload_n 0, 1) := by decide +kernel
theorem d_X_turn_27 : decode prog_1_method_13_code 27 = .ok (.getfield 26, 3) := by decide +kernel
theorem d_X_turn_30 : decode prog_1_method_13_code 30 = .ok (.getfield 107, 3) := by decide +kernel
theorem d_X_turn_33 : decode prog_1_method_13_code 33 = .ok (.if_icmp .ne 13, 3) := by decide +kernel
theorem d_X_turn_36 : decode prog_1_method_13_code 36 = .ok (.new 92, 3) := by decide +kernel
theorem d_X_turn_39 : decode prog_1_method_13_code 39 = .ok (.dup, 1) := by decide +kernel
theorem d_X_turn_40 : decode prog_1_method_13_code 40 = .ok (.ldc 86, 2) := by decide +kernel
theorem d_X_turn_42 : decode prog_1_method_13_code 42 = .ok (.invokespecial 96, 3) := by decide +kernel
theorem d_X_turn_45 : decode prog_1_method_13_code 45 = .ok (.athrow, 1) := by decide +kernel
theorem d_X_turn_46 : decode prog_1_method_13_code 46 = .ok (.aload 5, 2) := by decide +kernel
theorem d_X_turn_48 : decode prog_1_method_13_code 48 = .ok (.getfield 197, 3) := by decide +kernel
theorem d_X_turn_51 : decode prog_1_method_13_code 51 = .ok (.iconst 3, 1) := by decide +kernel
theorem d_X_turn_52 : decode prog_1_method_13_code 52 = .ok (.if_icmp .ne 13, 3) := by decide +kernel
theorem d_X_turn_55 : decode prog_1_method_13_code 55 = .ok (.new 92, 3) := by decide +kernel
theorem d_X_turn_58 : decode prog_1_method_13_code 58 = .ok (.dup, 1) := by decide +kernel
theorem d_X_turn_59 : decode prog_1_method_13_code 59 = .ok (.ldc 233, 2) := by decide +kernel
theorem d_X_turn_61 : decode prog_1_method_13_code 61 = .ok (.invokespecial 96, 3) := by decide +kernel
theorem d_X_turn_64 : decode prog_1_method_13_code 64 = .ok (.athrow, 1) := by decide +kernel
theorem d_X_turn_65 : decode prog_1_method_13_code 65 = .ok (.aload_n 0, 1) := by decide +kernel
theorem d_X_turn_66 : decode prog_1_method_13_code 66 = .ok (.getfield 45, 3) := by decide +kernel
theorem d_X_turn_69 : decode prog_1_method_13_code 69 = .ok (.iconst 0, 1) := by decide +kernel
theorem d_X_turn_70 : decode prog_1_method_13_code 70 = .ok (.aaload, 1) := by decide +kernel
theorem d_X_turn_71 : decode prog_1_method_13_code 71 = .ok (.astore 7, 2) := by decide +kernel
theorem d_X_turn_73 : decode prog_1_method_13_code 73 = .ok (.aload_n 0, 1) := by decide +kernel
theorem d_X_turn_74 : decode prog_1_method_13_code 74 = .ok (.getfield 12, 3) := by decide +kernel
theorem d_X_turn_77 : decode prog_1_method_13_code 77 = .ok (.aload_n 0, 1) := by decide +kernel
theorem d_X_turn_78 : decode prog_1_method_13_code 78 = .ok (.getfield 42, 3) := by decide +kernel
theorem d_X_turn_81 : decode prog_1_method_13_code 81 = .ok (.iconst 0, 1) := by decide +kernel
theorem d_X_turn_82 : decode prog_1_method_13_code 82 = .ok (.aaload, 1) := by decide +kernel
theorem d_X_turn_83 : decode prog_1_method_13_code 83 = .ok (.aload 5, 2) := by decide +kernel
theorem d_X_turn_85 : decode prog_1_method_13_code 85 = .ok (.getfield 221, 3) := by decide +kernel
theorem d_X_turn_88 : decode prog_1_method_13_code 88 = .ok (.iconst 0, 1) := by decide +kernel
theorem d_X_turn_89 : decode prog_1_method_13_code 89 = .ok (.aaload, 1) := by decide +kernel
theorem d_X_turn_90 : decode prog_1_method_13_code 90 = .ok (.iload_n 3, 1) := by decide +kernel
theorem d_X_turn_91 : decode prog_1_method_13_code 91 = .ok (.invokevirtual 235, 3) := by decide +kernel
theorem d_X_turn_94 : decode prog_1_method_13_code 94 = .ok (.aload_n 0, 1) := by decide +kernel
theorem d_X_turn_95 : decode prog_1_method_13_code 95 = .ok (.getfield 12, 3) := by decide +kernel
theorem d_X_turn_98 : decode prog_1_method_13_code 98 = .ok (.aload 7, 2) := by decide +kernel
theorem d_X_turn_100 : decode prog_1_method_13_code 100 = .ok (.aload 5, 2) := by decide +kernel
theorem d_X_turn_102 : decode prog_1_method_13_code 102 = .ok (.getfield 221, 3) := by decide +kernel
theorem d_X_turn_105 : decode prog_1_method_13_code 105 = .ok (.iconst 1, 1) := by decide +kernel
theorem d_X_turn_106 : decode prog_1_method_13_code 106 = .ok (.aaload, 1) := by decide +kernel
theorem d_X_turn_107 : decode prog_1_method_13_code 107 = .ok (.iload_n 3, 1) := by decide +kernel
theorem d_X_turn_108 : decode prog_1_method_13_code 108 = .ok (.invokevirtual 235, 3) := by decide +kernel
theorem d_X_turn_111 : decode prog_1_method_13_code 111 = .ok (.aload_n 0, 1) := by decide +kernel
theorem d_X_turn_112 : decode prog_1_method_13_code 112 = .ok (.getfield 42, 3) := by decide +kernel
theorem d_X_turn_115 : decode prog_1_method_13_code 115 = .ok (.iconst 1, 1) := by decide +kernel
theorem d_X_turn_116 : decode prog_1_method_13_code 116 = .ok (.aaload, 1) := by decide +kernel
theorem d_X_turn_117 : decode prog_1_method_13_code 117 = .ok (.lconst 0, 1) := by decide +kernel
theorem d_X_turn_118 : decode prog_1_method_13_code 118 = .ok (.invokestatic 72, 3) := by decide +kernel
theorem d_X_turn_121 : decode prog_1_method_13_code 121 = .ok (.aload_n 0, 1) := by decide +kernel
theorem d_X_turn_122 : decode prog_1_method_13_code 122 = .ok (.aload_n 0, 1) := by decide +kernel
theorem d_X_turn_123 : decode prog_1_method_13_code 123 = .ok (.getfield 26, 3) := by decide +kernel
theorem d_X_turn_126 : decode prog_1_method_13_code 126 = .ok (.getfield 239, 3) := by decide +kernel
theorem d_X_turn_129 : decode prog_1_method_13_code 129 = .ok (.iload 6, 2) := by decide +kernel
theorem d_X_turn_131 : decode prog_1_method_13_code 131 = .ok (.aaload, 1) := by decide +kernel
theorem d_X_turn_132 : decode prog_1_method_13_code 132 = .ok (.aload 7, 2) := by decide +kernel
theorem d_X_turn_134 : decode prog_1_method_13_code 134 = .ok (.invokevirtual 229, 3) := by decide +kernel
theorem d_X_turn_137 : decode prog_1_method_13_code 137 = .ok (.aload_n 0, 1) := by decide +kernel
theorem d_X_turn_138 : decode prog_1_method_13_code 138 = .ok (.aload 4, 2) := by decide +kernel
theorem d_X_turn_140 : decode prog_1_method_13_code 140 = .ok (.invokevirtual 169, 3) := by decide +kernel
theorem d_X_turn_143 : decode prog_1_method_13_code 143 = .ok (.ireturn, 1) := by decide +kernel
theorem d_X_part_0 : decode prog_1_method_14_code 0 = .ok (.aload_n 0, 1) := by decide +kernel
theorem d_X_part_1 : decode prog_1_method_14_code 1 = .ok (.iload_n 1, 1) := by decide +kernel
theorem d_X_part_2 : decode prog_1_method_14_code 2 = .ok (.invokevirtual 173, 3) := by decide +kernel
theorem d_X_part_5 : decode prog_1_method_14_code 5 = .ok (.astore 4, 2) := by decide +kernel
theorem d_X_part_7 : decode prog_1_method_14_code 7 = .ok (.iload_n 2, 1) := by decide +kernel
theorem d_X_part_8 : decode prog_1_method_14_code 8 = .ok (.ifCond .lt 12, 3) := by decide +kernel
theorem d_X_part_11 : decode prog_1_method_14_code 11 = .ok (.iload_n 2, 1) := by decide +kernel
theorem d_X_part_12 : decode prog_1_method_14_code 12 = .ok (.aload 4, 2) := by decide +kernel
theorem d_X_part_14 : decode prog_1_method_14_code 14 = .ok (.getfield 197, 3) := by decide +kernel
theorem d_X_part_17 : decode prog_1_method_14_code 17 = .ok (.if_icmp .lt 13, 3) := by decide +kernel
theorem d_X_part_20 : decode prog_1_method_14_code 20 = .ok (.new 243, 3) := by decide +kernel
theorem d_X_part_23 : decode prog_1_method_14_code 23 = .ok (.dup, 1) := by decide +kernel
theorem d_X_part_24 : decode prog_1_method_14_code 24 = .ok (.ldc 245, 2) := by decide +kernel
theorem d_X_part_26 : decode prog_1_method_14_code 26 = .ok (.invokespecial 247, 3) := by decide +kernel
theorem d_X_part_29 : decode prog_1_method_14_code 29 = .ok (.athrow, 1) := by decide +kernel
theorem d_X_part_30 : decode prog_1_method_14_code 30 = .ok (.aload_n 0, 1) := by decide +kernel
theorem d_X_part_31 : decode prog_1_method_14_code 31 = .ok (.iload_n 3, 1) := by decide +kernel
theorem d_X_part_32 : decode prog_1_method_14_code 32 = .ok (.invokevirtual 114, 3) := by decide +kernel
theorem d_X_part_35 : decode prog_1_method_14_code 35 = .ok (.aload 4, 2) := by decide +kernel
theorem d_X_part_37 : decode prog_1_method_14_code 37 = .ok (.getfield 221, 3) := by decide +kernel
theorem d_X_part_40 : decode prog_1_method_14_code 40 = .ok (.iload_n 2, 1) := by decide +kernel
theorem d_X_part_41 : decode prog_1_method_14_code 41 = .ok (.aaload, 1) := by decide +kernel
theorem d_X_part_42 : decode prog_1_method_14_code 42 = .ok (.iload_n 3, 1) := by decide +kernel
theorem d_X_part_43 : decode prog_1_method_14_code 43 = .ok (.laload, 1) := by decide +kernel
theorem d_X_part_44 : decode prog_1_method_14_code 44 = .ok (.l2i, 1) := by decide +kernel
theorem d_X_part_45 : decode prog_1_method_14_code 45 = .ok (.ireturn, 1) := by decide +kernel
theorem d_X_about_0 : decode prog_1_method_15_code 0 = .ok (.aload_n 0, 1) := by decide +kernel
theorem d_X_about_1 : decode prog_1_method_15_code 1 = .ok (.iload_n 1, 1) := by decide +kernel
theorem d_X_about_2 : decode prog_1_method_15_code 2 = .ok (.invokevirtual 173, 3) := by decide +kernel
theorem d_X_about_5 : decode prog_1_method_15_code 5 = .ok (.astore_n 3, 1) := by decide +kernel
theorem d_X_about_6 : decode prog_1_method_15_code 6 = .ok (.iload_n 2, 1) := by decide +kernel
theorem d_X_about_7 : decode prog_1_method_15_code 7 = .ok (.tableswitch 54 0 2 #[25, 30, 43], 25) := by decide +kernel
theorem d_X_about_32 : decode prog_1_method_15_code 32 = .ok (.aload_n 3, 1) := by decide +kernel
theorem d_X_about_33 : decode prog_1_method_15_code 33 = .ok (.getfield 197, 3) := by decide +kernel
theorem d_X_about_36 : decode prog_1_method_15_code 36 = .ok (.ireturn, 1) := by decide +kernel
theorem d_X_about_37 : decode prog_1_method_15_code 37 = .ok (.aload_n 0, 1) := by decide +kernel
theorem d_X_about_38 : decode prog_1_method_15_code 38 = .ok (.aload_n 0, 1) := by decide +kernel
theorem d_X_about_39 : decode prog_1_method_15_code 39 = .ok (.aload_n 3, 1) := by decide +kernel
theorem d_X_about_40 : decode prog_1_method_15_code 40 = .ok (.invokevirtual 176, 3) := by decide +kernel
theorem d_X_about_43 : decode prog_1_method_15_code 43 = .ok (.invokevirtual 187, 3) := by decide +kernel
theorem d_X_about_46 : decode prog_1_method_15_code 46 = .ok (.invokestatic 191, 3) := by decide +kernel
theorem d_X_about_49 : decode prog_1_method_15_code 49 = .ok (.ireturn, 1) := by decide +kernel
theorem d_X_about_50 : decode prog_1_method_15_code 50 = .ok (.aload_n 0, 1) := by decide +kernel
theorem d_X_about_51 : decode prog_1_method_15_code 51 = .ok (.aload_n 0, 1) := by decide +kernel
theorem d_X_about_52 : decode prog_1_method_15_code 52 = .ok (.aload_n 3, 1) := by decide +kernel
theorem d_X_about_53 : decode prog_1_method_15_code 53 = .ok (.invokevirtual 176, 3) := by decide +kernel
theorem d_X_about_56 : decode prog_1_method_15_code 56 = .ok (.invokevirtual 187, 3) := by decide +kernel
theorem d_X_about_59 : decode prog_1_method_15_code 59 = .ok (.l2i, 1) := by decide +kernel
theorem d_X_about_60 : decode prog_1_method_15_code 60 = .ok (.ireturn, 1) := by decide +kernel
theorem d_X_about_61 : decode prog_1_method_15_code 61 = .ok (.new 52, 3) := by decide +kernel
theorem d_X_about_64 : decode prog_1_method_15_code 64 = .ok (.dup, 1) := by decide +kernel
theorem d_X_about_65 : decode prog_1_method_15_code 65 = .ok (.ldc 248, 2) := by decide +kernel
theorem d_X_about_67 : decode prog_1_method_15_code 67 = .ok (.invokespecial 56, 3) := by decide +kernel
theorem d_X_about_70 : decode prog_1_method_15_code 70 = .ok (.athrow, 1) := by decide +kernel
theorem d_X_drop_0 : decode prog_1_method_16_code 0 = .ok (.aload_n 0, 1) := by decide +kernel
theorem d_X_drop_1 : decode prog_1_method_16_code 1 = .ok (.iload_n 1, 1) := by decide +kernel
theorem d_X_drop_2 : decode prog_1_method_16_code 2 = .ok (.invokevirtual 139, 3) := by decide +kernel
theorem d_X_drop_5 : decode prog_1_method_16_code 5 = .ok (.astore_n 2, 1) := by decide +kernel
theorem d_X_drop_6 : decode prog_1_method_16_code 6 = .ok (.aload_n 2, 1) := by decide +kernel
theorem d_X_drop_7 : decode prog_1_method_16_code 7 = .ok (.getfield 197, 3) := by decide +kernel
theorem d_X_drop_10 : decode prog_1_method_16_code 10 = .ok (.istore_n 3, 1) := by decide +kernel
theorem d_X_drop_11 : decode prog_1_method_16_code 11 = .ok (.aload_n 2, 1) := by decide +kernel
theorem d_X_drop_12 : decode prog_1_method_16_code 12 = .ok (.iconst 0, 1) := by decide +kernel
theorem d_X_drop_13 : decode prog_1_method_16_code 13 = .ok (.putfield 197, 3) := by decide +kernel
theorem d_X_drop_16 : decode prog_1_method_16_code 16 = .ok (.iload_n 3, 1) := by decide +kernel
theorem d_X_drop_17 : decode prog_1_method_16_code 17 = .ok (.ireturn, 1) := by decide +kernel
theorem d_X_count_0 : decode prog_1_method_17_code 0 = .ok (.iload_n 1, 1) := by decide +kernel
theorem d_X_count_1 : decode prog_1_method_17_code 1 = .ok (.tableswitch 116 0 7 #[47, 55, 63, 71, 79, 95, 103, 108], 47) := by decide +kernel
theorem d_X_count_48 : decode prog_1_method_17_code 48 = .ok (.aload_n 0, 1) := by decide +kernel
theorem d_X_count_49 : decode prog_1_method_17_code 49 = .ok (.getfield 12, 3) := by decide +kernel
theorem d_X_count_52 : decode prog_1_method_17_code 52 = .ok (.getfield 250, 3) := by decide +kernel
theorem d_X_count_55 : decode prog_1_method_17_code 55 = .ok (.ireturn, 1) := by decide +kernel
theorem d_X_count_56 : decode prog_1_method_17_code 56 = .ok (.aload_n 0, 1) := by decide +kernel
theorem d_X_count_57 : decode prog_1_method_17_code 57 = .ok (.getfield 12, 3) := by decide +kernel
theorem d_X_count_60 : decode prog_1_method_17_code 60 = .ok (.getfield 78, 3) := by decide +kernel
theorem d_X_count_63 : decode prog_1_method_17_code 63 = .ok (.ireturn, 1) := by decide +kernel
theorem d_X_count_64 : decode prog_1_method_17_code 64 = .ok (.aload_n 0, 1) := by decide +kernel
theorem d_X_count_65 : decode prog_1_method_17_code 65 = .ok (.getfield 12, 3) := by decide +kernel
theorem d_X_count_68 : decode prog_1_method_17_code 68 = .ok (.getfield 117, 3) := by decide +kernel
theorem d_X_count_71 : decode prog_1_method_17_code 71 = .ok (.ireturn, 1) := by decide +kernel
theorem d_X_count_72 : decode prog_1_method_17_code 72 = .ok (.aload_n 0, 1) := by decide +kernel
theorem d_X_count_73 : decode prog_1_method_17_code 73 = .ok (.getfield 12, 3) := by decide +kernel
theorem d_X_count_76 : decode prog_1_method_17_code 76 = .ok (.getfield 253, 3) := by decide +kernel
theorem d_X_count_79 : decode prog_1_method_17_code 79 = .ok (.ireturn, 1) := by decide +kernel
theorem d_X_count_80 : decode prog_1_method_17_code 80 = .ok (.aload_n 0, 1) := by decide +kernel
theorem d_X_count_81 : decode prog_1_method_17_code 81 = .ok (.getfield 26, 3) := by decide +kernel
theorem d_X_count_84 : decode prog_1_method_17_code 84 = .ok (.getfield 88, 3) := by decide +kernel
theorem d_X_count_87 : decode prog_1_method_17_code 87 = .ok (.ifCond .eq 7, 3) := by decide +kernel
theorem d_X_count_90 : decode prog_1_method_17_code 90 = .ok (.iconst 1, 1) := by decide +kernel
theorem d_X_count_91 : decode prog_1_method_17_code 91 = .ok (.goto 4, 3) := by decide +kernel
theorem d_X_count_94 : decode prog_1_method_17_code 94 = .ok (.iconst 0, 1) := by decide +kernel
theorem d_X_count_95 : decode prog_1_method_17_code 95 = .ok (.ireturn, 1) := by decide +kernel
theorem d_X_count_96 : decode prog_1_method_17_code 96 = .ok (.aload_n 0, 1) := by decide +kernel
theorem d_X_count_97 : decode prog_1_method_17_code 97 = .ok (.getfield 26, 3) := by decide +kernel
theorem d_X_count_100 : decode prog_1_method_17_code 100 = .ok (.getfield 107, 3) := by decide +kernel
theorem d_X_count_103 : decode prog_1_method_17_code 103 = .ok (.ireturn, 1) := by decide +kernel
theorem d_X_count_104 : decode prog_1_method_17_code 104 = .ok (.aload_n 0, 1) := by decide +kernel
theorem d_X_count_105 : decode prog_1_method_17_code 105 = .ok (.invokevirtual 256, 3) := by decide +kernel
theorem d_X_count_108 : decode prog_1_method_17_code 108 = .ok (.ireturn, 1) := by decide +kernel
theorem d_X_count_109 : decode prog_1_method_17_code 109 = .ok (.aload_n 0, 1) := by decide +kernel
theorem d_X_count_110 : decode prog_1_method_17_code 110 = .ok (.getfield 19, 3) := by decide +kernel
theorem d_X_count_113 : decode prog_1_method_17_code 113 = .ok (.invokevirtual 260, 3) := by decide +kernel
theorem d_X_count_116 : decode prog_1_method_17_code 116 = .ok (.ireturn, 1) := by decide +kernel
theorem d_X_count_117 : decode prog_1_method_17_code 117 = .ok (.iconst (-1), 1) := by decide +kernel
theorem d_X_count_118 : decode prog_1_method_17_code 118 = .ok (.ireturn, 1) := by decide +kernel
theorem d_X_plainAt_0 : decode prog_1_method_18_code 0 = .ok (.iload_n 1, 1) := by decide +kernel
theorem d_X_plainAt_1 : decode prog_1_method_18_code 1 = .ok (.ifCond .lt 9, 3) := by decide +kernel
theorem d_X_plainAt_4 : decode prog_1_method_18_code 4 = .ok (.iload_n 1, 1) := by decide +kernel
theorem d_X_plainAt_5 : decode prog_1_method_18_code 5 = .ok (.bipush 8, 2) := by decide +kernel
theorem d_X_plainAt_7 : decode prog_1_method_18_code 7 = .ok (.if_icmp .lt 14, 3) := by decide +kernel
theorem d_X_plainAt_10 : decode prog_1_method_18_code 10 = .ok (.new 243, 3) := by decide +kernel
theorem d_X_plainAt_13 : decode prog_1_method_18_code 13 = .ok (.dup, 1) := by decide +kernel
theorem d_X_plainAt_14 : decode prog_1_method_18_code 14 = .ok (.ldc_w 263, 3) := by decide +kernel
theorem d_X_plainAt_17 : decode prog_1_method_18_code 17 = .ok (.invokespecial 247, 3) := by decide +kernel
theorem d_X_plainAt_20 : decode prog_1_method_18_code 20 = .ok (.athrow, 1) := by decide +kernel
theorem d_X_plainAt_21 : decode prog_1_method_18_code 21 = .ok (.aload_n 0, 1) := by decide +kernel
theorem d_X_plainAt_22 : decode prog_1_method_18_code 22 = .ok (.getfield 32, 3) := by decide +kernel
theorem d_X_plainAt_25 : decode prog_1_method_18_code 25 = .ok (.iload_n 1, 1) := by decide +kernel
theorem d_X_plainAt_26 : decode prog_1_method_18_code 26 = .ok (.aaload, 1) := by decide +kernel
theorem d_X_plainAt_27 : decode prog_1_method_18_code 27 = .ok (.areturn, 1) := by decide +kernel
theorem d_X_placeAt_0 : decode prog_1_method_19_code 0 = .ok (.iload_n 1, 1) := by decide +kernel
theorem d_X_placeAt_1 : decode prog_1_method_19_code 1 = .ok (.ifCond .lt 9, 3) := by decide +kernel
theorem d_X_placeAt_4 : decode prog_1_method_19_code 4 = .ok (.iload_n 1, 1) := by decide +kernel
theorem d_X_placeAt_5 : decode prog_1_method_19_code 5 = .ok (.bipush 16, 2) := by decide +kernel
theorem d_X_placeAt_7 : decode prog_1_method_19_code 7 = .ok (.if_icmp .lt 14, 3) := by decide +kernel
theorem d_X_placeAt_10 : decode prog_1_method_19_code 10 = .ok (.new 243, 3) := by decide +kernel
theorem d_X_placeAt_13 : decode prog_1_method_19_code 13 = .ok (.dup, 1) := by decide +kernel
theorem d_X_placeAt_14 : decode prog_1_method_19_code 14 = .ok (.ldc_w 265, 3) := by decide +kernel
theorem d_X_placeAt_17 : decode prog_1_method_19_code 17 = .ok (.invokespecial 247, 3) := by decide +kernel
theorem d_X_placeAt_20 : decode prog_1_method_19_code 20 = .ok (.athrow, 1) := by decide +kernel
theorem d_X_placeAt_21 : decode prog_1_method_19_code 21 = .ok (.aload_n 0, 1) := by decide +kernel
theorem d_X_placeAt_22 : decode prog_1_method_19_code 22 = .ok (.getfield 37, 3) := by decide +kernel
theorem d_X_placeAt_25 : decode prog_1_method_19_code 25 = .ok (.iload_n 1, 1) := by decide +kernel
theorem d_X_placeAt_26 : decode prog_1_method_19_code 26 = .ok (.aaload, 1) := by decide +kernel
theorem d_X_placeAt_27 : decode prog_1_method_19_code 27 = .ok (.areturn, 1) := by decide +kernel
theorem d_X_takenAt_0 : decode prog_1_method_20_code 0 = .ok (.aload_n 0, 1) := by decide +kernel
theorem d_X_takenAt_1 : decode prog_1_method_20_code 1 = .ok (.iload_n 1, 1) := by decide +kernel
theorem d_X_takenAt_2 : decode prog_1_method_20_code 2 = .ok (.invokevirtual 139, 3) := by decide +kernel
theorem d_X_takenAt_5 : decode prog_1_method_20_code 5 = .ok (.astore_n 2, 1) := by decide +kernel
theorem d_X_takenAt_6 : decode prog_1_method_20_code 6 = .ok (.aload_n 2, 1) := by decide +kernel
theorem d_X_takenAt_7 : decode prog_1_method_20_code 7 = .ok (.getfield 197, 3) := by decide +kernel
theorem d_X_takenAt_10 : decode prog_1_method_20_code 10 = .ok (.ifCond .ne 14, 3) := by decide +kernel
theorem d_X_takenAt_13 : decode prog_1_method_20_code 13 = .ok (.new 243, 3) := by decide +kernel
theorem d_X_takenAt_16 : decode prog_1_method_20_code 16 = .ok (.dup, 1) := by decide +kernel
theorem d_X_takenAt_17 : decode prog_1_method_20_code 17 = .ok (.ldc_w 267, 3) := by decide +kernel
theorem d_X_takenAt_20 : decode prog_1_method_20_code 20 = .ok (.invokespecial 247, 3) := by decide +kernel
theorem d_X_takenAt_23 : decode prog_1_method_20_code 23 = .ok (.athrow, 1) := by decide +kernel
theorem d_X_takenAt_24 : decode prog_1_method_20_code 24 = .ok (.aload_n 2, 1) := by decide +kernel
theorem d_X_takenAt_25 : decode prog_1_method_20_code 25 = .ok (.areturn, 1) := by decide +kernel
theorem d_X_checkCoefficient_0 : decode prog_1_method_21_code 0 = .ok (.iload_n 1, 1) := by decide +kernel
theorem d_X_checkCoefficient_1 : decode prog_1_method_21_code 1 = .ok (.ifCond .lt 14, 3) := by decide +kernel
theorem d_X_checkCoefficient_4 : decode prog_1_method_21_code 4 = .ok (.iload_n 1, 1) := by decide +kernel
theorem d_X_checkCoefficient_5 : decode prog_1_method_21_code 5 = .ok (.aload_n 0, 1) := by decide +kernel
theorem d_X_checkCoefficient_6 : decode prog_1_method_21_code 6 = .ok (.getfield 12, 3) := by decide +kernel
theorem d_X_checkCoefficient_9 : decode prog_1_method_21_code 9 = .ok (.getfield 78, 3) := by decide +kernel
theorem d_X_checkCoefficient_12 : decode prog_1_method_21_code 12 = .ok (.if_icmp .lt 14, 3) := by decide +kernel
theorem d_X_checkCoefficient_15 : decode prog_1_method_21_code 15 = .ok (.new 243, 3) := by decide +kernel
theorem d_X_checkCoefficient_18 : decode prog_1_method_21_code 18 = .ok (.dup, 1) := by decide +kernel
theorem d_X_checkCoefficient_19 : decode prog_1_method_21_code 19 = .ok (.ldc_w 269, 3) := by decide +kernel
theorem d_X_checkCoefficient_22 : decode prog_1_method_21_code 22 = .ok (.invokespecial 247, 3) := by decide +kernel
theorem d_X_checkCoefficient_25 : decode prog_1_method_21_code 25 = .ok (.athrow, 1) := by decide +kernel
theorem d_X_checkCoefficient_26 : decode prog_1_method_21_code 26 = .ok (.return_, 1) := by decide +kernel
theorem d_X_emptyCiphers_0 : decode prog_1_method_22_code 0 = .ok (.iconst 0, 1) := by decide +kernel
theorem d_X_emptyCiphers_1 : decode prog_1_method_22_code 1 = .ok (.istore_n 1, 1) := by decide +kernel
theorem d_X_emptyCiphers_2 : decode prog_1_method_22_code 2 = .ok (.iload_n 1, 1) := by decide +kernel
theorem d_X_emptyCiphers_3 : decode prog_1_method_22_code 3 = .ok (.bipush 16, 2) := by decide +kernel
theorem d_X_emptyCiphers_5 : decode prog_1_method_22_code 5 = .ok (.if_icmp .ge 19, 3) := by decide +kernel
theorem d_X_emptyCiphers_8 : decode prog_1_method_22_code 8 = .ok (.aload_n 0, 1) := by decide +kernel
theorem d_X_emptyCiphers_9 : decode prog_1_method_22_code 9 = .ok (.getfield 37, 3) := by decide +kernel
theorem d_X_emptyCiphers_12 : decode prog_1_method_22_code 12 = .ok (.iload_n 1, 1) := by decide +kernel
theorem d_X_emptyCiphers_13 : decode prog_1_method_22_code 13 = .ok (.aaload, 1) := by decide +kernel
theorem d_X_emptyCiphers_14 : decode prog_1_method_22_code 14 = .ok (.iconst 0, 1) := by decide +kernel
theorem d_X_emptyCiphers_15 : decode prog_1_method_22_code 15 = .ok (.putfield 197, 3) := by decide +kernel
theorem d_X_emptyCiphers_18 : decode prog_1_method_22_code 18 = .ok (.iinc 1 1, 3) := by decide +kernel
theorem d_X_emptyCiphers_21 : decode prog_1_method_22_code 21 = .ok (.goto (-19), 3) := by decide +kernel
theorem d_X_emptyCiphers_24 : decode prog_1_method_22_code 24 = .ok (.return_, 1) := by decide +kernel
theorem d_X_fullCiphers_0 : decode prog_1_method_23_code 0 = .ok (.iconst 0, 1) := by decide +kernel
theorem d_X_fullCiphers_1 : decode prog_1_method_23_code 1 = .ok (.istore_n 1, 1) := by decide +kernel
theorem d_X_fullCiphers_2 : decode prog_1_method_23_code 2 = .ok (.iconst 0, 1) := by decide +kernel
theorem d_X_fullCiphers_3 : decode prog_1_method_23_code 3 = .ok (.istore_n 2, 1) := by decide +kernel
theorem d_X_fullCiphers_4 : decode prog_1_method_23_code 4 = .ok (.iload_n 2, 1) := by decide +kernel
theorem d_X_fullCiphers_5 : decode prog_1_method_23_code 5 = .ok (.bipush 16, 2) := by decide +kernel
theorem d_X_fullCiphers_7 : decode prog_1_method_23_code 7 = .ok (.if_icmp .ge 24, 3) := by decide +kernel
theorem d_X_fullCiphers_10 : decode prog_1_method_23_code 10 = .ok (.aload_n 0, 1) := by decide +kernel
theorem d_X_fullCiphers_11 : decode prog_1_method_23_code 11 = .ok (.getfield 37, 3) := by decide +kernel
theorem d_X_fullCiphers_14 : decode prog_1_method_23_code 14 = .ok (.iload_n 2, 1) := by decide +kernel
theorem d_X_fullCiphers_15 : decode prog_1_method_23_code 15 = .ok (.aaload, 1) := by decide +kernel
theorem d_X_fullCiphers_16 : decode prog_1_method_23_code 16 = .ok (.getfield 197, 3) := by decide +kernel
theorem d_X_fullCiphers_19 : decode prog_1_method_23_code 19 = .ok (.ifCond .le 6, 3) := by decide +kernel
theorem d_X_fullCiphers_22 : decode prog_1_method_23_code 22 = .ok (.iinc 1 1, 3) := by decide +kernel
theorem d_X_fullCiphers_25 : decode prog_1_method_23_code 25 = .ok (.iinc 2 1, 3) := by decide +kernel
theorem d_X_fullCiphers_28 : decode prog_1_method_23_code 28 = .ok (.goto (-24), 3) := by decide +kernel
theorem d_X_fullCiphers_31 : decode prog_1_method_23_code 31 = .ok (.iload_n 1, 1) := by decide +kernel
theorem d_X_fullCiphers_32 : decode prog_1_method_23_code 32 = .ok (.ireturn, 1) := by decide +kernel
theorem d_X_combine_0 : decode prog_1_method_24_code 0 = .ok (.aload_n 2, 1) := by decide +kernel
theorem d_X_combine_1 : decode prog_1_method_24_code 1 = .ok (.getfield 197, 3) := by decide +kernel
theorem d_X_combine_4 : decode prog_1_method_24_code 4 = .ok (.aload_n 3, 1) := by decide +kernel
theorem d_X_combine_5 : decode prog_1_method_24_code 5 = .ok (.getfield 197, 3) := by decide +kernel
theorem d_X_combine_8 : decode prog_1_method_24_code 8 = .ok (.invokestatic 271, 3) := by decide +kernel
theorem d_X_combine_11 : decode prog_1_method_24_code 11 = .ok (.istore 6, 2) := by decide +kernel
theorem d_X_combine_13 : decode prog_1_method_24_code 13 = .ok (.iconst 0, 1) := by decide +kernel
theorem d_X_combine_14 : decode prog_1_method_24_code 14 = .ok (.istore 7, 2) := by decide +kernel
theorem d_X_combine_16 : decode prog_1_method_24_code 16 = .ok (.iload 7, 2) := by decide +kernel
theorem d_X_combine_18 : decode prog_1_method_24_code 18 = .ok (.iload 6, 2) := by decide +kernel
theorem d_X_combine_20 : decode prog_1_method_24_code 20 = .ok (.if_icmp .ge 83, 3) := by decide +kernel
theorem d_X_combine_23 : decode prog_1_method_24_code 23 = .ok (.aload_n 0, 1) := by decide +kernel
theorem d_X_combine_24 : decode prog_1_method_24_code 24 = .ok (.getfield 42, 3) := by decide +kernel
theorem d_X_combine_27 : decode prog_1_method_24_code 27 = .ok (.iload 7, 2) := by decide +kernel
theorem d_X_combine_29 : decode prog_1_method_24_code 29 = .ok (.aaload, 1) := by decide +kernel
theorem d_X_combine_30 : decode prog_1_method_24_code 30 = .ok (.lconst 0, 1) := by decide +kernel
theorem d_X_combine_31 : decode prog_1_method_24_code 31 = .ok (.invokestatic 72, 3) := by decide +kernel
theorem d_X_combine_34 : decode prog_1_method_24_code 34 = .ok (.iload 7, 2) := by decide +kernel
theorem d_X_combine_36 : decode prog_1_method_24_code 36 = .ok (.aload_n 2, 1) := by decide +kernel
theorem d_X_combine_37 : decode prog_1_method_24_code 37 = .ok (.getfield 197, 3) := by decide +kernel
theorem d_X_combine_40 : decode prog_1_method_24_code 40 = .ok (.if_icmp .ge 25, 3) := by decide +kernel
theorem d_X_combine_43 : decode prog_1_method_24_code 43 = .ok (.aload_n 0, 1) := by decide +kernel
theorem d_X_combine_44 : decode prog_1_method_24_code 44 = .ok (.getfield 12, 3) := by decide +kernel
theorem d_X_combine_47 : decode prog_1_method_24_code 47 = .ok (.aload_n 0, 1) := by decide +kernel
theorem d_X_combine_48 : decode prog_1_method_24_code 48 = .ok (.getfield 42, 3) := by decide +kernel
theorem d_X_combine_51 : decode prog_1_method_24_code 51 = .ok (.iload 7, 2) := by decide +kernel
theorem d_X_combine_53 : decode prog_1_method_24_code 53 = .ok (.aaload, 1) := by decide +kernel
theorem d_X_combine_54 : decode prog_1_method_24_code 54 = .ok (.aload_n 2, 1) := by decide +kernel
theorem d_X_combine_55 : decode prog_1_method_24_code 55 = .ok (.getfield 221, 3) := by decide +kernel
theorem d_X_combine_58 : decode prog_1_method_24_code 58 = .ok (.iload 7, 2) := by decide +kernel
theorem d_X_combine_60 : decode prog_1_method_24_code 60 = .ok (.aaload, 1) := by decide +kernel
theorem d_X_combine_61 : decode prog_1_method_24_code 61 = .ok (.lconst 1, 1) := by decide +kernel
theorem d_X_combine_62 : decode prog_1_method_24_code 62 = .ok (.invokevirtual 162, 3) := by decide +kernel
theorem d_X_combine_65 : decode prog_1_method_24_code 65 = .ok (.iload 7, 2) := by decide +kernel
theorem d_X_combine_67 : decode prog_1_method_24_code 67 = .ok (.aload_n 3, 1) := by decide +kernel
theorem d_X_combine_68 : decode prog_1_method_24_code 68 = .ok (.getfield 197, 3) := by decide +kernel
theorem d_X_combine_71 : decode prog_1_method_24_code 71 = .ok (.if_icmp .ge 26, 3) := by decide +kernel
theorem d_X_combine_74 : decode prog_1_method_24_code 74 = .ok (.aload_n 0, 1) := by decide +kernel
theorem d_X_combine_75 : decode prog_1_method_24_code 75 = .ok (.getfield 12, 3) := by decide +kernel
theorem d_X_combine_78 : decode prog_1_method_24_code 78 = .ok (.aload_n 0, 1) := by decide +kernel
theorem d_X_combine_79 : decode prog_1_method_24_code 79 = .ok (.getfield 42, 3) := by decide +kernel
theorem d_X_combine_82 : decode prog_1_method_24_code 82 = .ok (.iload 7, 2) := by decide +kernel
theorem d_X_combine_84 : decode prog_1_method_24_code 84 = .ok (.aaload, 1) := by decide +kernel
theorem d_X_combine_85 : decode prog_1_method_24_code 85 = .ok (.aload_n 3, 1) := by decide +kernel
theorem d_X_combine_86 : decode prog_1_method_24_code 86 = .ok (.getfield 221, 3) := by decide +kernel
theorem d_X_combine_89 : decode prog_1_method_24_code 89 = .ok (.iload 7, 2) := by decide +kernel
theorem d_X_combine_91 : decode prog_1_method_24_code 91 = .ok (.aaload, 1) := by decide +kernel
theorem d_X_combine_92 : decode prog_1_method_24_code 92 = .ok (.lload 4, 2) := by decide +kernel
theorem d_X_combine_94 : decode prog_1_method_24_code 94 = .ok (.invokevirtual 162, 3) := by decide +kernel
theorem d_X_combine_97 : decode prog_1_method_24_code 97 = .ok (.iinc 7 1, 3) := by decide +kernel
theorem d_X_combine_100 : decode prog_1_method_24_code 100 = .ok (.goto (-84), 3) := by decide +kernel
theorem d_X_combine_103 : decode prog_1_method_24_code 103 = .ok (.aload_n 0, 1) := by decide +kernel
theorem d_X_combine_104 : decode prog_1_method_24_code 104 = .ok (.aload_n 1, 1) := by decide +kernel
theorem d_X_combine_105 : decode prog_1_method_24_code 105 = .ok (.iload 6, 2) := by decide +kernel
theorem d_X_combine_107 : decode prog_1_method_24_code 107 = .ok (.invokevirtual 274, 3) := by decide +kernel
theorem d_X_combine_110 : decode prog_1_method_24_code 110 = .ok (.return_, 1) := by decide +kernel
theorem d_X_multiply_0 : decode prog_1_method_25_code 0 = .ok (.aload_n 0, 1) := by decide +kernel
theorem d_X_multiply_1 : decode prog_1_method_25_code 1 = .ok (.getfield 12, 3) := by decide +kernel
theorem d_X_multiply_4 : decode prog_1_method_25_code 4 = .ok (.aload_n 0, 1) := by decide +kernel
theorem d_X_multiply_5 : decode prog_1_method_25_code 5 = .ok (.getfield 45, 3) := by decide +kernel
theorem d_X_multiply_8 : decode prog_1_method_25_code 8 = .ok (.iconst 0, 1) := by decide +kernel
theorem d_X_multiply_9 : decode prog_1_method_25_code 9 = .ok (.aaload, 1) := by decide +kernel
theorem d_X_multiply_10 : decode prog_1_method_25_code 10 = .ok (.aload_n 2, 1) := by decide +kernel
theorem d_X_multiply_11 : decode prog_1_method_25_code 11 = .ok (.getfield 221, 3) := by decide +kernel
theorem d_X_multiply_14 : decode prog_1_method_25_code 14 = .ok (.iconst 0, 1) := by decide +kernel
theorem d_X_multiply_15 : decode prog_1_method_25_code 15 = .ok (.aaload, 1) := by decide +kernel
theorem d_X_multiply_16 : decode prog_1_method_25_code 16 = .ok (.invokevirtual 278, 3) := by decide +kernel
theorem d_X_multiply_19 : decode prog_1_method_25_code 19 = .ok (.aload_n 0, 1) := by decide +kernel
theorem d_X_multiply_20 : decode prog_1_method_25_code 20 = .ok (.getfield 12, 3) := by decide +kernel
theorem d_X_multiply_23 : decode prog_1_method_25_code 23 = .ok (.aload_n 0, 1) := by decide +kernel
theorem d_X_multiply_24 : decode prog_1_method_25_code 24 = .ok (.getfield 45, 3) := by decide +kernel
theorem d_X_multiply_27 : decode prog_1_method_25_code 27 = .ok (.iconst 1, 1) := by decide +kernel
theorem d_X_multiply_28 : decode prog_1_method_25_code 28 = .ok (.aaload, 1) := by decide +kernel
theorem d_X_multiply_29 : decode prog_1_method_25_code 29 = .ok (.aload_n 2, 1) := by decide +kernel
theorem d_X_multiply_30 : decode prog_1_method_25_code 30 = .ok (.getfield 221, 3) := by decide +kernel
theorem d_X_multiply_33 : decode prog_1_method_25_code 33 = .ok (.iconst 1, 1) := by decide +kernel
theorem d_X_multiply_34 : decode prog_1_method_25_code 34 = .ok (.aaload, 1) := by decide +kernel
theorem d_X_multiply_35 : decode prog_1_method_25_code 35 = .ok (.invokevirtual 278, 3) := by decide +kernel
theorem d_X_multiply_38 : decode prog_1_method_25_code 38 = .ok (.aload_n 0, 1) := by decide +kernel
theorem d_X_multiply_39 : decode prog_1_method_25_code 39 = .ok (.getfield 12, 3) := by decide +kernel
theorem d_X_multiply_42 : decode prog_1_method_25_code 42 = .ok (.aload_n 0, 1) := by decide +kernel
theorem d_X_multiply_43 : decode prog_1_method_25_code 43 = .ok (.getfield 45, 3) := by decide +kernel
theorem d_X_multiply_46 : decode prog_1_method_25_code 46 = .ok (.iconst 2, 1) := by decide +kernel
theorem d_X_multiply_47 : decode prog_1_method_25_code 47 = .ok (.aaload, 1) := by decide +kernel
theorem d_X_multiply_48 : decode prog_1_method_25_code 48 = .ok (.aload_n 3, 1) := by decide +kernel
theorem d_X_multiply_49 : decode prog_1_method_25_code 49 = .ok (.getfield 221, 3) := by decide +kernel
theorem d_X_multiply_52 : decode prog_1_method_25_code 52 = .ok (.iconst 0, 1) := by decide +kernel
theorem d_X_multiply_53 : decode prog_1_method_25_code 53 = .ok (.aaload, 1) := by decide +kernel
theorem d_X_multiply_54 : decode prog_1_method_25_code 54 = .ok (.invokevirtual 278, 3) := by decide +kernel
theorem d_X_multiply_57 : decode prog_1_method_25_code 57 = .ok (.aload_n 0, 1) := by decide +kernel
theorem d_X_multiply_58 : decode prog_1_method_25_code 58 = .ok (.getfield 12, 3) := by decide +kernel
theorem d_X_multiply_61 : decode prog_1_method_25_code 61 = .ok (.aload_n 0, 1) := by decide +kernel
theorem d_X_multiply_62 : decode prog_1_method_25_code 62 = .ok (.getfield 45, 3) := by decide +kernel
theorem d_X_multiply_65 : decode prog_1_method_25_code 65 = .ok (.iconst 3, 1) := by decide +kernel
theorem d_X_multiply_66 : decode prog_1_method_25_code 66 = .ok (.aaload, 1) := by decide +kernel
theorem d_X_multiply_67 : decode prog_1_method_25_code 67 = .ok (.aload_n 3, 1) := by decide +kernel
theorem d_X_multiply_68 : decode prog_1_method_25_code 68 = .ok (.getfield 221, 3) := by decide +kernel
theorem d_X_multiply_71 : decode prog_1_method_25_code 71 = .ok (.iconst 1, 1) := by decide +kernel
theorem d_X_multiply_72 : decode prog_1_method_25_code 72 = .ok (.aaload, 1) := by decide +kernel
theorem d_X_multiply_73 : decode prog_1_method_25_code 73 = .ok (.invokevirtual 278, 3) := by decide +kernel
theorem d_X_multiply_76 : decode prog_1_method_25_code 76 = .ok (.iconst 0, 1) := by decide +kernel
theorem d_X_multiply_77 : decode prog_1_method_25_code 77 = .ok (.istore 4, 2) := by decide +kernel
theorem d_X_multiply_79 : decode prog_1_method_25_code 79 = .ok (.iload 4, 2) := by decide +kernel
theorem d_X_multiply_81 : decode prog_1_method_25_code 81 = .ok (.iconst 3, 1) := by decide +kernel
theorem d_X_multiply_82 : decode prog_1_method_25_code 82 = .ok (.if_icmp .ge 20, 3) := by decide +kernel
theorem d_X_multiply_85 : decode prog_1_method_25_code 85 = .ok (.aload_n 0, 1) := by decide +kernel
theorem d_X_multiply_86 : decode prog_1_method_25_code 86 = .ok (.getfield 42, 3) := by decide +kernel
theorem d_X_multiply_89 : decode prog_1_method_25_code 89 = .ok (.iload 4, 2) := by decide +kernel
theorem d_X_multiply_91 : decode prog_1_method_25_code 91 = .ok (.aaload, 1) := by decide +kernel
theorem d_X_multiply_92 : decode prog_1_method_25_code 92 = .ok (.lconst 0, 1) := by decide +kernel
theorem d_X_multiply_93 : decode prog_1_method_25_code 93 = .ok (.invokestatic 72, 3) := by decide +kernel
theorem d_X_multiply_96 : decode prog_1_method_25_code 96 = .ok (.iinc 4 1, 3) := by decide +kernel
theorem d_X_multiply_99 : decode prog_1_method_25_code 99 = .ok (.goto (-20), 3) := by decide +kernel
theorem d_X_multiply_102 : decode prog_1_method_25_code 102 = .ok (.aload_n 0, 1) := by decide +kernel
theorem d_X_multiply_103 : decode prog_1_method_25_code 103 = .ok (.getfield 12, 3) := by decide +kernel
theorem d_X_multiply_106 : decode prog_1_method_25_code 106 = .ok (.aload_n 0, 1) := by decide +kernel
theorem d_X_multiply_107 : decode prog_1_method_25_code 107 = .ok (.getfield 42, 3) := by decide +kernel
theorem d_X_multiply_110 : decode prog_1_method_25_code 110 = .ok (.iconst 0, 1) := by decide +kernel
theorem d_X_multiply_111 : decode prog_1_method_25_code 111 = .ok (.aaload, 1) := by decide +kernel
theorem d_X_multiply_112 : decode prog_1_method_25_code 112 = .ok (.aload_n 0, 1) := by decide +kernel
theorem d_X_multiply_113 : decode prog_1_method_25_code 113 = .ok (.getfield 45, 3) := by decide +kernel
theorem d_X_multiply_116 : decode prog_1_method_25_code 116 = .ok (.iconst 0, 1) := by decide +kernel
theorem d_X_multiply_117 : decode prog_1_method_25_code 117 = .ok (.aaload, 1) := by decide +kernel
theorem d_X_multiply_118 : decode prog_1_method_25_code 118 = .ok (.aload_n 0, 1) := by decide +kernel
theorem d_X_multiply_119 : decode prog_1_method_25_code 119 = .ok (.getfield 45, 3) := by decide +kernel
theorem d_X_multiply_122 : decode prog_1_method_25_code 122 = .ok (.iconst 2, 1) := by decide +kernel
theorem d_X_multiply_123 : decode prog_1_method_25_code 123 = .ok (.aaload, 1) := by decide +kernel
theorem d_X_multiply_124 : decode prog_1_method_25_code 124 = .ok (.invokevirtual 154, 3) := by decide +kernel
theorem d_X_multiply_127 : decode prog_1_method_25_code 127 = .ok (.aload_n 0, 1) := by decide +kernel
theorem d_X_multiply_128 : decode prog_1_method_25_code 128 = .ok (.getfield 12, 3) := by decide +kernel
theorem d_X_multiply_131 : decode prog_1_method_25_code 131 = .ok (.aload_n 0, 1) := by decide +kernel
theorem d_X_multiply_132 : decode prog_1_method_25_code 132 = .ok (.getfield 42, 3) := by decide +kernel
theorem d_X_multiply_135 : decode prog_1_method_25_code 135 = .ok (.iconst 1, 1) := by decide +kernel
theorem d_X_multiply_136 : decode prog_1_method_25_code 136 = .ok (.aaload, 1) := by decide +kernel
theorem d_X_multiply_137 : decode prog_1_method_25_code 137 = .ok (.aload_n 0, 1) := by decide +kernel
theorem d_X_multiply_138 : decode prog_1_method_25_code 138 = .ok (.getfield 45, 3) := by decide +kernel
theorem d_X_multiply_141 : decode prog_1_method_25_code 141 = .ok (.iconst 0, 1) := by decide +kernel
theorem d_X_multiply_142 : decode prog_1_method_25_code 142 = .ok (.aaload, 1) := by decide +kernel
theorem d_X_multiply_143 : decode prog_1_method_25_code 143 = .ok (.aload_n 0, 1) := by decide +kernel
theorem d_X_multiply_144 : decode prog_1_method_25_code 144 = .ok (.getfield 45, 3) := by decide +kernel
theorem d_X_multiply_147 : decode prog_1_method_25_code 147 = .ok (.iconst 3, 1) := by decide +kernel
theorem d_X_multiply_148 : decode prog_1_method_25_code 148 = .ok (.aaload, 1) := by decide +kernel
theorem d_X_multiply_149 : decode prog_1_method_25_code 149 = .ok (.invokevirtual 154, 3) := by decide +kernel
theorem d_X_multiply_152 : decode prog_1_method_25_code 152 = .ok (.aload_n 0, 1) := by decide +kernel
theorem d_X_multiply_153 : decode prog_1_method_25_code 153 = .ok (.getfield 12, 3) := by decide +kernel
theorem d_X_multiply_156 : decode prog_1_method_25_code 156 = .ok (.aload_n 0, 1) := by decide +kernel
theorem d_X_multiply_157 : decode prog_1_method_25_code 157 = .ok (.getfield 42, 3) := by decide +kernel
theorem d_X_multiply_160 : decode prog_1_method_25_code 160 = .ok (.iconst 1, 1) := by decide +kernel
theorem d_X_multiply_161 : decode prog_1_method_25_code 161 = .ok (.aaload, 1) := by decide +kernel
theorem d_X_multiply_162 : decode prog_1_method_25_code 162 = .ok (.aload_n 0, 1) := by decide +kernel
theorem d_X_multiply_163 : decode prog_1_method_25_code 163 = .ok (.getfield 45, 3) := by decide +kernel
theorem d_X_multiply_166 : decode prog_1_method_25_code 166 = .ok (.iconst 1, 1) := by decide +kernel
theorem d_X_multiply_167 : decode prog_1_method_25_code 167 = .ok (.aaload, 1) := by decide +kernel
theorem d_X_multiply_168 : decode prog_1_method_25_code 168 = .ok (.aload_n 0, 1) := by decide +kernel
theorem d_X_multiply_169 : decode prog_1_method_25_code 169 = .ok (.getfield 45, 3) := by decide +kernel
theorem d_X_multiply_172 : decode prog_1_method_25_code 172 = .ok (.iconst 2, 1) := by decide +kernel
theorem d_X_multiply_173 : decode prog_1_method_25_code 173 = .ok (.aaload, 1) := by decide +kernel
theorem d_X_multiply_174 : decode prog_1_method_25_code 174 = .ok (.invokevirtual 154, 3) := by decide +kernel
theorem d_X_multiply_177 : decode prog_1_method_25_code 177 = .ok (.aload_n 0, 1) := by decide +kernel
theorem d_X_multiply_178 : decode prog_1_method_25_code 178 = .ok (.getfield 12, 3) := by decide +kernel
theorem d_X_multiply_181 : decode prog_1_method_25_code 181 = .ok (.aload_n 0, 1) := by decide +kernel
theorem d_X_multiply_182 : decode prog_1_method_25_code 182 = .ok (.getfield 42, 3) := by decide +kernel
theorem d_X_multiply_185 : decode prog_1_method_25_code 185 = .ok (.iconst 2, 1) := by decide +kernel
theorem d_X_multiply_186 : decode prog_1_method_25_code 186 = .ok (.aaload, 1) := by decide +kernel
theorem d_X_multiply_187 : decode prog_1_method_25_code 187 = .ok (.aload_n 0, 1) := by decide +kernel
theorem d_X_multiply_188 : decode prog_1_method_25_code 188 = .ok (.getfield 45, 3) := by decide +kernel
theorem d_X_multiply_191 : decode prog_1_method_25_code 191 = .ok (.iconst 1, 1) := by decide +kernel
theorem d_X_multiply_192 : decode prog_1_method_25_code 192 = .ok (.aaload, 1) := by decide +kernel
theorem d_X_multiply_193 : decode prog_1_method_25_code 193 = .ok (.aload_n 0, 1) := by decide +kernel
theorem d_X_multiply_194 : decode prog_1_method_25_code 194 = .ok (.getfield 45, 3) := by decide +kernel
theorem d_X_multiply_197 : decode prog_1_method_25_code 197 = .ok (.iconst 3, 1) := by decide +kernel
theorem d_X_multiply_198 : decode prog_1_method_25_code 198 = .ok (.aaload, 1) := by decide +kernel
theorem d_X_multiply_199 : decode prog_1_method_25_code 199 = .ok (.invokevirtual 154, 3) := by decide +kernel
theorem d_X_multiply_202 : decode prog_1_method_25_code 202 = .ok (.iconst 0, 1) := by decide +kernel
theorem d_X_multiply_203 : decode prog_1_method_25_code 203 = .ok (.istore 4, 2) := by decide +kernel
theorem d_X_multiply_205 : decode prog_1_method_25_code 205 = .ok (.iload 4, 2) := by decide +kernel
theorem d_X_multiply_207 : decode prog_1_method_25_code 207 = .ok (.iconst 3, 1) := by decide +kernel
theorem d_X_multiply_208 : decode prog_1_method_25_code 208 = .ok (.if_icmp .ge 57, 3) := by decide +kernel
theorem d_X_multiply_211 : decode prog_1_method_25_code 211 = .ok (.iconst 0, 1) := by decide +kernel
theorem d_X_multiply_212 : decode prog_1_method_25_code 212 = .ok (.istore 5, 2) := by decide +kernel
theorem d_X_multiply_214 : decode prog_1_method_25_code 214 = .ok (.iload 5, 2) := by decide +kernel
theorem d_X_multiply_216 : decode prog_1_method_25_code 216 = .ok (.aload_n 0, 1) := by decide +kernel
theorem d_X_multiply_217 : decode prog_1_method_25_code 217 = .ok (.getfield 12, 3) := by decide +kernel
theorem d_X_multiply_220 : decode prog_1_method_25_code 220 = .ok (.getfield 78, 3) := by decide +kernel
theorem d_X_multiply_223 : decode prog_1_method_25_code 223 = .ok (.if_icmp .ge 36, 3) := by decide +kernel
theorem d_X_multiply_226 : decode prog_1_method_25_code 226 = .ok (.aload_n 0, 1) := by decide +kernel
theorem d_X_multiply_227 : decode prog_1_method_25_code 227 = .ok (.getfield 42, 3) := by decide +kernel
theorem d_X_multiply_230 : decode prog_1_method_25_code 230 = .ok (.iload 4, 2) := by decide +kernel
theorem d_X_multiply_232 : decode prog_1_method_25_code 232 = .ok (.aaload, 1) := by decide +kernel
theorem d_X_multiply_233 : decode prog_1_method_25_code 233 = .ok (.iload 5, 2) := by decide +kernel
theorem d_X_multiply_235 : decode prog_1_method_25_code 235 = .ok (.aload_n 0, 1) := by decide +kernel
theorem d_X_multiply_236 : decode prog_1_method_25_code 236 = .ok (.getfield 12, 3) := by decide +kernel
theorem d_X_multiply_239 : decode prog_1_method_25_code 239 = .ok (.aload_n 0, 1) := by decide +kernel
theorem d_X_multiply_240 : decode prog_1_method_25_code 240 = .ok (.getfield 42, 3) := by decide +kernel
theorem d_X_multiply_243 : decode prog_1_method_25_code 243 = .ok (.iload 4, 2) := by decide +kernel
theorem d_X_multiply_245 : decode prog_1_method_25_code 245 = .ok (.aaload, 1) := by decide +kernel
theorem d_X_multiply_246 : decode prog_1_method_25_code 246 = .ok (.iload 5, 2) := by decide +kernel
theorem d_X_multiply_248 : decode prog_1_method_25_code 248 = .ok (.laload, 1) := by decide +kernel
theorem d_X_multiply_249 : decode prog_1_method_25_code 249 = .ok (.invokevirtual 180, 3) := by decide +kernel
theorem d_X_multiply_252 : decode prog_1_method_25_code 252 = .ok (.lastore, 1) := by decide +kernel
theorem d_X_multiply_253 : decode prog_1_method_25_code 253 = .ok (.iinc 5 1, 3) := by decide +kernel
theorem d_X_multiply_256 : decode prog_1_method_25_code 256 = .ok (.goto (-42), 3) := by decide +kernel
theorem d_X_multiply_259 : decode prog_1_method_25_code 259 = .ok (.iinc 4 1, 3) := by decide +kernel
theorem d_X_multiply_262 : decode prog_1_method_25_code 262 = .ok (.goto (-57), 3) := by decide +kernel
theorem d_X_multiply_265 : decode prog_1_method_25_code 265 = .ok (.aload_n 0, 1) := by decide +kernel
theorem d_X_multiply_266 : decode prog_1_method_25_code 266 = .ok (.aload_n 1, 1) := by decide +kernel
theorem d_X_multiply_267 : decode prog_1_method_25_code 267 = .ok (.iconst 3, 1) := by decide +kernel
theorem d_X_multiply_268 : decode prog_1_method_25_code 268 = .ok (.invokevirtual 274, 3) := by decide +kernel
theorem d_X_multiply_271 : decode prog_1_method_25_code 271 = .ok (.return_, 1) := by decide +kernel
theorem d_X_addPlain_0 : decode prog_1_method_26_code 0 = .ok (.iconst 0, 1) := by decide +kernel
theorem d_X_addPlain_1 : decode prog_1_method_26_code 1 = .ok (.istore 4, 2) := by decide +kernel
theorem d_X_addPlain_3 : decode prog_1_method_26_code 3 = .ok (.iload 4, 2) := by decide +kernel
theorem d_X_addPlain_5 : decode prog_1_method_26_code 5 = .ok (.aload_n 2, 1) := by decide +kernel
theorem d_X_addPlain_6 : decode prog_1_method_26_code 6 = .ok (.getfield 197, 3) := by decide +kernel
theorem d_X_addPlain_9 : decode prog_1_method_26_code 9 = .ok (.if_icmp .ge 30, 3) := by decide +kernel
theorem d_X_addPlain_12 : decode prog_1_method_26_code 12 = .ok (.aload_n 0, 1) := by decide +kernel
theorem d_X_addPlain_13 : decode prog_1_method_26_code 13 = .ok (.getfield 12, 3) := by decide +kernel
theorem d_X_addPlain_16 : decode prog_1_method_26_code 16 = .ok (.aload_n 0, 1) := by decide +kernel
theorem d_X_addPlain_17 : decode prog_1_method_26_code 17 = .ok (.getfield 42, 3) := by decide +kernel
theorem d_X_addPlain_20 : decode prog_1_method_26_code 20 = .ok (.iload 4, 2) := by decide +kernel
theorem d_X_addPlain_22 : decode prog_1_method_26_code 22 = .ok (.aaload, 1) := by decide +kernel
theorem d_X_addPlain_23 : decode prog_1_method_26_code 23 = .ok (.aload_n 2, 1) := by decide +kernel
theorem d_X_addPlain_24 : decode prog_1_method_26_code 24 = .ok (.getfield 221, 3) := by decide +kernel
theorem d_X_addPlain_27 : decode prog_1_method_26_code 27 = .ok (.iload 4, 2) := by decide +kernel
theorem d_X_addPlain_29 : decode prog_1_method_26_code 29 = .ok (.aaload, 1) := by decide +kernel
theorem d_X_addPlain_30 : decode prog_1_method_26_code 30 = .ok (.invokevirtual 222, 3) := by decide +kernel
theorem d_X_addPlain_33 : decode prog_1_method_26_code 33 = .ok (.iinc 4 1, 3) := by decide +kernel
theorem d_X_addPlain_36 : decode prog_1_method_26_code 36 = .ok (.goto (-33), 3) := by decide +kernel
theorem d_X_addPlain_39 : decode prog_1_method_26_code 39 = .ok (.aload_n 0, 1) := by decide +kernel
theorem d_X_addPlain_40 : decode prog_1_method_26_code 40 = .ok (.getfield 12, 3) := by decide +kernel
theorem d_X_addPlain_43 : decode prog_1_method_26_code 43 = .ok (.aload_n 0, 1) := by decide +kernel
theorem d_X_addPlain_44 : decode prog_1_method_26_code 44 = .ok (.getfield 42, 3) := by decide +kernel
theorem d_X_addPlain_47 : decode prog_1_method_26_code 47 = .ok (.iconst 0, 1) := by decide +kernel
theorem d_X_addPlain_48 : decode prog_1_method_26_code 48 = .ok (.aaload, 1) := by decide +kernel
theorem d_X_addPlain_49 : decode prog_1_method_26_code 49 = .ok (.aload_n 3, 1) := by decide +kernel
theorem d_X_addPlain_50 : decode prog_1_method_26_code 50 = .ok (.aload_n 0, 1) := by decide +kernel
theorem d_X_addPlain_51 : decode prog_1_method_26_code 51 = .ok (.getfield 12, 3) := by decide +kernel
theorem d_X_addPlain_54 : decode prog_1_method_26_code 54 = .ok (.invokevirtual 158, 3) := by decide +kernel
theorem d_X_addPlain_57 : decode prog_1_method_26_code 57 = .ok (.invokevirtual 162, 3) := by decide +kernel
theorem d_X_addPlain_60 : decode prog_1_method_26_code 60 = .ok (.aload_n 0, 1) := by decide +kernel
theorem d_X_addPlain_61 : decode prog_1_method_26_code 61 = .ok (.aload_n 1, 1) := by decide +kernel
theorem d_X_addPlain_62 : decode prog_1_method_26_code 62 = .ok (.aload_n 2, 1) := by decide +kernel
theorem d_X_addPlain_63 : decode prog_1_method_26_code 63 = .ok (.getfield 197, 3) := by decide +kernel
theorem d_X_addPlain_66 : decode prog_1_method_26_code 66 = .ok (.invokevirtual 274, 3) := by decide +kernel
theorem d_X_addPlain_69 : decode prog_1_method_26_code 69 = .ok (.return_, 1) := by decide +kernel
theorem d_X_multiplyByPlain_0 : decode prog_1_method_27_code 0 = .ok (.iconst 0, 1) := by decide +kernel
theorem d_X_multiplyByPlain_1 : decode prog_1_method_27_code 1 = .ok (.istore 4, 2) := by decide +kernel
theorem d_X_multiplyByPlain_3 : decode prog_1_method_27_code 3 = .ok (.iload 4, 2) := by decide +kernel
theorem d_X_multiplyByPlain_5 : decode prog_1_method_27_code 5 = .ok (.aload_n 2, 1) := by decide +kernel
theorem d_X_multiplyByPlain_6 : decode prog_1_method_27_code 6 = .ok (.getfield 197, 3) := by decide +kernel
theorem d_X_multiplyByPlain_9 : decode prog_1_method_27_code 9 = .ok (.if_icmp .ge 42, 3) := by decide +kernel
theorem d_X_multiplyByPlain_12 : decode prog_1_method_27_code 12 = .ok (.aload_n 0, 1) := by decide +kernel
theorem d_X_multiplyByPlain_13 : decode prog_1_method_27_code 13 = .ok (.getfield 42, 3) := by decide +kernel
theorem d_X_multiplyByPlain_16 : decode prog_1_method_27_code 16 = .ok (.iload 4, 2) := by decide +kernel
theorem d_X_multiplyByPlain_18 : decode prog_1_method_27_code 18 = .ok (.aaload, 1) := by decide +kernel
theorem d_X_multiplyByPlain_19 : decode prog_1_method_27_code 19 = .ok (.lconst 0, 1) := by decide +kernel
theorem d_X_multiplyByPlain_20 : decode prog_1_method_27_code 20 = .ok (.invokestatic 72, 3) := by decide +kernel
theorem d_X_multiplyByPlain_23 : decode prog_1_method_27_code 23 = .ok (.aload_n 0, 1) := by decide +kernel
theorem d_X_multiplyByPlain_24 : decode prog_1_method_27_code 24 = .ok (.getfield 12, 3) := by decide +kernel
theorem d_X_multiplyByPlain_27 : decode prog_1_method_27_code 27 = .ok (.aload_n 0, 1) := by decide +kernel
theorem d_X_multiplyByPlain_28 : decode prog_1_method_27_code 28 = .ok (.getfield 42, 3) := by decide +kernel
theorem d_X_multiplyByPlain_31 : decode prog_1_method_27_code 31 = .ok (.iload 4, 2) := by decide +kernel
theorem d_X_multiplyByPlain_33 : decode prog_1_method_27_code 33 = .ok (.aaload, 1) := by decide +kernel
theorem d_X_multiplyByPlain_34 : decode prog_1_method_27_code 34 = .ok (.aload_n 3, 1) := by decide +kernel
theorem d_X_multiplyByPlain_35 : decode prog_1_method_27_code 35 = .ok (.aload_n 2, 1) := by decide +kernel
theorem d_X_multiplyByPlain_36 : decode prog_1_method_27_code 36 = .ok (.getfield 221, 3) := by decide +kernel
theorem d_X_multiplyByPlain_39 : decode prog_1_method_27_code 39 = .ok (.iload 4, 2) := by decide +kernel
theorem d_X_multiplyByPlain_41 : decode prog_1_method_27_code 41 = .ok (.aaload, 1) := by decide +kernel
theorem d_X_multiplyByPlain_42 : decode prog_1_method_27_code 42 = .ok (.invokevirtual 154, 3) := by decide +kernel
theorem d_X_multiplyByPlain_45 : decode prog_1_method_27_code 45 = .ok (.iinc 4 1, 3) := by decide +kernel
theorem d_X_multiplyByPlain_48 : decode prog_1_method_27_code 48 = .ok (.goto (-45), 3) := by decide +kernel
theorem d_X_multiplyByPlain_51 : decode prog_1_method_27_code 51 = .ok (.aload_n 0, 1) := by decide +kernel
theorem d_X_multiplyByPlain_52 : decode prog_1_method_27_code 52 = .ok (.aload_n 1, 1) := by decide +kernel
theorem d_X_multiplyByPlain_53 : decode prog_1_method_27_code 53 = .ok (.aload_n 2, 1) := by decide +kernel
theorem d_X_multiplyByPlain_54 : decode prog_1_method_27_code 54 = .ok (.getfield 197, 3) := by decide +kernel
theorem d_X_multiplyByPlain_57 : decode prog_1_method_27_code 57 = .ok (.invokevirtual 274, 3) := by decide +kernel
theorem d_X_multiplyByPlain_60 : decode prog_1_method_27_code 60 = .ok (.return_, 1) := by decide +kernel
theorem d_X_applySwitch_0 : decode prog_1_method_28_code 0 = .ok (.aload_n 0, 1) := by decide +kernel
theorem d_X_applySwitch_1 : decode prog_1_method_28_code 1 = .ok (.getfield 45, 3) := by decide +kernel
theorem d_X_applySwitch_4 : decode prog_1_method_28_code 4 = .ok (.iconst 1, 1) := by decide +kernel
theorem d_X_applySwitch_5 : decode prog_1_method_28_code 5 = .ok (.aaload, 1) := by decide +kernel
theorem d_X_applySwitch_6 : decode prog_1_method_28_code 6 = .ok (.astore_n 3, 1) := by decide +kernel
theorem d_X_applySwitch_7 : decode prog_1_method_28_code 7 = .ok (.iconst 0, 1) := by decide +kernel
theorem d_X_applySwitch_8 : decode prog_1_method_28_code 8 = .ok (.istore 4, 2) := by decide +kernel
theorem d_X_applySwitch_10 : decode prog_1_method_28_code 10 = .ok (.iload 4, 2) := by decide +kernel
theorem d_X_applySwitch_12 : decode prog_1_method_28_code 12 = .ok (.bipush 6, 2) := by decide +kernel
theorem d_X_applySwitch_14 : decode prog_1_method_28_code 14 = .ok (.if_icmp .ge 89, 3) := by decide +kernel
theorem d_X_applySwitch_17 : decode prog_1_method_28_code 17 = .ok (.iconst 0, 1) := by decide +kernel
theorem d_X_applySwitch_18 : decode prog_1_method_28_code 18 = .ok (.istore 5, 2) := by decide +kernel
theorem d_X_applySwitch_20 : decode prog_1_method_28_code 20 = .ok (.iload 5, 2) := by decide +kernel
theorem d_X_applySwitch_22 : decode prog_1_method_28_code 22 = .ok (.aload_n 0, 1) := by decide +kernel
theorem d_X_applySwitch_23 : decode prog_1_method_28_code 23 = .ok (.getfield 12, 3) := by decide +kernel
theorem d_X_applySwitch_26 : decode prog_1_method_28_code 26 = .ok (.getfield 78, 3) := by decide +kernel
theorem d_X_applySwitch_29 : decode prog_1_method_28_code 29 = .ok (.if_icmp .ge 26, 3) := by decide +kernel
theorem d_X_applySwitch_32 : decode prog_1_method_28_code 32 = .ok (.aload_n 3, 1) := by decide +kernel
theorem d_X_applySwitch_33 : decode prog_1_method_28_code 33 = .ok (.iload 5, 2) := by decide +kernel
theorem d_X_applySwitch_35 : decode prog_1_method_28_code 35 = .ok (.aload_n 2, 1) := by decide +kernel
theorem d_X_applySwitch_36 : decode prog_1_method_28_code 36 = .ok (.iload 5, 2) := by decide +kernel
theorem d_X_applySwitch_38 : decode prog_1_method_28_code 38 = .ok (.laload, 1) := by decide +kernel
theorem d_X_applySwitch_39 : decode prog_1_method_28_code 39 = .ok (.iconst 5, 1) := by decide +kernel
theorem d_X_applySwitch_40 : decode prog_1_method_28_code 40 = .ok (.iload 4, 2) := by decide +kernel
theorem d_X_applySwitch_42 : decode prog_1_method_28_code 42 = .ok (.imul, 1) := by decide +kernel
theorem d_X_applySwitch_43 : decode prog_1_method_28_code 43 = .ok (.lshr, 1) := by decide +kernel
theorem d_X_applySwitch_44 : decode prog_1_method_28_code 44 = .ok (.ldc2_w 281, 3) := by decide +kernel
theorem d_X_applySwitch_47 : decode prog_1_method_28_code 47 = .ok (.land, 1) := by decide +kernel
theorem d_X_applySwitch_48 : decode prog_1_method_28_code 48 = .ok (.lastore, 1) := by decide +kernel
theorem d_X_applySwitch_49 : decode prog_1_method_28_code 49 = .ok (.iinc 5 1, 3) := by decide +kernel
theorem d_X_applySwitch_52 : decode prog_1_method_28_code 52 = .ok (.goto (-32), 3) := by decide +kernel
theorem d_X_applySwitch_55 : decode prog_1_method_28_code 55 = .ok (.aload_n 0, 1) := by decide +kernel
theorem d_X_applySwitch_56 : decode prog_1_method_28_code 56 = .ok (.getfield 12, 3) := by decide +kernel
theorem d_X_applySwitch_59 : decode prog_1_method_28_code 59 = .ok (.aload_n 0, 1) := by decide +kernel
theorem d_X_applySwitch_60 : decode prog_1_method_28_code 60 = .ok (.getfield 42, 3) := by decide +kernel
theorem d_X_applySwitch_63 : decode prog_1_method_28_code 63 = .ok (.iconst 0, 1) := by decide +kernel
theorem d_X_applySwitch_64 : decode prog_1_method_28_code 64 = .ok (.aaload, 1) := by decide +kernel
theorem d_X_applySwitch_65 : decode prog_1_method_28_code 65 = .ok (.aload_n 3, 1) := by decide +kernel
theorem d_X_applySwitch_66 : decode prog_1_method_28_code 66 = .ok (.aload_n 1, 1) := by decide +kernel
theorem d_X_applySwitch_67 : decode prog_1_method_28_code 67 = .ok (.getfield 283, 3) := by decide +kernel
theorem d_X_applySwitch_70 : decode prog_1_method_28_code 70 = .ok (.iload 4, 2) := by decide +kernel
theorem d_X_applySwitch_72 : decode prog_1_method_28_code 72 = .ok (.aaload, 1) := by decide +kernel
theorem d_X_applySwitch_73 : decode prog_1_method_28_code 73 = .ok (.invokevirtual 154, 3) := by decide +kernel
theorem d_X_applySwitch_76 : decode prog_1_method_28_code 76 = .ok (.aload_n 0, 1) := by decide +kernel
theorem d_X_applySwitch_77 : decode prog_1_method_28_code 77 = .ok (.getfield 12, 3) := by decide +kernel
theorem d_X_applySwitch_80 : decode prog_1_method_28_code 80 = .ok (.aload_n 0, 1) := by decide +kernel
theorem d_X_applySwitch_81 : decode prog_1_method_28_code 81 = .ok (.getfield 42, 3) := by decide +kernel
theorem d_X_applySwitch_84 : decode prog_1_method_28_code 84 = .ok (.iconst 1, 1) := by decide +kernel
theorem d_X_applySwitch_85 : decode prog_1_method_28_code 85 = .ok (.aaload, 1) := by decide +kernel
theorem d_X_applySwitch_86 : decode prog_1_method_28_code 86 = .ok (.aload_n 3, 1) := by decide +kernel
theorem d_X_applySwitch_87 : decode prog_1_method_28_code 87 = .ok (.aload_n 1, 1) := by decide +kernel
theorem d_X_applySwitch_88 : decode prog_1_method_28_code 88 = .ok (.getfield 288, 3) := by decide +kernel
theorem d_X_applySwitch_91 : decode prog_1_method_28_code 91 = .ok (.iload 4, 2) := by decide +kernel
theorem d_X_applySwitch_93 : decode prog_1_method_28_code 93 = .ok (.aaload, 1) := by decide +kernel
theorem d_X_applySwitch_94 : decode prog_1_method_28_code 94 = .ok (.invokevirtual 154, 3) := by decide +kernel
theorem d_X_applySwitch_97 : decode prog_1_method_28_code 97 = .ok (.iinc 4 1, 3) := by decide +kernel
theorem d_X_applySwitch_100 : decode prog_1_method_28_code 100 = .ok (.goto (-90), 3) := by decide +kernel
theorem d_X_applySwitch_103 : decode prog_1_method_28_code 103 = .ok (.return_, 1) := by decide +kernel
theorem d_X_storeSums_0 : decode prog_1_method_29_code 0 = .ok (.iconst 0, 1) := by decide +kernel
theorem d_X_storeSums_1 : decode prog_1_method_29_code 1 = .ok (.istore_n 3, 1) := by decide +kernel
theorem d_X_storeSums_2 : decode prog_1_method_29_code 2 = .ok (.iload_n 3, 1) := by decide +kernel
theorem d_X_storeSums_3 : decode prog_1_method_29_code 3 = .ok (.iload_n 2, 1) := by decide +kernel
theorem d_X_storeSums_4 : decode prog_1_method_29_code 4 = .ok (.if_icmp .ge 28, 3) := by decide +kernel
theorem d_X_storeSums_7 : decode prog_1_method_29_code 7 = .ok (.aload_n 0, 1) := by decide +kernel
theorem d_X_storeSums_8 : decode prog_1_method_29_code 8 = .ok (.getfield 12, 3) := by decide +kernel
theorem d_X_storeSums_11 : decode prog_1_method_29_code 11 = .ok (.aload_n 1, 1) := by decide +kernel
theorem d_X_storeSums_12 : decode prog_1_method_29_code 12 = .ok (.getfield 221, 3) := by decide +kernel
theorem d_X_storeSums_15 : decode prog_1_method_29_code 15 = .ok (.iload_n 3, 1) := by decide +kernel
theorem d_X_storeSums_16 : decode prog_1_method_29_code 16 = .ok (.aaload, 1) := by decide +kernel
theorem d_X_storeSums_17 : decode prog_1_method_29_code 17 = .ok (.aload_n 0, 1) := by decide +kernel
theorem d_X_storeSums_18 : decode prog_1_method_29_code 18 = .ok (.getfield 42, 3) := by decide +kernel
theorem d_X_storeSums_21 : decode prog_1_method_29_code 21 = .ok (.iload_n 3, 1) := by decide +kernel
theorem d_X_storeSums_22 : decode prog_1_method_29_code 22 = .ok (.aaload, 1) := by decide +kernel
theorem d_X_storeSums_23 : decode prog_1_method_29_code 23 = .ok (.invokevirtual 291, 3) := by decide +kernel
theorem d_X_storeSums_26 : decode prog_1_method_29_code 26 = .ok (.iinc 3 1, 3) := by decide +kernel
theorem d_X_storeSums_29 : decode prog_1_method_29_code 29 = .ok (.goto (-27), 3) := by decide +kernel
theorem d_X_storeSums_32 : decode prog_1_method_29_code 32 = .ok (.aload_n 1, 1) := by decide +kernel
theorem d_X_storeSums_33 : decode prog_1_method_29_code 33 = .ok (.iload_n 2, 1) := by decide +kernel
theorem d_X_storeSums_34 : decode prog_1_method_29_code 34 = .ok (.putfield 197, 3) := by decide +kernel
theorem d_X_storeSums_37 : decode prog_1_method_29_code 37 = .ok (.return_, 1) := by decide +kernel
theorem d_X_storeTwoParts_0 : decode prog_1_method_30_code 0 = .ok (.aload_n 0, 1) := by decide +kernel
theorem d_X_storeTwoParts_1 : decode prog_1_method_30_code 1 = .ok (.aload_n 1, 1) := by decide +kernel
theorem d_X_storeTwoParts_2 : decode prog_1_method_30_code 2 = .ok (.iconst 2, 1) := by decide +kernel
theorem d_X_storeTwoParts_3 : decode prog_1_method_30_code 3 = .ok (.invokevirtual 274, 3) := by decide +kernel
theorem d_X_storeTwoParts_6 : decode prog_1_method_30_code 6 = .ok (.aload_n 0, 1) := by decide +kernel
theorem d_X_storeTwoParts_7 : decode prog_1_method_30_code 7 = .ok (.aload_n 0, 1) := by decide +kernel
theorem d_X_storeTwoParts_8 : decode prog_1_method_30_code 8 = .ok (.aload_n 1, 1) := by decide +kernel
theorem d_X_storeTwoParts_9 : decode prog_1_method_30_code 9 = .ok (.invokevirtual 176, 3) := by decide +kernel
theorem d_X_storeTwoParts_12 : decode prog_1_method_30_code 12 = .ok (.invokevirtual 187, 3) := by decide +kernel
theorem d_X_storeTwoParts_15 : decode prog_1_method_30_code 15 = .ok (.invokestatic 191, 3) := by decide +kernel
theorem d_X_storeTwoParts_18 : decode prog_1_method_30_code 18 = .ok (.ireturn, 1) := by decide +kernel
theorem d_X_phaseOf_0 : decode prog_1_method_31_code 0 = .ok (.aload_n 0, 1) := by decide +kernel
theorem d_X_phaseOf_1 : decode prog_1_method_31_code 1 = .ok (.getfield 45, 3) := by decide +kernel
theorem d_X_phaseOf_4 : decode prog_1_method_31_code 4 = .ok (.iconst 0, 1) := by decide +kernel
theorem d_X_phaseOf_5 : decode prog_1_method_31_code 5 = .ok (.aaload, 1) := by decide +kernel
theorem d_X_phaseOf_6 : decode prog_1_method_31_code 6 = .ok (.astore_n 2, 1) := by decide +kernel
theorem d_X_phaseOf_7 : decode prog_1_method_31_code 7 = .ok (.aload_n 0, 1) := by decide +kernel
theorem d_X_phaseOf_8 : decode prog_1_method_31_code 8 = .ok (.getfield 26, 3) := by decide +kernel
theorem d_X_phaseOf_11 : decode prog_1_method_31_code 11 = .ok (.aload_n 0, 1) := by decide +kernel
theorem d_X_phaseOf_12 : decode prog_1_method_31_code 12 = .ok (.getfield 12, 3) := by decide +kernel
theorem d_X_phaseOf_15 : decode prog_1_method_31_code 15 = .ok (.aload_n 2, 1) := by decide +kernel
theorem d_X_phaseOf_16 : decode prog_1_method_31_code 16 = .ok (.aload_n 1, 1) := by decide +kernel
theorem d_X_phaseOf_17 : decode prog_1_method_31_code 17 = .ok (.invokevirtual 294, 3) := by decide +kernel
theorem d_X_phaseOf_20 : decode prog_1_method_31_code 20 = .ok (.aload_n 2, 1) := by decide +kernel
theorem d_X_phaseOf_21 : decode prog_1_method_31_code 21 = .ok (.areturn, 1) := by decide +kernel
theorem d_X_noiseIn_0 : decode prog_1_method_32_code 0 = .ok (.lconst 0, 1) := by decide +kernel
theorem d_X_noiseIn_1 : decode prog_1_method_32_code 1 = .ok (.lstore_n 2, 1) := by decide +kernel
theorem d_X_noiseIn_2 : decode prog_1_method_32_code 2 = .ok (.iconst 0, 1) := by decide +kernel
theorem d_X_noiseIn_3 : decode prog_1_method_32_code 3 = .ok (.istore 4, 2) := by decide +kernel
theorem d_X_noiseIn_5 : decode prog_1_method_32_code 5 = .ok (.iload 4, 2) := by decide +kernel
theorem d_X_noiseIn_7 : decode prog_1_method_32_code 7 = .ok (.aload_n 0, 1) := by decide +kernel
theorem d_X_noiseIn_8 : decode prog_1_method_32_code 8 = .ok (.getfield 12, 3) := by decide +kernel
theorem d_X_noiseIn_11 : decode prog_1_method_32_code 11 = .ok (.getfield 78, 3) := by decide +kernel
theorem d_X_noiseIn_14 : decode prog_1_method_32_code 14 = .ok (.if_icmp .ge 33, 3) := by decide +kernel
theorem d_X_noiseIn_17 : decode prog_1_method_32_code 17 = .ok (.lload_n 2, 1) := by decide +kernel
theorem d_X_noiseIn_18 : decode prog_1_method_32_code 18 = .ok (.aload_n 0, 1) := by decide +kernel
theorem d_X_noiseIn_19 : decode prog_1_method_32_code 19 = .ok (.getfield 12, 3) := by decide +kernel
theorem d_X_noiseIn_22 : decode prog_1_method_32_code 22 = .ok (.getfield 117, 3) := by decide +kernel
theorem d_X_noiseIn_25 : decode prog_1_method_32_code 25 = .ok (.i2l, 1) := by decide +kernel
theorem d_X_noiseIn_26 : decode prog_1_method_32_code 26 = .ok (.aload_n 1, 1) := by decide +kernel
theorem d_X_noiseIn_27 : decode prog_1_method_32_code 27 = .ok (.iload 4, 2) := by decide +kernel
theorem d_X_noiseIn_29 : decode prog_1_method_32_code 29 = .ok (.laload, 1) := by decide +kernel
theorem d_X_noiseIn_30 : decode prog_1_method_32_code 30 = .ok (.lmul, 1) := by decide +kernel
theorem d_X_noiseIn_31 : decode prog_1_method_32_code 31 = .ok (.invokestatic 298, 3) := by decide +kernel
theorem d_X_noiseIn_34 : decode prog_1_method_32_code 34 = .ok (.invokestatic 301, 3) := by decide +kernel
theorem d_X_noiseIn_37 : decode prog_1_method_32_code 37 = .ok (.invokestatic 304, 3) := by decide +kernel
theorem d_X_noiseIn_40 : decode prog_1_method_32_code 40 = .ok (.lstore_n 2, 1) := by decide +kernel
theorem d_X_noiseIn_41 : decode prog_1_method_32_code 41 = .ok (.iinc 4 1, 3) := by decide +kernel
theorem d_X_noiseIn_44 : decode prog_1_method_32_code 44 = .ok (.goto (-39), 3) := by decide +kernel
theorem d_X_noiseIn_47 : decode prog_1_method_32_code 47 = .ok (.lload_n 2, 1) := by decide +kernel
theorem d_X_noiseIn_48 : decode prog_1_method_32_code 48 = .ok (.lreturn, 1) := by decide +kernel
theorem d_X_budgetOf_0 : decode prog_1_method_33_code 0 = .ok (.bipush 27, 2) := by decide +kernel
theorem d_X_budgetOf_2 : decode prog_1_method_33_code 2 = .ok (.istore_n 2, 1) := by decide +kernel
theorem d_X_budgetOf_3 : decode prog_1_method_33_code 3 = .ok (.iload_n 2, 1) := by decide +kernel
theorem d_X_budgetOf_4 : decode prog_1_method_33_code 4 = .ok (.ifCond .le 21, 3) := by decide +kernel
theorem d_X_budgetOf_7 : decode prog_1_method_33_code 7 = .ok (.lload_n 0, 1) := by decide +kernel
theorem d_X_budgetOf_8 : decode prog_1_method_33_code 8 = .ok (.iload_n 2, 1) := by decide +kernel
theorem d_X_budgetOf_9 : decode prog_1_method_33_code 9 = .ok (.iconst 1, 1) := by decide +kernel
theorem d_X_budgetOf_10 : decode prog_1_method_33_code 10 = .ok (.iadd, 1) := by decide +kernel
theorem d_X_budgetOf_11 : decode prog_1_method_33_code 11 = .ok (.lshl, 1) := by decide +kernel
theorem d_X_budgetOf_12 : decode prog_1_method_33_code 12 = .ok (.ldc2_w 306, 3) := by decide +kernel
theorem d_X_budgetOf_15 : decode prog_1_method_33_code 15 = .ok (.lcmp, 1) := by decide +kernel
theorem d_X_budgetOf_16 : decode prog_1_method_33_code 16 = .ok (.ifCond .lt 9, 3) := by decide +kernel
theorem d_X_budgetOf_19 : decode prog_1_method_33_code 19 = .ok (.iinc 2 (-1), 3) := by decide +kernel
theorem d_X_budgetOf_22 : decode prog_1_method_33_code 22 = .ok (.goto (-19), 3) := by decide +kernel
theorem d_X_budgetOf_25 : decode prog_1_method_33_code 25 = .ok (.iload_n 2, 1) := by decide +kernel
theorem d_X_budgetOf_26 : decode prog_1_method_33_code 26 = .ok (.ireturn, 1) := by decide +kernel
theorem d_X_centred_0 : decode prog_1_method_34_code 0 = .ok (.lload_n 0, 1) := by decide +kernel
theorem d_X_centred_1 : decode prog_1_method_34_code 1 = .ok (.ldc2_w 306, 3) := by decide +kernel
theorem d_X_centred_4 : decode prog_1_method_34_code 4 = .ok (.invokestatic 184, 3) := by decide +kernel
theorem d_X_centred_7 : decode prog_1_method_34_code 7 = .ok (.lstore_n 2, 1) := by decide +kernel
theorem d_X_centred_8 : decode prog_1_method_34_code 8 = .ok (.lload_n 2, 1) := by decide +kernel
theorem d_X_centred_9 : decode prog_1_method_34_code 9 = .ok (.ldc2_w 308, 3) := by decide +kernel
theorem d_X_centred_12 : decode prog_1_method_34_code 12 = .ok (.lcmp, 1) := by decide +kernel
theorem d_X_centred_13 : decode prog_1_method_34_code 13 = .ok (.ifCond .le 11, 3) := by decide +kernel
theorem d_X_centred_16 : decode prog_1_method_34_code 16 = .ok (.lload_n 2, 1) := by decide +kernel
theorem d_X_centred_17 : decode prog_1_method_34_code 17 = .ok (.ldc2_w 306, 3) := by decide +kernel
theorem d_X_centred_20 : decode prog_1_method_34_code 20 = .ok (.lsub, 1) := by decide +kernel
theorem d_X_centred_21 : decode prog_1_method_34_code 21 = .ok (.goto 4, 3) := by decide +kernel
theorem d_X_centred_24 : decode prog_1_method_34_code 24 = .ok (.lload_n 2, 1) := by decide +kernel
theorem d_X_centred_25 : decode prog_1_method_34_code 25 = .ok (.lreturn, 1) := by decide +kernel
end
section
theorem ff_Ref_69 : zFF "RingCipherModel" 69 cRef 0 := ⟨R_Ref, F_Ref, 24, t_Ref, rfl, by decide, i_Ref, t_Ref_ok, n_Ref, Or.inl ⟨List.mem_append_right _ (List.mem_of_getElem? (i := 631) (by decide +kernel)), by decide +kernel⟩⟩
theorem ff_Ref_104 : zFF "RingCipherModel" 104 cRef 1 := ⟨R_Ref, F_Ref, 24, t_Ref, rfl, by decide, i_Ref, t_Ref_ok, n_Ref, Or.inl ⟨List.mem_append_right _ (List.mem_of_getElem? (i := 632) (by decide +kernel)), by decide +kernel⟩⟩
theorem ff_Ref_7 : zFF "RingCipherModel" 7 cRef 2 := ⟨R_Ref, F_Ref, 24, t_Ref, rfl, by decide, i_Ref, t_Ref_ok, n_Ref, Or.inl ⟨List.mem_append_right _ (List.mem_of_getElem? (i := 633) (by decide +kernel)), by decide +kernel⟩⟩
theorem ff_Ref_13 : zFF "RingCipherModel" 13 cRef 3 := ⟨R_Ref, F_Ref, 24, t_Ref, rfl, by decide, i_Ref, t_Ref_ok, n_Ref, Or.inl ⟨List.mem_append_right _ (List.mem_of_getElem? (i := 634) (by decide +kernel)), by decide +kernel⟩⟩
theorem ff_Ref_111 : zFF "RingCipherModel" 111 cRef 4 := ⟨R_Ref, F_Ref, 24, t_Ref, rfl, by decide, i_Ref, t_Ref_ok, n_Ref, Or.inl ⟨List.mem_append_right _ (List.mem_of_getElem? (i := 635) (by decide +kernel)), by decide +kernel⟩⟩
theorem ff_Ref_81 : zFF "RingCipherModel" 81 cRef 5 := ⟨R_Ref, F_Ref, 24, t_Ref, rfl, by decide, i_Ref, t_Ref_ok, n_Ref, Or.inl ⟨List.mem_append_right _ (List.mem_of_getElem? (i := 636) (by decide +kernel)), by decide +kernel⟩⟩
theorem ff_Ref_107 : zFF "RingCipherModel" 107 cRef 6 := ⟨R_Ref, F_Ref, 24, t_Ref, rfl, by decide, i_Ref, t_Ref_ok, n_Ref, Or.inl ⟨List.mem_append_right _ (List.mem_of_getElem? (i := 637) (by decide +kernel)), by decide +kernel⟩⟩
theorem ff_Ref_16 : zFF "RingCipherModel" 16 cRef 7 := ⟨R_Ref, F_Ref, 24, t_Ref, rfl, by decide, i_Ref, t_Ref_ok, n_Ref, Or.inl ⟨List.mem_append_right _ (List.mem_of_getElem? (i := 638) (by decide +kernel)), by decide +kernel⟩⟩
theorem ff_Ref_20 : zFF "RingCipherModel" 20 cRef 8 := ⟨R_Ref, F_Ref, 24, t_Ref, rfl, by decide, i_Ref, t_Ref_ok, n_Ref, Or.inl ⟨List.mem_append_right _ (List.mem_of_getElem? (i := 639) (by decide +kernel)), by decide +kernel⟩⟩
theorem ff_Ref_23 : zFF "RingCipherModel" 23 cRef 9 := ⟨R_Ref, F_Ref, 24, t_Ref, rfl, by decide, i_Ref, t_Ref_ok, n_Ref, Or.inl ⟨List.mem_append_right _ (List.mem_of_getElem? (i := 640) (by decide +kernel)), by decide +kernel⟩⟩
theorem ff_Ref_26 : zFF "RingCipherModel" 26 cRef 10 := ⟨R_Ref, F_Ref, 24, t_Ref, rfl, by decide, i_Ref, t_Ref_ok, n_Ref, Or.inl ⟨List.mem_append_right _ (List.mem_of_getElem? (i := 641) (by decide +kernel)), by decide +kernel⟩⟩
theorem ff_Ref_29 : zFF "RingCipherModel" 29 cRef 11 := ⟨R_Ref, F_Ref, 24, t_Ref, rfl, by decide, i_Ref, t_Ref_ok, n_Ref, Or.inl ⟨List.mem_append_right _ (List.mem_of_getElem? (i := 642) (by decide +kernel)), by decide +kernel⟩⟩
theorem ff_Ref_32 : zFF "RingCipherModel" 32 cRef 12 := ⟨R_Ref, F_Ref, 24, t_Ref, rfl, by decide, i_Ref, t_Ref_ok, n_Ref, Or.inl ⟨List.mem_append_right _ (List.mem_of_getElem? (i := 643) (by decide +kernel)), by decide +kernel⟩⟩
theorem ff_Ref_36 : zFF "RingCipherModel" 36 cRef 13 := ⟨R_Ref, F_Ref, 24, t_Ref, rfl, by decide, i_Ref, t_Ref_ok, n_Ref, Or.inl ⟨List.mem_append_right _ (List.mem_of_getElem? (i := 644) (by decide +kernel)), by decide +kernel⟩⟩
theorem ff_Ref_39 : zFF "RingCipherModel" 39 cRef 14 := ⟨R_Ref, F_Ref, 24, t_Ref, rfl, by decide, i_Ref, t_Ref_ok, n_Ref, Or.inl ⟨List.mem_append_right _ (List.mem_of_getElem? (i := 645) (by decide +kernel)), by decide +kernel⟩⟩
theorem ff_Ref_42 : zFF "RingCipherModel" 42 cRef 15 := ⟨R_Ref, F_Ref, 24, t_Ref, rfl, by decide, i_Ref, t_Ref_ok, n_Ref, Or.inl ⟨List.mem_append_right _ (List.mem_of_getElem? (i := 646) (by decide +kernel)), by decide +kernel⟩⟩
theorem ff_Ref_45 : zFF "RingCipherModel" 45 cRef 16 := ⟨R_Ref, F_Ref, 24, t_Ref, rfl, by decide, i_Ref, t_Ref_ok, n_Ref, Or.inl ⟨List.mem_append_right _ (List.mem_of_getElem? (i := 647) (by decide +kernel)), by decide +kernel⟩⟩
theorem ff_Ref_48 : zFF "RingCipherModel" 48 cRef 17 := ⟨R_Ref, F_Ref, 24, t_Ref, rfl, by decide, i_Ref, t_Ref_ok, n_Ref, Or.inl ⟨List.mem_append_right _ (List.mem_of_getElem? (i := 648) (by decide +kernel)), by decide +kernel⟩⟩
theorem ff_Ref_51 : zFF "RingCipherModel" 51 cRef 18 := ⟨R_Ref, F_Ref, 24, t_Ref, rfl, by decide, i_Ref, t_Ref_ok, n_Ref, Or.inl ⟨List.mem_append_right _ (List.mem_of_getElem? (i := 649) (by decide +kernel)), by decide +kernel⟩⟩
theorem ff_Ref_54 : zFF "RingCipherModel" 54 cRef 19 := ⟨R_Ref, F_Ref, 24, t_Ref, rfl, by decide, i_Ref, t_Ref_ok, n_Ref, Or.inl ⟨List.mem_append_right _ (List.mem_of_getElem? (i := 650) (by decide +kernel)), by decide +kernel⟩⟩
theorem ff_Ref_57 : zFF "RingCipherModel" 57 cRef 20 := ⟨R_Ref, F_Ref, 24, t_Ref, rfl, by decide, i_Ref, t_Ref_ok, n_Ref, Or.inl ⟨List.mem_append_right _ (List.mem_of_getElem? (i := 651) (by decide +kernel)), by decide +kernel⟩⟩
theorem ff_Ref_60 : zFF "RingCipherModel" 60 cRef 21 := ⟨R_Ref, F_Ref, 24, t_Ref, rfl, by decide, i_Ref, t_Ref_ok, n_Ref, Or.inl ⟨List.mem_append_right _ (List.mem_of_getElem? (i := 652) (by decide +kernel)), by decide +kernel⟩⟩
theorem ff_Ref_63 : zFF "RingCipherModel" 63 cRef 22 := ⟨R_Ref, F_Ref, 24, t_Ref, rfl, by decide, i_Ref, t_Ref_ok, n_Ref, Or.inl ⟨List.mem_append_right _ (List.mem_of_getElem? (i := 653) (by decide +kernel)), by decide +kernel⟩⟩
theorem ff_Ref_66 : zFF "RingCipherModel" 66 cRef 23 := ⟨R_Ref, F_Ref, 24, t_Ref, rfl, by decide, i_Ref, t_Ref_ok, n_Ref, Or.inl ⟨List.mem_append_right _ (List.mem_of_getElem? (i := 654) (by decide +kernel)), by decide +kernel⟩⟩
theorem k_Ref_80 : zin (.constant "RingCipherModel" 80 (1664525)) := ⟨List.mem_append_right _ (List.mem_of_getElem? (i := 729) (by decide +kernel)), by decide +kernel⟩
theorem k_Ref_84 : zin (.constant "RingCipherModel" 84 (1013904223)) := ⟨List.mem_append_right _ (List.mem_of_getElem? (i := 730) (by decide +kernel)), by decide +kernel⟩
theorem k_Ref_89 : zin (.constantLong "RingCipherModel" 89 (Int64.ofInt 65536)) := ⟨List.mem_append_right _ (List.mem_of_getElem? (i := 735) (by decide +kernel)), by decide +kernel⟩
theorem k_Ref_72 : zin (.constantLong "RingCipherModel" 72 (Int64.ofInt 268435399)) := ⟨List.mem_append_right _ (List.mem_of_getElem? (i := 736) (by decide +kernel)), by decide +kernel⟩
theorem k_Ref_102 : zin (.constantLong "RingCipherModel" 102 (Int64.ofInt 32)) := ⟨List.mem_append_right _ (List.mem_of_getElem? (i := 756) (by decide +kernel)), by decide +kernel⟩
theorem k_Ref_78 : zin (.constantLong "RingCipherModel" 78 (Int64.ofInt 134217699)) := ⟨List.mem_append_right _ (List.mem_of_getElem? (i := 826) (by decide +kernel)), by decide +kernel⟩
theorem k_Ref_178 : zin (.constantLong "RingCipherModel" 178 (Int64.ofInt 536870798)) := ⟨List.mem_append_right _ (List.mem_of_getElem? (i := 840) (by decide +kernel)), by decide +kernel⟩
theorem k_Ref_190 : zin (.constantLong "RingCipherModel" 190 (Int64.ofInt 31)) := ⟨List.mem_append_right _ (List.mem_of_getElem? (i := 862) (by decide +kernel)), by decide +kernel⟩
theorem g_Ref_114 : zGV "RingCipherModel" 114 M_Ref_empty_ 0 := ⟨Or.inl ⟨List.mem_append_right _ (List.mem_of_getElem? (i := 713) (by decide +kernel)), by decide +kernel⟩, ⟨List.mem_append_right _ (List.mem_of_getElem? (i := 715) (by decide +kernel)), by decide +kernel⟩, ⟨List.mem_append_left _ (List.mem_of_getElem? (i := 43) (by decide +kernel)), by decide +kernel⟩, ⟨by decide +kernel, by decide +kernel⟩, by decide +kernel⟩
theorem g_Ref_117 : zGV "RingCipherModel" 117 M_Ref_ternary 1 := ⟨Or.inl ⟨List.mem_append_right _ (List.mem_of_getElem? (i := 721) (by decide +kernel)), by decide +kernel⟩, ⟨List.mem_append_right _ (List.mem_of_getElem? (i := 723) (by decide +kernel)), by decide +kernel⟩, ⟨List.mem_append_left _ (List.mem_of_getElem? (i := 44) (by decide +kernel)), by decide +kernel⟩, ⟨by decide +kernel, by decide +kernel⟩, by decide +kernel⟩
theorem g_Ref_85 : zGV "RingCipherModel" 85 M_Ref_draw 0 := ⟨Or.inl ⟨List.mem_append_right _ (List.mem_of_getElem? (i := 725) (by decide +kernel)), by decide +kernel⟩, ⟨List.mem_append_right _ (List.mem_of_getElem? (i := 727) (by decide +kernel)), by decide +kernel⟩, ⟨List.mem_append_left _ (List.mem_of_getElem? (i := 45) (by decide +kernel)), by decide +kernel⟩, ⟨by decide +kernel, by decide +kernel⟩, by decide +kernel⟩
theorem g_Ref_91 : zGV "RingCipherModel" 91 M_Ref_uniform 1 := ⟨Or.inl ⟨List.mem_append_right _ (List.mem_of_getElem? (i := 731) (by decide +kernel)), by decide +kernel⟩, ⟨List.mem_append_right _ (List.mem_of_getElem? (i := 733) (by decide +kernel)), by decide +kernel⟩, ⟨List.mem_append_left _ (List.mem_of_getElem? (i := 46) (by decide +kernel)), by decide +kernel⟩, ⟨by decide +kernel, by decide +kernel⟩, by decide +kernel⟩
theorem g_Ref_95 : zGV "RingCipherModel" 95 M_Ref_error 1 := ⟨Or.inl ⟨List.mem_append_right _ (List.mem_of_getElem? (i := 737) (by decide +kernel)), by decide +kernel⟩, ⟨List.mem_append_right _ (List.mem_of_getElem? (i := 739) (by decide +kernel)), by decide +kernel⟩, ⟨List.mem_append_left _ (List.mem_of_getElem? (i := 47) (by decide +kernel)), by decide +kernel⟩, ⟨by decide +kernel, by decide +kernel⟩, by decide +kernel⟩
theorem g_Ref_98 : zGV "RingCipherModel" 98 M_Ref_reduced 3 := ⟨Or.inl ⟨List.mem_append_right _ (List.mem_of_getElem? (i := 741) (by decide +kernel)), by decide +kernel⟩, ⟨List.mem_append_right _ (List.mem_of_getElem? (i := 743) (by decide +kernel)), by decide +kernel⟩, ⟨List.mem_append_left _ (List.mem_of_getElem? (i := 48) (by decide +kernel)), by decide +kernel⟩, ⟨by decide +kernel, by decide +kernel⟩, by decide +kernel⟩
theorem g_Ref_74 : zGS "RingCipherModel" 74 M_Ref_of 1 := ⟨Or.inl ⟨List.mem_append_right _ (List.mem_of_getElem? (i := 745) (by decide +kernel)), by decide +kernel⟩, ⟨List.mem_append_right _ (List.mem_of_getElem? (i := 746) (by decide +kernel)), by decide +kernel⟩, ⟨List.mem_append_right _ (List.mem_of_getElem? (i := 7) (by decide +kernel)), by decide +kernel⟩, ⟨by decide +kernel, by decide +kernel⟩, by decide +kernel⟩
theorem g_Ref_120 : zGV "RingCipherModel" 120 M_Ref_product 3 := ⟨Or.inl ⟨List.mem_append_right _ (List.mem_of_getElem? (i := 748) (by decide +kernel)), by decide +kernel⟩, ⟨List.mem_append_right _ (List.mem_of_getElem? (i := 750) (by decide +kernel)), by decide +kernel⟩, ⟨List.mem_append_left _ (List.mem_of_getElem? (i := 49) (by decide +kernel)), by decide +kernel⟩, ⟨by decide +kernel, by decide +kernel⟩, by decide +kernel⟩
theorem g_Ref_123 : zGV "RingCipherModel" 123 M_Ref_pairs 1 := ⟨Or.inl ⟨List.mem_append_right _ (List.mem_of_getElem? (i := 752) (by decide +kernel)), by decide +kernel⟩, ⟨List.mem_append_right _ (List.mem_of_getElem? (i := 754) (by decide +kernel)), by decide +kernel⟩, ⟨List.mem_append_left _ (List.mem_of_getElem? (i := 50) (by decide +kernel)), by decide +kernel⟩, ⟨by decide +kernel, by decide +kernel⟩, by decide +kernel⟩
theorem g_Ref_127 : zGV "RingCipherModel" 127 M_Ref_fail 1 := ⟨Or.inl ⟨List.mem_append_right _ (List.mem_of_getElem? (i := 761) (by decide +kernel)), by decide +kernel⟩, ⟨List.mem_append_right _ (List.mem_of_getElem? (i := 763) (by decide +kernel)), by decide +kernel⟩, ⟨List.mem_append_left _ (List.mem_of_getElem? (i := 51) (by decide +kernel)), by decide +kernel⟩, ⟨by decide +kernel, by decide +kernel⟩, by decide +kernel⟩
theorem g_Ref_131 : zGV "RingCipherModel" 131 M_Ref_find 1 := ⟨Or.inl ⟨List.mem_append_right _ (List.mem_of_getElem? (i := 765) (by decide +kernel)), by decide +kernel⟩, ⟨List.mem_append_right _ (List.mem_of_getElem? (i := 767) (by decide +kernel)), by decide +kernel⟩, ⟨List.mem_append_left _ (List.mem_of_getElem? (i := 52) (by decide +kernel)), by decide +kernel⟩, ⟨by decide +kernel, by decide +kernel⟩, by decide +kernel⟩
theorem g_Ref_134 : zGV "RingCipherModel" 134 M_Ref_turned 3 := ⟨Or.inl ⟨List.mem_append_right _ (List.mem_of_getElem? (i := 769) (by decide +kernel)), by decide +kernel⟩, ⟨List.mem_append_right _ (List.mem_of_getElem? (i := 771) (by decide +kernel)), by decide +kernel⟩, ⟨List.mem_append_left _ (List.mem_of_getElem? (i := 53) (by decide +kernel)), by decide +kernel⟩, ⟨by decide +kernel, by decide +kernel⟩, by decide +kernel⟩
theorem g_Ref_142 : zGS "RingCipherModel" 142 M_Ref_noPlain 1 := ⟨Or.inl ⟨List.mem_append_right _ (List.mem_of_getElem? (i := 777) (by decide +kernel)), by decide +kernel⟩, ⟨List.mem_append_right _ (List.mem_of_getElem? (i := 778) (by decide +kernel)), by decide +kernel⟩, ⟨List.mem_append_right _ (List.mem_of_getElem? (i := 7) (by decide +kernel)), by decide +kernel⟩, ⟨by decide +kernel, by decide +kernel⟩, by decide +kernel⟩
theorem g_Ref_149 : zGV "RingCipherModel" 149 M_Ref_root 0 := ⟨Or.inl ⟨List.mem_append_right _ (List.mem_of_getElem? (i := 788) (by decide +kernel)), by decide +kernel⟩, ⟨List.mem_append_right _ (List.mem_of_getElem? (i := 790) (by decide +kernel)), by decide +kernel⟩, ⟨List.mem_append_left _ (List.mem_of_getElem? (i := 54) (by decide +kernel)), by decide +kernel⟩, ⟨by decide +kernel, by decide +kernel⟩, by decide +kernel⟩
theorem g_Ref_145 : zGV "RingCipherModel" 145 M_Ref_power 2 := ⟨Or.inl ⟨List.mem_append_right _ (List.mem_of_getElem? (i := 792) (by decide +kernel)), by decide +kernel⟩, ⟨List.mem_append_right _ (List.mem_of_getElem? (i := 794) (by decide +kernel)), by decide +kernel⟩, ⟨List.mem_append_left _ (List.mem_of_getElem? (i := 55) (by decide +kernel)), by decide +kernel⟩, ⟨by decide +kernel, by decide +kernel⟩, by decide +kernel⟩
theorem g_Ref_138 : zGS "RingCipherModel" 138 M_Ref_noCipher 1 := ⟨Or.inl ⟨List.mem_append_right _ (List.mem_of_getElem? (i := 800) (by decide +kernel)), by decide +kernel⟩, ⟨List.mem_append_right _ (List.mem_of_getElem? (i := 801) (by decide +kernel)), by decide +kernel⟩, ⟨List.mem_append_right _ (List.mem_of_getElem? (i := 7) (by decide +kernel)), by decide +kernel⟩, ⟨by decide +kernel, by decide +kernel⟩, by decide +kernel⟩
theorem g_Ref_152 : zGV "RingCipherModel" 152 M_Ref_put 3 := ⟨Or.inl ⟨List.mem_append_right _ (List.mem_of_getElem? (i := 803) (by decide +kernel)), by decide +kernel⟩, ⟨List.mem_append_right _ (List.mem_of_getElem? (i := 805) (by decide +kernel)), by decide +kernel⟩, ⟨List.mem_append_left _ (List.mem_of_getElem? (i := 56) (by decide +kernel)), by decide +kernel⟩, ⟨by decide +kernel, by decide +kernel⟩, by decide +kernel⟩
theorem g_Ref_156 : zGV "RingCipherModel" 156 M_Ref_budget 1 := ⟨Or.inl ⟨List.mem_append_right _ (List.mem_of_getElem? (i := 807) (by decide +kernel)), by decide +kernel⟩, ⟨List.mem_append_right _ (List.mem_of_getElem? (i := 809) (by decide +kernel)), by decide +kernel⟩, ⟨List.mem_append_left _ (List.mem_of_getElem? (i := 57) (by decide +kernel)), by decide +kernel⟩, ⟨by decide +kernel, by decide +kernel⟩, by decide +kernel⟩
theorem g_Ref_174 : zGV "RingCipherModel" 174 M_Ref_noise 1 := ⟨Or.inl ⟨List.mem_append_right _ (List.mem_of_getElem? (i := 811) (by decide +kernel)), by decide +kernel⟩, ⟨List.mem_append_right _ (List.mem_of_getElem? (i := 813) (by decide +kernel)), by decide +kernel⟩, ⟨List.mem_append_left _ (List.mem_of_getElem? (i := 58) (by decide +kernel)), by decide +kernel⟩, ⟨by decide +kernel, by decide +kernel⟩, by decide +kernel⟩
theorem g_Ref_165 : zGV "RingCipherModel" 165 M_Ref_phase 1 := ⟨Or.inl ⟨List.mem_append_right _ (List.mem_of_getElem? (i := 815) (by decide +kernel)), by decide +kernel⟩, ⟨List.mem_append_right _ (List.mem_of_getElem? (i := 817) (by decide +kernel)), by decide +kernel⟩, ⟨List.mem_append_left _ (List.mem_of_getElem? (i := 59) (by decide +kernel)), by decide +kernel⟩, ⟨by decide +kernel, by decide +kernel⟩, by decide +kernel⟩
theorem g_Ref_159 : zGV "RingCipherModel" 159 M_Ref_take 3 := ⟨Or.inl ⟨List.mem_append_right _ (List.mem_of_getElem? (i := 819) (by decide +kernel)), by decide +kernel⟩, ⟨List.mem_append_right _ (List.mem_of_getElem? (i := 821) (by decide +kernel)), by decide +kernel⟩, ⟨List.mem_append_left _ (List.mem_of_getElem? (i := 60) (by decide +kernel)), by decide +kernel⟩, ⟨by decide +kernel, by decide +kernel⟩, by decide +kernel⟩
theorem g_Ref_162 : zGS "RingCipherModel" 162 M_Ref_centred 1 := ⟨Or.inl ⟨List.mem_append_right _ (List.mem_of_getElem? (i := 823) (by decide +kernel)), by decide +kernel⟩, ⟨List.mem_append_right _ (List.mem_of_getElem? (i := 824) (by decide +kernel)), by decide +kernel⟩, ⟨List.mem_append_right _ (List.mem_of_getElem? (i := 7) (by decide +kernel)), by decide +kernel⟩, ⟨by decide +kernel, by decide +kernel⟩, by decide +kernel⟩
theorem g_Ref_168 : zGS "RingCipherModel" 168 M_Math_max_JJ 2 := ⟨Or.inl ⟨List.mem_append_right _ (List.mem_of_getElem? (i := 827) (by decide +kernel)), by decide +kernel⟩, ⟨List.mem_append_right _ (List.mem_of_getElem? (i := 519) (by decide +kernel)), by decide +kernel⟩, ⟨List.mem_append_right _ (List.mem_of_getElem? (i := 14) (by decide +kernel)), by decide +kernel⟩, ⟨by decide +kernel, by decide +kernel⟩, by decide +kernel⟩
theorem g_Ref_180 : zGV "RingCipherModel" 180 M_Ref_empty_I 1 := ⟨Or.inl ⟨List.mem_append_right _ (List.mem_of_getElem? (i := 832) (by decide +kernel)), by decide +kernel⟩, ⟨List.mem_append_right _ (List.mem_of_getElem? (i := 834) (by decide +kernel)), by decide +kernel⟩, ⟨List.mem_append_left _ (List.mem_of_getElem? (i := 61) (by decide +kernel)), by decide +kernel⟩, ⟨by decide +kernel, by decide +kernel⟩, by decide +kernel⟩
theorem g_Ref_182 : zGV "RingCipherModel" 182 M_Ref_scaled 1 := ⟨Or.inl ⟨List.mem_append_right _ (List.mem_of_getElem? (i := 836) (by decide +kernel)), by decide +kernel⟩, ⟨List.mem_append_right _ (List.mem_of_getElem? (i := 838) (by decide +kernel)), by decide +kernel⟩, ⟨List.mem_append_left _ (List.mem_of_getElem? (i := 62) (by decide +kernel)), by decide +kernel⟩, ⟨by decide +kernel, by decide +kernel⟩, by decide +kernel⟩
theorem g_Ref_185 : zGS "RingCipherModel" 185 M_Math_max_II 2 := ⟨Or.inl ⟨List.mem_append_right _ (List.mem_of_getElem? (i := 845) (by decide +kernel)), by decide +kernel⟩, ⟨List.mem_append_right _ (List.mem_of_getElem? (i := 392) (by decide +kernel)), by decide +kernel⟩, ⟨List.mem_append_right _ (List.mem_of_getElem? (i := 14) (by decide +kernel)), by decide +kernel⟩, ⟨by decide +kernel, by decide +kernel⟩, by decide +kernel⟩
theorem g_Ref_187 : zGV "RingCipherModel" 187 M_Ref_centre 3 := ⟨Or.inl ⟨List.mem_append_right _ (List.mem_of_getElem? (i := 846) (by decide +kernel)), by decide +kernel⟩, ⟨List.mem_append_right _ (List.mem_of_getElem? (i := 848) (by decide +kernel)), by decide +kernel⟩, ⟨List.mem_append_left _ (List.mem_of_getElem? (i := 63) (by decide +kernel)), by decide +kernel⟩, ⟨by decide +kernel, by decide +kernel⟩, by decide +kernel⟩
theorem g_Ref_192 : zGV "RingCipherModel" 192 M_Ref_applied 1 := ⟨Or.inl ⟨List.mem_append_right _ (List.mem_of_getElem? (i := 858) (by decide +kernel)), by decide +kernel⟩, ⟨List.mem_append_right _ (List.mem_of_getElem? (i := 860) (by decide +kernel)), by decide +kernel⟩, ⟨List.mem_append_left _ (List.mem_of_getElem? (i := 64) (by decide +kernel)), by decide +kernel⟩, ⟨by decide +kernel, by decide +kernel⟩, by decide +kernel⟩
theorem g_Ref_195 : zGV "RingCipherModel" 195 M_Ref_reduce 1 := ⟨Or.inl ⟨List.mem_append_right _ (List.mem_of_getElem? (i := 867) (by decide +kernel)), by decide +kernel⟩, ⟨List.mem_append_right _ (List.mem_of_getElem? (i := 869) (by decide +kernel)), by decide +kernel⟩, ⟨List.mem_append_left _ (List.mem_of_getElem? (i := 65) (by decide +kernel)), by decide +kernel⟩, ⟨by decide +kernel, by decide +kernel⟩, by decide +kernel⟩
theorem co_Ref_init : zCo M_Ref_init := Or.inl ⟨⟨List.mem_append_right _ (List.mem_of_getElem? (i := 629) (by decide +kernel)), by decide +kernel⟩, rfl⟩
theorem co_Ref_thrown : zCo M_Ref_thrown := Or.inl ⟨⟨List.mem_append_right _ (List.mem_of_getElem? (i := 708) (by decide +kernel)), by decide +kernel⟩, rfl⟩
theorem co_Ref_begin : zCo M_Ref_begin := Or.inl ⟨⟨List.mem_append_right _ (List.mem_of_getElem? (i := 712) (by decide +kernel)), by decide +kernel⟩, rfl⟩
theorem co_Ref_empty_ : zCo M_Ref_empty_ := Or.inl ⟨⟨List.mem_append_right _ (List.mem_of_getElem? (i := 716) (by decide +kernel)), by decide +kernel⟩, rfl⟩
theorem co_Ref_keys : zCo M_Ref_keys := Or.inl ⟨⟨List.mem_append_right _ (List.mem_of_getElem? (i := 720) (by decide +kernel)), by decide +kernel⟩, rfl⟩
theorem co_Ref_ternary : zCo M_Ref_ternary := Or.inl ⟨⟨List.mem_append_right _ (List.mem_of_getElem? (i := 724) (by decide +kernel)), by decide +kernel⟩, rfl⟩
theorem co_Ref_draw : zCo M_Ref_draw := Or.inl ⟨⟨List.mem_append_right _ (List.mem_of_getElem? (i := 728) (by decide +kernel)), by decide +kernel⟩, rfl⟩
theorem co_Ref_uniform : zCo M_Ref_uniform := Or.inl ⟨⟨List.mem_append_right _ (List.mem_of_getElem? (i := 734) (by decide +kernel)), by decide +kernel⟩, rfl⟩
theorem co_Ref_error : zCo M_Ref_error := Or.inl ⟨⟨List.mem_append_right _ (List.mem_of_getElem? (i := 740) (by decide +kernel)), by decide +kernel⟩, rfl⟩
theorem co_Ref_reduced : zCo M_Ref_reduced := Or.inl ⟨⟨List.mem_append_right _ (List.mem_of_getElem? (i := 744) (by decide +kernel)), by decide +kernel⟩, rfl⟩
theorem co_Ref_of : zCo M_Ref_of := Or.inl ⟨⟨List.mem_append_right _ (List.mem_of_getElem? (i := 747) (by decide +kernel)), by decide +kernel⟩, rfl⟩
theorem co_Ref_product : zCo M_Ref_product := Or.inl ⟨⟨List.mem_append_right _ (List.mem_of_getElem? (i := 751) (by decide +kernel)), by decide +kernel⟩, rfl⟩
theorem co_Ref_pairs : zCo M_Ref_pairs := Or.inl ⟨⟨List.mem_append_right _ (List.mem_of_getElem? (i := 755) (by decide +kernel)), by decide +kernel⟩, rfl⟩
theorem co_Ref_turnKey : zCo M_Ref_turnKey := Or.inl ⟨⟨List.mem_append_right _ (List.mem_of_getElem? (i := 760) (by decide +kernel)), by decide +kernel⟩, rfl⟩
theorem co_Ref_fail : zCo M_Ref_fail := Or.inl ⟨⟨List.mem_append_right _ (List.mem_of_getElem? (i := 764) (by decide +kernel)), by decide +kernel⟩, rfl⟩
theorem co_Ref_find : zCo M_Ref_find := Or.inl ⟨⟨List.mem_append_right _ (List.mem_of_getElem? (i := 768) (by decide +kernel)), by decide +kernel⟩, rfl⟩
theorem co_Ref_turned : zCo M_Ref_turned := Or.inl ⟨⟨List.mem_append_right _ (List.mem_of_getElem? (i := 772) (by decide +kernel)), by decide +kernel⟩, rfl⟩
theorem co_Ref_set : zCo M_Ref_set := Or.inl ⟨⟨List.mem_append_right _ (List.mem_of_getElem? (i := 776) (by decide +kernel)), by decide +kernel⟩, rfl⟩
theorem co_Ref_noPlain : zCo M_Ref_noPlain := Or.inl ⟨⟨List.mem_append_right _ (List.mem_of_getElem? (i := 779) (by decide +kernel)), by decide +kernel⟩, rfl⟩
theorem co_Ref_get : zCo M_Ref_get := Or.inl ⟨⟨List.mem_append_right _ (List.mem_of_getElem? (i := 783) (by decide +kernel)), by decide +kernel⟩, rfl⟩
theorem co_Ref_batch : zCo M_Ref_batch := Or.inl ⟨⟨List.mem_append_right _ (List.mem_of_getElem? (i := 787) (by decide +kernel)), by decide +kernel⟩, rfl⟩
theorem co_Ref_root : zCo M_Ref_root := Or.inl ⟨⟨List.mem_append_right _ (List.mem_of_getElem? (i := 791) (by decide +kernel)), by decide +kernel⟩, rfl⟩
theorem co_Ref_power : zCo M_Ref_power := Or.inl ⟨⟨List.mem_append_right _ (List.mem_of_getElem? (i := 795) (by decide +kernel)), by decide +kernel⟩, rfl⟩
theorem co_Ref_seal : zCo M_Ref_seal := Or.inl ⟨⟨List.mem_append_right _ (List.mem_of_getElem? (i := 799) (by decide +kernel)), by decide +kernel⟩, rfl⟩
theorem co_Ref_noCipher : zCo M_Ref_noCipher := Or.inl ⟨⟨List.mem_append_right _ (List.mem_of_getElem? (i := 802) (by decide +kernel)), by decide +kernel⟩, rfl⟩
theorem co_Ref_put : zCo M_Ref_put := Or.inl ⟨⟨List.mem_append_right _ (List.mem_of_getElem? (i := 806) (by decide +kernel)), by decide +kernel⟩, rfl⟩
theorem co_Ref_budget : zCo M_Ref_budget := Or.inl ⟨⟨List.mem_append_right _ (List.mem_of_getElem? (i := 810) (by decide +kernel)), by decide +kernel⟩, rfl⟩
theorem co_Ref_noise : zCo M_Ref_noise := Or.inl ⟨⟨List.mem_append_right _ (List.mem_of_getElem? (i := 814) (by decide +kernel)), by decide +kernel⟩, rfl⟩
theorem co_Ref_phase : zCo M_Ref_phase := Or.inl ⟨⟨List.mem_append_right _ (List.mem_of_getElem? (i := 818) (by decide +kernel)), by decide +kernel⟩, rfl⟩
theorem co_Ref_take : zCo M_Ref_take := Or.inl ⟨⟨List.mem_append_right _ (List.mem_of_getElem? (i := 822) (by decide +kernel)), by decide +kernel⟩, rfl⟩
theorem co_Ref_centred : zCo M_Ref_centred := Or.inl ⟨⟨List.mem_append_right _ (List.mem_of_getElem? (i := 825) (by decide +kernel)), by decide +kernel⟩, rfl⟩
theorem co_Ref_open : zCo M_Ref_open := Or.inl ⟨⟨List.mem_append_right _ (List.mem_of_getElem? (i := 831) (by decide +kernel)), by decide +kernel⟩, rfl⟩
theorem co_Ref_empty_I : zCo M_Ref_empty_I := Or.inl ⟨⟨List.mem_append_right _ (List.mem_of_getElem? (i := 835) (by decide +kernel)), by decide +kernel⟩, rfl⟩
theorem co_Ref_scaled : zCo M_Ref_scaled := Or.inl ⟨⟨List.mem_append_right _ (List.mem_of_getElem? (i := 839) (by decide +kernel)), by decide +kernel⟩, rfl⟩
theorem co_Ref_join : zCo M_Ref_join := Or.inl ⟨⟨List.mem_append_right _ (List.mem_of_getElem? (i := 844) (by decide +kernel)), by decide +kernel⟩, rfl⟩
theorem co_Ref_centre : zCo M_Ref_centre := Or.inl ⟨⟨List.mem_append_right _ (List.mem_of_getElem? (i := 849) (by decide +kernel)), by decide +kernel⟩, rfl⟩
theorem co_Ref_plain : zCo M_Ref_plain := Or.inl ⟨⟨List.mem_append_right _ (List.mem_of_getElem? (i := 853) (by decide +kernel)), by decide +kernel⟩, rfl⟩
theorem co_Ref_shrink : zCo M_Ref_shrink := Or.inl ⟨⟨List.mem_append_right _ (List.mem_of_getElem? (i := 857) (by decide +kernel)), by decide +kernel⟩, rfl⟩
theorem co_Ref_applied : zCo M_Ref_applied := Or.inl ⟨⟨List.mem_append_right _ (List.mem_of_getElem? (i := 861) (by decide +kernel)), by decide +kernel⟩, rfl⟩
theorem co_Ref_turn : zCo M_Ref_turn := Or.inl ⟨⟨List.mem_append_right _ (List.mem_of_getElem? (i := 866) (by decide +kernel)), by decide +kernel⟩, rfl⟩
theorem co_Ref_reduce : zCo M_Ref_reduce := Or.inl ⟨⟨List.mem_append_right _ (List.mem_of_getElem? (i := 870) (by decide +kernel)), by decide +kernel⟩, rfl⟩
theorem co_Ref_part : zCo M_Ref_part := Or.inl ⟨⟨List.mem_append_right _ (List.mem_of_getElem? (i := 874) (by decide +kernel)), by decide +kernel⟩, rfl⟩
theorem co_Ref_about : zCo M_Ref_about := Or.inl ⟨⟨List.mem_append_right _ (List.mem_of_getElem? (i := 878) (by decide +kernel)), by decide +kernel⟩, rfl⟩
theorem co_Ref_drop : zCo M_Ref_drop := Or.inl ⟨⟨List.mem_append_right _ (List.mem_of_getElem? (i := 882) (by decide +kernel)), by decide +kernel⟩, rfl⟩
theorem co_Ref_count : zCo M_Ref_count := Or.inl ⟨⟨List.mem_append_right _ (List.mem_of_getElem? (i := 886) (by decide +kernel)), by decide +kernel⟩, rfl⟩
theorem d_Ref_init_0 : decode prog_8_method_1_code 0 = .ok (.aload_n 0, 1) := by decide +kernel
theorem d_Ref_init_1 : decode prog_8_method_1_code 1 = .ok (.invokespecial 1, 3) := by decide +kernel
theorem d_Ref_init_4 : decode prog_8_method_1_code 4 = .ok (.aload_n 0, 1) := by decide +kernel
theorem d_Ref_init_5 : decode prog_8_method_1_code 5 = .ok (.bipush 8, 2) := by decide +kernel
theorem d_Ref_init_7 : decode prog_8_method_1_code 7 = .ok (.putfield 7, 3) := by decide +kernel
theorem d_Ref_init_10 : decode prog_8_method_1_code 10 = .ok (.aload_n 0, 1) := by decide +kernel
theorem d_Ref_init_11 : decode prog_8_method_1_code 11 = .ok (.bipush 17, 2) := by decide +kernel
theorem d_Ref_init_13 : decode prog_8_method_1_code 13 = .ok (.putfield 13, 3) := by decide +kernel
theorem d_Ref_init_16 : decode prog_8_method_1_code 16 = .ok (.aload_n 0, 1) := by decide +kernel
theorem d_Ref_init_17 : decode prog_8_method_1_code 17 = .ok (.bipush 32, 2) := by decide +kernel
theorem d_Ref_init_19 : decode prog_8_method_1_code 19 = .ok (.newarray .long, 2) := by decide +kernel
theorem d_Ref_init_21 : decode prog_8_method_1_code 21 = .ok (.putfield 16, 3) := by decide +kernel
theorem d_Ref_init_24 : decode prog_8_method_1_code 24 = .ok (.aload_n 0, 1) := by decide +kernel
theorem d_Ref_init_25 : decode prog_8_method_1_code 25 = .ok (.bipush 32, 2) := by decide +kernel
theorem d_Ref_init_27 : decode prog_8_method_1_code 27 = .ok (.newarray .long, 2) := by decide +kernel
theorem d_Ref_init_29 : decode prog_8_method_1_code 29 = .ok (.putfield 20, 3) := by decide +kernel
theorem d_Ref_init_32 : decode prog_8_method_1_code 32 = .ok (.aload_n 0, 1) := by decide +kernel
theorem d_Ref_init_33 : decode prog_8_method_1_code 33 = .ok (.bipush 32, 2) := by decide +kernel
theorem d_Ref_init_35 : decode prog_8_method_1_code 35 = .ok (.newarray .long, 2) := by decide +kernel
theorem d_Ref_init_37 : decode prog_8_method_1_code 37 = .ok (.putfield 23, 3) := by decide +kernel
theorem d_Ref_init_40 : decode prog_8_method_1_code 40 = .ok (.aload_n 0, 1) := by decide +kernel
theorem d_Ref_init_41 : decode prog_8_method_1_code 41 = .ok (.sipush 960, 3) := by decide +kernel
theorem d_Ref_init_44 : decode prog_8_method_1_code 44 = .ok (.newarray .long, 2) := by decide +kernel
theorem d_Ref_init_46 : decode prog_8_method_1_code 46 = .ok (.putfield 26, 3) := by decide +kernel
theorem d_Ref_init_49 : decode prog_8_method_1_code 49 = .ok (.aload_n 0, 1) := by decide +kernel
theorem d_Ref_init_50 : decode prog_8_method_1_code 50 = .ok (.sipush 960, 3) := by decide +kernel
theorem d_Ref_init_53 : decode prog_8_method_1_code 53 = .ok (.newarray .long, 2) := by decide +kernel
theorem d_Ref_init_55 : decode prog_8_method_1_code 55 = .ok (.putfield 29, 3) := by decide +kernel
theorem d_Ref_init_58 : decode prog_8_method_1_code 58 = .ok (.aload_n 0, 1) := by decide +kernel
theorem d_Ref_init_59 : decode prog_8_method_1_code 59 = .ok (.iconst 5, 1) := by decide +kernel
theorem d_Ref_init_60 : decode prog_8_method_1_code 60 = .ok (.newarray .int, 2) := by decide +kernel
theorem d_Ref_init_62 : decode prog_8_method_1_code 62 = .ok (.putfield 32, 3) := by decide +kernel
theorem d_Ref_init_65 : decode prog_8_method_1_code 65 = .ok (.aload_n 0, 1) := by decide +kernel
theorem d_Ref_init_66 : decode prog_8_method_1_code 66 = .ok (.sipush 256, 3) := by decide +kernel
theorem d_Ref_init_69 : decode prog_8_method_1_code 69 = .ok (.newarray .int, 2) := by decide +kernel
theorem d_Ref_init_71 : decode prog_8_method_1_code 71 = .ok (.putfield 36, 3) := by decide +kernel
theorem d_Ref_init_74 : decode prog_8_method_1_code 74 = .ok (.aload_n 0, 1) := by decide +kernel
theorem d_Ref_init_75 : decode prog_8_method_1_code 75 = .ok (.bipush 16, 2) := by decide +kernel
theorem d_Ref_init_77 : decode prog_8_method_1_code 77 = .ok (.newarray .int, 2) := by decide +kernel
theorem d_Ref_init_79 : decode prog_8_method_1_code 79 = .ok (.putfield 39, 3) := by decide +kernel
theorem d_Ref_init_82 : decode prog_8_method_1_code 82 = .ok (.aload_n 0, 1) := by decide +kernel
theorem d_Ref_init_83 : decode prog_8_method_1_code 83 = .ok (.sipush 1536, 3) := by decide +kernel
theorem d_Ref_init_86 : decode prog_8_method_1_code 86 = .ok (.newarray .long, 2) := by decide +kernel
theorem d_Ref_init_88 : decode prog_8_method_1_code 88 = .ok (.putfield 42, 3) := by decide +kernel
theorem d_Ref_init_91 : decode prog_8_method_1_code 91 = .ok (.aload_n 0, 1) := by decide +kernel
theorem d_Ref_init_92 : decode prog_8_method_1_code 92 = .ok (.bipush 32, 2) := by decide +kernel
theorem d_Ref_init_94 : decode prog_8_method_1_code 94 = .ok (.newarray .long, 2) := by decide +kernel
theorem d_Ref_init_96 : decode prog_8_method_1_code 96 = .ok (.putfield 45, 3) := by decide +kernel
theorem d_Ref_init_99 : decode prog_8_method_1_code 99 = .ok (.aload_n 0, 1) := by decide +kernel
theorem d_Ref_init_100 : decode prog_8_method_1_code 100 = .ok (.bipush 32, 2) := by decide +kernel
theorem d_Ref_init_102 : decode prog_8_method_1_code 102 = .ok (.newarray .long, 2) := by decide +kernel
theorem d_Ref_init_104 : decode prog_8_method_1_code 104 = .ok (.putfield 48, 3) := by decide +kernel
theorem d_Ref_init_107 : decode prog_8_method_1_code 107 = .ok (.aload_n 0, 1) := by decide +kernel
theorem d_Ref_init_108 : decode prog_8_method_1_code 108 = .ok (.bipush 32, 2) := by decide +kernel
theorem d_Ref_init_110 : decode prog_8_method_1_code 110 = .ok (.newarray .long, 2) := by decide +kernel
theorem d_Ref_init_112 : decode prog_8_method_1_code 112 = .ok (.putfield 51, 3) := by decide +kernel
theorem d_Ref_init_115 : decode prog_8_method_1_code 115 = .ok (.aload_n 0, 1) := by decide +kernel
theorem d_Ref_init_116 : decode prog_8_method_1_code 116 = .ok (.bipush 32, 2) := by decide +kernel
theorem d_Ref_init_118 : decode prog_8_method_1_code 118 = .ok (.newarray .long, 2) := by decide +kernel
theorem d_Ref_init_120 : decode prog_8_method_1_code 120 = .ok (.putfield 54, 3) := by decide +kernel
theorem d_Ref_init_123 : decode prog_8_method_1_code 123 = .ok (.aload_n 0, 1) := by decide +kernel
theorem d_Ref_init_124 : decode prog_8_method_1_code 124 = .ok (.bipush 32, 2) := by decide +kernel
theorem d_Ref_init_126 : decode prog_8_method_1_code 126 = .ok (.newarray .long, 2) := by decide +kernel
theorem d_Ref_init_128 : decode prog_8_method_1_code 128 = .ok (.putfield 57, 3) := by decide +kernel
theorem d_Ref_init_131 : decode prog_8_method_1_code 131 = .ok (.aload_n 0, 1) := by decide +kernel
theorem d_Ref_init_132 : decode prog_8_method_1_code 132 = .ok (.bipush 96, 2) := by decide +kernel
theorem d_Ref_init_134 : decode prog_8_method_1_code 134 = .ok (.newarray .long, 2) := by decide +kernel
theorem d_Ref_init_136 : decode prog_8_method_1_code 136 = .ok (.putfield 60, 3) := by decide +kernel
theorem d_Ref_init_139 : decode prog_8_method_1_code 139 = .ok (.aload_n 0, 1) := by decide +kernel
theorem d_Ref_init_140 : decode prog_8_method_1_code 140 = .ok (.bipush 32, 2) := by decide +kernel
theorem d_Ref_init_142 : decode prog_8_method_1_code 142 = .ok (.newarray .long, 2) := by decide +kernel
theorem d_Ref_init_144 : decode prog_8_method_1_code 144 = .ok (.putfield 63, 3) := by decide +kernel
theorem d_Ref_init_147 : decode prog_8_method_1_code 147 = .ok (.aload_n 0, 1) := by decide +kernel
theorem d_Ref_init_148 : decode prog_8_method_1_code 148 = .ok (.bipush 32, 2) := by decide +kernel
theorem d_Ref_init_150 : decode prog_8_method_1_code 150 = .ok (.newarray .long, 2) := by decide +kernel
theorem d_Ref_init_152 : decode prog_8_method_1_code 152 = .ok (.putfield 66, 3) := by decide +kernel
theorem d_Ref_init_155 : decode prog_8_method_1_code 155 = .ok (.return_, 1) := by decide +kernel
theorem d_Ref_thrown_0 : decode prog_8_method_2_code 0 = .ok (.aload_n 0, 1) := by decide +kernel
theorem d_Ref_thrown_1 : decode prog_8_method_2_code 1 = .ok (.getfield 69, 3) := by decide +kernel
theorem d_Ref_thrown_4 : decode prog_8_method_2_code 4 = .ok (.ireturn, 1) := by decide +kernel
theorem d_Ref_fail_0 : decode prog_8_method_3_code 0 = .ok (.aload_n 0, 1) := by decide +kernel
theorem d_Ref_fail_1 : decode prog_8_method_3_code 1 = .ok (.iload_n 1, 1) := by decide +kernel
theorem d_Ref_fail_2 : decode prog_8_method_3_code 2 = .ok (.putfield 69, 3) := by decide +kernel
theorem d_Ref_fail_5 : decode prog_8_method_3_code 5 = .ok (.iconst 0, 1) := by decide +kernel
theorem d_Ref_fail_6 : decode prog_8_method_3_code 6 = .ok (.ireturn, 1) := by decide +kernel
theorem d_Ref_of_0 : decode prog_8_method_4_code 0 = .ok (.lload_n 0, 1) := by decide +kernel
theorem d_Ref_of_1 : decode prog_8_method_4_code 1 = .ok (.ldc2_w 72, 3) := by decide +kernel
theorem d_Ref_of_4 : decode prog_8_method_4_code 4 = .ok (.lrem, 1) := by decide +kernel
theorem d_Ref_of_5 : decode prog_8_method_4_code 5 = .ok (.lstore_n 2, 1) := by decide +kernel
theorem d_Ref_of_6 : decode prog_8_method_4_code 6 = .ok (.lload_n 2, 1) := by decide +kernel
theorem d_Ref_of_7 : decode prog_8_method_4_code 7 = .ok (.lconst 0, 1) := by decide +kernel
theorem d_Ref_of_8 : decode prog_8_method_4_code 8 = .ok (.lcmp, 1) := by decide +kernel
theorem d_Ref_of_9 : decode prog_8_method_4_code 9 = .ok (.ifCond .ge 11, 3) := by decide +kernel
theorem d_Ref_of_12 : decode prog_8_method_4_code 12 = .ok (.lload_n 2, 1) := by decide +kernel
theorem d_Ref_of_13 : decode prog_8_method_4_code 13 = .ok (.ldc2_w 72, 3) := by decide +kernel
theorem d_Ref_of_16 : decode prog_8_method_4_code 16 = .ok (.ladd, 1) := by decide +kernel
theorem d_Ref_of_17 : decode prog_8_method_4_code 17 = .ok (.goto 4, 3) := by decide +kernel
theorem d_Ref_of_20 : decode prog_8_method_4_code 20 = .ok (.lload_n 2, 1) := by decide +kernel
theorem d_Ref_of_21 : decode prog_8_method_4_code 21 = .ok (.lreturn, 1) := by decide +kernel
theorem d_Ref_centred_0 : decode prog_8_method_5_code 0 = .ok (.lload_n 0, 1) := by decide +kernel
theorem d_Ref_centred_1 : decode prog_8_method_5_code 1 = .ok (.invokestatic 74, 3) := by decide +kernel
theorem d_Ref_centred_4 : decode prog_8_method_5_code 4 = .ok (.lstore_n 2, 1) := by decide +kernel
theorem d_Ref_centred_5 : decode prog_8_method_5_code 5 = .ok (.lload_n 2, 1) := by decide +kernel
theorem d_Ref_centred_6 : decode prog_8_method_5_code 6 = .ok (.ldc2_w 78, 3) := by decide +kernel
theorem d_Ref_centred_9 : decode prog_8_method_5_code 9 = .ok (.lcmp, 1) := by decide +kernel
theorem d_Ref_centred_10 : decode prog_8_method_5_code 10 = .ok (.ifCond .le 11, 3) := by decide +kernel
theorem d_Ref_centred_13 : decode prog_8_method_5_code 13 = .ok (.lload_n 2, 1) := by decide +kernel
theorem d_Ref_centred_14 : decode prog_8_method_5_code 14 = .ok (.ldc2_w 72, 3) := by decide +kernel
theorem d_Ref_centred_17 : decode prog_8_method_5_code 17 = .ok (.lsub, 1) := by decide +kernel
theorem d_Ref_centred_18 : decode prog_8_method_5_code 18 = .ok (.goto 4, 3) := by decide +kernel
theorem d_Ref_centred_21 : decode prog_8_method_5_code 21 = .ok (.lload_n 2, 1) := by decide +kernel
theorem d_Ref_centred_22 : decode prog_8_method_5_code 22 = .ok (.lreturn, 1) := by decide +kernel
theorem d_Ref_product_0 : decode prog_8_method_6_code 0 = .ok (.iconst 0, 1) := by decide +kernel
theorem d_Ref_product_1 : decode prog_8_method_6_code 1 = .ok (.istore 4, 2) := by decide +kernel
theorem d_Ref_product_3 : decode prog_8_method_6_code 3 = .ok (.iload 4, 2) := by decide +kernel
theorem d_Ref_product_5 : decode prog_8_method_6_code 5 = .ok (.aload_n 0, 1) := by decide +kernel
theorem d_Ref_product_6 : decode prog_8_method_6_code 6 = .ok (.getfield 7, 3) := by decide +kernel
theorem d_Ref_product_9 : decode prog_8_method_6_code 9 = .ok (.if_icmp .ge 94, 3) := by decide +kernel
theorem d_Ref_product_12 : decode prog_8_method_6_code 12 = .ok (.lconst 0, 1) := by decide +kernel
theorem d_Ref_product_13 : decode prog_8_method_6_code 13 = .ok (.lstore 5, 2) := by decide +kernel
theorem d_Ref_product_15 : decode prog_8_method_6_code 15 = .ok (.iconst 0, 1) := by decide +kernel
theorem d_Ref_product_16 : decode prog_8_method_6_code 16 = .ok (.istore 7, 2) := by decide +kernel
theorem d_Ref_product_18 : decode prog_8_method_6_code 18 = .ok (.iload 7, 2) := by decide +kernel
theorem d_Ref_product_20 : decode prog_8_method_6_code 20 = .ok (.iload 4, 2) := by decide +kernel
theorem d_Ref_product_22 : decode prog_8_method_6_code 22 = .ok (.if_icmp .gt 26, 3) := by decide +kernel
theorem d_Ref_product_25 : decode prog_8_method_6_code 25 = .ok (.lload 5, 2) := by decide +kernel
theorem d_Ref_product_27 : decode prog_8_method_6_code 27 = .ok (.aload_n 1, 1) := by decide +kernel
theorem d_Ref_product_28 : decode prog_8_method_6_code 28 = .ok (.iload 7, 2) := by decide +kernel
theorem d_Ref_product_30 : decode prog_8_method_6_code 30 = .ok (.laload, 1) := by decide +kernel
theorem d_Ref_product_31 : decode prog_8_method_6_code 31 = .ok (.aload_n 2, 1) := by decide +kernel
theorem d_Ref_product_32 : decode prog_8_method_6_code 32 = .ok (.iload 4, 2) := by decide +kernel
theorem d_Ref_product_34 : decode prog_8_method_6_code 34 = .ok (.iload 7, 2) := by decide +kernel
theorem d_Ref_product_36 : decode prog_8_method_6_code 36 = .ok (.isub, 1) := by decide +kernel
theorem d_Ref_product_37 : decode prog_8_method_6_code 37 = .ok (.laload, 1) := by decide +kernel
theorem d_Ref_product_38 : decode prog_8_method_6_code 38 = .ok (.lmul, 1) := by decide +kernel
theorem d_Ref_product_39 : decode prog_8_method_6_code 39 = .ok (.ladd, 1) := by decide +kernel
theorem d_Ref_product_40 : decode prog_8_method_6_code 40 = .ok (.lstore 5, 2) := by decide +kernel
theorem d_Ref_product_42 : decode prog_8_method_6_code 42 = .ok (.iinc 7 1, 3) := by decide +kernel
theorem d_Ref_product_45 : decode prog_8_method_6_code 45 = .ok (.goto (-27), 3) := by decide +kernel
theorem d_Ref_product_48 : decode prog_8_method_6_code 48 = .ok (.iload 4, 2) := by decide +kernel
theorem d_Ref_product_50 : decode prog_8_method_6_code 50 = .ok (.iconst 1, 1) := by decide +kernel
theorem d_Ref_product_51 : decode prog_8_method_6_code 51 = .ok (.iadd, 1) := by decide +kernel
theorem d_Ref_product_52 : decode prog_8_method_6_code 52 = .ok (.istore 7, 2) := by decide +kernel
theorem d_Ref_product_54 : decode prog_8_method_6_code 54 = .ok (.iload 7, 2) := by decide +kernel
theorem d_Ref_product_56 : decode prog_8_method_6_code 56 = .ok (.aload_n 0, 1) := by decide +kernel
theorem d_Ref_product_57 : decode prog_8_method_6_code 57 = .ok (.getfield 7, 3) := by decide +kernel
theorem d_Ref_product_60 : decode prog_8_method_6_code 60 = .ok (.if_icmp .ge 31, 3) := by decide +kernel
theorem d_Ref_product_63 : decode prog_8_method_6_code 63 = .ok (.lload 5, 2) := by decide +kernel
theorem d_Ref_product_65 : decode prog_8_method_6_code 65 = .ok (.aload_n 1, 1) := by decide +kernel
theorem d_Ref_product_66 : decode prog_8_method_6_code 66 = .ok (.iload 7, 2) := by decide +kernel
theorem d_Ref_product_68 : decode prog_8_method_6_code 68 = .ok (.laload, 1) := by decide +kernel
theorem d_Ref_product_69 : decode prog_8_method_6_code 69 = .ok (.aload_n 2, 1) := by decide +kernel
theorem d_Ref_product_70 : decode prog_8_method_6_code 70 = .ok (.aload_n 0, 1) := by decide +kernel
theorem d_Ref_product_71 : decode prog_8_method_6_code 71 = .ok (.getfield 7, 3) := by decide +kernel
theorem d_Ref_product_74 : decode prog_8_method_6_code 74 = .ok (.iload 4, 2) := by decide +kernel
theorem d_Ref_product_76 : decode prog_8_method_6_code 76 = .ok (.iadd, 1) := by decide +kernel
theorem d_Ref_product_77 : decode prog_8_method_6_code 77 = .ok (.iload 7, 2) := by decide +kernel
theorem d_Ref_product_79 : decode prog_8_method_6_code 79 = .ok (.isub, 1) := by decide +kernel
theorem d_Ref_product_80 : decode prog_8_method_6_code 80 = .ok (.laload, 1) := by decide +kernel
theorem d_Ref_product_81 : decode prog_8_method_6_code 81 = .ok (.lmul, 1) := by decide +kernel
theorem d_Ref_product_82 : decode prog_8_method_6_code 82 = .ok (.lsub, 1) := by decide +kernel
theorem d_Ref_product_83 : decode prog_8_method_6_code 83 = .ok (.lstore 5, 2) := by decide +kernel
theorem d_Ref_product_85 : decode prog_8_method_6_code 85 = .ok (.iinc 7 1, 3) := by decide +kernel
theorem d_Ref_product_88 : decode prog_8_method_6_code 88 = .ok (.goto (-34), 3) := by decide +kernel
theorem d_Ref_product_91 : decode prog_8_method_6_code 91 = .ok (.aload_n 3, 1) := by decide +kernel
theorem d_Ref_product_92 : decode prog_8_method_6_code 92 = .ok (.iload 4, 2) := by decide +kernel
theorem d_Ref_product_94 : decode prog_8_method_6_code 94 = .ok (.lload 5, 2) := by decide +kernel
theorem d_Ref_product_96 : decode prog_8_method_6_code 96 = .ok (.lastore, 1) := by decide +kernel
theorem d_Ref_product_97 : decode prog_8_method_6_code 97 = .ok (.iinc 4 1, 3) := by decide +kernel
theorem d_Ref_product_100 : decode prog_8_method_6_code 100 = .ok (.goto (-97), 3) := by decide +kernel
theorem d_Ref_product_103 : decode prog_8_method_6_code 103 = .ok (.return_, 1) := by decide +kernel
theorem d_Ref_reduce_0 : decode prog_8_method_7_code 0 = .ok (.iconst 0, 1) := by decide +kernel
theorem d_Ref_reduce_1 : decode prog_8_method_7_code 1 = .ok (.istore_n 2, 1) := by decide +kernel
theorem d_Ref_reduce_2 : decode prog_8_method_7_code 2 = .ok (.iload_n 2, 1) := by decide +kernel
theorem d_Ref_reduce_3 : decode prog_8_method_7_code 3 = .ok (.aload_n 0, 1) := by decide +kernel
theorem d_Ref_reduce_4 : decode prog_8_method_7_code 4 = .ok (.getfield 7, 3) := by decide +kernel
theorem d_Ref_reduce_7 : decode prog_8_method_7_code 7 = .ok (.if_icmp .ge 18, 3) := by decide +kernel
theorem d_Ref_reduce_10 : decode prog_8_method_7_code 10 = .ok (.aload_n 1, 1) := by decide +kernel
theorem d_Ref_reduce_11 : decode prog_8_method_7_code 11 = .ok (.iload_n 2, 1) := by decide +kernel
theorem d_Ref_reduce_12 : decode prog_8_method_7_code 12 = .ok (.aload_n 1, 1) := by decide +kernel
theorem d_Ref_reduce_13 : decode prog_8_method_7_code 13 = .ok (.iload_n 2, 1) := by decide +kernel
theorem d_Ref_reduce_14 : decode prog_8_method_7_code 14 = .ok (.laload, 1) := by decide +kernel
theorem d_Ref_reduce_15 : decode prog_8_method_7_code 15 = .ok (.invokestatic 74, 3) := by decide +kernel
theorem d_Ref_reduce_18 : decode prog_8_method_7_code 18 = .ok (.lastore, 1) := by decide +kernel
theorem d_Ref_reduce_19 : decode prog_8_method_7_code 19 = .ok (.iinc 2 1, 3) := by decide +kernel
theorem d_Ref_reduce_22 : decode prog_8_method_7_code 22 = .ok (.goto (-20), 3) := by decide +kernel
theorem d_Ref_reduce_25 : decode prog_8_method_7_code 25 = .ok (.return_, 1) := by decide +kernel
theorem d_Ref_reduced_0 : decode prog_8_method_8_code 0 = .ok (.iconst 0, 1) := by decide +kernel
theorem d_Ref_reduced_1 : decode prog_8_method_8_code 1 = .ok (.istore 4, 2) := by decide +kernel
theorem d_Ref_reduced_3 : decode prog_8_method_8_code 3 = .ok (.iload 4, 2) := by decide +kernel
theorem d_Ref_reduced_5 : decode prog_8_method_8_code 5 = .ok (.aload_n 0, 1) := by decide +kernel
theorem d_Ref_reduced_6 : decode prog_8_method_8_code 6 = .ok (.getfield 7, 3) := by decide +kernel
theorem d_Ref_reduced_9 : decode prog_8_method_8_code 9 = .ok (.if_icmp .ge 102, 3) := by decide +kernel
theorem d_Ref_reduced_12 : decode prog_8_method_8_code 12 = .ok (.lconst 0, 1) := by decide +kernel
theorem d_Ref_reduced_13 : decode prog_8_method_8_code 13 = .ok (.lstore 5, 2) := by decide +kernel
theorem d_Ref_reduced_15 : decode prog_8_method_8_code 15 = .ok (.iconst 0, 1) := by decide +kernel
theorem d_Ref_reduced_16 : decode prog_8_method_8_code 16 = .ok (.istore 7, 2) := by decide +kernel
theorem d_Ref_reduced_18 : decode prog_8_method_8_code 18 = .ok (.iload 7, 2) := by decide +kernel
theorem d_Ref_reduced_20 : decode prog_8_method_8_code 20 = .ok (.aload_n 0, 1) := by decide +kernel
theorem d_Ref_reduced_21 : decode prog_8_method_8_code 21 = .ok (.getfield 7, 3) := by decide +kernel
theorem d_Ref_reduced_24 : decode prog_8_method_8_code 24 = .ok (.if_icmp .ge 72, 3) := by decide +kernel
theorem d_Ref_reduced_27 : decode prog_8_method_8_code 27 = .ok (.iload 4, 2) := by decide +kernel
theorem d_Ref_reduced_29 : decode prog_8_method_8_code 29 = .ok (.iload 7, 2) := by decide +kernel
theorem d_Ref_reduced_31 : decode prog_8_method_8_code 31 = .ok (.isub, 1) := by decide +kernel
theorem d_Ref_reduced_32 : decode prog_8_method_8_code 32 = .ok (.istore 8, 2) := by decide +kernel
theorem d_Ref_reduced_34 : decode prog_8_method_8_code 34 = .ok (.aload_n 1, 1) := by decide +kernel
theorem d_Ref_reduced_35 : decode prog_8_method_8_code 35 = .ok (.iload 7, 2) := by decide +kernel
theorem d_Ref_reduced_37 : decode prog_8_method_8_code 37 = .ok (.laload, 1) := by decide +kernel
theorem d_Ref_reduced_38 : decode prog_8_method_8_code 38 = .ok (.ldc2_w 72, 3) := by decide +kernel
theorem d_Ref_reduced_41 : decode prog_8_method_8_code 41 = .ok (.lrem, 1) := by decide +kernel
theorem d_Ref_reduced_42 : decode prog_8_method_8_code 42 = .ok (.aload_n 2, 1) := by decide +kernel
theorem d_Ref_reduced_43 : decode prog_8_method_8_code 43 = .ok (.iload 8, 2) := by decide +kernel
theorem d_Ref_reduced_45 : decode prog_8_method_8_code 45 = .ok (.ifCond .ge 13, 3) := by decide +kernel
theorem d_Ref_reduced_48 : decode prog_8_method_8_code 48 = .ok (.iload 8, 2) := by decide +kernel
theorem d_Ref_reduced_50 : decode prog_8_method_8_code 50 = .ok (.aload_n 0, 1) := by decide +kernel
theorem d_Ref_reduced_51 : decode prog_8_method_8_code 51 = .ok (.getfield 7, 3) := by decide +kernel
theorem d_Ref_reduced_54 : decode prog_8_method_8_code 54 = .ok (.iadd, 1) := by decide +kernel
theorem d_Ref_reduced_55 : decode prog_8_method_8_code 55 = .ok (.goto 5, 3) := by decide +kernel
theorem d_Ref_reduced_58 : decode prog_8_method_8_code 58 = .ok (.iload 8, 2) := by decide +kernel
theorem d_Ref_reduced_60 : decode prog_8_method_8_code 60 = .ok (.laload, 1) := by decide +kernel
theorem d_Ref_reduced_61 : decode prog_8_method_8_code 61 = .ok (.ldc2_w 72, 3) := by decide +kernel
theorem d_Ref_reduced_64 : decode prog_8_method_8_code 64 = .ok (.lrem, 1) := by decide +kernel
theorem d_Ref_reduced_65 : decode prog_8_method_8_code 65 = .ok (.lmul, 1) := by decide +kernel
theorem d_Ref_reduced_66 : decode prog_8_method_8_code 66 = .ok (.ldc2_w 72, 3) := by decide +kernel
theorem d_Ref_reduced_69 : decode prog_8_method_8_code 69 = .ok (.lrem, 1) := by decide +kernel
theorem d_Ref_reduced_70 : decode prog_8_method_8_code 70 = .ok (.lstore 9, 2) := by decide +kernel
theorem d_Ref_reduced_72 : decode prog_8_method_8_code 72 = .ok (.lload 5, 2) := by decide +kernel
theorem d_Ref_reduced_74 : decode prog_8_method_8_code 74 = .ok (.iload 8, 2) := by decide +kernel
theorem d_Ref_reduced_76 : decode prog_8_method_8_code 76 = .ok (.ifCond .ge 9, 3) := by decide +kernel
theorem d_Ref_reduced_79 : decode prog_8_method_8_code 79 = .ok (.lload 9, 2) := by decide +kernel
theorem d_Ref_reduced_81 : decode prog_8_method_8_code 81 = .ok (.lneg, 1) := by decide +kernel
theorem d_Ref_reduced_82 : decode prog_8_method_8_code 82 = .ok (.goto 5, 3) := by decide +kernel
theorem d_Ref_reduced_85 : decode prog_8_method_8_code 85 = .ok (.lload 9, 2) := by decide +kernel
theorem d_Ref_reduced_87 : decode prog_8_method_8_code 87 = .ok (.ladd, 1) := by decide +kernel
theorem d_Ref_reduced_88 : decode prog_8_method_8_code 88 = .ok (.lstore 5, 2) := by decide +kernel
theorem d_Ref_reduced_90 : decode prog_8_method_8_code 90 = .ok (.iinc 7 1, 3) := by decide +kernel
theorem d_Ref_reduced_93 : decode prog_8_method_8_code 93 = .ok (.goto (-75), 3) := by decide +kernel
theorem d_Ref_reduced_96 : decode prog_8_method_8_code 96 = .ok (.aload_n 3, 1) := by decide +kernel
theorem d_Ref_reduced_97 : decode prog_8_method_8_code 97 = .ok (.iload 4, 2) := by decide +kernel
theorem d_Ref_reduced_99 : decode prog_8_method_8_code 99 = .ok (.lload 5, 2) := by decide +kernel
theorem d_Ref_reduced_101 : decode prog_8_method_8_code 101 = .ok (.invokestatic 74, 3) := by decide +kernel
theorem d_Ref_reduced_104 : decode prog_8_method_8_code 104 = .ok (.lastore, 1) := by decide +kernel
theorem d_Ref_reduced_105 : decode prog_8_method_8_code 105 = .ok (.iinc 4 1, 3) := by decide +kernel
theorem d_Ref_reduced_108 : decode prog_8_method_8_code 108 = .ok (.goto (-105), 3) := by decide +kernel
theorem d_Ref_reduced_111 : decode prog_8_method_8_code 111 = .ok (.return_, 1) := by decide +kernel
theorem d_Ref_draw_0 : decode prog_8_method_9_code 0 = .ok (.aload_n 0, 1) := by decide +kernel
theorem d_Ref_draw_1 : decode prog_8_method_9_code 1 = .ok (.ldc 80, 2) := by decide +kernel
theorem d_Ref_draw_3 : decode prog_8_method_9_code 3 = .ok (.aload_n 0, 1) := by decide +kernel
theorem d_Ref_draw_4 : decode prog_8_method_9_code 4 = .ok (.getfield 81, 3) := by decide +kernel
theorem d_Ref_draw_7 : decode prog_8_method_9_code 7 = .ok (.imul, 1) := by decide +kernel
theorem d_Ref_draw_8 : decode prog_8_method_9_code 8 = .ok (.ldc 84, 2) := by decide +kernel
theorem d_Ref_draw_10 : decode prog_8_method_9_code 10 = .ok (.iadd, 1) := by decide +kernel
theorem d_Ref_draw_11 : decode prog_8_method_9_code 11 = .ok (.putfield 81, 3) := by decide +kernel
theorem d_Ref_draw_14 : decode prog_8_method_9_code 14 = .ok (.aload_n 0, 1) := by decide +kernel
theorem d_Ref_draw_15 : decode prog_8_method_9_code 15 = .ok (.getfield 81, 3) := by decide +kernel
theorem d_Ref_draw_18 : decode prog_8_method_9_code 18 = .ok (.bipush 16, 2) := by decide +kernel
theorem d_Ref_draw_20 : decode prog_8_method_9_code 20 = .ok (.iushr, 1) := by decide +kernel
theorem d_Ref_draw_21 : decode prog_8_method_9_code 21 = .ok (.ireturn, 1) := by decide +kernel
theorem d_Ref_ternary_0 : decode prog_8_method_10_code 0 = .ok (.iconst 0, 1) := by decide +kernel
theorem d_Ref_ternary_1 : decode prog_8_method_10_code 1 = .ok (.istore_n 2, 1) := by decide +kernel
theorem d_Ref_ternary_2 : decode prog_8_method_10_code 2 = .ok (.iload_n 2, 1) := by decide +kernel
theorem d_Ref_ternary_3 : decode prog_8_method_10_code 3 = .ok (.aload_n 0, 1) := by decide +kernel
theorem d_Ref_ternary_4 : decode prog_8_method_10_code 4 = .ok (.getfield 7, 3) := by decide +kernel
theorem d_Ref_ternary_7 : decode prog_8_method_10_code 7 = .ok (.if_icmp .ge 21, 3) := by decide +kernel
theorem d_Ref_ternary_10 : decode prog_8_method_10_code 10 = .ok (.aload_n 1, 1) := by decide +kernel
theorem d_Ref_ternary_11 : decode prog_8_method_10_code 11 = .ok (.iload_n 2, 1) := by decide +kernel
theorem d_Ref_ternary_12 : decode prog_8_method_10_code 12 = .ok (.aload_n 0, 1) := by decide +kernel
theorem d_Ref_ternary_13 : decode prog_8_method_10_code 13 = .ok (.invokevirtual 85, 3) := by decide +kernel
theorem d_Ref_ternary_16 : decode prog_8_method_10_code 16 = .ok (.iconst 3, 1) := by decide +kernel
theorem d_Ref_ternary_17 : decode prog_8_method_10_code 17 = .ok (.irem, 1) := by decide +kernel
theorem d_Ref_ternary_18 : decode prog_8_method_10_code 18 = .ok (.iconst 1, 1) := by decide +kernel
theorem d_Ref_ternary_19 : decode prog_8_method_10_code 19 = .ok (.isub, 1) := by decide +kernel
theorem d_Ref_ternary_20 : decode prog_8_method_10_code 20 = .ok (.i2l, 1) := by decide +kernel
theorem d_Ref_ternary_21 : decode prog_8_method_10_code 21 = .ok (.lastore, 1) := by decide +kernel
theorem d_Ref_ternary_22 : decode prog_8_method_10_code 22 = .ok (.iinc 2 1, 3) := by decide +kernel
theorem d_Ref_ternary_25 : decode prog_8_method_10_code 25 = .ok (.goto (-23), 3) := by decide +kernel
theorem d_Ref_ternary_28 : decode prog_8_method_10_code 28 = .ok (.return_, 1) := by decide +kernel
theorem d_Ref_error_0 : decode prog_8_method_11_code 0 = .ok (.iconst 0, 1) := by decide +kernel
theorem d_Ref_error_1 : decode prog_8_method_11_code 1 = .ok (.istore_n 2, 1) := by decide +kernel
theorem d_Ref_error_2 : decode prog_8_method_11_code 2 = .ok (.iload_n 2, 1) := by decide +kernel
theorem d_Ref_error_3 : decode prog_8_method_11_code 3 = .ok (.aload_n 0, 1) := by decide +kernel
theorem d_Ref_error_4 : decode prog_8_method_11_code 4 = .ok (.getfield 7, 3) := by decide +kernel
theorem d_Ref_error_7 : decode prog_8_method_11_code 7 = .ok (.if_icmp .ge 51, 3) := by decide +kernel
theorem d_Ref_error_10 : decode prog_8_method_11_code 10 = .ok (.aload_n 0, 1) := by decide +kernel
theorem d_Ref_error_11 : decode prog_8_method_11_code 11 = .ok (.invokevirtual 85, 3) := by decide +kernel
theorem d_Ref_error_14 : decode prog_8_method_11_code 14 = .ok (.istore_n 3, 1) := by decide +kernel
theorem d_Ref_error_15 : decode prog_8_method_11_code 15 = .ok (.aload_n 1, 1) := by decide +kernel
theorem d_Ref_error_16 : decode prog_8_method_11_code 16 = .ok (.iload_n 2, 1) := by decide +kernel
theorem d_Ref_error_17 : decode prog_8_method_11_code 17 = .ok (.iload_n 3, 1) := by decide +kernel
theorem d_Ref_error_18 : decode prog_8_method_11_code 18 = .ok (.iconst 1, 1) := by decide +kernel
theorem d_Ref_error_19 : decode prog_8_method_11_code 19 = .ok (.iand, 1) := by decide +kernel
theorem d_Ref_error_20 : decode prog_8_method_11_code 20 = .ok (.iload_n 3, 1) := by decide +kernel
theorem d_Ref_error_21 : decode prog_8_method_11_code 21 = .ok (.iconst 1, 1) := by decide +kernel
theorem d_Ref_error_22 : decode prog_8_method_11_code 22 = .ok (.ishr, 1) := by decide +kernel
theorem d_Ref_error_23 : decode prog_8_method_11_code 23 = .ok (.iconst 1, 1) := by decide +kernel
theorem d_Ref_error_24 : decode prog_8_method_11_code 24 = .ok (.iand, 1) := by decide +kernel
theorem d_Ref_error_25 : decode prog_8_method_11_code 25 = .ok (.iadd, 1) := by decide +kernel
theorem d_Ref_error_26 : decode prog_8_method_11_code 26 = .ok (.iload_n 3, 1) := by decide +kernel
theorem d_Ref_error_27 : decode prog_8_method_11_code 27 = .ok (.iconst 2, 1) := by decide +kernel
theorem d_Ref_error_28 : decode prog_8_method_11_code 28 = .ok (.ishr, 1) := by decide +kernel
theorem d_Ref_error_29 : decode prog_8_method_11_code 29 = .ok (.iconst 1, 1) := by decide +kernel
theorem d_Ref_error_30 : decode prog_8_method_11_code 30 = .ok (.iand, 1) := by decide +kernel
theorem d_Ref_error_31 : decode prog_8_method_11_code 31 = .ok (.iadd, 1) := by decide +kernel
theorem d_Ref_error_32 : decode prog_8_method_11_code 32 = .ok (.iload_n 3, 1) := by decide +kernel
theorem d_Ref_error_33 : decode prog_8_method_11_code 33 = .ok (.iconst 3, 1) := by decide +kernel
theorem d_Ref_error_34 : decode prog_8_method_11_code 34 = .ok (.ishr, 1) := by decide +kernel
theorem d_Ref_error_35 : decode prog_8_method_11_code 35 = .ok (.iconst 1, 1) := by decide +kernel
theorem d_Ref_error_36 : decode prog_8_method_11_code 36 = .ok (.iand, 1) := by decide +kernel
theorem d_Ref_error_37 : decode prog_8_method_11_code 37 = .ok (.isub, 1) := by decide +kernel
theorem d_Ref_error_38 : decode prog_8_method_11_code 38 = .ok (.iload_n 3, 1) := by decide +kernel
theorem d_Ref_error_39 : decode prog_8_method_11_code 39 = .ok (.iconst 4, 1) := by decide +kernel
theorem d_Ref_error_40 : decode prog_8_method_11_code 40 = .ok (.ishr, 1) := by decide +kernel
theorem d_Ref_error_41 : decode prog_8_method_11_code 41 = .ok (.iconst 1, 1) := by decide +kernel
theorem d_Ref_error_42 : decode prog_8_method_11_code 42 = .ok (.iand, 1) := by decide +kernel
theorem d_Ref_error_43 : decode prog_8_method_11_code 43 = .ok (.isub, 1) := by decide +kernel
theorem d_Ref_error_44 : decode prog_8_method_11_code 44 = .ok (.iload_n 3, 1) := by decide +kernel
theorem d_Ref_error_45 : decode prog_8_method_11_code 45 = .ok (.iconst 5, 1) := by decide +kernel
theorem d_Ref_error_46 : decode prog_8_method_11_code 46 = .ok (.ishr, 1) := by decide +kernel
theorem d_Ref_error_47 : decode prog_8_method_11_code 47 = .ok (.iconst 1, 1) := by decide +kernel
theorem d_Ref_error_48 : decode prog_8_method_11_code 48 = .ok (.iand, 1) := by decide +kernel
theorem d_Ref_error_49 : decode prog_8_method_11_code 49 = .ok (.isub, 1) := by decide +kernel
theorem d_Ref_error_50 : decode prog_8_method_11_code 50 = .ok (.i2l, 1) := by decide +kernel
theorem d_Ref_error_51 : decode prog_8_method_11_code 51 = .ok (.lastore, 1) := by decide +kernel
theorem d_Ref_error_52 : decode prog_8_method_11_code 52 = .ok (.iinc 2 1, 3) := by decide +kernel
theorem d_Ref_error_55 : decode prog_8_method_11_code 55 = .ok (.goto (-53), 3) := by decide +kernel
theorem d_Ref_error_58 : decode prog_8_method_11_code 58 = .ok (.return_, 1) := by decide +kernel
theorem d_Ref_uniform_0 : decode prog_8_method_12_code 0 = .ok (.iconst 0, 1) := by decide +kernel
theorem d_Ref_uniform_1 : decode prog_8_method_12_code 1 = .ok (.istore_n 2, 1) := by decide +kernel
theorem d_Ref_uniform_2 : decode prog_8_method_12_code 2 = .ok (.iload_n 2, 1) := by decide +kernel
theorem d_Ref_uniform_3 : decode prog_8_method_12_code 3 = .ok (.aload_n 0, 1) := by decide +kernel
theorem d_Ref_uniform_4 : decode prog_8_method_12_code 4 = .ok (.getfield 7, 3) := by decide +kernel
theorem d_Ref_uniform_7 : decode prog_8_method_12_code 7 = .ok (.if_icmp .ge 33, 3) := by decide +kernel
theorem d_Ref_uniform_10 : decode prog_8_method_12_code 10 = .ok (.aload_n 0, 1) := by decide +kernel
theorem d_Ref_uniform_11 : decode prog_8_method_12_code 11 = .ok (.invokevirtual 85, 3) := by decide +kernel
theorem d_Ref_uniform_14 : decode prog_8_method_12_code 14 = .ok (.i2l, 1) := by decide +kernel
theorem d_Ref_uniform_15 : decode prog_8_method_12_code 15 = .ok (.lstore_n 3, 1) := by decide +kernel
theorem d_Ref_uniform_16 : decode prog_8_method_12_code 16 = .ok (.aload_n 1, 1) := by decide +kernel
theorem d_Ref_uniform_17 : decode prog_8_method_12_code 17 = .ok (.iload_n 2, 1) := by decide +kernel
theorem d_Ref_uniform_18 : decode prog_8_method_12_code 18 = .ok (.ldc2_w 89, 3) := by decide +kernel
theorem d_Ref_uniform_21 : decode prog_8_method_12_code 21 = .ok (.lload_n 3, 1) := by decide +kernel
theorem d_Ref_uniform_22 : decode prog_8_method_12_code 22 = .ok (.lmul, 1) := by decide +kernel
theorem d_Ref_uniform_23 : decode prog_8_method_12_code 23 = .ok (.aload_n 0, 1) := by decide +kernel
theorem d_Ref_uniform_24 : decode prog_8_method_12_code 24 = .ok (.invokevirtual 85, 3) := by decide +kernel
theorem d_Ref_uniform_27 : decode prog_8_method_12_code 27 = .ok (.i2l, 1) := by decide +kernel
theorem d_Ref_uniform_28 : decode prog_8_method_12_code 28 = .ok (.ladd, 1) := by decide +kernel
theorem d_Ref_uniform_29 : decode prog_8_method_12_code 29 = .ok (.ldc2_w 72, 3) := by decide +kernel
theorem d_Ref_uniform_32 : decode prog_8_method_12_code 32 = .ok (.lrem, 1) := by decide +kernel
theorem d_Ref_uniform_33 : decode prog_8_method_12_code 33 = .ok (.lastore, 1) := by decide +kernel
theorem d_Ref_uniform_34 : decode prog_8_method_12_code 34 = .ok (.iinc 2 1, 3) := by decide +kernel
theorem d_Ref_uniform_37 : decode prog_8_method_12_code 37 = .ok (.goto (-35), 3) := by decide +kernel
theorem d_Ref_uniform_40 : decode prog_8_method_12_code 40 = .ok (.return_, 1) := by decide +kernel
theorem d_Ref_pairs_0 : decode prog_8_method_13_code 0 = .ok (.lconst 1, 1) := by decide +kernel
theorem d_Ref_pairs_1 : decode prog_8_method_13_code 1 = .ok (.lstore_n 2, 1) := by decide +kernel
theorem d_Ref_pairs_2 : decode prog_8_method_13_code 2 = .ok (.iconst 0, 1) := by decide +kernel
theorem d_Ref_pairs_3 : decode prog_8_method_13_code 3 = .ok (.istore 4, 2) := by decide +kernel
theorem d_Ref_pairs_5 : decode prog_8_method_13_code 5 = .ok (.iload 4, 2) := by decide +kernel
theorem d_Ref_pairs_7 : decode prog_8_method_13_code 7 = .ok (.bipush 6, 2) := by decide +kernel
theorem d_Ref_pairs_9 : decode prog_8_method_13_code 9 = .ok (.if_icmp .ge 148, 3) := by decide +kernel
theorem d_Ref_pairs_12 : decode prog_8_method_13_code 12 = .ok (.aload_n 0, 1) := by decide +kernel
theorem d_Ref_pairs_13 : decode prog_8_method_13_code 13 = .ok (.aload_n 0, 1) := by decide +kernel
theorem d_Ref_pairs_14 : decode prog_8_method_13_code 14 = .ok (.getfield 63, 3) := by decide +kernel
theorem d_Ref_pairs_17 : decode prog_8_method_13_code 17 = .ok (.invokevirtual 91, 3) := by decide +kernel
theorem d_Ref_pairs_20 : decode prog_8_method_13_code 20 = .ok (.aload_n 0, 1) := by decide +kernel
theorem d_Ref_pairs_21 : decode prog_8_method_13_code 21 = .ok (.aload_n 0, 1) := by decide +kernel
theorem d_Ref_pairs_22 : decode prog_8_method_13_code 22 = .ok (.getfield 66, 3) := by decide +kernel
theorem d_Ref_pairs_25 : decode prog_8_method_13_code 25 = .ok (.invokevirtual 95, 3) := by decide +kernel
theorem d_Ref_pairs_28 : decode prog_8_method_13_code 28 = .ok (.aload_n 0, 1) := by decide +kernel
theorem d_Ref_pairs_29 : decode prog_8_method_13_code 29 = .ok (.aload_n 0, 1) := by decide +kernel
theorem d_Ref_pairs_30 : decode prog_8_method_13_code 30 = .ok (.getfield 63, 3) := by decide +kernel
theorem d_Ref_pairs_33 : decode prog_8_method_13_code 33 = .ok (.aload_n 0, 1) := by decide +kernel
theorem d_Ref_pairs_34 : decode prog_8_method_13_code 34 = .ok (.getfield 16, 3) := by decide +kernel
theorem d_Ref_pairs_37 : decode prog_8_method_13_code 37 = .ok (.aload_n 0, 1) := by decide +kernel
theorem d_Ref_pairs_38 : decode prog_8_method_13_code 38 = .ok (.getfield 57, 3) := by decide +kernel
theorem d_Ref_pairs_41 : decode prog_8_method_13_code 41 = .ok (.invokevirtual 98, 3) := by decide +kernel
theorem d_Ref_pairs_44 : decode prog_8_method_13_code 44 = .ok (.iconst 0, 1) := by decide +kernel
theorem d_Ref_pairs_45 : decode prog_8_method_13_code 45 = .ok (.istore 5, 2) := by decide +kernel
theorem d_Ref_pairs_47 : decode prog_8_method_13_code 47 = .ok (.iload 5, 2) := by decide +kernel
theorem d_Ref_pairs_49 : decode prog_8_method_13_code 49 = .ok (.aload_n 0, 1) := by decide +kernel
theorem d_Ref_pairs_50 : decode prog_8_method_13_code 50 = .ok (.getfield 7, 3) := by decide +kernel
theorem d_Ref_pairs_53 : decode prog_8_method_13_code 53 = .ok (.if_icmp .ge 92, 3) := by decide +kernel
theorem d_Ref_pairs_56 : decode prog_8_method_13_code 56 = .ok (.aload_n 0, 1) := by decide +kernel
theorem d_Ref_pairs_57 : decode prog_8_method_13_code 57 = .ok (.getfield 26, 3) := by decide +kernel
theorem d_Ref_pairs_60 : decode prog_8_method_13_code 60 = .ok (.iload_n 1, 1) := by decide +kernel
theorem d_Ref_pairs_61 : decode prog_8_method_13_code 61 = .ok (.bipush 6, 2) := by decide +kernel
theorem d_Ref_pairs_63 : decode prog_8_method_13_code 63 = .ok (.imul, 1) := by decide +kernel
theorem d_Ref_pairs_64 : decode prog_8_method_13_code 64 = .ok (.iload 4, 2) := by decide +kernel
theorem d_Ref_pairs_66 : decode prog_8_method_13_code 66 = .ok (.iadd, 1) := by decide +kernel
theorem d_Ref_pairs_67 : decode prog_8_method_13_code 67 = .ok (.bipush 32, 2) := by decide +kernel
theorem d_Ref_pairs_69 : decode prog_8_method_13_code 69 = .ok (.imul, 1) := by decide +kernel
theorem d_Ref_pairs_70 : decode prog_8_method_13_code 70 = .ok (.iload 5, 2) := by decide +kernel
theorem d_Ref_pairs_72 : decode prog_8_method_13_code 72 = .ok (.iadd, 1) := by decide +kernel
theorem d_Ref_pairs_73 : decode prog_8_method_13_code 73 = .ok (.aload_n 0, 1) := by decide +kernel
theorem d_Ref_pairs_74 : decode prog_8_method_13_code 74 = .ok (.getfield 57, 3) := by decide +kernel
theorem d_Ref_pairs_77 : decode prog_8_method_13_code 77 = .ok (.iload 5, 2) := by decide +kernel
theorem d_Ref_pairs_79 : decode prog_8_method_13_code 79 = .ok (.laload, 1) := by decide +kernel
theorem d_Ref_pairs_80 : decode prog_8_method_13_code 80 = .ok (.aload_n 0, 1) := by decide +kernel
theorem d_Ref_pairs_81 : decode prog_8_method_13_code 81 = .ok (.getfield 66, 3) := by decide +kernel
theorem d_Ref_pairs_84 : decode prog_8_method_13_code 84 = .ok (.iload 5, 2) := by decide +kernel
theorem d_Ref_pairs_86 : decode prog_8_method_13_code 86 = .ok (.laload, 1) := by decide +kernel
theorem d_Ref_pairs_87 : decode prog_8_method_13_code 87 = .ok (.ladd, 1) := by decide +kernel
theorem d_Ref_pairs_88 : decode prog_8_method_13_code 88 = .ok (.lneg, 1) := by decide +kernel
theorem d_Ref_pairs_89 : decode prog_8_method_13_code 89 = .ok (.lload_n 2, 1) := by decide +kernel
theorem d_Ref_pairs_90 : decode prog_8_method_13_code 90 = .ok (.ldc2_w 72, 3) := by decide +kernel
theorem d_Ref_pairs_93 : decode prog_8_method_13_code 93 = .ok (.lrem, 1) := by decide +kernel
theorem d_Ref_pairs_94 : decode prog_8_method_13_code 94 = .ok (.aload_n 0, 1) := by decide +kernel
theorem d_Ref_pairs_95 : decode prog_8_method_13_code 95 = .ok (.getfield 54, 3) := by decide +kernel
theorem d_Ref_pairs_98 : decode prog_8_method_13_code 98 = .ok (.iload 5, 2) := by decide +kernel
theorem d_Ref_pairs_100 : decode prog_8_method_13_code 100 = .ok (.laload, 1) := by decide +kernel
theorem d_Ref_pairs_101 : decode prog_8_method_13_code 101 = .ok (.invokestatic 74, 3) := by decide +kernel
theorem d_Ref_pairs_104 : decode prog_8_method_13_code 104 = .ok (.lmul, 1) := by decide +kernel
theorem d_Ref_pairs_105 : decode prog_8_method_13_code 105 = .ok (.ldc2_w 72, 3) := by decide +kernel
theorem d_Ref_pairs_108 : decode prog_8_method_13_code 108 = .ok (.lrem, 1) := by decide +kernel
theorem d_Ref_pairs_109 : decode prog_8_method_13_code 109 = .ok (.ladd, 1) := by decide +kernel
theorem d_Ref_pairs_110 : decode prog_8_method_13_code 110 = .ok (.invokestatic 74, 3) := by decide +kernel
theorem d_Ref_pairs_113 : decode prog_8_method_13_code 113 = .ok (.lastore, 1) := by decide +kernel
theorem d_Ref_pairs_114 : decode prog_8_method_13_code 114 = .ok (.aload_n 0, 1) := by decide +kernel
theorem d_Ref_pairs_115 : decode prog_8_method_13_code 115 = .ok (.getfield 29, 3) := by decide +kernel
theorem d_Ref_pairs_118 : decode prog_8_method_13_code 118 = .ok (.iload_n 1, 1) := by decide +kernel
theorem d_Ref_pairs_119 : decode prog_8_method_13_code 119 = .ok (.bipush 6, 2) := by decide +kernel
theorem d_Ref_pairs_121 : decode prog_8_method_13_code 121 = .ok (.imul, 1) := by decide +kernel
theorem d_Ref_pairs_122 : decode prog_8_method_13_code 122 = .ok (.iload 4, 2) := by decide +kernel
theorem d_Ref_pairs_124 : decode prog_8_method_13_code 124 = .ok (.iadd, 1) := by decide +kernel
theorem d_Ref_pairs_125 : decode prog_8_method_13_code 125 = .ok (.bipush 32, 2) := by decide +kernel
theorem d_Ref_pairs_127 : decode prog_8_method_13_code 127 = .ok (.imul, 1) := by decide +kernel
theorem d_Ref_pairs_128 : decode prog_8_method_13_code 128 = .ok (.iload 5, 2) := by decide +kernel
theorem d_Ref_pairs_130 : decode prog_8_method_13_code 130 = .ok (.iadd, 1) := by decide +kernel
theorem d_Ref_pairs_131 : decode prog_8_method_13_code 131 = .ok (.aload_n 0, 1) := by decide +kernel
theorem d_Ref_pairs_132 : decode prog_8_method_13_code 132 = .ok (.getfield 63, 3) := by decide +kernel
theorem d_Ref_pairs_135 : decode prog_8_method_13_code 135 = .ok (.iload 5, 2) := by decide +kernel
theorem d_Ref_pairs_137 : decode prog_8_method_13_code 137 = .ok (.laload, 1) := by decide +kernel
theorem d_Ref_pairs_138 : decode prog_8_method_13_code 138 = .ok (.lastore, 1) := by decide +kernel
theorem d_Ref_pairs_139 : decode prog_8_method_13_code 139 = .ok (.iinc 5 1, 3) := by decide +kernel
theorem d_Ref_pairs_142 : decode prog_8_method_13_code 142 = .ok (.goto (-95), 3) := by decide +kernel
theorem d_Ref_pairs_145 : decode prog_8_method_13_code 145 = .ok (.lload_n 2, 1) := by decide +kernel
theorem d_Ref_pairs_146 : decode prog_8_method_13_code 146 = .ok (.ldc2_w 102, 3) := by decide +kernel
theorem d_Ref_pairs_149 : decode prog_8_method_13_code 149 = .ok (.lmul, 1) := by decide +kernel
theorem d_Ref_pairs_150 : decode prog_8_method_13_code 150 = .ok (.lstore_n 2, 1) := by decide +kernel
theorem d_Ref_pairs_151 : decode prog_8_method_13_code 151 = .ok (.iinc 4 1, 3) := by decide +kernel
theorem d_Ref_pairs_154 : decode prog_8_method_13_code 154 = .ok (.goto (-149), 3) := by decide +kernel
theorem d_Ref_pairs_157 : decode prog_8_method_13_code 157 = .ok (.return_, 1) := by decide +kernel
theorem d_Ref_empty__0 : decode prog_8_method_14_code 0 = .ok (.iconst 0, 1) := by decide +kernel
theorem d_Ref_empty__1 : decode prog_8_method_14_code 1 = .ok (.istore_n 1, 1) := by decide +kernel
theorem d_Ref_empty__2 : decode prog_8_method_14_code 2 = .ok (.iload_n 1, 1) := by decide +kernel
theorem d_Ref_empty__3 : decode prog_8_method_14_code 3 = .ok (.bipush 16, 2) := by decide +kernel
theorem d_Ref_empty__5 : decode prog_8_method_14_code 5 = .ok (.if_icmp .ge 16, 3) := by decide +kernel
theorem d_Ref_empty__8 : decode prog_8_method_14_code 8 = .ok (.aload_n 0, 1) := by decide +kernel
theorem d_Ref_empty__9 : decode prog_8_method_14_code 9 = .ok (.getfield 39, 3) := by decide +kernel
theorem d_Ref_empty__12 : decode prog_8_method_14_code 12 = .ok (.iload_n 1, 1) := by decide +kernel
theorem d_Ref_empty__13 : decode prog_8_method_14_code 13 = .ok (.iconst 0, 1) := by decide +kernel
theorem d_Ref_empty__14 : decode prog_8_method_14_code 14 = .ok (.iastore, 1) := by decide +kernel
theorem d_Ref_empty__15 : decode prog_8_method_14_code 15 = .ok (.iinc 1 1, 3) := by decide +kernel
theorem d_Ref_empty__18 : decode prog_8_method_14_code 18 = .ok (.goto (-16), 3) := by decide +kernel
theorem d_Ref_empty__21 : decode prog_8_method_14_code 21 = .ok (.return_, 1) := by decide +kernel
theorem d_Ref_begin_0 : decode prog_8_method_15_code 0 = .ok (.aload_n 0, 1) := by decide +kernel
theorem d_Ref_begin_1 : decode prog_8_method_15_code 1 = .ok (.iload_n 1, 1) := by decide +kernel
theorem d_Ref_begin_2 : decode prog_8_method_15_code 2 = .ok (.ifCond .lt 8, 3) := by decide +kernel
theorem d_Ref_begin_5 : decode prog_8_method_15_code 5 = .ok (.iload_n 1, 1) := by decide +kernel
theorem d_Ref_begin_6 : decode prog_8_method_15_code 6 = .ok (.iconst 2, 1) := by decide +kernel
theorem d_Ref_begin_7 : decode prog_8_method_15_code 7 = .ok (.if_icmp .le 7, 3) := by decide +kernel
theorem d_Ref_begin_10 : decode prog_8_method_15_code 10 = .ok (.iconst 1, 1) := by decide +kernel
theorem d_Ref_begin_11 : decode prog_8_method_15_code 11 = .ok (.goto 4, 3) := by decide +kernel
theorem d_Ref_begin_14 : decode prog_8_method_15_code 14 = .ok (.iconst 0, 1) := by decide +kernel
theorem d_Ref_begin_15 : decode prog_8_method_15_code 15 = .ok (.putfield 69, 3) := by decide +kernel
theorem d_Ref_begin_18 : decode prog_8_method_15_code 18 = .ok (.aload_n 0, 1) := by decide +kernel
theorem d_Ref_begin_19 : decode prog_8_method_15_code 19 = .ok (.getfield 69, 3) := by decide +kernel
theorem d_Ref_begin_22 : decode prog_8_method_15_code 22 = .ok (.ifCond .le 5, 3) := by decide +kernel
theorem d_Ref_begin_25 : decode prog_8_method_15_code 25 = .ok (.iconst 0, 1) := by decide +kernel
theorem d_Ref_begin_26 : decode prog_8_method_15_code 26 = .ok (.ireturn, 1) := by decide +kernel
theorem d_Ref_begin_27 : decode prog_8_method_15_code 27 = .ok (.aload_n 0, 1) := by decide +kernel
theorem d_Ref_begin_28 : decode prog_8_method_15_code 28 = .ok (.iload_n 1, 1) := by decide +kernel
theorem d_Ref_begin_29 : decode prog_8_method_15_code 29 = .ok (.putfield 104, 3) := by decide +kernel
theorem d_Ref_begin_32 : decode prog_8_method_15_code 32 = .ok (.aload_n 0, 1) := by decide +kernel
theorem d_Ref_begin_33 : decode prog_8_method_15_code 33 = .ok (.bipush 8, 2) := by decide +kernel
theorem d_Ref_begin_35 : decode prog_8_method_15_code 35 = .ok (.iload_n 1, 1) := by decide +kernel
theorem d_Ref_begin_36 : decode prog_8_method_15_code 36 = .ok (.ishl, 1) := by decide +kernel
theorem d_Ref_begin_37 : decode prog_8_method_15_code 37 = .ok (.putfield 7, 3) := by decide +kernel
theorem d_Ref_begin_40 : decode prog_8_method_15_code 40 = .ok (.aload_n 0, 1) := by decide +kernel
theorem d_Ref_begin_41 : decode prog_8_method_15_code 41 = .ok (.iload_n 1, 1) := by decide +kernel
theorem d_Ref_begin_42 : decode prog_8_method_15_code 42 = .ok (.ifCond .ne 8, 3) := by decide +kernel
theorem d_Ref_begin_45 : decode prog_8_method_15_code 45 = .ok (.bipush 17, 2) := by decide +kernel
theorem d_Ref_begin_47 : decode prog_8_method_15_code 47 = .ok (.goto 16, 3) := by decide +kernel
theorem d_Ref_begin_50 : decode prog_8_method_15_code 50 = .ok (.iload_n 1, 1) := by decide +kernel
theorem d_Ref_begin_51 : decode prog_8_method_15_code 51 = .ok (.iconst 1, 1) := by decide +kernel
theorem d_Ref_begin_52 : decode prog_8_method_15_code 52 = .ok (.if_icmp .ne 8, 3) := by decide +kernel
theorem d_Ref_begin_55 : decode prog_8_method_15_code 55 = .ok (.bipush 97, 2) := by decide +kernel
theorem d_Ref_begin_57 : decode prog_8_method_15_code 57 = .ok (.goto 6, 3) := by decide +kernel
theorem d_Ref_begin_60 : decode prog_8_method_15_code 60 = .ok (.sipush 193, 3) := by decide +kernel
theorem d_Ref_begin_63 : decode prog_8_method_15_code 63 = .ok (.putfield 13, 3) := by decide +kernel
theorem d_Ref_begin_66 : decode prog_8_method_15_code 66 = .ok (.aload_n 0, 1) := by decide +kernel
theorem d_Ref_begin_67 : decode prog_8_method_15_code 67 = .ok (.iload_n 2, 1) := by decide +kernel
theorem d_Ref_begin_68 : decode prog_8_method_15_code 68 = .ok (.putfield 81, 3) := by decide +kernel
theorem d_Ref_begin_71 : decode prog_8_method_15_code 71 = .ok (.aload_n 0, 1) := by decide +kernel
theorem d_Ref_begin_72 : decode prog_8_method_15_code 72 = .ok (.iconst 0, 1) := by decide +kernel
theorem d_Ref_begin_73 : decode prog_8_method_15_code 73 = .ok (.putfield 107, 3) := by decide +kernel
theorem d_Ref_begin_76 : decode prog_8_method_15_code 76 = .ok (.aload_n 0, 1) := by decide +kernel
theorem d_Ref_begin_77 : decode prog_8_method_15_code 77 = .ok (.iconst 0, 1) := by decide +kernel
theorem d_Ref_begin_78 : decode prog_8_method_15_code 78 = .ok (.putfield 111, 3) := by decide +kernel
theorem d_Ref_begin_81 : decode prog_8_method_15_code 81 = .ok (.aload_n 0, 1) := by decide +kernel
theorem d_Ref_begin_82 : decode prog_8_method_15_code 82 = .ok (.invokevirtual 114, 3) := by decide +kernel
theorem d_Ref_begin_85 : decode prog_8_method_15_code 85 = .ok (.iconst 0, 1) := by decide +kernel
theorem d_Ref_begin_86 : decode prog_8_method_15_code 86 = .ok (.istore_n 3, 1) := by decide +kernel
theorem d_Ref_begin_87 : decode prog_8_method_15_code 87 = .ok (.iload_n 3, 1) := by decide +kernel
theorem d_Ref_begin_88 : decode prog_8_method_15_code 88 = .ok (.sipush 256, 3) := by decide +kernel
theorem d_Ref_begin_91 : decode prog_8_method_15_code 91 = .ok (.if_icmp .ge 16, 3) := by decide +kernel
theorem d_Ref_begin_94 : decode prog_8_method_15_code 94 = .ok (.aload_n 0, 1) := by decide +kernel
theorem d_Ref_begin_95 : decode prog_8_method_15_code 95 = .ok (.getfield 36, 3) := by decide +kernel
theorem d_Ref_begin_98 : decode prog_8_method_15_code 98 = .ok (.iload_n 3, 1) := by decide +kernel
theorem d_Ref_begin_99 : decode prog_8_method_15_code 99 = .ok (.iconst 0, 1) := by decide +kernel
theorem d_Ref_begin_100 : decode prog_8_method_15_code 100 = .ok (.iastore, 1) := by decide +kernel
theorem d_Ref_begin_101 : decode prog_8_method_15_code 101 = .ok (.iinc 3 1, 3) := by decide +kernel
theorem d_Ref_begin_104 : decode prog_8_method_15_code 104 = .ok (.goto (-17), 3) := by decide +kernel
theorem d_Ref_begin_107 : decode prog_8_method_15_code 107 = .ok (.aload_n 0, 1) := by decide +kernel
theorem d_Ref_begin_108 : decode prog_8_method_15_code 108 = .ok (.getfield 7, 3) := by decide +kernel
theorem d_Ref_begin_111 : decode prog_8_method_15_code 111 = .ok (.ireturn, 1) := by decide +kernel
theorem d_Ref_keys_0 : decode prog_8_method_16_code 0 = .ok (.aload_n 0, 1) := by decide +kernel
theorem d_Ref_keys_1 : decode prog_8_method_16_code 1 = .ok (.iconst 0, 1) := by decide +kernel
theorem d_Ref_keys_2 : decode prog_8_method_16_code 2 = .ok (.putfield 69, 3) := by decide +kernel
theorem d_Ref_keys_5 : decode prog_8_method_16_code 5 = .ok (.aload_n 0, 1) := by decide +kernel
theorem d_Ref_keys_6 : decode prog_8_method_16_code 6 = .ok (.aload_n 0, 1) := by decide +kernel
theorem d_Ref_keys_7 : decode prog_8_method_16_code 7 = .ok (.getfield 16, 3) := by decide +kernel
theorem d_Ref_keys_10 : decode prog_8_method_16_code 10 = .ok (.invokevirtual 117, 3) := by decide +kernel
theorem d_Ref_keys_13 : decode prog_8_method_16_code 13 = .ok (.aload_n 0, 1) := by decide +kernel
theorem d_Ref_keys_14 : decode prog_8_method_16_code 14 = .ok (.aload_n 0, 1) := by decide +kernel
theorem d_Ref_keys_15 : decode prog_8_method_16_code 15 = .ok (.getfield 23, 3) := by decide +kernel
theorem d_Ref_keys_18 : decode prog_8_method_16_code 18 = .ok (.invokevirtual 91, 3) := by decide +kernel
theorem d_Ref_keys_21 : decode prog_8_method_16_code 21 = .ok (.aload_n 0, 1) := by decide +kernel
theorem d_Ref_keys_22 : decode prog_8_method_16_code 22 = .ok (.aload_n 0, 1) := by decide +kernel
theorem d_Ref_keys_23 : decode prog_8_method_16_code 23 = .ok (.getfield 66, 3) := by decide +kernel
theorem d_Ref_keys_26 : decode prog_8_method_16_code 26 = .ok (.invokevirtual 95, 3) := by decide +kernel
theorem d_Ref_keys_29 : decode prog_8_method_16_code 29 = .ok (.aload_n 0, 1) := by decide +kernel
theorem d_Ref_keys_30 : decode prog_8_method_16_code 30 = .ok (.aload_n 0, 1) := by decide +kernel
theorem d_Ref_keys_31 : decode prog_8_method_16_code 31 = .ok (.getfield 23, 3) := by decide +kernel
theorem d_Ref_keys_34 : decode prog_8_method_16_code 34 = .ok (.aload_n 0, 1) := by decide +kernel
theorem d_Ref_keys_35 : decode prog_8_method_16_code 35 = .ok (.getfield 16, 3) := by decide +kernel
theorem d_Ref_keys_38 : decode prog_8_method_16_code 38 = .ok (.aload_n 0, 1) := by decide +kernel
theorem d_Ref_keys_39 : decode prog_8_method_16_code 39 = .ok (.getfield 57, 3) := by decide +kernel
theorem d_Ref_keys_42 : decode prog_8_method_16_code 42 = .ok (.invokevirtual 98, 3) := by decide +kernel
theorem d_Ref_keys_45 : decode prog_8_method_16_code 45 = .ok (.iconst 0, 1) := by decide +kernel
theorem d_Ref_keys_46 : decode prog_8_method_16_code 46 = .ok (.istore_n 1, 1) := by decide +kernel
theorem d_Ref_keys_47 : decode prog_8_method_16_code 47 = .ok (.iload_n 1, 1) := by decide +kernel
theorem d_Ref_keys_48 : decode prog_8_method_16_code 48 = .ok (.aload_n 0, 1) := by decide +kernel
theorem d_Ref_keys_49 : decode prog_8_method_16_code 49 = .ok (.getfield 7, 3) := by decide +kernel
theorem d_Ref_keys_52 : decode prog_8_method_16_code 52 = .ok (.if_icmp .ge 32, 3) := by decide +kernel
theorem d_Ref_keys_55 : decode prog_8_method_16_code 55 = .ok (.aload_n 0, 1) := by decide +kernel
theorem d_Ref_keys_56 : decode prog_8_method_16_code 56 = .ok (.getfield 20, 3) := by decide +kernel
theorem d_Ref_keys_59 : decode prog_8_method_16_code 59 = .ok (.iload_n 1, 1) := by decide +kernel
theorem d_Ref_keys_60 : decode prog_8_method_16_code 60 = .ok (.aload_n 0, 1) := by decide +kernel
theorem d_Ref_keys_61 : decode prog_8_method_16_code 61 = .ok (.getfield 57, 3) := by decide +kernel
theorem d_Ref_keys_64 : decode prog_8_method_16_code 64 = .ok (.iload_n 1, 1) := by decide +kernel
theorem d_Ref_keys_65 : decode prog_8_method_16_code 65 = .ok (.laload, 1) := by decide +kernel
theorem d_Ref_keys_66 : decode prog_8_method_16_code 66 = .ok (.aload_n 0, 1) := by decide +kernel
theorem d_Ref_keys_67 : decode prog_8_method_16_code 67 = .ok (.getfield 66, 3) := by decide +kernel
theorem d_Ref_keys_70 : decode prog_8_method_16_code 70 = .ok (.iload_n 1, 1) := by decide +kernel
theorem d_Ref_keys_71 : decode prog_8_method_16_code 71 = .ok (.laload, 1) := by decide +kernel
theorem d_Ref_keys_72 : decode prog_8_method_16_code 72 = .ok (.ladd, 1) := by decide +kernel
theorem d_Ref_keys_73 : decode prog_8_method_16_code 73 = .ok (.lneg, 1) := by decide +kernel
theorem d_Ref_keys_74 : decode prog_8_method_16_code 74 = .ok (.invokestatic 74, 3) := by decide +kernel
theorem d_Ref_keys_77 : decode prog_8_method_16_code 77 = .ok (.lastore, 1) := by decide +kernel
theorem d_Ref_keys_78 : decode prog_8_method_16_code 78 = .ok (.iinc 1 1, 3) := by decide +kernel
theorem d_Ref_keys_81 : decode prog_8_method_16_code 81 = .ok (.goto (-34), 3) := by decide +kernel
theorem d_Ref_keys_84 : decode prog_8_method_16_code 84 = .ok (.aload_n 0, 1) := by decide +kernel
theorem d_Ref_keys_85 : decode prog_8_method_16_code 85 = .ok (.aload_n 0, 1) := by decide +kernel
theorem d_Ref_keys_86 : decode prog_8_method_16_code 86 = .ok (.getfield 16, 3) := by decide +kernel
theorem d_Ref_keys_89 : decode prog_8_method_16_code 89 = .ok (.aload_n 0, 1) := by decide +kernel
theorem d_Ref_keys_90 : decode prog_8_method_16_code 90 = .ok (.getfield 16, 3) := by decide +kernel
theorem d_Ref_keys_93 : decode prog_8_method_16_code 93 = .ok (.aload_n 0, 1) := by decide +kernel
theorem d_Ref_keys_94 : decode prog_8_method_16_code 94 = .ok (.getfield 54, 3) := by decide +kernel
theorem d_Ref_keys_97 : decode prog_8_method_16_code 97 = .ok (.invokevirtual 120, 3) := by decide +kernel
theorem d_Ref_keys_100 : decode prog_8_method_16_code 100 = .ok (.aload_n 0, 1) := by decide +kernel
theorem d_Ref_keys_101 : decode prog_8_method_16_code 101 = .ok (.iconst 0, 1) := by decide +kernel
theorem d_Ref_keys_102 : decode prog_8_method_16_code 102 = .ok (.invokevirtual 123, 3) := by decide +kernel
theorem d_Ref_keys_105 : decode prog_8_method_16_code 105 = .ok (.aload_n 0, 1) := by decide +kernel
theorem d_Ref_keys_106 : decode prog_8_method_16_code 106 = .ok (.iconst 1, 1) := by decide +kernel
theorem d_Ref_keys_107 : decode prog_8_method_16_code 107 = .ok (.putfield 107, 3) := by decide +kernel
theorem d_Ref_keys_110 : decode prog_8_method_16_code 110 = .ok (.aload_n 0, 1) := by decide +kernel
theorem d_Ref_keys_111 : decode prog_8_method_16_code 111 = .ok (.iconst 0, 1) := by decide +kernel
theorem d_Ref_keys_112 : decode prog_8_method_16_code 112 = .ok (.putfield 111, 3) := by decide +kernel
theorem d_Ref_keys_115 : decode prog_8_method_16_code 115 = .ok (.aload_n 0, 1) := by decide +kernel
theorem d_Ref_keys_116 : decode prog_8_method_16_code 116 = .ok (.invokevirtual 114, 3) := by decide +kernel
theorem d_Ref_keys_119 : decode prog_8_method_16_code 119 = .ok (.aload_n 0, 1) := by decide +kernel
theorem d_Ref_keys_120 : decode prog_8_method_16_code 120 = .ok (.getfield 7, 3) := by decide +kernel
theorem d_Ref_keys_123 : decode prog_8_method_16_code 123 = .ok (.ireturn, 1) := by decide +kernel
theorem d_Ref_find_0 : decode prog_8_method_17_code 0 = .ok (.iconst 1, 1) := by decide +kernel
theorem d_Ref_find_1 : decode prog_8_method_17_code 1 = .ok (.istore_n 2, 1) := by decide +kernel
theorem d_Ref_find_2 : decode prog_8_method_17_code 2 = .ok (.iload_n 2, 1) := by decide +kernel
theorem d_Ref_find_3 : decode prog_8_method_17_code 3 = .ok (.aload_n 0, 1) := by decide +kernel
theorem d_Ref_find_4 : decode prog_8_method_17_code 4 = .ok (.getfield 111, 3) := by decide +kernel
theorem d_Ref_find_7 : decode prog_8_method_17_code 7 = .ok (.if_icmp .gt 21, 3) := by decide +kernel
theorem d_Ref_find_10 : decode prog_8_method_17_code 10 = .ok (.aload_n 0, 1) := by decide +kernel
theorem d_Ref_find_11 : decode prog_8_method_17_code 11 = .ok (.getfield 32, 3) := by decide +kernel
theorem d_Ref_find_14 : decode prog_8_method_17_code 14 = .ok (.iload_n 2, 1) := by decide +kernel
theorem d_Ref_find_15 : decode prog_8_method_17_code 15 = .ok (.iaload, 1) := by decide +kernel
theorem d_Ref_find_16 : decode prog_8_method_17_code 16 = .ok (.iload_n 1, 1) := by decide +kernel
theorem d_Ref_find_17 : decode prog_8_method_17_code 17 = .ok (.if_icmp .ne 5, 3) := by decide +kernel
theorem d_Ref_find_20 : decode prog_8_method_17_code 20 = .ok (.iload_n 2, 1) := by decide +kernel
theorem d_Ref_find_21 : decode prog_8_method_17_code 21 = .ok (.ireturn, 1) := by decide +kernel
theorem d_Ref_find_22 : decode prog_8_method_17_code 22 = .ok (.iinc 2 1, 3) := by decide +kernel
theorem d_Ref_find_25 : decode prog_8_method_17_code 25 = .ok (.goto (-23), 3) := by decide +kernel
theorem d_Ref_find_28 : decode prog_8_method_17_code 28 = .ok (.iconst 0, 1) := by decide +kernel
theorem d_Ref_find_29 : decode prog_8_method_17_code 29 = .ok (.ireturn, 1) := by decide +kernel
theorem d_Ref_turned_0 : decode prog_8_method_18_code 0 = .ok (.iconst 0, 1) := by decide +kernel
theorem d_Ref_turned_1 : decode prog_8_method_18_code 1 = .ok (.istore 4, 2) := by decide +kernel
theorem d_Ref_turned_3 : decode prog_8_method_18_code 3 = .ok (.iload 4, 2) := by decide +kernel
theorem d_Ref_turned_5 : decode prog_8_method_18_code 5 = .ok (.aload_n 0, 1) := by decide +kernel
theorem d_Ref_turned_6 : decode prog_8_method_18_code 6 = .ok (.getfield 7, 3) := by decide +kernel
theorem d_Ref_turned_9 : decode prog_8_method_18_code 9 = .ok (.if_icmp .ge 56, 3) := by decide +kernel
theorem d_Ref_turned_12 : decode prog_8_method_18_code 12 = .ok (.iload 4, 2) := by decide +kernel
theorem d_Ref_turned_14 : decode prog_8_method_18_code 14 = .ok (.iload_n 2, 1) := by decide +kernel
theorem d_Ref_turned_15 : decode prog_8_method_18_code 15 = .ok (.imul, 1) := by decide +kernel
theorem d_Ref_turned_16 : decode prog_8_method_18_code 16 = .ok (.iconst 2, 1) := by decide +kernel
theorem d_Ref_turned_17 : decode prog_8_method_18_code 17 = .ok (.aload_n 0, 1) := by decide +kernel
theorem d_Ref_turned_18 : decode prog_8_method_18_code 18 = .ok (.getfield 7, 3) := by decide +kernel
theorem d_Ref_turned_21 : decode prog_8_method_18_code 21 = .ok (.imul, 1) := by decide +kernel
theorem d_Ref_turned_22 : decode prog_8_method_18_code 22 = .ok (.irem, 1) := by decide +kernel
theorem d_Ref_turned_23 : decode prog_8_method_18_code 23 = .ok (.istore 5, 2) := by decide +kernel
theorem d_Ref_turned_25 : decode prog_8_method_18_code 25 = .ok (.iload 5, 2) := by decide +kernel
theorem d_Ref_turned_27 : decode prog_8_method_18_code 27 = .ok (.aload_n 0, 1) := by decide +kernel
theorem d_Ref_turned_28 : decode prog_8_method_18_code 28 = .ok (.getfield 7, 3) := by decide +kernel
theorem d_Ref_turned_31 : decode prog_8_method_18_code 31 = .ok (.if_icmp .ge 14, 3) := by decide +kernel
theorem d_Ref_turned_34 : decode prog_8_method_18_code 34 = .ok (.aload_n 3, 1) := by decide +kernel
theorem d_Ref_turned_35 : decode prog_8_method_18_code 35 = .ok (.iload 5, 2) := by decide +kernel
theorem d_Ref_turned_37 : decode prog_8_method_18_code 37 = .ok (.aload_n 1, 1) := by decide +kernel
theorem d_Ref_turned_38 : decode prog_8_method_18_code 38 = .ok (.iload 4, 2) := by decide +kernel
theorem d_Ref_turned_40 : decode prog_8_method_18_code 40 = .ok (.laload, 1) := by decide +kernel
theorem d_Ref_turned_41 : decode prog_8_method_18_code 41 = .ok (.lastore, 1) := by decide +kernel
theorem d_Ref_turned_42 : decode prog_8_method_18_code 42 = .ok (.goto 17, 3) := by decide +kernel
theorem d_Ref_turned_45 : decode prog_8_method_18_code 45 = .ok (.aload_n 3, 1) := by decide +kernel
theorem d_Ref_turned_46 : decode prog_8_method_18_code 46 = .ok (.iload 5, 2) := by decide +kernel
theorem d_Ref_turned_48 : decode prog_8_method_18_code 48 = .ok (.aload_n 0, 1) := by decide +kernel
theorem d_Ref_turned_49 : decode prog_8_method_18_code 49 = .ok (.getfield 7, 3) := by decide +kernel
theorem d_Ref_turned_52 : decode prog_8_method_18_code 52 = .ok (.isub, 1) := by decide +kernel
theorem d_Ref_turned_53 : decode prog_8_method_18_code 53 = .ok (.aload_n 1, 1) := by decide +kernel
theorem d_Ref_turned_54 : decode prog_8_method_18_code 54 = .ok (.iload 4, 2) := by decide +kernel
theorem d_Ref_turned_56 : decode prog_8_method_18_code 56 = .ok (.laload, 1) := by decide +kernel
theorem d_Ref_turned_57 : decode prog_8_method_18_code 57 = .ok (.lneg, 1) := by decide +kernel
theorem d_Ref_turned_58 : decode prog_8_method_18_code 58 = .ok (.lastore, 1) := by decide +kernel
theorem d_Ref_turned_59 : decode prog_8_method_18_code 59 = .ok (.iinc 4 1, 3) := by decide +kernel
theorem d_Ref_turned_62 : decode prog_8_method_18_code 62 = .ok (.goto (-59), 3) := by decide +kernel
theorem d_Ref_turned_65 : decode prog_8_method_18_code 65 = .ok (.return_, 1) := by decide +kernel
theorem d_Ref_turnKey_0 : decode prog_8_method_19_code 0 = .ok (.aload_n 0, 1) := by decide +kernel
theorem d_Ref_turnKey_1 : decode prog_8_method_19_code 1 = .ok (.iconst 0, 1) := by decide +kernel
theorem d_Ref_turnKey_2 : decode prog_8_method_19_code 2 = .ok (.putfield 69, 3) := by decide +kernel
theorem d_Ref_turnKey_5 : decode prog_8_method_19_code 5 = .ok (.iload_n 1, 1) := by decide +kernel
theorem d_Ref_turnKey_6 : decode prog_8_method_19_code 6 = .ok (.iconst 3, 1) := by decide +kernel
theorem d_Ref_turnKey_7 : decode prog_8_method_19_code 7 = .ok (.if_icmp .lt 19, 3) := by decide +kernel
theorem d_Ref_turnKey_10 : decode prog_8_method_19_code 10 = .ok (.iload_n 1, 1) := by decide +kernel
theorem d_Ref_turnKey_11 : decode prog_8_method_19_code 11 = .ok (.iconst 2, 1) := by decide +kernel
theorem d_Ref_turnKey_12 : decode prog_8_method_19_code 12 = .ok (.aload_n 0, 1) := by decide +kernel
theorem d_Ref_turnKey_13 : decode prog_8_method_19_code 13 = .ok (.getfield 7, 3) := by decide +kernel
theorem d_Ref_turnKey_16 : decode prog_8_method_19_code 16 = .ok (.imul, 1) := by decide +kernel
theorem d_Ref_turnKey_17 : decode prog_8_method_19_code 17 = .ok (.if_icmp .ge 9, 3) := by decide +kernel
theorem d_Ref_turnKey_20 : decode prog_8_method_19_code 20 = .ok (.iload_n 1, 1) := by decide +kernel
theorem d_Ref_turnKey_21 : decode prog_8_method_19_code 21 = .ok (.iconst 2, 1) := by decide +kernel
theorem d_Ref_turnKey_22 : decode prog_8_method_19_code 22 = .ok (.irem, 1) := by decide +kernel
theorem d_Ref_turnKey_23 : decode prog_8_method_19_code 23 = .ok (.ifCond .ne 9, 3) := by decide +kernel
theorem d_Ref_turnKey_26 : decode prog_8_method_19_code 26 = .ok (.aload_n 0, 1) := by decide +kernel
theorem d_Ref_turnKey_27 : decode prog_8_method_19_code 27 = .ok (.iconst 1, 1) := by decide +kernel
theorem d_Ref_turnKey_28 : decode prog_8_method_19_code 28 = .ok (.invokevirtual 127, 3) := by decide +kernel
theorem d_Ref_turnKey_31 : decode prog_8_method_19_code 31 = .ok (.ireturn, 1) := by decide +kernel
theorem d_Ref_turnKey_32 : decode prog_8_method_19_code 32 = .ok (.aload_n 0, 1) := by decide +kernel
theorem d_Ref_turnKey_33 : decode prog_8_method_19_code 33 = .ok (.iload_n 1, 1) := by decide +kernel
theorem d_Ref_turnKey_34 : decode prog_8_method_19_code 34 = .ok (.invokevirtual 131, 3) := by decide +kernel
theorem d_Ref_turnKey_37 : decode prog_8_method_19_code 37 = .ok (.istore_n 2, 1) := by decide +kernel
theorem d_Ref_turnKey_38 : decode prog_8_method_19_code 38 = .ok (.aload_n 0, 1) := by decide +kernel
theorem d_Ref_turnKey_39 : decode prog_8_method_19_code 39 = .ok (.getfield 107, 3) := by decide +kernel
theorem d_Ref_turnKey_42 : decode prog_8_method_19_code 42 = .ok (.ifCond .eq 15, 3) := by decide +kernel
theorem d_Ref_turnKey_45 : decode prog_8_method_19_code 45 = .ok (.iload_n 2, 1) := by decide +kernel
theorem d_Ref_turnKey_46 : decode prog_8_method_19_code 46 = .ok (.ifCond .ne 17, 3) := by decide +kernel
theorem d_Ref_turnKey_49 : decode prog_8_method_19_code 49 = .ok (.aload_n 0, 1) := by decide +kernel
theorem d_Ref_turnKey_50 : decode prog_8_method_19_code 50 = .ok (.getfield 111, 3) := by decide +kernel
theorem d_Ref_turnKey_53 : decode prog_8_method_19_code 53 = .ok (.iconst 4, 1) := by decide +kernel
theorem d_Ref_turnKey_54 : decode prog_8_method_19_code 54 = .ok (.if_icmp .ne 9, 3) := by decide +kernel
theorem d_Ref_turnKey_57 : decode prog_8_method_19_code 57 = .ok (.aload_n 0, 1) := by decide +kernel
theorem d_Ref_turnKey_58 : decode prog_8_method_19_code 58 = .ok (.iconst 2, 1) := by decide +kernel
theorem d_Ref_turnKey_59 : decode prog_8_method_19_code 59 = .ok (.invokevirtual 127, 3) := by decide +kernel
theorem d_Ref_turnKey_62 : decode prog_8_method_19_code 62 = .ok (.ireturn, 1) := by decide +kernel
theorem d_Ref_turnKey_63 : decode prog_8_method_19_code 63 = .ok (.iload_n 2, 1) := by decide +kernel
theorem d_Ref_turnKey_64 : decode prog_8_method_19_code 64 = .ok (.ifCond .ne 25, 3) := by decide +kernel
theorem d_Ref_turnKey_67 : decode prog_8_method_19_code 67 = .ok (.aload_n 0, 1) := by decide +kernel
theorem d_Ref_turnKey_68 : decode prog_8_method_19_code 68 = .ok (.dup, 1) := by decide +kernel
theorem d_Ref_turnKey_69 : decode prog_8_method_19_code 69 = .ok (.getfield 111, 3) := by decide +kernel
theorem d_Ref_turnKey_72 : decode prog_8_method_19_code 72 = .ok (.iconst 1, 1) := by decide +kernel
theorem d_Ref_turnKey_73 : decode prog_8_method_19_code 73 = .ok (.iadd, 1) := by decide +kernel
theorem d_Ref_turnKey_74 : decode prog_8_method_19_code 74 = .ok (.putfield 111, 3) := by decide +kernel
theorem d_Ref_turnKey_77 : decode prog_8_method_19_code 77 = .ok (.aload_n 0, 1) := by decide +kernel
theorem d_Ref_turnKey_78 : decode prog_8_method_19_code 78 = .ok (.getfield 111, 3) := by decide +kernel
theorem d_Ref_turnKey_81 : decode prog_8_method_19_code 81 = .ok (.istore_n 2, 1) := by decide +kernel
theorem d_Ref_turnKey_82 : decode prog_8_method_19_code 82 = .ok (.aload_n 0, 1) := by decide +kernel
theorem d_Ref_turnKey_83 : decode prog_8_method_19_code 83 = .ok (.getfield 32, 3) := by decide +kernel
theorem d_Ref_turnKey_86 : decode prog_8_method_19_code 86 = .ok (.iload_n 2, 1) := by decide +kernel
theorem d_Ref_turnKey_87 : decode prog_8_method_19_code 87 = .ok (.iload_n 1, 1) := by decide +kernel
theorem d_Ref_turnKey_88 : decode prog_8_method_19_code 88 = .ok (.iastore, 1) := by decide +kernel
theorem d_Ref_turnKey_89 : decode prog_8_method_19_code 89 = .ok (.aload_n 0, 1) := by decide +kernel
theorem d_Ref_turnKey_90 : decode prog_8_method_19_code 90 = .ok (.aload_n 0, 1) := by decide +kernel
theorem d_Ref_turnKey_91 : decode prog_8_method_19_code 91 = .ok (.getfield 16, 3) := by decide +kernel
theorem d_Ref_turnKey_94 : decode prog_8_method_19_code 94 = .ok (.iload_n 1, 1) := by decide +kernel
theorem d_Ref_turnKey_95 : decode prog_8_method_19_code 95 = .ok (.aload_n 0, 1) := by decide +kernel
theorem d_Ref_turnKey_96 : decode prog_8_method_19_code 96 = .ok (.getfield 54, 3) := by decide +kernel
theorem d_Ref_turnKey_99 : decode prog_8_method_19_code 99 = .ok (.invokevirtual 134, 3) := by decide +kernel
theorem d_Ref_turnKey_102 : decode prog_8_method_19_code 102 = .ok (.aload_n 0, 1) := by decide +kernel
theorem d_Ref_turnKey_103 : decode prog_8_method_19_code 103 = .ok (.iload_n 2, 1) := by decide +kernel
theorem d_Ref_turnKey_104 : decode prog_8_method_19_code 104 = .ok (.invokevirtual 123, 3) := by decide +kernel
theorem d_Ref_turnKey_107 : decode prog_8_method_19_code 107 = .ok (.aload_n 0, 1) := by decide +kernel
theorem d_Ref_turnKey_108 : decode prog_8_method_19_code 108 = .ok (.getfield 111, 3) := by decide +kernel
theorem d_Ref_turnKey_111 : decode prog_8_method_19_code 111 = .ok (.ireturn, 1) := by decide +kernel
theorem d_Ref_noPlain_0 : decode prog_8_method_20_code 0 = .ok (.iload_n 0, 1) := by decide +kernel
theorem d_Ref_noPlain_1 : decode prog_8_method_20_code 1 = .ok (.ifCond .lt 9, 3) := by decide +kernel
theorem d_Ref_noPlain_4 : decode prog_8_method_20_code 4 = .ok (.iload_n 0, 1) := by decide +kernel
theorem d_Ref_noPlain_5 : decode prog_8_method_20_code 5 = .ok (.bipush 7, 2) := by decide +kernel
theorem d_Ref_noPlain_7 : decode prog_8_method_20_code 7 = .ok (.if_icmp .le 7, 3) := by decide +kernel
theorem d_Ref_noPlain_10 : decode prog_8_method_20_code 10 = .ok (.iconst 1, 1) := by decide +kernel
theorem d_Ref_noPlain_11 : decode prog_8_method_20_code 11 = .ok (.goto 4, 3) := by decide +kernel
theorem d_Ref_noPlain_14 : decode prog_8_method_20_code 14 = .ok (.iconst 0, 1) := by decide +kernel
theorem d_Ref_noPlain_15 : decode prog_8_method_20_code 15 = .ok (.ireturn, 1) := by decide +kernel
theorem d_Ref_noCipher_0 : decode prog_8_method_21_code 0 = .ok (.iload_n 0, 1) := by decide +kernel
theorem d_Ref_noCipher_1 : decode prog_8_method_21_code 1 = .ok (.ifCond .lt 9, 3) := by decide +kernel
theorem d_Ref_noCipher_4 : decode prog_8_method_21_code 4 = .ok (.iload_n 0, 1) := by decide +kernel
theorem d_Ref_noCipher_5 : decode prog_8_method_21_code 5 = .ok (.bipush 15, 2) := by decide +kernel
theorem d_Ref_noCipher_7 : decode prog_8_method_21_code 7 = .ok (.if_icmp .le 7, 3) := by decide +kernel
theorem d_Ref_noCipher_10 : decode prog_8_method_21_code 10 = .ok (.iconst 1, 1) := by decide +kernel
theorem d_Ref_noCipher_11 : decode prog_8_method_21_code 11 = .ok (.goto 4, 3) := by decide +kernel
theorem d_Ref_noCipher_14 : decode prog_8_method_21_code 14 = .ok (.iconst 0, 1) := by decide +kernel
theorem d_Ref_noCipher_15 : decode prog_8_method_21_code 15 = .ok (.ireturn, 1) := by decide +kernel
theorem d_Ref_empty_I_0 : decode prog_8_method_22_code 0 = .ok (.iload_n 1, 1) := by decide +kernel
theorem d_Ref_empty_I_1 : decode prog_8_method_22_code 1 = .ok (.invokestatic 138, 3) := by decide +kernel
theorem d_Ref_empty_I_4 : decode prog_8_method_22_code 4 = .ok (.ifCond .ne 12, 3) := by decide +kernel
theorem d_Ref_empty_I_7 : decode prog_8_method_22_code 7 = .ok (.aload_n 0, 1) := by decide +kernel
theorem d_Ref_empty_I_8 : decode prog_8_method_22_code 8 = .ok (.getfield 39, 3) := by decide +kernel
theorem d_Ref_empty_I_11 : decode prog_8_method_22_code 11 = .ok (.iload_n 1, 1) := by decide +kernel
theorem d_Ref_empty_I_12 : decode prog_8_method_22_code 12 = .ok (.iaload, 1) := by decide +kernel
theorem d_Ref_empty_I_13 : decode prog_8_method_22_code 13 = .ok (.ifCond .ne 7, 3) := by decide +kernel
theorem d_Ref_empty_I_16 : decode prog_8_method_22_code 16 = .ok (.iconst 1, 1) := by decide +kernel
theorem d_Ref_empty_I_17 : decode prog_8_method_22_code 17 = .ok (.goto 4, 3) := by decide +kernel
theorem d_Ref_empty_I_20 : decode prog_8_method_22_code 20 = .ok (.iconst 0, 1) := by decide +kernel
theorem d_Ref_empty_I_21 : decode prog_8_method_22_code 21 = .ok (.ireturn, 1) := by decide +kernel
theorem d_Ref_set_0 : decode prog_8_method_23_code 0 = .ok (.aload_n 0, 1) := by decide +kernel
theorem d_Ref_set_1 : decode prog_8_method_23_code 1 = .ok (.iload_n 1, 1) := by decide +kernel
theorem d_Ref_set_2 : decode prog_8_method_23_code 2 = .ok (.invokestatic 142, 3) := by decide +kernel
theorem d_Ref_set_5 : decode prog_8_method_23_code 5 = .ok (.ifCond .ne 15, 3) := by decide +kernel
theorem d_Ref_set_8 : decode prog_8_method_23_code 8 = .ok (.iload_n 2, 1) := by decide +kernel
theorem d_Ref_set_9 : decode prog_8_method_23_code 9 = .ok (.ifCond .lt 11, 3) := by decide +kernel
theorem d_Ref_set_12 : decode prog_8_method_23_code 12 = .ok (.iload_n 2, 1) := by decide +kernel
theorem d_Ref_set_13 : decode prog_8_method_23_code 13 = .ok (.aload_n 0, 1) := by decide +kernel
theorem d_Ref_set_14 : decode prog_8_method_23_code 14 = .ok (.getfield 7, 3) := by decide +kernel
theorem d_Ref_set_17 : decode prog_8_method_23_code 17 = .ok (.if_icmp .lt 7, 3) := by decide +kernel
theorem d_Ref_set_20 : decode prog_8_method_23_code 20 = .ok (.iconst 1, 1) := by decide +kernel
theorem d_Ref_set_21 : decode prog_8_method_23_code 21 = .ok (.goto 4, 3) := by decide +kernel
theorem d_Ref_set_24 : decode prog_8_method_23_code 24 = .ok (.iconst 0, 1) := by decide +kernel
theorem d_Ref_set_25 : decode prog_8_method_23_code 25 = .ok (.putfield 69, 3) := by decide +kernel
theorem d_Ref_set_28 : decode prog_8_method_23_code 28 = .ok (.aload_n 0, 1) := by decide +kernel
theorem d_Ref_set_29 : decode prog_8_method_23_code 29 = .ok (.getfield 69, 3) := by decide +kernel
theorem d_Ref_set_32 : decode prog_8_method_23_code 32 = .ok (.ifCond .le 5, 3) := by decide +kernel
theorem d_Ref_set_35 : decode prog_8_method_23_code 35 = .ok (.iconst 0, 1) := by decide +kernel
theorem d_Ref_set_36 : decode prog_8_method_23_code 36 = .ok (.ireturn, 1) := by decide +kernel
theorem d_Ref_set_37 : decode prog_8_method_23_code 37 = .ok (.aload_n 0, 1) := by decide +kernel
theorem d_Ref_set_38 : decode prog_8_method_23_code 38 = .ok (.getfield 36, 3) := by decide +kernel
theorem d_Ref_set_41 : decode prog_8_method_23_code 41 = .ok (.bipush 32, 2) := by decide +kernel
theorem d_Ref_set_43 : decode prog_8_method_23_code 43 = .ok (.iload_n 1, 1) := by decide +kernel
theorem d_Ref_set_44 : decode prog_8_method_23_code 44 = .ok (.imul, 1) := by decide +kernel
theorem d_Ref_set_45 : decode prog_8_method_23_code 45 = .ok (.iload_n 2, 1) := by decide +kernel
theorem d_Ref_set_46 : decode prog_8_method_23_code 46 = .ok (.iadd, 1) := by decide +kernel
theorem d_Ref_set_47 : decode prog_8_method_23_code 47 = .ok (.iaload, 1) := by decide +kernel
theorem d_Ref_set_48 : decode prog_8_method_23_code 48 = .ok (.istore 4, 2) := by decide +kernel
theorem d_Ref_set_50 : decode prog_8_method_23_code 50 = .ok (.iload_n 3, 1) := by decide +kernel
theorem d_Ref_set_51 : decode prog_8_method_23_code 51 = .ok (.aload_n 0, 1) := by decide +kernel
theorem d_Ref_set_52 : decode prog_8_method_23_code 52 = .ok (.getfield 13, 3) := by decide +kernel
theorem d_Ref_set_55 : decode prog_8_method_23_code 55 = .ok (.irem, 1) := by decide +kernel
theorem d_Ref_set_56 : decode prog_8_method_23_code 56 = .ok (.istore 5, 2) := by decide +kernel
theorem d_Ref_set_58 : decode prog_8_method_23_code 58 = .ok (.aload_n 0, 1) := by decide +kernel
theorem d_Ref_set_59 : decode prog_8_method_23_code 59 = .ok (.getfield 36, 3) := by decide +kernel
theorem d_Ref_set_62 : decode prog_8_method_23_code 62 = .ok (.bipush 32, 2) := by decide +kernel
theorem d_Ref_set_64 : decode prog_8_method_23_code 64 = .ok (.iload_n 1, 1) := by decide +kernel
theorem d_Ref_set_65 : decode prog_8_method_23_code 65 = .ok (.imul, 1) := by decide +kernel
theorem d_Ref_set_66 : decode prog_8_method_23_code 66 = .ok (.iload_n 2, 1) := by decide +kernel
theorem d_Ref_set_67 : decode prog_8_method_23_code 67 = .ok (.iadd, 1) := by decide +kernel
theorem d_Ref_set_68 : decode prog_8_method_23_code 68 = .ok (.iload 5, 2) := by decide +kernel
theorem d_Ref_set_70 : decode prog_8_method_23_code 70 = .ok (.ifCond .ge 13, 3) := by decide +kernel
theorem d_Ref_set_73 : decode prog_8_method_23_code 73 = .ok (.iload 5, 2) := by decide +kernel
theorem d_Ref_set_75 : decode prog_8_method_23_code 75 = .ok (.aload_n 0, 1) := by decide +kernel
theorem d_Ref_set_76 : decode prog_8_method_23_code 76 = .ok (.getfield 13, 3) := by decide +kernel
theorem d_Ref_set_79 : decode prog_8_method_23_code 79 = .ok (.iadd, 1) := by decide +kernel
theorem d_Ref_set_80 : decode prog_8_method_23_code 80 = .ok (.goto 5, 3) := by decide +kernel
theorem d_Ref_set_83 : decode prog_8_method_23_code 83 = .ok (.iload 5, 2) := by decide +kernel
theorem d_Ref_set_85 : decode prog_8_method_23_code 85 = .ok (.iastore, 1) := by decide +kernel
theorem d_Ref_set_86 : decode prog_8_method_23_code 86 = .ok (.iload 4, 2) := by decide +kernel
theorem d_Ref_set_88 : decode prog_8_method_23_code 88 = .ok (.ireturn, 1) := by decide +kernel
theorem d_Ref_get_0 : decode prog_8_method_24_code 0 = .ok (.aload_n 0, 1) := by decide +kernel
theorem d_Ref_get_1 : decode prog_8_method_24_code 1 = .ok (.iload_n 1, 1) := by decide +kernel
theorem d_Ref_get_2 : decode prog_8_method_24_code 2 = .ok (.invokestatic 142, 3) := by decide +kernel
theorem d_Ref_get_5 : decode prog_8_method_24_code 5 = .ok (.ifCond .ne 15, 3) := by decide +kernel
theorem d_Ref_get_8 : decode prog_8_method_24_code 8 = .ok (.iload_n 2, 1) := by decide +kernel
theorem d_Ref_get_9 : decode prog_8_method_24_code 9 = .ok (.ifCond .lt 11, 3) := by decide +kernel
theorem d_Ref_get_12 : decode prog_8_method_24_code 12 = .ok (.iload_n 2, 1) := by decide +kernel
theorem d_Ref_get_13 : decode prog_8_method_24_code 13 = .ok (.aload_n 0, 1) := by decide +kernel
theorem d_Ref_get_14 : decode prog_8_method_24_code 14 = .ok (.getfield 7, 3) := by decide +kernel
theorem d_Ref_get_17 : decode prog_8_method_24_code 17 = .ok (.if_icmp .lt 7, 3) := by decide +kernel
theorem d_Ref_get_20 : decode prog_8_method_24_code 20 = .ok (.iconst 1, 1) := by decide +kernel
theorem d_Ref_get_21 : decode prog_8_method_24_code 21 = .ok (.goto 4, 3) := by decide +kernel
theorem d_Ref_get_24 : decode prog_8_method_24_code 24 = .ok (.iconst 0, 1) := by decide +kernel
theorem d_Ref_get_25 : decode prog_8_method_24_code 25 = .ok (.putfield 69, 3) := by decide +kernel
theorem d_Ref_get_28 : decode prog_8_method_24_code 28 = .ok (.aload_n 0, 1) := by decide +kernel
theorem d_Ref_get_29 : decode prog_8_method_24_code 29 = .ok (.getfield 69, 3) := by decide +kernel
theorem d_Ref_get_32 : decode prog_8_method_24_code 32 = .ok (.ifCond .le 7, 3) := by decide +kernel
theorem d_Ref_get_35 : decode prog_8_method_24_code 35 = .ok (.iconst 0, 1) := by decide +kernel
theorem d_Ref_get_36 : decode prog_8_method_24_code 36 = .ok (.goto 14, 3) := by decide +kernel
theorem d_Ref_get_39 : decode prog_8_method_24_code 39 = .ok (.aload_n 0, 1) := by decide +kernel
theorem d_Ref_get_40 : decode prog_8_method_24_code 40 = .ok (.getfield 36, 3) := by decide +kernel
theorem d_Ref_get_43 : decode prog_8_method_24_code 43 = .ok (.bipush 32, 2) := by decide +kernel
theorem d_Ref_get_45 : decode prog_8_method_24_code 45 = .ok (.iload_n 1, 1) := by decide +kernel
theorem d_Ref_get_46 : decode prog_8_method_24_code 46 = .ok (.imul, 1) := by decide +kernel
theorem d_Ref_get_47 : decode prog_8_method_24_code 47 = .ok (.iload_n 2, 1) := by decide +kernel
theorem d_Ref_get_48 : decode prog_8_method_24_code 48 = .ok (.iadd, 1) := by decide +kernel
theorem d_Ref_get_49 : decode prog_8_method_24_code 49 = .ok (.iaload, 1) := by decide +kernel
theorem d_Ref_get_50 : decode prog_8_method_24_code 50 = .ok (.ireturn, 1) := by decide +kernel
theorem d_Ref_power_0 : decode prog_8_method_25_code 0 = .ok (.iconst 1, 1) := by decide +kernel
theorem d_Ref_power_1 : decode prog_8_method_25_code 1 = .ok (.istore_n 3, 1) := by decide +kernel
theorem d_Ref_power_2 : decode prog_8_method_25_code 2 = .ok (.iconst 0, 1) := by decide +kernel
theorem d_Ref_power_3 : decode prog_8_method_25_code 3 = .ok (.istore 4, 2) := by decide +kernel
theorem d_Ref_power_5 : decode prog_8_method_25_code 5 = .ok (.iload 4, 2) := by decide +kernel
theorem d_Ref_power_7 : decode prog_8_method_25_code 7 = .ok (.iload_n 2, 1) := by decide +kernel
theorem d_Ref_power_8 : decode prog_8_method_25_code 8 = .ok (.if_icmp .ge 18, 3) := by decide +kernel
theorem d_Ref_power_11 : decode prog_8_method_25_code 11 = .ok (.iload_n 3, 1) := by decide +kernel
theorem d_Ref_power_12 : decode prog_8_method_25_code 12 = .ok (.iload_n 1, 1) := by decide +kernel
theorem d_Ref_power_13 : decode prog_8_method_25_code 13 = .ok (.imul, 1) := by decide +kernel
theorem d_Ref_power_14 : decode prog_8_method_25_code 14 = .ok (.aload_n 0, 1) := by decide +kernel
theorem d_Ref_power_15 : decode prog_8_method_25_code 15 = .ok (.getfield 13, 3) := by decide +kernel
theorem d_Ref_power_18 : decode prog_8_method_25_code 18 = .ok (.irem, 1) := by decide +kernel
theorem d_Ref_power_19 : decode prog_8_method_25_code 19 = .ok (.istore_n 3, 1) := by decide +kernel
theorem d_Ref_power_20 : decode prog_8_method_25_code 20 = .ok (.iinc 4 1, 3) := by decide +kernel
theorem d_Ref_power_23 : decode prog_8_method_25_code 23 = .ok (.goto (-18), 3) := by decide +kernel
theorem d_Ref_power_26 : decode prog_8_method_25_code 26 = .ok (.iload_n 3, 1) := by decide +kernel
theorem d_Ref_power_27 : decode prog_8_method_25_code 27 = .ok (.ireturn, 1) := by decide +kernel
theorem d_Ref_root_0 : decode prog_8_method_26_code 0 = .ok (.iconst 2, 1) := by decide +kernel
theorem d_Ref_root_1 : decode prog_8_method_26_code 1 = .ok (.istore_n 1, 1) := by decide +kernel
theorem d_Ref_root_2 : decode prog_8_method_26_code 2 = .ok (.aload_n 0, 1) := by decide +kernel
theorem d_Ref_root_3 : decode prog_8_method_26_code 3 = .ok (.iload_n 1, 1) := by decide +kernel
theorem d_Ref_root_4 : decode prog_8_method_26_code 4 = .ok (.aload_n 0, 1) := by decide +kernel
theorem d_Ref_root_5 : decode prog_8_method_26_code 5 = .ok (.getfield 7, 3) := by decide +kernel
theorem d_Ref_root_8 : decode prog_8_method_26_code 8 = .ok (.invokevirtual 145, 3) := by decide +kernel
theorem d_Ref_root_11 : decode prog_8_method_26_code 11 = .ok (.aload_n 0, 1) := by decide +kernel
theorem d_Ref_root_12 : decode prog_8_method_26_code 12 = .ok (.getfield 13, 3) := by decide +kernel
theorem d_Ref_root_15 : decode prog_8_method_26_code 15 = .ok (.iconst 1, 1) := by decide +kernel
theorem d_Ref_root_16 : decode prog_8_method_26_code 16 = .ok (.isub, 1) := by decide +kernel
theorem d_Ref_root_17 : decode prog_8_method_26_code 17 = .ok (.if_icmp .eq 9, 3) := by decide +kernel
theorem d_Ref_root_20 : decode prog_8_method_26_code 20 = .ok (.iinc 1 1, 3) := by decide +kernel
theorem d_Ref_root_23 : decode prog_8_method_26_code 23 = .ok (.goto (-21), 3) := by decide +kernel
theorem d_Ref_root_26 : decode prog_8_method_26_code 26 = .ok (.iload_n 1, 1) := by decide +kernel
theorem d_Ref_root_27 : decode prog_8_method_26_code 27 = .ok (.ireturn, 1) := by decide +kernel
theorem d_Ref_batch_0 : decode prog_8_method_27_code 0 = .ok (.aload_n 0, 1) := by decide +kernel
theorem d_Ref_batch_1 : decode prog_8_method_27_code 1 = .ok (.iload_n 1, 1) := by decide +kernel
theorem d_Ref_batch_2 : decode prog_8_method_27_code 2 = .ok (.invokestatic 142, 3) := by decide +kernel
theorem d_Ref_batch_5 : decode prog_8_method_27_code 5 = .ok (.ifCond .eq 7, 3) := by decide +kernel
theorem d_Ref_batch_8 : decode prog_8_method_27_code 8 = .ok (.iconst 1, 1) := by decide +kernel
theorem d_Ref_batch_9 : decode prog_8_method_27_code 9 = .ok (.goto 4, 3) := by decide +kernel
theorem d_Ref_batch_12 : decode prog_8_method_27_code 12 = .ok (.iconst 0, 1) := by decide +kernel
theorem d_Ref_batch_13 : decode prog_8_method_27_code 13 = .ok (.putfield 69, 3) := by decide +kernel
theorem d_Ref_batch_16 : decode prog_8_method_27_code 16 = .ok (.aload_n 0, 1) := by decide +kernel
theorem d_Ref_batch_17 : decode prog_8_method_27_code 17 = .ok (.getfield 69, 3) := by decide +kernel
theorem d_Ref_batch_20 : decode prog_8_method_27_code 20 = .ok (.ifCond .le 5, 3) := by decide +kernel
theorem d_Ref_batch_23 : decode prog_8_method_27_code 23 = .ok (.iconst 0, 1) := by decide +kernel
theorem d_Ref_batch_24 : decode prog_8_method_27_code 24 = .ok (.ireturn, 1) := by decide +kernel
theorem d_Ref_batch_25 : decode prog_8_method_27_code 25 = .ok (.aload_n 0, 1) := by decide +kernel
theorem d_Ref_batch_26 : decode prog_8_method_27_code 26 = .ok (.invokevirtual 149, 3) := by decide +kernel
theorem d_Ref_batch_29 : decode prog_8_method_27_code 29 = .ok (.istore_n 3, 1) := by decide +kernel
theorem d_Ref_batch_30 : decode prog_8_method_27_code 30 = .ok (.iconst 1, 1) := by decide +kernel
theorem d_Ref_batch_31 : decode prog_8_method_27_code 31 = .ok (.istore 4, 2) := by decide +kernel
theorem d_Ref_batch_33 : decode prog_8_method_27_code 33 = .ok (.iload 4, 2) := by decide +kernel
theorem d_Ref_batch_35 : decode prog_8_method_27_code 35 = .ok (.aload_n 0, 1) := by decide +kernel
theorem d_Ref_batch_36 : decode prog_8_method_27_code 36 = .ok (.getfield 7, 3) := by decide +kernel
theorem d_Ref_batch_39 : decode prog_8_method_27_code 39 = .ok (.imul, 1) := by decide +kernel
theorem d_Ref_batch_40 : decode prog_8_method_27_code 40 = .ok (.aload_n 0, 1) := by decide +kernel
theorem d_Ref_batch_41 : decode prog_8_method_27_code 41 = .ok (.getfield 13, 3) := by decide +kernel
theorem d_Ref_batch_44 : decode prog_8_method_27_code 44 = .ok (.irem, 1) := by decide +kernel
theorem d_Ref_batch_45 : decode prog_8_method_27_code 45 = .ok (.iconst 1, 1) := by decide +kernel
theorem d_Ref_batch_46 : decode prog_8_method_27_code 46 = .ok (.if_icmp .eq 9, 3) := by decide +kernel
theorem d_Ref_batch_49 : decode prog_8_method_27_code 49 = .ok (.iinc 4 1, 3) := by decide +kernel
theorem d_Ref_batch_52 : decode prog_8_method_27_code 52 = .ok (.goto (-19), 3) := by decide +kernel
theorem d_Ref_batch_55 : decode prog_8_method_27_code 55 = .ok (.iconst 0, 1) := by decide +kernel
theorem d_Ref_batch_56 : decode prog_8_method_27_code 56 = .ok (.istore 5, 2) := by decide +kernel
theorem d_Ref_batch_58 : decode prog_8_method_27_code 58 = .ok (.iload 5, 2) := by decide +kernel
theorem d_Ref_batch_60 : decode prog_8_method_27_code 60 = .ok (.aload_n 0, 1) := by decide +kernel
theorem d_Ref_batch_61 : decode prog_8_method_27_code 61 = .ok (.getfield 7, 3) := by decide +kernel
theorem d_Ref_batch_64 : decode prog_8_method_27_code 64 = .ok (.if_icmp .ge 131, 3) := by decide +kernel
theorem d_Ref_batch_67 : decode prog_8_method_27_code 67 = .ok (.iconst 0, 1) := by decide +kernel
theorem d_Ref_batch_68 : decode prog_8_method_27_code 68 = .ok (.istore 6, 2) := by decide +kernel
theorem d_Ref_batch_70 : decode prog_8_method_27_code 70 = .ok (.iconst 0, 1) := by decide +kernel
theorem d_Ref_batch_71 : decode prog_8_method_27_code 71 = .ok (.istore 7, 2) := by decide +kernel
theorem d_Ref_batch_73 : decode prog_8_method_27_code 73 = .ok (.iload 7, 2) := by decide +kernel
theorem d_Ref_batch_75 : decode prog_8_method_27_code 75 = .ok (.aload_n 0, 1) := by decide +kernel
theorem d_Ref_batch_76 : decode prog_8_method_27_code 76 = .ok (.getfield 7, 3) := by decide +kernel
theorem d_Ref_batch_79 : decode prog_8_method_27_code 79 = .ok (.if_icmp .ge 82, 3) := by decide +kernel
theorem d_Ref_batch_82 : decode prog_8_method_27_code 82 = .ok (.iload_n 2, 1) := by decide +kernel
theorem d_Ref_batch_83 : decode prog_8_method_27_code 83 = .ok (.ifCond .eq 15, 3) := by decide +kernel
theorem d_Ref_batch_86 : decode prog_8_method_27_code 86 = .ok (.iconst 2, 1) := by decide +kernel
theorem d_Ref_batch_87 : decode prog_8_method_27_code 87 = .ok (.iload 5, 2) := by decide +kernel
theorem d_Ref_batch_89 : decode prog_8_method_27_code 89 = .ok (.imul, 1) := by decide +kernel
theorem d_Ref_batch_90 : decode prog_8_method_27_code 90 = .ok (.iconst 1, 1) := by decide +kernel
theorem d_Ref_batch_91 : decode prog_8_method_27_code 91 = .ok (.iadd, 1) := by decide +kernel
theorem d_Ref_batch_92 : decode prog_8_method_27_code 92 = .ok (.iload 7, 2) := by decide +kernel
theorem d_Ref_batch_94 : decode prog_8_method_27_code 94 = .ok (.imul, 1) := by decide +kernel
theorem d_Ref_batch_95 : decode prog_8_method_27_code 95 = .ok (.goto 21, 3) := by decide +kernel
theorem d_Ref_batch_98 : decode prog_8_method_27_code 98 = .ok (.iconst 2, 1) := by decide +kernel
theorem d_Ref_batch_99 : decode prog_8_method_27_code 99 = .ok (.iload 7, 2) := by decide +kernel
theorem d_Ref_batch_101 : decode prog_8_method_27_code 101 = .ok (.imul, 1) := by decide +kernel
theorem d_Ref_batch_102 : decode prog_8_method_27_code 102 = .ok (.iconst 1, 1) := by decide +kernel
theorem d_Ref_batch_103 : decode prog_8_method_27_code 103 = .ok (.iadd, 1) := by decide +kernel
theorem d_Ref_batch_104 : decode prog_8_method_27_code 104 = .ok (.iconst 2, 1) := by decide +kernel
theorem d_Ref_batch_105 : decode prog_8_method_27_code 105 = .ok (.aload_n 0, 1) := by decide +kernel
theorem d_Ref_batch_106 : decode prog_8_method_27_code 106 = .ok (.getfield 7, 3) := by decide +kernel
theorem d_Ref_batch_109 : decode prog_8_method_27_code 109 = .ok (.imul, 1) := by decide +kernel
theorem d_Ref_batch_110 : decode prog_8_method_27_code 110 = .ok (.iconst 1, 1) := by decide +kernel
theorem d_Ref_batch_111 : decode prog_8_method_27_code 111 = .ok (.isub, 1) := by decide +kernel
theorem d_Ref_batch_112 : decode prog_8_method_27_code 112 = .ok (.imul, 1) := by decide +kernel
theorem d_Ref_batch_113 : decode prog_8_method_27_code 113 = .ok (.iload 5, 2) := by decide +kernel
theorem d_Ref_batch_115 : decode prog_8_method_27_code 115 = .ok (.imul, 1) := by decide +kernel
theorem d_Ref_batch_116 : decode prog_8_method_27_code 116 = .ok (.istore 8, 2) := by decide +kernel
theorem d_Ref_batch_118 : decode prog_8_method_27_code 118 = .ok (.iload 6, 2) := by decide +kernel
theorem d_Ref_batch_120 : decode prog_8_method_27_code 120 = .ok (.aload_n 0, 1) := by decide +kernel
theorem d_Ref_batch_121 : decode prog_8_method_27_code 121 = .ok (.getfield 36, 3) := by decide +kernel
theorem d_Ref_batch_124 : decode prog_8_method_27_code 124 = .ok (.bipush 32, 2) := by decide +kernel
theorem d_Ref_batch_126 : decode prog_8_method_27_code 126 = .ok (.iload_n 1, 1) := by decide +kernel
theorem d_Ref_batch_127 : decode prog_8_method_27_code 127 = .ok (.imul, 1) := by decide +kernel
theorem d_Ref_batch_128 : decode prog_8_method_27_code 128 = .ok (.iload 7, 2) := by decide +kernel
theorem d_Ref_batch_130 : decode prog_8_method_27_code 130 = .ok (.iadd, 1) := by decide +kernel
theorem d_Ref_batch_131 : decode prog_8_method_27_code 131 = .ok (.iaload, 1) := by decide +kernel
theorem d_Ref_batch_132 : decode prog_8_method_27_code 132 = .ok (.aload_n 0, 1) := by decide +kernel
theorem d_Ref_batch_133 : decode prog_8_method_27_code 133 = .ok (.iload_n 3, 1) := by decide +kernel
theorem d_Ref_batch_134 : decode prog_8_method_27_code 134 = .ok (.iload 8, 2) := by decide +kernel
theorem d_Ref_batch_136 : decode prog_8_method_27_code 136 = .ok (.iconst 2, 1) := by decide +kernel
theorem d_Ref_batch_137 : decode prog_8_method_27_code 137 = .ok (.aload_n 0, 1) := by decide +kernel
theorem d_Ref_batch_138 : decode prog_8_method_27_code 138 = .ok (.getfield 7, 3) := by decide +kernel
theorem d_Ref_batch_141 : decode prog_8_method_27_code 141 = .ok (.imul, 1) := by decide +kernel
theorem d_Ref_batch_142 : decode prog_8_method_27_code 142 = .ok (.irem, 1) := by decide +kernel
theorem d_Ref_batch_143 : decode prog_8_method_27_code 143 = .ok (.invokevirtual 145, 3) := by decide +kernel
theorem d_Ref_batch_146 : decode prog_8_method_27_code 146 = .ok (.imul, 1) := by decide +kernel
theorem d_Ref_batch_147 : decode prog_8_method_27_code 147 = .ok (.iadd, 1) := by decide +kernel
theorem d_Ref_batch_148 : decode prog_8_method_27_code 148 = .ok (.aload_n 0, 1) := by decide +kernel
theorem d_Ref_batch_149 : decode prog_8_method_27_code 149 = .ok (.getfield 13, 3) := by decide +kernel
theorem d_Ref_batch_152 : decode prog_8_method_27_code 152 = .ok (.irem, 1) := by decide +kernel
theorem d_Ref_batch_153 : decode prog_8_method_27_code 153 = .ok (.istore 6, 2) := by decide +kernel
theorem d_Ref_batch_155 : decode prog_8_method_27_code 155 = .ok (.iinc 7 1, 3) := by decide +kernel
theorem d_Ref_batch_158 : decode prog_8_method_27_code 158 = .ok (.goto (-85), 3) := by decide +kernel
theorem d_Ref_batch_161 : decode prog_8_method_27_code 161 = .ok (.aload_n 0, 1) := by decide +kernel
theorem d_Ref_batch_162 : decode prog_8_method_27_code 162 = .ok (.getfield 63, 3) := by decide +kernel
theorem d_Ref_batch_165 : decode prog_8_method_27_code 165 = .ok (.iload 5, 2) := by decide +kernel
theorem d_Ref_batch_167 : decode prog_8_method_27_code 167 = .ok (.iload_n 2, 1) := by decide +kernel
theorem d_Ref_batch_168 : decode prog_8_method_27_code 168 = .ok (.ifCond .eq 9, 3) := by decide +kernel
theorem d_Ref_batch_171 : decode prog_8_method_27_code 171 = .ok (.iload 6, 2) := by decide +kernel
theorem d_Ref_batch_173 : decode prog_8_method_27_code 173 = .ok (.i2l, 1) := by decide +kernel
theorem d_Ref_batch_174 : decode prog_8_method_27_code 174 = .ok (.goto 14, 3) := by decide +kernel
theorem d_Ref_batch_177 : decode prog_8_method_27_code 177 = .ok (.iload 6, 2) := by decide +kernel
theorem d_Ref_batch_179 : decode prog_8_method_27_code 179 = .ok (.iload 4, 2) := by decide +kernel
theorem d_Ref_batch_181 : decode prog_8_method_27_code 181 = .ok (.imul, 1) := by decide +kernel
theorem d_Ref_batch_182 : decode prog_8_method_27_code 182 = .ok (.aload_n 0, 1) := by decide +kernel
theorem d_Ref_batch_183 : decode prog_8_method_27_code 183 = .ok (.getfield 13, 3) := by decide +kernel
theorem d_Ref_batch_186 : decode prog_8_method_27_code 186 = .ok (.irem, 1) := by decide +kernel
theorem d_Ref_batch_187 : decode prog_8_method_27_code 187 = .ok (.i2l, 1) := by decide +kernel
theorem d_Ref_batch_188 : decode prog_8_method_27_code 188 = .ok (.lastore, 1) := by decide +kernel
theorem d_Ref_batch_189 : decode prog_8_method_27_code 189 = .ok (.iinc 5 1, 3) := by decide +kernel
theorem d_Ref_batch_192 : decode prog_8_method_27_code 192 = .ok (.goto (-134), 3) := by decide +kernel
theorem d_Ref_batch_195 : decode prog_8_method_27_code 195 = .ok (.iconst 0, 1) := by decide +kernel
theorem d_Ref_batch_196 : decode prog_8_method_27_code 196 = .ok (.istore 5, 2) := by decide +kernel
theorem d_Ref_batch_198 : decode prog_8_method_27_code 198 = .ok (.iload 5, 2) := by decide +kernel
theorem d_Ref_batch_200 : decode prog_8_method_27_code 200 = .ok (.aload_n 0, 1) := by decide +kernel
theorem d_Ref_batch_201 : decode prog_8_method_27_code 201 = .ok (.getfield 7, 3) := by decide +kernel
theorem d_Ref_batch_204 : decode prog_8_method_27_code 204 = .ok (.if_icmp .ge 29, 3) := by decide +kernel
theorem d_Ref_batch_207 : decode prog_8_method_27_code 207 = .ok (.aload_n 0, 1) := by decide +kernel
theorem d_Ref_batch_208 : decode prog_8_method_27_code 208 = .ok (.getfield 36, 3) := by decide +kernel
theorem d_Ref_batch_211 : decode prog_8_method_27_code 211 = .ok (.bipush 32, 2) := by decide +kernel
theorem d_Ref_batch_213 : decode prog_8_method_27_code 213 = .ok (.iload_n 1, 1) := by decide +kernel
theorem d_Ref_batch_214 : decode prog_8_method_27_code 214 = .ok (.imul, 1) := by decide +kernel
theorem d_Ref_batch_215 : decode prog_8_method_27_code 215 = .ok (.iload 5, 2) := by decide +kernel
theorem d_Ref_batch_217 : decode prog_8_method_27_code 217 = .ok (.iadd, 1) := by decide +kernel
theorem d_Ref_batch_218 : decode prog_8_method_27_code 218 = .ok (.aload_n 0, 1) := by decide +kernel
theorem d_Ref_batch_219 : decode prog_8_method_27_code 219 = .ok (.getfield 63, 3) := by decide +kernel
theorem d_Ref_batch_222 : decode prog_8_method_27_code 222 = .ok (.iload 5, 2) := by decide +kernel
theorem d_Ref_batch_224 : decode prog_8_method_27_code 224 = .ok (.laload, 1) := by decide +kernel
theorem d_Ref_batch_225 : decode prog_8_method_27_code 225 = .ok (.l2i, 1) := by decide +kernel
theorem d_Ref_batch_226 : decode prog_8_method_27_code 226 = .ok (.iastore, 1) := by decide +kernel
theorem d_Ref_batch_227 : decode prog_8_method_27_code 227 = .ok (.iinc 5 1, 3) := by decide +kernel
theorem d_Ref_batch_230 : decode prog_8_method_27_code 230 = .ok (.goto (-32), 3) := by decide +kernel
theorem d_Ref_batch_233 : decode prog_8_method_27_code 233 = .ok (.aload_n 0, 1) := by decide +kernel
theorem d_Ref_batch_234 : decode prog_8_method_27_code 234 = .ok (.getfield 36, 3) := by decide +kernel
theorem d_Ref_batch_237 : decode prog_8_method_27_code 237 = .ok (.bipush 32, 2) := by decide +kernel
theorem d_Ref_batch_239 : decode prog_8_method_27_code 239 = .ok (.iload_n 1, 1) := by decide +kernel
theorem d_Ref_batch_240 : decode prog_8_method_27_code 240 = .ok (.imul, 1) := by decide +kernel
theorem d_Ref_batch_241 : decode prog_8_method_27_code 241 = .ok (.iaload, 1) := by decide +kernel
theorem d_Ref_batch_242 : decode prog_8_method_27_code 242 = .ok (.ireturn, 1) := by decide +kernel
theorem d_Ref_take_0 : decode prog_8_method_28_code 0 = .ok (.iconst 0, 1) := by decide +kernel
theorem d_Ref_take_1 : decode prog_8_method_28_code 1 = .ok (.istore 4, 2) := by decide +kernel
theorem d_Ref_take_3 : decode prog_8_method_28_code 3 = .ok (.iload 4, 2) := by decide +kernel
theorem d_Ref_take_5 : decode prog_8_method_28_code 5 = .ok (.aload_n 0, 1) := by decide +kernel
theorem d_Ref_take_6 : decode prog_8_method_28_code 6 = .ok (.getfield 7, 3) := by decide +kernel
theorem d_Ref_take_9 : decode prog_8_method_28_code 9 = .ok (.if_icmp .ge 43, 3) := by decide +kernel
theorem d_Ref_take_12 : decode prog_8_method_28_code 12 = .ok (.aload_n 3, 1) := by decide +kernel
theorem d_Ref_take_13 : decode prog_8_method_28_code 13 = .ok (.iload 4, 2) := by decide +kernel
theorem d_Ref_take_15 : decode prog_8_method_28_code 15 = .ok (.iload_n 2, 1) := by decide +kernel
theorem d_Ref_take_16 : decode prog_8_method_28_code 16 = .ok (.aload_n 0, 1) := by decide +kernel
theorem d_Ref_take_17 : decode prog_8_method_28_code 17 = .ok (.getfield 39, 3) := by decide +kernel
theorem d_Ref_take_20 : decode prog_8_method_28_code 20 = .ok (.iload_n 1, 1) := by decide +kernel
theorem d_Ref_take_21 : decode prog_8_method_28_code 21 = .ok (.iaload, 1) := by decide +kernel
theorem d_Ref_take_22 : decode prog_8_method_28_code 22 = .ok (.if_icmp .ge 22, 3) := by decide +kernel
theorem d_Ref_take_25 : decode prog_8_method_28_code 25 = .ok (.aload_n 0, 1) := by decide +kernel
theorem d_Ref_take_26 : decode prog_8_method_28_code 26 = .ok (.getfield 42, 3) := by decide +kernel
theorem d_Ref_take_29 : decode prog_8_method_28_code 29 = .ok (.iconst 3, 1) := by decide +kernel
theorem d_Ref_take_30 : decode prog_8_method_28_code 30 = .ok (.iload_n 1, 1) := by decide +kernel
theorem d_Ref_take_31 : decode prog_8_method_28_code 31 = .ok (.imul, 1) := by decide +kernel
theorem d_Ref_take_32 : decode prog_8_method_28_code 32 = .ok (.iload_n 2, 1) := by decide +kernel
theorem d_Ref_take_33 : decode prog_8_method_28_code 33 = .ok (.iadd, 1) := by decide +kernel
theorem d_Ref_take_34 : decode prog_8_method_28_code 34 = .ok (.bipush 32, 2) := by decide +kernel
theorem d_Ref_take_36 : decode prog_8_method_28_code 36 = .ok (.imul, 1) := by decide +kernel
theorem d_Ref_take_37 : decode prog_8_method_28_code 37 = .ok (.iload 4, 2) := by decide +kernel
theorem d_Ref_take_39 : decode prog_8_method_28_code 39 = .ok (.iadd, 1) := by decide +kernel
theorem d_Ref_take_40 : decode prog_8_method_28_code 40 = .ok (.laload, 1) := by decide +kernel
theorem d_Ref_take_41 : decode prog_8_method_28_code 41 = .ok (.goto 4, 3) := by decide +kernel
theorem d_Ref_take_44 : decode prog_8_method_28_code 44 = .ok (.lconst 0, 1) := by decide +kernel
theorem d_Ref_take_45 : decode prog_8_method_28_code 45 = .ok (.lastore, 1) := by decide +kernel
theorem d_Ref_take_46 : decode prog_8_method_28_code 46 = .ok (.iinc 4 1, 3) := by decide +kernel
theorem d_Ref_take_49 : decode prog_8_method_28_code 49 = .ok (.goto (-46), 3) := by decide +kernel
theorem d_Ref_take_52 : decode prog_8_method_28_code 52 = .ok (.return_, 1) := by decide +kernel
theorem d_Ref_put_0 : decode prog_8_method_29_code 0 = .ok (.iconst 0, 1) := by decide +kernel
theorem d_Ref_put_1 : decode prog_8_method_29_code 1 = .ok (.istore 4, 2) := by decide +kernel
theorem d_Ref_put_3 : decode prog_8_method_29_code 3 = .ok (.iload 4, 2) := by decide +kernel
theorem d_Ref_put_5 : decode prog_8_method_29_code 5 = .ok (.aload_n 0, 1) := by decide +kernel
theorem d_Ref_put_6 : decode prog_8_method_29_code 6 = .ok (.getfield 7, 3) := by decide +kernel
theorem d_Ref_put_9 : decode prog_8_method_29_code 9 = .ok (.if_icmp .ge 32, 3) := by decide +kernel
theorem d_Ref_put_12 : decode prog_8_method_29_code 12 = .ok (.aload_n 0, 1) := by decide +kernel
theorem d_Ref_put_13 : decode prog_8_method_29_code 13 = .ok (.getfield 42, 3) := by decide +kernel
theorem d_Ref_put_16 : decode prog_8_method_29_code 16 = .ok (.iconst 3, 1) := by decide +kernel
theorem d_Ref_put_17 : decode prog_8_method_29_code 17 = .ok (.iload_n 1, 1) := by decide +kernel
theorem d_Ref_put_18 : decode prog_8_method_29_code 18 = .ok (.imul, 1) := by decide +kernel
theorem d_Ref_put_19 : decode prog_8_method_29_code 19 = .ok (.iload_n 2, 1) := by decide +kernel
theorem d_Ref_put_20 : decode prog_8_method_29_code 20 = .ok (.iadd, 1) := by decide +kernel
theorem d_Ref_put_21 : decode prog_8_method_29_code 21 = .ok (.bipush 32, 2) := by decide +kernel
theorem d_Ref_put_23 : decode prog_8_method_29_code 23 = .ok (.imul, 1) := by decide +kernel
theorem d_Ref_put_24 : decode prog_8_method_29_code 24 = .ok (.iload 4, 2) := by decide +kernel
theorem d_Ref_put_26 : decode prog_8_method_29_code 26 = .ok (.iadd, 1) := by decide +kernel
theorem d_Ref_put_27 : decode prog_8_method_29_code 27 = .ok (.aload_n 3, 1) := by decide +kernel
theorem d_Ref_put_28 : decode prog_8_method_29_code 28 = .ok (.iload 4, 2) := by decide +kernel
theorem d_Ref_put_30 : decode prog_8_method_29_code 30 = .ok (.laload, 1) := by decide +kernel
theorem d_Ref_put_31 : decode prog_8_method_29_code 31 = .ok (.invokestatic 74, 3) := by decide +kernel
theorem d_Ref_put_34 : decode prog_8_method_29_code 34 = .ok (.lastore, 1) := by decide +kernel
theorem d_Ref_put_35 : decode prog_8_method_29_code 35 = .ok (.iinc 4 1, 3) := by decide +kernel
theorem d_Ref_put_38 : decode prog_8_method_29_code 38 = .ok (.goto (-35), 3) := by decide +kernel
theorem d_Ref_put_41 : decode prog_8_method_29_code 41 = .ok (.return_, 1) := by decide +kernel
theorem d_Ref_seal_0 : decode prog_8_method_30_code 0 = .ok (.aload_n 0, 1) := by decide +kernel
theorem d_Ref_seal_1 : decode prog_8_method_30_code 1 = .ok (.iload_n 1, 1) := by decide +kernel
theorem d_Ref_seal_2 : decode prog_8_method_30_code 2 = .ok (.invokestatic 138, 3) := by decide +kernel
theorem d_Ref_seal_5 : decode prog_8_method_30_code 5 = .ok (.ifCond .ne 10, 3) := by decide +kernel
theorem d_Ref_seal_8 : decode prog_8_method_30_code 8 = .ok (.iload_n 2, 1) := by decide +kernel
theorem d_Ref_seal_9 : decode prog_8_method_30_code 9 = .ok (.invokestatic 142, 3) := by decide +kernel
theorem d_Ref_seal_12 : decode prog_8_method_30_code 12 = .ok (.ifCond .eq 7, 3) := by decide +kernel
theorem d_Ref_seal_15 : decode prog_8_method_30_code 15 = .ok (.iconst 1, 1) := by decide +kernel
theorem d_Ref_seal_16 : decode prog_8_method_30_code 16 = .ok (.goto 15, 3) := by decide +kernel
theorem d_Ref_seal_19 : decode prog_8_method_30_code 19 = .ok (.aload_n 0, 1) := by decide +kernel
theorem d_Ref_seal_20 : decode prog_8_method_30_code 20 = .ok (.getfield 107, 3) := by decide +kernel
theorem d_Ref_seal_23 : decode prog_8_method_30_code 23 = .ok (.ifCond .ne 7, 3) := by decide +kernel
theorem d_Ref_seal_26 : decode prog_8_method_30_code 26 = .ok (.iconst 2, 1) := by decide +kernel
theorem d_Ref_seal_27 : decode prog_8_method_30_code 27 = .ok (.goto 4, 3) := by decide +kernel
theorem d_Ref_seal_30 : decode prog_8_method_30_code 30 = .ok (.iconst 0, 1) := by decide +kernel
theorem d_Ref_seal_31 : decode prog_8_method_30_code 31 = .ok (.putfield 69, 3) := by decide +kernel
theorem d_Ref_seal_34 : decode prog_8_method_30_code 34 = .ok (.aload_n 0, 1) := by decide +kernel
theorem d_Ref_seal_35 : decode prog_8_method_30_code 35 = .ok (.getfield 69, 3) := by decide +kernel
theorem d_Ref_seal_38 : decode prog_8_method_30_code 38 = .ok (.ifCond .le 5, 3) := by decide +kernel
theorem d_Ref_seal_41 : decode prog_8_method_30_code 41 = .ok (.iconst 0, 1) := by decide +kernel
theorem d_Ref_seal_42 : decode prog_8_method_30_code 42 = .ok (.ireturn, 1) := by decide +kernel
theorem d_Ref_seal_43 : decode prog_8_method_30_code 43 = .ok (.aload_n 0, 1) := by decide +kernel
theorem d_Ref_seal_44 : decode prog_8_method_30_code 44 = .ok (.aload_n 0, 1) := by decide +kernel
theorem d_Ref_seal_45 : decode prog_8_method_30_code 45 = .ok (.getfield 54, 3) := by decide +kernel
theorem d_Ref_seal_48 : decode prog_8_method_30_code 48 = .ok (.invokevirtual 117, 3) := by decide +kernel
theorem d_Ref_seal_51 : decode prog_8_method_30_code 51 = .ok (.aload_n 0, 1) := by decide +kernel
theorem d_Ref_seal_52 : decode prog_8_method_30_code 52 = .ok (.aload_n 0, 1) := by decide +kernel
theorem d_Ref_seal_53 : decode prog_8_method_30_code 53 = .ok (.getfield 63, 3) := by decide +kernel
theorem d_Ref_seal_56 : decode prog_8_method_30_code 56 = .ok (.invokevirtual 95, 3) := by decide +kernel
theorem d_Ref_seal_59 : decode prog_8_method_30_code 59 = .ok (.aload_n 0, 1) := by decide +kernel
theorem d_Ref_seal_60 : decode prog_8_method_30_code 60 = .ok (.aload_n 0, 1) := by decide +kernel
theorem d_Ref_seal_61 : decode prog_8_method_30_code 61 = .ok (.getfield 66, 3) := by decide +kernel
theorem d_Ref_seal_64 : decode prog_8_method_30_code 64 = .ok (.invokevirtual 95, 3) := by decide +kernel
theorem d_Ref_seal_67 : decode prog_8_method_30_code 67 = .ok (.aload_n 0, 1) := by decide +kernel
theorem d_Ref_seal_68 : decode prog_8_method_30_code 68 = .ok (.aload_n 0, 1) := by decide +kernel
theorem d_Ref_seal_69 : decode prog_8_method_30_code 69 = .ok (.getfield 20, 3) := by decide +kernel
theorem d_Ref_seal_72 : decode prog_8_method_30_code 72 = .ok (.aload_n 0, 1) := by decide +kernel
theorem d_Ref_seal_73 : decode prog_8_method_30_code 73 = .ok (.getfield 54, 3) := by decide +kernel
theorem d_Ref_seal_76 : decode prog_8_method_30_code 76 = .ok (.aload_n 0, 1) := by decide +kernel
theorem d_Ref_seal_77 : decode prog_8_method_30_code 77 = .ok (.getfield 45, 3) := by decide +kernel
theorem d_Ref_seal_80 : decode prog_8_method_30_code 80 = .ok (.invokevirtual 98, 3) := by decide +kernel
theorem d_Ref_seal_83 : decode prog_8_method_30_code 83 = .ok (.aload_n 0, 1) := by decide +kernel
theorem d_Ref_seal_84 : decode prog_8_method_30_code 84 = .ok (.aload_n 0, 1) := by decide +kernel
theorem d_Ref_seal_85 : decode prog_8_method_30_code 85 = .ok (.getfield 23, 3) := by decide +kernel
theorem d_Ref_seal_88 : decode prog_8_method_30_code 88 = .ok (.aload_n 0, 1) := by decide +kernel
theorem d_Ref_seal_89 : decode prog_8_method_30_code 89 = .ok (.getfield 54, 3) := by decide +kernel
theorem d_Ref_seal_92 : decode prog_8_method_30_code 92 = .ok (.aload_n 0, 1) := by decide +kernel
theorem d_Ref_seal_93 : decode prog_8_method_30_code 93 = .ok (.getfield 48, 3) := by decide +kernel
theorem d_Ref_seal_96 : decode prog_8_method_30_code 96 = .ok (.invokevirtual 98, 3) := by decide +kernel
theorem d_Ref_seal_99 : decode prog_8_method_30_code 99 = .ok (.iconst 0, 1) := by decide +kernel
theorem d_Ref_seal_100 : decode prog_8_method_30_code 100 = .ok (.istore_n 3, 1) := by decide +kernel
theorem d_Ref_seal_101 : decode prog_8_method_30_code 101 = .ok (.iload_n 3, 1) := by decide +kernel
theorem d_Ref_seal_102 : decode prog_8_method_30_code 102 = .ok (.aload_n 0, 1) := by decide +kernel
theorem d_Ref_seal_103 : decode prog_8_method_30_code 103 = .ok (.getfield 7, 3) := by decide +kernel
theorem d_Ref_seal_106 : decode prog_8_method_30_code 106 = .ok (.if_icmp .ge 62, 3) := by decide +kernel
theorem d_Ref_seal_109 : decode prog_8_method_30_code 109 = .ok (.aload_n 0, 1) := by decide +kernel
theorem d_Ref_seal_110 : decode prog_8_method_30_code 110 = .ok (.getfield 45, 3) := by decide +kernel
theorem d_Ref_seal_113 : decode prog_8_method_30_code 113 = .ok (.iload_n 3, 1) := by decide +kernel
theorem d_Ref_seal_114 : decode prog_8_method_30_code 114 = .ok (.dup2, 1) := by decide +kernel
theorem d_Ref_seal_115 : decode prog_8_method_30_code 115 = .ok (.laload, 1) := by decide +kernel
theorem d_Ref_seal_116 : decode prog_8_method_30_code 116 = .ok (.aload_n 0, 1) := by decide +kernel
theorem d_Ref_seal_117 : decode prog_8_method_30_code 117 = .ok (.getfield 63, 3) := by decide +kernel
theorem d_Ref_seal_120 : decode prog_8_method_30_code 120 = .ok (.iload_n 3, 1) := by decide +kernel
theorem d_Ref_seal_121 : decode prog_8_method_30_code 121 = .ok (.laload, 1) := by decide +kernel
theorem d_Ref_seal_122 : decode prog_8_method_30_code 122 = .ok (.ldc2_w 72, 3) := by decide +kernel
theorem d_Ref_seal_125 : decode prog_8_method_30_code 125 = .ok (.aload_n 0, 1) := by decide +kernel
theorem d_Ref_seal_126 : decode prog_8_method_30_code 126 = .ok (.getfield 13, 3) := by decide +kernel
theorem d_Ref_seal_129 : decode prog_8_method_30_code 129 = .ok (.i2l, 1) := by decide +kernel
theorem d_Ref_seal_130 : decode prog_8_method_30_code 130 = .ok (.ldiv, 1) := by decide +kernel
theorem d_Ref_seal_131 : decode prog_8_method_30_code 131 = .ok (.aload_n 0, 1) := by decide +kernel
theorem d_Ref_seal_132 : decode prog_8_method_30_code 132 = .ok (.getfield 36, 3) := by decide +kernel
theorem d_Ref_seal_135 : decode prog_8_method_30_code 135 = .ok (.bipush 32, 2) := by decide +kernel
theorem d_Ref_seal_137 : decode prog_8_method_30_code 137 = .ok (.iload_n 2, 1) := by decide +kernel
theorem d_Ref_seal_138 : decode prog_8_method_30_code 138 = .ok (.imul, 1) := by decide +kernel
theorem d_Ref_seal_139 : decode prog_8_method_30_code 139 = .ok (.iload_n 3, 1) := by decide +kernel
theorem d_Ref_seal_140 : decode prog_8_method_30_code 140 = .ok (.iadd, 1) := by decide +kernel
theorem d_Ref_seal_141 : decode prog_8_method_30_code 141 = .ok (.iaload, 1) := by decide +kernel
theorem d_Ref_seal_142 : decode prog_8_method_30_code 142 = .ok (.i2l, 1) := by decide +kernel
theorem d_Ref_seal_143 : decode prog_8_method_30_code 143 = .ok (.lmul, 1) := by decide +kernel
theorem d_Ref_seal_144 : decode prog_8_method_30_code 144 = .ok (.ladd, 1) := by decide +kernel
theorem d_Ref_seal_145 : decode prog_8_method_30_code 145 = .ok (.ladd, 1) := by decide +kernel
theorem d_Ref_seal_146 : decode prog_8_method_30_code 146 = .ok (.lastore, 1) := by decide +kernel
theorem d_Ref_seal_147 : decode prog_8_method_30_code 147 = .ok (.aload_n 0, 1) := by decide +kernel
theorem d_Ref_seal_148 : decode prog_8_method_30_code 148 = .ok (.getfield 48, 3) := by decide +kernel
theorem d_Ref_seal_151 : decode prog_8_method_30_code 151 = .ok (.iload_n 3, 1) := by decide +kernel
theorem d_Ref_seal_152 : decode prog_8_method_30_code 152 = .ok (.dup2, 1) := by decide +kernel
theorem d_Ref_seal_153 : decode prog_8_method_30_code 153 = .ok (.laload, 1) := by decide +kernel
theorem d_Ref_seal_154 : decode prog_8_method_30_code 154 = .ok (.aload_n 0, 1) := by decide +kernel
theorem d_Ref_seal_155 : decode prog_8_method_30_code 155 = .ok (.getfield 66, 3) := by decide +kernel
theorem d_Ref_seal_158 : decode prog_8_method_30_code 158 = .ok (.iload_n 3, 1) := by decide +kernel
theorem d_Ref_seal_159 : decode prog_8_method_30_code 159 = .ok (.laload, 1) := by decide +kernel
theorem d_Ref_seal_160 : decode prog_8_method_30_code 160 = .ok (.ladd, 1) := by decide +kernel
theorem d_Ref_seal_161 : decode prog_8_method_30_code 161 = .ok (.lastore, 1) := by decide +kernel
theorem d_Ref_seal_162 : decode prog_8_method_30_code 162 = .ok (.iinc 3 1, 3) := by decide +kernel
theorem d_Ref_seal_165 : decode prog_8_method_30_code 165 = .ok (.goto (-64), 3) := by decide +kernel
theorem d_Ref_seal_168 : decode prog_8_method_30_code 168 = .ok (.aload_n 0, 1) := by decide +kernel
theorem d_Ref_seal_169 : decode prog_8_method_30_code 169 = .ok (.getfield 39, 3) := by decide +kernel
theorem d_Ref_seal_172 : decode prog_8_method_30_code 172 = .ok (.iload_n 1, 1) := by decide +kernel
theorem d_Ref_seal_173 : decode prog_8_method_30_code 173 = .ok (.iconst 2, 1) := by decide +kernel
theorem d_Ref_seal_174 : decode prog_8_method_30_code 174 = .ok (.iastore, 1) := by decide +kernel
theorem d_Ref_seal_175 : decode prog_8_method_30_code 175 = .ok (.aload_n 0, 1) := by decide +kernel
theorem d_Ref_seal_176 : decode prog_8_method_30_code 176 = .ok (.iload_n 1, 1) := by decide +kernel
theorem d_Ref_seal_177 : decode prog_8_method_30_code 177 = .ok (.iconst 0, 1) := by decide +kernel
theorem d_Ref_seal_178 : decode prog_8_method_30_code 178 = .ok (.aload_n 0, 1) := by decide +kernel
theorem d_Ref_seal_179 : decode prog_8_method_30_code 179 = .ok (.getfield 45, 3) := by decide +kernel
theorem d_Ref_seal_182 : decode prog_8_method_30_code 182 = .ok (.invokevirtual 152, 3) := by decide +kernel
theorem d_Ref_seal_185 : decode prog_8_method_30_code 185 = .ok (.aload_n 0, 1) := by decide +kernel
theorem d_Ref_seal_186 : decode prog_8_method_30_code 186 = .ok (.iload_n 1, 1) := by decide +kernel
theorem d_Ref_seal_187 : decode prog_8_method_30_code 187 = .ok (.iconst 1, 1) := by decide +kernel
theorem d_Ref_seal_188 : decode prog_8_method_30_code 188 = .ok (.aload_n 0, 1) := by decide +kernel
theorem d_Ref_seal_189 : decode prog_8_method_30_code 189 = .ok (.getfield 48, 3) := by decide +kernel
theorem d_Ref_seal_192 : decode prog_8_method_30_code 192 = .ok (.invokevirtual 152, 3) := by decide +kernel
theorem d_Ref_seal_195 : decode prog_8_method_30_code 195 = .ok (.aload_n 0, 1) := by decide +kernel
theorem d_Ref_seal_196 : decode prog_8_method_30_code 196 = .ok (.iload_n 1, 1) := by decide +kernel
theorem d_Ref_seal_197 : decode prog_8_method_30_code 197 = .ok (.invokevirtual 156, 3) := by decide +kernel
theorem d_Ref_seal_200 : decode prog_8_method_30_code 200 = .ok (.ireturn, 1) := by decide +kernel
theorem d_Ref_phase_0 : decode prog_8_method_31_code 0 = .ok (.aload_n 0, 1) := by decide +kernel
theorem d_Ref_phase_1 : decode prog_8_method_31_code 1 = .ok (.iload_n 1, 1) := by decide +kernel
theorem d_Ref_phase_2 : decode prog_8_method_31_code 2 = .ok (.iconst 0, 1) := by decide +kernel
theorem d_Ref_phase_3 : decode prog_8_method_31_code 3 = .ok (.aload_n 0, 1) := by decide +kernel
theorem d_Ref_phase_4 : decode prog_8_method_31_code 4 = .ok (.getfield 51, 3) := by decide +kernel
theorem d_Ref_phase_7 : decode prog_8_method_31_code 7 = .ok (.invokevirtual 159, 3) := by decide +kernel
theorem d_Ref_phase_10 : decode prog_8_method_31_code 10 = .ok (.aload_n 0, 1) := by decide +kernel
theorem d_Ref_phase_11 : decode prog_8_method_31_code 11 = .ok (.iload_n 1, 1) := by decide +kernel
theorem d_Ref_phase_12 : decode prog_8_method_31_code 12 = .ok (.iconst 1, 1) := by decide +kernel
theorem d_Ref_phase_13 : decode prog_8_method_31_code 13 = .ok (.aload_n 0, 1) := by decide +kernel
theorem d_Ref_phase_14 : decode prog_8_method_31_code 14 = .ok (.getfield 45, 3) := by decide +kernel
theorem d_Ref_phase_17 : decode prog_8_method_31_code 17 = .ok (.invokevirtual 159, 3) := by decide +kernel
theorem d_Ref_phase_20 : decode prog_8_method_31_code 20 = .ok (.aload_n 0, 1) := by decide +kernel
theorem d_Ref_phase_21 : decode prog_8_method_31_code 21 = .ok (.aload_n 0, 1) := by decide +kernel
theorem d_Ref_phase_22 : decode prog_8_method_31_code 22 = .ok (.getfield 45, 3) := by decide +kernel
theorem d_Ref_phase_25 : decode prog_8_method_31_code 25 = .ok (.aload_n 0, 1) := by decide +kernel
theorem d_Ref_phase_26 : decode prog_8_method_31_code 26 = .ok (.getfield 16, 3) := by decide +kernel
theorem d_Ref_phase_29 : decode prog_8_method_31_code 29 = .ok (.aload_n 0, 1) := by decide +kernel
theorem d_Ref_phase_30 : decode prog_8_method_31_code 30 = .ok (.getfield 48, 3) := by decide +kernel
theorem d_Ref_phase_33 : decode prog_8_method_31_code 33 = .ok (.invokevirtual 98, 3) := by decide +kernel
theorem d_Ref_phase_36 : decode prog_8_method_31_code 36 = .ok (.iconst 0, 1) := by decide +kernel
theorem d_Ref_phase_37 : decode prog_8_method_31_code 37 = .ok (.istore_n 2, 1) := by decide +kernel
theorem d_Ref_phase_38 : decode prog_8_method_31_code 38 = .ok (.iload_n 2, 1) := by decide +kernel
theorem d_Ref_phase_39 : decode prog_8_method_31_code 39 = .ok (.aload_n 0, 1) := by decide +kernel
theorem d_Ref_phase_40 : decode prog_8_method_31_code 40 = .ok (.getfield 7, 3) := by decide +kernel
theorem d_Ref_phase_43 : decode prog_8_method_31_code 43 = .ok (.if_icmp .ge 24, 3) := by decide +kernel
theorem d_Ref_phase_46 : decode prog_8_method_31_code 46 = .ok (.aload_n 0, 1) := by decide +kernel
theorem d_Ref_phase_47 : decode prog_8_method_31_code 47 = .ok (.getfield 51, 3) := by decide +kernel
theorem d_Ref_phase_50 : decode prog_8_method_31_code 50 = .ok (.iload_n 2, 1) := by decide +kernel
theorem d_Ref_phase_51 : decode prog_8_method_31_code 51 = .ok (.dup2, 1) := by decide +kernel
theorem d_Ref_phase_52 : decode prog_8_method_31_code 52 = .ok (.laload, 1) := by decide +kernel
theorem d_Ref_phase_53 : decode prog_8_method_31_code 53 = .ok (.aload_n 0, 1) := by decide +kernel
theorem d_Ref_phase_54 : decode prog_8_method_31_code 54 = .ok (.getfield 48, 3) := by decide +kernel
theorem d_Ref_phase_57 : decode prog_8_method_31_code 57 = .ok (.iload_n 2, 1) := by decide +kernel
theorem d_Ref_phase_58 : decode prog_8_method_31_code 58 = .ok (.laload, 1) := by decide +kernel
theorem d_Ref_phase_59 : decode prog_8_method_31_code 59 = .ok (.ladd, 1) := by decide +kernel
theorem d_Ref_phase_60 : decode prog_8_method_31_code 60 = .ok (.lastore, 1) := by decide +kernel
theorem d_Ref_phase_61 : decode prog_8_method_31_code 61 = .ok (.iinc 2 1, 3) := by decide +kernel
theorem d_Ref_phase_64 : decode prog_8_method_31_code 64 = .ok (.goto (-26), 3) := by decide +kernel
theorem d_Ref_phase_67 : decode prog_8_method_31_code 67 = .ok (.aload_n 0, 1) := by decide +kernel
theorem d_Ref_phase_68 : decode prog_8_method_31_code 68 = .ok (.iload_n 1, 1) := by decide +kernel
theorem d_Ref_phase_69 : decode prog_8_method_31_code 69 = .ok (.iconst 2, 1) := by decide +kernel
theorem d_Ref_phase_70 : decode prog_8_method_31_code 70 = .ok (.aload_n 0, 1) := by decide +kernel
theorem d_Ref_phase_71 : decode prog_8_method_31_code 71 = .ok (.getfield 45, 3) := by decide +kernel
theorem d_Ref_phase_74 : decode prog_8_method_31_code 74 = .ok (.invokevirtual 159, 3) := by decide +kernel
theorem d_Ref_phase_77 : decode prog_8_method_31_code 77 = .ok (.aload_n 0, 1) := by decide +kernel
theorem d_Ref_phase_78 : decode prog_8_method_31_code 78 = .ok (.aload_n 0, 1) := by decide +kernel
theorem d_Ref_phase_79 : decode prog_8_method_31_code 79 = .ok (.getfield 45, 3) := by decide +kernel
theorem d_Ref_phase_82 : decode prog_8_method_31_code 82 = .ok (.aload_n 0, 1) := by decide +kernel
theorem d_Ref_phase_83 : decode prog_8_method_31_code 83 = .ok (.getfield 16, 3) := by decide +kernel
theorem d_Ref_phase_86 : decode prog_8_method_31_code 86 = .ok (.aload_n 0, 1) := by decide +kernel
theorem d_Ref_phase_87 : decode prog_8_method_31_code 87 = .ok (.getfield 48, 3) := by decide +kernel
theorem d_Ref_phase_90 : decode prog_8_method_31_code 90 = .ok (.invokevirtual 98, 3) := by decide +kernel
theorem d_Ref_phase_93 : decode prog_8_method_31_code 93 = .ok (.iconst 0, 1) := by decide +kernel
theorem d_Ref_phase_94 : decode prog_8_method_31_code 94 = .ok (.istore_n 2, 1) := by decide +kernel
theorem d_Ref_phase_95 : decode prog_8_method_31_code 95 = .ok (.iload_n 2, 1) := by decide +kernel
theorem d_Ref_phase_96 : decode prog_8_method_31_code 96 = .ok (.aload_n 0, 1) := by decide +kernel
theorem d_Ref_phase_97 : decode prog_8_method_31_code 97 = .ok (.getfield 7, 3) := by decide +kernel
theorem d_Ref_phase_100 : decode prog_8_method_31_code 100 = .ok (.if_icmp .ge 21, 3) := by decide +kernel
theorem d_Ref_phase_103 : decode prog_8_method_31_code 103 = .ok (.aload_n 0, 1) := by decide +kernel
theorem d_Ref_phase_104 : decode prog_8_method_31_code 104 = .ok (.getfield 45, 3) := by decide +kernel
theorem d_Ref_phase_107 : decode prog_8_method_31_code 107 = .ok (.iload_n 2, 1) := by decide +kernel
theorem d_Ref_phase_108 : decode prog_8_method_31_code 108 = .ok (.aload_n 0, 1) := by decide +kernel
theorem d_Ref_phase_109 : decode prog_8_method_31_code 109 = .ok (.getfield 48, 3) := by decide +kernel
theorem d_Ref_phase_112 : decode prog_8_method_31_code 112 = .ok (.iload_n 2, 1) := by decide +kernel
theorem d_Ref_phase_113 : decode prog_8_method_31_code 113 = .ok (.laload, 1) := by decide +kernel
theorem d_Ref_phase_114 : decode prog_8_method_31_code 114 = .ok (.lastore, 1) := by decide +kernel
theorem d_Ref_phase_115 : decode prog_8_method_31_code 115 = .ok (.iinc 2 1, 3) := by decide +kernel
theorem d_Ref_phase_118 : decode prog_8_method_31_code 118 = .ok (.goto (-23), 3) := by decide +kernel
theorem d_Ref_phase_121 : decode prog_8_method_31_code 121 = .ok (.aload_n 0, 1) := by decide +kernel
theorem d_Ref_phase_122 : decode prog_8_method_31_code 122 = .ok (.aload_n 0, 1) := by decide +kernel
theorem d_Ref_phase_123 : decode prog_8_method_31_code 123 = .ok (.getfield 45, 3) := by decide +kernel
theorem d_Ref_phase_126 : decode prog_8_method_31_code 126 = .ok (.aload_n 0, 1) := by decide +kernel
theorem d_Ref_phase_127 : decode prog_8_method_31_code 127 = .ok (.getfield 16, 3) := by decide +kernel
theorem d_Ref_phase_130 : decode prog_8_method_31_code 130 = .ok (.aload_n 0, 1) := by decide +kernel
theorem d_Ref_phase_131 : decode prog_8_method_31_code 131 = .ok (.getfield 48, 3) := by decide +kernel
theorem d_Ref_phase_134 : decode prog_8_method_31_code 134 = .ok (.invokevirtual 98, 3) := by decide +kernel
theorem d_Ref_phase_137 : decode prog_8_method_31_code 137 = .ok (.iconst 0, 1) := by decide +kernel
theorem d_Ref_phase_138 : decode prog_8_method_31_code 138 = .ok (.istore_n 2, 1) := by decide +kernel
theorem d_Ref_phase_139 : decode prog_8_method_31_code 139 = .ok (.iload_n 2, 1) := by decide +kernel
theorem d_Ref_phase_140 : decode prog_8_method_31_code 140 = .ok (.aload_n 0, 1) := by decide +kernel
theorem d_Ref_phase_141 : decode prog_8_method_31_code 141 = .ok (.getfield 7, 3) := by decide +kernel
theorem d_Ref_phase_144 : decode prog_8_method_31_code 144 = .ok (.if_icmp .ge 31, 3) := by decide +kernel
theorem d_Ref_phase_147 : decode prog_8_method_31_code 147 = .ok (.aload_n 0, 1) := by decide +kernel
theorem d_Ref_phase_148 : decode prog_8_method_31_code 148 = .ok (.getfield 51, 3) := by decide +kernel
theorem d_Ref_phase_151 : decode prog_8_method_31_code 151 = .ok (.iload_n 2, 1) := by decide +kernel
theorem d_Ref_phase_152 : decode prog_8_method_31_code 152 = .ok (.aload_n 0, 1) := by decide +kernel
theorem d_Ref_phase_153 : decode prog_8_method_31_code 153 = .ok (.getfield 51, 3) := by decide +kernel
theorem d_Ref_phase_156 : decode prog_8_method_31_code 156 = .ok (.iload_n 2, 1) := by decide +kernel
theorem d_Ref_phase_157 : decode prog_8_method_31_code 157 = .ok (.laload, 1) := by decide +kernel
theorem d_Ref_phase_158 : decode prog_8_method_31_code 158 = .ok (.aload_n 0, 1) := by decide +kernel
theorem d_Ref_phase_159 : decode prog_8_method_31_code 159 = .ok (.getfield 48, 3) := by decide +kernel
theorem d_Ref_phase_162 : decode prog_8_method_31_code 162 = .ok (.iload_n 2, 1) := by decide +kernel
theorem d_Ref_phase_163 : decode prog_8_method_31_code 163 = .ok (.laload, 1) := by decide +kernel
theorem d_Ref_phase_164 : decode prog_8_method_31_code 164 = .ok (.ladd, 1) := by decide +kernel
theorem d_Ref_phase_165 : decode prog_8_method_31_code 165 = .ok (.invokestatic 162, 3) := by decide +kernel
theorem d_Ref_phase_168 : decode prog_8_method_31_code 168 = .ok (.lastore, 1) := by decide +kernel
theorem d_Ref_phase_169 : decode prog_8_method_31_code 169 = .ok (.iinc 2 1, 3) := by decide +kernel
theorem d_Ref_phase_172 : decode prog_8_method_31_code 172 = .ok (.goto (-33), 3) := by decide +kernel
theorem d_Ref_phase_175 : decode prog_8_method_31_code 175 = .ok (.return_, 1) := by decide +kernel
theorem d_Ref_noise_0 : decode prog_8_method_32_code 0 = .ok (.aload_n 0, 1) := by decide +kernel
theorem d_Ref_noise_1 : decode prog_8_method_32_code 1 = .ok (.iload_n 1, 1) := by decide +kernel
theorem d_Ref_noise_2 : decode prog_8_method_32_code 2 = .ok (.invokevirtual 165, 3) := by decide +kernel
theorem d_Ref_noise_5 : decode prog_8_method_32_code 5 = .ok (.lconst 0, 1) := by decide +kernel
theorem d_Ref_noise_6 : decode prog_8_method_32_code 6 = .ok (.lstore_n 2, 1) := by decide +kernel
theorem d_Ref_noise_7 : decode prog_8_method_32_code 7 = .ok (.iconst 0, 1) := by decide +kernel
theorem d_Ref_noise_8 : decode prog_8_method_32_code 8 = .ok (.istore 4, 2) := by decide +kernel
theorem d_Ref_noise_10 : decode prog_8_method_32_code 10 = .ok (.iload 4, 2) := by decide +kernel
theorem d_Ref_noise_12 : decode prog_8_method_32_code 12 = .ok (.aload_n 0, 1) := by decide +kernel
theorem d_Ref_noise_13 : decode prog_8_method_32_code 13 = .ok (.getfield 7, 3) := by decide +kernel
theorem d_Ref_noise_16 : decode prog_8_method_32_code 16 = .ok (.if_icmp .ge 47, 3) := by decide +kernel
theorem d_Ref_noise_19 : decode prog_8_method_32_code 19 = .ok (.aload_n 0, 1) := by decide +kernel
theorem d_Ref_noise_20 : decode prog_8_method_32_code 20 = .ok (.getfield 13, 3) := by decide +kernel
theorem d_Ref_noise_23 : decode prog_8_method_32_code 23 = .ok (.i2l, 1) := by decide +kernel
theorem d_Ref_noise_24 : decode prog_8_method_32_code 24 = .ok (.aload_n 0, 1) := by decide +kernel
theorem d_Ref_noise_25 : decode prog_8_method_32_code 25 = .ok (.getfield 51, 3) := by decide +kernel
theorem d_Ref_noise_28 : decode prog_8_method_32_code 28 = .ok (.iload 4, 2) := by decide +kernel
theorem d_Ref_noise_30 : decode prog_8_method_32_code 30 = .ok (.laload, 1) := by decide +kernel
theorem d_Ref_noise_31 : decode prog_8_method_32_code 31 = .ok (.lmul, 1) := by decide +kernel
theorem d_Ref_noise_32 : decode prog_8_method_32_code 32 = .ok (.invokestatic 162, 3) := by decide +kernel
theorem d_Ref_noise_35 : decode prog_8_method_32_code 35 = .ok (.lstore 5, 2) := by decide +kernel
theorem d_Ref_noise_37 : decode prog_8_method_32_code 37 = .ok (.lload_n 2, 1) := by decide +kernel
theorem d_Ref_noise_38 : decode prog_8_method_32_code 38 = .ok (.lload 5, 2) := by decide +kernel
theorem d_Ref_noise_40 : decode prog_8_method_32_code 40 = .ok (.lconst 0, 1) := by decide +kernel
theorem d_Ref_noise_41 : decode prog_8_method_32_code 41 = .ok (.lcmp, 1) := by decide +kernel
theorem d_Ref_noise_42 : decode prog_8_method_32_code 42 = .ok (.ifCond .ge 9, 3) := by decide +kernel
theorem d_Ref_noise_45 : decode prog_8_method_32_code 45 = .ok (.lload 5, 2) := by decide +kernel
theorem d_Ref_noise_47 : decode prog_8_method_32_code 47 = .ok (.lneg, 1) := by decide +kernel
theorem d_Ref_noise_48 : decode prog_8_method_32_code 48 = .ok (.goto 5, 3) := by decide +kernel
theorem d_Ref_noise_51 : decode prog_8_method_32_code 51 = .ok (.lload 5, 2) := by decide +kernel
theorem d_Ref_noise_53 : decode prog_8_method_32_code 53 = .ok (.invokestatic 168, 3) := by decide +kernel
theorem d_Ref_noise_56 : decode prog_8_method_32_code 56 = .ok (.lstore_n 2, 1) := by decide +kernel
theorem d_Ref_noise_57 : decode prog_8_method_32_code 57 = .ok (.iinc 4 1, 3) := by decide +kernel
theorem d_Ref_noise_60 : decode prog_8_method_32_code 60 = .ok (.goto (-50), 3) := by decide +kernel
theorem d_Ref_noise_63 : decode prog_8_method_32_code 63 = .ok (.lload_n 2, 1) := by decide +kernel
theorem d_Ref_noise_64 : decode prog_8_method_32_code 64 = .ok (.lreturn, 1) := by decide +kernel
theorem d_Ref_budget_0 : decode prog_8_method_33_code 0 = .ok (.aload_n 0, 1) := by decide +kernel
theorem d_Ref_budget_1 : decode prog_8_method_33_code 1 = .ok (.iload_n 1, 1) := by decide +kernel
theorem d_Ref_budget_2 : decode prog_8_method_33_code 2 = .ok (.invokevirtual 174, 3) := by decide +kernel
theorem d_Ref_budget_5 : decode prog_8_method_33_code 5 = .ok (.lstore_n 2, 1) := by decide +kernel
theorem d_Ref_budget_6 : decode prog_8_method_33_code 6 = .ok (.bipush 27, 2) := by decide +kernel
theorem d_Ref_budget_8 : decode prog_8_method_33_code 8 = .ok (.istore 4, 2) := by decide +kernel
theorem d_Ref_budget_10 : decode prog_8_method_33_code 10 = .ok (.iload 4, 2) := by decide +kernel
theorem d_Ref_budget_12 : decode prog_8_method_33_code 12 = .ok (.ifCond .le 22, 3) := by decide +kernel
theorem d_Ref_budget_15 : decode prog_8_method_33_code 15 = .ok (.lload_n 2, 1) := by decide +kernel
theorem d_Ref_budget_16 : decode prog_8_method_33_code 16 = .ok (.iload 4, 2) := by decide +kernel
theorem d_Ref_budget_18 : decode prog_8_method_33_code 18 = .ok (.iconst 1, 1) := by decide +kernel
theorem d_Ref_budget_19 : decode prog_8_method_33_code 19 = .ok (.iadd, 1) := by decide +kernel
theorem d_Ref_budget_20 : decode prog_8_method_33_code 20 = .ok (.lshl, 1) := by decide +kernel
theorem d_Ref_budget_21 : decode prog_8_method_33_code 21 = .ok (.ldc2_w 72, 3) := by decide +kernel
theorem d_Ref_budget_24 : decode prog_8_method_33_code 24 = .ok (.lcmp, 1) := by decide +kernel
theorem d_Ref_budget_25 : decode prog_8_method_33_code 25 = .ok (.ifCond .lt 9, 3) := by decide +kernel
theorem d_Ref_budget_28 : decode prog_8_method_33_code 28 = .ok (.iinc 4 (-1), 3) := by decide +kernel
theorem d_Ref_budget_31 : decode prog_8_method_33_code 31 = .ok (.goto (-21), 3) := by decide +kernel
theorem d_Ref_budget_34 : decode prog_8_method_33_code 34 = .ok (.iload 4, 2) := by decide +kernel
theorem d_Ref_budget_36 : decode prog_8_method_33_code 36 = .ok (.ireturn, 1) := by decide +kernel
theorem d_Ref_scaled_0 : decode prog_8_method_34_code 0 = .ok (.lload_n 1, 1) := by decide +kernel
theorem d_Ref_scaled_1 : decode prog_8_method_34_code 1 = .ok (.ldc2_w 72, 3) := by decide +kernel
theorem d_Ref_scaled_4 : decode prog_8_method_34_code 4 = .ok (.lrem, 1) := by decide +kernel
theorem d_Ref_scaled_5 : decode prog_8_method_34_code 5 = .ok (.lstore_n 3, 1) := by decide +kernel
theorem d_Ref_scaled_6 : decode prog_8_method_34_code 6 = .ok (.lload_n 1, 1) := by decide +kernel
theorem d_Ref_scaled_7 : decode prog_8_method_34_code 7 = .ok (.ldc2_w 72, 3) := by decide +kernel
theorem d_Ref_scaled_10 : decode prog_8_method_34_code 10 = .ok (.ldiv, 1) := by decide +kernel
theorem d_Ref_scaled_11 : decode prog_8_method_34_code 11 = .ok (.lstore 5, 2) := by decide +kernel
theorem d_Ref_scaled_13 : decode prog_8_method_34_code 13 = .ok (.lload_n 3, 1) := by decide +kernel
theorem d_Ref_scaled_14 : decode prog_8_method_34_code 14 = .ok (.lconst 0, 1) := by decide +kernel
theorem d_Ref_scaled_15 : decode prog_8_method_34_code 15 = .ok (.lcmp, 1) := by decide +kernel
theorem d_Ref_scaled_16 : decode prog_8_method_34_code 16 = .ok (.ifCond .ge 15, 3) := by decide +kernel
theorem d_Ref_scaled_19 : decode prog_8_method_34_code 19 = .ok (.lload_n 3, 1) := by decide +kernel
theorem d_Ref_scaled_20 : decode prog_8_method_34_code 20 = .ok (.ldc2_w 72, 3) := by decide +kernel
theorem d_Ref_scaled_23 : decode prog_8_method_34_code 23 = .ok (.ladd, 1) := by decide +kernel
theorem d_Ref_scaled_24 : decode prog_8_method_34_code 24 = .ok (.lstore_n 3, 1) := by decide +kernel
theorem d_Ref_scaled_25 : decode prog_8_method_34_code 25 = .ok (.lload 5, 2) := by decide +kernel
theorem d_Ref_scaled_27 : decode prog_8_method_34_code 27 = .ok (.lconst 1, 1) := by decide +kernel
theorem d_Ref_scaled_28 : decode prog_8_method_34_code 28 = .ok (.lsub, 1) := by decide +kernel
theorem d_Ref_scaled_29 : decode prog_8_method_34_code 29 = .ok (.lstore 5, 2) := by decide +kernel
theorem d_Ref_scaled_31 : decode prog_8_method_34_code 31 = .ok (.aload_n 0, 1) := by decide +kernel
theorem d_Ref_scaled_32 : decode prog_8_method_34_code 32 = .ok (.getfield 13, 3) := by decide +kernel
theorem d_Ref_scaled_35 : decode prog_8_method_34_code 35 = .ok (.i2l, 1) := by decide +kernel
theorem d_Ref_scaled_36 : decode prog_8_method_34_code 36 = .ok (.lload 5, 2) := by decide +kernel
theorem d_Ref_scaled_38 : decode prog_8_method_34_code 38 = .ok (.lmul, 1) := by decide +kernel
theorem d_Ref_scaled_39 : decode prog_8_method_34_code 39 = .ok (.iconst 2, 1) := by decide +kernel
theorem d_Ref_scaled_40 : decode prog_8_method_34_code 40 = .ok (.aload_n 0, 1) := by decide +kernel
theorem d_Ref_scaled_41 : decode prog_8_method_34_code 41 = .ok (.getfield 13, 3) := by decide +kernel
theorem d_Ref_scaled_44 : decode prog_8_method_34_code 44 = .ok (.imul, 1) := by decide +kernel
theorem d_Ref_scaled_45 : decode prog_8_method_34_code 45 = .ok (.i2l, 1) := by decide +kernel
theorem d_Ref_scaled_46 : decode prog_8_method_34_code 46 = .ok (.lload_n 3, 1) := by decide +kernel
theorem d_Ref_scaled_47 : decode prog_8_method_34_code 47 = .ok (.lmul, 1) := by decide +kernel
theorem d_Ref_scaled_48 : decode prog_8_method_34_code 48 = .ok (.ldc2_w 72, 3) := by decide +kernel
theorem d_Ref_scaled_51 : decode prog_8_method_34_code 51 = .ok (.ladd, 1) := by decide +kernel
theorem d_Ref_scaled_52 : decode prog_8_method_34_code 52 = .ok (.ldc2_w 178, 3) := by decide +kernel
theorem d_Ref_scaled_55 : decode prog_8_method_34_code 55 = .ok (.ldiv, 1) := by decide +kernel
theorem d_Ref_scaled_56 : decode prog_8_method_34_code 56 = .ok (.ladd, 1) := by decide +kernel
theorem d_Ref_scaled_57 : decode prog_8_method_34_code 57 = .ok (.lreturn, 1) := by decide +kernel
theorem d_Ref_open_0 : decode prog_8_method_35_code 0 = .ok (.aload_n 0, 1) := by decide +kernel
theorem d_Ref_open_1 : decode prog_8_method_35_code 1 = .ok (.iload_n 1, 1) := by decide +kernel
theorem d_Ref_open_2 : decode prog_8_method_35_code 2 = .ok (.invokestatic 142, 3) := by decide +kernel
theorem d_Ref_open_5 : decode prog_8_method_35_code 5 = .ok (.ifCond .ne 11, 3) := by decide +kernel
theorem d_Ref_open_8 : decode prog_8_method_35_code 8 = .ok (.aload_n 0, 1) := by decide +kernel
theorem d_Ref_open_9 : decode prog_8_method_35_code 9 = .ok (.iload_n 2, 1) := by decide +kernel
theorem d_Ref_open_10 : decode prog_8_method_35_code 10 = .ok (.invokevirtual 180, 3) := by decide +kernel
theorem d_Ref_open_13 : decode prog_8_method_35_code 13 = .ok (.ifCond .eq 7, 3) := by decide +kernel
theorem d_Ref_open_16 : decode prog_8_method_35_code 16 = .ok (.iconst 1, 1) := by decide +kernel
theorem d_Ref_open_17 : decode prog_8_method_35_code 17 = .ok (.goto 4, 3) := by decide +kernel
theorem d_Ref_open_20 : decode prog_8_method_35_code 20 = .ok (.iconst 0, 1) := by decide +kernel
theorem d_Ref_open_21 : decode prog_8_method_35_code 21 = .ok (.putfield 69, 3) := by decide +kernel
theorem d_Ref_open_24 : decode prog_8_method_35_code 24 = .ok (.aload_n 0, 1) := by decide +kernel
theorem d_Ref_open_25 : decode prog_8_method_35_code 25 = .ok (.getfield 69, 3) := by decide +kernel
theorem d_Ref_open_28 : decode prog_8_method_35_code 28 = .ok (.ifCond .le 5, 3) := by decide +kernel
theorem d_Ref_open_31 : decode prog_8_method_35_code 31 = .ok (.iconst 0, 1) := by decide +kernel
theorem d_Ref_open_32 : decode prog_8_method_35_code 32 = .ok (.ireturn, 1) := by decide +kernel
theorem d_Ref_open_33 : decode prog_8_method_35_code 33 = .ok (.aload_n 0, 1) := by decide +kernel
theorem d_Ref_open_34 : decode prog_8_method_35_code 34 = .ok (.iload_n 2, 1) := by decide +kernel
theorem d_Ref_open_35 : decode prog_8_method_35_code 35 = .ok (.invokevirtual 156, 3) := by decide +kernel
theorem d_Ref_open_38 : decode prog_8_method_35_code 38 = .ok (.istore_n 3, 1) := by decide +kernel
theorem d_Ref_open_39 : decode prog_8_method_35_code 39 = .ok (.aload_n 0, 1) := by decide +kernel
theorem d_Ref_open_40 : decode prog_8_method_35_code 40 = .ok (.iload_n 2, 1) := by decide +kernel
theorem d_Ref_open_41 : decode prog_8_method_35_code 41 = .ok (.invokevirtual 165, 3) := by decide +kernel
theorem d_Ref_open_44 : decode prog_8_method_35_code 44 = .ok (.iconst 0, 1) := by decide +kernel
theorem d_Ref_open_45 : decode prog_8_method_35_code 45 = .ok (.istore 4, 2) := by decide +kernel
theorem d_Ref_open_47 : decode prog_8_method_35_code 47 = .ok (.iload 4, 2) := by decide +kernel
theorem d_Ref_open_49 : decode prog_8_method_35_code 49 = .ok (.aload_n 0, 1) := by decide +kernel
theorem d_Ref_open_50 : decode prog_8_method_35_code 50 = .ok (.getfield 7, 3) := by decide +kernel
theorem d_Ref_open_53 : decode prog_8_method_35_code 53 = .ok (.if_icmp .ge 61, 3) := by decide +kernel
theorem d_Ref_open_56 : decode prog_8_method_35_code 56 = .ok (.aload_n 0, 1) := by decide +kernel
theorem d_Ref_open_57 : decode prog_8_method_35_code 57 = .ok (.aload_n 0, 1) := by decide +kernel
theorem d_Ref_open_58 : decode prog_8_method_35_code 58 = .ok (.getfield 51, 3) := by decide +kernel
theorem d_Ref_open_61 : decode prog_8_method_35_code 61 = .ok (.iload 4, 2) := by decide +kernel
theorem d_Ref_open_63 : decode prog_8_method_35_code 63 = .ok (.laload, 1) := by decide +kernel
theorem d_Ref_open_64 : decode prog_8_method_35_code 64 = .ok (.invokevirtual 182, 3) := by decide +kernel
theorem d_Ref_open_67 : decode prog_8_method_35_code 67 = .ok (.aload_n 0, 1) := by decide +kernel
theorem d_Ref_open_68 : decode prog_8_method_35_code 68 = .ok (.getfield 13, 3) := by decide +kernel
theorem d_Ref_open_71 : decode prog_8_method_35_code 71 = .ok (.i2l, 1) := by decide +kernel
theorem d_Ref_open_72 : decode prog_8_method_35_code 72 = .ok (.lrem, 1) := by decide +kernel
theorem d_Ref_open_73 : decode prog_8_method_35_code 73 = .ok (.lstore 5, 2) := by decide +kernel
theorem d_Ref_open_75 : decode prog_8_method_35_code 75 = .ok (.aload_n 0, 1) := by decide +kernel
theorem d_Ref_open_76 : decode prog_8_method_35_code 76 = .ok (.getfield 36, 3) := by decide +kernel
theorem d_Ref_open_79 : decode prog_8_method_35_code 79 = .ok (.bipush 32, 2) := by decide +kernel
theorem d_Ref_open_81 : decode prog_8_method_35_code 81 = .ok (.iload_n 1, 1) := by decide +kernel
theorem d_Ref_open_82 : decode prog_8_method_35_code 82 = .ok (.imul, 1) := by decide +kernel
theorem d_Ref_open_83 : decode prog_8_method_35_code 83 = .ok (.iload 4, 2) := by decide +kernel
theorem d_Ref_open_85 : decode prog_8_method_35_code 85 = .ok (.iadd, 1) := by decide +kernel
theorem d_Ref_open_86 : decode prog_8_method_35_code 86 = .ok (.lload 5, 2) := by decide +kernel
theorem d_Ref_open_88 : decode prog_8_method_35_code 88 = .ok (.lconst 0, 1) := by decide +kernel
theorem d_Ref_open_89 : decode prog_8_method_35_code 89 = .ok (.lcmp, 1) := by decide +kernel
theorem d_Ref_open_90 : decode prog_8_method_35_code 90 = .ok (.ifCond .ge 14, 3) := by decide +kernel
theorem d_Ref_open_93 : decode prog_8_method_35_code 93 = .ok (.lload 5, 2) := by decide +kernel
theorem d_Ref_open_95 : decode prog_8_method_35_code 95 = .ok (.aload_n 0, 1) := by decide +kernel
theorem d_Ref_open_96 : decode prog_8_method_35_code 96 = .ok (.getfield 13, 3) := by decide +kernel
theorem d_Ref_open_99 : decode prog_8_method_35_code 99 = .ok (.i2l, 1) := by decide +kernel
theorem d_Ref_open_100 : decode prog_8_method_35_code 100 = .ok (.ladd, 1) := by decide +kernel
theorem d_Ref_open_101 : decode prog_8_method_35_code 101 = .ok (.goto 5, 3) := by decide +kernel
theorem d_Ref_open_104 : decode prog_8_method_35_code 104 = .ok (.lload 5, 2) := by decide +kernel
theorem d_Ref_open_106 : decode prog_8_method_35_code 106 = .ok (.l2i, 1) := by decide +kernel
theorem d_Ref_open_107 : decode prog_8_method_35_code 107 = .ok (.iastore, 1) := by decide +kernel
theorem d_Ref_open_108 : decode prog_8_method_35_code 108 = .ok (.iinc 4 1, 3) := by decide +kernel
theorem d_Ref_open_111 : decode prog_8_method_35_code 111 = .ok (.goto (-64), 3) := by decide +kernel
theorem d_Ref_open_114 : decode prog_8_method_35_code 114 = .ok (.iload_n 3, 1) := by decide +kernel
theorem d_Ref_open_115 : decode prog_8_method_35_code 115 = .ok (.ireturn, 1) := by decide +kernel
theorem d_Ref_centre_0 : decode prog_8_method_36_code 0 = .ok (.aload_n 0, 1) := by decide +kernel
theorem d_Ref_centre_1 : decode prog_8_method_36_code 1 = .ok (.iload_n 1, 1) := by decide +kernel
theorem d_Ref_centre_2 : decode prog_8_method_36_code 2 = .ok (.iload_n 2, 1) := by decide +kernel
theorem d_Ref_centre_3 : decode prog_8_method_36_code 3 = .ok (.aload_n 3, 1) := by decide +kernel
theorem d_Ref_centre_4 : decode prog_8_method_36_code 4 = .ok (.invokevirtual 159, 3) := by decide +kernel
theorem d_Ref_centre_7 : decode prog_8_method_36_code 7 = .ok (.iconst 0, 1) := by decide +kernel
theorem d_Ref_centre_8 : decode prog_8_method_36_code 8 = .ok (.istore 4, 2) := by decide +kernel
theorem d_Ref_centre_10 : decode prog_8_method_36_code 10 = .ok (.iload 4, 2) := by decide +kernel
theorem d_Ref_centre_12 : decode prog_8_method_36_code 12 = .ok (.aload_n 0, 1) := by decide +kernel
theorem d_Ref_centre_13 : decode prog_8_method_36_code 13 = .ok (.getfield 7, 3) := by decide +kernel
theorem d_Ref_centre_16 : decode prog_8_method_36_code 16 = .ok (.if_icmp .ge 20, 3) := by decide +kernel
theorem d_Ref_centre_19 : decode prog_8_method_36_code 19 = .ok (.aload_n 3, 1) := by decide +kernel
theorem d_Ref_centre_20 : decode prog_8_method_36_code 20 = .ok (.iload 4, 2) := by decide +kernel
theorem d_Ref_centre_22 : decode prog_8_method_36_code 22 = .ok (.aload_n 3, 1) := by decide +kernel
theorem d_Ref_centre_23 : decode prog_8_method_36_code 23 = .ok (.iload 4, 2) := by decide +kernel
theorem d_Ref_centre_25 : decode prog_8_method_36_code 25 = .ok (.laload, 1) := by decide +kernel
theorem d_Ref_centre_26 : decode prog_8_method_36_code 26 = .ok (.invokestatic 162, 3) := by decide +kernel
theorem d_Ref_centre_29 : decode prog_8_method_36_code 29 = .ok (.lastore, 1) := by decide +kernel
theorem d_Ref_centre_30 : decode prog_8_method_36_code 30 = .ok (.iinc 4 1, 3) := by decide +kernel
theorem d_Ref_centre_33 : decode prog_8_method_36_code 33 = .ok (.goto (-23), 3) := by decide +kernel
theorem d_Ref_centre_36 : decode prog_8_method_36_code 36 = .ok (.return_, 1) := by decide +kernel
theorem d_Ref_join_0 : decode prog_8_method_37_code 0 = .ok (.aload_n 0, 1) := by decide +kernel
theorem d_Ref_join_1 : decode prog_8_method_37_code 1 = .ok (.iload_n 1, 1) := by decide +kernel
theorem d_Ref_join_2 : decode prog_8_method_37_code 2 = .ok (.invokestatic 138, 3) := by decide +kernel
theorem d_Ref_join_5 : decode prog_8_method_37_code 5 = .ok (.ifCond .ne 20, 3) := by decide +kernel
theorem d_Ref_join_8 : decode prog_8_method_37_code 8 = .ok (.aload_n 0, 1) := by decide +kernel
theorem d_Ref_join_9 : decode prog_8_method_37_code 9 = .ok (.iload_n 3, 1) := by decide +kernel
theorem d_Ref_join_10 : decode prog_8_method_37_code 10 = .ok (.invokevirtual 180, 3) := by decide +kernel
theorem d_Ref_join_13 : decode prog_8_method_37_code 13 = .ok (.ifCond .ne 12, 3) := by decide +kernel
theorem d_Ref_join_16 : decode prog_8_method_37_code 16 = .ok (.aload_n 0, 1) := by decide +kernel
theorem d_Ref_join_17 : decode prog_8_method_37_code 17 = .ok (.iload 4, 2) := by decide +kernel
theorem d_Ref_join_19 : decode prog_8_method_37_code 19 = .ok (.invokevirtual 180, 3) := by decide +kernel
theorem d_Ref_join_22 : decode prog_8_method_37_code 22 = .ok (.ifCond .eq 7, 3) := by decide +kernel
theorem d_Ref_join_25 : decode prog_8_method_37_code 25 = .ok (.iconst 1, 1) := by decide +kernel
theorem d_Ref_join_26 : decode prog_8_method_37_code 26 = .ok (.goto 47, 3) := by decide +kernel
theorem d_Ref_join_29 : decode prog_8_method_37_code 29 = .ok (.iload_n 2, 1) := by decide +kernel
theorem d_Ref_join_30 : decode prog_8_method_37_code 30 = .ok (.ifCond .lt 8, 3) := by decide +kernel
theorem d_Ref_join_33 : decode prog_8_method_37_code 33 = .ok (.iload_n 2, 1) := by decide +kernel
theorem d_Ref_join_34 : decode prog_8_method_37_code 34 = .ok (.iconst 2, 1) := by decide +kernel
theorem d_Ref_join_35 : decode prog_8_method_37_code 35 = .ok (.if_icmp .le 7, 3) := by decide +kernel
theorem d_Ref_join_38 : decode prog_8_method_37_code 38 = .ok (.iconst 2, 1) := by decide +kernel
theorem d_Ref_join_39 : decode prog_8_method_37_code 39 = .ok (.goto 34, 3) := by decide +kernel
theorem d_Ref_join_42 : decode prog_8_method_37_code 42 = .ok (.iload_n 2, 1) := by decide +kernel
theorem d_Ref_join_43 : decode prog_8_method_37_code 43 = .ok (.iconst 2, 1) := by decide +kernel
theorem d_Ref_join_44 : decode prog_8_method_37_code 44 = .ok (.if_icmp .ne 28, 3) := by decide +kernel
theorem d_Ref_join_47 : decode prog_8_method_37_code 47 = .ok (.aload_n 0, 1) := by decide +kernel
theorem d_Ref_join_48 : decode prog_8_method_37_code 48 = .ok (.getfield 39, 3) := by decide +kernel
theorem d_Ref_join_51 : decode prog_8_method_37_code 51 = .ok (.iload_n 3, 1) := by decide +kernel
theorem d_Ref_join_52 : decode prog_8_method_37_code 52 = .ok (.iaload, 1) := by decide +kernel
theorem d_Ref_join_53 : decode prog_8_method_37_code 53 = .ok (.iconst 3, 1) := by decide +kernel
theorem d_Ref_join_54 : decode prog_8_method_37_code 54 = .ok (.if_icmp .eq 14, 3) := by decide +kernel
theorem d_Ref_join_57 : decode prog_8_method_37_code 57 = .ok (.aload_n 0, 1) := by decide +kernel
theorem d_Ref_join_58 : decode prog_8_method_37_code 58 = .ok (.getfield 39, 3) := by decide +kernel
theorem d_Ref_join_61 : decode prog_8_method_37_code 61 = .ok (.iload 4, 2) := by decide +kernel
theorem d_Ref_join_63 : decode prog_8_method_37_code 63 = .ok (.iaload, 1) := by decide +kernel
theorem d_Ref_join_64 : decode prog_8_method_37_code 64 = .ok (.iconst 3, 1) := by decide +kernel
theorem d_Ref_join_65 : decode prog_8_method_37_code 65 = .ok (.if_icmp .ne 7, 3) := by decide +kernel
theorem d_Ref_join_68 : decode prog_8_method_37_code 68 = .ok (.iconst 3, 1) := by decide +kernel
theorem d_Ref_join_69 : decode prog_8_method_37_code 69 = .ok (.goto 4, 3) := by decide +kernel
theorem d_Ref_join_72 : decode prog_8_method_37_code 72 = .ok (.iconst 0, 1) := by decide +kernel
theorem d_Ref_join_73 : decode prog_8_method_37_code 73 = .ok (.putfield 69, 3) := by decide +kernel
theorem d_Ref_join_76 : decode prog_8_method_37_code 76 = .ok (.aload_n 0, 1) := by decide +kernel
theorem d_Ref_join_77 : decode prog_8_method_37_code 77 = .ok (.getfield 69, 3) := by decide +kernel
theorem d_Ref_join_80 : decode prog_8_method_37_code 80 = .ok (.ifCond .le 5, 3) := by decide +kernel
theorem d_Ref_join_83 : decode prog_8_method_37_code 83 = .ok (.iconst 0, 1) := by decide +kernel
theorem d_Ref_join_84 : decode prog_8_method_37_code 84 = .ok (.ireturn, 1) := by decide +kernel
theorem d_Ref_join_85 : decode prog_8_method_37_code 85 = .ok (.iload_n 2, 1) := by decide +kernel
theorem d_Ref_join_86 : decode prog_8_method_37_code 86 = .ok (.iconst 2, 1) := by decide +kernel
theorem d_Ref_join_87 : decode prog_8_method_37_code 87 = .ok (.if_icmp .ne 7, 3) := by decide +kernel
theorem d_Ref_join_90 : decode prog_8_method_37_code 90 = .ok (.iconst 3, 1) := by decide +kernel
theorem d_Ref_join_91 : decode prog_8_method_37_code 91 = .ok (.goto 19, 3) := by decide +kernel
theorem d_Ref_join_94 : decode prog_8_method_37_code 94 = .ok (.aload_n 0, 1) := by decide +kernel
theorem d_Ref_join_95 : decode prog_8_method_37_code 95 = .ok (.getfield 39, 3) := by decide +kernel
theorem d_Ref_join_98 : decode prog_8_method_37_code 98 = .ok (.iload_n 3, 1) := by decide +kernel
theorem d_Ref_join_99 : decode prog_8_method_37_code 99 = .ok (.iaload, 1) := by decide +kernel
theorem d_Ref_join_100 : decode prog_8_method_37_code 100 = .ok (.aload_n 0, 1) := by decide +kernel
theorem d_Ref_join_101 : decode prog_8_method_37_code 101 = .ok (.getfield 39, 3) := by decide +kernel
theorem d_Ref_join_104 : decode prog_8_method_37_code 104 = .ok (.iload 4, 2) := by decide +kernel
theorem d_Ref_join_106 : decode prog_8_method_37_code 106 = .ok (.iaload, 1) := by decide +kernel
theorem d_Ref_join_107 : decode prog_8_method_37_code 107 = .ok (.invokestatic 185, 3) := by decide +kernel
theorem d_Ref_join_110 : decode prog_8_method_37_code 110 = .ok (.istore 5, 2) := by decide +kernel
theorem d_Ref_join_112 : decode prog_8_method_37_code 112 = .ok (.iconst 0, 1) := by decide +kernel
theorem d_Ref_join_113 : decode prog_8_method_37_code 113 = .ok (.istore 6, 2) := by decide +kernel
theorem d_Ref_join_115 : decode prog_8_method_37_code 115 = .ok (.iload 6, 2) := by decide +kernel
theorem d_Ref_join_117 : decode prog_8_method_37_code 117 = .ok (.iconst 3, 1) := by decide +kernel
theorem d_Ref_join_118 : decode prog_8_method_37_code 118 = .ok (.if_icmp .ge 314, 3) := by decide +kernel
theorem d_Ref_join_121 : decode prog_8_method_37_code 121 = .ok (.iconst 0, 1) := by decide +kernel
theorem d_Ref_join_122 : decode prog_8_method_37_code 122 = .ok (.istore 7, 2) := by decide +kernel
theorem d_Ref_join_124 : decode prog_8_method_37_code 124 = .ok (.iload 7, 2) := by decide +kernel
theorem d_Ref_join_126 : decode prog_8_method_37_code 126 = .ok (.aload_n 0, 1) := by decide +kernel
theorem d_Ref_join_127 : decode prog_8_method_37_code 127 = .ok (.getfield 7, 3) := by decide +kernel
theorem d_Ref_join_130 : decode prog_8_method_37_code 130 = .ok (.if_icmp .ge 17, 3) := by decide +kernel
theorem d_Ref_join_133 : decode prog_8_method_37_code 133 = .ok (.aload_n 0, 1) := by decide +kernel
theorem d_Ref_join_134 : decode prog_8_method_37_code 134 = .ok (.getfield 51, 3) := by decide +kernel
theorem d_Ref_join_137 : decode prog_8_method_37_code 137 = .ok (.iload 7, 2) := by decide +kernel
theorem d_Ref_join_139 : decode prog_8_method_37_code 139 = .ok (.lconst 0, 1) := by decide +kernel
theorem d_Ref_join_140 : decode prog_8_method_37_code 140 = .ok (.lastore, 1) := by decide +kernel
theorem d_Ref_join_141 : decode prog_8_method_37_code 141 = .ok (.iinc 7 1, 3) := by decide +kernel
theorem d_Ref_join_144 : decode prog_8_method_37_code 144 = .ok (.goto (-20), 3) := by decide +kernel
theorem d_Ref_join_147 : decode prog_8_method_37_code 147 = .ok (.iload_n 2, 1) := by decide +kernel
theorem d_Ref_join_148 : decode prog_8_method_37_code 148 = .ok (.iconst 2, 1) := by decide +kernel
theorem d_Ref_join_149 : decode prog_8_method_37_code 149 = .ok (.if_icmp .ge 91, 3) := by decide +kernel
theorem d_Ref_join_152 : decode prog_8_method_37_code 152 = .ok (.aload_n 0, 1) := by decide +kernel
theorem d_Ref_join_153 : decode prog_8_method_37_code 153 = .ok (.iload_n 3, 1) := by decide +kernel
theorem d_Ref_join_154 : decode prog_8_method_37_code 154 = .ok (.iload 6, 2) := by decide +kernel
theorem d_Ref_join_156 : decode prog_8_method_37_code 156 = .ok (.aload_n 0, 1) := by decide +kernel
theorem d_Ref_join_157 : decode prog_8_method_37_code 157 = .ok (.getfield 45, 3) := by decide +kernel
theorem d_Ref_join_160 : decode prog_8_method_37_code 160 = .ok (.invokevirtual 159, 3) := by decide +kernel
theorem d_Ref_join_163 : decode prog_8_method_37_code 163 = .ok (.aload_n 0, 1) := by decide +kernel
theorem d_Ref_join_164 : decode prog_8_method_37_code 164 = .ok (.iload 4, 2) := by decide +kernel
theorem d_Ref_join_166 : decode prog_8_method_37_code 166 = .ok (.iload 6, 2) := by decide +kernel
theorem d_Ref_join_168 : decode prog_8_method_37_code 168 = .ok (.aload_n 0, 1) := by decide +kernel
theorem d_Ref_join_169 : decode prog_8_method_37_code 169 = .ok (.getfield 48, 3) := by decide +kernel
theorem d_Ref_join_172 : decode prog_8_method_37_code 172 = .ok (.invokevirtual 159, 3) := by decide +kernel
theorem d_Ref_join_175 : decode prog_8_method_37_code 175 = .ok (.iconst 0, 1) := by decide +kernel
theorem d_Ref_join_176 : decode prog_8_method_37_code 176 = .ok (.istore 7, 2) := by decide +kernel
theorem d_Ref_join_178 : decode prog_8_method_37_code 178 = .ok (.iload 7, 2) := by decide +kernel
theorem d_Ref_join_180 : decode prog_8_method_37_code 180 = .ok (.aload_n 0, 1) := by decide +kernel
theorem d_Ref_join_181 : decode prog_8_method_37_code 181 = .ok (.getfield 7, 3) := by decide +kernel
theorem d_Ref_join_184 : decode prog_8_method_37_code 184 = .ok (.if_icmp .ge 53, 3) := by decide +kernel
theorem d_Ref_join_187 : decode prog_8_method_37_code 187 = .ok (.aload_n 0, 1) := by decide +kernel
theorem d_Ref_join_188 : decode prog_8_method_37_code 188 = .ok (.getfield 51, 3) := by decide +kernel
theorem d_Ref_join_191 : decode prog_8_method_37_code 191 = .ok (.iload 7, 2) := by decide +kernel
theorem d_Ref_join_193 : decode prog_8_method_37_code 193 = .ok (.iload_n 2, 1) := by decide +kernel
theorem d_Ref_join_194 : decode prog_8_method_37_code 194 = .ok (.ifCond .ne 21, 3) := by decide +kernel
theorem d_Ref_join_197 : decode prog_8_method_37_code 197 = .ok (.aload_n 0, 1) := by decide +kernel
theorem d_Ref_join_198 : decode prog_8_method_37_code 198 = .ok (.getfield 45, 3) := by decide +kernel
theorem d_Ref_join_201 : decode prog_8_method_37_code 201 = .ok (.iload 7, 2) := by decide +kernel
theorem d_Ref_join_203 : decode prog_8_method_37_code 203 = .ok (.laload, 1) := by decide +kernel
theorem d_Ref_join_204 : decode prog_8_method_37_code 204 = .ok (.aload_n 0, 1) := by decide +kernel
theorem d_Ref_join_205 : decode prog_8_method_37_code 205 = .ok (.getfield 48, 3) := by decide +kernel
theorem d_Ref_join_208 : decode prog_8_method_37_code 208 = .ok (.iload 7, 2) := by decide +kernel
theorem d_Ref_join_210 : decode prog_8_method_37_code 210 = .ok (.laload, 1) := by decide +kernel
theorem d_Ref_join_211 : decode prog_8_method_37_code 211 = .ok (.ladd, 1) := by decide +kernel
theorem d_Ref_join_212 : decode prog_8_method_37_code 212 = .ok (.goto 18, 3) := by decide +kernel
theorem d_Ref_join_215 : decode prog_8_method_37_code 215 = .ok (.aload_n 0, 1) := by decide +kernel
theorem d_Ref_join_216 : decode prog_8_method_37_code 216 = .ok (.getfield 45, 3) := by decide +kernel
theorem d_Ref_join_219 : decode prog_8_method_37_code 219 = .ok (.iload 7, 2) := by decide +kernel
theorem d_Ref_join_221 : decode prog_8_method_37_code 221 = .ok (.laload, 1) := by decide +kernel
theorem d_Ref_join_222 : decode prog_8_method_37_code 222 = .ok (.aload_n 0, 1) := by decide +kernel
theorem d_Ref_join_223 : decode prog_8_method_37_code 223 = .ok (.getfield 48, 3) := by decide +kernel
theorem d_Ref_join_226 : decode prog_8_method_37_code 226 = .ok (.iload 7, 2) := by decide +kernel
theorem d_Ref_join_228 : decode prog_8_method_37_code 228 = .ok (.laload, 1) := by decide +kernel
theorem d_Ref_join_229 : decode prog_8_method_37_code 229 = .ok (.lsub, 1) := by decide +kernel
theorem d_Ref_join_230 : decode prog_8_method_37_code 230 = .ok (.lastore, 1) := by decide +kernel
theorem d_Ref_join_231 : decode prog_8_method_37_code 231 = .ok (.iinc 7 1, 3) := by decide +kernel
theorem d_Ref_join_234 : decode prog_8_method_37_code 234 = .ok (.goto (-56), 3) := by decide +kernel
theorem d_Ref_join_237 : decode prog_8_method_37_code 237 = .ok (.goto 151, 3) := by decide +kernel
theorem d_Ref_join_240 : decode prog_8_method_37_code 240 = .ok (.iconst 0, 1) := by decide +kernel
theorem d_Ref_join_241 : decode prog_8_method_37_code 241 = .ok (.istore 7, 2) := by decide +kernel
theorem d_Ref_join_243 : decode prog_8_method_37_code 243 = .ok (.iload 7, 2) := by decide +kernel
theorem d_Ref_join_245 : decode prog_8_method_37_code 245 = .ok (.iconst 2, 1) := by decide +kernel
theorem d_Ref_join_246 : decode prog_8_method_37_code 246 = .ok (.if_icmp .ge 106, 3) := by decide +kernel
theorem d_Ref_join_249 : decode prog_8_method_37_code 249 = .ok (.iload 6, 2) := by decide +kernel
theorem d_Ref_join_251 : decode prog_8_method_37_code 251 = .ok (.iload 7, 2) := by decide +kernel
theorem d_Ref_join_253 : decode prog_8_method_37_code 253 = .ok (.isub, 1) := by decide +kernel
theorem d_Ref_join_254 : decode prog_8_method_37_code 254 = .ok (.ifCond .lt 92, 3) := by decide +kernel
theorem d_Ref_join_257 : decode prog_8_method_37_code 257 = .ok (.iload 6, 2) := by decide +kernel
theorem d_Ref_join_259 : decode prog_8_method_37_code 259 = .ok (.iload 7, 2) := by decide +kernel
theorem d_Ref_join_261 : decode prog_8_method_37_code 261 = .ok (.isub, 1) := by decide +kernel
theorem d_Ref_join_262 : decode prog_8_method_37_code 262 = .ok (.iconst 1, 1) := by decide +kernel
theorem d_Ref_join_263 : decode prog_8_method_37_code 263 = .ok (.if_icmp .le 6, 3) := by decide +kernel
theorem d_Ref_join_266 : decode prog_8_method_37_code 266 = .ok (.goto 80, 3) := by decide +kernel
theorem d_Ref_join_269 : decode prog_8_method_37_code 269 = .ok (.aload_n 0, 1) := by decide +kernel
theorem d_Ref_join_270 : decode prog_8_method_37_code 270 = .ok (.iload_n 3, 1) := by decide +kernel
theorem d_Ref_join_271 : decode prog_8_method_37_code 271 = .ok (.iload 7, 2) := by decide +kernel
theorem d_Ref_join_273 : decode prog_8_method_37_code 273 = .ok (.aload_n 0, 1) := by decide +kernel
theorem d_Ref_join_274 : decode prog_8_method_37_code 274 = .ok (.getfield 45, 3) := by decide +kernel
theorem d_Ref_join_277 : decode prog_8_method_37_code 277 = .ok (.invokevirtual 187, 3) := by decide +kernel
theorem d_Ref_join_280 : decode prog_8_method_37_code 280 = .ok (.aload_n 0, 1) := by decide +kernel
theorem d_Ref_join_281 : decode prog_8_method_37_code 281 = .ok (.iload 4, 2) := by decide +kernel
theorem d_Ref_join_283 : decode prog_8_method_37_code 283 = .ok (.iload 6, 2) := by decide +kernel
theorem d_Ref_join_285 : decode prog_8_method_37_code 285 = .ok (.iload 7, 2) := by decide +kernel
theorem d_Ref_join_287 : decode prog_8_method_37_code 287 = .ok (.isub, 1) := by decide +kernel
theorem d_Ref_join_288 : decode prog_8_method_37_code 288 = .ok (.aload_n 0, 1) := by decide +kernel
theorem d_Ref_join_289 : decode prog_8_method_37_code 289 = .ok (.getfield 48, 3) := by decide +kernel
theorem d_Ref_join_292 : decode prog_8_method_37_code 292 = .ok (.invokevirtual 187, 3) := by decide +kernel
theorem d_Ref_join_295 : decode prog_8_method_37_code 295 = .ok (.aload_n 0, 1) := by decide +kernel
theorem d_Ref_join_296 : decode prog_8_method_37_code 296 = .ok (.aload_n 0, 1) := by decide +kernel
theorem d_Ref_join_297 : decode prog_8_method_37_code 297 = .ok (.getfield 45, 3) := by decide +kernel
theorem d_Ref_join_300 : decode prog_8_method_37_code 300 = .ok (.aload_n 0, 1) := by decide +kernel
theorem d_Ref_join_301 : decode prog_8_method_37_code 301 = .ok (.getfield 48, 3) := by decide +kernel
theorem d_Ref_join_304 : decode prog_8_method_37_code 304 = .ok (.aload_n 0, 1) := by decide +kernel
theorem d_Ref_join_305 : decode prog_8_method_37_code 305 = .ok (.getfield 54, 3) := by decide +kernel
theorem d_Ref_join_308 : decode prog_8_method_37_code 308 = .ok (.invokevirtual 120, 3) := by decide +kernel
theorem d_Ref_join_311 : decode prog_8_method_37_code 311 = .ok (.iconst 0, 1) := by decide +kernel
theorem d_Ref_join_312 : decode prog_8_method_37_code 312 = .ok (.istore 8, 2) := by decide +kernel
theorem d_Ref_join_314 : decode prog_8_method_37_code 314 = .ok (.iload 8, 2) := by decide +kernel
theorem d_Ref_join_316 : decode prog_8_method_37_code 316 = .ok (.aload_n 0, 1) := by decide +kernel
theorem d_Ref_join_317 : decode prog_8_method_37_code 317 = .ok (.getfield 7, 3) := by decide +kernel
theorem d_Ref_join_320 : decode prog_8_method_37_code 320 = .ok (.if_icmp .ge 26, 3) := by decide +kernel
theorem d_Ref_join_323 : decode prog_8_method_37_code 323 = .ok (.aload_n 0, 1) := by decide +kernel
theorem d_Ref_join_324 : decode prog_8_method_37_code 324 = .ok (.getfield 51, 3) := by decide +kernel
theorem d_Ref_join_327 : decode prog_8_method_37_code 327 = .ok (.iload 8, 2) := by decide +kernel
theorem d_Ref_join_329 : decode prog_8_method_37_code 329 = .ok (.dup2, 1) := by decide +kernel
theorem d_Ref_join_330 : decode prog_8_method_37_code 330 = .ok (.laload, 1) := by decide +kernel
theorem d_Ref_join_331 : decode prog_8_method_37_code 331 = .ok (.aload_n 0, 1) := by decide +kernel
theorem d_Ref_join_332 : decode prog_8_method_37_code 332 = .ok (.getfield 54, 3) := by decide +kernel
theorem d_Ref_join_335 : decode prog_8_method_37_code 335 = .ok (.iload 8, 2) := by decide +kernel
theorem d_Ref_join_337 : decode prog_8_method_37_code 337 = .ok (.laload, 1) := by decide +kernel
theorem d_Ref_join_338 : decode prog_8_method_37_code 338 = .ok (.ladd, 1) := by decide +kernel
theorem d_Ref_join_339 : decode prog_8_method_37_code 339 = .ok (.lastore, 1) := by decide +kernel
theorem d_Ref_join_340 : decode prog_8_method_37_code 340 = .ok (.iinc 8 1, 3) := by decide +kernel
theorem d_Ref_join_343 : decode prog_8_method_37_code 343 = .ok (.goto (-29), 3) := by decide +kernel
theorem d_Ref_join_346 : decode prog_8_method_37_code 346 = .ok (.iinc 7 1, 3) := by decide +kernel
theorem d_Ref_join_349 : decode prog_8_method_37_code 349 = .ok (.goto (-106), 3) := by decide +kernel
theorem d_Ref_join_352 : decode prog_8_method_37_code 352 = .ok (.iconst 0, 1) := by decide +kernel
theorem d_Ref_join_353 : decode prog_8_method_37_code 353 = .ok (.istore 7, 2) := by decide +kernel
theorem d_Ref_join_355 : decode prog_8_method_37_code 355 = .ok (.iload 7, 2) := by decide +kernel
theorem d_Ref_join_357 : decode prog_8_method_37_code 357 = .ok (.aload_n 0, 1) := by decide +kernel
theorem d_Ref_join_358 : decode prog_8_method_37_code 358 = .ok (.getfield 7, 3) := by decide +kernel
theorem d_Ref_join_361 : decode prog_8_method_37_code 361 = .ok (.if_icmp .ge 27, 3) := by decide +kernel
theorem d_Ref_join_364 : decode prog_8_method_37_code 364 = .ok (.aload_n 0, 1) := by decide +kernel
theorem d_Ref_join_365 : decode prog_8_method_37_code 365 = .ok (.getfield 51, 3) := by decide +kernel
theorem d_Ref_join_368 : decode prog_8_method_37_code 368 = .ok (.iload 7, 2) := by decide +kernel
theorem d_Ref_join_370 : decode prog_8_method_37_code 370 = .ok (.aload_n 0, 1) := by decide +kernel
theorem d_Ref_join_371 : decode prog_8_method_37_code 371 = .ok (.aload_n 0, 1) := by decide +kernel
theorem d_Ref_join_372 : decode prog_8_method_37_code 372 = .ok (.getfield 51, 3) := by decide +kernel
theorem d_Ref_join_375 : decode prog_8_method_37_code 375 = .ok (.iload 7, 2) := by decide +kernel
theorem d_Ref_join_377 : decode prog_8_method_37_code 377 = .ok (.laload, 1) := by decide +kernel
theorem d_Ref_join_378 : decode prog_8_method_37_code 378 = .ok (.invokevirtual 182, 3) := by decide +kernel
theorem d_Ref_join_381 : decode prog_8_method_37_code 381 = .ok (.lastore, 1) := by decide +kernel
theorem d_Ref_join_382 : decode prog_8_method_37_code 382 = .ok (.iinc 7 1, 3) := by decide +kernel
theorem d_Ref_join_385 : decode prog_8_method_37_code 385 = .ok (.goto (-30), 3) := by decide +kernel
theorem d_Ref_join_388 : decode prog_8_method_37_code 388 = .ok (.iconst 0, 1) := by decide +kernel
theorem d_Ref_join_389 : decode prog_8_method_37_code 389 = .ok (.istore 7, 2) := by decide +kernel
theorem d_Ref_join_391 : decode prog_8_method_37_code 391 = .ok (.iload 7, 2) := by decide +kernel
theorem d_Ref_join_393 : decode prog_8_method_37_code 393 = .ok (.aload_n 0, 1) := by decide +kernel
theorem d_Ref_join_394 : decode prog_8_method_37_code 394 = .ok (.getfield 7, 3) := by decide +kernel
theorem d_Ref_join_397 : decode prog_8_method_37_code 397 = .ok (.if_icmp .ge 29, 3) := by decide +kernel
theorem d_Ref_join_400 : decode prog_8_method_37_code 400 = .ok (.aload_n 0, 1) := by decide +kernel
theorem d_Ref_join_401 : decode prog_8_method_37_code 401 = .ok (.getfield 60, 3) := by decide +kernel
theorem d_Ref_join_404 : decode prog_8_method_37_code 404 = .ok (.bipush 32, 2) := by decide +kernel
theorem d_Ref_join_406 : decode prog_8_method_37_code 406 = .ok (.iload 6, 2) := by decide +kernel
theorem d_Ref_join_408 : decode prog_8_method_37_code 408 = .ok (.imul, 1) := by decide +kernel
theorem d_Ref_join_409 : decode prog_8_method_37_code 409 = .ok (.iload 7, 2) := by decide +kernel
theorem d_Ref_join_411 : decode prog_8_method_37_code 411 = .ok (.iadd, 1) := by decide +kernel
theorem d_Ref_join_412 : decode prog_8_method_37_code 412 = .ok (.aload_n 0, 1) := by decide +kernel
theorem d_Ref_join_413 : decode prog_8_method_37_code 413 = .ok (.getfield 51, 3) := by decide +kernel
theorem d_Ref_join_416 : decode prog_8_method_37_code 416 = .ok (.iload 7, 2) := by decide +kernel
theorem d_Ref_join_418 : decode prog_8_method_37_code 418 = .ok (.laload, 1) := by decide +kernel
theorem d_Ref_join_419 : decode prog_8_method_37_code 419 = .ok (.lastore, 1) := by decide +kernel
theorem d_Ref_join_420 : decode prog_8_method_37_code 420 = .ok (.iinc 7 1, 3) := by decide +kernel
theorem d_Ref_join_423 : decode prog_8_method_37_code 423 = .ok (.goto (-32), 3) := by decide +kernel
theorem d_Ref_join_426 : decode prog_8_method_37_code 426 = .ok (.iinc 6 1, 3) := by decide +kernel
theorem d_Ref_join_429 : decode prog_8_method_37_code 429 = .ok (.goto (-314), 3) := by decide +kernel
theorem d_Ref_join_432 : decode prog_8_method_37_code 432 = .ok (.aload_n 0, 1) := by decide +kernel
theorem d_Ref_join_433 : decode prog_8_method_37_code 433 = .ok (.getfield 39, 3) := by decide +kernel
theorem d_Ref_join_436 : decode prog_8_method_37_code 436 = .ok (.iload_n 1, 1) := by decide +kernel
theorem d_Ref_join_437 : decode prog_8_method_37_code 437 = .ok (.iload 5, 2) := by decide +kernel
theorem d_Ref_join_439 : decode prog_8_method_37_code 439 = .ok (.iastore, 1) := by decide +kernel
theorem d_Ref_join_440 : decode prog_8_method_37_code 440 = .ok (.iconst 0, 1) := by decide +kernel
theorem d_Ref_join_441 : decode prog_8_method_37_code 441 = .ok (.istore 6, 2) := by decide +kernel
theorem d_Ref_join_443 : decode prog_8_method_37_code 443 = .ok (.iload 6, 2) := by decide +kernel
theorem d_Ref_join_445 : decode prog_8_method_37_code 445 = .ok (.iconst 3, 1) := by decide +kernel
theorem d_Ref_join_446 : decode prog_8_method_37_code 446 = .ok (.if_icmp .ge 58, 3) := by decide +kernel
theorem d_Ref_join_449 : decode prog_8_method_37_code 449 = .ok (.iconst 0, 1) := by decide +kernel
theorem d_Ref_join_450 : decode prog_8_method_37_code 450 = .ok (.istore 7, 2) := by decide +kernel
theorem d_Ref_join_452 : decode prog_8_method_37_code 452 = .ok (.iload 7, 2) := by decide +kernel
theorem d_Ref_join_454 : decode prog_8_method_37_code 454 = .ok (.aload_n 0, 1) := by decide +kernel
theorem d_Ref_join_455 : decode prog_8_method_37_code 455 = .ok (.getfield 7, 3) := by decide +kernel
theorem d_Ref_join_458 : decode prog_8_method_37_code 458 = .ok (.if_icmp .ge 29, 3) := by decide +kernel
theorem d_Ref_join_461 : decode prog_8_method_37_code 461 = .ok (.aload_n 0, 1) := by decide +kernel
theorem d_Ref_join_462 : decode prog_8_method_37_code 462 = .ok (.getfield 51, 3) := by decide +kernel
theorem d_Ref_join_465 : decode prog_8_method_37_code 465 = .ok (.iload 7, 2) := by decide +kernel
theorem d_Ref_join_467 : decode prog_8_method_37_code 467 = .ok (.aload_n 0, 1) := by decide +kernel
theorem d_Ref_join_468 : decode prog_8_method_37_code 468 = .ok (.getfield 60, 3) := by decide +kernel
theorem d_Ref_join_471 : decode prog_8_method_37_code 471 = .ok (.bipush 32, 2) := by decide +kernel
theorem d_Ref_join_473 : decode prog_8_method_37_code 473 = .ok (.iload 6, 2) := by decide +kernel
theorem d_Ref_join_475 : decode prog_8_method_37_code 475 = .ok (.imul, 1) := by decide +kernel
theorem d_Ref_join_476 : decode prog_8_method_37_code 476 = .ok (.iload 7, 2) := by decide +kernel
theorem d_Ref_join_478 : decode prog_8_method_37_code 478 = .ok (.iadd, 1) := by decide +kernel
theorem d_Ref_join_479 : decode prog_8_method_37_code 479 = .ok (.laload, 1) := by decide +kernel
theorem d_Ref_join_480 : decode prog_8_method_37_code 480 = .ok (.lastore, 1) := by decide +kernel
theorem d_Ref_join_481 : decode prog_8_method_37_code 481 = .ok (.iinc 7 1, 3) := by decide +kernel
theorem d_Ref_join_484 : decode prog_8_method_37_code 484 = .ok (.goto (-32), 3) := by decide +kernel
theorem d_Ref_join_487 : decode prog_8_method_37_code 487 = .ok (.aload_n 0, 1) := by decide +kernel
theorem d_Ref_join_488 : decode prog_8_method_37_code 488 = .ok (.iload_n 1, 1) := by decide +kernel
theorem d_Ref_join_489 : decode prog_8_method_37_code 489 = .ok (.iload 6, 2) := by decide +kernel
theorem d_Ref_join_491 : decode prog_8_method_37_code 491 = .ok (.aload_n 0, 1) := by decide +kernel
theorem d_Ref_join_492 : decode prog_8_method_37_code 492 = .ok (.getfield 51, 3) := by decide +kernel
theorem d_Ref_join_495 : decode prog_8_method_37_code 495 = .ok (.invokevirtual 152, 3) := by decide +kernel
theorem d_Ref_join_498 : decode prog_8_method_37_code 498 = .ok (.iinc 6 1, 3) := by decide +kernel
theorem d_Ref_join_501 : decode prog_8_method_37_code 501 = .ok (.goto (-58), 3) := by decide +kernel
theorem d_Ref_join_504 : decode prog_8_method_37_code 504 = .ok (.iload 5, 2) := by decide +kernel
theorem d_Ref_join_506 : decode prog_8_method_37_code 506 = .ok (.ireturn, 1) := by decide +kernel
theorem d_Ref_plain_0 : decode prog_8_method_38_code 0 = .ok (.aload_n 0, 1) := by decide +kernel
theorem d_Ref_plain_1 : decode prog_8_method_38_code 1 = .ok (.iload_n 1, 1) := by decide +kernel
theorem d_Ref_plain_2 : decode prog_8_method_38_code 2 = .ok (.invokestatic 138, 3) := by decide +kernel
theorem d_Ref_plain_5 : decode prog_8_method_38_code 5 = .ok (.ifCond .ne 19, 3) := by decide +kernel
theorem d_Ref_plain_8 : decode prog_8_method_38_code 8 = .ok (.aload_n 0, 1) := by decide +kernel
theorem d_Ref_plain_9 : decode prog_8_method_38_code 9 = .ok (.iload_n 3, 1) := by decide +kernel
theorem d_Ref_plain_10 : decode prog_8_method_38_code 10 = .ok (.invokevirtual 180, 3) := by decide +kernel
theorem d_Ref_plain_13 : decode prog_8_method_38_code 13 = .ok (.ifCond .ne 11, 3) := by decide +kernel
theorem d_Ref_plain_16 : decode prog_8_method_38_code 16 = .ok (.iload 4, 2) := by decide +kernel
theorem d_Ref_plain_18 : decode prog_8_method_38_code 18 = .ok (.invokestatic 142, 3) := by decide +kernel
theorem d_Ref_plain_21 : decode prog_8_method_38_code 21 = .ok (.ifCond .eq 7, 3) := by decide +kernel
theorem d_Ref_plain_24 : decode prog_8_method_38_code 24 = .ok (.iconst 1, 1) := by decide +kernel
theorem d_Ref_plain_25 : decode prog_8_method_38_code 25 = .ok (.goto 17, 3) := by decide +kernel
theorem d_Ref_plain_28 : decode prog_8_method_38_code 28 = .ok (.iload_n 2, 1) := by decide +kernel
theorem d_Ref_plain_29 : decode prog_8_method_38_code 29 = .ok (.ifCond .lt 8, 3) := by decide +kernel
theorem d_Ref_plain_32 : decode prog_8_method_38_code 32 = .ok (.iload_n 2, 1) := by decide +kernel
theorem d_Ref_plain_33 : decode prog_8_method_38_code 33 = .ok (.iconst 1, 1) := by decide +kernel
theorem d_Ref_plain_34 : decode prog_8_method_38_code 34 = .ok (.if_icmp .le 7, 3) := by decide +kernel
theorem d_Ref_plain_37 : decode prog_8_method_38_code 37 = .ok (.iconst 2, 1) := by decide +kernel
theorem d_Ref_plain_38 : decode prog_8_method_38_code 38 = .ok (.goto 4, 3) := by decide +kernel
theorem d_Ref_plain_41 : decode prog_8_method_38_code 41 = .ok (.iconst 0, 1) := by decide +kernel
theorem d_Ref_plain_42 : decode prog_8_method_38_code 42 = .ok (.putfield 69, 3) := by decide +kernel
theorem d_Ref_plain_45 : decode prog_8_method_38_code 45 = .ok (.aload_n 0, 1) := by decide +kernel
theorem d_Ref_plain_46 : decode prog_8_method_38_code 46 = .ok (.getfield 69, 3) := by decide +kernel
theorem d_Ref_plain_49 : decode prog_8_method_38_code 49 = .ok (.ifCond .le 5, 3) := by decide +kernel
theorem d_Ref_plain_52 : decode prog_8_method_38_code 52 = .ok (.iconst 0, 1) := by decide +kernel
theorem d_Ref_plain_53 : decode prog_8_method_38_code 53 = .ok (.ireturn, 1) := by decide +kernel
theorem d_Ref_plain_54 : decode prog_8_method_38_code 54 = .ok (.aload_n 0, 1) := by decide +kernel
theorem d_Ref_plain_55 : decode prog_8_method_38_code 55 = .ok (.getfield 39, 3) := by decide +kernel
theorem d_Ref_plain_58 : decode prog_8_method_38_code 58 = .ok (.iload_n 3, 1) := by decide +kernel
theorem d_Ref_plain_59 : decode prog_8_method_38_code 59 = .ok (.iaload, 1) := by decide +kernel
theorem d_Ref_plain_60 : decode prog_8_method_38_code 60 = .ok (.istore 5, 2) := by decide +kernel
theorem d_Ref_plain_62 : decode prog_8_method_38_code 62 = .ok (.iconst 0, 1) := by decide +kernel
theorem d_Ref_plain_63 : decode prog_8_method_38_code 63 = .ok (.istore 6, 2) := by decide +kernel
theorem d_Ref_plain_65 : decode prog_8_method_38_code 65 = .ok (.iload 6, 2) := by decide +kernel
theorem d_Ref_plain_67 : decode prog_8_method_38_code 67 = .ok (.iload 5, 2) := by decide +kernel
theorem d_Ref_plain_69 : decode prog_8_method_38_code 69 = .ok (.if_icmp .ge 180, 3) := by decide +kernel
theorem d_Ref_plain_72 : decode prog_8_method_38_code 72 = .ok (.aload_n 0, 1) := by decide +kernel
theorem d_Ref_plain_73 : decode prog_8_method_38_code 73 = .ok (.iload_n 3, 1) := by decide +kernel
theorem d_Ref_plain_74 : decode prog_8_method_38_code 74 = .ok (.iload 6, 2) := by decide +kernel
theorem d_Ref_plain_76 : decode prog_8_method_38_code 76 = .ok (.aload_n 0, 1) := by decide +kernel
theorem d_Ref_plain_77 : decode prog_8_method_38_code 77 = .ok (.getfield 45, 3) := by decide +kernel
theorem d_Ref_plain_80 : decode prog_8_method_38_code 80 = .ok (.invokevirtual 159, 3) := by decide +kernel
theorem d_Ref_plain_83 : decode prog_8_method_38_code 83 = .ok (.iconst 0, 1) := by decide +kernel
theorem d_Ref_plain_84 : decode prog_8_method_38_code 84 = .ok (.istore 7, 2) := by decide +kernel
theorem d_Ref_plain_86 : decode prog_8_method_38_code 86 = .ok (.iload 7, 2) := by decide +kernel
theorem d_Ref_plain_88 : decode prog_8_method_38_code 88 = .ok (.aload_n 0, 1) := by decide +kernel
theorem d_Ref_plain_89 : decode prog_8_method_38_code 89 = .ok (.getfield 7, 3) := by decide +kernel
theorem d_Ref_plain_92 : decode prog_8_method_38_code 92 = .ok (.if_icmp .ge 30, 3) := by decide +kernel
theorem d_Ref_plain_95 : decode prog_8_method_38_code 95 = .ok (.aload_n 0, 1) := by decide +kernel
theorem d_Ref_plain_96 : decode prog_8_method_38_code 96 = .ok (.getfield 48, 3) := by decide +kernel
theorem d_Ref_plain_99 : decode prog_8_method_38_code 99 = .ok (.iload 7, 2) := by decide +kernel
theorem d_Ref_plain_101 : decode prog_8_method_38_code 101 = .ok (.aload_n 0, 1) := by decide +kernel
theorem d_Ref_plain_102 : decode prog_8_method_38_code 102 = .ok (.getfield 36, 3) := by decide +kernel
theorem d_Ref_plain_105 : decode prog_8_method_38_code 105 = .ok (.bipush 32, 2) := by decide +kernel
theorem d_Ref_plain_107 : decode prog_8_method_38_code 107 = .ok (.iload 4, 2) := by decide +kernel
theorem d_Ref_plain_109 : decode prog_8_method_38_code 109 = .ok (.imul, 1) := by decide +kernel
theorem d_Ref_plain_110 : decode prog_8_method_38_code 110 = .ok (.iload 7, 2) := by decide +kernel
theorem d_Ref_plain_112 : decode prog_8_method_38_code 112 = .ok (.iadd, 1) := by decide +kernel
theorem d_Ref_plain_113 : decode prog_8_method_38_code 113 = .ok (.iaload, 1) := by decide +kernel
theorem d_Ref_plain_114 : decode prog_8_method_38_code 114 = .ok (.i2l, 1) := by decide +kernel
theorem d_Ref_plain_115 : decode prog_8_method_38_code 115 = .ok (.lastore, 1) := by decide +kernel
theorem d_Ref_plain_116 : decode prog_8_method_38_code 116 = .ok (.iinc 7 1, 3) := by decide +kernel
theorem d_Ref_plain_119 : decode prog_8_method_38_code 119 = .ok (.goto (-33), 3) := by decide +kernel
theorem d_Ref_plain_122 : decode prog_8_method_38_code 122 = .ok (.iload_n 2, 1) := by decide +kernel
theorem d_Ref_plain_123 : decode prog_8_method_38_code 123 = .ok (.iconst 1, 1) := by decide +kernel
theorem d_Ref_plain_124 : decode prog_8_method_38_code 124 = .ok (.if_icmp .ne 22, 3) := by decide +kernel
theorem d_Ref_plain_127 : decode prog_8_method_38_code 127 = .ok (.aload_n 0, 1) := by decide +kernel
theorem d_Ref_plain_128 : decode prog_8_method_38_code 128 = .ok (.aload_n 0, 1) := by decide +kernel
theorem d_Ref_plain_129 : decode prog_8_method_38_code 129 = .ok (.getfield 45, 3) := by decide +kernel
theorem d_Ref_plain_132 : decode prog_8_method_38_code 132 = .ok (.aload_n 0, 1) := by decide +kernel
theorem d_Ref_plain_133 : decode prog_8_method_38_code 133 = .ok (.getfield 48, 3) := by decide +kernel
theorem d_Ref_plain_136 : decode prog_8_method_38_code 136 = .ok (.aload_n 0, 1) := by decide +kernel
theorem d_Ref_plain_137 : decode prog_8_method_38_code 137 = .ok (.getfield 51, 3) := by decide +kernel
theorem d_Ref_plain_140 : decode prog_8_method_38_code 140 = .ok (.invokevirtual 98, 3) := by decide +kernel
theorem d_Ref_plain_143 : decode prog_8_method_38_code 143 = .ok (.goto 62, 3) := by decide +kernel
theorem d_Ref_plain_146 : decode prog_8_method_38_code 146 = .ok (.iconst 0, 1) := by decide +kernel
theorem d_Ref_plain_147 : decode prog_8_method_38_code 147 = .ok (.istore 7, 2) := by decide +kernel
theorem d_Ref_plain_149 : decode prog_8_method_38_code 149 = .ok (.iload 7, 2) := by decide +kernel
theorem d_Ref_plain_151 : decode prog_8_method_38_code 151 = .ok (.aload_n 0, 1) := by decide +kernel
theorem d_Ref_plain_152 : decode prog_8_method_38_code 152 = .ok (.getfield 7, 3) := by decide +kernel
theorem d_Ref_plain_155 : decode prog_8_method_38_code 155 = .ok (.if_icmp .ge 50, 3) := by decide +kernel
theorem d_Ref_plain_158 : decode prog_8_method_38_code 158 = .ok (.aload_n 0, 1) := by decide +kernel
theorem d_Ref_plain_159 : decode prog_8_method_38_code 159 = .ok (.getfield 51, 3) := by decide +kernel
theorem d_Ref_plain_162 : decode prog_8_method_38_code 162 = .ok (.iload 7, 2) := by decide +kernel
theorem d_Ref_plain_164 : decode prog_8_method_38_code 164 = .ok (.aload_n 0, 1) := by decide +kernel
theorem d_Ref_plain_165 : decode prog_8_method_38_code 165 = .ok (.getfield 45, 3) := by decide +kernel
theorem d_Ref_plain_168 : decode prog_8_method_38_code 168 = .ok (.iload 7, 2) := by decide +kernel
theorem d_Ref_plain_170 : decode prog_8_method_38_code 170 = .ok (.laload, 1) := by decide +kernel
theorem d_Ref_plain_171 : decode prog_8_method_38_code 171 = .ok (.iload 6, 2) := by decide +kernel
theorem d_Ref_plain_173 : decode prog_8_method_38_code 173 = .ok (.ifCond .ne 23, 3) := by decide +kernel
theorem d_Ref_plain_176 : decode prog_8_method_38_code 176 = .ok (.ldc2_w 72, 3) := by decide +kernel
theorem d_Ref_plain_179 : decode prog_8_method_38_code 179 = .ok (.aload_n 0, 1) := by decide +kernel
theorem d_Ref_plain_180 : decode prog_8_method_38_code 180 = .ok (.getfield 13, 3) := by decide +kernel
theorem d_Ref_plain_183 : decode prog_8_method_38_code 183 = .ok (.i2l, 1) := by decide +kernel
theorem d_Ref_plain_184 : decode prog_8_method_38_code 184 = .ok (.ldiv, 1) := by decide +kernel
theorem d_Ref_plain_185 : decode prog_8_method_38_code 185 = .ok (.aload_n 0, 1) := by decide +kernel
theorem d_Ref_plain_186 : decode prog_8_method_38_code 186 = .ok (.getfield 48, 3) := by decide +kernel
theorem d_Ref_plain_189 : decode prog_8_method_38_code 189 = .ok (.iload 7, 2) := by decide +kernel
theorem d_Ref_plain_191 : decode prog_8_method_38_code 191 = .ok (.laload, 1) := by decide +kernel
theorem d_Ref_plain_192 : decode prog_8_method_38_code 192 = .ok (.lmul, 1) := by decide +kernel
theorem d_Ref_plain_193 : decode prog_8_method_38_code 193 = .ok (.goto 4, 3) := by decide +kernel
theorem d_Ref_plain_196 : decode prog_8_method_38_code 196 = .ok (.lconst 0, 1) := by decide +kernel
theorem d_Ref_plain_197 : decode prog_8_method_38_code 197 = .ok (.ladd, 1) := by decide +kernel
theorem d_Ref_plain_198 : decode prog_8_method_38_code 198 = .ok (.lastore, 1) := by decide +kernel
theorem d_Ref_plain_199 : decode prog_8_method_38_code 199 = .ok (.iinc 7 1, 3) := by decide +kernel
theorem d_Ref_plain_202 : decode prog_8_method_38_code 202 = .ok (.goto (-53), 3) := by decide +kernel
theorem d_Ref_plain_205 : decode prog_8_method_38_code 205 = .ok (.iconst 0, 1) := by decide +kernel
theorem d_Ref_plain_206 : decode prog_8_method_38_code 206 = .ok (.istore 7, 2) := by decide +kernel
theorem d_Ref_plain_208 : decode prog_8_method_38_code 208 = .ok (.iload 7, 2) := by decide +kernel
theorem d_Ref_plain_210 : decode prog_8_method_38_code 210 = .ok (.aload_n 0, 1) := by decide +kernel
theorem d_Ref_plain_211 : decode prog_8_method_38_code 211 = .ok (.getfield 7, 3) := by decide +kernel
theorem d_Ref_plain_214 : decode prog_8_method_38_code 214 = .ok (.if_icmp .ge 29, 3) := by decide +kernel
theorem d_Ref_plain_217 : decode prog_8_method_38_code 217 = .ok (.aload_n 0, 1) := by decide +kernel
theorem d_Ref_plain_218 : decode prog_8_method_38_code 218 = .ok (.getfield 60, 3) := by decide +kernel
theorem d_Ref_plain_221 : decode prog_8_method_38_code 221 = .ok (.bipush 32, 2) := by decide +kernel
theorem d_Ref_plain_223 : decode prog_8_method_38_code 223 = .ok (.iload 6, 2) := by decide +kernel
theorem d_Ref_plain_225 : decode prog_8_method_38_code 225 = .ok (.imul, 1) := by decide +kernel
theorem d_Ref_plain_226 : decode prog_8_method_38_code 226 = .ok (.iload 7, 2) := by decide +kernel
theorem d_Ref_plain_228 : decode prog_8_method_38_code 228 = .ok (.iadd, 1) := by decide +kernel
theorem d_Ref_plain_229 : decode prog_8_method_38_code 229 = .ok (.aload_n 0, 1) := by decide +kernel
theorem d_Ref_plain_230 : decode prog_8_method_38_code 230 = .ok (.getfield 51, 3) := by decide +kernel
theorem d_Ref_plain_233 : decode prog_8_method_38_code 233 = .ok (.iload 7, 2) := by decide +kernel
theorem d_Ref_plain_235 : decode prog_8_method_38_code 235 = .ok (.laload, 1) := by decide +kernel
theorem d_Ref_plain_236 : decode prog_8_method_38_code 236 = .ok (.lastore, 1) := by decide +kernel
theorem d_Ref_plain_237 : decode prog_8_method_38_code 237 = .ok (.iinc 7 1, 3) := by decide +kernel
theorem d_Ref_plain_240 : decode prog_8_method_38_code 240 = .ok (.goto (-32), 3) := by decide +kernel
theorem d_Ref_plain_243 : decode prog_8_method_38_code 243 = .ok (.iinc 6 1, 3) := by decide +kernel
theorem d_Ref_plain_246 : decode prog_8_method_38_code 246 = .ok (.goto (-181), 3) := by decide +kernel
theorem d_Ref_plain_249 : decode prog_8_method_38_code 249 = .ok (.aload_n 0, 1) := by decide +kernel
theorem d_Ref_plain_250 : decode prog_8_method_38_code 250 = .ok (.getfield 39, 3) := by decide +kernel
theorem d_Ref_plain_253 : decode prog_8_method_38_code 253 = .ok (.iload_n 1, 1) := by decide +kernel
theorem d_Ref_plain_254 : decode prog_8_method_38_code 254 = .ok (.iload 5, 2) := by decide +kernel
theorem d_Ref_plain_256 : decode prog_8_method_38_code 256 = .ok (.iastore, 1) := by decide +kernel
theorem d_Ref_plain_257 : decode prog_8_method_38_code 257 = .ok (.iconst 0, 1) := by decide +kernel
theorem d_Ref_plain_258 : decode prog_8_method_38_code 258 = .ok (.istore 6, 2) := by decide +kernel
theorem d_Ref_plain_260 : decode prog_8_method_38_code 260 = .ok (.iload 6, 2) := by decide +kernel
theorem d_Ref_plain_262 : decode prog_8_method_38_code 262 = .ok (.iload 5, 2) := by decide +kernel
theorem d_Ref_plain_264 : decode prog_8_method_38_code 264 = .ok (.if_icmp .ge 58, 3) := by decide +kernel
theorem d_Ref_plain_267 : decode prog_8_method_38_code 267 = .ok (.iconst 0, 1) := by decide +kernel
theorem d_Ref_plain_268 : decode prog_8_method_38_code 268 = .ok (.istore 7, 2) := by decide +kernel
theorem d_Ref_plain_270 : decode prog_8_method_38_code 270 = .ok (.iload 7, 2) := by decide +kernel
theorem d_Ref_plain_272 : decode prog_8_method_38_code 272 = .ok (.aload_n 0, 1) := by decide +kernel
theorem d_Ref_plain_273 : decode prog_8_method_38_code 273 = .ok (.getfield 7, 3) := by decide +kernel
theorem d_Ref_plain_276 : decode prog_8_method_38_code 276 = .ok (.if_icmp .ge 29, 3) := by decide +kernel
theorem d_Ref_plain_279 : decode prog_8_method_38_code 279 = .ok (.aload_n 0, 1) := by decide +kernel
theorem d_Ref_plain_280 : decode prog_8_method_38_code 280 = .ok (.getfield 51, 3) := by decide +kernel
theorem d_Ref_plain_283 : decode prog_8_method_38_code 283 = .ok (.iload 7, 2) := by decide +kernel
theorem d_Ref_plain_285 : decode prog_8_method_38_code 285 = .ok (.aload_n 0, 1) := by decide +kernel
theorem d_Ref_plain_286 : decode prog_8_method_38_code 286 = .ok (.getfield 60, 3) := by decide +kernel
theorem d_Ref_plain_289 : decode prog_8_method_38_code 289 = .ok (.bipush 32, 2) := by decide +kernel
theorem d_Ref_plain_291 : decode prog_8_method_38_code 291 = .ok (.iload 6, 2) := by decide +kernel
theorem d_Ref_plain_293 : decode prog_8_method_38_code 293 = .ok (.imul, 1) := by decide +kernel
theorem d_Ref_plain_294 : decode prog_8_method_38_code 294 = .ok (.iload 7, 2) := by decide +kernel
theorem d_Ref_plain_296 : decode prog_8_method_38_code 296 = .ok (.iadd, 1) := by decide +kernel
theorem d_Ref_plain_297 : decode prog_8_method_38_code 297 = .ok (.laload, 1) := by decide +kernel
theorem d_Ref_plain_298 : decode prog_8_method_38_code 298 = .ok (.lastore, 1) := by decide +kernel
theorem d_Ref_plain_299 : decode prog_8_method_38_code 299 = .ok (.iinc 7 1, 3) := by decide +kernel
theorem d_Ref_plain_302 : decode prog_8_method_38_code 302 = .ok (.goto (-32), 3) := by decide +kernel
theorem d_Ref_plain_305 : decode prog_8_method_38_code 305 = .ok (.aload_n 0, 1) := by decide +kernel
theorem d_Ref_plain_306 : decode prog_8_method_38_code 306 = .ok (.iload_n 1, 1) := by decide +kernel
theorem d_Ref_plain_307 : decode prog_8_method_38_code 307 = .ok (.iload 6, 2) := by decide +kernel
theorem d_Ref_plain_309 : decode prog_8_method_38_code 309 = .ok (.aload_n 0, 1) := by decide +kernel
theorem d_Ref_plain_310 : decode prog_8_method_38_code 310 = .ok (.getfield 51, 3) := by decide +kernel
theorem d_Ref_plain_313 : decode prog_8_method_38_code 313 = .ok (.invokevirtual 152, 3) := by decide +kernel
theorem d_Ref_plain_316 : decode prog_8_method_38_code 316 = .ok (.iinc 6 1, 3) := by decide +kernel
theorem d_Ref_plain_319 : decode prog_8_method_38_code 319 = .ok (.goto (-59), 3) := by decide +kernel
theorem d_Ref_plain_322 : decode prog_8_method_38_code 322 = .ok (.iload 5, 2) := by decide +kernel
theorem d_Ref_plain_324 : decode prog_8_method_38_code 324 = .ok (.ireturn, 1) := by decide +kernel
theorem d_Ref_applied_0 : decode prog_8_method_39_code 0 = .ok (.iconst 0, 1) := by decide +kernel
theorem d_Ref_applied_1 : decode prog_8_method_39_code 1 = .ok (.istore_n 2, 1) := by decide +kernel
theorem d_Ref_applied_2 : decode prog_8_method_39_code 2 = .ok (.iload_n 2, 1) := by decide +kernel
theorem d_Ref_applied_3 : decode prog_8_method_39_code 3 = .ok (.aload_n 0, 1) := by decide +kernel
theorem d_Ref_applied_4 : decode prog_8_method_39_code 4 = .ok (.getfield 7, 3) := by decide +kernel
theorem d_Ref_applied_7 : decode prog_8_method_39_code 7 = .ok (.if_icmp .ge 23, 3) := by decide +kernel
theorem d_Ref_applied_10 : decode prog_8_method_39_code 10 = .ok (.aload_n 0, 1) := by decide +kernel
theorem d_Ref_applied_11 : decode prog_8_method_39_code 11 = .ok (.getfield 54, 3) := by decide +kernel
theorem d_Ref_applied_14 : decode prog_8_method_39_code 14 = .ok (.iload_n 2, 1) := by decide +kernel
theorem d_Ref_applied_15 : decode prog_8_method_39_code 15 = .ok (.lconst 0, 1) := by decide +kernel
theorem d_Ref_applied_16 : decode prog_8_method_39_code 16 = .ok (.lastore, 1) := by decide +kernel
theorem d_Ref_applied_17 : decode prog_8_method_39_code 17 = .ok (.aload_n 0, 1) := by decide +kernel
theorem d_Ref_applied_18 : decode prog_8_method_39_code 18 = .ok (.getfield 57, 3) := by decide +kernel
theorem d_Ref_applied_21 : decode prog_8_method_39_code 21 = .ok (.iload_n 2, 1) := by decide +kernel
theorem d_Ref_applied_22 : decode prog_8_method_39_code 22 = .ok (.lconst 0, 1) := by decide +kernel
theorem d_Ref_applied_23 : decode prog_8_method_39_code 23 = .ok (.lastore, 1) := by decide +kernel
theorem d_Ref_applied_24 : decode prog_8_method_39_code 24 = .ok (.iinc 2 1, 3) := by decide +kernel
theorem d_Ref_applied_27 : decode prog_8_method_39_code 27 = .ok (.goto (-25), 3) := by decide +kernel
theorem d_Ref_applied_30 : decode prog_8_method_39_code 30 = .ok (.iconst 0, 1) := by decide +kernel
theorem d_Ref_applied_31 : decode prog_8_method_39_code 31 = .ok (.istore_n 2, 1) := by decide +kernel
theorem d_Ref_applied_32 : decode prog_8_method_39_code 32 = .ok (.iload_n 2, 1) := by decide +kernel
theorem d_Ref_applied_33 : decode prog_8_method_39_code 33 = .ok (.bipush 6, 2) := by decide +kernel
theorem d_Ref_applied_35 : decode prog_8_method_39_code 35 = .ok (.if_icmp .ge 215, 3) := by decide +kernel
theorem d_Ref_applied_38 : decode prog_8_method_39_code 38 = .ok (.iconst 0, 1) := by decide +kernel
theorem d_Ref_applied_39 : decode prog_8_method_39_code 39 = .ok (.istore_n 3, 1) := by decide +kernel
theorem d_Ref_applied_40 : decode prog_8_method_39_code 40 = .ok (.iload_n 3, 1) := by decide +kernel
theorem d_Ref_applied_41 : decode prog_8_method_39_code 41 = .ok (.aload_n 0, 1) := by decide +kernel
theorem d_Ref_applied_42 : decode prog_8_method_39_code 42 = .ok (.getfield 7, 3) := by decide +kernel
theorem d_Ref_applied_45 : decode prog_8_method_39_code 45 = .ok (.if_icmp .ge 29, 3) := by decide +kernel
theorem d_Ref_applied_48 : decode prog_8_method_39_code 48 = .ok (.aload_n 0, 1) := by decide +kernel
theorem d_Ref_applied_49 : decode prog_8_method_39_code 49 = .ok (.getfield 63, 3) := by decide +kernel
theorem d_Ref_applied_52 : decode prog_8_method_39_code 52 = .ok (.iload_n 3, 1) := by decide +kernel
theorem d_Ref_applied_53 : decode prog_8_method_39_code 53 = .ok (.aload_n 0, 1) := by decide +kernel
theorem d_Ref_applied_54 : decode prog_8_method_39_code 54 = .ok (.getfield 45, 3) := by decide +kernel
theorem d_Ref_applied_57 : decode prog_8_method_39_code 57 = .ok (.iload_n 3, 1) := by decide +kernel
theorem d_Ref_applied_58 : decode prog_8_method_39_code 58 = .ok (.laload, 1) := by decide +kernel
theorem d_Ref_applied_59 : decode prog_8_method_39_code 59 = .ok (.iconst 5, 1) := by decide +kernel
theorem d_Ref_applied_60 : decode prog_8_method_39_code 60 = .ok (.iload_n 2, 1) := by decide +kernel
theorem d_Ref_applied_61 : decode prog_8_method_39_code 61 = .ok (.imul, 1) := by decide +kernel
theorem d_Ref_applied_62 : decode prog_8_method_39_code 62 = .ok (.lshr, 1) := by decide +kernel
theorem d_Ref_applied_63 : decode prog_8_method_39_code 63 = .ok (.ldc2_w 190, 3) := by decide +kernel
theorem d_Ref_applied_66 : decode prog_8_method_39_code 66 = .ok (.land, 1) := by decide +kernel
theorem d_Ref_applied_67 : decode prog_8_method_39_code 67 = .ok (.lastore, 1) := by decide +kernel
theorem d_Ref_applied_68 : decode prog_8_method_39_code 68 = .ok (.iinc 3 1, 3) := by decide +kernel
theorem d_Ref_applied_71 : decode prog_8_method_39_code 71 = .ok (.goto (-31), 3) := by decide +kernel
theorem d_Ref_applied_74 : decode prog_8_method_39_code 74 = .ok (.iconst 0, 1) := by decide +kernel
theorem d_Ref_applied_75 : decode prog_8_method_39_code 75 = .ok (.istore_n 3, 1) := by decide +kernel
theorem d_Ref_applied_76 : decode prog_8_method_39_code 76 = .ok (.iload_n 3, 1) := by decide +kernel
theorem d_Ref_applied_77 : decode prog_8_method_39_code 77 = .ok (.iconst 2, 1) := by decide +kernel
theorem d_Ref_applied_78 : decode prog_8_method_39_code 78 = .ok (.if_icmp .ge 166, 3) := by decide +kernel
theorem d_Ref_applied_81 : decode prog_8_method_39_code 81 = .ok (.iconst 0, 1) := by decide +kernel
theorem d_Ref_applied_82 : decode prog_8_method_39_code 82 = .ok (.istore 4, 2) := by decide +kernel
theorem d_Ref_applied_84 : decode prog_8_method_39_code 84 = .ok (.iload 4, 2) := by decide +kernel
theorem d_Ref_applied_86 : decode prog_8_method_39_code 86 = .ok (.aload_n 0, 1) := by decide +kernel
theorem d_Ref_applied_87 : decode prog_8_method_39_code 87 = .ok (.getfield 7, 3) := by decide +kernel
theorem d_Ref_applied_90 : decode prog_8_method_39_code 90 = .ok (.if_icmp .ge 57, 3) := by decide +kernel
theorem d_Ref_applied_93 : decode prog_8_method_39_code 93 = .ok (.aload_n 0, 1) := by decide +kernel
theorem d_Ref_applied_94 : decode prog_8_method_39_code 94 = .ok (.getfield 48, 3) := by decide +kernel
theorem d_Ref_applied_97 : decode prog_8_method_39_code 97 = .ok (.iload 4, 2) := by decide +kernel
theorem d_Ref_applied_99 : decode prog_8_method_39_code 99 = .ok (.iload_n 3, 1) := by decide +kernel
theorem d_Ref_applied_100 : decode prog_8_method_39_code 100 = .ok (.ifCond .ne 23, 3) := by decide +kernel
theorem d_Ref_applied_103 : decode prog_8_method_39_code 103 = .ok (.aload_n 0, 1) := by decide +kernel
theorem d_Ref_applied_104 : decode prog_8_method_39_code 104 = .ok (.getfield 26, 3) := by decide +kernel
theorem d_Ref_applied_107 : decode prog_8_method_39_code 107 = .ok (.iload_n 1, 1) := by decide +kernel
theorem d_Ref_applied_108 : decode prog_8_method_39_code 108 = .ok (.bipush 6, 2) := by decide +kernel
theorem d_Ref_applied_110 : decode prog_8_method_39_code 110 = .ok (.imul, 1) := by decide +kernel
theorem d_Ref_applied_111 : decode prog_8_method_39_code 111 = .ok (.iload_n 2, 1) := by decide +kernel
theorem d_Ref_applied_112 : decode prog_8_method_39_code 112 = .ok (.iadd, 1) := by decide +kernel
theorem d_Ref_applied_113 : decode prog_8_method_39_code 113 = .ok (.bipush 32, 2) := by decide +kernel
theorem d_Ref_applied_115 : decode prog_8_method_39_code 115 = .ok (.imul, 1) := by decide +kernel
theorem d_Ref_applied_116 : decode prog_8_method_39_code 116 = .ok (.iload 4, 2) := by decide +kernel
theorem d_Ref_applied_118 : decode prog_8_method_39_code 118 = .ok (.iadd, 1) := by decide +kernel
theorem d_Ref_applied_119 : decode prog_8_method_39_code 119 = .ok (.laload, 1) := by decide +kernel
theorem d_Ref_applied_120 : decode prog_8_method_39_code 120 = .ok (.goto 20, 3) := by decide +kernel
theorem d_Ref_applied_123 : decode prog_8_method_39_code 123 = .ok (.aload_n 0, 1) := by decide +kernel
theorem d_Ref_applied_124 : decode prog_8_method_39_code 124 = .ok (.getfield 29, 3) := by decide +kernel
theorem d_Ref_applied_127 : decode prog_8_method_39_code 127 = .ok (.iload_n 1, 1) := by decide +kernel
theorem d_Ref_applied_128 : decode prog_8_method_39_code 128 = .ok (.bipush 6, 2) := by decide +kernel
theorem d_Ref_applied_130 : decode prog_8_method_39_code 130 = .ok (.imul, 1) := by decide +kernel
theorem d_Ref_applied_131 : decode prog_8_method_39_code 131 = .ok (.iload_n 2, 1) := by decide +kernel
theorem d_Ref_applied_132 : decode prog_8_method_39_code 132 = .ok (.iadd, 1) := by decide +kernel
theorem d_Ref_applied_133 : decode prog_8_method_39_code 133 = .ok (.bipush 32, 2) := by decide +kernel
theorem d_Ref_applied_135 : decode prog_8_method_39_code 135 = .ok (.imul, 1) := by decide +kernel
theorem d_Ref_applied_136 : decode prog_8_method_39_code 136 = .ok (.iload 4, 2) := by decide +kernel
theorem d_Ref_applied_138 : decode prog_8_method_39_code 138 = .ok (.iadd, 1) := by decide +kernel
theorem d_Ref_applied_139 : decode prog_8_method_39_code 139 = .ok (.laload, 1) := by decide +kernel
theorem d_Ref_applied_140 : decode prog_8_method_39_code 140 = .ok (.lastore, 1) := by decide +kernel
theorem d_Ref_applied_141 : decode prog_8_method_39_code 141 = .ok (.iinc 4 1, 3) := by decide +kernel
theorem d_Ref_applied_144 : decode prog_8_method_39_code 144 = .ok (.goto (-60), 3) := by decide +kernel
theorem d_Ref_applied_147 : decode prog_8_method_39_code 147 = .ok (.aload_n 0, 1) := by decide +kernel
theorem d_Ref_applied_148 : decode prog_8_method_39_code 148 = .ok (.aload_n 0, 1) := by decide +kernel
theorem d_Ref_applied_149 : decode prog_8_method_39_code 149 = .ok (.getfield 48, 3) := by decide +kernel
theorem d_Ref_applied_152 : decode prog_8_method_39_code 152 = .ok (.aload_n 0, 1) := by decide +kernel
theorem d_Ref_applied_153 : decode prog_8_method_39_code 153 = .ok (.getfield 63, 3) := by decide +kernel
theorem d_Ref_applied_156 : decode prog_8_method_39_code 156 = .ok (.aload_n 0, 1) := by decide +kernel
theorem d_Ref_applied_157 : decode prog_8_method_39_code 157 = .ok (.getfield 66, 3) := by decide +kernel
theorem d_Ref_applied_160 : decode prog_8_method_39_code 160 = .ok (.invokevirtual 98, 3) := by decide +kernel
theorem d_Ref_applied_163 : decode prog_8_method_39_code 163 = .ok (.iconst 0, 1) := by decide +kernel
theorem d_Ref_applied_164 : decode prog_8_method_39_code 164 = .ok (.istore 4, 2) := by decide +kernel
theorem d_Ref_applied_166 : decode prog_8_method_39_code 166 = .ok (.iload 4, 2) := by decide +kernel
theorem d_Ref_applied_168 : decode prog_8_method_39_code 168 = .ok (.aload_n 0, 1) := by decide +kernel
theorem d_Ref_applied_169 : decode prog_8_method_39_code 169 = .ok (.getfield 7, 3) := by decide +kernel
theorem d_Ref_applied_172 : decode prog_8_method_39_code 172 = .ok (.if_icmp .ge 66, 3) := by decide +kernel
theorem d_Ref_applied_175 : decode prog_8_method_39_code 175 = .ok (.iload_n 3, 1) := by decide +kernel
theorem d_Ref_applied_176 : decode prog_8_method_39_code 176 = .ok (.ifCond .ne 31, 3) := by decide +kernel
theorem d_Ref_applied_179 : decode prog_8_method_39_code 179 = .ok (.aload_n 0, 1) := by decide +kernel
theorem d_Ref_applied_180 : decode prog_8_method_39_code 180 = .ok (.getfield 54, 3) := by decide +kernel
theorem d_Ref_applied_183 : decode prog_8_method_39_code 183 = .ok (.iload 4, 2) := by decide +kernel
theorem d_Ref_applied_185 : decode prog_8_method_39_code 185 = .ok (.aload_n 0, 1) := by decide +kernel
theorem d_Ref_applied_186 : decode prog_8_method_39_code 186 = .ok (.getfield 54, 3) := by decide +kernel
theorem d_Ref_applied_189 : decode prog_8_method_39_code 189 = .ok (.iload 4, 2) := by decide +kernel
theorem d_Ref_applied_191 : decode prog_8_method_39_code 191 = .ok (.laload, 1) := by decide +kernel
theorem d_Ref_applied_192 : decode prog_8_method_39_code 192 = .ok (.aload_n 0, 1) := by decide +kernel
theorem d_Ref_applied_193 : decode prog_8_method_39_code 193 = .ok (.getfield 66, 3) := by decide +kernel
theorem d_Ref_applied_196 : decode prog_8_method_39_code 196 = .ok (.iload 4, 2) := by decide +kernel
theorem d_Ref_applied_198 : decode prog_8_method_39_code 198 = .ok (.laload, 1) := by decide +kernel
theorem d_Ref_applied_199 : decode prog_8_method_39_code 199 = .ok (.ladd, 1) := by decide +kernel
theorem d_Ref_applied_200 : decode prog_8_method_39_code 200 = .ok (.invokestatic 74, 3) := by decide +kernel
theorem d_Ref_applied_203 : decode prog_8_method_39_code 203 = .ok (.lastore, 1) := by decide +kernel
theorem d_Ref_applied_204 : decode prog_8_method_39_code 204 = .ok (.goto 28, 3) := by decide +kernel
theorem d_Ref_applied_207 : decode prog_8_method_39_code 207 = .ok (.aload_n 0, 1) := by decide +kernel
theorem d_Ref_applied_208 : decode prog_8_method_39_code 208 = .ok (.getfield 57, 3) := by decide +kernel
theorem d_Ref_applied_211 : decode prog_8_method_39_code 211 = .ok (.iload 4, 2) := by decide +kernel
theorem d_Ref_applied_213 : decode prog_8_method_39_code 213 = .ok (.aload_n 0, 1) := by decide +kernel
theorem d_Ref_applied_214 : decode prog_8_method_39_code 214 = .ok (.getfield 57, 3) := by decide +kernel
theorem d_Ref_applied_217 : decode prog_8_method_39_code 217 = .ok (.iload 4, 2) := by decide +kernel
theorem d_Ref_applied_219 : decode prog_8_method_39_code 219 = .ok (.laload, 1) := by decide +kernel
theorem d_Ref_applied_220 : decode prog_8_method_39_code 220 = .ok (.aload_n 0, 1) := by decide +kernel
theorem d_Ref_applied_221 : decode prog_8_method_39_code 221 = .ok (.getfield 66, 3) := by decide +kernel
theorem d_Ref_applied_224 : decode prog_8_method_39_code 224 = .ok (.iload 4, 2) := by decide +kernel
theorem d_Ref_applied_226 : decode prog_8_method_39_code 226 = .ok (.laload, 1) := by decide +kernel
theorem d_Ref_applied_227 : decode prog_8_method_39_code 227 = .ok (.ladd, 1) := by decide +kernel
theorem d_Ref_applied_228 : decode prog_8_method_39_code 228 = .ok (.invokestatic 74, 3) := by decide +kernel
theorem d_Ref_applied_231 : decode prog_8_method_39_code 231 = .ok (.lastore, 1) := by decide +kernel
theorem d_Ref_applied_232 : decode prog_8_method_39_code 232 = .ok (.iinc 4 1, 3) := by decide +kernel
theorem d_Ref_applied_235 : decode prog_8_method_39_code 235 = .ok (.goto (-69), 3) := by decide +kernel
theorem d_Ref_applied_238 : decode prog_8_method_39_code 238 = .ok (.iinc 3 1, 3) := by decide +kernel
theorem d_Ref_applied_241 : decode prog_8_method_39_code 241 = .ok (.goto (-165), 3) := by decide +kernel
theorem d_Ref_applied_244 : decode prog_8_method_39_code 244 = .ok (.iinc 2 1, 3) := by decide +kernel
theorem d_Ref_applied_247 : decode prog_8_method_39_code 247 = .ok (.goto (-215), 3) := by decide +kernel
theorem d_Ref_applied_250 : decode prog_8_method_39_code 250 = .ok (.return_, 1) := by decide +kernel
theorem d_Ref_shrink_0 : decode prog_8_method_40_code 0 = .ok (.aload_n 0, 1) := by decide +kernel
theorem d_Ref_shrink_1 : decode prog_8_method_40_code 1 = .ok (.iload_n 1, 1) := by decide +kernel
theorem d_Ref_shrink_2 : decode prog_8_method_40_code 2 = .ok (.invokestatic 138, 3) := by decide +kernel
theorem d_Ref_shrink_5 : decode prog_8_method_40_code 5 = .ok (.ifCond .ne 11, 3) := by decide +kernel
theorem d_Ref_shrink_8 : decode prog_8_method_40_code 8 = .ok (.aload_n 0, 1) := by decide +kernel
theorem d_Ref_shrink_9 : decode prog_8_method_40_code 9 = .ok (.iload_n 2, 1) := by decide +kernel
theorem d_Ref_shrink_10 : decode prog_8_method_40_code 10 = .ok (.invokevirtual 180, 3) := by decide +kernel
theorem d_Ref_shrink_13 : decode prog_8_method_40_code 13 = .ok (.ifCond .eq 7, 3) := by decide +kernel
theorem d_Ref_shrink_16 : decode prog_8_method_40_code 16 = .ok (.iconst 1, 1) := by decide +kernel
theorem d_Ref_shrink_17 : decode prog_8_method_40_code 17 = .ok (.goto 18, 3) := by decide +kernel
theorem d_Ref_shrink_20 : decode prog_8_method_40_code 20 = .ok (.aload_n 0, 1) := by decide +kernel
theorem d_Ref_shrink_21 : decode prog_8_method_40_code 21 = .ok (.getfield 39, 3) := by decide +kernel
theorem d_Ref_shrink_24 : decode prog_8_method_40_code 24 = .ok (.iload_n 2, 1) := by decide +kernel
theorem d_Ref_shrink_25 : decode prog_8_method_40_code 25 = .ok (.iaload, 1) := by decide +kernel
theorem d_Ref_shrink_26 : decode prog_8_method_40_code 26 = .ok (.iconst 2, 1) := by decide +kernel
theorem d_Ref_shrink_27 : decode prog_8_method_40_code 27 = .ok (.if_icmp .ne 7, 3) := by decide +kernel
theorem d_Ref_shrink_30 : decode prog_8_method_40_code 30 = .ok (.iconst 2, 1) := by decide +kernel
theorem d_Ref_shrink_31 : decode prog_8_method_40_code 31 = .ok (.goto 4, 3) := by decide +kernel
theorem d_Ref_shrink_34 : decode prog_8_method_40_code 34 = .ok (.iconst 0, 1) := by decide +kernel
theorem d_Ref_shrink_35 : decode prog_8_method_40_code 35 = .ok (.putfield 69, 3) := by decide +kernel
theorem d_Ref_shrink_38 : decode prog_8_method_40_code 38 = .ok (.aload_n 0, 1) := by decide +kernel
theorem d_Ref_shrink_39 : decode prog_8_method_40_code 39 = .ok (.getfield 69, 3) := by decide +kernel
theorem d_Ref_shrink_42 : decode prog_8_method_40_code 42 = .ok (.ifCond .le 5, 3) := by decide +kernel
theorem d_Ref_shrink_45 : decode prog_8_method_40_code 45 = .ok (.iconst 0, 1) := by decide +kernel
theorem d_Ref_shrink_46 : decode prog_8_method_40_code 46 = .ok (.ireturn, 1) := by decide +kernel
theorem d_Ref_shrink_47 : decode prog_8_method_40_code 47 = .ok (.aload_n 0, 1) := by decide +kernel
theorem d_Ref_shrink_48 : decode prog_8_method_40_code 48 = .ok (.iload_n 2, 1) := by decide +kernel
theorem d_Ref_shrink_49 : decode prog_8_method_40_code 49 = .ok (.iconst 2, 1) := by decide +kernel
theorem d_Ref_shrink_50 : decode prog_8_method_40_code 50 = .ok (.aload_n 0, 1) := by decide +kernel
theorem d_Ref_shrink_51 : decode prog_8_method_40_code 51 = .ok (.getfield 45, 3) := by decide +kernel
theorem d_Ref_shrink_54 : decode prog_8_method_40_code 54 = .ok (.invokevirtual 159, 3) := by decide +kernel
theorem d_Ref_shrink_57 : decode prog_8_method_40_code 57 = .ok (.aload_n 0, 1) := by decide +kernel
theorem d_Ref_shrink_58 : decode prog_8_method_40_code 58 = .ok (.iconst 0, 1) := by decide +kernel
theorem d_Ref_shrink_59 : decode prog_8_method_40_code 59 = .ok (.invokevirtual 192, 3) := by decide +kernel
theorem d_Ref_shrink_62 : decode prog_8_method_40_code 62 = .ok (.aload_n 0, 1) := by decide +kernel
theorem d_Ref_shrink_63 : decode prog_8_method_40_code 63 = .ok (.iload_n 2, 1) := by decide +kernel
theorem d_Ref_shrink_64 : decode prog_8_method_40_code 64 = .ok (.iconst 0, 1) := by decide +kernel
theorem d_Ref_shrink_65 : decode prog_8_method_40_code 65 = .ok (.aload_n 0, 1) := by decide +kernel
theorem d_Ref_shrink_66 : decode prog_8_method_40_code 66 = .ok (.getfield 45, 3) := by decide +kernel
theorem d_Ref_shrink_69 : decode prog_8_method_40_code 69 = .ok (.invokevirtual 159, 3) := by decide +kernel
theorem d_Ref_shrink_72 : decode prog_8_method_40_code 72 = .ok (.aload_n 0, 1) := by decide +kernel
theorem d_Ref_shrink_73 : decode prog_8_method_40_code 73 = .ok (.iload_n 2, 1) := by decide +kernel
theorem d_Ref_shrink_74 : decode prog_8_method_40_code 74 = .ok (.iconst 1, 1) := by decide +kernel
theorem d_Ref_shrink_75 : decode prog_8_method_40_code 75 = .ok (.aload_n 0, 1) := by decide +kernel
theorem d_Ref_shrink_76 : decode prog_8_method_40_code 76 = .ok (.getfield 48, 3) := by decide +kernel
theorem d_Ref_shrink_79 : decode prog_8_method_40_code 79 = .ok (.invokevirtual 159, 3) := by decide +kernel
theorem d_Ref_shrink_82 : decode prog_8_method_40_code 82 = .ok (.iconst 0, 1) := by decide +kernel
theorem d_Ref_shrink_83 : decode prog_8_method_40_code 83 = .ok (.istore_n 3, 1) := by decide +kernel
theorem d_Ref_shrink_84 : decode prog_8_method_40_code 84 = .ok (.iload_n 3, 1) := by decide +kernel
theorem d_Ref_shrink_85 : decode prog_8_method_40_code 85 = .ok (.aload_n 0, 1) := by decide +kernel
theorem d_Ref_shrink_86 : decode prog_8_method_40_code 86 = .ok (.getfield 7, 3) := by decide +kernel
theorem d_Ref_shrink_89 : decode prog_8_method_40_code 89 = .ok (.if_icmp .ge 39, 3) := by decide +kernel
theorem d_Ref_shrink_92 : decode prog_8_method_40_code 92 = .ok (.aload_n 0, 1) := by decide +kernel
theorem d_Ref_shrink_93 : decode prog_8_method_40_code 93 = .ok (.getfield 45, 3) := by decide +kernel
theorem d_Ref_shrink_96 : decode prog_8_method_40_code 96 = .ok (.iload_n 3, 1) := by decide +kernel
theorem d_Ref_shrink_97 : decode prog_8_method_40_code 97 = .ok (.dup2, 1) := by decide +kernel
theorem d_Ref_shrink_98 : decode prog_8_method_40_code 98 = .ok (.laload, 1) := by decide +kernel
theorem d_Ref_shrink_99 : decode prog_8_method_40_code 99 = .ok (.aload_n 0, 1) := by decide +kernel
theorem d_Ref_shrink_100 : decode prog_8_method_40_code 100 = .ok (.getfield 54, 3) := by decide +kernel
theorem d_Ref_shrink_103 : decode prog_8_method_40_code 103 = .ok (.iload_n 3, 1) := by decide +kernel
theorem d_Ref_shrink_104 : decode prog_8_method_40_code 104 = .ok (.laload, 1) := by decide +kernel
theorem d_Ref_shrink_105 : decode prog_8_method_40_code 105 = .ok (.ladd, 1) := by decide +kernel
theorem d_Ref_shrink_106 : decode prog_8_method_40_code 106 = .ok (.lastore, 1) := by decide +kernel
theorem d_Ref_shrink_107 : decode prog_8_method_40_code 107 = .ok (.aload_n 0, 1) := by decide +kernel
theorem d_Ref_shrink_108 : decode prog_8_method_40_code 108 = .ok (.getfield 48, 3) := by decide +kernel
theorem d_Ref_shrink_111 : decode prog_8_method_40_code 111 = .ok (.iload_n 3, 1) := by decide +kernel
theorem d_Ref_shrink_112 : decode prog_8_method_40_code 112 = .ok (.dup2, 1) := by decide +kernel
theorem d_Ref_shrink_113 : decode prog_8_method_40_code 113 = .ok (.laload, 1) := by decide +kernel
theorem d_Ref_shrink_114 : decode prog_8_method_40_code 114 = .ok (.aload_n 0, 1) := by decide +kernel
theorem d_Ref_shrink_115 : decode prog_8_method_40_code 115 = .ok (.getfield 57, 3) := by decide +kernel
theorem d_Ref_shrink_118 : decode prog_8_method_40_code 118 = .ok (.iload_n 3, 1) := by decide +kernel
theorem d_Ref_shrink_119 : decode prog_8_method_40_code 119 = .ok (.laload, 1) := by decide +kernel
theorem d_Ref_shrink_120 : decode prog_8_method_40_code 120 = .ok (.ladd, 1) := by decide +kernel
theorem d_Ref_shrink_121 : decode prog_8_method_40_code 121 = .ok (.lastore, 1) := by decide +kernel
theorem d_Ref_shrink_122 : decode prog_8_method_40_code 122 = .ok (.iinc 3 1, 3) := by decide +kernel
theorem d_Ref_shrink_125 : decode prog_8_method_40_code 125 = .ok (.goto (-41), 3) := by decide +kernel
theorem d_Ref_shrink_128 : decode prog_8_method_40_code 128 = .ok (.aload_n 0, 1) := by decide +kernel
theorem d_Ref_shrink_129 : decode prog_8_method_40_code 129 = .ok (.getfield 39, 3) := by decide +kernel
theorem d_Ref_shrink_132 : decode prog_8_method_40_code 132 = .ok (.iload_n 1, 1) := by decide +kernel
theorem d_Ref_shrink_133 : decode prog_8_method_40_code 133 = .ok (.iconst 2, 1) := by decide +kernel
theorem d_Ref_shrink_134 : decode prog_8_method_40_code 134 = .ok (.iastore, 1) := by decide +kernel
theorem d_Ref_shrink_135 : decode prog_8_method_40_code 135 = .ok (.aload_n 0, 1) := by decide +kernel
theorem d_Ref_shrink_136 : decode prog_8_method_40_code 136 = .ok (.iload_n 1, 1) := by decide +kernel
theorem d_Ref_shrink_137 : decode prog_8_method_40_code 137 = .ok (.iconst 0, 1) := by decide +kernel
theorem d_Ref_shrink_138 : decode prog_8_method_40_code 138 = .ok (.aload_n 0, 1) := by decide +kernel
theorem d_Ref_shrink_139 : decode prog_8_method_40_code 139 = .ok (.getfield 45, 3) := by decide +kernel
theorem d_Ref_shrink_142 : decode prog_8_method_40_code 142 = .ok (.invokevirtual 152, 3) := by decide +kernel
theorem d_Ref_shrink_145 : decode prog_8_method_40_code 145 = .ok (.aload_n 0, 1) := by decide +kernel
theorem d_Ref_shrink_146 : decode prog_8_method_40_code 146 = .ok (.iload_n 1, 1) := by decide +kernel
theorem d_Ref_shrink_147 : decode prog_8_method_40_code 147 = .ok (.iconst 1, 1) := by decide +kernel
theorem d_Ref_shrink_148 : decode prog_8_method_40_code 148 = .ok (.aload_n 0, 1) := by decide +kernel
theorem d_Ref_shrink_149 : decode prog_8_method_40_code 149 = .ok (.getfield 48, 3) := by decide +kernel
theorem d_Ref_shrink_152 : decode prog_8_method_40_code 152 = .ok (.invokevirtual 152, 3) := by decide +kernel
theorem d_Ref_shrink_155 : decode prog_8_method_40_code 155 = .ok (.aload_n 0, 1) := by decide +kernel
theorem d_Ref_shrink_156 : decode prog_8_method_40_code 156 = .ok (.iload_n 1, 1) := by decide +kernel
theorem d_Ref_shrink_157 : decode prog_8_method_40_code 157 = .ok (.invokevirtual 156, 3) := by decide +kernel
theorem d_Ref_shrink_160 : decode prog_8_method_40_code 160 = .ok (.ireturn, 1) := by decide +kernel
theorem d_Ref_turn_0 : decode prog_8_method_41_code 0 = .ok (.aload_n 0, 1) := by decide +kernel
theorem d_Ref_turn_1 : decode prog_8_method_41_code 1 = .ok (.iload_n 1, 1) := by decide +kernel
theorem d_Ref_turn_2 : decode prog_8_method_41_code 2 = .ok (.invokestatic 138, 3) := by decide +kernel
theorem d_Ref_turn_5 : decode prog_8_method_41_code 5 = .ok (.ifCond .ne 11, 3) := by decide +kernel
theorem d_Ref_turn_8 : decode prog_8_method_41_code 8 = .ok (.aload_n 0, 1) := by decide +kernel
theorem d_Ref_turn_9 : decode prog_8_method_41_code 9 = .ok (.iload_n 2, 1) := by decide +kernel
theorem d_Ref_turn_10 : decode prog_8_method_41_code 10 = .ok (.invokevirtual 180, 3) := by decide +kernel
theorem d_Ref_turn_13 : decode prog_8_method_41_code 13 = .ok (.ifCond .eq 7, 3) := by decide +kernel
theorem d_Ref_turn_16 : decode prog_8_method_41_code 16 = .ok (.iconst 1, 1) := by decide +kernel
theorem d_Ref_turn_17 : decode prog_8_method_41_code 17 = .ok (.goto 26, 3) := by decide +kernel
theorem d_Ref_turn_20 : decode prog_8_method_41_code 20 = .ok (.aload_n 0, 1) := by decide +kernel
theorem d_Ref_turn_21 : decode prog_8_method_41_code 21 = .ok (.iload_n 3, 1) := by decide +kernel
theorem d_Ref_turn_22 : decode prog_8_method_41_code 22 = .ok (.invokevirtual 131, 3) := by decide +kernel
theorem d_Ref_turn_25 : decode prog_8_method_41_code 25 = .ok (.ifCond .eq 13, 3) := by decide +kernel
theorem d_Ref_turn_28 : decode prog_8_method_41_code 28 = .ok (.aload_n 0, 1) := by decide +kernel
theorem d_Ref_turn_29 : decode prog_8_method_41_code 29 = .ok (.getfield 39, 3) := by decide +kernel
theorem d_Ref_turn_32 : decode prog_8_method_41_code 32 = .ok (.iload_n 2, 1) := by decide +kernel
theorem d_Ref_turn_33 : decode prog_8_method_41_code 33 = .ok (.iaload, 1) := by decide +kernel
theorem d_Ref_turn_34 : decode prog_8_method_41_code 34 = .ok (.iconst 3, 1) := by decide +kernel
theorem d_Ref_turn_35 : decode prog_8_method_41_code 35 = .ok (.if_icmp .ne 7, 3) := by decide +kernel
theorem d_Ref_turn_38 : decode prog_8_method_41_code 38 = .ok (.iconst 2, 1) := by decide +kernel
theorem d_Ref_turn_39 : decode prog_8_method_41_code 39 = .ok (.goto 4, 3) := by decide +kernel
theorem d_Ref_turn_42 : decode prog_8_method_41_code 42 = .ok (.iconst 0, 1) := by decide +kernel
theorem d_Ref_turn_43 : decode prog_8_method_41_code 43 = .ok (.putfield 69, 3) := by decide +kernel
theorem d_Ref_turn_46 : decode prog_8_method_41_code 46 = .ok (.aload_n 0, 1) := by decide +kernel
theorem d_Ref_turn_47 : decode prog_8_method_41_code 47 = .ok (.getfield 69, 3) := by decide +kernel
theorem d_Ref_turn_50 : decode prog_8_method_41_code 50 = .ok (.ifCond .le 5, 3) := by decide +kernel
theorem d_Ref_turn_53 : decode prog_8_method_41_code 53 = .ok (.iconst 0, 1) := by decide +kernel
theorem d_Ref_turn_54 : decode prog_8_method_41_code 54 = .ok (.ireturn, 1) := by decide +kernel
theorem d_Ref_turn_55 : decode prog_8_method_41_code 55 = .ok (.aload_n 0, 1) := by decide +kernel
theorem d_Ref_turn_56 : decode prog_8_method_41_code 56 = .ok (.iload_n 2, 1) := by decide +kernel
theorem d_Ref_turn_57 : decode prog_8_method_41_code 57 = .ok (.iconst 1, 1) := by decide +kernel
theorem d_Ref_turn_58 : decode prog_8_method_41_code 58 = .ok (.aload_n 0, 1) := by decide +kernel
theorem d_Ref_turn_59 : decode prog_8_method_41_code 59 = .ok (.getfield 48, 3) := by decide +kernel
theorem d_Ref_turn_62 : decode prog_8_method_41_code 62 = .ok (.invokevirtual 159, 3) := by decide +kernel
theorem d_Ref_turn_65 : decode prog_8_method_41_code 65 = .ok (.aload_n 0, 1) := by decide +kernel
theorem d_Ref_turn_66 : decode prog_8_method_41_code 66 = .ok (.aload_n 0, 1) := by decide +kernel
theorem d_Ref_turn_67 : decode prog_8_method_41_code 67 = .ok (.getfield 48, 3) := by decide +kernel
theorem d_Ref_turn_70 : decode prog_8_method_41_code 70 = .ok (.iload_n 3, 1) := by decide +kernel
theorem d_Ref_turn_71 : decode prog_8_method_41_code 71 = .ok (.aload_n 0, 1) := by decide +kernel
theorem d_Ref_turn_72 : decode prog_8_method_41_code 72 = .ok (.getfield 45, 3) := by decide +kernel
theorem d_Ref_turn_75 : decode prog_8_method_41_code 75 = .ok (.invokevirtual 134, 3) := by decide +kernel
theorem d_Ref_turn_78 : decode prog_8_method_41_code 78 = .ok (.aload_n 0, 1) := by decide +kernel
theorem d_Ref_turn_79 : decode prog_8_method_41_code 79 = .ok (.aload_n 0, 1) := by decide +kernel
theorem d_Ref_turn_80 : decode prog_8_method_41_code 80 = .ok (.getfield 45, 3) := by decide +kernel
theorem d_Ref_turn_83 : decode prog_8_method_41_code 83 = .ok (.invokevirtual 195, 3) := by decide +kernel
theorem d_Ref_turn_86 : decode prog_8_method_41_code 86 = .ok (.aload_n 0, 1) := by decide +kernel
theorem d_Ref_turn_87 : decode prog_8_method_41_code 87 = .ok (.aload_n 0, 1) := by decide +kernel
theorem d_Ref_turn_88 : decode prog_8_method_41_code 88 = .ok (.iload_n 3, 1) := by decide +kernel
theorem d_Ref_turn_89 : decode prog_8_method_41_code 89 = .ok (.invokevirtual 131, 3) := by decide +kernel
theorem d_Ref_turn_92 : decode prog_8_method_41_code 92 = .ok (.invokevirtual 192, 3) := by decide +kernel
theorem d_Ref_turn_95 : decode prog_8_method_41_code 95 = .ok (.aload_n 0, 1) := by decide +kernel
theorem d_Ref_turn_96 : decode prog_8_method_41_code 96 = .ok (.iload_n 2, 1) := by decide +kernel
theorem d_Ref_turn_97 : decode prog_8_method_41_code 97 = .ok (.iconst 0, 1) := by decide +kernel
theorem d_Ref_turn_98 : decode prog_8_method_41_code 98 = .ok (.aload_n 0, 1) := by decide +kernel
theorem d_Ref_turn_99 : decode prog_8_method_41_code 99 = .ok (.getfield 48, 3) := by decide +kernel
theorem d_Ref_turn_102 : decode prog_8_method_41_code 102 = .ok (.invokevirtual 159, 3) := by decide +kernel
theorem d_Ref_turn_105 : decode prog_8_method_41_code 105 = .ok (.aload_n 0, 1) := by decide +kernel
theorem d_Ref_turn_106 : decode prog_8_method_41_code 106 = .ok (.aload_n 0, 1) := by decide +kernel
theorem d_Ref_turn_107 : decode prog_8_method_41_code 107 = .ok (.getfield 48, 3) := by decide +kernel
theorem d_Ref_turn_110 : decode prog_8_method_41_code 110 = .ok (.iload_n 3, 1) := by decide +kernel
theorem d_Ref_turn_111 : decode prog_8_method_41_code 111 = .ok (.aload_n 0, 1) := by decide +kernel
theorem d_Ref_turn_112 : decode prog_8_method_41_code 112 = .ok (.getfield 45, 3) := by decide +kernel
theorem d_Ref_turn_115 : decode prog_8_method_41_code 115 = .ok (.invokevirtual 134, 3) := by decide +kernel
theorem d_Ref_turn_118 : decode prog_8_method_41_code 118 = .ok (.iconst 0, 1) := by decide +kernel
theorem d_Ref_turn_119 : decode prog_8_method_41_code 119 = .ok (.istore 4, 2) := by decide +kernel
theorem d_Ref_turn_121 : decode prog_8_method_41_code 121 = .ok (.iload 4, 2) := by decide +kernel
theorem d_Ref_turn_123 : decode prog_8_method_41_code 123 = .ok (.aload_n 0, 1) := by decide +kernel
theorem d_Ref_turn_124 : decode prog_8_method_41_code 124 = .ok (.getfield 7, 3) := by decide +kernel
theorem d_Ref_turn_127 : decode prog_8_method_41_code 127 = .ok (.if_icmp .ge 26, 3) := by decide +kernel
theorem d_Ref_turn_130 : decode prog_8_method_41_code 130 = .ok (.aload_n 0, 1) := by decide +kernel
theorem d_Ref_turn_131 : decode prog_8_method_41_code 131 = .ok (.getfield 45, 3) := by decide +kernel
theorem d_Ref_turn_134 : decode prog_8_method_41_code 134 = .ok (.iload 4, 2) := by decide +kernel
theorem d_Ref_turn_136 : decode prog_8_method_41_code 136 = .ok (.dup2, 1) := by decide +kernel
theorem d_Ref_turn_137 : decode prog_8_method_41_code 137 = .ok (.laload, 1) := by decide +kernel
theorem d_Ref_turn_138 : decode prog_8_method_41_code 138 = .ok (.aload_n 0, 1) := by decide +kernel
theorem d_Ref_turn_139 : decode prog_8_method_41_code 139 = .ok (.getfield 54, 3) := by decide +kernel
theorem d_Ref_turn_142 : decode prog_8_method_41_code 142 = .ok (.iload 4, 2) := by decide +kernel
theorem d_Ref_turn_144 : decode prog_8_method_41_code 144 = .ok (.laload, 1) := by decide +kernel
theorem d_Ref_turn_145 : decode prog_8_method_41_code 145 = .ok (.ladd, 1) := by decide +kernel
theorem d_Ref_turn_146 : decode prog_8_method_41_code 146 = .ok (.lastore, 1) := by decide +kernel
theorem d_Ref_turn_147 : decode prog_8_method_41_code 147 = .ok (.iinc 4 1, 3) := by decide +kernel
theorem d_Ref_turn_150 : decode prog_8_method_41_code 150 = .ok (.goto (-29), 3) := by decide +kernel
theorem d_Ref_turn_153 : decode prog_8_method_41_code 153 = .ok (.aload_n 0, 1) := by decide +kernel
theorem d_Ref_turn_154 : decode prog_8_method_41_code 154 = .ok (.getfield 39, 3) := by decide +kernel
theorem d_Ref_turn_157 : decode prog_8_method_41_code 157 = .ok (.iload_n 1, 1) := by decide +kernel
theorem d_Ref_turn_158 : decode prog_8_method_41_code 158 = .ok (.iconst 2, 1) := by decide +kernel
theorem d_Ref_turn_159 : decode prog_8_method_41_code 159 = .ok (.iastore, 1) := by decide +kernel
theorem d_Ref_turn_160 : decode prog_8_method_41_code 160 = .ok (.aload_n 0, 1) := by decide +kernel
theorem d_Ref_turn_161 : decode prog_8_method_41_code 161 = .ok (.iload_n 1, 1) := by decide +kernel
theorem d_Ref_turn_162 : decode prog_8_method_41_code 162 = .ok (.iconst 0, 1) := by decide +kernel
theorem d_Ref_turn_163 : decode prog_8_method_41_code 163 = .ok (.aload_n 0, 1) := by decide +kernel
theorem d_Ref_turn_164 : decode prog_8_method_41_code 164 = .ok (.getfield 45, 3) := by decide +kernel
theorem d_Ref_turn_167 : decode prog_8_method_41_code 167 = .ok (.invokevirtual 152, 3) := by decide +kernel
theorem d_Ref_turn_170 : decode prog_8_method_41_code 170 = .ok (.aload_n 0, 1) := by decide +kernel
theorem d_Ref_turn_171 : decode prog_8_method_41_code 171 = .ok (.iload_n 1, 1) := by decide +kernel
theorem d_Ref_turn_172 : decode prog_8_method_41_code 172 = .ok (.iconst 1, 1) := by decide +kernel
theorem d_Ref_turn_173 : decode prog_8_method_41_code 173 = .ok (.aload_n 0, 1) := by decide +kernel
theorem d_Ref_turn_174 : decode prog_8_method_41_code 174 = .ok (.getfield 57, 3) := by decide +kernel
theorem d_Ref_turn_177 : decode prog_8_method_41_code 177 = .ok (.invokevirtual 152, 3) := by decide +kernel
theorem d_Ref_turn_180 : decode prog_8_method_41_code 180 = .ok (.aload_n 0, 1) := by decide +kernel
theorem d_Ref_turn_181 : decode prog_8_method_41_code 181 = .ok (.iload_n 1, 1) := by decide +kernel
theorem d_Ref_turn_182 : decode prog_8_method_41_code 182 = .ok (.invokevirtual 156, 3) := by decide +kernel
theorem d_Ref_turn_185 : decode prog_8_method_41_code 185 = .ok (.ireturn, 1) := by decide +kernel
theorem d_Ref_part_0 : decode prog_8_method_42_code 0 = .ok (.aload_n 0, 1) := by decide +kernel
theorem d_Ref_part_1 : decode prog_8_method_42_code 1 = .ok (.aload_n 0, 1) := by decide +kernel
theorem d_Ref_part_2 : decode prog_8_method_42_code 2 = .ok (.iload_n 1, 1) := by decide +kernel
theorem d_Ref_part_3 : decode prog_8_method_42_code 3 = .ok (.invokevirtual 180, 3) := by decide +kernel
theorem d_Ref_part_6 : decode prog_8_method_42_code 6 = .ok (.ifCond .ne 29, 3) := by decide +kernel
theorem d_Ref_part_9 : decode prog_8_method_42_code 9 = .ok (.iload_n 2, 1) := by decide +kernel
theorem d_Ref_part_10 : decode prog_8_method_42_code 10 = .ok (.ifCond .lt 25, 3) := by decide +kernel
theorem d_Ref_part_13 : decode prog_8_method_42_code 13 = .ok (.iload_n 2, 1) := by decide +kernel
theorem d_Ref_part_14 : decode prog_8_method_42_code 14 = .ok (.aload_n 0, 1) := by decide +kernel
theorem d_Ref_part_15 : decode prog_8_method_42_code 15 = .ok (.getfield 39, 3) := by decide +kernel
theorem d_Ref_part_18 : decode prog_8_method_42_code 18 = .ok (.iload_n 1, 1) := by decide +kernel
theorem d_Ref_part_19 : decode prog_8_method_42_code 19 = .ok (.iaload, 1) := by decide +kernel
theorem d_Ref_part_20 : decode prog_8_method_42_code 20 = .ok (.if_icmp .ge 15, 3) := by decide +kernel
theorem d_Ref_part_23 : decode prog_8_method_42_code 23 = .ok (.iload_n 3, 1) := by decide +kernel
theorem d_Ref_part_24 : decode prog_8_method_42_code 24 = .ok (.ifCond .lt 11, 3) := by decide +kernel
theorem d_Ref_part_27 : decode prog_8_method_42_code 27 = .ok (.iload_n 3, 1) := by decide +kernel
theorem d_Ref_part_28 : decode prog_8_method_42_code 28 = .ok (.aload_n 0, 1) := by decide +kernel
theorem d_Ref_part_29 : decode prog_8_method_42_code 29 = .ok (.getfield 7, 3) := by decide +kernel
theorem d_Ref_part_32 : decode prog_8_method_42_code 32 = .ok (.if_icmp .lt 7, 3) := by decide +kernel
theorem d_Ref_part_35 : decode prog_8_method_42_code 35 = .ok (.iconst 1, 1) := by decide +kernel
theorem d_Ref_part_36 : decode prog_8_method_42_code 36 = .ok (.goto 4, 3) := by decide +kernel
theorem d_Ref_part_39 : decode prog_8_method_42_code 39 = .ok (.iconst 0, 1) := by decide +kernel
theorem d_Ref_part_40 : decode prog_8_method_42_code 40 = .ok (.putfield 69, 3) := by decide +kernel
theorem d_Ref_part_43 : decode prog_8_method_42_code 43 = .ok (.aload_n 0, 1) := by decide +kernel
theorem d_Ref_part_44 : decode prog_8_method_42_code 44 = .ok (.getfield 69, 3) := by decide +kernel
theorem d_Ref_part_47 : decode prog_8_method_42_code 47 = .ok (.ifCond .le 7, 3) := by decide +kernel
theorem d_Ref_part_50 : decode prog_8_method_42_code 50 = .ok (.iconst 0, 1) := by decide +kernel
theorem d_Ref_part_51 : decode prog_8_method_42_code 51 = .ok (.goto 19, 3) := by decide +kernel
theorem d_Ref_part_54 : decode prog_8_method_42_code 54 = .ok (.aload_n 0, 1) := by decide +kernel
theorem d_Ref_part_55 : decode prog_8_method_42_code 55 = .ok (.getfield 42, 3) := by decide +kernel
theorem d_Ref_part_58 : decode prog_8_method_42_code 58 = .ok (.iconst 3, 1) := by decide +kernel
theorem d_Ref_part_59 : decode prog_8_method_42_code 59 = .ok (.iload_n 1, 1) := by decide +kernel
theorem d_Ref_part_60 : decode prog_8_method_42_code 60 = .ok (.imul, 1) := by decide +kernel
theorem d_Ref_part_61 : decode prog_8_method_42_code 61 = .ok (.iload_n 2, 1) := by decide +kernel
theorem d_Ref_part_62 : decode prog_8_method_42_code 62 = .ok (.iadd, 1) := by decide +kernel
theorem d_Ref_part_63 : decode prog_8_method_42_code 63 = .ok (.bipush 32, 2) := by decide +kernel
theorem d_Ref_part_65 : decode prog_8_method_42_code 65 = .ok (.imul, 1) := by decide +kernel
theorem d_Ref_part_66 : decode prog_8_method_42_code 66 = .ok (.iload_n 3, 1) := by decide +kernel
theorem d_Ref_part_67 : decode prog_8_method_42_code 67 = .ok (.iadd, 1) := by decide +kernel
theorem d_Ref_part_68 : decode prog_8_method_42_code 68 = .ok (.laload, 1) := by decide +kernel
theorem d_Ref_part_69 : decode prog_8_method_42_code 69 = .ok (.l2i, 1) := by decide +kernel
theorem d_Ref_part_70 : decode prog_8_method_42_code 70 = .ok (.ireturn, 1) := by decide +kernel
theorem d_Ref_about_0 : decode prog_8_method_43_code 0 = .ok (.aload_n 0, 1) := by decide +kernel
theorem d_Ref_about_1 : decode prog_8_method_43_code 1 = .ok (.aload_n 0, 1) := by decide +kernel
theorem d_Ref_about_2 : decode prog_8_method_43_code 2 = .ok (.iload_n 1, 1) := by decide +kernel
theorem d_Ref_about_3 : decode prog_8_method_43_code 3 = .ok (.invokevirtual 180, 3) := by decide +kernel
theorem d_Ref_about_6 : decode prog_8_method_43_code 6 = .ok (.ifCond .eq 7, 3) := by decide +kernel
theorem d_Ref_about_9 : decode prog_8_method_43_code 9 = .ok (.iconst 1, 1) := by decide +kernel
theorem d_Ref_about_10 : decode prog_8_method_43_code 10 = .ok (.goto 17, 3) := by decide +kernel
theorem d_Ref_about_13 : decode prog_8_method_43_code 13 = .ok (.iload_n 2, 1) := by decide +kernel
theorem d_Ref_about_14 : decode prog_8_method_43_code 14 = .ok (.ifCond .lt 8, 3) := by decide +kernel
theorem d_Ref_about_17 : decode prog_8_method_43_code 17 = .ok (.iload_n 2, 1) := by decide +kernel
theorem d_Ref_about_18 : decode prog_8_method_43_code 18 = .ok (.iconst 2, 1) := by decide +kernel
theorem d_Ref_about_19 : decode prog_8_method_43_code 19 = .ok (.if_icmp .le 7, 3) := by decide +kernel
theorem d_Ref_about_22 : decode prog_8_method_43_code 22 = .ok (.iconst 2, 1) := by decide +kernel
theorem d_Ref_about_23 : decode prog_8_method_43_code 23 = .ok (.goto 4, 3) := by decide +kernel
theorem d_Ref_about_26 : decode prog_8_method_43_code 26 = .ok (.iconst 0, 1) := by decide +kernel
theorem d_Ref_about_27 : decode prog_8_method_43_code 27 = .ok (.putfield 69, 3) := by decide +kernel
theorem d_Ref_about_30 : decode prog_8_method_43_code 30 = .ok (.aload_n 0, 1) := by decide +kernel
theorem d_Ref_about_31 : decode prog_8_method_43_code 31 = .ok (.getfield 69, 3) := by decide +kernel
theorem d_Ref_about_34 : decode prog_8_method_43_code 34 = .ok (.ifCond .le 5, 3) := by decide +kernel
theorem d_Ref_about_37 : decode prog_8_method_43_code 37 = .ok (.iconst 0, 1) := by decide +kernel
theorem d_Ref_about_38 : decode prog_8_method_43_code 38 = .ok (.ireturn, 1) := by decide +kernel
theorem d_Ref_about_39 : decode prog_8_method_43_code 39 = .ok (.iload_n 2, 1) := by decide +kernel
theorem d_Ref_about_40 : decode prog_8_method_43_code 40 = .ok (.ifCond .ne 12, 3) := by decide +kernel
theorem d_Ref_about_43 : decode prog_8_method_43_code 43 = .ok (.aload_n 0, 1) := by decide +kernel
theorem d_Ref_about_44 : decode prog_8_method_43_code 44 = .ok (.getfield 39, 3) := by decide +kernel
theorem d_Ref_about_47 : decode prog_8_method_43_code 47 = .ok (.iload_n 1, 1) := by decide +kernel
theorem d_Ref_about_48 : decode prog_8_method_43_code 48 = .ok (.iaload, 1) := by decide +kernel
theorem d_Ref_about_49 : decode prog_8_method_43_code 49 = .ok (.goto 22, 3) := by decide +kernel
theorem d_Ref_about_52 : decode prog_8_method_43_code 52 = .ok (.iload_n 2, 1) := by decide +kernel
theorem d_Ref_about_53 : decode prog_8_method_43_code 53 = .ok (.iconst 1, 1) := by decide +kernel
theorem d_Ref_about_54 : decode prog_8_method_43_code 54 = .ok (.if_icmp .ne 11, 3) := by decide +kernel
theorem d_Ref_about_57 : decode prog_8_method_43_code 57 = .ok (.aload_n 0, 1) := by decide +kernel
theorem d_Ref_about_58 : decode prog_8_method_43_code 58 = .ok (.iload_n 1, 1) := by decide +kernel
theorem d_Ref_about_59 : decode prog_8_method_43_code 59 = .ok (.invokevirtual 156, 3) := by decide +kernel
theorem d_Ref_about_62 : decode prog_8_method_43_code 62 = .ok (.goto 9, 3) := by decide +kernel
theorem d_Ref_about_65 : decode prog_8_method_43_code 65 = .ok (.aload_n 0, 1) := by decide +kernel
theorem d_Ref_about_66 : decode prog_8_method_43_code 66 = .ok (.iload_n 1, 1) := by decide +kernel
theorem d_Ref_about_67 : decode prog_8_method_43_code 67 = .ok (.invokevirtual 174, 3) := by decide +kernel
theorem d_Ref_about_70 : decode prog_8_method_43_code 70 = .ok (.l2i, 1) := by decide +kernel
theorem d_Ref_about_71 : decode prog_8_method_43_code 71 = .ok (.ireturn, 1) := by decide +kernel
theorem d_Ref_drop_0 : decode prog_8_method_44_code 0 = .ok (.aload_n 0, 1) := by decide +kernel
theorem d_Ref_drop_1 : decode prog_8_method_44_code 1 = .ok (.iload_n 1, 1) := by decide +kernel
theorem d_Ref_drop_2 : decode prog_8_method_44_code 2 = .ok (.invokestatic 138, 3) := by decide +kernel
theorem d_Ref_drop_5 : decode prog_8_method_44_code 5 = .ok (.ifCond .eq 7, 3) := by decide +kernel
theorem d_Ref_drop_8 : decode prog_8_method_44_code 8 = .ok (.iconst 1, 1) := by decide +kernel
theorem d_Ref_drop_9 : decode prog_8_method_44_code 9 = .ok (.goto 4, 3) := by decide +kernel
theorem d_Ref_drop_12 : decode prog_8_method_44_code 12 = .ok (.iconst 0, 1) := by decide +kernel
theorem d_Ref_drop_13 : decode prog_8_method_44_code 13 = .ok (.putfield 69, 3) := by decide +kernel
theorem d_Ref_drop_16 : decode prog_8_method_44_code 16 = .ok (.aload_n 0, 1) := by decide +kernel
theorem d_Ref_drop_17 : decode prog_8_method_44_code 17 = .ok (.getfield 69, 3) := by decide +kernel
theorem d_Ref_drop_20 : decode prog_8_method_44_code 20 = .ok (.ifCond .le 5, 3) := by decide +kernel
theorem d_Ref_drop_23 : decode prog_8_method_44_code 23 = .ok (.iconst 0, 1) := by decide +kernel
theorem d_Ref_drop_24 : decode prog_8_method_44_code 24 = .ok (.ireturn, 1) := by decide +kernel
theorem d_Ref_drop_25 : decode prog_8_method_44_code 25 = .ok (.aload_n 0, 1) := by decide +kernel
theorem d_Ref_drop_26 : decode prog_8_method_44_code 26 = .ok (.getfield 39, 3) := by decide +kernel
theorem d_Ref_drop_29 : decode prog_8_method_44_code 29 = .ok (.iload_n 1, 1) := by decide +kernel
theorem d_Ref_drop_30 : decode prog_8_method_44_code 30 = .ok (.iaload, 1) := by decide +kernel
theorem d_Ref_drop_31 : decode prog_8_method_44_code 31 = .ok (.istore_n 2, 1) := by decide +kernel
theorem d_Ref_drop_32 : decode prog_8_method_44_code 32 = .ok (.aload_n 0, 1) := by decide +kernel
theorem d_Ref_drop_33 : decode prog_8_method_44_code 33 = .ok (.getfield 39, 3) := by decide +kernel
theorem d_Ref_drop_36 : decode prog_8_method_44_code 36 = .ok (.iload_n 1, 1) := by decide +kernel
theorem d_Ref_drop_37 : decode prog_8_method_44_code 37 = .ok (.iconst 0, 1) := by decide +kernel
theorem d_Ref_drop_38 : decode prog_8_method_44_code 38 = .ok (.iastore, 1) := by decide +kernel
theorem d_Ref_drop_39 : decode prog_8_method_44_code 39 = .ok (.iload_n 2, 1) := by decide +kernel
theorem d_Ref_drop_40 : decode prog_8_method_44_code 40 = .ok (.ireturn, 1) := by decide +kernel
theorem d_Ref_count_0 : decode prog_8_method_45_code 0 = .ok (.aload_n 0, 1) := by decide +kernel
theorem d_Ref_count_1 : decode prog_8_method_45_code 1 = .ok (.iconst 0, 1) := by decide +kernel
theorem d_Ref_count_2 : decode prog_8_method_45_code 2 = .ok (.putfield 69, 3) := by decide +kernel
theorem d_Ref_count_5 : decode prog_8_method_45_code 5 = .ok (.iload_n 1, 1) := by decide +kernel
theorem d_Ref_count_6 : decode prog_8_method_45_code 6 = .ok (.tableswitch 122 0 7 #[46, 51, 56, 61, 66, 79, 84, 114], 46) := by decide +kernel
theorem d_Ref_count_52 : decode prog_8_method_45_code 52 = .ok (.aload_n 0, 1) := by decide +kernel
theorem d_Ref_count_53 : decode prog_8_method_45_code 53 = .ok (.getfield 104, 3) := by decide +kernel
theorem d_Ref_count_56 : decode prog_8_method_45_code 56 = .ok (.ireturn, 1) := by decide +kernel
theorem d_Ref_count_57 : decode prog_8_method_45_code 57 = .ok (.aload_n 0, 1) := by decide +kernel
theorem d_Ref_count_58 : decode prog_8_method_45_code 58 = .ok (.getfield 7, 3) := by decide +kernel
theorem d_Ref_count_61 : decode prog_8_method_45_code 61 = .ok (.ireturn, 1) := by decide +kernel
theorem d_Ref_count_62 : decode prog_8_method_45_code 62 = .ok (.aload_n 0, 1) := by decide +kernel
theorem d_Ref_count_63 : decode prog_8_method_45_code 63 = .ok (.getfield 13, 3) := by decide +kernel
theorem d_Ref_count_66 : decode prog_8_method_45_code 66 = .ok (.ireturn, 1) := by decide +kernel
theorem d_Ref_count_67 : decode prog_8_method_45_code 67 = .ok (.aload_n 0, 1) := by decide +kernel
theorem d_Ref_count_68 : decode prog_8_method_45_code 68 = .ok (.invokevirtual 149, 3) := by decide +kernel
theorem d_Ref_count_71 : decode prog_8_method_45_code 71 = .ok (.ireturn, 1) := by decide +kernel
theorem d_Ref_count_72 : decode prog_8_method_45_code 72 = .ok (.aload_n 0, 1) := by decide +kernel
theorem d_Ref_count_73 : decode prog_8_method_45_code 73 = .ok (.getfield 107, 3) := by decide +kernel
theorem d_Ref_count_76 : decode prog_8_method_45_code 76 = .ok (.ifCond .eq 7, 3) := by decide +kernel
theorem d_Ref_count_79 : decode prog_8_method_45_code 79 = .ok (.iconst 1, 1) := by decide +kernel
theorem d_Ref_count_80 : decode prog_8_method_45_code 80 = .ok (.goto 4, 3) := by decide +kernel
theorem d_Ref_count_83 : decode prog_8_method_45_code 83 = .ok (.iconst 0, 1) := by decide +kernel
theorem d_Ref_count_84 : decode prog_8_method_45_code 84 = .ok (.ireturn, 1) := by decide +kernel
theorem d_Ref_count_85 : decode prog_8_method_45_code 85 = .ok (.aload_n 0, 1) := by decide +kernel
theorem d_Ref_count_86 : decode prog_8_method_45_code 86 = .ok (.getfield 111, 3) := by decide +kernel
theorem d_Ref_count_89 : decode prog_8_method_45_code 89 = .ok (.ireturn, 1) := by decide +kernel
theorem d_Ref_count_90 : decode prog_8_method_45_code 90 = .ok (.iconst 0, 1) := by decide +kernel
theorem d_Ref_count_91 : decode prog_8_method_45_code 91 = .ok (.istore_n 2, 1) := by decide +kernel
theorem d_Ref_count_92 : decode prog_8_method_45_code 92 = .ok (.iconst 0, 1) := by decide +kernel
theorem d_Ref_count_93 : decode prog_8_method_45_code 93 = .ok (.istore_n 3, 1) := by decide +kernel
theorem d_Ref_count_94 : decode prog_8_method_45_code 94 = .ok (.iload_n 3, 1) := by decide +kernel
theorem d_Ref_count_95 : decode prog_8_method_45_code 95 = .ok (.bipush 16, 2) := by decide +kernel
theorem d_Ref_count_97 : decode prog_8_method_45_code 97 = .ok (.if_icmp .ge 21, 3) := by decide +kernel
theorem d_Ref_count_100 : decode prog_8_method_45_code 100 = .ok (.aload_n 0, 1) := by decide +kernel
theorem d_Ref_count_101 : decode prog_8_method_45_code 101 = .ok (.getfield 39, 3) := by decide +kernel
theorem d_Ref_count_104 : decode prog_8_method_45_code 104 = .ok (.iload_n 3, 1) := by decide +kernel
theorem d_Ref_count_105 : decode prog_8_method_45_code 105 = .ok (.iaload, 1) := by decide +kernel
theorem d_Ref_count_106 : decode prog_8_method_45_code 106 = .ok (.ifCond .le 6, 3) := by decide +kernel
theorem d_Ref_count_109 : decode prog_8_method_45_code 109 = .ok (.iinc 2 1, 3) := by decide +kernel
theorem d_Ref_count_112 : decode prog_8_method_45_code 112 = .ok (.iinc 3 1, 3) := by decide +kernel
theorem d_Ref_count_115 : decode prog_8_method_45_code 115 = .ok (.goto (-21), 3) := by decide +kernel
theorem d_Ref_count_118 : decode prog_8_method_45_code 118 = .ok (.iload_n 2, 1) := by decide +kernel
theorem d_Ref_count_119 : decode prog_8_method_45_code 119 = .ok (.ireturn, 1) := by decide +kernel
theorem d_Ref_count_120 : decode prog_8_method_45_code 120 = .ok (.aload_n 0, 1) := by decide +kernel
theorem d_Ref_count_121 : decode prog_8_method_45_code 121 = .ok (.getfield 81, 3) := by decide +kernel
theorem d_Ref_count_124 : decode prog_8_method_45_code 124 = .ok (.bipush 16, 2) := by decide +kernel
theorem d_Ref_count_126 : decode prog_8_method_45_code 126 = .ok (.iushr, 1) := by decide +kernel
theorem d_Ref_count_127 : decode prog_8_method_45_code 127 = .ok (.ireturn, 1) := by decide +kernel
theorem d_Ref_count_128 : decode prog_8_method_45_code 128 = .ok (.iconst (-1), 1) := by decide +kernel
theorem d_Ref_count_129 : decode prog_8_method_45_code 129 = .ok (.ireturn, 1) := by decide +kernel
end
section
/-! pure words for the JDK's members -/
theorem zfm {a b : Int} (hb : 0 < b) : a % b = a.tmod b + if 0 ≤ a ∨ a.tmod b = 0 then 0 else b := by
  rw [Int.emod_eq_tmod]
  by_cases h0 : 0 ≤ a
  · rw [if_pos (Or.inl h0), if_pos (Or.inl h0)]
    rfl
  · by_cases h1 : a.tmod b = 0
    · rw [if_pos (Or.inr (Int.dvd_of_tmod_eq_zero h1)), if_pos (Or.inr h1)]
      rfl
    · rw [if_neg (fun q => q.elim h0 (fun q => h1 (Int.tmod_eq_zero_of_dvd q))), if_neg (fun q => q.elim h0 h1)]
      omega
theorem zfd {a b : Int} (hb : 0 < b) : a / b = a.tdiv b - if 0 ≤ a ∨ a.tmod b = 0 then 0 else 1 := by
  rw [Int.ediv_eq_tdiv]
  by_cases h0 : 0 ≤ a
  · rw [if_pos (Or.inl h0), if_pos (Or.inl h0)]
  · by_cases h1 : a.tmod b = 0
    · rw [if_pos (Or.inr (Int.dvd_of_tmod_eq_zero h1)), if_pos (Or.inr h1)]
    · rw [if_neg (fun q => q.elim h0 (fun q => h1 (Int.tmod_eq_zero_of_dvd q))), if_neg (fun q => q.elim h0 h1), Int.sign_eq_one_of_pos hb]
theorem ztq {a b : Int} : a.tdiv b * b = a ↔ a.tmod b = 0 := by
  have h := Int.tmod_add_mul_tdiv a b
  rw [Int.mul_comm b] at h
  omega
theorem zneg64 (x : Int64) : x.toInt < 0 ↔ x.toBitVec.msb = true := by
  rw [BitVec.msb_eq_toInt, decide_eq_true_iff]
  rfl
theorem zneg32 (x : Int32) : x.toInt < 0 ↔ x.toBitVec.msb = true := by
  rw [BitVec.msb_eq_toInt, decide_eq_true_iff]
  rfl
theorem zxor64 {a b : Int} (ha : -9223372036854775808 ≤ a ∧ a < 9223372036854775808) (hb : 0 < b ∧ b < 9223372036854775808) : ∃ x : Int, Int64.ofInt a ^^^ Int64.ofInt b = Int64.ofInt x ∧ (-9223372036854775808 ≤ x ∧ x < 9223372036854775808) ∧ (x < 0 ↔ a < 0) := by
  refine ⟨(Int64.ofInt a ^^^ Int64.ofInt b).toInt, (Int64.ofInt_toInt _).symm, ⟨by have := Int64.le_toInt (Int64.ofInt a ^^^ Int64.ofInt b); omega, by have := Int64.toInt_lt (Int64.ofInt a ^^^ Int64.ofInt b); omega⟩, ?_⟩
  have h1 : ¬ (Int64.ofInt b).toInt < 0 := by rw [z64 (by omega)]; omega
  have h2 : (Int64.ofInt a).toInt < 0 ↔ a < 0 := by rw [z64 ha]
  rw [← h2]
  rw [zneg64] at h1 ⊢
  rw [zneg64, Int64.toBitVec_xor, BitVec.msb_xor]
  cases h3 : (Int64.ofInt b).toBitVec.msb
  · simp
  · exact absurd h3 h1
theorem zxor32 {a b : Int} (ha : -2147483648 ≤ a ∧ a < 2147483648) (hb : 0 < b ∧ b < 2147483648) : ∃ x : Int, Int32.ofInt a ^^^ Int32.ofInt b = Int32.ofInt x ∧ (-2147483648 ≤ x ∧ x < 2147483648) ∧ (x < 0 ↔ a < 0) := by
  refine ⟨(Int32.ofInt a ^^^ Int32.ofInt b).toInt, (Int32.ofInt_toInt _).symm, ⟨by have := Int32.le_toInt (Int32.ofInt a ^^^ Int32.ofInt b); omega, by have := Int32.toInt_lt (Int32.ofInt a ^^^ Int32.ofInt b); omega⟩, ?_⟩
  have h1 : ¬ (Int32.ofInt b).toInt < 0 := by rw [z32 (by omega)]; omega
  have h2 : (Int32.ofInt a).toInt < 0 ↔ a < 0 := by rw [z32 ha]
  rw [← h2]
  rw [zneg32] at h1 ⊢
  rw [zneg32, Int32.toBitVec_xor, BitVec.msb_xor]
  cases h3 : (Int32.ofInt b).toBitVec.msb
  · simp
  · exact absurd h3 h1
theorem ztm_np {a : Int} (b : Int) (h : a ≤ 0) : a.tmod b ≤ 0 := by
  have := Int.tmod_nonneg b (show 0 ≤ -a by omega)
  rw [Int.neg_tmod] at this
  omega
theorem ztd_b {a b : Int} (hb : 0 < b) (h : -9223372036854775808 ≤ a ∧ a < 9223372036854775808) : -9223372036854775808 ≤ a.tdiv b ∧ a.tdiv b < 9223372036854775808 := by
  have h1 := Int.tmod_add_mul_tdiv a b
  have h2 := ztmod_b (a := a) hb
  rcases Int.le_total 0 a with h0 | h0
  · have h3 := Int.tdiv_nonneg h0 (Int.le_of_lt hb)
    have h4 : a.tdiv b ≤ b * a.tdiv b := by
      have := Int.mul_le_mul_of_nonneg_right (show (1 : Int) ≤ b by omega) h3
      omega
    have h5 := Int.tmod_nonneg b h0
    omega
  · have h3 : a.tdiv b ≤ 0 := by
      have := Int.tdiv_nonneg (show 0 ≤ -a by omega) (Int.le_of_lt hb)
      rw [Int.neg_tdiv] at this
      omega
    have h4 : b * a.tdiv b ≤ a.tdiv b := by
      have := Int.mul_le_mul_of_nonneg_right (show (1 : Int) ≤ b by omega) (show 0 ≤ -(a.tdiv b) by omega)
      rw [Int.mul_neg, Int.mul_neg] at this
      omega
    have h5 : a.tmod b ≤ 0 := by
      have := Int.tmod_nonneg b (show 0 ≤ -a by omega)
      rw [Int.neg_tmod] at this
      omega
    omega
section ZJL
variable {G : zG} {M : zM} {K : zK} {R : Room} {kc ks sz pc : Nat} {lo : List (Nat × Value)} {st : List Value} {w : zW}
theorem zcm_r (a b : Int) : -2147483648 ≤ zcm a b ∧ zcm a b < 2147483648 := by
  unfold zcm
  split
  · decide
  · split <;> decide
theorem JL_eq {a b off : Int} (tgt : Nat) (d1 : decode M.2.1 pc = .ok (.lcmp, 1)) (d2 : decode M.2.1 (pc + 1) = .ok (.ifCond .eq off, 3)) (ht : ((pc + 1 : Nat) : Int) + off = (tgt : Int)) (ha : -9223372036854775808 ≤ a ∧ a < 9223372036854775808) (hb : -9223372036854775808 ≤ b ∧ b < 9223372036854775808) (kt : a = b → V G M K R kc ks sz tgt lo st w) (kf : ¬ a = b → V G M K R kc ks sz (pc + 4) lo st w) : V G M K R kc ks sz pc lo (.long (Int64.ofInt b) :: .long (Int64.ofInt a) :: st) w := by
  refine J_lcmp d1 ha hb (J_if_eq tgt d2 ht (zcm_r a b) (fun q => kt ?_) (fun q => kf ?_))
  · unfold zcm at q
    split at q <;> (try split at q) <;> omega
  · unfold zcm at q
    split at q <;> (try split at q) <;> omega
theorem JL_ne {a b off : Int} (tgt : Nat) (d1 : decode M.2.1 pc = .ok (.lcmp, 1)) (d2 : decode M.2.1 (pc + 1) = .ok (.ifCond .ne off, 3)) (ht : ((pc + 1 : Nat) : Int) + off = (tgt : Int)) (ha : -9223372036854775808 ≤ a ∧ a < 9223372036854775808) (hb : -9223372036854775808 ≤ b ∧ b < 9223372036854775808) (kt : ¬ a = b → V G M K R kc ks sz tgt lo st w) (kf : a = b → V G M K R kc ks sz (pc + 4) lo st w) : V G M K R kc ks sz pc lo (.long (Int64.ofInt b) :: .long (Int64.ofInt a) :: st) w := by
  refine J_lcmp d1 ha hb (J_if_ne tgt d2 ht (zcm_r a b) (fun q => kt ?_) (fun q => kf ?_))
  · unfold zcm at q
    split at q <;> (try split at q) <;> omega
  · unfold zcm at q
    split at q <;> (try split at q) <;> omega
theorem JL_lt {a b off : Int} (tgt : Nat) (d1 : decode M.2.1 pc = .ok (.lcmp, 1)) (d2 : decode M.2.1 (pc + 1) = .ok (.ifCond .lt off, 3)) (ht : ((pc + 1 : Nat) : Int) + off = (tgt : Int)) (ha : -9223372036854775808 ≤ a ∧ a < 9223372036854775808) (hb : -9223372036854775808 ≤ b ∧ b < 9223372036854775808) (kt : a < b → V G M K R kc ks sz tgt lo st w) (kf : b ≤ a → V G M K R kc ks sz (pc + 4) lo st w) : V G M K R kc ks sz pc lo (.long (Int64.ofInt b) :: .long (Int64.ofInt a) :: st) w := by
  refine J_lcmp d1 ha hb (J_if_lt tgt d2 ht (zcm_r a b) (fun q => kt ?_) (fun q => kf ?_))
  · unfold zcm at q
    split at q <;> (try split at q) <;> omega
  · unfold zcm at q
    split at q <;> (try split at q) <;> omega
theorem JL_ge {a b off : Int} (tgt : Nat) (d1 : decode M.2.1 pc = .ok (.lcmp, 1)) (d2 : decode M.2.1 (pc + 1) = .ok (.ifCond .ge off, 3)) (ht : ((pc + 1 : Nat) : Int) + off = (tgt : Int)) (ha : -9223372036854775808 ≤ a ∧ a < 9223372036854775808) (hb : -9223372036854775808 ≤ b ∧ b < 9223372036854775808) (kt : b ≤ a → V G M K R kc ks sz tgt lo st w) (kf : a < b → V G M K R kc ks sz (pc + 4) lo st w) : V G M K R kc ks sz pc lo (.long (Int64.ofInt b) :: .long (Int64.ofInt a) :: st) w := by
  refine J_lcmp d1 ha hb (J_if_ge tgt d2 ht (zcm_r a b) (fun q => kt ?_) (fun q => kf ?_))
  · unfold zcm at q
    split at q <;> (try split at q) <;> omega
  · unfold zcm at q
    split at q <;> (try split at q) <;> omega
theorem JL_gt {a b off : Int} (tgt : Nat) (d1 : decode M.2.1 pc = .ok (.lcmp, 1)) (d2 : decode M.2.1 (pc + 1) = .ok (.ifCond .gt off, 3)) (ht : ((pc + 1 : Nat) : Int) + off = (tgt : Int)) (ha : -9223372036854775808 ≤ a ∧ a < 9223372036854775808) (hb : -9223372036854775808 ≤ b ∧ b < 9223372036854775808) (kt : b < a → V G M K R kc ks sz tgt lo st w) (kf : a ≤ b → V G M K R kc ks sz (pc + 4) lo st w) : V G M K R kc ks sz pc lo (.long (Int64.ofInt b) :: .long (Int64.ofInt a) :: st) w := by
  refine J_lcmp d1 ha hb (J_if_gt tgt d2 ht (zcm_r a b) (fun q => kt ?_) (fun q => kf ?_))
  · unfold zcm at q
    split at q <;> (try split at q) <;> omega
  · unfold zcm at q
    split at q <;> (try split at q) <;> omega
theorem JL_le {a b off : Int} (tgt : Nat) (d1 : decode M.2.1 pc = .ok (.lcmp, 1)) (d2 : decode M.2.1 (pc + 1) = .ok (.ifCond .le off, 3)) (ht : ((pc + 1 : Nat) : Int) + off = (tgt : Int)) (ha : -9223372036854775808 ≤ a ∧ a < 9223372036854775808) (hb : -9223372036854775808 ≤ b ∧ b < 9223372036854775808) (kt : a ≤ b → V G M K R kc ks sz tgt lo st w) (kf : b < a → V G M K R kc ks sz (pc + 4) lo st w) : V G M K R kc ks sz pc lo (.long (Int64.ofInt b) :: .long (Int64.ofInt a) :: st) w := by
  refine J_lcmp d1 ha hb (J_if_le tgt d2 ht (zcm_r a b) (fun q => kt ?_) (fun q => kf ?_))
  · unfold zcm at q
    split at q <;> (try split at q) <;> omega
  · unfold zcm at q
    split at q <;> (try split at q) <;> omega
theorem V_ldc_w {idx : Nat} {v : Int32} (d : decode M.2.1 pc = .ok (.ldc_w idx, 3)) (hc : zin (.constant M.1.cls idx v)) (k : V G M K R kc ks sz (pc + 3) lo (.int v :: st) w) : V G M K R kc ks sz pc lo st w :=
  fun p l e s m args below meth c F ls H locs hl hw hS => lv_ldcw F.1 F.2.1 F.2.2.2.1 (F.2.2.2.2.1.use hc _) d (k p l e s m args below meth c F ls H locs hl hw hS)
end ZJL
end
section
set_option maxRecDepth 100000 in
set_option maxHeartbeats 4000000 in
theorem c_fmodJ (G : zG) (sz : Nat) (w : zW) (a b : Int) (ha : -9223372036854775808 ≤ a ∧ a < 9223372036854775808) (hb : 0 < b ∧ b < 9223372036854775808) : zCt G M_Math_floorMod_JJ (zR 0 0 0 0) [.long (Int64.ofInt a), .long (Int64.ofInt b)] sz w (zdet (some (.long (Int64.ofInt (a % b)))) w sz) := by
  have hm := ztmod_b (a := a) hb.1
  have hz := zfm (a := a) hb.1
  obtain ⟨x, hx, hxr, hxn⟩ := zxor64 ha hb
  refine V_lload_n d_Math_floorMod_JJ_0 rfl ?_
  refine V_lload_n d_Math_floorMod_JJ_1 rfl ?_
  refine J_lrem d_Math_floorMod_JJ_2 (by omega) (by omega) ?_
  refine V_lstore d_Math_floorMod_JJ_3 (by decide) ?_
  refine V_lload_n d_Math_floorMod_JJ_5 rfl ?_
  refine V_lload_n d_Math_floorMod_JJ_6 rfl ?_
  refine V_lxor d_Math_floorMod_JJ_7 ?_
  rw [hx]
  refine J_lconst (z := 0) d_Math_floorMod_JJ_8 rfl ?_
  refine JL_ge 25 d_Math_floorMod_JJ_9 d_Math_floorMod_JJ_10 (by decide) (by omega) (by omega) (fun c_9 => ?_) (fun c_9 => ?_)
  · skip
    refine V_lload d_Math_floorMod_JJ_25 rfl ?_
    exact V_lreturn d_Math_floorMod_JJ_27 rfl ⟨Nat.le_of_ble_eq_true rfl, Nat.le_of_ble_eq_true rfl⟩ ⟨by rw [hz, if_pos (by omega), Int.add_zero], rfl, rfl⟩
  · skip
    refine V_lload d_Math_floorMod_JJ_13 rfl ?_
    refine J_lconst (z := 0) d_Math_floorMod_JJ_15 rfl ?_
    refine JL_eq 25 d_Math_floorMod_JJ_16 d_Math_floorMod_JJ_17 (by decide) (by omega) (by omega) (fun c_16 => ?_) (fun c_16 => ?_)
    · skip
      refine V_lload d_Math_floorMod_JJ_25 rfl ?_
      exact V_lreturn d_Math_floorMod_JJ_27 rfl ⟨Nat.le_of_ble_eq_true rfl, Nat.le_of_ble_eq_true rfl⟩ ⟨by rw [hz, if_pos (by omega), Int.add_zero], rfl, rfl⟩
    · skip
      refine V_lload d_Math_floorMod_JJ_20 rfl ?_
      refine V_lload_n d_Math_floorMod_JJ_22 rfl ?_
      refine J_ladd d_Math_floorMod_JJ_23 ?_
      exact V_lreturn d_Math_floorMod_JJ_24 rfl ⟨Nat.le_of_ble_eq_true rfl, Nat.le_of_ble_eq_true rfl⟩ ⟨by rw [hz, if_neg (by omega)], rfl, rfl⟩

set_option maxRecDepth 100000 in
set_option maxHeartbeats 4000000 in
theorem c_fdivJ (G : zG) (sz : Nat) (w : zW) (a b : Int) (ha : -9223372036854775808 < a ∧ a < 9223372036854775808) (hb : 0 < b ∧ b < 9223372036854775808) : zCt G M_Math_floorDiv (zR 0 0 0 0) [.long (Int64.ofInt a), .long (Int64.ofInt b)] sz w (zdet (some (.long (Int64.ofInt (a / b)))) w sz) := by
  have hm := ztmod_b (a := a) hb.1
  have hq := ztd_b (a := a) hb.1 (by omega)
  have ht := Int.tmod_add_mul_tdiv a b
  rw [Int.mul_comm b] at ht
  have hz := zfd (a := a) hb.1
  have hnp : a ≤ 0 → a.tmod b ≤ 0 := ztm_np b
  obtain ⟨x, hx, hxr, hxn⟩ := zxor64 (a := a) (by omega) hb
  refine V_lload_n d_Math_floorDiv_0 rfl ?_
  refine V_lload_n d_Math_floorDiv_1 rfl ?_
  refine J_ldiv d_Math_floorDiv_2 (by omega) (by omega) ?_
  refine V_lstore d_Math_floorDiv_3 (by decide) ?_
  refine V_lload_n d_Math_floorDiv_5 rfl ?_
  refine V_lload_n d_Math_floorDiv_6 rfl ?_
  refine V_lxor d_Math_floorDiv_7 ?_
  rw [hx]
  refine J_lconst (z := 0) d_Math_floorDiv_8 rfl ?_
  refine JL_ge 27 d_Math_floorDiv_9 d_Math_floorDiv_10 (by decide) (by omega) (by omega) (fun c_9 => ?_) (fun c_9 => ?_)
  · skip
    refine V_lload d_Math_floorDiv_27 rfl ?_
    exact V_lreturn d_Math_floorDiv_29 rfl ⟨Nat.le_of_ble_eq_true rfl, Nat.le_of_ble_eq_true rfl⟩ ⟨by rw [hz, if_pos (by omega), Int.sub_zero], rfl, rfl⟩
  · skip
    refine V_lload d_Math_floorDiv_13 rfl ?_
    refine V_lload_n d_Math_floorDiv_15 rfl ?_
    refine J_lmul d_Math_floorDiv_16 ?_
    refine V_lload_n d_Math_floorDiv_17 rfl ?_
    refine JL_eq 27 d_Math_floorDiv_18 d_Math_floorDiv_19 (by decide) (by omega) (by omega) (fun c_18 => ?_) (fun c_18 => ?_)
    · skip
      refine V_lload d_Math_floorDiv_27 rfl ?_
      exact V_lreturn d_Math_floorDiv_29 rfl ⟨Nat.le_of_ble_eq_true rfl, Nat.le_of_ble_eq_true rfl⟩ ⟨by rw [hz, if_pos (by omega), Int.sub_zero], rfl, rfl⟩
    · skip
      refine V_lload d_Math_floorDiv_22 rfl ?_
      refine J_lconst (z := 1) d_Math_floorDiv_24 rfl ?_
      refine J_lsub d_Math_floorDiv_25 ?_
      exact V_lreturn d_Math_floorDiv_26 rfl ⟨Nat.le_of_ble_eq_true rfl, Nat.le_of_ble_eq_true rfl⟩ ⟨by rw [hz, if_neg (by omega)], rfl, rfl⟩

set_option maxRecDepth 100000 in
set_option maxHeartbeats 4000000 in
theorem c_fmodI (G : zG) (sz : Nat) (w : zW) (a b : Int) (ha : -2147483648 ≤ a ∧ a < 2147483648) (hb : 0 < b ∧ b < 2147483648) : zCt G M_Math_floorMod_II (zR 0 0 0 0) [.int (Int32.ofInt a), .int (Int32.ofInt b)] sz w (zdet (some (.int (Int32.ofInt (a % b)))) w sz) := by
  have hm := ztmod_b (a := a) hb.1
  have hz := zfm (a := a) hb.1
  obtain ⟨x, hx, hxr, hxn⟩ := zxor32 ha hb
  refine V_iload_n d_Math_floorMod_II_0 rfl ?_
  refine V_iload_n d_Math_floorMod_II_1 rfl ?_
  refine J_irem d_Math_floorMod_II_2 (by omega) (by omega) ?_
  refine V_istore_n d_Math_floorMod_II_3 (by decide) ?_
  refine V_iload_n d_Math_floorMod_II_4 rfl ?_
  refine V_iload_n d_Math_floorMod_II_5 rfl ?_
  refine V_ixor d_Math_floorMod_II_6 ?_
  rw [hx]
  refine J_if_ge 18 d_Math_floorMod_II_7 (by decide) (by omega) (fun c_7 => ?_) (fun c_7 => ?_)
  · skip
    refine V_iload_n d_Math_floorMod_II_18 rfl ?_
    exact V_ireturn d_Math_floorMod_II_19 rfl ⟨Nat.le_of_ble_eq_true rfl, Nat.le_of_ble_eq_true rfl⟩ ⟨by rw [hz, if_pos (by omega), Int.add_zero], rfl, rfl⟩
  · skip
    refine V_iload_n d_Math_floorMod_II_10 rfl ?_
    refine J_if_eq 18 d_Math_floorMod_II_11 (by decide) (by omega) (fun c_11 => ?_) (fun c_11 => ?_)
    · skip
      refine V_iload_n d_Math_floorMod_II_18 rfl ?_
      exact V_ireturn d_Math_floorMod_II_19 rfl ⟨Nat.le_of_ble_eq_true rfl, Nat.le_of_ble_eq_true rfl⟩ ⟨by rw [hz, if_pos (by omega), Int.add_zero], rfl, rfl⟩
    · skip
      refine V_iload_n d_Math_floorMod_II_14 rfl ?_
      refine V_iload_n d_Math_floorMod_II_15 rfl ?_
      refine J_iadd d_Math_floorMod_II_16 ?_
      exact V_ireturn d_Math_floorMod_II_17 rfl ⟨Nat.le_of_ble_eq_true rfl, Nat.le_of_ble_eq_true rfl⟩ ⟨by rw [hz, if_neg (by omega)], rfl, rfl⟩

set_option maxRecDepth 100000 in
set_option maxHeartbeats 4000000 in
theorem c_maxI (G : zG) (sz : Nat) (w : zW) (a b : Int) (ha : -2147483648 ≤ a ∧ a < 2147483648) (hb : -2147483648 ≤ b ∧ b < 2147483648) : zCt G M_Math_max_II (zR 0 0 0 0) [.int (Int32.ofInt a), .int (Int32.ofInt b)] sz w (zdet (some (.int (Int32.ofInt (if a < b then b else a)))) w sz) := by
  refine V_iload_n d_Math_max_II_0 rfl ?_
  refine V_iload_n d_Math_max_II_1 rfl ?_
  refine J_icmp_lt 9 d_Math_max_II_2 (by decide) (by omega) (by omega) (fun c_2 => ?_) (fun c_2 => ?_)
  · skip
    refine V_iload_n d_Math_max_II_9 rfl ?_
    exact V_ireturn d_Math_max_II_10 rfl ⟨Nat.le_of_ble_eq_true rfl, Nat.le_of_ble_eq_true rfl⟩ ⟨by (first | rw [if_pos (by omega)] | rw [if_neg (by omega)]), rfl, rfl⟩
  · skip
    refine V_iload_n d_Math_max_II_5 rfl ?_
    refine V_goto 10 d_Math_max_II_6 (by decide) ?_
    exact V_ireturn d_Math_max_II_10 rfl ⟨Nat.le_of_ble_eq_true rfl, Nat.le_of_ble_eq_true rfl⟩ ⟨by (first | rw [if_pos (by omega)] | rw [if_neg (by omega)]), rfl, rfl⟩

set_option maxRecDepth 100000 in
set_option maxHeartbeats 4000000 in
theorem c_maxJ (G : zG) (sz : Nat) (w : zW) (a b : Int) (ha : -9223372036854775808 ≤ a ∧ a < 9223372036854775808) (hb : -9223372036854775808 ≤ b ∧ b < 9223372036854775808) : zCt G M_Math_max_JJ (zR 0 0 0 0) [.long (Int64.ofInt a), .long (Int64.ofInt b)] sz w (zdet (some (.long (Int64.ofInt (if a < b then b else a)))) w sz) := by
  refine V_lload_n d_Math_max_JJ_0 rfl ?_
  refine V_lload_n d_Math_max_JJ_1 rfl ?_
  refine JL_lt 10 d_Math_max_JJ_2 d_Math_max_JJ_3 (by decide) (by omega) (by omega) (fun c_2 => ?_) (fun c_2 => ?_)
  · skip
    refine V_lload_n d_Math_max_JJ_10 rfl ?_
    exact V_lreturn d_Math_max_JJ_11 rfl ⟨Nat.le_of_ble_eq_true rfl, Nat.le_of_ble_eq_true rfl⟩ ⟨by (first | rw [if_pos (by omega)] | rw [if_neg (by omega)]), rfl, rfl⟩
  · skip
    refine V_lload_n d_Math_max_JJ_6 rfl ?_
    refine V_goto 11 d_Math_max_JJ_7 (by decide) ?_
    exact V_lreturn d_Math_max_JJ_11 rfl ⟨Nat.le_of_ble_eq_true rfl, Nat.le_of_ble_eq_true rfl⟩ ⟨by (first | rw [if_pos (by omega)] | rw [if_neg (by omega)]), rfl, rfl⟩

set_option maxRecDepth 100000 in
set_option maxHeartbeats 4000000 in
theorem c_absJ (G : zG) (sz : Nat) (w : zW) (a : Int) (ha : -9223372036854775808 ≤ a ∧ a < 9223372036854775808) : zCt G M_Math_abs (zR 0 0 0 0) [.long (Int64.ofInt a)] sz w (zdet (some (.long (Int64.ofInt (if a < 0 then -a else a)))) w sz) := by
  refine V_lload_n d_Math_abs_0 rfl ?_
  refine J_lconst (z := 0) d_Math_abs_1 rfl ?_
  refine JL_ge 11 d_Math_abs_2 d_Math_abs_3 (by decide) (by omega) (by omega) (fun c_2 => ?_) (fun c_2 => ?_)
  · skip
    refine V_lload_n d_Math_abs_11 rfl ?_
    exact V_lreturn d_Math_abs_12 rfl ⟨Nat.le_of_ble_eq_true rfl, Nat.le_of_ble_eq_true rfl⟩ ⟨by (first | rw [if_pos (by omega)] | rw [if_neg (by omega)]), rfl, rfl⟩
  · skip
    refine V_lload_n d_Math_abs_6 rfl ?_
    refine J_lneg d_Math_abs_7 ?_
    refine V_goto 12 d_Math_abs_8 (by decide) ?_
    exact V_lreturn d_Math_abs_12 rfl ⟨Nat.le_of_ble_eq_true rfl, Nat.le_of_ble_eq_true rfl⟩ ⟨by (first | rw [if_pos (by omega)] | rw [if_neg (by omega)]), rfl, rfl⟩

set_option maxRecDepth 100000 in
set_option maxHeartbeats 4000000 in
theorem c_fill (G : zG) (sz : Nat) (w : zW) (s n : Nat) (v : Int) (g : Int → Int) (hs : w s = some (zro G n g)) (hn : n < 2147483648) : zCt G M_Arrays_fill (zR 0 0 0 0) [.ref s, .long (Int64.ofInt v)] sz w (zdet none (zset w s (zro G n (zif n (fun _ => v) g))) sz) := by
  have hnn : Int32.ofNat n = Int32.ofInt (n : Int) := Int32.ofInt_eq_ofNat.symm
  refine V_iconst d_Arrays_fill_0 ?_
  refine V_istore_n d_Arrays_fill_1 (by decide) ?_
  refine V_aload_n d_Arrays_fill_2 rfl ?_
  refine V_alen d_Arrays_fill_3 hs rfl ?_
  show V G _ _ _ _ _ _ _ _ (.int (Int32.ofNat n) :: []) _
  rw [hnn]
  refine V_istore d_Arrays_fill_4 (by decide) ?_
  refine V_w (w' := zset w s (zro G n (zif ((0 : Nat) : Int) (fun _ => v) g))) (by rw [show ((0 : Nat) : Int) = 0 from rfl, zif_0, zset_self hs]) ?_
  refine zfor n (fun i => V G M_Arrays_fill (zdet none (zset w s (zro G n (zif n (fun _ => v) g))) sz) (zR 0 0 0 0) 0 0 sz 6 [(0, .ref s), (1, .long (Int64.ofInt v)), (3, .int (Int32.ofInt (i : Int))), (4, .int (Int32.ofInt (n : Int)))] [] (zset w s (zro G n (zif (i : Int) (fun _ => v) g)))) ?_ (fun i hi ih => ?_) 0 (Nat.zero_le n)
  · skip
    refine V_iload_n d_Arrays_fill_6 rfl ?_
    refine V_iload d_Arrays_fill_7 rfl ?_
    refine J_icmp_ge 22 d_Arrays_fill_9 (by decide) (by omega) (by omega) (fun c_9 => ?_) (fun c_9 => absurd c_9 (by omega))
    exact V_return d_Arrays_fill_22 rfl ⟨Nat.le_of_ble_eq_true rfl, Nat.le_of_ble_eq_true rfl⟩ ⟨rfl, rfl, rfl⟩
  · skip
    refine V_iload_n d_Arrays_fill_6 rfl ?_
    refine V_iload d_Arrays_fill_7 rfl ?_
    refine J_icmp_ge 22 d_Arrays_fill_9 (by decide) (by omega) (by omega) (fun c_9 => absurd c_9 (by omega)) (fun c_9 => ?_)
    refine V_aload_n d_Arrays_fill_12 rfl ?_
    refine V_iload_n d_Arrays_fill_13 rfl ?_
    refine V_lload_n d_Arrays_fill_14 rfl ?_
    refine J_lastore d_Arrays_fill_15 zset_s (by omega) hn ?_
    refine J_iinc d_Arrays_fill_16 rfl (by decide) ?_
    refine V_goto 6 d_Arrays_fill_19 (by decide) ?_
    exact V_w (by rw [zset_zset, zif_s (by omega) rfl]; rfl) ih
end
section
/-! bits of small numbers; CHANCE's rows -/
theorem znat32 {d : Int} (h : 0 ≤ d ∧ d < 2147483648) : (Int32.ofInt d).toBitVec.toNat = d.toNat := by
  have h1 : (Int32.ofInt d).toInt = d := z32 (by omega)
  have h2 : (Int32.ofInt d).toBitVec.toInt = d := h1
  rw [BitVec.toInt_eq_toNat_cond] at h2
  split at h2
  · omega
  · have := (Int32.ofInt d).toBitVec.isLt
    omega
theorem zof32 {x : Int32} {d : Int} (h : 0 ≤ d ∧ d < 2147483648) (hx : x.toBitVec.toNat = d.toNat) : x = Int32.ofInt d := by
  apply Int32.toBitVec_inj.mp
  apply BitVec.eq_of_toNat_eq
  rw [hx, znat32 h]
theorem zand32 {d e r : Int} (hd : 0 ≤ d ∧ d < 2147483648) (he : 0 ≤ e ∧ e < 2147483648) (hr : 0 ≤ r ∧ r < 2147483648) (h : d.toNat &&& e.toNat = r.toNat) : Int32.ofInt d &&& Int32.ofInt e = Int32.ofInt r := by
  apply zof32 hr
  rw [Int32.toBitVec_and, BitVec.toNat_and, znat32 hd, znat32 he, h]
theorem zand_7 {d : Int} (hd : 0 ≤ d ∧ d < 2147483648) : Int32.ofInt d &&& Int32.ofInt 7 = Int32.ofInt (d % 8) := by
  refine zand32 hd (by decide) (by omega) ?_
  have h := Nat.and_two_pow_sub_one_eq_mod d.toNat 3
  have e : (2 ^ 3 - 1 : Nat) = 7 := by decide
  rw [e] at h
  show d.toNat &&& 7 = _
  rw [h]
  omega
theorem zand_1 {d : Int} (hd : 0 ≤ d ∧ d < 2147483648) : Int32.ofInt d &&& Int32.ofInt 1 = Int32.ofInt (d % 2) := by
  refine zand32 hd (by decide) (by omega) ?_
  have h := Nat.and_two_pow_sub_one_eq_mod d.toNat 1
  have e : (2 ^ 1 - 1 : Nat) = 1 := by decide
  rw [e] at h
  show d.toNat &&& 1 = _
  rw [h]
  omega
theorem zand_56 {d : Int} (hd : 0 ≤ d ∧ d < 2147483648) : Int32.ofInt d &&& Int32.ofInt 56 = Int32.ofInt (d / 8 % 8 * 8) := by
  refine zand32 hd (by decide) (by omega) ?_
  show d.toNat &&& 56 = _
  have key : ∀ n : Nat, n &&& 56 = n / 8 % 8 * 8 := by
    intro n
    apply Nat.eq_of_testBit_eq
    intro i
    have e1 : (n / 8 % 8 * 8).testBit i = (decide (3 ≤ i) && (decide (i - 3 < 3) && n.testBit (i - 3 + 3))) := by
      rw [show n / 8 % 8 * 8 = (n / 2 ^ 3 % 2 ^ 3) * 2 ^ 3 by omega, Nat.testBit_mul_two_pow, Nat.testBit_mod_two_pow, Nat.testBit_div_two_pow]
    have e2 : (56 : Nat).testBit i = (decide (3 ≤ i) && decide (i - 3 < 3)) := by
      rw [show (56 : Nat) = (7 % 2 ^ 3) * 2 ^ 3 by decide, Nat.testBit_mul_two_pow, Nat.testBit_mod_two_pow]
      by_cases h1 : 3 ≤ i
      · by_cases h2 : i - 3 < 3
        · have : i = 3 ∨ i = 4 ∨ i = 5 := by omega
          rcases this with rfl | rfl | rfl <;> decide
        · simp [h2]
      · simp [h1]
    rw [Nat.testBit_and, e1, e2]
    by_cases h1 : 3 ≤ i
    · rw [show i - 3 + 3 = i by omega]
      cases n.testBit i <;> simp
    · simp [h1]
  rw [key]
  omega
def zus (x y : Int32) : Int32 := (x.toUInt32 >>> (y.toUInt32 &&& Int32.toUInt32 31)).toInt32
/-- Integer.bitCount as it reckons -/
def zbc (i : Int32) : Int32 :=
  let a := i - (zus i (Int32.ofInt 1) &&& 1431655765)
  let b := (a &&& 858993459) + (zus a (Int32.ofInt 2) &&& 858993459)
  let c := (b + zus b (Int32.ofInt 4)) &&& 252645135
  let d := c + zus c (Int32.ofInt 8)
  let e := d + zus d (Int32.ofInt 16)
  e &&& Int32.ofInt 63
theorem zbc_low : ∀ k : Fin 8, zbc (Int32.ofInt ((k : Nat) : Int)) = Int32.ofInt (((k : Nat) : Int) % 2 + ((k : Nat) : Int) / 2 % 2 + ((k : Nat) : Int) / 4 % 2) := by decide +kernel
theorem zbc_high : ∀ k : Fin 8, zbc (Int32.ofInt (((k : Nat) : Int) * 8)) = Int32.ofInt (((k : Nat) : Int) % 2 + ((k : Nat) : Int) / 2 % 2 + ((k : Nat) : Int) / 4 % 2) := by decide +kernel
def zlo (d : Int) : Int := d % 2 + d / 2 % 2 + d / 4 % 2
def zhi (d : Int) : Int := d / 8 % 2 + d / 16 % 2 + d / 32 % 2
theorem zbit (d : Int) : 0 ≤ d % 2 ∧ d % 2 ≤ 1 := by omega
theorem zlo_b (d : Int) : 0 ≤ zlo d ∧ zlo d ≤ 3 := by
  have h1 := zbit d
  have h2 := zbit (d / 2)
  have h3 := zbit (d / 4)
  unfold zlo
  generalize d % 2 = x at *
  generalize d / 2 % 2 = y at *
  generalize d / 4 % 2 = z at *
  omega
theorem zhi_b (d : Int) : 0 ≤ zhi d ∧ zhi d ≤ 3 := by
  have h1 := zbit (d / 8)
  have h2 := zbit (d / 16)
  have h3 := zbit (d / 32)
  unfold zhi
  generalize d / 8 % 2 = x at *
  generalize d / 16 % 2 = y at *
  generalize d / 32 % 2 = z at *
  omega
theorem zbc_l {d : Int} (h : 0 ≤ d) : zbc (Int32.ofInt (d % 8)) = Int32.ofInt (zlo d) := by
  unfold zlo
  have e := zbc_low ⟨(d % 8).toNat, by omega⟩
  have e2 : (((d % 8).toNat : Nat) : Int) = d % 8 := by omega
  dsimp only at e
  rw [e2] at e
  rw [e]
  congr 1
  omega
theorem zbc_h {d : Int} (h : 0 ≤ d) : zbc (Int32.ofInt (d / 8 % 8 * 8)) = Int32.ofInt (zhi d) := by
  unfold zhi
  have e := zbc_high ⟨(d / 8 % 8).toNat, by omega⟩
  have e2 : (((d / 8 % 8).toNat : Nat) : Int) = d / 8 % 8 := by omega
  dsimp only at e
  rw [e2] at e
  rw [e]
  congr 1
  omega
/-- an error out of a draw -/
def zer (d : Int) : Int := zlo d - zhi d
def zrT (c : Int32) (j : Int) : Int := zup (zlcN c (j.toNat + 1)) % 3 - 1
def zrE (c : Int32) (j : Int) : Int := zer (zup (zlcN c (j.toNat + 1)))
def zrU (c : Int32) (j : Int) : Int := (65536 * zup (zlcN c (2 * j.toNat + 1)) + zup (zlcN c (2 * j.toNat + 2))) % 268435399
theorem zset_3 {w : zW} {a b : Nat} {e e' f : va_E} (h : a ≠ b) : zset (zset (zset w a e) b f) a e' = zset (zset w a e') b f := by
  rw [zset_comm (w := zset w a e) (Ne.symm h), zset_zset]
end
section
set_option maxRecDepth 100000 in
set_option maxHeartbeats 4000000 in
theorem c_draw (G : zG) (sz : Nat) (w : zW) (a : Nat) (c : Int32) (h : w a = some (zobj cChance [.int c])) : zCt G M_Chance_draw zR0 [.ref a] sz w (zdet (some (.int (Int32.ofInt (zup (zlc c))))) (zset w a (zobj cChance [.int (zlc c)])) sz) := by
  refine V_aload_n d_Chance_draw_0 rfl ?_
  refine V_ldc d_Chance_draw_1 k_Chance_15 ?_
  refine V_aload_n d_Chance_draw_3 rfl ?_
  refine V_getf d_Chance_draw_4 ff_Chance_9 h rfl ?_
  refine V_imul d_Chance_draw_7 ?_
  refine V_ldc d_Chance_draw_8 k_Chance_16 ?_
  refine V_iadd d_Chance_draw_10 ?_
  refine V_putf d_Chance_draw_11 ff_Chance_9 h ⟨_, _, _, _, rfl, rfl, rfl, rfl, rfl⟩ (Nat.le_of_ble_eq_true rfl) ?_
  refine V_aload_n d_Chance_draw_14 rfl ?_
  refine V_getf d_Chance_draw_15 ff_Chance_9 zset_s rfl ?_
  refine J_bipush d_Chance_draw_18 (by decide) ?_
  refine V_iushr d_Chance_draw_20 ?_
  exact V_ireturn d_Chance_draw_21 rfl ⟨Nat.le_of_ble_eq_true rfl, Nat.le_of_ble_eq_true rfl⟩ ⟨by rw [show (Int32.ofInt 16).toUInt32 &&& Int32.toUInt32 31 = 16 by decide, zup_of]; rfl, rfl, rfl⟩

set_option maxRecDepth 100000 in
set_option maxHeartbeats 4000000 in
theorem c_restart (G : zG) (sz : Nat) (w : zW) (a : Nat) (c v : Int32) (h : w a = some (zobj cChance [.int c])) : zCt G M_Chance_restart zR0 [.ref a, .int v] sz w (zdet none (zset w a (zobj cChance [.int v])) sz) := by
  refine V_aload_n d_Chance_restart_0 rfl ?_
  refine V_iload_n d_Chance_restart_1 rfl ?_
  refine V_putf d_Chance_restart_2 ff_Chance_9 h ⟨_, _, _, _, rfl, rfl, rfl, rfl, rfl⟩ (Nat.le_of_ble_eq_true rfl) ?_
  exact V_return d_Chance_restart_5 rfl ⟨Nat.le_of_ble_eq_true rfl, Nat.le_of_ble_eq_true rfl⟩ ⟨rfl, rfl, rfl⟩

set_option maxRecDepth 100000 in
set_option maxHeartbeats 4000000 in
theorem c_upper (G : zG) (sz : Nat) (w : zW) (a : Nat) (c : Int32) (h : w a = some (zobj cChance [.int c])) : zCt G M_Chance_upperHalf zR0 [.ref a] sz w (zdet (some (.int (Int32.ofInt (zup c)))) w sz) := by
  refine V_aload_n d_Chance_upperHalf_0 rfl ?_
  refine V_getf d_Chance_upperHalf_1 ff_Chance_9 h rfl ?_
  refine J_bipush d_Chance_upperHalf_4 (by decide) ?_
  refine V_iushr d_Chance_upperHalf_6 ?_
  exact V_ireturn d_Chance_upperHalf_7 rfl ⟨Nat.le_of_ble_eq_true rfl, Nat.le_of_ble_eq_true rfl⟩ ⟨by rw [show (Int32.ofInt 16).toUInt32 &&& Int32.toUInt32 31 = 16 by decide, zup_of], rfl, rfl⟩

set_option maxRecDepth 100000 in
set_option maxHeartbeats 4000000 in
theorem c_scale (G : zG) (sz : Nat) (w : zW) (r pw : Nat) (kd n t zz : Int) (h : w r = some (zobj cRing [.int (Int32.ofInt kd), .int (Int32.ofInt n), .int (Int32.ofInt t), .int (Int32.ofInt zz), .ref pw])) (ht : 0 < t ∧ t < 1000) : zCt G M_Ring_scale zR0 [.ref r] sz w (zdet (some (.long (Int64.ofInt (268435399 / t)))) w sz) := by
  refine J_ldc2 d_Ring_scale_0 k_Ring_47 ?_
  refine V_aload_n d_Ring_scale_3 rfl ?_
  refine V_getf d_Ring_scale_4 ff_Ring_33 h rfl ?_
  refine J_i2l d_Ring_scale_7 (by omega) ?_
  refine J_ldivP d_Ring_scale_8 (by omega) (by omega) ?_
  exact V_lreturn d_Ring_scale_9 rfl ⟨Nat.le_of_ble_eq_true rfl, Nat.le_of_ble_eq_true rfl⟩ ⟨rfl, rfl, rfl⟩

set_option maxRecDepth 100000 in
set_option maxHeartbeats 4000000 in
theorem c_addScaled (G : zG) (sz : Nat) (w : zW) (r pw : Nat) (kd n t zz : Int) (s a : Nat) (f : Int) (g h : Int → Int) (hr : w r = some (zobj cRing [.int (Int32.ofInt kd), .int (Int32.ofInt n), .int (Int32.ofInt t), .int (Int32.ofInt zz), .ref pw])) (hs : w s = some (zro G 32 g)) (ha : w a = some (zro G 32 h)) (has : a ≠ s) (hn : 0 ≤ n ∧ n ≤ 32) : zCt G M_Ring_addScaled zR0 [.ref r, .ref s, .ref a, .long (Int64.ofInt f)] sz w (zdet none (zset w s (zro G 32 (zif n (fun j => g j + f * h j) g))) sz) := by
  have hrs : r ≠ s := fun q => by rw [q, hs] at hr; cases hr
  obtain ⟨nn, rfl⟩ : ∃ k : Nat, n = (k : Int) := ⟨n.toNat, by omega⟩
  refine V_iconst d_Ring_addScaled_0 ?_
  refine V_istore d_Ring_addScaled_1 (by decide) ?_
  refine V_w (w' := zset w s (zro G 32 (zif ((0 : Nat) : Int) (fun j => g j + f * h j) g))) (by rw [show ((0 : Nat) : Int) = 0 from rfl, zif_0, zset_self hs]) ?_
  refine zfor nn (fun i => V G M_Ring_addScaled (zdet none (zset w s (zro G 32 (zif nn (fun j => g j + f * h j) g))) sz) zR0 0 0 sz 3 [(0, .ref r), (1, .ref s), (2, .ref a), (3, .long (Int64.ofInt f)), (5, .int (Int32.ofInt (i : Int)))] [] (zset w s (zro G 32 (zif (i : Int) (fun j => g j + f * h j) g)))) ?_ (fun i hi ih => ?_) 0 (Nat.zero_le nn)
  · skip
    refine V_iload d_Ring_addScaled_3 rfl ?_
    refine V_aload_n d_Ring_addScaled_5 rfl ?_
    refine V_getf d_Ring_addScaled_6 ff_Ring_27 ((zset_n hrs).trans hr) rfl ?_
    refine J_icmp_ge 31 d_Ring_addScaled_9 (by decide) (by omega) (by omega) (fun c_9 => ?_) (fun c_9 => absurd c_9 (by omega))
    exact V_return d_Ring_addScaled_31 rfl ⟨Nat.le_of_ble_eq_true rfl, Nat.le_of_ble_eq_true rfl⟩ ⟨rfl, rfl, rfl⟩
  · skip
    refine V_iload d_Ring_addScaled_3 rfl ?_
    refine V_aload_n d_Ring_addScaled_5 rfl ?_
    refine V_getf d_Ring_addScaled_6 ff_Ring_27 ((zset_n hrs).trans hr) rfl ?_
    refine J_icmp_ge 31 d_Ring_addScaled_9 (by decide) (by omega) (by omega) (fun c_9 => absurd c_9 (by omega)) (fun c_9 => ?_)
    refine V_aload_n d_Ring_addScaled_12 rfl ?_
    refine V_iload d_Ring_addScaled_13 rfl ?_
    refine V_dup2 d_Ring_addScaled_15 rfl rfl ?_
    refine J_laload d_Ring_addScaled_16 zset_s (by omega) (by decide) ?_
    refine V_lload_n d_Ring_addScaled_17 rfl ?_
    refine V_aload_n d_Ring_addScaled_18 rfl ?_
    refine V_iload d_Ring_addScaled_19 rfl ?_
    refine J_laload d_Ring_addScaled_21 ((zset_n has).trans ha) (by omega) (by decide) ?_
    refine J_lmul d_Ring_addScaled_22 ?_
    refine J_ladd d_Ring_addScaled_23 ?_
    refine J_lastore d_Ring_addScaled_24 zset_s (by omega) (by decide) ?_
    refine J_iinc d_Ring_addScaled_25 rfl (by decide) ?_
    refine V_goto 3 d_Ring_addScaled_28 (by decide) ?_
    exact V_w (by rw [zset_zset, zif_s (by omega) (by rw [zif_r (by omega)])]; rfl) ih

set_option maxRecDepth 100000 in
set_option maxHeartbeats 4000000 in
theorem c_addProduct (G : zG) (sz : Nat) (w : zW) (r pw : Nat) (kd n t zz : Int) (s a b nn : Nat) (g fa fb : Int → Int) (hr : w r = some (zobj cRing [.int (Int32.ofInt kd), .int (Int32.ofInt n), .int (Int32.ofInt t), .int (Int32.ofInt zz), .ref pw])) (hs : w s = some (zro G 32 g)) (ha : w a = some (zro G 32 fa)) (hb : w b = some (zro G 32 fb)) (has : a ≠ s) (hbs : b ≠ s) (hnn : n = (nn : Int)) (hn : nn ≤ 32) : zCt G M_Ring_addProduct zR0 [.ref r, .ref s, .ref a, .ref b] sz w (zdet none (zset w s (zro G 32 (zap n fa fb g nn))) sz) := by
  have hrs : r ≠ s := fun q => by rw [q, hs] at hr; cases hr
  subst hnn
  refine V_iconst d_Ring_addProduct_0 ?_
  refine V_istore d_Ring_addProduct_1 (by decide) ?_
  refine V_w (w' := zset w s (zro G 32 (zap nn fa fb g 0))) (by rw [zap_0, zset_self hs]) ?_
  refine zfor nn (fun i => V G M_Ring_addProduct (zdet none (zset w s (zro G 32 (zap nn fa fb g nn))) sz) zR0 0 0 sz 3 [(0, .ref r), (1, .ref s), (2, .ref a), (3, .ref b), (4, .int (Int32.ofInt (i : Int)))] [] (zset w s (zro G 32 (zap nn fa fb g i)))) ?_ (fun i hi ih => ?_) 0 (Nat.zero_le nn)
  · skip
    refine V_iload d_Ring_addProduct_3 rfl ?_
    refine V_aload_n d_Ring_addProduct_5 rfl ?_
    refine V_getf d_Ring_addProduct_6 ff_Ring_27 ((zset_n hrs).trans hr) rfl ?_
    refine J_icmp_ge 108 d_Ring_addProduct_9 (by decide) (by omega) (by omega) (fun c_9 => ?_) (fun c_9 => absurd c_9 (by omega))
    exact V_return d_Ring_addProduct_108 rfl ⟨Nat.le_of_ble_eq_true rfl, Nat.le_of_ble_eq_true rfl⟩ ⟨rfl, rfl, rfl⟩
  · skip
    refine V_iload d_Ring_addProduct_3 rfl ?_
    refine V_aload_n d_Ring_addProduct_5 rfl ?_
    refine V_getf d_Ring_addProduct_6 ff_Ring_27 ((zset_n hrs).trans hr) rfl ?_
    refine J_icmp_ge 108 d_Ring_addProduct_9 (by decide) (by omega) (by omega) (fun c_9 => absurd c_9 (by omega)) (fun c_9 => ?_)
    refine V_aload_n d_Ring_addProduct_12 rfl ?_
    refine V_iload d_Ring_addProduct_13 rfl ?_
    refine J_laload d_Ring_addProduct_15 ((zset_n has).trans ha) (by omega) (by decide) ?_
    refine V_lstore d_Ring_addProduct_16 (by decide) ?_
    refine V_iconst d_Ring_addProduct_18 ?_
    refine V_istore d_Ring_addProduct_19 (by decide) ?_
    refine V_w (w' := zset w s (zro G 32 (zap1 nn fa fb g i 0))) (by rw [zap1_0]) ?_
    refine zfor (nn - i) (fun j => V G M_Ring_addProduct (zdet none (zset w s (zro G 32 (zap nn fa fb g nn))) sz) zR0 0 0 sz 21 [(0, .ref r), (1, .ref s), (2, .ref a), (3, .ref b), (4, .int (Int32.ofInt (i : Int))), (5, .long (Int64.ofInt (fa i))), (7, .int (Int32.ofInt (j : Int)))] [] (zset w s (zro G 32 (zap1 nn fa fb g i j)))) ?_ (fun j hj ih1 => ?_) 0 (Nat.zero_le _)
    · skip
      refine V_iload d_Ring_addProduct_21 rfl ?_
      refine V_aload_n d_Ring_addProduct_23 rfl ?_
      refine V_getf d_Ring_addProduct_24 ff_Ring_27 ((zset_n hrs).trans hr) rfl ?_
      refine V_iload d_Ring_addProduct_27 rfl ?_
      refine J_isub d_Ring_addProduct_29 ?_
      refine J_icmp_ge 56 d_Ring_addProduct_30 (by decide) (by omega) (by omega) (fun c_30 => ?_) (fun c_30 => absurd c_30 (by omega))
      refine V_aload_n d_Ring_addProduct_56 rfl ?_
      refine V_getf d_Ring_addProduct_57 ff_Ring_27 ((zset_n hrs).trans hr) rfl ?_
      refine V_iload d_Ring_addProduct_60 rfl ?_
      refine J_isub d_Ring_addProduct_62 ?_
      refine V_istore d_Ring_addProduct_63 (by decide) ?_
      refine V_w (w' := zset w s (zro G 32 (zap2 nn fa fb g i (nn - i : Nat)))) (by rw [zap2_0 (by omega)]) ?_
      refine V_lo [0, 1, 2, 3, 4, 5, 7] (lo' := [(0, .ref r), (1, .ref s), (2, .ref a), (3, .ref b), (4, .int (Int32.ofInt (i : Int))), (5, .long (Int64.ofInt (fa i))), (7, .int (Int32.ofInt ((nn - i : Nat) : Int)))]) (by rw [show ((nn - i : Nat) : Int) = (nn : Int) - (i : Int) by omega]; rfl) ?_
      refine zforF (nn - i) nn (fun j => V G M_Ring_addProduct (zdet none (zset w s (zro G 32 (zap nn fa fb g nn))) sz) zR0 0 0 sz 65 [(0, .ref r), (1, .ref s), (2, .ref a), (3, .ref b), (4, .int (Int32.ofInt (i : Int))), (5, .long (Int64.ofInt (fa i))), (7, .int (Int32.ofInt (j : Int)))] [] (zset w s (zro G 32 (zap2 nn fa fb g i j)))) ?_ (fun j hj2 hj ih2 => ?_) (nn - i) (Nat.le_refl _) (Nat.sub_le _ _)
      · skip
        refine V_iload d_Ring_addProduct_65 rfl ?_
        refine V_aload_n d_Ring_addProduct_67 rfl ?_
        refine V_getf d_Ring_addProduct_68 ff_Ring_27 ((zset_n hrs).trans hr) rfl ?_
        refine J_icmp_ge 102 d_Ring_addProduct_71 (by decide) (by omega) (by omega) (fun c_71 => ?_) (fun c_71 => absurd c_71 (by omega))
        refine J_iinc d_Ring_addProduct_102 rfl (by decide) ?_
        refine V_goto 3 d_Ring_addProduct_105 (by decide) ?_
        exact V_lo [0, 1, 2, 3, 4] rfl (V_w (by rw [zap2_n hi]) ih)
      · skip
        refine V_iload d_Ring_addProduct_65 rfl ?_
        refine V_aload_n d_Ring_addProduct_67 rfl ?_
        refine V_getf d_Ring_addProduct_68 ff_Ring_27 ((zset_n hrs).trans hr) rfl ?_
        refine J_icmp_ge 102 d_Ring_addProduct_71 (by decide) (by omega) (by omega) (fun c_71 => absurd c_71 (by omega)) (fun c_71 => ?_)
        refine V_aload_n d_Ring_addProduct_74 rfl ?_
        refine V_iload d_Ring_addProduct_75 rfl ?_
        refine V_iload d_Ring_addProduct_77 rfl ?_
        refine J_iadd d_Ring_addProduct_79 ?_
        refine V_aload_n d_Ring_addProduct_80 rfl ?_
        refine V_getf d_Ring_addProduct_81 ff_Ring_27 ((zset_n hrs).trans hr) rfl ?_
        refine J_isub d_Ring_addProduct_84 ?_
        refine V_dup2 d_Ring_addProduct_85 rfl rfl ?_
        refine J_laload d_Ring_addProduct_86 zset_s (by omega) (by decide) ?_
        refine V_lload d_Ring_addProduct_87 rfl ?_
        refine V_aload_n d_Ring_addProduct_89 rfl ?_
        refine V_iload d_Ring_addProduct_90 rfl ?_
        refine J_laload d_Ring_addProduct_92 ((zset_n hbs).trans hb) (by omega) (by decide) ?_
        refine J_lmul d_Ring_addProduct_93 ?_
        refine J_lsub d_Ring_addProduct_94 ?_
        refine J_lastore d_Ring_addProduct_95 zset_s (by omega) (by decide) ?_
        refine J_iinc d_Ring_addProduct_96 rfl (by decide) ?_
        refine V_goto 65 d_Ring_addProduct_99 (by decide) ?_
        exact V_w (by rw [zset_zset, zap2_s hj2 hj hi]) ih2
    · skip
      refine V_iload d_Ring_addProduct_21 rfl ?_
      refine V_aload_n d_Ring_addProduct_23 rfl ?_
      refine V_getf d_Ring_addProduct_24 ff_Ring_27 ((zset_n hrs).trans hr) rfl ?_
      refine V_iload d_Ring_addProduct_27 rfl ?_
      refine J_isub d_Ring_addProduct_29 ?_
      refine J_icmp_ge 56 d_Ring_addProduct_30 (by decide) (by omega) (by omega) (fun c_30 => absurd c_30 (by omega)) (fun c_30 => ?_)
      refine V_aload_n d_Ring_addProduct_33 rfl ?_
      refine V_iload d_Ring_addProduct_34 rfl ?_
      refine V_iload d_Ring_addProduct_36 rfl ?_
      refine J_iadd d_Ring_addProduct_38 ?_
      refine V_dup2 d_Ring_addProduct_39 rfl rfl ?_
      refine J_laload d_Ring_addProduct_40 zset_s (by omega) (by decide) ?_
      refine V_lload d_Ring_addProduct_41 rfl ?_
      refine V_aload_n d_Ring_addProduct_43 rfl ?_
      refine V_iload d_Ring_addProduct_44 rfl ?_
      refine J_laload d_Ring_addProduct_46 ((zset_n hbs).trans hb) (by omega) (by decide) ?_
      refine J_lmul d_Ring_addProduct_47 ?_
      refine J_ladd d_Ring_addProduct_48 ?_
      refine J_lastore d_Ring_addProduct_49 zset_s (by omega) (by decide) ?_
      refine J_iinc d_Ring_addProduct_50 rfl (by decide) ?_
      refine V_goto 21 d_Ring_addProduct_53 (by decide) ?_
      exact V_w (by rw [zset_zset, zap1_s (by omega)]) ih1
end
section
set_option maxRecDepth 100000 in
set_option maxHeartbeats 4000000 in
theorem c_bitCount (G : zG) (sz : Nat) (w : zW) (x : Int32) : zCt G M_Integer_bitCount (zR 0 0 0 0) [.int x] sz w (zdet (some (.int (zbc x))) w sz) := by
  refine V_iload_n d_Integer_bitCount_0 rfl ?_
  refine V_iload_n d_Integer_bitCount_1 rfl ?_
  refine V_iconst d_Integer_bitCount_2 ?_
  refine V_iushr d_Integer_bitCount_3 ?_
  refine V_ldc_w d_Integer_bitCount_4 k_Integer_265 ?_
  refine V_iand d_Integer_bitCount_7 ?_
  refine V_isub d_Integer_bitCount_8 ?_
  refine V_istore_n d_Integer_bitCount_9 (by decide) ?_
  refine V_iload_n d_Integer_bitCount_10 rfl ?_
  refine V_ldc_w d_Integer_bitCount_11 k_Integer_266 ?_
  refine V_iand d_Integer_bitCount_14 ?_
  refine V_iload_n d_Integer_bitCount_15 rfl ?_
  refine V_iconst d_Integer_bitCount_16 ?_
  refine V_iushr d_Integer_bitCount_17 ?_
  refine V_ldc_w d_Integer_bitCount_18 k_Integer_266 ?_
  refine V_iand d_Integer_bitCount_21 ?_
  refine V_iadd d_Integer_bitCount_22 ?_
  refine V_istore_n d_Integer_bitCount_23 (by decide) ?_
  refine V_iload_n d_Integer_bitCount_24 rfl ?_
  refine V_iload_n d_Integer_bitCount_25 rfl ?_
  refine V_iconst d_Integer_bitCount_26 ?_
  refine V_iushr d_Integer_bitCount_27 ?_
  refine V_iadd d_Integer_bitCount_28 ?_
  refine V_ldc_w d_Integer_bitCount_29 k_Integer_267 ?_
  refine V_iand d_Integer_bitCount_32 ?_
  refine V_istore_n d_Integer_bitCount_33 (by decide) ?_
  refine V_iload_n d_Integer_bitCount_34 rfl ?_
  refine V_iload_n d_Integer_bitCount_35 rfl ?_
  refine J_bipush d_Integer_bitCount_36 (by decide) ?_
  refine V_iushr d_Integer_bitCount_38 ?_
  refine V_iadd d_Integer_bitCount_39 ?_
  refine V_istore_n d_Integer_bitCount_40 (by decide) ?_
  refine V_iload_n d_Integer_bitCount_41 rfl ?_
  refine V_iload_n d_Integer_bitCount_42 rfl ?_
  refine J_bipush d_Integer_bitCount_43 (by decide) ?_
  refine V_iushr d_Integer_bitCount_45 ?_
  refine V_iadd d_Integer_bitCount_46 ?_
  refine V_istore_n d_Integer_bitCount_47 (by decide) ?_
  refine V_iload_n d_Integer_bitCount_48 rfl ?_
  refine J_bipush d_Integer_bitCount_49 (by decide) ?_
  refine V_iand d_Integer_bitCount_51 ?_
  exact V_ireturn d_Integer_bitCount_52 rfl ⟨Nat.le_of_ble_eq_true rfl, Nat.le_of_ble_eq_true rfl⟩ ⟨rfl, rfl, rfl⟩

set_option maxRecDepth 100000 in
set_option maxHeartbeats 4000000 in
theorem c_fillTernary (G : zG) (sz : Nat) (w : zW) (a s nn : Nat) (c : Int32) (g : Int → Int) (h : w a = some (zobj cChance [.int c])) (hs : w s = some (zro G 32 g)) (hn : nn ≤ 32) : zCt G M_Chance_fillTernary (zR 1 0 0 20) [.ref a, .ref s, .int (Int32.ofInt (nn : Int))] sz w (zdet none (zset (zset w a (zobj cChance [.int (zlcN c nn)])) s (zro G 32 (zif (nn : Int) (zrT c) g))) sz) := by
  have hne : a ≠ s := fun q => by rw [q, hs] at h; cases h
  refine V_iconst d_Chance_fillTernary_0 ?_
  refine V_istore_n d_Chance_fillTernary_1 (by decide) ?_
  refine V_w (w' := (zset (zset w a (zobj cChance [.int (zlcN c 0)])) s (zro G 32 (zif ((0 : Nat) : Int) (zrT c) g)))) (by rw [show ((0 : Nat) : Int) = 0 from rfl, zif_0, show zlcN c 0 = c from rfl, zset_self h, zset_self hs]) ?_
  refine zfor nn (fun i => V G M_Chance_fillTernary (zdet none (zset (zset w a (zobj cChance [.int (zlcN c nn)])) s (zro G 32 (zif (nn : Int) (zrT c) g))) sz) (zR 1 0 0 20) 0 0 sz 2 [(0, .ref a), (1, .ref s), (2, .int (Int32.ofInt (nn : Int))), (3, .int (Int32.ofInt (i : Int)))] [] (zset (zset w a (zobj cChance [.int (zlcN c i)])) s (zro G 32 (zif (i : Int) (zrT c) g)))) ?_ (fun i hi ih => ?_) 0 (Nat.zero_le nn)
  · skip
    refine V_iload_n d_Chance_fillTernary_2 rfl ?_
    refine V_iload_n d_Chance_fillTernary_3 rfl ?_
    refine J_icmp_ge 25 d_Chance_fillTernary_4 (by decide) (by omega) (by omega) (fun c_4 => ?_) (fun c_4 => absurd c_4 (by omega))
    exact V_return d_Chance_fillTernary_25 rfl ⟨Nat.le_of_ble_eq_true rfl, Nat.le_of_ble_eq_true rfl⟩ ⟨rfl, rfl, rfl⟩
  · skip
    refine V_iload_n d_Chance_fillTernary_2 rfl ?_
    refine V_iload_n d_Chance_fillTernary_3 rfl ?_
    refine J_icmp_ge 25 d_Chance_fillTernary_4 (by decide) (by omega) (by omega) (fun c_4 => absurd c_4 (by omega)) (fun c_4 => ?_)
    refine V_aload_n d_Chance_fillTernary_7 rfl ?_
    refine V_iload_n d_Chance_fillTernary_8 rfl ?_
    refine V_aload_n d_Chance_fillTernary_9 rfl ?_
    refine V_callV (n := 0) d_Chance_fillTernary_10 g_Chance_17 rfl ((zset_n hne).trans zset_s) rfl (c_draw G _ _ a (zlcN c i) ((zset_n hne).trans zset_s)) ⟨co_Chance_draw, by decide +kernel, Nat.le_of_ble_eq_true rfl⟩ ⟨Nat.le_of_ble_eq_true rfl, Nat.le_of_ble_eq_true rfl, Nat.le_of_ble_eq_true rfl, Nat.le_of_ble_eq_true rfl⟩ (Nat.le_of_ble_eq_true rfl) (fun r_10 w_10 s_10 q_10 => ?_) (fun _ _ _ q => False.elim q)
    obtain ⟨rfl, rfl, rfl⟩ := q_10
    refine V_w (zset_3 hne) ?_
    have hb := zup_b (zlc (zlcN c i))
    refine V_iconst d_Chance_fillTernary_13 ?_
    refine J_iremP d_Chance_fillTernary_14 (by omega) (by omega) ?_
    refine V_iconst d_Chance_fillTernary_15 ?_
    refine J_isub d_Chance_fillTernary_16 ?_
    refine J_i2l d_Chance_fillTernary_17 (by omega) ?_
    refine J_lastore d_Chance_fillTernary_18 zset_s (by omega) (by decide) ?_
    refine J_iinc d_Chance_fillTernary_19 rfl (by decide) ?_
    refine V_goto 2 d_Chance_fillTernary_22 (by decide) ?_
    exact V_w (by rw [zset_zset, show zlc (zlcN c i) = zlcN c (i + 1) from rfl, zif_s (by omega) (by unfold zrT; rw [show ((i : Int)).toNat + 1 = i + 1 by omega])]; rfl) ih

set_option maxRecDepth 100000 in
set_option maxHeartbeats 4000000 in
theorem c_fillErrors (G : zG) (sz : Nat) (w : zW) (a s nn : Nat) (c : Int32) (g : Int → Int) (h : w a = some (zobj cChance [.int c])) (hs : w s = some (zro G 32 g)) (hn : nn ≤ 32) : zCt G M_Chance_fillErrors (zR 1 0 0 20) [.ref a, .ref s, .int (Int32.ofInt (nn : Int))] sz w (zdet none (zset (zset w a (zobj cChance [.int (zlcN c nn)])) s (zro G 32 (zif (nn : Int) (zrE c) g))) sz) := by
  have hne : a ≠ s := fun q => by rw [q, hs] at h; cases h
  refine V_iconst d_Chance_fillErrors_0 ?_
  refine V_istore_n d_Chance_fillErrors_1 (by decide) ?_
  refine V_w (w' := (zset (zset w a (zobj cChance [.int (zlcN c 0)])) s (zro G 32 (zif ((0 : Nat) : Int) (zrE c) g)))) (by rw [show ((0 : Nat) : Int) = 0 from rfl, zif_0, show zlcN c 0 = c from rfl, zset_self h, zset_self hs]) ?_
  refine zfor nn (fun i => V G M_Chance_fillErrors (zdet none (zset (zset w a (zobj cChance [.int (zlcN c nn)])) s (zro G 32 (zif (nn : Int) (zrE c) g))) sz) (zR 1 0 0 20) 0 0 sz 2 [(0, .ref a), (1, .ref s), (2, .int (Int32.ofInt (nn : Int))), (3, .int (Int32.ofInt (i : Int)))] [] (zset (zset w a (zobj cChance [.int (zlcN c i)])) s (zro G 32 (zif (i : Int) (zrE c) g)))) ?_ (fun i hi ih => ?_) 0 (Nat.zero_le nn)
  · skip
    refine V_iload_n d_Chance_fillErrors_2 rfl ?_
    refine V_iload_n d_Chance_fillErrors_3 rfl ?_
    refine J_icmp_ge 40 d_Chance_fillErrors_4 (by decide) (by omega) (by omega) (fun c_4 => ?_) (fun c_4 => absurd c_4 (by omega))
    exact V_return d_Chance_fillErrors_40 rfl ⟨Nat.le_of_ble_eq_true rfl, Nat.le_of_ble_eq_true rfl⟩ ⟨rfl, rfl, rfl⟩
  · skip
    refine V_iload_n d_Chance_fillErrors_2 rfl ?_
    refine V_iload_n d_Chance_fillErrors_3 rfl ?_
    refine J_icmp_ge 40 d_Chance_fillErrors_4 (by decide) (by omega) (by omega) (fun c_4 => absurd c_4 (by omega)) (fun c_4 => ?_)
    refine V_aload_n d_Chance_fillErrors_7 rfl ?_
    refine V_callV (n := 0) d_Chance_fillErrors_8 g_Chance_17 rfl ((zset_n hne).trans zset_s) rfl (c_draw G _ _ a (zlcN c i) ((zset_n hne).trans zset_s)) ⟨co_Chance_draw, by decide +kernel, Nat.le_of_ble_eq_true rfl⟩ ⟨Nat.le_of_ble_eq_true rfl, Nat.le_of_ble_eq_true rfl, Nat.le_of_ble_eq_true rfl, Nat.le_of_ble_eq_true rfl⟩ (Nat.le_of_ble_eq_true rfl) (fun r_8 w_8 s_8 q_8 => ?_) (fun _ _ _ q => False.elim q)
    obtain ⟨rfl, rfl, rfl⟩ := q_8
    refine V_w (zset_3 hne) ?_
    have hb := zup_b (zlc (zlcN c i))
    refine V_istore d_Chance_fillErrors_11 (by decide) ?_
    refine V_aload_n d_Chance_fillErrors_13 rfl ?_
    refine V_iload_n d_Chance_fillErrors_14 rfl ?_
    refine V_iload d_Chance_fillErrors_15 rfl ?_
    refine J_bipush d_Chance_fillErrors_17 (by decide) ?_
    refine V_iand d_Chance_fillErrors_19 ?_
    refine V_callS (n := 1) d_Chance_fillErrors_20 g_Chance_21 rfl (c_bitCount G _ _ _) ⟨co_Integer_bitCount, by decide +kernel, Nat.le_of_ble_eq_true rfl⟩ ⟨Nat.le_of_ble_eq_true rfl, Nat.le_of_ble_eq_true rfl, Nat.le_of_ble_eq_true rfl, Nat.le_of_ble_eq_true rfl⟩ (Nat.le_of_ble_eq_true rfl) (fun r_20 w_20 s_20 q_20 => ?_) (fun _ _ _ q => False.elim q)
    obtain ⟨rfl, rfl, rfl⟩ := q_20
    refine V_iload d_Chance_fillErrors_23 rfl ?_
    refine J_bipush d_Chance_fillErrors_25 (by decide) ?_
    refine V_iand d_Chance_fillErrors_27 ?_
    refine V_callS (n := 1) d_Chance_fillErrors_28 g_Chance_21 rfl (c_bitCount G _ _ _) ⟨co_Integer_bitCount, by decide +kernel, Nat.le_of_ble_eq_true rfl⟩ ⟨Nat.le_of_ble_eq_true rfl, Nat.le_of_ble_eq_true rfl, Nat.le_of_ble_eq_true rfl, Nat.le_of_ble_eq_true rfl⟩ (Nat.le_of_ble_eq_true rfl) (fun r_28 w_28 s_28 q_28 => ?_) (fun _ _ _ q => False.elim q)
    obtain ⟨rfl, rfl, rfl⟩ := q_28
    show V _ _ _ _ _ _ _ _ _ (Value.int (zbc (Int32.ofInt _ &&& Int32.ofInt 56)) :: Value.int (zbc (Int32.ofInt _ &&& Int32.ofInt 7)) :: _) _
    rw [zand_56 (by omega), zand_7 (by omega), zbc_h hb.1, zbc_l hb.1]
    have hb3 := zlo_b (zup (zlc (zlcN c i)))
    have hb4 := zhi_b (zup (zlc (zlcN c i)))
    refine J_isub d_Chance_fillErrors_31 ?_
    refine J_i2l d_Chance_fillErrors_32 (by omega) ?_
    refine J_lastore d_Chance_fillErrors_33 zset_s (by omega) (by decide) ?_
    refine J_iinc d_Chance_fillErrors_34 rfl (by decide) ?_
    refine V_goto 2 d_Chance_fillErrors_37 (by decide) ?_
    exact V_lo [0, 1, 2, 3] rfl (V_w (by rw [zset_zset, show zlc (zlcN c i) = zlcN c (i + 1) from rfl, zif_s (by omega) (by unfold zrE zer; rw [show ((i : Int)).toNat + 1 = i + 1 by omega])]; rfl) ih)

set_option maxRecDepth 100000 in
set_option maxHeartbeats 4000000 in
theorem c_fillUniform (G : zG) (sz : Nat) (w : zW) (a s nn : Nat) (c : Int32) (g : Int → Int) (h : w a = some (zobj cChance [.int c])) (hs : w s = some (zro G 32 g)) (hn : nn ≤ 32) : zCt G M_Chance_fillUniform (zR 1 0 0 20) [.ref a, .ref s, .int (Int32.ofInt (nn : Int))] sz w (zdet none (zset (zset w a (zobj cChance [.int (zlcN c (2 * nn))])) s (zro G 32 (zif (nn : Int) (zrU c) g))) sz) := by
  have hne : a ≠ s := fun q => by rw [q, hs] at h; cases h
  refine V_iconst d_Chance_fillUniform_0 ?_
  refine V_istore_n d_Chance_fillUniform_1 (by decide) ?_
  refine V_w (w' := (zset (zset w a (zobj cChance [.int (zlcN c (2 * 0))])) s (zro G 32 (zif ((0 : Nat) : Int) (zrU c) g)))) (by rw [show ((0 : Nat) : Int) = 0 from rfl, zif_0, show zlcN c (2 * 0) = c from rfl, zset_self h, zset_self hs]) ?_
  refine zfor nn (fun i => V G M_Chance_fillUniform (zdet none (zset (zset w a (zobj cChance [.int (zlcN c (2 * nn))])) s (zro G 32 (zif (nn : Int) (zrU c) g))) sz) (zR 1 0 0 20) 0 0 sz 2 [(0, .ref a), (1, .ref s), (2, .int (Int32.ofInt (nn : Int))), (3, .int (Int32.ofInt (i : Int)))] [] (zset (zset w a (zobj cChance [.int (zlcN c (2 * i))])) s (zro G 32 (zif (i : Int) (zrU c) g)))) ?_ (fun i hi ih => ?_) 0 (Nat.zero_le nn)
  · skip
    refine V_iload_n d_Chance_fillUniform_2 rfl ?_
    refine V_iload_n d_Chance_fillUniform_3 rfl ?_
    refine J_icmp_ge 39 d_Chance_fillUniform_4 (by decide) (by omega) (by omega) (fun c_4 => ?_) (fun c_4 => absurd c_4 (by omega))
    exact V_return d_Chance_fillUniform_39 rfl ⟨Nat.le_of_ble_eq_true rfl, Nat.le_of_ble_eq_true rfl⟩ ⟨rfl, rfl, rfl⟩
  · skip
    refine V_iload_n d_Chance_fillUniform_2 rfl ?_
    refine V_iload_n d_Chance_fillUniform_3 rfl ?_
    refine J_icmp_ge 39 d_Chance_fillUniform_4 (by decide) (by omega) (by omega) (fun c_4 => absurd c_4 (by omega)) (fun c_4 => ?_)
    refine V_aload_n d_Chance_fillUniform_7 rfl ?_
    refine V_callV (n := 0) d_Chance_fillUniform_8 g_Chance_17 rfl ((zset_n hne).trans zset_s) rfl (c_draw G _ _ a (zlcN c (2 * i)) ((zset_n hne).trans zset_s)) ⟨co_Chance_draw, by decide +kernel, Nat.le_of_ble_eq_true rfl⟩ ⟨Nat.le_of_ble_eq_true rfl, Nat.le_of_ble_eq_true rfl, Nat.le_of_ble_eq_true rfl, Nat.le_of_ble_eq_true rfl⟩ (Nat.le_of_ble_eq_true rfl) (fun r_8 w_8 s_8 q_8 => ?_) (fun _ _ _ q => False.elim q)
    obtain ⟨rfl, rfl, rfl⟩ := q_8
    refine V_w (zset_3 hne) ?_
    have hb := zup_b (zlc (zlcN c (2 * i)))
    refine J_i2l d_Chance_fillUniform_11 (by omega) ?_
    refine V_lstore d_Chance_fillUniform_12 (by decide) ?_
    refine V_aload_n d_Chance_fillUniform_14 rfl ?_
    refine V_iload_n d_Chance_fillUniform_15 rfl ?_
    refine J_ldc2 d_Chance_fillUniform_16 k_Chance_27 ?_
    refine V_lload d_Chance_fillUniform_19 rfl ?_
    refine J_lmul d_Chance_fillUniform_21 ?_
    refine V_aload_n d_Chance_fillUniform_22 rfl ?_
    refine V_callV (n := 0) d_Chance_fillUniform_23 g_Chance_17 rfl ((zset_n hne).trans zset_s) rfl (c_draw G _ _ a (zlc (zlcN c (2 * i))) ((zset_n hne).trans zset_s)) ⟨co_Chance_draw, by decide +kernel, Nat.le_of_ble_eq_true rfl⟩ ⟨Nat.le_of_ble_eq_true rfl, Nat.le_of_ble_eq_true rfl, Nat.le_of_ble_eq_true rfl, Nat.le_of_ble_eq_true rfl⟩ (Nat.le_of_ble_eq_true rfl) (fun r_23 w_23 s_23 q_23 => ?_) (fun _ _ _ q => False.elim q)
    obtain ⟨rfl, rfl, rfl⟩ := q_23
    refine V_w (zset_3 hne) ?_
    have hb2 := zup_b (zlc (zlc (zlcN c (2 * i))))
    refine J_i2l d_Chance_fillUniform_26 (by omega) ?_
    refine J_ladd d_Chance_fillUniform_27 ?_
    refine J_ldc2 d_Chance_fillUniform_28 k_Chance_29 ?_
    refine J_lremP d_Chance_fillUniform_31 (by omega) (by omega) ?_
    refine J_lastore d_Chance_fillUniform_32 zset_s (by omega) (by decide) ?_
    refine J_iinc d_Chance_fillUniform_33 rfl (by decide) ?_
    refine V_goto 2 d_Chance_fillUniform_36 (by decide) ?_
    exact V_lo [0, 1, 2, 3] rfl (V_w (by rw [zset_zset, show zlc (zlc (zlcN c (2 * i))) = zlcN c (2 * (i + 1)) from rfl, zif_s (by omega) (by unfold zrU; rw [show ((i : Int)).toNat = i by omega]; rfl)]; rfl) ih)
end
section
theorem cp_nat : zin (.native arraycopyName) := ⟨List.mem_append_right _ (List.mem_of_getElem? (i := 454) (by decide +kernel)), by decide +kernel⟩
theorem cp_st : zin (.static arraycopyName) := ⟨List.mem_append_right _ (List.mem_of_getElem? (i := 453) (by decide +kernel)), by decide +kernel⟩
theorem cp_ini : zin (.initialized "java/lang/System") := ⟨List.mem_append_right _ (List.mem_of_getElem? (i := 17) (by decide +kernel)), by decide +kernel⟩
theorem gs_Ring_23 : zGs "RingCipher$Ring" 23 "SIZES" "[I" := Or.inr ⟨"RingCipher", List.mem_append_right _ (List.mem_of_getElem? (i := 36) (by decide +kernel)), by decide +kernel⟩
theorem gs_Ring_30 : zGs "RingCipher$Ring" 30 "MODULI" "[I" := Or.inr ⟨"RingCipher", List.mem_append_right _ (List.mem_of_getElem? (i := 38) (by decide +kernel)), by decide +kernel⟩
theorem gs_X_48 : zGs "RingCipher" 48 "SIZES" "[I" := Or.inl ⟨List.mem_append_right _ (List.mem_of_getElem? (i := 272) (by decide +kernel)), by decide +kernel⟩
theorem cp_X_133 : zin (.methodLink "RingCipher" 133 arraycopyName) := ⟨List.mem_append_right _ (List.mem_of_getElem? (i := 452) (by decide +kernel)), by decide +kernel⟩
theorem cp_Ring_60 : zin (.methodLink "RingCipher$Ring" 60 arraycopyName) := ⟨List.mem_append_right _ (List.mem_of_getElem? (i := 499) (by decide +kernel)), by decide +kernel⟩
/-! Ring's numbers -/
def zQ0 : Int := 268435399
def zpm (t b : Int) : Nat → Int
  | 0 => 1
  | e + 1 => zpm t b e * b % t
theorem zpm_b {t b : Int} (ht : 1 < t) (e : Nat) : 0 ≤ zpm t b e ∧ zpm t b e < t := by
  cases e with
  | zero => exact ⟨by show (0 : Int) ≤ 1; omega, ht⟩
  | succ e => exact ⟨Int.emod_nonneg _ (by omega), Int.emod_lt_of_pos _ (by omega)⟩
theorem zmulb {a b A B : Int} (ha : 0 ≤ a ∧ a ≤ A) (hb : 0 ≤ b ∧ b ≤ B) : 0 ≤ a * b ∧ a * b ≤ A * B :=
  ⟨Int.mul_nonneg ha.1 hb.1, Int.mul_le_mul ha.2 hb.2 hb.1 (by omega)⟩
def zts (t x : Int) : Int := t * (x / 268435399) + (2 * t * (x % 268435399) + 268435399) / 536870798
def zct (x : Int) : Int := if 134217699 < x % 268435399 then x % 268435399 - 268435399 else x % 268435399
theorem zct_b (x : Int) : -134217699 ≤ zct x ∧ zct x ≤ 134217699 := by
  unfold zct
  split <;> omega
/-- the places and values of x^g for x, one after the other -/
def zsp (n g : Int) (i : Nat) : Int := if g * i % (2 * n) < n then g * i % (2 * n) else g * i % (2 * n) - n
def zsv (n g : Int) (f : Int → Int) (i : Nat) : Int := if g * i % (2 * n) < n then f i % 268435399 else -f i % 268435399
def zsb (n g : Int) (f b : Int → Int) : Nat → Int → Int
  | 0 => b
  | i + 1 => zu (zsb n g f b i) (zsp n g i) (zsv n g f i)
/-- the sums of evaluate and interpolate -/
def zes (f pw : Int → Int) (ix : Nat → Int) : Nat → Int
  | 0 => 0
  | j + 1 => zes f pw ix j + f j * pw (ix j)
theorem zes_b {f pw : Int → Int} {ix : Nat → Int} {n : Nat} (hf : ∀ j : Nat, j < n → 0 ≤ f j ∧ f j ≤ 1000) (hp : ∀ j : Nat, j < n → 0 ≤ pw (ix j) ∧ pw (ix j) ≤ 1000) : ∀ j, j ≤ n → 0 ≤ zes f pw ix j ∧ zes f pw ix j ≤ j * 1000000
  | 0, _ => by constructor <;> simp [zes]
  | j + 1, h => by
    have ih := zes_b hf hp j (by omega)
    have h2 := zmulb (hf j (by omega)) (hp j (by omega))
    show 0 ≤ zes f pw ix j + f j * pw (ix j) ∧ zes f pw ix j + f j * pw (ix j) ≤ ((j + 1 : Nat) : Int) * 1000000
    omega
/-- the least root, searched from c on -/
def zlr (t : Int) (n : Nat) : Nat → Int → Int
  | 0, c => c
  | f + 1, c => if c < t ∧ ¬ zpm t c n = t - 1 then zlr t n f (c + 1) else c
end
section
set_option maxRecDepth 100000 in
set_option maxHeartbeats 4000000 in
theorem c_powerModT (G : zG) (sz : Nat) (w : zW) (r pw : Nat) (kd n t zz : Int) (b : Int) (e : Nat) (h : w r = some (zobj cRing [.int (Int32.ofInt kd), .int (Int32.ofInt n), .int (Int32.ofInt t), .int (Int32.ofInt zz), .ref pw])) (ht : 1 < t ∧ t ≤ 1000) (hb : 0 ≤ b ∧ b ≤ 1000) (he : e < 100000) : zCt G M_Ring_powerModT (zR 0 0 0 0) [.ref r, .long (Int64.ofInt b), .int (Int32.ofInt (e : Int))] sz w (zdet (some (.long (Int64.ofInt (zpm t b e)))) w sz) := by
  refine J_lconst (z := 1) d_Ring_powerModT_0 rfl ?_
  refine V_lstore d_Ring_powerModT_1 (by decide) ?_
  refine V_iconst d_Ring_powerModT_3 ?_
  refine V_istore d_Ring_powerModT_4 (by decide) ?_
  refine zfor e (fun i => V G M_Ring_powerModT (zdet (some (.long (Int64.ofInt (zpm t b e)))) w sz) (zR 0 0 0 0) 0 0 sz 6 [(0, .ref r), (1, .long (Int64.ofInt b)), (3, .int (Int32.ofInt (e : Int))), (4, .long (Int64.ofInt (zpm t b i))), (6, .int (Int32.ofInt (i : Int)))] [] w) ?_ (fun i hi ih => ?_) 0 (Nat.zero_le e)
  · skip
    refine V_iload d_Ring_powerModT_6 rfl ?_
    refine V_iload_n d_Ring_powerModT_8 rfl ?_
    refine J_icmp_ge 30 d_Ring_powerModT_9 (by decide) (by omega) (by omega) (fun c_9 => ?_) (fun c_9 => absurd c_9 (by omega))
    refine V_lload d_Ring_powerModT_30 rfl ?_
    exact V_lreturn d_Ring_powerModT_32 rfl ⟨Nat.le_of_ble_eq_true rfl, Nat.le_of_ble_eq_true rfl⟩ ⟨rfl, rfl, rfl⟩
  · have hp := zpm_b (b := b) ht.1 i
    have hm := zmulb (a := zpm t b i) (b := b) (A := 1000) (B := 1000) (by omega) (by omega)
    refine V_iload d_Ring_powerModT_6 rfl ?_
    refine V_iload_n d_Ring_powerModT_8 rfl ?_
    refine J_icmp_ge 30 d_Ring_powerModT_9 (by decide) (by omega) (by omega) (fun c_9 => absurd c_9 (by omega)) (fun c_9 => ?_)
    refine V_lload d_Ring_powerModT_12 rfl ?_
    refine V_lload_n d_Ring_powerModT_14 rfl ?_
    refine J_lmul d_Ring_powerModT_15 ?_
    refine V_aload_n d_Ring_powerModT_16 rfl ?_
    refine V_getf d_Ring_powerModT_17 ff_Ring_33 h rfl ?_
    refine J_i2l d_Ring_powerModT_20 (by omega) ?_
    refine J_lremP d_Ring_powerModT_21 (by omega) (by omega) ?_
    refine V_lstore d_Ring_powerModT_22 (by decide) ?_
    refine J_iinc d_Ring_powerModT_24 rfl (by decide) ?_
    refine V_goto 6 d_Ring_powerModT_27 (by decide) ?_
    exact ih

set_option maxRecDepth 100000 in
set_option maxHeartbeats 4000000 in
theorem c_timesTOverQ (G : zG) (sz : Nat) (w : zW) (r pw : Nat) (kd n t zz : Int) (x : Int) (h : w r = some (zobj cRing [.int (Int32.ofInt kd), .int (Int32.ofInt n), .int (Int32.ofInt t), .int (Int32.ofInt zz), .ref pw])) (ht : 1 < t ∧ t ≤ 1000) (hx : -4611686018427387904 ≤ x ∧ x ≤ 4611686018427387904) : zCt G M_Ring_timesTOverQ (zR 1 0 0 25) [.ref r, .long (Int64.ofInt x)] sz w (zdet (some (.long (Int64.ofInt (zts t x)))) w sz) := by
  have h1 : 0 ≤ x % 268435399 ∧ x % 268435399 < 268435399 := by omega
  have h2 : -34359738368 ≤ x / 268435399 ∧ x / 268435399 ≤ 34359738368 := by omega
  have h3 := zmulb (a := 2 * t) (b := x % 268435399) (A := 2000) (B := 268435399) (by omega) (by omega)
  refine V_lload_n d_Ring_timesTOverQ_0 rfl ?_
  refine J_ldc2 d_Ring_timesTOverQ_1 k_Ring_47 ?_
  refine V_callS (n := 2) d_Ring_timesTOverQ_4 g_Ring_49 rfl (c_fdivJ G _ _ x 268435399 (by omega) (by decide)) ⟨co_Math_floorDiv, by decide +kernel, Nat.le_of_ble_eq_true rfl⟩ ⟨Nat.le_of_ble_eq_true rfl, Nat.le_of_ble_eq_true rfl, Nat.le_of_ble_eq_true rfl, Nat.le_of_ble_eq_true rfl⟩ (Nat.le_of_ble_eq_true rfl) (fun r_4 w_4 s_4 q_4 => ?_) (fun _ _ _ q => False.elim q)
  obtain ⟨rfl, rfl, rfl⟩ := q_4
  refine V_lstore_n d_Ring_timesTOverQ_7 (by decide) ?_
  refine V_lload_n d_Ring_timesTOverQ_8 rfl ?_
  refine J_ldc2 d_Ring_timesTOverQ_9 k_Ring_47 ?_
  refine V_callS (n := 2) d_Ring_timesTOverQ_12 g_Ring_55 rfl (c_fmodJ G _ _ x 268435399 (by omega) (by decide)) ⟨co_Math_floorMod_JJ, by decide +kernel, Nat.le_of_ble_eq_true rfl⟩ ⟨Nat.le_of_ble_eq_true rfl, Nat.le_of_ble_eq_true rfl, Nat.le_of_ble_eq_true rfl, Nat.le_of_ble_eq_true rfl⟩ (Nat.le_of_ble_eq_true rfl) (fun r_12 w_12 s_12 q_12 => ?_) (fun _ _ _ q => False.elim q)
  obtain ⟨rfl, rfl, rfl⟩ := q_12
  refine V_lstore d_Ring_timesTOverQ_15 (by decide) ?_
  refine V_aload_n d_Ring_timesTOverQ_17 rfl ?_
  refine V_getf d_Ring_timesTOverQ_18 ff_Ring_33 h rfl ?_
  refine J_i2l d_Ring_timesTOverQ_21 (by omega) ?_
  refine V_lload_n d_Ring_timesTOverQ_22 rfl ?_
  refine J_lmul d_Ring_timesTOverQ_23 ?_
  refine V_iconst d_Ring_timesTOverQ_24 ?_
  refine V_aload_n d_Ring_timesTOverQ_25 rfl ?_
  refine V_getf d_Ring_timesTOverQ_26 ff_Ring_33 h rfl ?_
  refine J_imul d_Ring_timesTOverQ_29 ?_
  refine J_i2l d_Ring_timesTOverQ_30 (by omega) ?_
  refine V_lload d_Ring_timesTOverQ_31 rfl ?_
  refine J_lmul d_Ring_timesTOverQ_33 ?_
  refine J_ldc2 d_Ring_timesTOverQ_34 k_Ring_47 ?_
  refine J_ladd d_Ring_timesTOverQ_37 ?_
  refine J_ldc2 d_Ring_timesTOverQ_38 k_Ring_58 ?_
  refine J_ldivP d_Ring_timesTOverQ_41 (by omega) (by omega) ?_
  refine J_ladd d_Ring_timesTOverQ_42 ?_
  exact V_lreturn d_Ring_timesTOverQ_43 rfl ⟨Nat.le_of_ble_eq_true rfl, Nat.le_of_ble_eq_true rfl⟩ ⟨rfl, rfl, rfl⟩

set_option maxRecDepth 100000 in
set_option maxHeartbeats 4000000 in
theorem c_centred (G : zG) (sz : Nat) (w : zW) (x : Int) (hx : -9223372036854775808 ≤ x ∧ x < 9223372036854775808) : zCt G M_X_centred (zR 1 0 0 25) [.long (Int64.ofInt x)] sz w (zdet (some (.long (Int64.ofInt (zct x)))) w sz) := by
  have h1 : 0 ≤ x % 268435399 ∧ x % 268435399 < 268435399 := by omega
  refine V_lload_n d_X_centred_0 rfl ?_
  refine J_ldc2 d_X_centred_1 k_X_306 ?_
  refine V_callS (n := 2) d_X_centred_4 g_X_184 rfl (c_fmodJ G _ _ x 268435399 hx (by decide)) ⟨co_Math_floorMod_JJ, by decide +kernel, Nat.le_of_ble_eq_true rfl⟩ ⟨Nat.le_of_ble_eq_true rfl, Nat.le_of_ble_eq_true rfl, Nat.le_of_ble_eq_true rfl, Nat.le_of_ble_eq_true rfl⟩ (Nat.le_of_ble_eq_true rfl) (fun r_4 w_4 s_4 q_4 => ?_) (fun _ _ _ q => False.elim q)
  obtain ⟨rfl, rfl, rfl⟩ := q_4
  refine V_lstore_n d_X_centred_7 (by decide) ?_
  refine V_lload_n d_X_centred_8 rfl ?_
  refine J_ldc2 d_X_centred_9 k_X_308 ?_
  refine JL_le 24 d_X_centred_12 d_X_centred_13 (by decide) (by omega) (by omega) (fun c_12 => ?_) (fun c_12 => ?_)
  · skip
    refine V_lload_n d_X_centred_24 rfl ?_
    exact V_lreturn d_X_centred_25 rfl ⟨Nat.le_of_ble_eq_true rfl, Nat.le_of_ble_eq_true rfl⟩ ⟨by unfold zct; (first | rw [if_pos (by omega)] | rw [if_neg (by omega)]), rfl, rfl⟩
  · skip
    refine V_lload_n d_X_centred_16 rfl ?_
    refine J_ldc2 d_X_centred_17 k_X_306 ?_
    refine J_lsub d_X_centred_20 ?_
    refine V_goto 25 d_X_centred_21 (by decide) ?_
    exact V_lreturn d_X_centred_25 rfl ⟨Nat.le_of_ble_eq_true rfl, Nat.le_of_ble_eq_true rfl⟩ ⟨by unfold zct; (first | rw [if_pos (by omega)] | rw [if_neg (by omega)]), rfl, rfl⟩

set_option maxRecDepth 100000 in
set_option maxHeartbeats 4000000 in
theorem c_reduce (G : zG) (sz : Nat) (w : zW) (r pw : Nat) (kd n t zz : Int) (s a nn : Nat) (g h : Int → Int) (hr : w r = some (zobj cRing [.int (Int32.ofInt kd), .int (Int32.ofInt n), .int (Int32.ofInt t), .int (Int32.ofInt zz), .ref pw])) (hs : w s = some (zro G 32 g)) (ha : w a = some (zro G 32 h)) (has : a ≠ s) (hnn : n = (nn : Int)) (hn : nn ≤ 32) (hh : ∀ j : Nat, j < nn → -9223372036854775808 ≤ h j ∧ h j < 9223372036854775808) : zCt G M_Ring_reduce (zR 1 0 0 25) [.ref r, .ref s, .ref a] sz w (zdet none (zset w s (zro G 32 (zif (nn : Int) (fun j => h j % 268435399) g))) sz) := by
  have hrs : r ≠ s := fun q => by rw [q, hs] at hr; cases hr
  subst hnn
  refine V_iconst d_Ring_reduce_0 ?_
  refine V_istore_n d_Ring_reduce_1 (by decide) ?_
  refine V_w (w' := zset w s (zro G 32 (zif ((0 : Nat) : Int) (fun j => h j % 268435399) g))) (by rw [show ((0 : Nat) : Int) = 0 from rfl, zif_0, zset_self hs]) ?_
  refine zfor nn (fun i => V G M_Ring_reduce (zdet none (zset w s (zro G 32 (zif (nn : Int) (fun j => h j % 268435399) g))) sz) (zR 1 0 0 25) 0 0 sz 2 [(0, .ref r), (1, .ref s), (2, .ref a), (3, .int (Int32.ofInt (i : Int)))] [] (zset w s (zro G 32 (zif (i : Int) (fun j => h j % 268435399) g)))) ?_ (fun i hi ih => ?_) 0 (Nat.zero_le nn)
  · skip
    refine V_iload_n d_Ring_reduce_2 rfl ?_
    refine V_aload_n d_Ring_reduce_3 rfl ?_
    refine V_getf d_Ring_reduce_4 ff_Ring_27 ((zset_n hrs).trans hr) rfl ?_
    refine J_icmp_ge 28 d_Ring_reduce_7 (by decide) (by omega) (by omega) (fun c_7 => ?_) (fun c_7 => absurd c_7 (by omega))
    exact V_return d_Ring_reduce_28 rfl ⟨Nat.le_of_ble_eq_true rfl, Nat.le_of_ble_eq_true rfl⟩ ⟨rfl, rfl, rfl⟩
  · skip
    refine V_iload_n d_Ring_reduce_2 rfl ?_
    refine V_aload_n d_Ring_reduce_3 rfl ?_
    refine V_getf d_Ring_reduce_4 ff_Ring_27 ((zset_n hrs).trans hr) rfl ?_
    refine J_icmp_ge 28 d_Ring_reduce_7 (by decide) (by omega) (by omega) (fun c_7 => absurd c_7 (by omega)) (fun c_7 => ?_)
    refine V_aload_n d_Ring_reduce_10 rfl ?_
    refine V_iload_n d_Ring_reduce_11 rfl ?_
    refine V_aload_n d_Ring_reduce_12 rfl ?_
    refine V_iload_n d_Ring_reduce_13 rfl ?_
    refine J_laload d_Ring_reduce_14 ((zset_n has).trans ha) (by omega) (by decide) ?_
    refine J_ldc2 d_Ring_reduce_15 k_Ring_47 ?_
    refine V_callS (n := 2) d_Ring_reduce_18 g_Ring_55 rfl (c_fmodJ G _ _ (h i) 268435399 (hh i hi) (by decide)) ⟨co_Math_floorMod_JJ, by decide +kernel, Nat.le_of_ble_eq_true rfl⟩ ⟨Nat.le_of_ble_eq_true rfl, Nat.le_of_ble_eq_true rfl, Nat.le_of_ble_eq_true rfl, Nat.le_of_ble_eq_true rfl⟩ (Nat.le_of_ble_eq_true rfl) (fun r_18 w_18 s_18 q_18 => ?_) (fun _ _ _ q => False.elim q)
    obtain ⟨rfl, rfl, rfl⟩ := q_18
    refine J_lastore d_Ring_reduce_21 zset_s (by omega) (by decide) ?_
    refine J_iinc d_Ring_reduce_22 rfl (by decide) ?_
    refine V_goto 2 d_Ring_reduce_25 (by decide) ?_
    exact V_w (by rw [zset_zset, zif_s (by omega) rfl]; rfl) ih

set_option maxRecDepth 100000 in
set_option maxHeartbeats 4000000 in
theorem c_centre (G : zG) (sz : Nat) (w : zW) (r pw : Nat) (kd n t zz : Int) (s a nn : Nat) (g h : Int → Int) (hr : w r = some (zobj cRing [.int (Int32.ofInt kd), .int (Int32.ofInt n), .int (Int32.ofInt t), .int (Int32.ofInt zz), .ref pw])) (hs : w s = some (zro G 32 g)) (ha : w a = some (zro G 32 h)) (has : a ≠ s) (hnn : n = (nn : Int)) (hn : nn ≤ 32) (hh : ∀ j : Nat, j < nn → -9223372036854775808 ≤ h j ∧ h j < 9223372036854775808) : zCt G M_Ring_centre (zR 2 0 0 48) [.ref r, .ref s, .ref a] sz w (zdet none (zset w s (zro G 32 (zif (nn : Int) (fun j => zct (h j)) g))) sz) := by
  have hrs : r ≠ s := fun q => by rw [q, hs] at hr; cases hr
  subst hnn
  refine V_iconst d_Ring_centre_0 ?_
  refine V_istore_n d_Ring_centre_1 (by decide) ?_
  refine V_w (w' := zset w s (zro G 32 (zif ((0 : Nat) : Int) (fun j => zct (h j)) g))) (by rw [show ((0 : Nat) : Int) = 0 from rfl, zif_0, zset_self hs]) ?_
  refine zfor nn (fun i => V G M_Ring_centre (zdet none (zset w s (zro G 32 (zif (nn : Int) (fun j => zct (h j)) g))) sz) (zR 2 0 0 48) 0 0 sz 2 [(0, .ref r), (1, .ref s), (2, .ref a), (3, .int (Int32.ofInt (i : Int)))] [] (zset w s (zro G 32 (zif (i : Int) (fun j => zct (h j)) g)))) ?_ (fun i hi ih => ?_) 0 (Nat.zero_le nn)
  · skip
    refine V_iload_n d_Ring_centre_2 rfl ?_
    refine V_aload_n d_Ring_centre_3 rfl ?_
    refine V_getf d_Ring_centre_4 ff_Ring_27 ((zset_n hrs).trans hr) rfl ?_
    refine J_icmp_ge 25 d_Ring_centre_7 (by decide) (by omega) (by omega) (fun c_7 => ?_) (fun c_7 => absurd c_7 (by omega))
    exact V_return d_Ring_centre_25 rfl ⟨Nat.le_of_ble_eq_true rfl, Nat.le_of_ble_eq_true rfl⟩ ⟨rfl, rfl, rfl⟩
  · skip
    refine V_iload_n d_Ring_centre_2 rfl ?_
    refine V_aload_n d_Ring_centre_3 rfl ?_
    refine V_getf d_Ring_centre_4 ff_Ring_27 ((zset_n hrs).trans hr) rfl ?_
    refine J_icmp_ge 25 d_Ring_centre_7 (by decide) (by omega) (by omega) (fun c_7 => absurd c_7 (by omega)) (fun c_7 => ?_)
    refine V_aload_n d_Ring_centre_10 rfl ?_
    refine V_iload_n d_Ring_centre_11 rfl ?_
    refine V_aload_n d_Ring_centre_12 rfl ?_
    refine V_iload_n d_Ring_centre_13 rfl ?_
    refine J_laload d_Ring_centre_14 ((zset_n has).trans ha) (by omega) (by decide) ?_
    refine V_callS (n := 1) d_Ring_centre_15 g_Ring_66 rfl (c_centred G _ _ (h i) (hh i hi)) ⟨co_X_centred, by decide +kernel, Nat.le_of_ble_eq_true rfl⟩ ⟨Nat.le_of_ble_eq_true rfl, Nat.le_of_ble_eq_true rfl, Nat.le_of_ble_eq_true rfl, Nat.le_of_ble_eq_true rfl⟩ (Nat.le_of_ble_eq_true rfl) (fun r_15 w_15 s_15 q_15 => ?_) (fun _ _ _ q => False.elim q)
    obtain ⟨rfl, rfl, rfl⟩ := q_15
    refine J_lastore d_Ring_centre_18 zset_s (by omega) (by decide) ?_
    refine J_iinc d_Ring_centre_19 rfl (by decide) ?_
    refine V_goto 2 d_Ring_centre_22 (by decide) ?_
    exact V_w (by rw [zset_zset, zif_s (by omega) rfl]; rfl) ih

set_option maxRecDepth 100000 in
set_option maxHeartbeats 4000000 in
theorem c_copy (G : zG) (sz : Nat) (w : zW) (r pw : Nat) (kd n t zz : Int) (s a : Nat) (g h : Int → Int) (hr : w r = some (zobj cRing [.int (Int32.ofInt kd), .int (Int32.ofInt n), .int (Int32.ofInt t), .int (Int32.ofInt zz), .ref pw])) (hs : w s = some (zro G 32 g)) (ha : w a = some (zro G 32 h)) (hn : 0 ≤ n ∧ n ≤ 32) : zCt G M_Ring_copy (zR 1 0 0 26) [.ref r, .ref s, .ref a] sz w (zdet none (zset w s (zro G 32 (zif n h g))) sz) := by
  refine V_aload_n d_Ring_copy_0 rfl ?_
  refine V_iconst d_Ring_copy_1 ?_
  refine V_aload_n d_Ring_copy_2 rfl ?_
  refine V_iconst d_Ring_copy_3 ?_
  refine V_aload_n d_Ring_copy_4 rfl ?_
  refine V_getf d_Ring_copy_5 ff_Ring_27 hr rfl ?_
  refine J_copy d_Ring_copy_8 cp_Ring_60 cp_nat cp_st cp_ini ha hs ⟨by omega, by omega, by omega, by omega⟩ (Nat.le_of_ble_eq_true rfl) (Nat.le_of_ble_eq_true rfl) ?_
  exact V_return d_Ring_copy_11 rfl ⟨Nat.le_of_ble_eq_true rfl, Nat.le_of_ble_eq_true rfl⟩ ⟨rfl, rfl, rfl⟩

set_option maxRecDepth 100000 in
set_option maxHeartbeats 4000000 in
theorem c_substitute (G : zG) (sz : Nat) (w : zW) (r pw : Nat) (kd n t zz : Int) (s a nn : Nat) (gg : Int) (g h : Int → Int) (hr : w r = some (zobj cRing [.int (Int32.ofInt kd), .int (Int32.ofInt n), .int (Int32.ofInt t), .int (Int32.ofInt zz), .ref pw])) (hs : w s = some (zro G 32 g)) (ha : w a = some (zro G 32 h)) (has : a ≠ s) (hnn : n = (nn : Int)) (hn : nn ≤ 32) (hg : 0 ≤ gg ∧ gg ≤ 64) (hh : ∀ j : Nat, j < nn → -9223372036854775808 < h j ∧ h j < 9223372036854775808) : zCt G M_Ring_substitute (zR 1 0 0 25) [.ref r, .ref s, .ref a, .int (Int32.ofInt gg)] sz w (zdet none (zset w s (zro G 32 (zsb (nn : Int) gg h g nn))) sz) := by
  have hrs : r ≠ s := fun q => by rw [q, hs] at hr; cases hr
  subst hnn
  refine V_iconst d_Ring_substitute_0 ?_
  refine V_istore d_Ring_substitute_1 (by decide) ?_
  refine V_w (w' := zset w s (zro G 32 (zsb (nn : Int) gg h g 0))) (by rw [show zsb (nn : Int) gg h g 0 = g from rfl, zset_self hs]) ?_
  refine zfor nn (fun i => V G M_Ring_substitute (zdet none (zset w s (zro G 32 (zsb (nn : Int) gg h g nn))) sz) (zR 1 0 0 25) 0 0 sz 3 [(0, .ref r), (1, .ref s), (2, .ref a), (3, .int (Int32.ofInt gg)), (4, .int (Int32.ofInt (i : Int)))] [] (zset w s (zro G 32 (zsb (nn : Int) gg h g i)))) ?_ (fun i hi ih => ?_) 0 (Nat.zero_le nn)
  · skip
    refine V_iload d_Ring_substitute_3 rfl ?_
    refine V_aload_n d_Ring_substitute_5 rfl ?_
    refine V_getf d_Ring_substitute_6 ff_Ring_27 ((zset_n hrs).trans hr) rfl ?_
    refine J_icmp_ge 77 d_Ring_substitute_9 (by decide) (by omega) (by omega) (fun c_9 => ?_) (fun c_9 => absurd c_9 (by omega))
    exact V_return d_Ring_substitute_77 rfl ⟨Nat.le_of_ble_eq_true rfl, Nat.le_of_ble_eq_true rfl⟩ ⟨rfl, rfl, rfl⟩
  · have hm := zmulb (a := gg) (b := (i : Int)) (A := 64) (B := 32) (by omega) (by omega)
    have he : 0 ≤ gg * (i : Int) % (2 * (nn : Int)) ∧ gg * (i : Int) % (2 * (nn : Int)) < 2 * (nn : Int) := ⟨Int.emod_nonneg _ (by omega), Int.emod_lt_of_pos _ (by omega)⟩
    have hv := hh i hi
    refine V_iload d_Ring_substitute_3 rfl ?_
    refine V_aload_n d_Ring_substitute_5 rfl ?_
    refine V_getf d_Ring_substitute_6 ff_Ring_27 ((zset_n hrs).trans hr) rfl ?_
    refine J_icmp_ge 77 d_Ring_substitute_9 (by decide) (by omega) (by omega) (fun c_9 => absurd c_9 (by omega)) (fun c_9 => ?_)
    refine V_iload_n d_Ring_substitute_12 rfl ?_
    refine V_iload d_Ring_substitute_13 rfl ?_
    refine J_imul d_Ring_substitute_15 ?_
    refine V_iconst d_Ring_substitute_16 ?_
    refine V_aload_n d_Ring_substitute_17 rfl ?_
    refine V_getf d_Ring_substitute_18 ff_Ring_27 ((zset_n hrs).trans hr) rfl ?_
    refine J_imul d_Ring_substitute_21 ?_
    refine J_iremP d_Ring_substitute_22 (by omega) (by omega) ?_
    refine V_istore d_Ring_substitute_23 (by decide) ?_
    refine V_iload d_Ring_substitute_25 rfl ?_
    refine V_aload_n d_Ring_substitute_27 rfl ?_
    refine V_getf d_Ring_substitute_28 ff_Ring_27 ((zset_n hrs).trans hr) rfl ?_
    refine J_icmp_ge 51 d_Ring_substitute_31 (by decide) (by omega) (by omega) (fun c_31 => ?_) (fun c_31 => ?_)
    · skip
      refine V_aload_n d_Ring_substitute_51 rfl ?_
      refine V_iload d_Ring_substitute_52 rfl ?_
      refine V_aload_n d_Ring_substitute_54 rfl ?_
      refine V_getf d_Ring_substitute_55 ff_Ring_27 ((zset_n hrs).trans hr) rfl ?_
      refine J_isub d_Ring_substitute_58 ?_
      refine V_aload_n d_Ring_substitute_59 rfl ?_
      refine V_iload d_Ring_substitute_60 rfl ?_
      refine J_laload d_Ring_substitute_62 ((zset_n has).trans ha) (by omega) (by decide) ?_
      refine J_lneg d_Ring_substitute_63 ?_
      refine J_ldc2 d_Ring_substitute_64 k_Ring_47 ?_
      refine V_callS (n := 2) d_Ring_substitute_67 g_Ring_55 rfl (c_fmodJ G _ _ (-h i) 268435399 (by omega) (by decide)) ⟨co_Math_floorMod_JJ, by decide +kernel, Nat.le_of_ble_eq_true rfl⟩ ⟨Nat.le_of_ble_eq_true rfl, Nat.le_of_ble_eq_true rfl, Nat.le_of_ble_eq_true rfl, Nat.le_of_ble_eq_true rfl⟩ (Nat.le_of_ble_eq_true rfl) (fun r_67 w_67 s_67 q_67 => ?_) (fun _ _ _ q => False.elim q)
      obtain ⟨rfl, rfl, rfl⟩ := q_67
      refine J_lastore d_Ring_substitute_70 zset_s (by omega) (by decide) ?_
      refine J_iinc d_Ring_substitute_71 rfl (by decide) ?_
      refine V_goto 3 d_Ring_substitute_74 (by decide) ?_
      exact V_lo [0, 1, 2, 3, 4] rfl (V_w (by rw [zset_zset, show zsb (nn : Int) gg h g (i + 1) = zu (zsb (nn : Int) gg h g i) (zsp (nn : Int) gg i) (zsv (nn : Int) gg h i) from rfl]; unfold zsp zsv; rw [if_neg (by omega), if_neg (by omega)]) ih)
    · skip
      refine V_aload_n d_Ring_substitute_34 rfl ?_
      refine V_iload d_Ring_substitute_35 rfl ?_
      refine V_aload_n d_Ring_substitute_37 rfl ?_
      refine V_iload d_Ring_substitute_38 rfl ?_
      refine J_laload d_Ring_substitute_40 ((zset_n has).trans ha) (by omega) (by decide) ?_
      refine J_ldc2 d_Ring_substitute_41 k_Ring_47 ?_
      refine V_callS (n := 2) d_Ring_substitute_44 g_Ring_55 rfl (c_fmodJ G _ _ (h i) 268435399 (by omega) (by decide)) ⟨co_Math_floorMod_JJ, by decide +kernel, Nat.le_of_ble_eq_true rfl⟩ ⟨Nat.le_of_ble_eq_true rfl, Nat.le_of_ble_eq_true rfl, Nat.le_of_ble_eq_true rfl, Nat.le_of_ble_eq_true rfl⟩ (Nat.le_of_ble_eq_true rfl) (fun r_44 w_44 s_44 q_44 => ?_) (fun _ _ _ q => False.elim q)
      obtain ⟨rfl, rfl, rfl⟩ := q_44
      refine J_lastore d_Ring_substitute_47 zset_s (by omega) (by decide) ?_
      refine V_goto 71 d_Ring_substitute_48 (by decide) ?_
      refine J_iinc d_Ring_substitute_71 rfl (by decide) ?_
      refine V_goto 3 d_Ring_substitute_74 (by decide) ?_
      exact V_lo [0, 1, 2, 3, 4] rfl (V_w (by rw [zset_zset, show zsb (nn : Int) gg h g (i + 1) = zu (zsb (nn : Int) gg h g i) (zsp (nn : Int) gg i) (zsv (nn : Int) gg h i) from rfl]; unfold zsp zsv; rw [if_pos (by omega), if_pos (by omega)]) ih)

set_option maxRecDepth 100000 in
set_option maxHeartbeats 4000000 in
theorem c_evaluate (G : zG) (sz : Nat) (w : zW) (r pw : Nat) (kd n t zz : Int) (s a nn : Nat) (g : Int → Int) (h p : Int → Int) (hr : w r = some (zobj cRing [.int (Int32.ofInt kd), .int (Int32.ofInt n), .int (Int32.ofInt t), .int (Int32.ofInt zz), .ref pw])) (hs : w s = some (zro G 32 g)) (ha : w a = some (zro G 32 h)) (hpw : w pw = some (zro G 64 p)) (has : a ≠ s) (hps : pw ≠ s) (hnn : n = (nn : Int)) (hn : nn ≤ 32) (ht : 1 < t ∧ t ≤ 1000) (hh : ∀ j : Nat, j < nn → 0 ≤ h j ∧ h j ≤ 1000) (hp : ∀ j : Int, 0 ≤ j → j < 2 * nn → 0 ≤ p j ∧ p j ≤ 1000) : zCt G M_Ring_evaluate (zR 0 0 0 0) [.ref r, .ref s, .ref a] sz w (zdet none (zset w s (zro G 32 (zif (nn : Int) (fun (x : Int) => zes h p (fun j => (2 * x + 1) * (j : Int) % (2 * (nn : Int))) nn % t) g))) sz) := by
  have hrs : r ≠ s := fun q => by rw [q, hs] at hr; cases hr
  subst hnn
  refine V_iconst d_Ring_evaluate_0 ?_
  refine V_istore_n d_Ring_evaluate_1 (by decide) ?_
  refine V_w (w' := zset w s (zro G 32 (zif ((0 : Nat) : Int) (fun (x : Int) => zes h p (fun j => (2 * x + 1) * (j : Int) % (2 * (nn : Int))) nn % t) g))) (by rw [show ((0 : Nat) : Int) = 0 from rfl, zif_0, zset_self hs]) ?_
  refine zfor nn (fun i => V G M_Ring_evaluate (zdet none (zset w s (zro G 32 (zif (nn : Int) (fun (x : Int) => zes h p (fun j => (2 * x + 1) * (j : Int) % (2 * (nn : Int))) nn % t) g))) sz) (zR 0 0 0 0) 0 0 sz 2 [(0, .ref r), (1, .ref s), (2, .ref a), (3, .int (Int32.ofInt (i : Int)))] [] (zset w s (zro G 32 (zif (i : Int) (fun (x : Int) => zes h p (fun j => (2 * x + 1) * (j : Int) % (2 * (nn : Int))) nn % t) g)))) ?_ (fun i hi ih => ?_) 0 (Nat.zero_le nn)
  · skip
    refine V_iload_n d_Ring_evaluate_2 rfl ?_
    refine V_aload_n d_Ring_evaluate_3 rfl ?_
    refine V_getf d_Ring_evaluate_4 ff_Ring_27 ((zset_n hrs).trans hr) rfl ?_
    refine J_icmp_ge 78 d_Ring_evaluate_7 (by decide) (by omega) (by omega) (fun c_7 => ?_) (fun c_7 => absurd c_7 (by omega))
    exact V_return d_Ring_evaluate_78 rfl ⟨Nat.le_of_ble_eq_true rfl, Nat.le_of_ble_eq_true rfl⟩ ⟨rfl, rfl, rfl⟩
  · have hb := zes_b (f := h) (pw := p) (ix := fun j => (2 * (i : Int) + 1) * (j : Int) % (2 * (nn : Int))) hh (fun j hj => hp _ (Int.emod_nonneg _ (by omega)) (Int.emod_lt_of_pos _ (by omega)))
    refine V_iload_n d_Ring_evaluate_2 rfl ?_
    refine V_aload_n d_Ring_evaluate_3 rfl ?_
    refine V_getf d_Ring_evaluate_4 ff_Ring_27 ((zset_n hrs).trans hr) rfl ?_
    refine J_icmp_ge 78 d_Ring_evaluate_7 (by decide) (by omega) (by omega) (fun c_7 => absurd c_7 (by omega)) (fun c_7 => ?_)
    refine J_lconst (z := 0) d_Ring_evaluate_10 rfl ?_
    refine V_lstore d_Ring_evaluate_11 (by decide) ?_
    refine V_iconst d_Ring_evaluate_13 ?_
    refine V_istore d_Ring_evaluate_14 (by decide) ?_
    refine zfor nn (fun j => V G M_Ring_evaluate (zdet none (zset w s (zro G 32 (zif (nn : Int) (fun (x : Int) => zes h p (fun j => (2 * x + 1) * (j : Int) % (2 * (nn : Int))) nn % t) g))) sz) (zR 0 0 0 0) 0 0 sz 16 [(0, .ref r), (1, .ref s), (2, .ref a), (3, .int (Int32.ofInt (i : Int))), (4, .long (Int64.ofInt (zes h p (fun j => (2 * (i : Int) + 1) * (j : Int) % (2 * (nn : Int))) j))), (6, .int (Int32.ofInt (j : Int)))] [] (zset w s (zro G 32 (zif (i : Int) (fun (x : Int) => zes h p (fun j => (2 * x + 1) * (j : Int) % (2 * (nn : Int))) nn % t) g)))) ?_ (fun j hj ih2 => ?_) 0 (Nat.zero_le nn)
    · have hb1 := hb nn (Nat.le_refl nn)
      refine V_iload d_Ring_evaluate_16 rfl ?_
      refine V_aload_n d_Ring_evaluate_18 rfl ?_
      refine V_getf d_Ring_evaluate_19 ff_Ring_27 ((zset_n hrs).trans hr) rfl ?_
      refine J_icmp_ge 61 d_Ring_evaluate_22 (by decide) (by omega) (by omega) (fun c_22 => ?_) (fun c_22 => absurd c_22 (by omega))
      refine V_aload_n d_Ring_evaluate_61 rfl ?_
      refine V_iload_n d_Ring_evaluate_62 rfl ?_
      refine V_lload d_Ring_evaluate_63 rfl ?_
      refine V_aload_n d_Ring_evaluate_65 rfl ?_
      refine V_getf d_Ring_evaluate_66 ff_Ring_33 ((zset_n hrs).trans hr) rfl ?_
      refine J_i2l d_Ring_evaluate_69 (by omega) ?_
      refine J_lremP d_Ring_evaluate_70 (by omega) (by omega) ?_
      refine J_lastore d_Ring_evaluate_71 zset_s (by omega) (by decide) ?_
      refine J_iinc d_Ring_evaluate_72 rfl (by decide) ?_
      refine V_goto 2 d_Ring_evaluate_75 (by decide) ?_
      exact V_lo [0, 1, 2, 3] rfl (V_w (by rw [zset_zset, zif_s (by omega) rfl]; rfl) ih)
    · have hm := zmulb (a := 2 * (i : Int) + 1) (b := (j : Int)) (A := 65) (B := 32) (by omega) (by omega)
      have he : 0 ≤ (2 * (i : Int) + 1) * (j : Int) % (2 * (nn : Int)) ∧ (2 * (i : Int) + 1) * (j : Int) % (2 * (nn : Int)) < 2 * (nn : Int) := ⟨Int.emod_nonneg _ (by omega), Int.emod_lt_of_pos _ (by omega)⟩
      refine V_iload d_Ring_evaluate_16 rfl ?_
      refine V_aload_n d_Ring_evaluate_18 rfl ?_
      refine V_getf d_Ring_evaluate_19 ff_Ring_27 ((zset_n hrs).trans hr) rfl ?_
      refine J_icmp_ge 61 d_Ring_evaluate_22 (by decide) (by omega) (by omega) (fun c_22 => absurd c_22 (by omega)) (fun c_22 => ?_)
      refine V_lload d_Ring_evaluate_25 rfl ?_
      refine V_aload_n d_Ring_evaluate_27 rfl ?_
      refine V_iload d_Ring_evaluate_28 rfl ?_
      refine J_laload d_Ring_evaluate_30 ((zset_n has).trans ha) (by omega) (by decide) ?_
      refine V_aload_n d_Ring_evaluate_31 rfl ?_
      refine V_getf d_Ring_evaluate_32 ff_Ring_9 ((zset_n hrs).trans hr) rfl ?_
      refine V_iconst d_Ring_evaluate_35 ?_
      refine V_iload_n d_Ring_evaluate_36 rfl ?_
      refine J_imul d_Ring_evaluate_37 ?_
      refine V_iconst d_Ring_evaluate_38 ?_
      refine J_iadd d_Ring_evaluate_39 ?_
      refine V_iload d_Ring_evaluate_40 rfl ?_
      refine J_imul d_Ring_evaluate_42 ?_
      refine V_iconst d_Ring_evaluate_43 ?_
      refine V_aload_n d_Ring_evaluate_44 rfl ?_
      refine V_getf d_Ring_evaluate_45 ff_Ring_27 ((zset_n hrs).trans hr) rfl ?_
      refine J_imul d_Ring_evaluate_48 ?_
      refine J_iremP d_Ring_evaluate_49 (by omega) (by omega) ?_
      refine J_laload d_Ring_evaluate_50 ((zset_n hps).trans hpw) (by omega) (by decide) ?_
      refine J_lmul d_Ring_evaluate_51 ?_
      refine J_ladd d_Ring_evaluate_52 ?_
      refine V_lstore d_Ring_evaluate_53 (by decide) ?_
      refine J_iinc d_Ring_evaluate_55 rfl (by decide) ?_
      refine V_goto 16 d_Ring_evaluate_58 (by decide) ?_
      exact ih2

set_option maxRecDepth 100000 in
set_option maxHeartbeats 4000000 in
theorem c_interpolate (G : zG) (sz : Nat) (w : zW) (r pw : Nat) (kd n t zz : Int) (s a nn : Nat) (g : Int → Int) (h p : Int → Int) (hr : w r = some (zobj cRing [.int (Int32.ofInt kd), .int (Int32.ofInt n), .int (Int32.ofInt t), .int (Int32.ofInt zz), .ref pw])) (hs : w s = some (zro G 32 g)) (ha : w a = some (zro G 32 h)) (hpw : w pw = some (zro G 64 p)) (has : a ≠ s) (hps : pw ≠ s) (hnn : n = (nn : Int)) (hn : nn ≤ 32) (ht : 1 < t ∧ t ≤ 1000) (hh : ∀ j : Nat, j < nn → 0 ≤ h j ∧ h j ≤ 1000) (hp : ∀ j : Int, 0 ≤ j → j < 2 * nn → 0 ≤ p j ∧ p j ≤ 1000) : zCt G M_Ring_interpolate (zR 1 0 0 26) [.ref r, .ref s, .ref a] sz w (zdet none (zset w s (zro G 32 (zif (nn : Int) (fun (x : Int) => zes h p (fun j => (2 * (nn : Int) - 1) * (2 * (j : Int) + 1) * x % (2 * (nn : Int))) nn % t * zpm t nn (t - 2).toNat % t) g))) sz) := by
  have hrs : r ≠ s := fun q => by rw [q, hs] at hr; cases hr
  subst hnn
  have hiv := zpm_b (b := (nn : Int)) ht.1 (t - 2).toNat
  refine V_aload_n d_Ring_interpolate_0 rfl ?_
  refine V_aload_n d_Ring_interpolate_1 rfl ?_
  refine V_getf d_Ring_interpolate_2 ff_Ring_27 hr rfl ?_
  refine J_i2l d_Ring_interpolate_5 (by omega) ?_
  refine V_aload_n d_Ring_interpolate_6 rfl ?_
  refine V_getf d_Ring_interpolate_7 ff_Ring_33 hr rfl ?_
  refine V_iconst d_Ring_interpolate_10 ?_
  refine J_isub d_Ring_interpolate_11 ?_
  rw [show t - 2 = (((t - 2).toNat : Nat) : Int) by omega]
  refine V_callV (n := 2) d_Ring_interpolate_12 g_Ring_43 rfl hr rfl (c_powerModT G _ _ r pw kd nn t zz nn (t - 2).toNat hr ht (by omega) (by omega)) ⟨co_Ring_powerModT, by decide +kernel, Nat.le_of_ble_eq_true rfl⟩ ⟨Nat.le_of_ble_eq_true rfl, Nat.le_of_ble_eq_true rfl, Nat.le_of_ble_eq_true rfl, Nat.le_of_ble_eq_true rfl⟩ (Nat.le_of_ble_eq_true rfl) (fun r_12 w_12 s_12 q_12 => ?_) (fun _ _ _ q => False.elim q)
  obtain ⟨rfl, rfl, rfl⟩ := q_12
  refine V_lstore_n d_Ring_interpolate_15 (by decide) ?_
  refine V_iconst d_Ring_interpolate_16 ?_
  refine V_istore d_Ring_interpolate_17 (by decide) ?_
  refine V_w (w' := zset w s (zro G 32 (zif ((0 : Nat) : Int) (fun (x : Int) => zes h p (fun j => (2 * (nn : Int) - 1) * (2 * (j : Int) + 1) * x % (2 * (nn : Int))) nn % t * zpm t nn (t - 2).toNat % t) g))) (by rw [show ((0 : Nat) : Int) = 0 from rfl, zif_0, zset_self hs]) ?_
  refine zfor nn (fun i => V G M_Ring_interpolate (zdet none (zset w s (zro G 32 (zif (nn : Int) (fun (x : Int) => zes h p (fun j => (2 * (nn : Int) - 1) * (2 * (j : Int) + 1) * x % (2 * (nn : Int))) nn % t * zpm t nn (t - 2).toNat % t) g))) sz) (zR 1 0 0 26) 0 0 _ 19 [(0, .ref r), (1, .ref s), (2, .ref a), (3, .long (Int64.ofInt (zpm t nn (t - 2).toNat))), (5, .int (Int32.ofInt (i : Int)))] [] (zset w s (zro G 32 (zif (i : Int) (fun (x : Int) => zes h p (fun j => (2 * (nn : Int) - 1) * (2 * (j : Int) + 1) * x % (2 * (nn : Int))) nn % t * zpm t nn (t - 2).toNat % t) g)))) ?_ (fun i hi ih => ?_) 0 (Nat.zero_le nn)
  · skip
    refine V_iload d_Ring_interpolate_19 rfl ?_
    refine V_aload_n d_Ring_interpolate_21 rfl ?_
    refine V_getf d_Ring_interpolate_22 ff_Ring_27 ((zset_n hrs).trans hr) rfl ?_
    refine J_icmp_ge 115 d_Ring_interpolate_25 (by decide) (by omega) (by omega) (fun c_25 => ?_) (fun c_25 => absurd c_25 (by omega))
    exact V_return d_Ring_interpolate_115 rfl ⟨Nat.le_of_ble_eq_true rfl, Nat.le_of_ble_eq_true rfl⟩ ⟨rfl, rfl, rfl⟩
  · have hb := zes_b (f := h) (pw := p) (ix := (fun j => (2 * (nn : Int) - 1) * (2 * (j : Int) + 1) * (i : Int) % (2 * (nn : Int)))) hh (fun j hj => hp _ (Int.emod_nonneg _ (by omega)) (Int.emod_lt_of_pos _ (by omega)))
    refine V_iload d_Ring_interpolate_19 rfl ?_
    refine V_aload_n d_Ring_interpolate_21 rfl ?_
    refine V_getf d_Ring_interpolate_22 ff_Ring_27 ((zset_n hrs).trans hr) rfl ?_
    refine J_icmp_ge 115 d_Ring_interpolate_25 (by decide) (by omega) (by omega) (fun c_25 => absurd c_25 (by omega)) (fun c_25 => ?_)
    refine J_lconst (z := 0) d_Ring_interpolate_28 rfl ?_
    refine V_lstore d_Ring_interpolate_29 (by decide) ?_
    refine V_iconst d_Ring_interpolate_31 ?_
    refine V_istore d_Ring_interpolate_32 (by decide) ?_
    refine zfor nn (fun j => V G M_Ring_interpolate (zdet none (zset w s (zro G 32 (zif (nn : Int) (fun (x : Int) => zes h p (fun j => (2 * (nn : Int) - 1) * (2 * (j : Int) + 1) * x % (2 * (nn : Int))) nn % t * zpm t nn (t - 2).toNat % t) g))) sz) (zR 1 0 0 26) 0 0 _ 34 [(0, .ref r), (1, .ref s), (2, .ref a), (3, .long (Int64.ofInt (zpm t nn (t - 2).toNat))), (5, .int (Int32.ofInt (i : Int))), (6, .long (Int64.ofInt (zes h p (fun j => (2 * (nn : Int) - 1) * (2 * (j : Int) + 1) * (i : Int) % (2 * (nn : Int))) j))), (8, .int (Int32.ofInt (j : Int)))] [] (zset w s (zro G 32 (zif (i : Int) (fun (x : Int) => zes h p (fun j => (2 * (nn : Int) - 1) * (2 * (j : Int) + 1) * x % (2 * (nn : Int))) nn % t * zpm t nn (t - 2).toNat % t) g)))) ?_ (fun j hj ih2 => ?_) 0 (Nat.zero_le nn)
    · have hb1 := hb nn (Nat.le_refl nn)
      have hb2 : 0 ≤ zes h p (fun j => (2 * (nn : Int) - 1) * (2 * (j : Int) + 1) * (i : Int) % (2 * (nn : Int))) nn % t ∧ zes h p (fun j => (2 * (nn : Int) - 1) * (2 * (j : Int) + 1) * (i : Int) % (2 * (nn : Int))) nn % t < t := ⟨Int.emod_nonneg _ (by omega), Int.emod_lt_of_pos _ (by omega)⟩
      have hb3 := zmulb (a := zes h p (fun j => (2 * (nn : Int) - 1) * (2 * (j : Int) + 1) * (i : Int) % (2 * (nn : Int))) nn % t) (b := zpm t nn (t - 2).toNat) (A := 1000) (B := 1000) (by omega) (by omega)
      refine V_iload d_Ring_interpolate_34 rfl ?_
      refine V_aload_n d_Ring_interpolate_36 rfl ?_
      refine V_getf d_Ring_interpolate_37 ff_Ring_27 ((zset_n hrs).trans hr) rfl ?_
      refine J_icmp_ge 89 d_Ring_interpolate_40 (by decide) (by omega) (by omega) (fun c_40 => ?_) (fun c_40 => absurd c_40 (by omega))
      refine V_aload_n d_Ring_interpolate_89 rfl ?_
      refine V_iload d_Ring_interpolate_90 rfl ?_
      refine V_lload d_Ring_interpolate_92 rfl ?_
      refine V_aload_n d_Ring_interpolate_94 rfl ?_
      refine V_getf d_Ring_interpolate_95 ff_Ring_33 ((zset_n hrs).trans hr) rfl ?_
      refine J_i2l d_Ring_interpolate_98 (by omega) ?_
      refine J_lremP d_Ring_interpolate_99 (by omega) (by omega) ?_
      refine V_lload_n d_Ring_interpolate_100 rfl ?_
      refine J_lmul d_Ring_interpolate_101 ?_
      refine V_aload_n d_Ring_interpolate_102 rfl ?_
      refine V_getf d_Ring_interpolate_103 ff_Ring_33 ((zset_n hrs).trans hr) rfl ?_
      refine J_i2l d_Ring_interpolate_106 (by omega) ?_
      refine J_lremP d_Ring_interpolate_107 (by omega) (by omega) ?_
      refine J_lastore d_Ring_interpolate_108 zset_s (by omega) (by decide) ?_
      refine J_iinc d_Ring_interpolate_109 rfl (by decide) ?_
      refine V_goto 19 d_Ring_interpolate_112 (by decide) ?_
      exact V_lo [0, 1, 2, 3, 5] rfl (V_w (by rw [zset_zset, zif_s (by omega) rfl]; rfl) ih)
    · have hm0 := zmulb (a := 2 * (nn : Int) - 1) (b := 2 * (j : Int) + 1) (A := 63) (B := 65) (by omega) (by omega)
      have hm := zmulb (a := (2 * (nn : Int) - 1) * (2 * (j : Int) + 1)) (b := (i : Int)) (A := 4095) (B := 32) (by omega) (by omega)
      have he : 0 ≤ (2 * (nn : Int) - 1) * (2 * (j : Int) + 1) * (i : Int) % (2 * (nn : Int)) ∧ (2 * (nn : Int) - 1) * (2 * (j : Int) + 1) * (i : Int) % (2 * (nn : Int)) < 2 * (nn : Int) := ⟨Int.emod_nonneg _ (by omega), Int.emod_lt_of_pos _ (by omega)⟩
      refine V_iload d_Ring_interpolate_34 rfl ?_
      refine V_aload_n d_Ring_interpolate_36 rfl ?_
      refine V_getf d_Ring_interpolate_37 ff_Ring_27 ((zset_n hrs).trans hr) rfl ?_
      refine J_icmp_ge 89 d_Ring_interpolate_40 (by decide) (by omega) (by omega) (fun c_40 => absurd c_40 (by omega)) (fun c_40 => ?_)
      refine V_lload d_Ring_interpolate_43 rfl ?_
      refine V_aload_n d_Ring_interpolate_45 rfl ?_
      refine V_iload d_Ring_interpolate_46 rfl ?_
      refine J_laload d_Ring_interpolate_48 ((zset_n has).trans ha) (by omega) (by decide) ?_
      refine V_aload_n d_Ring_interpolate_49 rfl ?_
      refine V_getf d_Ring_interpolate_50 ff_Ring_9 ((zset_n hrs).trans hr) rfl ?_
      refine V_iconst d_Ring_interpolate_53 ?_
      refine V_aload_n d_Ring_interpolate_54 rfl ?_
      refine V_getf d_Ring_interpolate_55 ff_Ring_27 ((zset_n hrs).trans hr) rfl ?_
      refine J_imul d_Ring_interpolate_58 ?_
      refine V_iconst d_Ring_interpolate_59 ?_
      refine J_isub d_Ring_interpolate_60 ?_
      refine V_iconst d_Ring_interpolate_61 ?_
      refine V_iload d_Ring_interpolate_62 rfl ?_
      refine J_imul d_Ring_interpolate_64 ?_
      refine V_iconst d_Ring_interpolate_65 ?_
      refine J_iadd d_Ring_interpolate_66 ?_
      refine J_imul d_Ring_interpolate_67 ?_
      refine V_iload d_Ring_interpolate_68 rfl ?_
      refine J_imul d_Ring_interpolate_70 ?_
      refine V_iconst d_Ring_interpolate_71 ?_
      refine V_aload_n d_Ring_interpolate_72 rfl ?_
      refine V_getf d_Ring_interpolate_73 ff_Ring_27 ((zset_n hrs).trans hr) rfl ?_
      refine J_imul d_Ring_interpolate_76 ?_
      refine J_iremP d_Ring_interpolate_77 (by omega) (by omega) ?_
      refine J_laload d_Ring_interpolate_78 ((zset_n hps).trans hpw) (by omega) (by decide) ?_
      refine J_lmul d_Ring_interpolate_79 ?_
      refine J_ladd d_Ring_interpolate_80 ?_
      refine V_lstore d_Ring_interpolate_81 (by decide) ?_
      refine J_iinc d_Ring_interpolate_83 rfl (by decide) ?_
      refine V_goto 34 d_Ring_interpolate_86 (by decide) ?_
      exact ih2
end
section
def zszI (k : Int) : Int := if k = 0 then 8 else if k = 1 then 16 else 32
def zmoI (k : Int) : Int := if k = 0 then 17 else if k = 1 then 97 else 193
theorem zki {k : Int} (h : 0 ≤ k ∧ k ≤ 2) : (8 ≤ zszI k ∧ zszI k ≤ 32) ∧ (17 ≤ zmoI k ∧ zmoI k ≤ 193) := by
  have : k = 0 ∨ k = 1 ∨ k = 2 := by omega
  rcases this with rfl | rfl | rfl <;> decide
theorem zSz_of {k : Int} (h : 0 ≤ k ∧ k ≤ 2) : zSz (Int32.ofInt k).toNatClampNeg = .int (Int32.ofInt (zszI k)) := by
  have : k = 0 ∨ k = 1 ∨ k = 2 := by omega
  rcases this with rfl | rfl | rfl <;> rfl
theorem zMo_of {k : Int} (h : 0 ≤ k ∧ k ≤ 2) : zMo (Int32.ofInt k).toNatClampNeg = .int (Int32.ofInt (zmoI k)) := by
  have : k = 0 ∨ k = 1 ∨ k = 2 := by omega
  rcases this with rfl | rfl | rfl <;> rfl
theorem zlr_b {k : Int} (h : 0 ≤ k ∧ k ≤ 2) : 2 ≤ zlr (zmoI k) (zszI k).toNat 1000 2 ∧ zlr (zmoI k) (zszI k).toNat 1000 2 ≤ 193 := by
  have : k = 0 ∨ k = 1 ∨ k = 2 := by omega
  rcases this with rfl | rfl | rfl <;> decide +kernel
end
section
set_option maxRecDepth 100000 in
set_option maxHeartbeats 4000000 in
theorem c_leastRoot (G : zG) (sz : Nat) (w : zW) (r pw : Nat) (kd n t zz : Int) (nn : Nat) (h : w r = some (zobj cRing [.int (Int32.ofInt kd), .int (Int32.ofInt n), .int (Int32.ofInt t), .int (Int32.ofInt zz), .ref pw])) (hnn : n = (nn : Int)) (hn : nn ≤ 32) (ht : 1 < t ∧ t ≤ 1000) (ht2 : 2 ≤ t) : zCt G M_Ring_leastRoot (zR 1 0 0 26) [.ref r] sz w (zdet (some (.int (Int32.ofInt (zlr t nn 1000 2)))) w sz) := by
  subst hnn
  have key : ∀ (f : Nat) (c : Int), 2 ≤ c → c ≤ t → t - c ≤ f → zlr t nn 1000 2 = zlr t nn f c → V G M_Ring_leastRoot (zdet (some (.int (Int32.ofInt (zlr t nn 1000 2)))) w sz) (zR 1 0 0 26) 0 0 sz 2 [(0, .ref r), (1, .int (Int32.ofInt c))] [] w := by
    intro f
    induction f with
    | zero =>
      intro c h2 h3 h4 h5
      refine V_iload_n d_Ring_leastRoot_2 rfl ?_
      refine V_aload_n d_Ring_leastRoot_3 rfl ?_
      refine V_getf d_Ring_leastRoot_4 ff_Ring_33 h rfl ?_
      refine J_icmp_ge 37 d_Ring_leastRoot_7 (by decide) (by omega) (by omega) (fun c_7 => ?_) (fun c_7 => absurd c_7 (by omega))
      refine V_iload_n d_Ring_leastRoot_37 rfl ?_
      exact V_ireturn d_Ring_leastRoot_38 rfl ⟨Nat.le_of_ble_eq_true rfl, Nat.le_of_ble_eq_true rfl⟩ ⟨by rw [h5]; rfl, rfl, rfl⟩
    | succ f ih =>
      intro c h2 h3 h4 h5
      have hp := zpm_b (b := c) ht.1 nn
      refine V_iload_n d_Ring_leastRoot_2 rfl ?_
      refine V_aload_n d_Ring_leastRoot_3 rfl ?_
      refine V_getf d_Ring_leastRoot_4 ff_Ring_33 h rfl ?_
      refine J_icmp_ge 37 d_Ring_leastRoot_7 (by decide) (by omega) (by omega) (fun c_7 => ?_) (fun c_7 => ?_)
      · skip
        refine V_iload_n d_Ring_leastRoot_37 rfl ?_
        exact V_ireturn d_Ring_leastRoot_38 rfl ⟨Nat.le_of_ble_eq_true rfl, Nat.le_of_ble_eq_true rfl⟩ ⟨by rw [h5]; unfold zlr; rw [if_neg (by omega)], rfl, rfl⟩
      · skip
        refine V_aload_n d_Ring_leastRoot_10 rfl ?_
        refine V_iload_n d_Ring_leastRoot_11 rfl ?_
        refine J_i2l d_Ring_leastRoot_12 (by omega) ?_
        refine V_aload_n d_Ring_leastRoot_13 rfl ?_
        refine V_getf d_Ring_leastRoot_14 ff_Ring_27 h rfl ?_
        refine V_callV (n := 2) d_Ring_leastRoot_17 g_Ring_43 rfl h rfl (c_powerModT G _ _ r pw kd nn t zz c nn h ht (by omega) (by omega)) ⟨co_Ring_powerModT, by decide +kernel, Nat.le_of_ble_eq_true rfl⟩ ⟨Nat.le_of_ble_eq_true rfl, Nat.le_of_ble_eq_true rfl, Nat.le_of_ble_eq_true rfl, Nat.le_of_ble_eq_true rfl⟩ (Nat.le_of_ble_eq_true rfl) (fun r_17 w_17 s_17 q_17 => ?_) (fun _ _ _ q => False.elim q)
        obtain ⟨rfl, rfl, rfl⟩ := q_17
        refine V_aload_n d_Ring_leastRoot_20 rfl ?_
        refine V_getf d_Ring_leastRoot_21 ff_Ring_33 h rfl ?_
        refine V_iconst d_Ring_leastRoot_24 ?_
        refine J_isub d_Ring_leastRoot_25 ?_
        refine J_i2l d_Ring_leastRoot_26 (by omega) ?_
        refine JL_eq 37 d_Ring_leastRoot_27 d_Ring_leastRoot_28 (by decide) (by omega) (by omega) (fun c_27 => ?_) (fun c_27 => ?_)
        · skip
          refine V_iload_n d_Ring_leastRoot_37 rfl ?_
          exact V_ireturn d_Ring_leastRoot_38 rfl ⟨Nat.le_of_ble_eq_true rfl, Nat.le_of_ble_eq_true rfl⟩ ⟨by rw [h5]; unfold zlr; rw [if_neg (fun q => q.2 c_27)], rfl, rfl⟩
        · skip
          refine J_iinc d_Ring_leastRoot_31 rfl (by decide) ?_
          refine V_goto 2 d_Ring_leastRoot_34 (by decide) ?_
          exact ih (c + 1) (by omega) (by omega) (by omega) (by rw [h5]; conv => { lhs; unfold zlr }; rw [if_pos ⟨c_7, c_27⟩])
  refine V_iconst d_Ring_leastRoot_0 ?_
  refine V_istore_n d_Ring_leastRoot_1 (by decide) ?_
  exact key 1000 2 (by omega) (by omega) (by omega) rfl

set_option maxRecDepth 100000 in
set_option maxHeartbeats 4000000 in
theorem c_choose (G : zG) (sz : Nat) (w : zW) (r pw : Nat) (kd n t zz : Int) (kk : Int) (p : Int → Int) (h : w r = some (zobj cRing [.int (Int32.ofInt kd), .int (Int32.ofInt n), .int (Int32.ofInt t), .int (Int32.ofInt zz), .ref pw])) (hp : w pw = some (zro G 64 p)) (hk : 0 ≤ kk ∧ kk ≤ 2) : zCt G M_Ring_choose (zR 2 0 0 47) [.ref r, .int (Int32.ofInt kk)] sz w (zdet none (zset (zset w r (zobj cRing [.int (Int32.ofInt kk), .int (Int32.ofInt (zszI kk)), .int (Int32.ofInt (zmoI kk)), .int (Int32.ofInt (zlr (zmoI kk) (zszI kk).toNat 1000 2)), .ref pw])) pw (zro G 64 (zif (2 * zszI kk) (fun j => zpm (zmoI kk) (zlr (zmoI kk) (zszI kk).toNat 1000 2) j.toNat) p))) sz) := by
  have hrp : r ≠ pw := fun q => by rw [q, hp] at h; cases h
  have hz := zki hk
  have hzr := zlr_b hk
  obtain ⟨nn, hnn⟩ : ∃ nn : Nat, zszI kk = (nn : Int) := ⟨(zszI kk).toNat, by omega⟩
  refine V_aload_n d_Ring_choose_0 rfl ?_
  refine V_iload_n d_Ring_choose_1 rfl ?_
  refine V_putf d_Ring_choose_2 ff_Ring_19 h ⟨_, _, _, _, rfl, rfl, rfl, rfl, rfl⟩ (Nat.le_of_ble_eq_true rfl) ?_
  refine V_aload_n d_Ring_choose_5 rfl ?_
  refine V_getSz d_Ring_choose_6 gs_Ring_23 ?_
  refine V_iload_n d_Ring_choose_9 rfl ?_
  refine V_ldSz d_Ring_choose_10 (z32_in (by omega) (by decide)) (zSz_of hk) ?_
  refine V_putf d_Ring_choose_11 ff_Ring_27 zset_s ⟨_, _, _, _, rfl, rfl, rfl, rfl, rfl⟩ (Nat.le_of_ble_eq_true rfl) ?_
  refine V_w zset_zset ?_
  refine V_aload_n d_Ring_choose_14 rfl ?_
  refine V_getMo d_Ring_choose_15 gs_Ring_30 ?_
  refine V_iload_n d_Ring_choose_18 rfl ?_
  refine V_ldMo d_Ring_choose_19 (z32_in (by omega) (by decide)) (zMo_of hk) ?_
  refine V_putf d_Ring_choose_20 ff_Ring_33 zset_s ⟨_, _, _, _, rfl, rfl, rfl, rfl, rfl⟩ (Nat.le_of_ble_eq_true rfl) ?_
  refine V_w zset_zset ?_
  refine V_w (w' := zset w r (zobj cRing [.int (Int32.ofInt kk), .int (Int32.ofInt (zszI kk)), .int (Int32.ofInt (zmoI kk)), .int (Int32.ofInt zz), .ref pw])) rfl ?_
  refine V_aload_n d_Ring_choose_23 rfl ?_
  refine V_aload_n d_Ring_choose_24 rfl ?_
  refine V_callV (n := 0) d_Ring_choose_25 g_Ring_36 rfl zset_s rfl (c_leastRoot G _ _ r pw kk (zszI kk) (zmoI kk) zz (zszI kk).toNat zset_s (by omega) (by omega) (by omega) (by omega)) ⟨co_Ring_leastRoot, by decide +kernel, Nat.le_of_ble_eq_true rfl⟩ ⟨Nat.le_of_ble_eq_true rfl, Nat.le_of_ble_eq_true rfl, Nat.le_of_ble_eq_true rfl, Nat.le_of_ble_eq_true rfl⟩ (Nat.le_of_ble_eq_true rfl) (fun r_25 w_25 s_25 q_25 => ?_) (fun _ _ _ q => False.elim q)
  obtain ⟨rfl, rfl, rfl⟩ := q_25
  refine V_putf d_Ring_choose_28 ff_Ring_40 zset_s ⟨_, _, _, _, rfl, rfl, rfl, rfl, rfl⟩ (Nat.le_of_ble_eq_true rfl) ?_
  refine V_w zset_zset ?_
  refine V_w (w' := zset w r (zobj cRing [.int (Int32.ofInt kk), .int (Int32.ofInt (zszI kk)), .int (Int32.ofInt (zmoI kk)), .int (Int32.ofInt (zlr (zmoI kk) (zszI kk).toNat 1000 2)), .ref pw])) rfl ?_
  refine J_lconst (z := 1) d_Ring_choose_31 rfl ?_
  refine V_lstore_n d_Ring_choose_32 (by decide) ?_
  refine V_iconst d_Ring_choose_33 ?_
  refine V_istore d_Ring_choose_34 (by decide) ?_
  refine V_w (w' := zset (zset w r (zobj cRing [.int (Int32.ofInt kk), .int (Int32.ofInt (zszI kk)), .int (Int32.ofInt (zmoI kk)), .int (Int32.ofInt (zlr (zmoI kk) (zszI kk).toNat 1000 2)), .ref pw])) pw (zro G 64 (zif ((0 : Nat) : Int) (fun j => zpm (zmoI kk) (zlr (zmoI kk) (zszI kk).toNat 1000 2) j.toNat) p))) (by rw [show ((0 : Nat) : Int) = 0 from rfl, zif_0, zset_self ((zset_n (Ne.symm hrp)).trans hp)]) ?_
  refine V_lo [0, 1, 2, 4] rfl ?_
  refine zfor (2 * nn) (fun i => V G M_Ring_choose (zdet none (zset (zset w r (zobj cRing [.int (Int32.ofInt kk), .int (Int32.ofInt (zszI kk)), .int (Int32.ofInt (zmoI kk)), .int (Int32.ofInt (zlr (zmoI kk) (zszI kk).toNat 1000 2)), .ref pw])) pw (zro G 64 (zif (2 * zszI kk) (fun j => zpm (zmoI kk) (zlr (zmoI kk) (zszI kk).toNat 1000 2) j.toNat) p))) sz) (zR 2 0 0 47) 0 0 _ 36 [(0, .ref r), (1, .int (Int32.ofInt kk)), (2, .long (Int64.ofInt (zpm (zmoI kk) (zlr (zmoI kk) (zszI kk).toNat 1000 2) i))), (4, .int (Int32.ofInt (i : Int)))] [] (zset (zset w r (zobj cRing [.int (Int32.ofInt kk), .int (Int32.ofInt (zszI kk)), .int (Int32.ofInt (zmoI kk)), .int (Int32.ofInt (zlr (zmoI kk) (zszI kk).toNat 1000 2)), .ref pw])) pw (zro G 64 (zif (i : Int) (fun j => zpm (zmoI kk) (zlr (zmoI kk) (zszI kk).toNat 1000 2) j.toNat) p)))) ?_ (fun i hi ih => ?_) 0 (Nat.zero_le _)
  · skip
    refine V_iload d_Ring_choose_36 rfl ?_
    refine V_iconst d_Ring_choose_38 ?_
    refine V_aload_n d_Ring_choose_39 rfl ?_
    refine V_getf d_Ring_choose_40 ff_Ring_27 ((zset_n hrp).trans zset_s) rfl ?_
    refine J_imul d_Ring_choose_43 ?_
    refine J_icmp_ge 75 d_Ring_choose_44 (by decide) (by omega) (by omega) (fun c_44 => ?_) (fun c_44 => absurd c_44 (by omega))
    exact V_return d_Ring_choose_75 rfl ⟨Nat.le_of_ble_eq_true rfl, Nat.le_of_ble_eq_true rfl⟩ ⟨rfl, by rw [show (((2 * nn : Nat)) : Int) = 2 * zszI kk by omega], rfl⟩
  · have hb := zpm_b (t := zmoI kk) (b := zlr (zmoI kk) (zszI kk).toNat 1000 2) (by omega) i
    have hm := zmulb (a := zpm (zmoI kk) (zlr (zmoI kk) (zszI kk).toNat 1000 2) i) (b := zlr (zmoI kk) (zszI kk).toNat 1000 2) (A := 1000) (B := 1000) (by omega) (by omega)
    refine V_iload d_Ring_choose_36 rfl ?_
    refine V_iconst d_Ring_choose_38 ?_
    refine V_aload_n d_Ring_choose_39 rfl ?_
    refine V_getf d_Ring_choose_40 ff_Ring_27 ((zset_n hrp).trans zset_s) rfl ?_
    refine J_imul d_Ring_choose_43 ?_
    refine J_icmp_ge 75 d_Ring_choose_44 (by decide) (by omega) (by omega) (fun c_44 => absurd c_44 (by omega)) (fun c_44 => ?_)
    refine V_aload_n d_Ring_choose_47 rfl ?_
    refine V_getf d_Ring_choose_48 ff_Ring_9 ((zset_n hrp).trans zset_s) rfl ?_
    refine V_iload d_Ring_choose_51 rfl ?_
    refine V_lload_n d_Ring_choose_53 rfl ?_
    refine J_lastore d_Ring_choose_54 zset_s (by omega) (by decide) ?_
    refine V_w zset_zset ?_
    refine V_lload_n d_Ring_choose_55 rfl ?_
    refine V_aload_n d_Ring_choose_56 rfl ?_
    refine V_getf d_Ring_choose_57 ff_Ring_40 ((zset_n hrp).trans zset_s) rfl ?_
    refine J_i2l d_Ring_choose_60 (by omega) ?_
    refine J_lmul d_Ring_choose_61 ?_
    refine V_aload_n d_Ring_choose_62 rfl ?_
    refine V_getf d_Ring_choose_63 ff_Ring_33 ((zset_n hrp).trans zset_s) rfl ?_
    refine J_i2l d_Ring_choose_66 (by omega) ?_
    refine J_lremP d_Ring_choose_67 (by omega) (by omega) ?_
    refine V_lstore_n d_Ring_choose_68 (by decide) ?_
    refine J_iinc d_Ring_choose_69 rfl (by decide) ?_
    refine V_goto 36 d_Ring_choose_72 (by decide) ?_
    exact V_w (by rw [zif_s (by omega) (by simp)]; rfl) ih
end
section
/-! the class's cells from B on: the flat world -/
def zlay (G : zG) (B : Nat) (kd n t zz : Int) (ch : Int32) (md tc : Int) (tg pt : Nat → Int) (L : Nat → Int → Int) (j : Nat) : va_E :=
  if j = 0 then zobj cX [.ref (B + 1), .ref (B + 3), .ref (B + 4), .ref (B + 87), .ref (B + 96), .ref (B + 177), .ref (B + 181)]
  else if j = 1 then zobj cRing [.int (Int32.ofInt kd), .int (Int32.ofInt n), .int (Int32.ofInt t), .int (Int32.ofInt zz), .ref (B + 2)]
  else if j = 2 then zro G 64 (L j)
  else if j = 3 then zobj cChance [.int ch]
  else if j = 4 then zobj cKeyRing [.int (Int32.ofInt md), .int (Int32.ofInt tc), .ref (B + 5), .ref (B + 6), .ref (B + 7), .ref (B + 8), .ref (B + 9), .ref (B + 24), .ref (B + 85), .ref (B + 86)]
  else if j = 24 then zrefs G 4 4 (fun k => if k < 4 then some (B + (25 + 15 * k)) else none)
  else if j = 87 then zrefs G 1 8 (fun k => if k < 8 then some (B + (88 + k)) else none)
  else if j = 96 then zrefs G 3 16 (fun k => if k < 16 then some (B + (97 + 5 * k)) else none)
  else if j = 177 then zrefs G 1 3 (fun k => if k < 3 then some (B + (178 + k)) else none)
  else if j = 181 then zrefs G 1 4 (fun k => if k < 4 then some (B + (182 + k)) else none)
  else if j = 9 ∨ j = 25 ∨ j = 40 ∨ j = 55 ∨ j = 70 then zobj cSwitchKey [.int (Int32.ofInt (tg j)), .ref (B + (j + 1)), .ref (B + (j + 8))]
  else if j = 10 ∨ j = 26 ∨ j = 41 ∨ j = 56 ∨ j = 71 ∨ j = 17 ∨ j = 33 ∨ j = 48 ∨ j = 63 ∨ j = 78 then zrefs G 1 6 (fun k => if k < 6 then some (B + (j + 1 + k)) else none)
  else if 97 ≤ j ∧ j < 177 ∧ (j - 97) % 5 = 0 then zobj cCipher [.int (Int32.ofInt (pt j)), .ref (B + (j + 1))]
  else if 97 ≤ j ∧ j < 177 ∧ (j - 97) % 5 = 1 then zrefs G 1 3 (fun k => if k < 3 then some (B + (j + 1 + k)) else none)
  else zro G 32 (L j)
/-- a cell that is a row of 32 -/
def zir (j : Nat) : Prop := ¬ (j = 0 ∨ j = 1 ∨ j = 2 ∨ j = 3 ∨ j = 4 ∨ j = 24 ∨ j = 87 ∨ j = 96 ∨ j = 177 ∨ j = 181 ∨ j = 9 ∨ j = 25 ∨ j = 40 ∨ j = 55 ∨ j = 70 ∨ j = 10 ∨ j = 26 ∨ j = 41 ∨ j = 56 ∨ j = 71 ∨ j = 17 ∨ j = 33 ∨ j = 48 ∨ j = 63 ∨ j = 78) ∧ ¬ (97 ≤ j ∧ j < 177 ∧ (j - 97) % 5 < 2) ∧ j < 186
def zsys (G : zG) (B : Nat) (kd n t zz : Int) (ch : Int32) (md tc : Int) (tg pt : Nat → Int) (L : Nat → Int → Int) (w0 : zW) : zW :=
  fun q => if B ≤ q ∧ q < B + 186 then some (zlay G B kd n t zz ch md tc tg pt L (q - B)) else w0 q
section ZSy
variable {G : zG} {B : Nat} {kd n t zz : Int} {ch : Int32} {md tc : Int} {tg pt : Nat → Int} {L : Nat → Int → Int} {w0 : zW}
theorem zsys_at {j : Nat} {e : va_E} (hj : j < 186) (h : zlay G B kd n t zz ch md tc tg pt L j = e) : zsys G B kd n t zz ch md tc tg pt L w0 (B + j) = some e := by
  unfold zsys
  rw [if_pos (by omega), show B + j - B = j by omega, h]
theorem zlay_row {j : Nat} (h : zir j) : zlay G B kd n t zz ch md tc tg pt L j = zro G 32 (L j) := by
  obtain ⟨h1, h2, h3⟩ := h
  unfold zlay
  rw [if_neg (by omega), if_neg (by omega), if_neg (by omega), if_neg (by omega), if_neg (by omega), if_neg (by omega), if_neg (by omega), if_neg (by omega), if_neg (by omega), if_neg (by omega), if_neg (by omega), if_neg (by omega), if_neg (by omega), if_neg (by omega)]
theorem zsys_row {j : Nat} (h : zir j) : zsys G B kd n t zz ch md tc tg pt L w0 (B + j) = some (zro G 32 (L j)) := zsys_at h.2.2 (zlay_row h)
def zlu (L : Nat → Int → Int) (k : Nat) (g : Int → Int) : Nat → Int → Int := fun j => if j = k then g else L j
theorem zlu_s {L : Nat → Int → Int} {k : Nat} {g : Int → Int} : zlu L k g k = g := if_pos rfl
theorem zlu_n {L : Nat → Int → Int} {k j : Nat} {g : Int → Int} (h : j ≠ k) : zlu L k g j = L j := if_neg h
theorem zlu_lu {L : Nat → Int → Int} {k : Nat} {g g' : Int → Int} : zlu (zlu L k g) k g' = zlu L k g' := by
  funext j
  unfold zlu
  by_cases h : j = k
  · rw [if_pos h, if_pos h]
  · rw [if_neg h, if_neg h, if_neg h]
theorem zlay_lu {j k : Nat} {g : Int → Int} (h : j ≠ k) : zlay G B kd n t zz ch md tc tg pt (zlu L k g) j = zlay G B kd n t zz ch md tc tg pt L j := by
  unfold zlay
  rw [zlu_n h]
/-- one cell is another: the world is the flat one of the other numbers -/
theorem zsys_set {kd' n' t' zz' : Int} {ch' : Int32} {md' tc' : Int} {tg' pt' : Nat → Int} {L' : Nat → Int → Int} {j : Nat} {e : va_E} (hj : j < 186) (he : zlay G B kd' n' t' zz' ch' md' tc' tg' pt' L' j = e)
    (ho : ∀ i, i < 186 → i ≠ j → zlay G B kd' n' t' zz' ch' md' tc' tg' pt' L' i = zlay G B kd n t zz ch md tc tg pt L i) :
    zset (zsys G B kd n t zz ch md tc tg pt L w0) (B + j) e = zsys G B kd' n' t' zz' ch' md' tc' tg' pt' L' w0 := by
  funext q
  unfold zset
  by_cases h1 : q = B + j
  · rw [if_pos h1, h1, zsys_at hj he]
  · rw [if_neg h1]
    unfold zsys
    by_cases h2 : B ≤ q ∧ q < B + 186
    · rw [if_pos h2, if_pos h2, ho (q - B) (by omega) (by omega)]
    · rw [if_neg h2, if_neg h2]
theorem zsys_lu {j : Nat} {g : Int → Int} (h : zir j) : zset (zsys G B kd n t zz ch md tc tg pt L w0) (B + j) (zro G 32 g) = zsys G B kd n t zz ch md tc tg pt (zlu L j g) w0 :=
  zsys_set h.2.2 (by rw [zlay_row h, zlu_s]) (fun i _ hi => zlay_lu hi)
theorem zsys_ch {ch' : Int32} : zset (zsys G B kd n t zz ch md tc tg pt L w0) (B + 3) (zobj cChance [.int ch']) = zsys G B kd n t zz ch' md tc tg pt L w0 :=
  zsys_set (by decide) rfl (fun i _ hi => by
    unfold zlay
    by_cases h : i = 3
    · exact absurd h hi
    · simp only [if_neg h])
theorem zsys_kr {md' tc' : Int} {e : va_E} (he : e = zobj cKeyRing [.int (Int32.ofInt md'), .int (Int32.ofInt tc'), .ref (B + 5), .ref (B + 6), .ref (B + 7), .ref (B + 8), .ref (B + 9), .ref (B + 24), .ref (B + 85), .ref (B + 86)]) : zset (zsys G B kd n t zz ch md tc tg pt L w0) (B + 4) e = zsys G B kd n t zz ch md' tc' tg pt L w0 := by
  subst he
  exact zsys_set (by decide) rfl (fun i _ hi => by
    unfold zlay
    by_cases h : i = 4
    · exact absurd h hi
    · simp only [if_neg h])
theorem zlay_swk {j : Nat} (h : j = 9 ∨ j = 25 ∨ j = 40 ∨ j = 55 ∨ j = 70) : zlay G B kd n t zz ch md tc tg pt L j = zobj cSwitchKey [.int (Int32.ofInt (tg j)), .ref (B + (j + 1)), .ref (B + (j + 8))] := by
  rcases h with rfl | rfl | rfl | rfl | rfl <;> rfl
theorem zlay_swr {j : Nat} (h : j = 10 ∨ j = 26 ∨ j = 41 ∨ j = 56 ∨ j = 71 ∨ j = 17 ∨ j = 33 ∨ j = 48 ∨ j = 63 ∨ j = 78) : zlay G B kd n t zz ch md tc tg pt L j = zrefs G 1 6 (fun k => if k < 6 then some (B + (j + 1 + k)) else none) := by
  rcases h with rfl | rfl | rfl | rfl | rfl | rfl | rfl | rfl | rfl | rfl <;> rfl
theorem zlay_cip {c : Nat} (h : c < 16) : zlay G B kd n t zz ch md tc tg pt L (97 + 5 * c) = zobj cCipher [.int (Int32.ofInt (pt (97 + 5 * c))), .ref (B + (97 + 5 * c + 1))] := by
  unfold zlay
  rw [if_neg (by omega), if_neg (by omega), if_neg (by omega), if_neg (by omega), if_neg (by omega), if_neg (by omega), if_neg (by omega), if_neg (by omega), if_neg (by omega), if_neg (by omega), if_neg (by omega), if_neg (by omega), if_pos (by omega)]
theorem zlay_cir {c : Nat} (h : c < 16) : zlay G B kd n t zz ch md tc tg pt L (97 + 5 * c + 1) = zrefs G 1 3 (fun k => if k < 3 then some (B + (97 + 5 * c + 1 + 1 + k)) else none) := by
  unfold zlay
  rw [if_neg (by omega), if_neg (by omega), if_neg (by omega), if_neg (by omega), if_neg (by omega), if_neg (by omega), if_neg (by omega), if_neg (by omega), if_neg (by omega), if_neg (by omega), if_neg (by omega), if_neg (by omega), if_neg (by omega), if_pos (by omega)]
def zpu (f : Nat → Int) (k : Nat) (v : Int) : Nat → Int := fun j => if j = k then v else f j
theorem zsys_pt {c : Nat} {v : Int} {e : va_E} (h : c < 16) (he : e = zobj cCipher [.int (Int32.ofInt v), .ref (B + (97 + 5 * c + 1))]) : zset (zsys G B kd n t zz ch md tc tg pt L w0) (B + (97 + 5 * c)) e = zsys G B kd n t zz ch md tc tg (zpu pt (97 + 5 * c) v) L w0 := by
  subst he
  refine zsys_set (by omega) ?_ (fun i _ hi => ?_)
  · rw [zlay_cip h]
    unfold zpu
    rw [if_pos rfl]
  · unfold zlay
    rw [show zpu pt (97 + 5 * c) v i = pt i from if_neg hi]
theorem zsys_tg {j : Nat} {v : Int} {e : va_E} (h : j = 9 ∨ j = 25 ∨ j = 40 ∨ j = 55 ∨ j = 70) (he : e = zobj cSwitchKey [.int (Int32.ofInt v), .ref (B + (j + 1)), .ref (B + (j + 8))]) : zset (zsys G B kd n t zz ch md tc tg pt L w0) (B + j) e = zsys G B kd n t zz ch md tc (zpu tg j v) pt L w0 := by
  subst he
  refine zsys_set (by omega) ?_ (fun i _ hi => ?_)
  · rw [zlay_swk h]
    unfold zpu
    rw [if_pos rfl]
  · unfold zlay
    rw [show zpu tg j v i = tg i from if_neg hi]
theorem zsys_r : zsys G B kd n t zz ch md tc tg pt L w0 (B + 1) = some (zobj cRing [.int (Int32.ofInt kd), .int (Int32.ofInt n), .int (Int32.ofInt t), .int (Int32.ofInt zz), .ref (B + 2)]) := zsys_at (by decide) rfl
theorem zsys_c : zsys G B kd n t zz ch md tc tg pt L w0 (B + 3) = some (zobj cChance [.int ch]) := zsys_at (by decide) rfl
theorem zsys_k : zsys G B kd n t zz ch md tc tg pt L w0 (B + 4) = some (zobj cKeyRing [.int (Int32.ofInt md), .int (Int32.ofInt tc), .ref (B + 5), .ref (B + 6), .ref (B + 7), .ref (B + 8), .ref (B + 9), .ref (B + 24), .ref (B + 85), .ref (B + 86)]) := zsys_at (by decide) rfl
theorem zsys_x : zsys G B kd n t zz ch md tc tg pt L w0 (B + 0) = some (zobj cX [.ref (B + 1), .ref (B + 3), .ref (B + 4), .ref (B + 87), .ref (B + 96), .ref (B + 177), .ref (B + 181)]) := zsys_at (by decide) rfl
theorem zsys_x0 : zsys G B kd n t zz ch md tc tg pt L w0 B = some (zobj cX [.ref (B + 1), .ref (B + 3), .ref (B + 4), .ref (B + 87), .ref (B + 96), .ref (B + 177), .ref (B + 181)]) := zsys_x
end ZSy
theorem zir_5 : zir 5 := by unfold zir; omega
theorem zir_6 : zir 6 := by unfold zir; omega
theorem zir_7 : zir 7 := by unfold zir; omega
theorem zir_8 : zir 8 := by unfold zir; omega
theorem zir_85 : zir 85 := by unfold zir; omega
theorem zir_86 : zir 86 := by unfold zir; omega
theorem zir_p {p : Nat} (h : p < 8) : zir (88 + p) := by unfold zir; omega
theorem zir_s {p : Nat} (h : p < 3) : zir (178 + p) := by unfold zir; omega
theorem zir_w {p : Nat} (h : p < 4) : zir (182 + p) := by unfold zir; omega
theorem zir_c {c k : Nat} (h : c < 16) (hk : k < 3) : zir (97 + 5 * c + 1 + 1 + k) := by unfold zir; omega
theorem zir_b {j k : Nat} (h : j = 9 ∨ j = 25 ∨ j = 40 ∨ j = 55 ∨ j = 70) (hk : k < 6) : zir (j + 1 + 1 + k) := by unfold zir; omega
theorem zir_m {j k : Nat} (h : j = 9 ∨ j = 25 ∨ j = 40 ∨ j = 55 ∨ j = 70) (hk : k < 6) : zir (j + 8 + 1 + k) := by unfold zir; omega
end
section
/-! what KeyRing does to the rows -/
theorem zel {n : Nat} {a : Nat → Nat} {i : Nat} (h : i < n) : (fun k => if k < n then some (a k) else none) ((i : Int).toNat) = some (a i) := by
  show (if ((i : Int)).toNat < n then some (a ((i : Int)).toNat) else none) = _
  rw [show ((i : Int)).toNat = i by omega, if_pos h]
theorem zshl {i : Nat} (h : i < 6) : Int64.ofInt 1 <<< ((Int32.ofInt (5 * (i : Int))).toInt64 &&& 63) = Int64.ofInt (32 ^ i) := by
  have : i = 0 ∨ i = 1 ∨ i = 2 ∨ i = 3 ∨ i = 4 ∨ i = 5 := by omega
  rcases this with rfl | rfl | rfl | rfl | rfl | rfl <;> decide +kernel
def zMkc (nn : Nat) (ch : Int32) : Int32 := zlcN (zlcN ch (2 * nn)) nn
def zMk (nn : Nat) (ch : Int32) (j : Nat) (L : Nat → Int → Int) : Nat → Int → Int :=
  zlu (zlu (zlu L j (zif nn (zrU ch) (L j))) 85 (zif nn (zrE (zlcN ch (2 * nn))) (L 85))) 85 (zap nn (L 5) (zif nn (zrU ch) (L j)) (zif nn (zrE (zlcN ch (2 * nn))) (L 85)) nn)
def zAs (nn s a : Nat) (f : Int) (L : Nat → Int → Int) : Nat → Int → Int := zlu L s (zif nn (fun i => L s i + f * L a i) (L s))
def zAp (nn s a b : Nat) (L : Nat → Int → Int) : Nat → Int → Int := zlu L s (zap nn (L a) (L b) (L s) nn)
def zHb (nn j : Nat) (L : Nat → Int → Int) : Nat → Int → Int := zlu L j (zif nn (fun i => -(L 85 i) % 268435399) (L j))
def zCe (nn s a : Nat) (L : Nat → Int → Int) : Nat → Int → Int := zlu L s (zif nn (fun i => zct (L a i)) (L s))
def zRd (nn s a : Nat) (L : Nat → Int → Int) : Nat → Int → Int := zlu L s (zif nn (fun i => L a i % 268435399) (L s))
def zCy (nn s a : Nat) (L : Nat → Int → Int) : Nat → Int → Int := zlu L s (zif nn (L a) (L s))
def zSs (nn s a : Nat) (g : Int) (L : Nat → Int → Int) : Nat → Int → Int := zlu L s (zsb nn g (L a) (L s) nn)
def zFl (s : Nat) (v : Int) (L : Nat → Int → Int) : Nat → Int → Int := zlu L s (zif 32 (fun _ => v) (L s))
/-- makeSwitch, key at j, the row at a, k pairs made -/
def zSwc (nn : Nat) (ch : Int32) : Nat → Int32
  | 0 => ch
  | k + 1 => zMkc nn (zSwc nn ch k)
def zSwL (nn : Nat) (ch : Int32) (j a : Nat) (L : Nat → Int → Int) : Nat → Nat → Int → Int
  | 0 => L
  | k + 1 => zHb nn (j + 1 + 1 + k) (zAs nn 85 a (-(32 ^ k)) (zMk nn (zSwc nn ch k) (j + 8 + 1 + k) (zSwL nn ch j a L k)))
/-- the place of a TURN -/
def zplc (tg : Nat → Int) (tc g : Int) : Nat → Nat → Nat
  | 0, p => p
  | f + 1, p => if (p : Int) < tc ∧ ¬ tg (25 + 15 * p) = g then zplc tg tc g f (p + 1) else p
/-- findPhase: the phase into row s, of the cipher whose rows begin at q -/
def zPh (nn s q : Nat) (three : Bool) (L : Nat → Int → Int) : Nat → Int → Int :=
  zCe nn s 85 ((if three then zAp nn 85 6 (q + 2) else fun x => x) (zAp nn 85 5 (q + 1) (zCy nn 85 q L)))
end
section
set_option maxRecDepth 100000 in
set_option maxHeartbeats 4000000 in
theorem c_forget (G : zG) (sz B : Nat) (kd n t zz : Int) (ch : Int32) (md tc : Int) (tg pt : Nat → Int) (L : Nat → Int → Int) (w0 : zW) : zCt G M_KeyRing_forget (zR 0 0 0 0) [.ref (B + 4)] sz (zsys G B kd n t zz ch md tc tg pt L w0) (zdet none (zsys G B kd n t zz ch 0 0 tg pt L w0) sz) := by
  refine V_aload_n d_KeyRing_forget_0 rfl ?_
  refine V_iconst d_KeyRing_forget_1 ?_
  refine V_putf d_KeyRing_forget_2 ff_KeyRing_41 zsys_k ⟨_, _, _, _, rfl, rfl, rfl, rfl, rfl⟩ (Nat.le_of_ble_eq_true rfl) ?_
  refine V_w (zsys_kr (md' := 0) (tc' := tc) rfl) ?_
  refine V_aload_n d_KeyRing_forget_5 rfl ?_
  refine V_iconst d_KeyRing_forget_6 ?_
  refine V_putf d_KeyRing_forget_7 ff_KeyRing_45 zsys_k ⟨_, _, _, _, rfl, rfl, rfl, rfl, rfl⟩ (Nat.le_of_ble_eq_true rfl) ?_
  refine V_w (zsys_kr (md' := 0) (tc' := 0) rfl) ?_
  exact V_return d_KeyRing_forget_10 rfl ⟨Nat.le_of_ble_eq_true rfl, Nat.le_of_ble_eq_true rfl⟩ ⟨rfl, rfl, rfl⟩

set_option maxRecDepth 100000 in
set_option maxHeartbeats 4000000 in
theorem c_hideBody (G : zG) (sz B : Nat) (kd n t zz : Int) (ch : Int32) (md tc : Int) (tg pt : Nat → Int) (L : Nat → Int → Int) (w0 : zW) (nn : Nat) (hnn : n = (nn : Int)) (hn : nn ≤ 32) (j : Nat) (hj : zir j) (hj85 : 85 ≠ j) (hh : ∀ i : Nat, i < nn → -9223372036854775808 < L 85 i ∧ L 85 i < 9223372036854775808) : zCt G M_KeyRing_hideBody (zR 1 0 0 25) [.ref (B + 4), .ref (B + 1), .ref (B + j)] sz (zsys G B kd n t zz ch md tc tg pt L w0) (zdet none (zsys G B kd n t zz ch md tc tg pt (zHb nn j L) w0) sz) := by
  subst hnn
  refine V_iconst d_KeyRing_hideBody_0 ?_
  refine V_istore_n d_KeyRing_hideBody_1 (by decide) ?_
  refine V_w (w' := (zsys G B kd nn t zz ch md tc tg pt (zlu L j (zif ((0 : Nat) : Int) (fun i => -(L 85 i) % 268435399) (L j))) w0)) (by rw [show ((0 : Nat) : Int) = 0 from rfl, zif_0, ← zsys_lu hj, zset_self (zsys_row hj)]) ?_
  refine zfor nn (fun i => V G M_KeyRing_hideBody (zdet none (zsys G B kd nn t zz ch md tc tg pt (zHb nn j L) w0) sz) (zR 1 0 0 25) 0 0 sz 2 [(0, .ref (B + 4)), (1, .ref (B + 1)), (2, .ref (B + j)), (3, .int (Int32.ofInt (i : Int)))] [] (zsys G B kd nn t zz ch md tc tg pt (zlu L j (zif (i : Int) (fun i => -(L 85 i) % 268435399) (L j))) w0)) ?_ (fun i hi ih => ?_) 0 (Nat.zero_le nn)
  · skip
    refine V_iload_n d_KeyRing_hideBody_2 rfl ?_
    refine V_aload_n d_KeyRing_hideBody_3 rfl ?_
    refine V_getf d_KeyRing_hideBody_4 ff_KeyRing_49 zsys_r rfl ?_
    refine J_icmp_ge 32 d_KeyRing_hideBody_7 (by decide) (by omega) (by omega) (fun c_7 => ?_) (fun c_7 => absurd c_7 (by omega))
    exact V_return d_KeyRing_hideBody_32 rfl ⟨Nat.le_of_ble_eq_true rfl, Nat.le_of_ble_eq_true rfl⟩ ⟨rfl, rfl, rfl⟩
  · have hv := hh i hi
    refine V_iload_n d_KeyRing_hideBody_2 rfl ?_
    refine V_aload_n d_KeyRing_hideBody_3 rfl ?_
    refine V_getf d_KeyRing_hideBody_4 ff_KeyRing_49 zsys_r rfl ?_
    refine J_icmp_ge 32 d_KeyRing_hideBody_7 (by decide) (by omega) (by omega) (fun c_7 => absurd c_7 (by omega)) (fun c_7 => ?_)
    refine V_aload_n d_KeyRing_hideBody_10 rfl ?_
    refine V_iload_n d_KeyRing_hideBody_11 rfl ?_
    refine V_aload_n d_KeyRing_hideBody_12 rfl ?_
    refine V_getf d_KeyRing_hideBody_13 ff_KeyRing_35 zsys_k rfl ?_
    refine V_iload_n d_KeyRing_hideBody_16 rfl ?_
    refine J_laload d_KeyRing_hideBody_17 (zsys_row zir_85) (by omega) (by decide) ?_
    rw [zlu_n hj85]
    refine J_lneg d_KeyRing_hideBody_18 ?_
    refine J_ldc2 d_KeyRing_hideBody_19 k_KeyRing_112 ?_
    refine V_callS (n := 2) d_KeyRing_hideBody_22 g_KeyRing_114 rfl (c_fmodJ G _ _ (-(L 85 i)) 268435399 (by omega) (by decide)) ⟨co_Math_floorMod_JJ, by decide +kernel, Nat.le_of_ble_eq_true rfl⟩ ⟨Nat.le_of_ble_eq_true rfl, Nat.le_of_ble_eq_true rfl, Nat.le_of_ble_eq_true rfl, Nat.le_of_ble_eq_true rfl⟩ (Nat.le_of_ble_eq_true rfl) (fun r_22 w_22 s_22 q_22 => ?_) (fun _ _ _ q => False.elim q)
    obtain ⟨rfl, rfl, rfl⟩ := q_22
    refine J_lastore d_KeyRing_hideBody_25 (zsys_row hj) (by omega) (by decide) ?_
    refine J_iinc d_KeyRing_hideBody_26 rfl (by decide) ?_
    refine V_goto 2 d_KeyRing_hideBody_29 (by decide) ?_
    exact V_w (by rw [zsys_lu hj, zlu_s, zif_s (by omega) rfl, zlu_lu]; rfl) ih

set_option maxRecDepth 100000 in
set_option maxHeartbeats 4000000 in
theorem c_makeMask (G : zG) (sz B : Nat) (kd n t zz : Int) (ch : Int32) (md tc : Int) (tg pt : Nat → Int) (L : Nat → Int → Int) (w0 : zW) (nn : Nat) (hnn : n = (nn : Int)) (hn : nn ≤ 32) (j : Nat) (hj : zir j) (h85 : 85 ≠ j) (h5 : 5 ≠ j) : zCt G M_KeyRing_makeMask (zR 2 0 0 45) [.ref (B + 4), .ref (B + 1), .ref (B + 3), .ref (B + j)] sz (zsys G B kd n t zz ch md tc tg pt L w0) (zdet none (zsys G B kd n t zz (zMkc nn ch) md tc tg pt (zMk nn ch j L) w0) sz) := by
  subst hnn
  refine V_aload_n d_KeyRing_makeMask_0 rfl ?_
  refine V_aload_n d_KeyRing_makeMask_1 rfl ?_
  refine V_aload_n d_KeyRing_makeMask_2 rfl ?_
  refine V_getf d_KeyRing_makeMask_3 ff_KeyRing_49 zsys_r rfl ?_
  refine V_callV (n := 2) d_KeyRing_makeMask_6 g_KeyRing_106 rfl zsys_c rfl (c_fillUniform G _ _ (B + 3) (B + j) nn ch (L j) zsys_c (zsys_row hj) hn) ⟨co_Chance_fillUniform, by decide +kernel, Nat.le_of_ble_eq_true rfl⟩ ⟨Nat.le_of_ble_eq_true rfl, Nat.le_of_ble_eq_true rfl, Nat.le_of_ble_eq_true rfl, Nat.le_of_ble_eq_true rfl⟩ (Nat.le_of_ble_eq_true rfl) (fun r_6 w_6 s_6 q_6 => ?_) (fun _ _ _ q => False.elim q)
  obtain ⟨rfl, rfl, rfl⟩ := q_6
  refine V_w (by rw [zsys_ch, zsys_lu hj]) ?_
  refine V_aload_n d_KeyRing_makeMask_9 rfl ?_
  refine V_aload_n d_KeyRing_makeMask_10 rfl ?_
  refine V_getf d_KeyRing_makeMask_11 ff_KeyRing_35 zsys_k rfl ?_
  refine V_aload_n d_KeyRing_makeMask_14 rfl ?_
  refine V_getf d_KeyRing_makeMask_15 ff_KeyRing_49 zsys_r rfl ?_
  refine V_callV (n := 2) d_KeyRing_makeMask_18 g_KeyRing_109 rfl zsys_c rfl (c_fillErrors G _ _ (B + 3) (B + 85) nn (zlcN ch (2 * nn)) (L 85) zsys_c ((zsys_row zir_85).trans (by rw [zlu_n h85])) hn) ⟨co_Chance_fillErrors, by decide +kernel, Nat.le_of_ble_eq_true rfl⟩ ⟨Nat.le_of_ble_eq_true rfl, Nat.le_of_ble_eq_true rfl, Nat.le_of_ble_eq_true rfl, Nat.le_of_ble_eq_true rfl⟩ (Nat.le_of_ble_eq_true rfl) (fun r_18 w_18 s_18 q_18 => ?_) (fun _ _ _ q => False.elim q)
  obtain ⟨rfl, rfl, rfl⟩ := q_18
  refine V_w (by rw [zsys_ch, zsys_lu zir_85]) ?_
  refine V_aload_n d_KeyRing_makeMask_21 rfl ?_
  refine V_aload_n d_KeyRing_makeMask_22 rfl ?_
  refine V_getf d_KeyRing_makeMask_23 ff_KeyRing_35 zsys_k rfl ?_
  refine V_aload_n d_KeyRing_makeMask_26 rfl ?_
  refine V_getf d_KeyRing_makeMask_27 ff_KeyRing_9 zsys_k rfl ?_
  refine V_aload_n d_KeyRing_makeMask_30 rfl ?_
  refine V_callV (n := 3) d_KeyRing_makeMask_31 g_KeyRing_66 rfl zsys_r rfl (c_addProduct G _ _ (B + 1) (B + 2) kd nn t zz (B + 85) (B + 5) (B + j) nn _ _ _ zsys_r (zsys_row zir_85) (zsys_row zir_5) (zsys_row hj) (by omega) (by omega) rfl hn) ⟨co_Ring_addProduct, by decide +kernel, Nat.le_of_ble_eq_true rfl⟩ ⟨Nat.le_of_ble_eq_true rfl, Nat.le_of_ble_eq_true rfl, Nat.le_of_ble_eq_true rfl, Nat.le_of_ble_eq_true rfl⟩ (Nat.le_of_ble_eq_true rfl) (fun r_31 w_31 s_31 q_31 => ?_) (fun _ _ _ q => False.elim q)
  obtain ⟨rfl, rfl, rfl⟩ := q_31
  refine V_w (zsys_lu zir_85) ?_
  exact V_return d_KeyRing_makeMask_34 rfl ⟨Nat.le_of_ble_eq_true rfl, Nat.le_of_ble_eq_true rfl⟩ ⟨rfl, by unfold zMk zMkc; rw [zlu_s, zlu_n (show 5 ≠ 85 by decide), zlu_n h5, zlu_n (Ne.symm h85), zlu_s], rfl⟩

set_option maxRecDepth 100000 in
set_option maxHeartbeats 4000000 in
theorem c_makeSwitch (G : zG) (sz B : Nat) (kd n t zz : Int) (ch : Int32) (md tc : Int) (tg pt : Nat → Int) (L : Nat → Int → Int) (w0 : zW) (nn : Nat) (hnn : n = (nn : Int)) (hn : nn ≤ 32) (j a : Nat) (hj : j = 9 ∨ j = 25 ∨ j = 40 ∨ j = 55 ∨ j = 70) (ha : zir a) (ha85 : a ≠ 85) (hh : ∀ k : Nat, k < 6 → ∀ i : Nat, i < nn → -9223372036854775808 < zAs nn 85 a (-(32 ^ k)) (zMk nn (zSwc nn ch k) (j + 8 + 1 + k) (zSwL nn ch j a L k)) 85 i ∧ zAs nn 85 a (-(32 ^ k)) (zMk nn (zSwc nn ch k) (j + 8 + 1 + k) (zSwL nn ch j a L k)) 85 i < 9223372036854775808) : zCt G M_KeyRing_makeSwitch (zR 3 0 0 68) [.ref (B + 4), .ref (B + 1), .ref (B + 3), .ref (B + j), .ref (B + a)] sz (zsys G B kd n t zz ch md tc tg pt L w0) (zdet none (zsys G B kd n t zz (zSwc nn ch 6) md tc tg pt (zSwL nn ch j a L 6) w0) sz) := by
  subst hnn
  refine V_iconst d_KeyRing_makeSwitch_0 ?_
  refine V_istore d_KeyRing_makeSwitch_1 (by decide) ?_
  refine zfor 6 (fun i => V G M_KeyRing_makeSwitch (zdet none (zsys G B kd nn t zz (zSwc nn ch 6) md tc tg pt (zSwL nn ch j a L 6) w0) sz) (zR 3 0 0 68) 0 0 sz 3 [(0, .ref (B + 4)), (1, .ref (B + 1)), (2, .ref (B + 3)), (3, .ref (B + j)), (4, .ref (B + a)), (5, .int (Int32.ofInt (i : Int)))] [] (zsys G B kd nn t zz (zSwc nn ch i) md tc tg pt (zSwL nn ch j a L i) w0)) ?_ (fun i hi ih => ?_) 0 (Nat.zero_le 6)
  · skip
    refine V_iload d_KeyRing_makeSwitch_3 rfl ?_
    refine J_bipush d_KeyRing_makeSwitch_5 (by decide) ?_
    refine J_icmp_ge 58 d_KeyRing_makeSwitch_7 (by decide) (by omega) (by omega) (fun c_7 => ?_) (fun c_7 => absurd c_7 (by omega))
    exact V_return d_KeyRing_makeSwitch_58 rfl ⟨Nat.le_of_ble_eq_true rfl, Nat.le_of_ble_eq_true rfl⟩ ⟨rfl, rfl, rfl⟩
  · skip
    refine V_iload d_KeyRing_makeSwitch_3 rfl ?_
    refine J_bipush d_KeyRing_makeSwitch_5 (by decide) ?_
    refine J_icmp_ge 58 d_KeyRing_makeSwitch_7 (by decide) (by omega) (by omega) (fun c_7 => absurd c_7 (by omega)) (fun c_7 => ?_)
    refine V_aload_n d_KeyRing_makeSwitch_10 rfl ?_
    refine V_aload_n d_KeyRing_makeSwitch_11 rfl ?_
    refine V_aload_n d_KeyRing_makeSwitch_12 rfl ?_
    refine V_aload_n d_KeyRing_makeSwitch_13 rfl ?_
    refine V_getf d_KeyRing_makeSwitch_14 ff_KeyRing_95 (zsys_at (by omega) (zlay_swk hj)) rfl ?_
    refine V_iload d_KeyRing_makeSwitch_17 rfl ?_
    refine J_aaload d_KeyRing_makeSwitch_19 (zsys_at (by omega) (zlay_swr (by omega))) rfl rfl (by omega) (by decide) ((zel (a := fun k => B + (j + 8 + 1 + k)) hi).trans rfl : _ = some (B + (j + 8 + 1 + i))) ?_
    refine V_callV (n := 3) d_KeyRing_makeSwitch_20 g_KeyRing_70 rfl zsys_k rfl (c_makeMask G _ B kd nn t zz (zSwc nn ch i) md tc tg pt (zSwL nn ch j a L i) w0 nn rfl hn (j + 8 + 1 + i) (zir_m hj hi) (by omega) (by omega)) ⟨co_KeyRing_makeMask, by decide +kernel, Nat.le_of_ble_eq_true rfl⟩ ⟨Nat.le_of_ble_eq_true rfl, Nat.le_of_ble_eq_true rfl, Nat.le_of_ble_eq_true rfl, Nat.le_of_ble_eq_true rfl⟩ (Nat.le_of_ble_eq_true rfl) (fun r_20 w_20 s_20 q_20 => ?_) (fun _ _ _ q => False.elim q)
    obtain ⟨rfl, rfl, rfl⟩ := q_20
    refine V_aload_n d_KeyRing_makeSwitch_23 rfl ?_
    refine V_aload_n d_KeyRing_makeSwitch_24 rfl ?_
    refine V_getf d_KeyRing_makeSwitch_25 ff_KeyRing_35 zsys_k rfl ?_
    refine V_aload d_KeyRing_makeSwitch_28 rfl ?_
    refine J_lconst (z := 1) d_KeyRing_makeSwitch_30 rfl ?_
    refine V_iconst d_KeyRing_makeSwitch_31 ?_
    refine V_iload d_KeyRing_makeSwitch_32 rfl ?_
    refine J_imul d_KeyRing_makeSwitch_34 ?_
    refine V_lshl d_KeyRing_makeSwitch_35 ?_
    rw [zshl hi]
    refine J_lneg d_KeyRing_makeSwitch_36 ?_
    refine V_callV (n := 3) d_KeyRing_makeSwitch_37 g_KeyRing_99 rfl zsys_r rfl (c_addScaled G _ _ (B + 1) (B + 2) kd nn t zz (B + 85) (B + a) (-(32 ^ i)) _ _ zsys_r (zsys_row zir_85) (zsys_row ha) (by omega) (by omega)) ⟨co_Ring_addScaled, by decide +kernel, Nat.le_of_ble_eq_true rfl⟩ ⟨Nat.le_of_ble_eq_true rfl, Nat.le_of_ble_eq_true rfl, Nat.le_of_ble_eq_true rfl, Nat.le_of_ble_eq_true rfl⟩ (Nat.le_of_ble_eq_true rfl) (fun r_37 w_37 s_37 q_37 => ?_) (fun _ _ _ q => False.elim q)
    obtain ⟨rfl, rfl, rfl⟩ := q_37
    refine V_w (zsys_lu zir_85) ?_
    refine V_aload_n d_KeyRing_makeSwitch_40 rfl ?_
    refine V_aload_n d_KeyRing_makeSwitch_41 rfl ?_
    refine V_aload_n d_KeyRing_makeSwitch_42 rfl ?_
    refine V_getf d_KeyRing_makeSwitch_43 ff_KeyRing_103 (zsys_at (by omega) (zlay_swk hj)) rfl ?_
    refine V_iload d_KeyRing_makeSwitch_46 rfl ?_
    refine J_aaload d_KeyRing_makeSwitch_48 (zsys_at (by omega) (zlay_swr (by omega))) rfl rfl (by omega) (by decide) ((zel (a := fun k => B + (j + 1 + 1 + k)) hi).trans rfl : _ = some (B + (j + 1 + 1 + i))) ?_
    refine V_callV (n := 2) d_KeyRing_makeSwitch_49 g_KeyRing_74 rfl zsys_k rfl (c_hideBody G _ B kd nn t zz _ md tc tg pt (zAs nn 85 a (-(32 ^ i)) (zMk nn (zSwc nn ch i) (j + 8 + 1 + i) (zSwL nn ch j a L i))) w0 nn rfl hn (j + 1 + 1 + i) (zir_b hj hi) (by omega) (hh i hi)) ⟨co_KeyRing_hideBody, by decide +kernel, Nat.le_of_ble_eq_true rfl⟩ ⟨Nat.le_of_ble_eq_true rfl, Nat.le_of_ble_eq_true rfl, Nat.le_of_ble_eq_true rfl, Nat.le_of_ble_eq_true rfl⟩ (Nat.le_of_ble_eq_true rfl) (fun r_49 w_49 s_49 q_49 => ?_) (fun _ _ _ q => False.elim q)
    obtain ⟨rfl, rfl, rfl⟩ := q_49
    refine J_iinc d_KeyRing_makeSwitch_52 rfl (by decide) ?_
    refine V_goto 3 d_KeyRing_makeSwitch_55 (by decide) ?_
    exact ih

def zRnL (nn : Nat) (ch : Int32) (L : Nat → Int → Int) : Nat → Int → Int := (zSwL nn (zMkc nn (zlcN ch nn)) 9 6 (zHb nn 7 (zMk nn (zlcN ch nn) 8 (zAp nn 6 5 5 (zFl 6 0 (zlu L 5 (zif nn (zrT ch) (L 5))))))) 6)
def zRnc (nn : Nat) (ch : Int32) : Int32 := (zSwc nn (zMkc nn (zlcN ch nn)) 6)
set_option maxRecDepth 100000 in
set_option maxHeartbeats 4000000 in
theorem c_renew (G : zG) (sz B : Nat) (kd n t zz : Int) (ch : Int32) (md tc : Int) (tg pt : Nat → Int) (L : Nat → Int → Int) (w0 : zW) (nn : Nat) (hnn : n = (nn : Int)) (hn : nn ≤ 32) (h1 : ∀ i : Nat, i < nn → -9223372036854775808 < zMk nn (zlcN ch nn) 8 (zAp nn 6 5 5 (zFl 6 0 (zlu L 5 (zif nn (zrT ch) (L 5))))) 85 i ∧ zMk nn (zlcN ch nn) 8 (zAp nn 6 5 5 (zFl 6 0 (zlu L 5 (zif nn (zrT ch) (L 5))))) 85 i < 9223372036854775808) (h2 : ∀ k : Nat, k < 6 → ∀ i : Nat, i < nn → -9223372036854775808 < zAs nn 85 6 (-(32 ^ k)) (zMk nn (zSwc nn (zMkc nn (zlcN ch nn)) k) (9 + 8 + 1 + k) (zSwL nn (zMkc nn (zlcN ch nn)) 9 6 (zHb nn 7 (zMk nn (zlcN ch nn) 8 (zAp nn 6 5 5 (zFl 6 0 (zlu L 5 (zif nn (zrT ch) (L 5))))))) k)) 85 i ∧ zAs nn 85 6 (-(32 ^ k)) (zMk nn (zSwc nn (zMkc nn (zlcN ch nn)) k) (9 + 8 + 1 + k) (zSwL nn (zMkc nn (zlcN ch nn)) 9 6 (zHb nn 7 (zMk nn (zlcN ch nn) 8 (zAp nn 6 5 5 (zFl 6 0 (zlu L 5 (zif nn (zrT ch) (L 5))))))) k)) 85 i < 9223372036854775808) : zCt G M_KeyRing_renew (zR 4 0 0 93) [.ref (B + 4), .ref (B + 1), .ref (B + 3)] sz (zsys G B kd n t zz ch md tc tg pt L w0) (zdet none (zsys G B kd n t zz (zRnc nn ch) 1 0 tg pt (zRnL nn ch L) w0) sz) := by
  subst hnn
  refine V_aload_n d_KeyRing_renew_0 rfl ?_
  refine V_aload_n d_KeyRing_renew_1 rfl ?_
  refine V_getf d_KeyRing_renew_2 ff_KeyRing_9 zsys_k rfl ?_
  refine V_aload_n d_KeyRing_renew_5 rfl ?_
  refine V_getf d_KeyRing_renew_6 ff_KeyRing_49 zsys_r rfl ?_
  refine V_callV (n := 2) d_KeyRing_renew_9 g_KeyRing_54 rfl zsys_c rfl (c_fillTernary G _ _ (B + 3) (B + 5) nn ch (L 5) zsys_c (zsys_row zir_5) hn) ⟨co_Chance_fillTernary, by decide +kernel, Nat.le_of_ble_eq_true rfl⟩ ⟨Nat.le_of_ble_eq_true rfl, Nat.le_of_ble_eq_true rfl, Nat.le_of_ble_eq_true rfl, Nat.le_of_ble_eq_true rfl⟩ (Nat.le_of_ble_eq_true rfl) (fun r_9 w_9 s_9 q_9 => ?_) (fun _ _ _ q => False.elim q)
  obtain ⟨rfl, rfl, rfl⟩ := q_9
  refine V_w (by rw [zsys_ch, zsys_lu zir_5]) ?_
  refine V_aload_n d_KeyRing_renew_12 rfl ?_
  refine V_getf d_KeyRing_renew_13 ff_KeyRing_15 zsys_k rfl ?_
  refine J_lconst (z := 0) d_KeyRing_renew_16 rfl ?_
  refine V_callS (n := 2) d_KeyRing_renew_17 g_KeyRing_60 rfl (c_fill G _ _ (B + 6) 32 0 _ (zsys_row zir_6) (by decide)) ⟨co_Arrays_fill, by decide +kernel, Nat.le_of_ble_eq_true rfl⟩ ⟨Nat.le_of_ble_eq_true rfl, Nat.le_of_ble_eq_true rfl, Nat.le_of_ble_eq_true rfl, Nat.le_of_ble_eq_true rfl⟩ (Nat.le_of_ble_eq_true rfl) (fun r_17 w_17 s_17 q_17 => ?_) (fun _ _ _ q => False.elim q)
  obtain ⟨rfl, rfl, rfl⟩ := q_17
  refine V_w (zsys_lu zir_6) ?_
  refine V_aload_n d_KeyRing_renew_20 rfl ?_
  refine V_aload_n d_KeyRing_renew_21 rfl ?_
  refine V_getf d_KeyRing_renew_22 ff_KeyRing_15 zsys_k rfl ?_
  refine V_aload_n d_KeyRing_renew_25 rfl ?_
  refine V_getf d_KeyRing_renew_26 ff_KeyRing_9 zsys_k rfl ?_
  refine V_aload_n d_KeyRing_renew_29 rfl ?_
  refine V_getf d_KeyRing_renew_30 ff_KeyRing_9 zsys_k rfl ?_
  refine V_callV (n := 3) d_KeyRing_renew_33 g_KeyRing_66 rfl zsys_r rfl (c_addProduct G _ _ (B + 1) (B + 2) kd nn t zz (B + 6) (B + 5) (B + 5) nn _ _ _ zsys_r (zsys_row zir_6) (zsys_row zir_5) (zsys_row zir_5) (by omega) (by omega) rfl hn) ⟨co_Ring_addProduct, by decide +kernel, Nat.le_of_ble_eq_true rfl⟩ ⟨Nat.le_of_ble_eq_true rfl, Nat.le_of_ble_eq_true rfl, Nat.le_of_ble_eq_true rfl, Nat.le_of_ble_eq_true rfl⟩ (Nat.le_of_ble_eq_true rfl) (fun r_33 w_33 s_33 q_33 => ?_) (fun _ _ _ q => False.elim q)
  obtain ⟨rfl, rfl, rfl⟩ := q_33
  refine V_w (zsys_lu zir_6) ?_
  refine V_aload_n d_KeyRing_renew_36 rfl ?_
  refine V_aload_n d_KeyRing_renew_37 rfl ?_
  refine V_aload_n d_KeyRing_renew_38 rfl ?_
  refine V_aload_n d_KeyRing_renew_39 rfl ?_
  refine V_getf d_KeyRing_renew_40 ff_KeyRing_21 zsys_k rfl ?_
  refine V_callV (n := 3) d_KeyRing_renew_43 g_KeyRing_70 rfl zsys_k rfl (c_makeMask G _ B kd nn t zz (zlcN ch nn) md tc tg pt (zAp nn 6 5 5 (zFl 6 0 (zlu L 5 (zif nn (zrT ch) (L 5))))) w0 nn rfl hn 8 zir_8 (by decide) (by decide)) ⟨co_KeyRing_makeMask, by decide +kernel, Nat.le_of_ble_eq_true rfl⟩ ⟨Nat.le_of_ble_eq_true rfl, Nat.le_of_ble_eq_true rfl, Nat.le_of_ble_eq_true rfl, Nat.le_of_ble_eq_true rfl⟩ (Nat.le_of_ble_eq_true rfl) (fun r_43 w_43 s_43 q_43 => ?_) (fun _ _ _ q => False.elim q)
  obtain ⟨rfl, rfl, rfl⟩ := q_43
  refine V_aload_n d_KeyRing_renew_46 rfl ?_
  refine V_aload_n d_KeyRing_renew_47 rfl ?_
  refine V_aload_n d_KeyRing_renew_48 rfl ?_
  refine V_getf d_KeyRing_renew_49 ff_KeyRing_18 zsys_k rfl ?_
  refine V_callV (n := 2) d_KeyRing_renew_52 g_KeyRing_74 rfl zsys_k rfl (c_hideBody G _ B kd nn t zz _ md tc tg pt (zMk nn (zlcN ch nn) 8 (zAp nn 6 5 5 (zFl 6 0 (zlu L 5 (zif nn (zrT ch) (L 5)))))) w0 nn rfl hn 7 zir_7 (by decide) h1) ⟨co_KeyRing_hideBody, by decide +kernel, Nat.le_of_ble_eq_true rfl⟩ ⟨Nat.le_of_ble_eq_true rfl, Nat.le_of_ble_eq_true rfl, Nat.le_of_ble_eq_true rfl, Nat.le_of_ble_eq_true rfl⟩ (Nat.le_of_ble_eq_true rfl) (fun r_52 w_52 s_52 q_52 => ?_) (fun _ _ _ q => False.elim q)
  obtain ⟨rfl, rfl, rfl⟩ := q_52
  refine V_aload_n d_KeyRing_renew_55 rfl ?_
  refine V_aload_n d_KeyRing_renew_56 rfl ?_
  refine V_aload_n d_KeyRing_renew_57 rfl ?_
  refine V_aload_n d_KeyRing_renew_58 rfl ?_
  refine V_getf d_KeyRing_renew_59 ff_KeyRing_27 zsys_k rfl ?_
  refine V_aload_n d_KeyRing_renew_62 rfl ?_
  refine V_getf d_KeyRing_renew_63 ff_KeyRing_15 zsys_k rfl ?_
  refine V_callV (n := 4) d_KeyRing_renew_66 g_KeyRing_78 rfl zsys_k rfl (c_makeSwitch G _ B kd nn t zz (zMkc nn (zlcN ch nn)) md tc tg pt (zHb nn 7 (zMk nn (zlcN ch nn) 8 (zAp nn 6 5 5 (zFl 6 0 (zlu L 5 (zif nn (zrT ch) (L 5))))))) w0 nn rfl hn 9 6 (Or.inl rfl) zir_6 (by decide) h2) ⟨co_KeyRing_makeSwitch, by decide +kernel, Nat.le_of_ble_eq_true rfl⟩ ⟨Nat.le_of_ble_eq_true rfl, Nat.le_of_ble_eq_true rfl, Nat.le_of_ble_eq_true rfl, Nat.le_of_ble_eq_true rfl⟩ (Nat.le_of_ble_eq_true rfl) (fun r_66 w_66 s_66 q_66 => ?_) (fun _ _ _ q => False.elim q)
  obtain ⟨rfl, rfl, rfl⟩ := q_66
  refine V_aload_n d_KeyRing_renew_69 rfl ?_
  refine V_iconst d_KeyRing_renew_70 ?_
  refine V_putf d_KeyRing_renew_71 ff_KeyRing_41 zsys_k ⟨_, _, _, _, rfl, rfl, rfl, rfl, rfl⟩ (Nat.le_of_ble_eq_true rfl) ?_
  refine V_w (zsys_kr (md' := 1) (tc' := tc) rfl) ?_
  refine V_aload_n d_KeyRing_renew_74 rfl ?_
  refine V_iconst d_KeyRing_renew_75 ?_
  refine V_putf d_KeyRing_renew_76 ff_KeyRing_45 zsys_k ⟨_, _, _, _, rfl, rfl, rfl, rfl, rfl⟩ (Nat.le_of_ble_eq_true rfl) ?_
  refine V_w (zsys_kr (md' := 1) (tc' := 0) rfl) ?_
  exact V_return d_KeyRing_renew_79 rfl ⟨Nat.le_of_ble_eq_true rfl, Nat.le_of_ble_eq_true rfl⟩ ⟨rfl, rfl, rfl⟩

set_option maxRecDepth 100000 in
set_option maxHeartbeats 4000000 in
theorem c_placeOfTurn (G : zG) (sz B : Nat) (kd n t zz : Int) (ch : Int32) (md tc : Int) (tg pt : Nat → Int) (L : Nat → Int → Int) (w0 : zW) (g : Int) (hg : -2147483648 ≤ g ∧ g < 2147483648) (htc : 0 ≤ tc ∧ tc ≤ 4) (htg : ∀ p : Nat, p < 4 → -2147483648 ≤ tg (25 + 15 * p) ∧ tg (25 + 15 * p) < 2147483648) : zCt G M_KeyRing_placeOfTurn (zR 0 0 0 0) [.ref (B + 4), .int (Int32.ofInt g)] sz (zsys G B kd n t zz ch md tc tg pt L w0) (zdet (some (.int (Int32.ofInt ((zplc tg tc g 5 0 : Nat) : Int)))) (zsys G B kd n t zz ch md tc tg pt L w0) sz) := by
  have key : ∀ (f p : Nat), (p : Int) ≤ tc → tc - p ≤ f → zplc tg tc g 5 0 = zplc tg tc g f p → V G M_KeyRing_placeOfTurn (zdet (some (.int (Int32.ofInt ((zplc tg tc g 5 0 : Nat) : Int)))) (zsys G B kd n t zz ch md tc tg pt L w0) sz) (zR 0 0 0 0) 0 0 sz 2 [(0, .ref (B + 4)), (1, .int (Int32.ofInt g)), (2, .int (Int32.ofInt (p : Int)))] [] (zsys G B kd n t zz ch md tc tg pt L w0) := by
    intro f
    induction f with
    | zero =>
      intro p h3 h4 h5
      refine V_iload_n d_KeyRing_placeOfTurn_2 rfl ?_
      refine V_aload_n d_KeyRing_placeOfTurn_3 rfl ?_
      refine V_getf d_KeyRing_placeOfTurn_4 ff_KeyRing_45 zsys_k rfl ?_
      refine J_icmp_ge 29 d_KeyRing_placeOfTurn_7 (by decide) (by omega) (by omega) (fun c_7 => ?_) (fun c_7 => absurd c_7 (by omega))
      refine V_iload_n d_KeyRing_placeOfTurn_29 rfl ?_
      exact V_ireturn d_KeyRing_placeOfTurn_30 rfl ⟨Nat.le_of_ble_eq_true rfl, Nat.le_of_ble_eq_true rfl⟩ ⟨by rw [h5]; rfl, rfl, rfl⟩
    | succ f ih =>
      intro p h3 h4 h5
      refine V_iload_n d_KeyRing_placeOfTurn_2 rfl ?_
      refine V_aload_n d_KeyRing_placeOfTurn_3 rfl ?_
      refine V_getf d_KeyRing_placeOfTurn_4 ff_KeyRing_45 zsys_k rfl ?_
      refine J_icmp_ge 29 d_KeyRing_placeOfTurn_7 (by decide) (by omega) (by omega) (fun c_7 => ?_) (fun c_7 => ?_)
      · skip
        refine V_iload_n d_KeyRing_placeOfTurn_29 rfl ?_
        exact V_ireturn d_KeyRing_placeOfTurn_30 rfl ⟨Nat.le_of_ble_eq_true rfl, Nat.le_of_ble_eq_true rfl⟩ ⟨by rw [h5]; unfold zplc; rw [if_neg (by omega)], rfl, rfl⟩
      · skip
        refine V_aload_n d_KeyRing_placeOfTurn_10 rfl ?_
        refine V_getf d_KeyRing_placeOfTurn_11 ff_KeyRing_31 zsys_k rfl ?_
        refine V_iload_n d_KeyRing_placeOfTurn_14 rfl ?_
        refine J_aaload d_KeyRing_placeOfTurn_15 (zsys_at (by decide) rfl) rfl rfl (by omega) (by decide) ((zel (a := fun k => B + (25 + 15 * k)) (show p < 4 by omega)).trans rfl : _ = some (B + (25 + 15 * p))) ?_
        refine V_getf d_KeyRing_placeOfTurn_16 ff_KeyRing_82 (zsys_at (by omega) (zlay_swk (by omega))) rfl ?_
        refine V_iload_n d_KeyRing_placeOfTurn_19 rfl ?_
        refine J_icmp_eq 29 d_KeyRing_placeOfTurn_20 (by decide) (htg p (by omega)) (by omega) (fun c_20 => ?_) (fun c_20 => ?_)
        · skip
          refine V_iload_n d_KeyRing_placeOfTurn_29 rfl ?_
          exact V_ireturn d_KeyRing_placeOfTurn_30 rfl ⟨Nat.le_of_ble_eq_true rfl, Nat.le_of_ble_eq_true rfl⟩ ⟨by rw [h5]; unfold zplc; rw [if_neg (fun q => q.2 c_20)], rfl, rfl⟩
        · skip
          refine J_iinc d_KeyRing_placeOfTurn_23 rfl (by decide) ?_
          refine V_goto 2 d_KeyRing_placeOfTurn_26 (by decide) ?_
          exact ih (p + 1) (by omega) (by omega) (by rw [h5]; conv => { lhs; unfold zplc }; rw [if_pos ⟨c_7, c_20⟩])
  refine V_iconst d_KeyRing_placeOfTurn_0 ?_
  refine V_istore_n d_KeyRing_placeOfTurn_1 (by decide) ?_
  exact key 5 0 (by omega) (by omega) rfl

set_option maxRecDepth 100000 in
set_option maxHeartbeats 4000000 in
theorem c_makeTurn (G : zG) (sz B : Nat) (kd n t zz : Int) (ch : Int32) (md tc : Int) (tg pt : Nat → Int) (L : Nat → Int → Int) (w0 : zW) (nn : Nat) (hnn : n = (nn : Int)) (hn : nn ≤ 32) (p : Nat) (g : Int) (hp : p < 4) (hg : 0 ≤ g ∧ g ≤ 64) (htc : 0 ≤ tc ∧ tc ≤ 4) (h1 : ∀ i : Nat, i < nn → -9223372036854775808 < L 5 i ∧ L 5 i < 9223372036854775808) (h2 : ∀ k : Nat, k < 6 → ∀ i : Nat, i < nn → -9223372036854775808 < zAs nn 85 86 (-(32 ^ k)) (zMk nn (zSwc nn ch k) (25 + 15 * p + 8 + 1 + k) (zSwL nn ch (25 + 15 * p) 86 (zSs nn 86 5 g L) k)) 85 i ∧ zAs nn 85 86 (-(32 ^ k)) (zMk nn (zSwc nn ch k) (25 + 15 * p + 8 + 1 + k) (zSwL nn ch (25 + 15 * p) 86 (zSs nn 86 5 g L) k)) 85 i < 9223372036854775808) : zCt G M_KeyRing_makeTurn (zR 4 0 0 93) [.ref (B + 4), .ref (B + 1), .ref (B + 3), .int (Int32.ofInt (p : Int)), .int (Int32.ofInt g)] sz (zsys G B kd n t zz ch md tc tg pt L w0) (zdet none (zsys G B kd n t zz (zSwc nn ch 6) md (if tc < (p : Int) + 1 then (p : Int) + 1 else tc) (zpu tg (25 + 15 * p) g) pt (zSwL nn ch (25 + 15 * p) 86 (zSs nn 86 5 g L) 6) w0) sz) := by
  subst hnn
  refine V_aload_n d_KeyRing_makeTurn_0 rfl ?_
  refine V_aload_n d_KeyRing_makeTurn_1 rfl ?_
  refine V_getf d_KeyRing_makeTurn_2 ff_KeyRing_38 zsys_k rfl ?_
  refine V_aload_n d_KeyRing_makeTurn_5 rfl ?_
  refine V_getf d_KeyRing_makeTurn_6 ff_KeyRing_9 zsys_k rfl ?_
  refine V_iload d_KeyRing_makeTurn_9 rfl ?_
  refine V_callV (n := 3) d_KeyRing_makeTurn_11 g_KeyRing_85 rfl zsys_r rfl (c_substitute G _ _ (B + 1) (B + 2) kd nn t zz (B + 86) (B + 5) nn g _ _ zsys_r (zsys_row zir_86) (zsys_row zir_5) (by omega) rfl hn hg h1) ⟨co_Ring_substitute, by decide +kernel, Nat.le_of_ble_eq_true rfl⟩ ⟨Nat.le_of_ble_eq_true rfl, Nat.le_of_ble_eq_true rfl, Nat.le_of_ble_eq_true rfl, Nat.le_of_ble_eq_true rfl⟩ (Nat.le_of_ble_eq_true rfl) (fun r_11 w_11 s_11 q_11 => ?_) (fun _ _ _ q => False.elim q)
  obtain ⟨rfl, rfl, rfl⟩ := q_11
  refine V_w (zsys_lu zir_86) ?_
  refine V_aload_n d_KeyRing_makeTurn_14 rfl ?_
  refine V_aload_n d_KeyRing_makeTurn_15 rfl ?_
  refine V_aload_n d_KeyRing_makeTurn_16 rfl ?_
  refine V_aload_n d_KeyRing_makeTurn_17 rfl ?_
  refine V_getf d_KeyRing_makeTurn_18 ff_KeyRing_31 zsys_k rfl ?_
  refine V_iload_n d_KeyRing_makeTurn_21 rfl ?_
  refine J_aaload d_KeyRing_makeTurn_22 (zsys_at (by decide) rfl) rfl rfl (by omega) (by decide) ((zel (a := fun k => B + (25 + 15 * k)) hp).trans rfl : _ = some (B + (25 + 15 * p))) ?_
  refine V_aload_n d_KeyRing_makeTurn_23 rfl ?_
  refine V_getf d_KeyRing_makeTurn_24 ff_KeyRing_38 zsys_k rfl ?_
  refine V_callV (n := 4) d_KeyRing_makeTurn_27 g_KeyRing_78 rfl zsys_k rfl (c_makeSwitch G _ B kd nn t zz ch md tc tg pt (zSs nn 86 5 g L) w0 nn rfl hn (25 + 15 * p) 86 (by omega) zir_86 (by decide) h2) ⟨co_KeyRing_makeSwitch, by decide +kernel, Nat.le_of_ble_eq_true rfl⟩ ⟨Nat.le_of_ble_eq_true rfl, Nat.le_of_ble_eq_true rfl, Nat.le_of_ble_eq_true rfl, Nat.le_of_ble_eq_true rfl⟩ (Nat.le_of_ble_eq_true rfl) (fun r_27 w_27 s_27 q_27 => ?_) (fun _ _ _ q => False.elim q)
  obtain ⟨rfl, rfl, rfl⟩ := q_27
  refine V_aload_n d_KeyRing_makeTurn_30 rfl ?_
  refine V_getf d_KeyRing_makeTurn_31 ff_KeyRing_31 zsys_k rfl ?_
  refine V_iload_n d_KeyRing_makeTurn_34 rfl ?_
  refine J_aaload d_KeyRing_makeTurn_35 (zsys_at (by decide) rfl) rfl rfl (by omega) (by decide) ((zel (a := fun k => B + (25 + 15 * k)) hp).trans rfl : _ = some (B + (25 + 15 * p))) ?_
  refine V_iload d_KeyRing_makeTurn_36 rfl ?_
  refine V_putf d_KeyRing_makeTurn_38 ff_KeyRing_82 (zsys_at (by omega) (zlay_swk (by omega))) ⟨_, _, _, _, rfl, rfl, rfl, rfl, rfl⟩ (Nat.le_of_ble_eq_true rfl) ?_
  refine V_w (zsys_tg (v := g) (by omega) rfl) ?_
  refine V_aload_n d_KeyRing_makeTurn_41 rfl ?_
  refine V_aload_n d_KeyRing_makeTurn_42 rfl ?_
  refine V_getf d_KeyRing_makeTurn_43 ff_KeyRing_45 zsys_k rfl ?_
  refine V_iload_n d_KeyRing_makeTurn_46 rfl ?_
  refine V_iconst d_KeyRing_makeTurn_47 ?_
  refine J_iadd d_KeyRing_makeTurn_48 ?_
  refine V_callS (n := 2) d_KeyRing_makeTurn_49 g_KeyRing_89 rfl (c_maxI G _ _ tc ((p : Int) + 1) (by omega) (by omega)) ⟨co_Math_max_II, by decide +kernel, Nat.le_of_ble_eq_true rfl⟩ ⟨Nat.le_of_ble_eq_true rfl, Nat.le_of_ble_eq_true rfl, Nat.le_of_ble_eq_true rfl, Nat.le_of_ble_eq_true rfl⟩ (Nat.le_of_ble_eq_true rfl) (fun r_49 w_49 s_49 q_49 => ?_) (fun _ _ _ q => False.elim q)
  obtain ⟨rfl, rfl, rfl⟩ := q_49
  refine V_putf d_KeyRing_makeTurn_52 ff_KeyRing_45 zsys_k ⟨_, _, _, _, rfl, rfl, rfl, rfl, rfl⟩ (Nat.le_of_ble_eq_true rfl) ?_
  refine V_w (zsys_kr (md' := md) (tc' := if tc < (p : Int) + 1 then (p : Int) + 1 else tc) rfl) ?_
  exact V_return d_KeyRing_makeTurn_55 rfl ⟨Nat.le_of_ble_eq_true rfl, Nat.le_of_ble_eq_true rfl⟩ ⟨rfl, rfl, rfl⟩

set_option maxRecDepth 100000 in
set_option maxHeartbeats 4000000 in
theorem c_findPhase2 (G : zG) (sz B : Nat) (kd n t zz : Int) (ch : Int32) (md tc : Int) (tg pt : Nat → Int) (L : Nat → Int → Int) (w0 : zW) (nn : Nat) (hnn : n = (nn : Int)) (hn : nn ≤ 32) (c s : Nat) (hc : c < 16) (hs : zir s) (hs85 : s ≠ 85) (hp3 : 0 ≤ pt (97 + 5 * c) ∧ pt (97 + 5 * c) ≤ 3) (hpt : ¬ pt (97 + 5 * c) = 3) (hR : ∀ i : Nat, i < nn → -9223372036854775808 ≤ (zAp nn 85 5 (97 + 5 * c + 1 + 1 + 1) (zCy nn 85 (97 + 5 * c + 1 + 1 + 0) L)) 85 i ∧ (zAp nn 85 5 (97 + 5 * c + 1 + 1 + 1) (zCy nn 85 (97 + 5 * c + 1 + 1 + 0) L)) 85 i < 9223372036854775808) : zCt G M_KeyRing_findPhase (zR 3 0 0 71) [.ref (B + 4), .ref (B + 1), .ref (B + s), .ref (B + (97 + 5 * c))] sz (zsys G B kd n t zz ch md tc tg pt L w0) (zdet none (zsys G B kd n t zz ch md tc tg pt (zCe nn s 85 (zAp nn 85 5 (97 + 5 * c + 1 + 1 + 1) (zCy nn 85 (97 + 5 * c + 1 + 1 + 0) L))) w0) sz) := by
  subst hnn
  refine V_aload_n d_KeyRing_findPhase_0 rfl ?_
  refine V_aload_n d_KeyRing_findPhase_1 rfl ?_
  refine V_getf d_KeyRing_findPhase_2 ff_KeyRing_35 zsys_k rfl ?_
  refine V_aload_n d_KeyRing_findPhase_5 rfl ?_
  refine V_getf d_KeyRing_findPhase_6 ff_KeyRing_118 (zsys_at (by omega) (zlay_cip hc)) rfl ?_
  refine V_iconst d_KeyRing_findPhase_9 ?_
  refine J_aaload d_KeyRing_findPhase_10 (zsys_at (by omega) (zlay_cir hc)) rfl rfl (by omega) (by decide) (show _ = some (B + (97 + 5 * c + 1 + 1 + 0)) from rfl) ?_
  refine V_callV (n := 2) d_KeyRing_findPhase_11 g_KeyRing_123 rfl zsys_r rfl (c_copy G _ _ (B + 1) (B + 2) kd nn t zz (B + 85) (B + (97 + 5 * c + 1 + 1 + 0)) _ _ zsys_r (zsys_row zir_85) (zsys_row (zir_c hc (by decide))) (by omega)) ⟨co_Ring_copy, by decide +kernel, Nat.le_of_ble_eq_true rfl⟩ ⟨Nat.le_of_ble_eq_true rfl, Nat.le_of_ble_eq_true rfl, Nat.le_of_ble_eq_true rfl, Nat.le_of_ble_eq_true rfl⟩ (Nat.le_of_ble_eq_true rfl) (fun r_11 w_11 s_11 q_11 => ?_) (fun _ _ _ q => False.elim q)
  obtain ⟨rfl, rfl, rfl⟩ := q_11
  refine V_w (zsys_lu zir_85) ?_
  refine V_aload_n d_KeyRing_findPhase_14 rfl ?_
  refine V_aload_n d_KeyRing_findPhase_15 rfl ?_
  refine V_getf d_KeyRing_findPhase_16 ff_KeyRing_35 zsys_k rfl ?_
  refine V_aload_n d_KeyRing_findPhase_19 rfl ?_
  refine V_getf d_KeyRing_findPhase_20 ff_KeyRing_9 zsys_k rfl ?_
  refine V_aload_n d_KeyRing_findPhase_23 rfl ?_
  refine V_getf d_KeyRing_findPhase_24 ff_KeyRing_118 (zsys_at (by omega) (zlay_cip hc)) rfl ?_
  refine V_iconst d_KeyRing_findPhase_27 ?_
  refine J_aaload d_KeyRing_findPhase_28 (zsys_at (by omega) (zlay_cir hc)) rfl rfl (by omega) (by decide) (show _ = some (B + (97 + 5 * c + 1 + 1 + 1)) from rfl) ?_
  refine V_callV (n := 3) d_KeyRing_findPhase_29 g_KeyRing_66 rfl zsys_r rfl (c_addProduct G _ _ (B + 1) (B + 2) kd nn t zz (B + 85) (B + 5) (B + (97 + 5 * c + 1 + 1 + 1)) nn _ _ _ zsys_r (zsys_row zir_85) (zsys_row zir_5) (zsys_row (zir_c hc (by decide))) (by omega) (by omega) rfl hn) ⟨co_Ring_addProduct, by decide +kernel, Nat.le_of_ble_eq_true rfl⟩ ⟨Nat.le_of_ble_eq_true rfl, Nat.le_of_ble_eq_true rfl, Nat.le_of_ble_eq_true rfl, Nat.le_of_ble_eq_true rfl⟩ (Nat.le_of_ble_eq_true rfl) (fun r_29 w_29 s_29 q_29 => ?_) (fun _ _ _ q => False.elim q)
  obtain ⟨rfl, rfl, rfl⟩ := q_29
  refine V_w (zsys_lu zir_85) ?_
  refine V_aload_n d_KeyRing_findPhase_32 rfl ?_
  refine V_getf d_KeyRing_findPhase_33 ff_KeyRing_127 (zsys_at (by omega) (zlay_cip hc)) rfl ?_
  refine V_iconst d_KeyRing_findPhase_36 ?_
  refine J_icmp_ne 58 d_KeyRing_findPhase_37 (by decide) (by omega) (by omega) (fun c_37 => ?_) (fun c_37 => absurd c_37 hpt)
  refine V_aload_n d_KeyRing_findPhase_58 rfl ?_
  refine V_aload_n d_KeyRing_findPhase_59 rfl ?_
  refine V_aload_n d_KeyRing_findPhase_60 rfl ?_
  refine V_getf d_KeyRing_findPhase_61 ff_KeyRing_35 zsys_k rfl ?_
  refine V_callV (n := 2) d_KeyRing_findPhase_64 g_KeyRing_130 rfl zsys_r rfl (c_centre G _ _ (B + 1) (B + 2) kd nn t zz (B + s) (B + 85) nn _ _ zsys_r (zsys_row hs) (zsys_row zir_85) (by omega) rfl hn hR) ⟨co_Ring_centre, by decide +kernel, Nat.le_of_ble_eq_true rfl⟩ ⟨Nat.le_of_ble_eq_true rfl, Nat.le_of_ble_eq_true rfl, Nat.le_of_ble_eq_true rfl, Nat.le_of_ble_eq_true rfl⟩ (Nat.le_of_ble_eq_true rfl) (fun r_64 w_64 s_64 q_64 => ?_) (fun _ _ _ q => False.elim q)
  obtain ⟨rfl, rfl, rfl⟩ := q_64
  refine V_w (zsys_lu hs) ?_
  exact V_return d_KeyRing_findPhase_67 rfl ⟨Nat.le_of_ble_eq_true rfl, Nat.le_of_ble_eq_true rfl⟩ ⟨rfl, rfl, rfl⟩

set_option maxRecDepth 100000 in
set_option maxHeartbeats 4000000 in
theorem c_findPhase3 (G : zG) (sz B : Nat) (kd n t zz : Int) (ch : Int32) (md tc : Int) (tg pt : Nat → Int) (L : Nat → Int → Int) (w0 : zW) (nn : Nat) (hnn : n = (nn : Int)) (hn : nn ≤ 32) (c s : Nat) (hc : c < 16) (hs : zir s) (hs85 : s ≠ 85) (hp3 : 0 ≤ pt (97 + 5 * c) ∧ pt (97 + 5 * c) ≤ 3) (hpt : pt (97 + 5 * c) = 3) (hR : ∀ i : Nat, i < nn → -9223372036854775808 ≤ (zAp nn 85 6 (97 + 5 * c + 1 + 1 + 2) (zAp nn 85 5 (97 + 5 * c + 1 + 1 + 1) (zCy nn 85 (97 + 5 * c + 1 + 1 + 0) L))) 85 i ∧ (zAp nn 85 6 (97 + 5 * c + 1 + 1 + 2) (zAp nn 85 5 (97 + 5 * c + 1 + 1 + 1) (zCy nn 85 (97 + 5 * c + 1 + 1 + 0) L))) 85 i < 9223372036854775808) : zCt G M_KeyRing_findPhase (zR 3 0 0 71) [.ref (B + 4), .ref (B + 1), .ref (B + s), .ref (B + (97 + 5 * c))] sz (zsys G B kd n t zz ch md tc tg pt L w0) (zdet none (zsys G B kd n t zz ch md tc tg pt (zCe nn s 85 (zAp nn 85 6 (97 + 5 * c + 1 + 1 + 2) (zAp nn 85 5 (97 + 5 * c + 1 + 1 + 1) (zCy nn 85 (97 + 5 * c + 1 + 1 + 0) L)))) w0) sz) := by
  subst hnn
  refine V_aload_n d_KeyRing_findPhase_0 rfl ?_
  refine V_aload_n d_KeyRing_findPhase_1 rfl ?_
  refine V_getf d_KeyRing_findPhase_2 ff_KeyRing_35 zsys_k rfl ?_
  refine V_aload_n d_KeyRing_findPhase_5 rfl ?_
  refine V_getf d_KeyRing_findPhase_6 ff_KeyRing_118 (zsys_at (by omega) (zlay_cip hc)) rfl ?_
  refine V_iconst d_KeyRing_findPhase_9 ?_
  refine J_aaload d_KeyRing_findPhase_10 (zsys_at (by omega) (zlay_cir hc)) rfl rfl (by omega) (by decide) (show _ = some (B + (97 + 5 * c + 1 + 1 + 0)) from rfl) ?_
  refine V_callV (n := 2) d_KeyRing_findPhase_11 g_KeyRing_123 rfl zsys_r rfl (c_copy G _ _ (B + 1) (B + 2) kd nn t zz (B + 85) (B + (97 + 5 * c + 1 + 1 + 0)) _ _ zsys_r (zsys_row zir_85) (zsys_row (zir_c hc (by decide))) (by omega)) ⟨co_Ring_copy, by decide +kernel, Nat.le_of_ble_eq_true rfl⟩ ⟨Nat.le_of_ble_eq_true rfl, Nat.le_of_ble_eq_true rfl, Nat.le_of_ble_eq_true rfl, Nat.le_of_ble_eq_true rfl⟩ (Nat.le_of_ble_eq_true rfl) (fun r_11 w_11 s_11 q_11 => ?_) (fun _ _ _ q => False.elim q)
  obtain ⟨rfl, rfl, rfl⟩ := q_11
  refine V_w (zsys_lu zir_85) ?_
  refine V_aload_n d_KeyRing_findPhase_14 rfl ?_
  refine V_aload_n d_KeyRing_findPhase_15 rfl ?_
  refine V_getf d_KeyRing_findPhase_16 ff_KeyRing_35 zsys_k rfl ?_
  refine V_aload_n d_KeyRing_findPhase_19 rfl ?_
  refine V_getf d_KeyRing_findPhase_20 ff_KeyRing_9 zsys_k rfl ?_
  refine V_aload_n d_KeyRing_findPhase_23 rfl ?_
  refine V_getf d_KeyRing_findPhase_24 ff_KeyRing_118 (zsys_at (by omega) (zlay_cip hc)) rfl ?_
  refine V_iconst d_KeyRing_findPhase_27 ?_
  refine J_aaload d_KeyRing_findPhase_28 (zsys_at (by omega) (zlay_cir hc)) rfl rfl (by omega) (by decide) (show _ = some (B + (97 + 5 * c + 1 + 1 + 1)) from rfl) ?_
  refine V_callV (n := 3) d_KeyRing_findPhase_29 g_KeyRing_66 rfl zsys_r rfl (c_addProduct G _ _ (B + 1) (B + 2) kd nn t zz (B + 85) (B + 5) (B + (97 + 5 * c + 1 + 1 + 1)) nn _ _ _ zsys_r (zsys_row zir_85) (zsys_row zir_5) (zsys_row (zir_c hc (by decide))) (by omega) (by omega) rfl hn) ⟨co_Ring_addProduct, by decide +kernel, Nat.le_of_ble_eq_true rfl⟩ ⟨Nat.le_of_ble_eq_true rfl, Nat.le_of_ble_eq_true rfl, Nat.le_of_ble_eq_true rfl, Nat.le_of_ble_eq_true rfl⟩ (Nat.le_of_ble_eq_true rfl) (fun r_29 w_29 s_29 q_29 => ?_) (fun _ _ _ q => False.elim q)
  obtain ⟨rfl, rfl, rfl⟩ := q_29
  refine V_w (zsys_lu zir_85) ?_
  refine V_aload_n d_KeyRing_findPhase_32 rfl ?_
  refine V_getf d_KeyRing_findPhase_33 ff_KeyRing_127 (zsys_at (by omega) (zlay_cip hc)) rfl ?_
  refine V_iconst d_KeyRing_findPhase_36 ?_
  refine J_icmp_ne 58 d_KeyRing_findPhase_37 (by decide) (by omega) (by omega) (fun c_37 => absurd hpt c_37) (fun c_37 => ?_)
  refine V_aload_n d_KeyRing_findPhase_40 rfl ?_
  refine V_aload_n d_KeyRing_findPhase_41 rfl ?_
  refine V_getf d_KeyRing_findPhase_42 ff_KeyRing_35 zsys_k rfl ?_
  refine V_aload_n d_KeyRing_findPhase_45 rfl ?_
  refine V_getf d_KeyRing_findPhase_46 ff_KeyRing_15 zsys_k rfl ?_
  refine V_aload_n d_KeyRing_findPhase_49 rfl ?_
  refine V_getf d_KeyRing_findPhase_50 ff_KeyRing_118 (zsys_at (by omega) (zlay_cip hc)) rfl ?_
  refine V_iconst d_KeyRing_findPhase_53 ?_
  refine J_aaload d_KeyRing_findPhase_54 (zsys_at (by omega) (zlay_cir hc)) rfl rfl (by omega) (by decide) (show _ = some (B + (97 + 5 * c + 1 + 1 + 2)) from rfl) ?_
  refine V_callV (n := 3) d_KeyRing_findPhase_55 g_KeyRing_66 rfl zsys_r rfl (c_addProduct G _ _ (B + 1) (B + 2) kd nn t zz (B + 85) (B + 6) (B + (97 + 5 * c + 1 + 1 + 2)) nn _ _ _ zsys_r (zsys_row zir_85) (zsys_row zir_6) (zsys_row (zir_c hc (by decide))) (by omega) (by omega) rfl hn) ⟨co_Ring_addProduct, by decide +kernel, Nat.le_of_ble_eq_true rfl⟩ ⟨Nat.le_of_ble_eq_true rfl, Nat.le_of_ble_eq_true rfl, Nat.le_of_ble_eq_true rfl, Nat.le_of_ble_eq_true rfl⟩ (Nat.le_of_ble_eq_true rfl) (fun r_55 w_55 s_55 q_55 => ?_) (fun _ _ _ q => False.elim q)
  obtain ⟨rfl, rfl, rfl⟩ := q_55
  refine V_w (zsys_lu zir_85) ?_
  refine V_aload_n d_KeyRing_findPhase_58 rfl ?_
  refine V_aload_n d_KeyRing_findPhase_59 rfl ?_
  refine V_aload_n d_KeyRing_findPhase_60 rfl ?_
  refine V_getf d_KeyRing_findPhase_61 ff_KeyRing_35 zsys_k rfl ?_
  refine V_callV (n := 2) d_KeyRing_findPhase_64 g_KeyRing_130 rfl zsys_r rfl (c_centre G _ _ (B + 1) (B + 2) kd nn t zz (B + s) (B + 85) nn _ _ zsys_r (zsys_row hs) (zsys_row zir_85) (by omega) rfl hn hR) ⟨co_Ring_centre, by decide +kernel, Nat.le_of_ble_eq_true rfl⟩ ⟨Nat.le_of_ble_eq_true rfl, Nat.le_of_ble_eq_true rfl, Nat.le_of_ble_eq_true rfl, Nat.le_of_ble_eq_true rfl⟩ (Nat.le_of_ble_eq_true rfl) (fun r_64 w_64 s_64 q_64 => ?_) (fun _ _ _ q => False.elim q)
  obtain ⟨rfl, rfl, rfl⟩ := q_64
  refine V_w (zsys_lu hs) ?_
  exact V_return d_KeyRing_findPhase_67 rfl ⟨Nat.le_of_ble_eq_true rfl, Nat.le_of_ble_eq_true rfl⟩ ⟨rfl, rfl, rfl⟩
end
section
/-! new, dup, a text, <init>(String), athrow: the method ends with what was made -/
def zIsR (a : Cond) : Prop := a = .isRef (.static Bundle.tN "UNASSIGNED_STACK" Bundle.steD) ∨ a = .isRef (.static Bundle.tN "SUPPRESSED_SENTINEL" Bundle.listD) ∨ a = .laysStatic Bundle.tN "UNASSIGNED_STACK" Bundle.steD ∨ a = .laysStatic Bundle.tN "SUPPRESSED_SENTINEL" Bundle.listD
theorem zrefw {C n d : String} {A : Nat → Prop} {s : State} {args : Array Value} (h : va_Zq C n d A s s.heap) : (Cond.isRef (.static C n d)).before args s = true := by
  rcases h with h | ⟨t, h⟩ <;> obtain ⟨cf, kf, fi, f, a, cell, h1, h2, h3, h4, h5, h6, h7, h8⟩ := h <;>
    simp [Cond.before, Cond.holds, Cond.value, Term.eval, State.fieldNamed?, h1, h2, h4, h5, h6, h7]
section ZT
variable {G : zG} {M : zM} {K : zK} {R : Room} {kc ks sz pc : Nat} {lo : List (Nat × Value)} {st : List Value} {w : zW}
set_option maxHeartbeats 2000000 in
theorem zctor {p : Program} {l : Launch} {e : Env} {s : State} {m : MethodId} {args : Array Value} {below : List Frame} {meth : Method} {c : Code} {T : State} {locs : List Loc} {own cls : String} {ic ix : Nat} {rx : ByteArray} {names : List String}
    (X : Stand p l e R s m args below meth c T locs kc ks) (hexec : p.tables.exec = Jvm.exec) (htr : e.platform.stackTraces = false) (hlk : meth.locks = false)
    (x0 : decode rx 0 = .ok (.aload_n 0, 1)) (x1 : decode rx 1 = .ok (.aload_n 1, 1)) (x2 : decode rx 2 = .ok (.invokespecial ix, 3)) (x5 : decode rx 5 = .ok (.return_, 1))
    (hown : s.vm.findClass own = some m.cls) (hcls : Bundle.fit cls = true) (hnames : ∀ n ∈ names, Bundle.fit n = true) (h : ∀ a ∈ Bundle.ownAtomsX own ic cls ix rx names, a.before args s = true)
    (hz : va_Zq Bundle.tN "UNASSIGNED_STACK" Bundle.steD (zA G) s s.heap) (hL0 : ∀ q ∈ locs, zA G q.base)
    {a : Addr} {cX : ClassId} {kX : Class} (hfX : s.vm.findClass cls = some cX) (hkX : s.vm.classes[cX]? = some kX) (hcell : T.heap[a]? = some (freshCell cX kX)) (hnew : s.heap.size ≤ a) {msg : Value} (hmsg : msg.isRef = true)
    {ls : Array Slot} (hls : ls.size = c.maxLocals) {rest : List Value} (hd6 : decode c.code pc = .ok (.invokespecial ic, 3)) (hd9 : decode c.code (pc + 3) = .ok (.athrow, 1)) (hem : c.exceptionTable.toList = [])
    (hf : names.length + 3 < R.frames) (hlo : (rest.map fun v => v.category).sum + (13 * (names.length + 1) + 43) ≤ R.locals) :
    ∃ U : State, Steps p.tables e below (T.setTop (F0 m pc ls (msg :: .ref a :: .ref a :: rest))) U ∧ U.status = .running ∧ Ended U below (.threw a) ∧ s.WarmedH U.vm ∧ s.sameButNew ({ U with vm := s.vm } : State) locs kc ks ∧
      (∃ ce : Cell, U.heap[a]? = some ce ∧ ce.cls = cX ∧ ce.vm = .none) ∧ U.heap.size = T.heap.size ∧ ∀ q, q ≠ a → U.heap[q]? = T.heap[q]? := by
  have hpl : e.platform.magicAccessors = ({} : Platform).magicAccessors := by rw [X.admits.platform]
  obtain ⟨TT, Z0, L, -, Y⟩ := ThrowableC.of_atoms (args := args) (pl := e.platform) (by rw [X.admits.platform]) (by rw [X.admits.platform]) hpl (fun x hx => h x (by simp [Bundle.ownAtomsX, hx]))
  obtain ⟨Z, MM, LZ, LM, hnZ⟩ := Init0T.ofS_atoms (args := args) hpl L Y (fun x hx => h x (by simp [Bundle.ownAtomsX, hx]))
  obtain ⟨P1, Ps, hlen, L1, hLp, hP1, hk1, hk2⟩ := Bundle.chainSX (args := args) hpl hnZ x0 x1 x2 x5 names cls hcls hnames (fun x hx => h x (by simp [Bundle.ownAtomsX, hx]))
  have hfd : s.vm.findClass cls = some P1.m.cls := findClass_of_methodNamed hP1
  cases hfX.symm.trans hfd
  obtain ⟨c1, k1, hc1, hk, hord, -, -, -⟩ := Cond.instantiable_spec (h (.instantiable cls 6) (by simp [Bundle.ownAtomsX]))
  cases hc1.symm.trans hfd
  cases hkX.symm.trans hk
  have sel : ∀ (y : MethodName) (my : MethodId), s.methodNamed? y = some my → (y.cls ≠ "java/lang/invoke/MethodHandle" ∧ y.cls ≠ "java/lang/invoke/VarHandle") → (Cond.selects cls y y).before args s = true → selectMethod e.platform s.vm P1.m.cls my = .method my := by
    intro y my hy hn hs
    obtain ⟨c2, r2, m2, q1, q2, q3, q4, -⟩ := Cond.selects_spec hs
    cases q1.symm.trans hfd
    cases q2.symm.trans (State.methodFound?_of_named hy hn)
    cases q3.symm.trans hy
    rw [Launch.admits_selectMethod X.admits]
    exact q4
  obtain ⟨cS, hcS, his⟩ := Y.statics
  obtain ⟨u0, hu0⟩ := Cond.staticRefV Y.unassigned L.unassignedStatic L.statics hcS his (h (.isRef (.static Bundle.tN "UNASSIGNED_STACK" Bundle.steD)) (by simp [Bundle.ownAtomsX]))
  obtain ⟨sen, hsen⟩ := Cond.staticRefV Y.sentinel L.sentinelStatic L.statics hcS his (h (.isRef (.static Bundle.tN "SUPPRESSED_SENTINEL" Bundle.listD)) (by simp [Bundle.ownAtomsX]))
  obtain ⟨ci, ib, fB, b1, b2, b3, b4, -, hnB, htB, hffB⟩ := Cond.ownField (t := .object "java/lang/Object") Y.found L.cls (by decide +kernel) (h (.fieldLink Bundle.tN 198 Bundle.tN "backtrace" "Ljava/lang/Object;") (by simp [Bundle.ownAtomsX])) (h (.lays Bundle.tN Bundle.tN "backtrace" "Ljava/lang/Object;") (by simp [Bundle.ownAtomsX])) e.platform hpl
  have hA : ¬ zA G TT.aS := by
    have key : ∀ v, va_Z Bundle.tN "UNASSIGNED_STACK" Bundle.steD v (zA G) s s.heap → ¬ zA G TT.aS := by
      rintro v ⟨cf, kf, fi, f, a', cell, h1, h2, h3, h4, h5, h6, h7, h8⟩
      cases Y.unassigned.symm.trans h1
      cases L.statics.symm.trans h4
      exact h8
    rcases hz with hz | ⟨t, hz⟩
    · exact key _ hz
    · exact key _ hz
  have hout : ∀ i, (⟨TT.aS, i⟩ : Loc) ∉ locs := fun i hm => hA (hL0 _ hm)
  obtain ⟨cT, hcT, heT, -, hkeep⟩ := X.same.2.2.2.2.2 TT.aS cS hcS
  have hneS : TT.aS ≠ a := Nat.ne_of_lt (Nat.lt_of_lt_of_le (Array.getElem?_eq_some_iff.mp hcS).1 hnew)
  obtain ⟨iM, hffM⟩ := Y.msg
  obtain ⟨tyC, dC, hdC, hnC⟩ := Cond.laysAt hfd hk Y.cause (h (.lays cls Bundle.tN "cause" "Ljava/lang/Throwable;") (by simp [Bundle.ownAtomsX]))
  obtain ⟨tyS, dS, hdS, hnS⟩ := Cond.laysAt hfd hk Y.stack (h (.lays cls Bundle.tN "stackTrace" Bundle.steD) (by simp [Bundle.ownAtomsX]))
  obtain ⟨tyP, dP, hdP, hnP⟩ := Cond.laysAt hfd hk Y.supp (h (.lays cls Bundle.tN "suppressedExceptions" Bundle.listD) (by simp [Bundle.ownAtomsX]))
  obtain ⟨tyM, -, -, -⟩ := Cond.laysAt hfd hk hffM (h (.lays cls Bundle.tN "detailMessage" "Ljava/lang/String;") (by simp [Bundle.ownAtomsX]))
  obtain ⟨tyB, dB, hdB, hnB2⟩ := Cond.laysAt hfd hk hffB (h (.lays cls Bundle.tN "backtrace" "Ljava/lang/Object;") (by simp [Bundle.ownAtomsX]))
  have nC := Cond.laysApart hdB hdC hnB2 hnC (by rw [hnB, Y.causeName]; decide)
  have nS := Cond.laysApart hdB hdS hnB2 hnS (by rw [hnB, Y.stackName]; decide)
  have nP := Cond.laysApart hdB hdP hnB2 hnP (by rw [hnB, Y.suppName]; decide)
  have hskip : SkipFacts TT e.platform s (fun u => u) u0 ((preparedCellV TT.toThrowableT (freshCell P1.m.cls kX) a u0 sen).withEntry T.cur) :=
    ⟨{ ci198 := ci, i198 := ib, fBack := fB }, ⟨b1, b2, b3, b4⟩, by
      have q := fresh_default (c := P1.m.cls) tyB
      rw [htB] at q
      simpa [preparedCellV, Cell.setSlot, Cell.withEntry, Array.getElem?_setIfInBounds, nC, nS, nP, nC.symm, nS.symm, nP.symm, defaultValue] using q, fun _ _ => rfl⟩
  obtain ⟨tm, -, -, -, vm1, hn1, -, -, -, -, -, -, -, hW1, st1⟩ := Steps.initColdS (tb := p.tables) (e := e) (below := below) X.here hexec X.warmed hpl hown (t := Bundle.initS cls) rfl rfl (Bundle.fit_spec hcls).2
    (h (.methodLink own ic (Bundle.initS cls)) (by simp [Bundle.ownAtomsX])) (h (.instanceMethod (Bundle.initS cls)) (by cases names <;> simp [Bundle.ownAtomsX, Bundle.chainSAtomsX, Bundle.passSAtoms])) (bytes := rx) (maxL := 2) (h (.code (Bundle.initS cls) rx 2 none) (by cases names <;> simp [Bundle.ownAtomsX, Bundle.chainSAtomsX, Bundle.passSAtoms]))
    (f := F0 m pc ls (msg :: .ref a :: .ref a :: rest)) rfl (a := a) (msg := msg) (rest := .ref a :: rest) rfl hd6
  cases hn1.symm.trans hP1
  obtain ⟨vm2, X2, st2⟩ := (X.noted hW1).ctorMessageOffV hexec (g := F0 m pc ls (.ref a :: rest)) rfl hls TT L Z LZ MM LM (P1 :: Ps)
    (fun P hP => by rcases List.mem_cons.mp hP with rfl | hP; exact L1; exact hLp P hP) ⟨hk1, hk2⟩ (u0 := u0) (sen := sen) (self := a) hmsg (cell := freshCell P1.m.cls kX) (cellS := cT)
    hcell (fun _ => by simp) (by simp) rfl rfl (sel _ _ Y.fill0 (by decide) (h (.selects cls Bundle.tFill0 Bundle.tFill0) (by simp [Bundle.ownAtomsX]))) (sel _ _ Y.fill (by decide) (h (.selects cls Bundle.tFill Bundle.tFill) (by simp [Bundle.ownAtomsX])))
    hcT hneS (by rw [heT]; intro hu; rw [show cS.vm = .unknown from hu] at his; cases his) (by rw [hkeep _ (hout _)]; exact hu0) (by rw [hkeep _ (hout _)]; exact hsen)
    (Takes.of_laid hk hord tyC (by rw [Y.causeType]; rfl)) (Takes.of_laid hk hord tyS (by rw [Y.stackType]; exact fits_refV_array _ u0)) (Takes.of_laid hk hord tyP (by rw [Y.suppType]; exact fits_refV_object _ sen))
    (Takes.of_laid hk hord tyM (by rw [Y.msgType]; exact fits_refV_object _ ⟨msg, hmsg⟩)) Y.objLocals hskip htr [] hd6
    (by simp only [List.length_cons, hlen]; omega) (by simp only [List.length_cons, hlen]; show 2 * 0 + (1 + (rest.map fun v => v.category).sum) + _ ≤ _; omega)
  obtain ⟨e1, e2, e3, e4, e5⟩ := X2.athrowLeaves hexec (g := F0 m (pc + 3) ls (.ref a :: rest)) rfl rfl rfl (fun x hx => by rw [hem] at hx; cases hx) (a := a) (rest := rest) rfl hd9 hlk
  have hlt : a < ((T.setVm vm1).setVm vm2).heap.size := (Array.getElem?_eq_some_iff.mp hcell).1
  have hU := heapAt_setCell_self (s := (T.setVm vm1).setVm vm2) (plainBareV TT.toThrowableT (freshCell P1.m.cls kX) a u0 sen msg) hlt
  refine ⟨_, st1 _ (fun acts => ?_), e2, e3, e4, e5.weaken (fun y hy hy2 => ?_) (Nat.le_refl _) (Nat.le_refl _), ⟨_, hU, rfl, rfl⟩, ?_, fun q hq => ?_⟩
  · rw [doInvoke_state]
    exact st2 _ e1
  · rcases List.mem_append.mp hy with h1 | h1
    · exact h1
    · exfalso
      have hb : y.base = a := by
        simp only [List.mem_cons, List.not_mem_nil, or_false] at h1
        rcases h1 with rfl | rfl | rfl | rfl | rfl <;> rfl
      rw [hb] at hy2
      exact Nat.not_lt.mpr hnew hy2
  · show (((T.setVm vm1).setVm vm2).heap.setIfInBounds a _).size = _
    rw [Array.size_setIfInBounds]
    rfl
  · exact State.heap_setCell_other (Ne.symm hq)
end ZT
section ZT2
variable {G : zG} {M : zM} {K : zK} {R : Room} {kc ks sz pc : Nat} {lo : List (Nat × Value)} {st : List Value} {w : zW}
/-- the ldc of a text that stands in the pool, short or wide -/
theorem zldcS {p : Program} {l : Launch} {e : Env} {s : State} {m : MethodId} {args : Array Value} {below : List Frame} {meth : Method} {c : Code} {T : State} {locs : List Loc} {own tx : String} {si n a : Nat} {ls : Array Slot} {rest : List Value}
    (X : Stand p l e R s m args below meth c T locs kc ks) (hexec : p.tables.exec = Jvm.exec) (hown : s.vm.findClass own = some m.cls) (hr : vk_R own si tx a s)
    (hd : (decode c.code pc = .ok (.ldc si, 2) ∧ n = 2) ∨ (decode c.code pc = .ok (.ldc_w si, 3) ∧ n = 3)) :
    ∀ target, Steps p.tables e below (T.setTop (F0 m (pc + n) ls (.ref a :: rest))) target → Steps p.tables e below (T.setTop (F0 m pc ls rest)) target := by
  rcases hd with ⟨hd, rfl⟩ | ⟨hd, rfl⟩
  · exact X.ldcString hexec hown hr.1 hr.2 (g := F0 m pc ls rest) rfl hd
  · obtain ⟨k, cf, i, a', hk, hcf, hcp, -, hres, hev⟩ := Cond.stringRef_spec hown hr.1
    cases hr.2.symm.trans hev
    obtain ⟨k', hk', he⟩ := X.warmed.alike.2.2 _ _ hk
    have hr' : k'.resolved[si]? = some (some (.string a)) := by
      rcases X.warmed.entry hk hk' si with h | ⟨h, -⟩
      · rw [h]; exact hres
      · rw [hres] at h; cases h
    intro target hrest
    jvm_step X.here [hexec, hd, Op.ldc_w.wp_string (e := e) (s := T) (f := F0 m pc ls rest) X.here.top hk' (by rw [he]; exact hcf) hcp hr']
    exact hrest
set_option maxHeartbeats 2000000 in
theorem V_throw {cls tx : String} {ni si ic ix n : Nat} {rx : ByteArray} {names : List String} (d0 : decode M.2.1 pc = .ok (.new ni, 3)) (d3 : decode M.2.1 (pc + 3) = .ok (.dup, 1)) (d4 : (decode M.2.1 (pc + 4) = .ok (.ldc si, 2) ∧ n = 2) ∨ (decode M.2.1 (pc + 4) = .ok (.ldc_w si, 3) ∧ n = 3))
    (d6 : decode M.2.1 (pc + 4 + n) = .ok (.invokespecial ic, 3)) (d9 : decode M.2.1 (pc + 4 + n + 3) = .ok (.athrow, 1)) (hown : M.1.cls = "RingCipher") (hs : (si, tx) ∈ zStr) (x0 : decode rx 0 = .ok (.aload_n 0, 1)) (x1 : decode rx 1 = .ok (.aload_n 1, 1)) (x2 : decode rx 2 = .ok (.invokespecial ix, 3)) (x5 : decode rx 5 = .ok (.return_, 1))
    (hcls : Bundle.fit cls = true) (hnames : ∀ n ∈ names, Bundle.fit n = true) (hw1 : zin (.classLink M.1.cls ni cls)) (hw2 : zin (.initialized cls)) (hws : ∀ a ∈ Bundle.ownAtomsX M.1.cls ic cls ix rx names, zin a ∨ zIsR a) (hh : M.2.2.2.2 = [])
    (hf : names.length + 3 < R.frames) (hlo : (st.map fun v => v.category).sum + (13 * (names.length + 1) + 43) ≤ R.locals) (hc : kc + 1 ≤ R.cells) (hsl : ks + 6 ≤ R.slots) (hk : kc + 1 ≤ K.2.1 ∧ ks + 6 ≤ K.2.2) (hK : K.1 (.inr cls) w (sz + 1)) : V G M K R kc ks sz pc lo st w :=
  fun p l e s m args below meth c F ls H locs hl hw hS => by
    intro T hT X
    have hat : ∀ a ∈ Bundle.ownAtomsX M.1.cls ic cls ix rx names, a.before args s = true := fun a ha => by
      rcases hws a ha with h | rfl | rfl | rfl | rfl
      · exact F.wd.use h _
      · exact zrefw F.kn.2.2.2.1.1
      · exact zrefw F.kn.2.2.2.1.2
      · exact F.kn.2.2.2.2.1.1.word
      · exact F.kn.2.2.2.2.1.2.word
    have htr : e.platform.stackTraces = false := by rw [X.admits.platform]; exact F.2.2.2.2.2.2.2.2.2.2
    obtain ⟨vm1, cX, kX, hfX, hkX, -, -, X1, st1⟩ := X.newCold F.1 (own := M.1.cls) (C := cls) (index := ni) (n := 6) F.own (F.wd.use hw1 _) (hat (.instantiable cls 6) (by simp [Bundle.ownAtomsX])) (F.wd.use hw2 _) (g := F0 m pc ls st) rfl (by rw [F.2.1]; exact d0) hc hsl
    have hz := hw.1
    subst hT
    generalize hT1 : (T.setVm vm1).pushCell { cls := cX, slots := kX.instanceTypes.map defaultValue, vm := .none } = T1 at X1 st1
    have hcell : T1.heap[T.heap.size]? = some (freshCell cX kX) := by rw [← hT1]; exact State.heap_pushCell_size _ _
    have hT1h : T1.heap = T.heap.push (freshCell cX kX) := by rw [← hT1]; rfl
    have hls : ls.size = c.maxLocals := by rw [F.ml]; exact hl.1
    have hem : c.exceptionTable.toList = [] := by
      have h := F.ex
      rw [hh] at h
      exact List.map_eq_nil_iff.mp h
    obtain ⟨U, u1, u2, u3, u4, u5, ⟨ce, u6, u7, u8⟩, u9, u10⟩ := zctor (G := G) (pc := pc + 4 + n) (ls := ls) (rest := st) (msg := .ref (G.2.2.2 si)) X1 F.1 htr F.lk x0 x1 x2 x5 F.own hcls hnames hat F.kn.2.2.2.1.1 hS.2.2 hfX hkX hcell hS.1 rfl hls (by rw [F.2.1]; exact d6) (by rw [F.2.1]; exact d9) hem hf hlo
    have hW : zH G w (sz + 1) U.heap := by
      refine ⟨by rw [u9, hT1h, Array.size_push, hz], by have := hw.2.1; omega, fun q x hx => ?_⟩
      have h3 := hw.2.2 q x hx
      have hq : q < T.heap.size := h3.2.lt
      refine ⟨h3.1, h3.2.kept ?_⟩
      rw [u10 q (Nat.ne_of_lt hq), hT1h, Array.getElem?_push_lt hq, Array.getElem?_eq_getElem hq]
    have hS2 : va_S (zA G) s.heap U.heap locs := by
      refine zS_new hS (by rw [u9, hT1h, Array.size_push]; omega) (fun q hq => ?_)
      rw [u10 q (Nat.ne_of_lt hq), hT1h, Array.getElem?_push_lt hq, Array.getElem?_eq_getElem hq]
    refine ⟨U, st1 _ ?_, .threw T.heap.size, u2, u3, u4, ⟨locs, u5.mono hk.1 hk.2, hS.2.2⟩, hS2.F rfl, w, sz + 1, hW, Or.inr ⟨T.heap.size, cls, rfl, ⟨ce, u6, (fun k h => by rw [u8] at h; cases h), (by rw [u4.alike.findClass, u7]; exact hfX)⟩, hK⟩⟩
    show Steps p.tables e below (T1.setTop (F0 m (pc + 3) ls (.ref T.heap.size :: st))) _
    jvm_step X1.here [X1.here.top, F.1, F.2.1, d3, Value.category]
    have hr : vk_R M.1.cls si tx (G.2.2.2 si) s := by rw [hown]; exact F.kn.2.2.2.2.2.2 _ hs
    exact zldcS (pc := pc + 4) X1 F.1 F.own hr (by rw [F.2.1]; exact d4) _ u1
end ZT2
end
section
/-! the three classes that RingCipher throws -/
def zUp : List String := ["java/lang/RuntimeException", "java/lang/Exception"]
def zS13 : ByteArray := ⟨#[0x2a, 0x2b, 0xb7, 0x00, 0x0d, 0xb1]⟩
theorem zS13_0 : decode zS13 0 = .ok (.aload_n 0, 1) := by decide +kernel
theorem zS13_1 : decode zS13 1 = .ok (.aload_n 1, 1) := by decide +kernel
theorem zS13_2 : decode zS13 2 = .ok (.invokespecial 13, 3) := by decide +kernel
theorem zS13_5 : decode zS13 5 = .ok (.return_, 1) := by decide +kernel
abbrev zIAE : String := "java/lang/IllegalArgumentException"
abbrev zISE : String := "java/lang/IllegalStateException"
abbrev zNSE : String := "java/util/NoSuchElementException"
theorem zthA : ∀ a ∈ Bundle.ownAtomsX "RingCipher" 56 zIAE 7 Bundle.six zUp, zin a ∨ zIsR a := by unfold zIsR; decide +kernel
theorem zthA_1 : zin (.classLink "RingCipher" 52 zIAE) := by decide +kernel
theorem zthA_2 : zin (.initialized zIAE) := by decide +kernel
theorem zthA_3 : Bundle.fit zIAE = true := by decide +kernel
theorem zthS : ∀ a ∈ Bundle.ownAtomsX "RingCipher" 96 zISE 7 Bundle.six zUp, zin a ∨ zIsR a := by unfold zIsR; decide +kernel
theorem zthS_1 : zin (.classLink "RingCipher" 92 zISE) := by decide +kernel
theorem zthS_2 : zin (.initialized zISE) := by decide +kernel
theorem zthS_3 : Bundle.fit zISE = true := by decide +kernel
theorem zthN : ∀ a ∈ Bundle.ownAtomsX "RingCipher" 247 zNSE 13 zS13 zUp, zin a ∨ zIsR a := by unfold zIsR; decide +kernel
theorem zthN_1 : zin (.classLink "RingCipher" 243 zNSE) := by decide +kernel
theorem zthN_2 : zin (.initialized zNSE) := by decide +kernel
theorem zthN_3 : Bundle.fit zNSE = true := by decide +kernel
theorem zthU : ∀ n ∈ zUp, Bundle.fit n = true := by decide +kernel
section ZT3
variable {G : zG} {M : zM} {K : zK} {R : Room} {kc ks sz pc : Nat} {lo : List (Nat × Value)} {st : List Value} {w : zW}
theorem V_throwA {tx : String} {si n : Nat} (d0 : decode M.2.1 pc = .ok (.new 52, 3)) (d3 : decode M.2.1 (pc + 3) = .ok (.dup, 1)) (d4 : (decode M.2.1 (pc + 4) = .ok (.ldc si, 2) ∧ n = 2) ∨ (decode M.2.1 (pc + 4) = .ok (.ldc_w si, 3) ∧ n = 3))
    (d6 : decode M.2.1 (pc + 4 + n) = .ok (.invokespecial 56, 3)) (d9 : decode M.2.1 (pc + 4 + n + 3) = .ok (.athrow, 1)) (hown : M.1.cls = "RingCipher") (hs : (si, tx) ∈ zStr) (hh : M.2.2.2.2 = [])
    (hf : 6 ≤ R.frames) (hlo : (st.map fun v => v.category).sum + 82 ≤ R.locals) (hc : kc + 1 ≤ R.cells) (hsl : ks + 6 ≤ R.slots) (hk : kc + 1 ≤ K.2.1 ∧ ks + 6 ≤ K.2.2) (hK : K.1 (.inr zIAE) w (sz + 1)) : V G M K R kc ks sz pc lo st w :=
  V_throw (names := zUp) d0 d3 d4 d6 d9 hown hs Bundle.six_0 Bundle.six_1 Bundle.six_2 Bundle.six_5 zthA_3 zthU (by rw [hown]; exact zthA_1) zthA_2 (by rw [hown]; exact zthA) hh (by show 2 + 3 < _; omega) (by show _ + (13 * (2 + 1) + 43) ≤ _; omega) hc hsl hk hK
theorem V_throwS {tx : String} {si n : Nat} (d0 : decode M.2.1 pc = .ok (.new 92, 3)) (d3 : decode M.2.1 (pc + 3) = .ok (.dup, 1)) (d4 : (decode M.2.1 (pc + 4) = .ok (.ldc si, 2) ∧ n = 2) ∨ (decode M.2.1 (pc + 4) = .ok (.ldc_w si, 3) ∧ n = 3))
    (d6 : decode M.2.1 (pc + 4 + n) = .ok (.invokespecial 96, 3)) (d9 : decode M.2.1 (pc + 4 + n + 3) = .ok (.athrow, 1)) (hown : M.1.cls = "RingCipher") (hs : (si, tx) ∈ zStr) (hh : M.2.2.2.2 = [])
    (hf : 6 ≤ R.frames) (hlo : (st.map fun v => v.category).sum + 82 ≤ R.locals) (hc : kc + 1 ≤ R.cells) (hsl : ks + 6 ≤ R.slots) (hk : kc + 1 ≤ K.2.1 ∧ ks + 6 ≤ K.2.2) (hK : K.1 (.inr zISE) w (sz + 1)) : V G M K R kc ks sz pc lo st w :=
  V_throw (names := zUp) d0 d3 d4 d6 d9 hown hs Bundle.six_0 Bundle.six_1 Bundle.six_2 Bundle.six_5 zthS_3 zthU (by rw [hown]; exact zthS_1) zthS_2 (by rw [hown]; exact zthS) hh (by show 2 + 3 < _; omega) (by show _ + (13 * (2 + 1) + 43) ≤ _; omega) hc hsl hk hK
theorem V_throwN {tx : String} {si n : Nat} (d0 : decode M.2.1 pc = .ok (.new 243, 3)) (d3 : decode M.2.1 (pc + 3) = .ok (.dup, 1)) (d4 : (decode M.2.1 (pc + 4) = .ok (.ldc si, 2) ∧ n = 2) ∨ (decode M.2.1 (pc + 4) = .ok (.ldc_w si, 3) ∧ n = 3))
    (d6 : decode M.2.1 (pc + 4 + n) = .ok (.invokespecial 247, 3)) (d9 : decode M.2.1 (pc + 4 + n + 3) = .ok (.athrow, 1)) (hown : M.1.cls = "RingCipher") (hs : (si, tx) ∈ zStr) (hh : M.2.2.2.2 = [])
    (hf : 6 ≤ R.frames) (hlo : (st.map fun v => v.category).sum + 82 ≤ R.locals) (hc : kc + 1 ≤ R.cells) (hsl : ks + 6 ≤ R.slots) (hk : kc + 1 ≤ K.2.1 ∧ ks + 6 ≤ K.2.2) (hK : K.1 (.inr zNSE) w (sz + 1)) : V G M K R kc ks sz pc lo st w :=
  V_throw (names := zUp) d0 d3 d4 d6 d9 hown hs zS13_0 zS13_1 zS13_2 zS13_5 zthN_3 zthU (by rw [hown]; exact zthN_1) zthN_2 (by rw [hown]; exact zthN) hh (by show 2 + 3 < _; omega) (by show _ + (13 * (2 + 1) + 43) ≤ _; omega) hc hsl hk hK
end ZT3
end
section
/-! catching: the handlers' classes may not be resolved yet -/
theorem zgo_cold {e : Env} {s : State} {f : JFrame} {a : Addr} {x : ExceptionTableEntry} {t : List ExceptionTableEntry} {cc : ClassId} {cell : Cell} {vm' : Vm} {Q : Handler → Pre} {E : CtlPost} {d : Bool} {acts : List Action}
    (hx : covers x f.pc = true) (h0 : x.catchType ≠ 0) (hg : (Jvm.resolveClass f.method.cls x.catchType).Gives e.toSetting s.vm (.ok cc) vm') (hsz : vm'.classes.size ≤ s.vm.classes.size)
    (hcell : s.heap[a]? = some cell) (hobj : ∀ k, cell.vm ≠ .statics k) (hk : ∃ k, vm'.classes[cell.cls]? = some k) (hc : ∃ k, vm'.classes[cc]? = some k) :
    wp (findHandler.go f a (x :: t)) Q E e d acts s ↔ if vm'.assignable cell.cls cc = true then Q (.found x.handlerPc) d acts (s.setVm vm') else wp (findHandler.go f a t) Q E e d acts (s.setVm vm') := by
  simp only [covers] at hx
  obtain ⟨ha, ht⟩ := hg.op (op := VmOp.resolveClass f.method.cls x.catchType) rfl
  cases hfit : vm'.assignable cell.cls cc <;> simp [findHandler.go, hx, h0, ha, ht, hsz, hcell, hobj, hk, hc, hfit, VmOp.dirties, VmOp.acts]
theorem zcaught {tb : Tables} {e : Env} {s target : State} {g : JFrame} {c : Code} {below : List Frame} {a : Addr} {pc : Nat} {vm' : Vm} (h : At s g.method c below)
    (hf : ∀ (Q : Handler → Pre) (E : CtlPost) (d : Bool) (acts : List Action), wp (findHandler g a) Q E e d acts ((s.setTop g).pushFrame (.throwing a)) ↔ Q (.found pc) d acts (((s.setTop g).pushFrame (.throwing a)).setVm vm'))
    (hrest : Steps tb e below ((s.setVm vm').setTop { g with pc := pc, stack := [.ref a] }) target) : Steps tb e below ((s.setTop g).pushFrame (.throwing a)) target := by
  obtain ⟨hgo, hw⟩ := h.throwing a
  refine Steps.head hgo hw ?_
  have key : ∀ (S : State) (r : List Frame), (∀ (Q : Handler → Pre) (E : CtlPost) (d : Bool) (acts : List Action), wp (findHandler g a) Q E e d acts S ↔ Q (.found pc) d acts (S.setVm vm')) →
      (stepThrowing e S a (.java g :: r)).Is ((S.setVm vm').setFrames (.java { g with pc := pc, stack := [.ref a] } :: r)) [] := by
    intro S r hS
    simp only [stepThrowing, searchFrame, vmDo]
    generalize hr : Sem.go _ e false [] S = res
    obtain ⟨as, rfl, ha⟩ := Sem.eq_ok_of hr (a := Handler.found pc) (s' := S.setVm vm') (acts' := []) (by simp [hS _ _ _ _])
    exact ⟨rfl, ha⟩
  rw [stepThread_throwing (frames_entered h.top _), (key _ _ hf).1]
  obtain ⟨g₀, hg⟩ := Option.isSome_iff_exists.mp h.top
  obtain ⟨r, hr⟩ := State.topJava?_eq_some.mp hg
  have hr' : (s.setVm vm').frames = .java g₀ :: r := hr
  rw [State.setTop_of_frames _ hr'] at hrest
  rw [hr]
  have e1 : (((s.setTop g).pushFrame (.throwing a)).setVm vm').setFrames (.java { g with pc := pc, stack := [.ref a] } :: r) = (s.setVm vm').setFrames (.java { g with pc := pc, stack := [.ref a] } :: r) := by
    rw [State.pushFrame, State.setTop_of_frames _ hr, State.setFrames_setFrames]
    exact State.setFrames_setFrames (s.setVm vm') _ _
  exact e1 ▸ hrest
def zhit (nm : Nat → String) (pc : Nat) (C : String) : List (Nat × Nat × Nat × Nat) → Option Nat
  | [] => none
  | q :: r => if q.1 ≤ pc ∧ pc < q.2.1 then (if nm q.2.2.2 = C then some q.2.2.1 else zhit nm pc C r) else zhit nm pc C r
theorem zfind {e : Env} {s : State} {f : JFrame} {a : Addr} {C own : String} {cell : Cell} {nm : Nat → String} {hpc : Nat} (hwd : zWd s) (hnc : zNc s) (hpl : e.platform.magicAccessors = ({} : Platform).magicAccessors) (hown : s.vm.findClass own = some f.method.cls)
    (hC : s.vm.findClass C = some cell.cls) (hself : zin (.castable C C)) (hobj : ∀ k, cell.vm ≠ .statics k) (S : State) (hcell : S.heap[a]? = some cell) :
    ∀ (es : List ExceptionTableEntry), (∀ x ∈ es, zin (.classLink own x.catchType (nm x.catchType)) ∧ x.catchType ≠ 0 ∧ (nm x.catchType = C ∨ (C, nm x.catchType) ∈ zNcs)) →
      zhit nm f.pc C (es.map (fun h => (h.startPc, h.endPc, h.handlerPc, h.catchType))) = some hpc → ∀ vm, s.WarmedH vm →
      ∃ vm', s.WarmedH vm' ∧ ∀ (Q : Handler → Pre) (E : CtlPost) (d : Bool) (acts : List Action), wp (findHandler.go f a es) Q E e d acts (S.setVm vm) ↔ Q (.found hpc) d acts (S.setVm vm') := by
  intro es
  induction es with
  | nil =>
    intro _ h
    cases h
  | cons x t ih =>
    intro hes hh vm hW
    obtain ⟨hx1, hx2, hx3⟩ := hes x List.mem_cons_self
    rw [List.map_cons] at hh
    unfold zhit at hh
    dsimp only at hh
    by_cases hcov : x.startPc ≤ f.pc ∧ f.pc < x.endPc
    · rw [if_pos hcov] at hh
      have hcv : covers x f.pc = true := by simp [covers, hcov.1, hcov.2]
      obtain ⟨cc, hfc, hcl⟩ := Cond.classLink_spec (args := #[]) hown (hwd.use hx1 #[]) e.platform hpl
      obtain ⟨hg, hw1, -⟩ := State.classEntry (e := e) hW hcl
      have hsz : (vm.noted f.method.cls x.catchType (.cls cc)).classes.size ≤ vm.classes.size := by rw [Vm.size_noted]; exact Nat.le_refl _
      generalize vm.noted f.method.cls x.catchType (.cls cc) = vm1 at hg hw1 hsz
      have hrec : ∀ (N : String) (k : ClassId), s.vm.findClass N = some k → ∃ r, vm1.classes[k]? = some r := fun N k hk => by
        obtain ⟨r, hr, -⟩ := Vm.findClass_spec hk
        obtain ⟨r', hr', -⟩ := hw1.alike.2.2 _ _ hr
        exact ⟨r', hr'⟩
      by_cases hn : nm x.catchType = C
      · rw [if_pos hn] at hh
        cases hh
        rw [hn] at hfc
        cases hC.symm.trans hfc
        obtain ⟨c1, c2, q1, q2, q3⟩ := Cond.castable_spec (hwd.use hself #[])
        cases hC.symm.trans q1
        cases hC.symm.trans q2
        refine ⟨vm1, hw1, fun Q E d acts => ?_⟩
        rw [zgo_cold (s := S.setVm vm) hcv hx2 hg hsz hcell hobj (hrec _ _ hC) (hrec _ _ hC), if_pos (by rw [hw1.alike.assignable]; exact q3)]
        exact Iff.rfl
      · rw [if_neg hn] at hh
        obtain ⟨vm', hw', hq⟩ := ih (fun y hy => hes y (List.mem_cons_of_mem _ hy)) hh vm1 hw1
        have hno : vm1.assignable cell.cls cc = false := by
          rw [hw1.alike.assignable]
          rcases hx3 with h | h
          · exact absurd h hn
          · exact hnc _ h _ _ hC hfc
        refine ⟨vm', hw', fun Q E d acts => ?_⟩
        rw [zgo_cold (s := S.setVm vm) hcv hx2 hg hsz hcell hobj (hrec _ _ hC) (hrec _ _ hfc), if_neg (by rw [hno]; decide)]
        exact hq Q E d acts
    · rw [if_neg hcov] at hh
      have hcv : covers x f.pc = false := by
        simp only [covers]
        by_cases h1 : x.startPc ≤ f.pc
        · have h2 : ¬ f.pc < x.endPc := fun h => hcov ⟨h1, h⟩
          simp [h2]
        · simp [h1]
      obtain ⟨vm', hw', hq⟩ := ih (fun y hy => hes y (List.mem_cons_of_mem _ hy)) hh vm hW
      refine ⟨vm', hw', fun Q E d acts => ?_⟩
      rw [W.findHandler_go_skip hcv]
      exact hq Q E d acts
section ZCt
variable {G : zG} {M : zM} {K : zK} {R : Room} {kc ks sz pc : Nat} {lo : List (Nat × Value)} {st : List Value} {w : zW}
/-- a virtual call under handlers: what the callee throws is caught -/
theorem V_callVc {M' : zM} {K' : zK} {R' : Room} {n idx b ci : Nat} {As rest fs : List Value} {T : u_T} {N : Nat} (nm : Nat → String) (d : decode M.2.1 pc = .ok (.invokevirtual idx, 3)) (hg : zGV M.1.cls idx M' n) (hst : zpop n st [] = some (As, .ref b :: rest)) (ho : w b = some (.inr (ci, fs))) (hcl : vwCl[ci]? = some (M'.1.cls, T, N))
    (hM : zCt G M' R' (.ref b :: As) sz w K') (hc : zCd M' (.ref b :: As)) (hR : zRm M' R' R kc ks) (hWt : (rest.map fun v => v.category).sum ≤ 8)
    (kr : ∀ v w' sz', K'.1 (.inl v) w' sz' → V G M K R (kc + K'.2.1) (ks + K'.2.2) sz' (pc + 3) lo (v.toList ++ rest) w')
    (kt : ∀ C w' sz', K'.1 (.inr C) w' sz' → zin (.castable C C) ∧ (∀ q ∈ M.2.2.2.2, zin (.classLink M.1.cls q.2.2.2 (nm q.2.2.2)) ∧ q.2.2.2 ≠ 0 ∧ (nm q.2.2.2 = C ∨ (C, nm q.2.2.2) ∈ zNcs)) ∧
      ∃ hpc, zhit nm pc C M.2.2.2.2 = some hpc ∧ ∀ x, V G M K R (kc + K'.2.1) (ks + K'.2.2) sz' hpc lo [.ref x] w') : V G M K R kc ks sz pc lo st w :=
  fun p l e s m args below meth c F ls H locs hl hw hS => by
    refine zrun hM hc hR F hl hw hS (fun T hT X => ?_) hWt d kr (fun C w' sz' x T' L hk X' hw' hS' hx => ?_)
    · obtain ⟨Bs, e1, e2, e3⟩ := zpop_eq hst
      rw [List.append_nil] at e1
      subst e1
      obtain ⟨hlink, hinst, hsel, hy, hnp⟩ := hg
      obtain ⟨mk, methM, hnamed, hmethM, hstM, habM⟩ := Cond.instanceMethod_spec (F.wd.use hinst args)
      obtain ⟨mk', methM', cM, hn', hmethM', -, -, -, -, -, -, hsigM⟩ := hc.1.spec F.wd
      cases hnamed.symm.trans hn'
      cases hmethM.symm.trans hmethM'
      obtain ⟨r, r1, cell, q1, q2, q3, q4⟩ := hw.at ho
      obtain ⟨-, hfc, -⟩ := F.kk.1 ci _ hcl
      obtain ⟨c2, r2, m2, z1, z2, z3, z4, kP, hkP, hkPi⟩ := Cond.selects_spec (F.wd.use hsel args)
      cases hfc.symm.trans z1
      cases (State.methodFound?_of_named hnamed hy).symm.trans z2
      cases hnamed.symm.trans z3
      have hselP : selectMethod e.platform s.vm cell.cls mk = .method mk := by rw [Launch.admits_selectMethod X.admits, q2]; exact z4
      have hob : ∀ z, cell.vm ≠ .statics z := fun z h => by rw [q3] at h; cases h
      rcases hlink with hlink | ⟨host, hlink⟩
      · obtain ⟨vm₁, X₁, hstep₁⟩ := X.invokevirtual F.1 F.own (F.wd.use hlink args) hnamed hmethM hstM hkP hkPi hy (a := b) (cell := cell) (by rw [hT]; exact q1) hob hselP hmethM habM hkP hkPi (g := F0 m pc ls st) rfl (argsL := As) (rest := rest) (znum hnp e3 _ hsigM) e2 (by rw [F.2.1]; exact d)
        exact ⟨vm₁, mk, X₁, hnamed, hstep₁⟩
      · obtain ⟨vm₁, X₁, hstep₁⟩ := X.invokevirtualNest F.1 F.own (F.wd.use hlink args) hnamed hmethM hstM hkP hkPi hy (a := b) (cell := cell) (by rw [hT]; exact q1) hob hselP hmethM habM hkP hkPi (g := F0 m pc ls st) rfl (argsL := As) (rest := rest) (znum hnp e3 _ hsigM) e2 (by rw [F.2.1]; exact d)
        exact ⟨vm₁, mk, X₁, hnamed, hstep₁⟩
    · obtain ⟨hself, hall, hpc, hhit, kk⟩ := kt C w' sz' hk
      obtain ⟨cell, g1, g2, g3⟩ := hx
      have hpl : e.platform.magicAccessors = ({} : Platform).magicAccessors := by rw [X'.admits.platform]
      have hC : s.vm.findClass C = some cell.cls := by rw [← X'.warmed.alike.findClass]; exact g3
      have hex := F.ex
      rw [← hex] at hall hhit
      obtain ⟨vm', hw1, hq⟩ := zfind (e := e) (f := F0 m pc ls rest) (a := x) F.wd F.kn.2.2.2.2.2.1 hpl F.own hC hself g2 ((T'.setTop (F0 m pc ls rest)).pushFrame (.throwing x)) (by rw [Stand.throwing_heap]; exact g1) c.exceptionTable.toList
        (fun y hy => hall _ (List.mem_map_of_mem hy)) hhit T'.vm X'.warmed
      have hvm : ((T'.setTop (F0 m pc ls rest)).pushFrame (.throwing x)).setVm T'.vm = (T'.setTop (F0 m pc ls rest)).pushFrame (.throwing x) := by
        conv => { lhs; rw [← Stand.throwing_vm T' (F0 m pc ls rest) x] }
        rfl
      rw [hvm] at hq
      obtain ⟨t2, c1, c2⟩ := kk x p l e s m args below meth c F ls T'.heap (locs ++ L) hl hw' hS' (T'.setVm vm') rfl (X'.noted hw1)
      refine ⟨t2, zcaught (g := F0 m pc ls rest) X'.here (fun Q E d acts => ?_) c1, c2⟩
      rw [W.findHandler_eq (meth := meth) (code := c) (by rw [Stand.throwing_vm]; exact X'.method') X'.code]
      exact hq Q E d acts
end ZCt
end
section
/-! what RingCipher's own methods do to the numbers -/
theorem z64_bv (d : Int) : (Int64.ofInt d).toBitVec = BitVec.ofInt 64 d := rfl
theorem zshl2 {d : Int} {b : Nat} (h : b ≤ 28) : Int64.ofInt d <<< ((Int32.ofInt (b : Int)).toInt64 &&& 63) = Int64.ofInt (d * 2 ^ b) := by
  have key : ∀ b : Nat, b < 29 → ((((Int32.ofInt (b : Int)).toInt64 &&& 63).toBitVec.smod 64).toNat = b ∧ BitVec.twoPow 64 b = BitVec.ofInt 64 (2 ^ b)) := by decide +kernel
  obtain ⟨h1, h2⟩ := key b (by omega)
  apply Int64.toBitVec_inj.mp
  rw [Int64.toBitVec_shiftLeft, BitVec.shiftLeft_eq', h1, BitVec.shiftLeft_eq_mul_twoPow, h2, z64_bv, z64_bv, BitVec.ofInt_mul]
theorem zdig {a : Int} {k : Nat} (ha : 0 ≤ a ∧ a < 268435456) (hk : k < 6) : Int64.ofInt a >>> ((Int32.ofInt (5 * (k : Int))).toInt64 &&& 63) &&& Int64.ofInt 31 = Int64.ofInt (a / 32 ^ k % 32) := by
  have key : ∀ k : Nat, k < 6 → (((Int32.ofInt (5 * (k : Int))).toInt64 &&& 63).toBitVec.smod 64).toNat = 5 * k := by decide +kernel
  obtain ⟨n, rfl⟩ : ∃ n : Nat, a = n := ⟨a.toNat, by omega⟩
  have hn : n < 268435456 := by omega
  have e1 : (Int64.ofInt (n : Int)).toBitVec = BitVec.ofNat 64 n := by rw [z64_bv, BitVec.ofInt_natCast]
  have e2 : ((n : Int) / 32 ^ k % 32) = ((n / 2 ^ (5 * k) % 32 : Nat) : Int) := by
    rw [show (2 : Nat) ^ (5 * k) = 32 ^ k from by rw [Nat.pow_mul]]
    push_cast
    rfl
  apply Int64.toBitVec_inj.mp
  rw [Int64.toBitVec_and, Int64.toBitVec_shiftRight, e1, e2, z64_bv, z64_bv, BitVec.ofInt_natCast]
  have hm : (BitVec.ofNat 64 n).msb = false := by
    rw [BitVec.msb_eq_decide]
    have : (BitVec.ofNat 64 n).toNat = n := by
      rw [BitVec.toNat_ofNat]
      exact Nat.mod_eq_of_lt (by omega)
    rw [this]
    simp
    omega
  apply BitVec.eq_of_toNat_eq
  rw [BitVec.toNat_and, BitVec.sshiftRight_eq', key k hk, BitVec.sshiftRight_eq_of_msb_false hm, BitVec.toNat_ushiftRight, BitVec.toNat_ofNat, BitVec.toNat_ofNat, Nat.mod_eq_of_lt (show n < 2 ^ 64 by omega), Nat.shiftRight_eq_div_pow]
  have e3 : (BitVec.ofInt 64 31).toNat = 2 ^ 5 - 1 := by decide
  rw [e3, Nat.and_two_pow_sub_one_eq_mod, Nat.mod_eq_of_lt (show n / 2 ^ (5 * k) % 32 < 2 ^ 64 by omega)]
def zpe (pt : Nat → Int) : Nat → Nat → Int
  | 0 => pt
  | i + 1 => zpu (zpe pt i) (97 + 5 * i) 0
def zfc (pt : Nat → Int) : Nat → Int
  | 0 => 0
  | i + 1 => zfc pt i + if 0 < pt (97 + 5 * i) then 1 else 0
theorem zfc_s {pt : Nat → Int} {i : Nat} (h : 0 < pt (97 + 5 * i)) : zfc pt (i + 1) = zfc pt i + 1 := by
  show _ + _ = _
  rw [if_pos h]
theorem zfc_n {pt : Nat → Int} {i : Nat} (h : pt (97 + 5 * i) ≤ 0) : zfc pt (i + 1) = zfc pt i := by
  show _ + _ = _
  rw [if_neg (by omega)]
  omega
/-- the cipher's rows out of the sums -/
def zSt (nn c : Nat) (L : Nat → Int → Int) : Nat → Nat → Int → Int
  | 0 => L
  | i + 1 => zRd nn (97 + 5 * c + 1 + 1 + i) (178 + i) (zSt nn c L i)
theorem zSt_o {nn c : Nat} {L : Nat → Int → Int} {q : Nat} (hc : c < 16) : ∀ i, (∀ k, k < i → q ≠ 97 + 5 * c + 1 + 1 + k) → zSt nn c L i q = L q
  | 0, _ => rfl
  | i + 1, h => by
    show zlu _ _ _ q = _
    rw [zlu_n (h i (Nat.lt_succ_self i))]
    exact zSt_o hc i (fun k hk => h k (by omega))
/-- the phase, before and behind the centring -/
def zPs (nn c : Nat) (p : Int) (L : Nat → Int → Int) : Nat → Int → Int :=
  if p = 3 then zAp nn 85 6 (97 + 5 * c + 1 + 1 + 2) (zAp nn 85 5 (97 + 5 * c + 1 + 1 + 1) (zCy nn 85 (97 + 5 * c + 1 + 1 + 0) L)) else zAp nn 85 5 (97 + 5 * c + 1 + 1 + 1) (zCy nn 85 (97 + 5 * c + 1 + 1 + 0) L)
def zPL (nn c : Nat) (p : Int) (L : Nat → Int → Int) : Nat → Int → Int := zCe nn (182 + 0) 85 (zPs nn c p L)
def zab (x : Int) : Int := if x < 0 then -x else x
def zmx (a b : Int) : Int := if a < b then b else a
def zNz (t : Int) (f : Int → Int) : Nat → Int
  | 0 => 0
  | i + 1 => zmx (zNz t f i) (zab (zct (t * f i)))
theorem zNz_b (t : Int) (f : Int → Int) : ∀ i, 0 ≤ zNz t f i ∧ zNz t f i ≤ 134217699
  | 0 => ⟨Int.le_refl _, by show (0 : Int) ≤ _; decide⟩
  | i + 1 => by
    have h1 := zNz_b t f i
    have h2 := zct_b (t * f i)
    show 0 ≤ zmx _ _ ∧ zmx _ _ ≤ _
    unfold zmx zab
    split <;> split at * <;> omega
/-- the budget of a noise -/
def zBu (d : Int) : Nat → Nat
  | 0 => 0
  | b + 1 => if d * 2 ^ (b + 2) < 268435399 then b + 1 else zBu d b
def zDg (nn a k : Nat) (L : Nat → Int → Int) : Nat → Int → Int := zlu L (182 + 1) (zif nn (fun i => L a i / 32 ^ k % 32) (L (182 + 1)))
def zAw (nn j a : Nat) (L : Nat → Int → Int) : Nat → Nat → Int → Int
  | 0 => L
  | k + 1 => zAp nn (178 + 1) (182 + 1) (j + 8 + 1 + k) (zAp nn (178 + 0) (182 + 1) (j + 1 + 1 + k) (zDg nn a k (zAw nn j a L k)))
theorem zAw_o {nn j a q : Nat} {L : Nat → Int → Int} (h : q ≠ 178 ∧ q ≠ 179 ∧ q ≠ 183) : ∀ k, zAw nn j a L k q = L q
  | 0 => rfl
  | k + 1 => by
    show zlu (zlu (zlu _ _ _) _ _) _ _ q = _
    rw [zlu_n (by omega), zlu_n (by omega), zlu_n (by omega)]
    exact zAw_o h k
/-- one row of the sum or difference of two ciphers -/
def zCm (nn l r : Nat) (pl pr f : Int) (L : Nat → Int → Int) : Nat → Nat → Int → Int
  | 0 => L
  | k + 1 =>
    (fun X => if (k : Int) < pr then zAs nn (178 + k) (97 + 5 * r + 1 + 1 + k) f X else X)
      ((fun X => if (k : Int) < pl then zAs nn (178 + k) (97 + 5 * l + 1 + 1 + k) 1 X else X) (zFl (178 + k) 0 (zCm nn l r pl pr f L k)))
def zFs (L : Nat → Int → Int) : Nat → Nat → Int → Int
  | 0 => L
  | k + 1 => zFl (178 + k) 0 (zFs L k)
def zTq (nn s : Nat) (t : Int) (L : Nat → Int → Int) : Nat → Int → Int := zlu L s (zif nn (fun i => zts t (L s i)) (L s))
def zTs (nn : Nat) (t : Int) (L : Nat → Int → Int) : Nat → Nat → Int → Int
  | 0 => L
  | k + 1 => zTq nn (178 + k) t (zTs nn t L k)
theorem zTs_o {nn : Nat} {t : Int} {L : Nat → Int → Int} {q : Nat} : ∀ k, (∀ i, i < k → q ≠ 178 + i) → zTs nn t L k q = L q
  | 0, _ => rfl
  | k + 1, h => by
    show zlu _ _ _ q = _
    rw [zlu_n (h k (Nat.lt_succ_self k))]
    exact zTs_o k (fun i hi => h i (by omega))
/-- multiply: the four rows centred -/
def zMc (nn l r : Nat) (L : Nat → Int → Int) : Nat → Int → Int :=
  zCe nn (182 + 3) (97 + 5 * r + 1 + 1 + 1) (zCe nn (182 + 2) (97 + 5 * r + 1 + 1 + 0) (zCe nn (182 + 1) (97 + 5 * l + 1 + 1 + 1) (zCe nn (182 + 0) (97 + 5 * l + 1 + 1 + 0) L)))
/-- multiply: the three sums of products -/
def zMp (nn l r : Nat) (L : Nat → Int → Int) : Nat → Int → Int :=
  zAp nn (178 + 2) (182 + 1) (182 + 3) (zAp nn (178 + 1) (182 + 1) (182 + 2) (zAp nn (178 + 1) (182 + 0) (182 + 3) (zAp nn (178 + 0) (182 + 0) (182 + 2) (zFs (zMc nn l r L) 3))))
def zPc (nn c : Nat) (L : Nat → Int → Int) : Nat → Nat → Int → Int
  | 0 => L
  | k + 1 => zCy nn (178 + k) (97 + 5 * c + 1 + 1 + k) (zPc nn c L k)
def zPm (nn c a : Nat) (L : Nat → Int → Int) : Nat → Nat → Int → Int
  | 0 => L
  | k + 1 => zAp nn (178 + k) a (97 + 5 * c + 1 + 1 + k) (zFl (178 + k) 0 (zPm nn c a L k))
end
section
set_option maxRecDepth 100000 in
set_option maxHeartbeats 4000000 in
theorem c_emptyCiphers (G : zG) (sz B : Nat) (kd n t zz : Int) (ch : Int32) (md tc : Int) (tg pt : Nat → Int) (L : Nat → Int → Int) (w0 : zW) : zCt G M_X_emptyCiphers (zR 0 0 0 0) [.ref B] sz (zsys G B kd n t zz ch md tc tg pt L w0) (zdet none (zsys G B kd n t zz ch md tc tg (zpe pt 16) L w0) sz) := by
  refine V_iconst d_X_emptyCiphers_0 ?_
  refine V_istore_n d_X_emptyCiphers_1 (by decide) ?_
  refine zfor 16 (fun i => V G M_X_emptyCiphers (zdet none (zsys G B kd n t zz ch md tc tg (zpe pt 16) L w0) sz) (zR 0 0 0 0) 0 0 sz 2 [(0, .ref B), (1, .int (Int32.ofInt (i : Int)))] [] (zsys G B kd n t zz ch md tc tg (zpe pt i) L w0)) ?_ (fun i hi ih => ?_) 0 (Nat.zero_le 16)
  · skip
    refine V_iload_n d_X_emptyCiphers_2 rfl ?_
    refine J_bipush d_X_emptyCiphers_3 (by decide) ?_
    refine J_icmp_ge 24 d_X_emptyCiphers_5 (by decide) (by omega) (by omega) (fun c_5 => ?_) (fun c_5 => absurd c_5 (by omega))
    exact V_return d_X_emptyCiphers_24 rfl ⟨Nat.le_of_ble_eq_true rfl, Nat.le_of_ble_eq_true rfl⟩ ⟨rfl, rfl, rfl⟩
  · skip
    refine V_iload_n d_X_emptyCiphers_2 rfl ?_
    refine J_bipush d_X_emptyCiphers_3 (by decide) ?_
    refine J_icmp_ge 24 d_X_emptyCiphers_5 (by decide) (by omega) (by omega) (fun c_5 => absurd c_5 (by omega)) (fun c_5 => ?_)
    refine V_aload_n d_X_emptyCiphers_8 rfl ?_
    refine V_getf d_X_emptyCiphers_9 ff_X_37 zsys_x0 rfl ?_
    refine V_iload_n d_X_emptyCiphers_12 rfl ?_
    refine J_aaload d_X_emptyCiphers_13 (zsys_at (by decide) rfl) rfl rfl (by omega) (by decide) ((zel (a := fun k => B + (97 + 5 * k)) hi).trans rfl : _ = some (B + (97 + 5 * i))) ?_
    refine V_iconst d_X_emptyCiphers_14 ?_
    refine V_putf d_X_emptyCiphers_15 ff_X_197 (zsys_at (by omega) (zlay_cip hi)) ⟨_, _, _, _, rfl, rfl, rfl, rfl, rfl⟩ (Nat.le_of_ble_eq_true rfl) ?_
    refine V_w (zsys_pt (v := 0) (c := i) hi rfl) ?_
    refine J_iinc d_X_emptyCiphers_18 rfl (by decide) ?_
    refine V_goto 2 d_X_emptyCiphers_21 (by decide) ?_
    exact ih

set_option maxRecDepth 100000 in
set_option maxHeartbeats 4000000 in
theorem c_fullCiphers (G : zG) (sz B : Nat) (kd n t zz : Int) (ch : Int32) (md tc : Int) (tg pt : Nat → Int) (L : Nat → Int → Int) (w0 : zW) (hpt : ∀ c : Nat, c < 16 → 0 ≤ pt (97 + 5 * c) ∧ pt (97 + 5 * c) ≤ 3) : zCt G M_X_fullCiphers (zR 0 0 0 0) [.ref B] sz (zsys G B kd n t zz ch md tc tg pt L w0) (zdet (some (.int (Int32.ofInt (zfc pt 16)))) (zsys G B kd n t zz ch md tc tg pt L w0) sz) := by
  refine V_iconst d_X_fullCiphers_0 ?_
  refine V_istore_n d_X_fullCiphers_1 (by decide) ?_
  refine V_iconst d_X_fullCiphers_2 ?_
  refine V_istore_n d_X_fullCiphers_3 (by decide) ?_
  refine zfor 16 (fun i => V G M_X_fullCiphers (zdet (some (.int (Int32.ofInt (zfc pt 16)))) (zsys G B kd n t zz ch md tc tg pt L w0) sz) (zR 0 0 0 0) 0 0 sz 4 [(0, .ref B), (1, .int (Int32.ofInt (zfc pt i))), (2, .int (Int32.ofInt (i : Int)))] [] (zsys G B kd n t zz ch md tc tg pt L w0)) ?_ (fun i hi ih => ?_) 0 (Nat.zero_le 16)
  · skip
    refine V_iload_n d_X_fullCiphers_4 rfl ?_
    refine J_bipush d_X_fullCiphers_5 (by decide) ?_
    refine J_icmp_ge 31 d_X_fullCiphers_7 (by decide) (by omega) (by omega) (fun c_7 => ?_) (fun c_7 => absurd c_7 (by omega))
    refine V_iload_n d_X_fullCiphers_31 rfl ?_
    exact V_ireturn d_X_fullCiphers_32 rfl ⟨Nat.le_of_ble_eq_true rfl, Nat.le_of_ble_eq_true rfl⟩ ⟨rfl, rfl, rfl⟩
  · have hp := hpt i hi
    refine V_iload_n d_X_fullCiphers_4 rfl ?_
    refine J_bipush d_X_fullCiphers_5 (by decide) ?_
    refine J_icmp_ge 31 d_X_fullCiphers_7 (by decide) (by omega) (by omega) (fun c_7 => absurd c_7 (by omega)) (fun c_7 => ?_)
    refine V_aload_n d_X_fullCiphers_10 rfl ?_
    refine V_getf d_X_fullCiphers_11 ff_X_37 zsys_x0 rfl ?_
    refine V_iload_n d_X_fullCiphers_14 rfl ?_
    refine J_aaload d_X_fullCiphers_15 (zsys_at (by decide) rfl) rfl rfl (by omega) (by decide) ((zel (a := fun k => B + (97 + 5 * k)) hi).trans rfl : _ = some (B + (97 + 5 * i))) ?_
    refine V_getf d_X_fullCiphers_16 ff_X_197 (zsys_at (by omega) (zlay_cip hi)) rfl ?_
    refine J_if_le 25 d_X_fullCiphers_19 (by decide) (by omega) (fun c_19 => ?_) (fun c_19 => ?_)
    · skip
      refine J_iinc d_X_fullCiphers_25 rfl (by decide) ?_
      refine V_goto 4 d_X_fullCiphers_28 (by decide) ?_
      rw [zfc_n c_19] at ih; exact ih
    · skip
      refine J_iinc d_X_fullCiphers_22 rfl (by decide) ?_
      refine J_iinc d_X_fullCiphers_25 rfl (by decide) ?_
      refine V_goto 4 d_X_fullCiphers_28 (by decide) ?_
      rw [zfc_s c_19] at ih; exact ih

set_option maxRecDepth 100000 in
set_option maxHeartbeats 4000000 in
theorem c_storeSums (G : zG) (sz B : Nat) (kd n t zz : Int) (ch : Int32) (md tc : Int) (tg pt : Nat → Int) (L : Nat → Int → Int) (w0 : zW) (nn : Nat) (hnn : n = (nn : Int)) (hn : nn ≤ 32) (c q : Nat) (hc : c < 16) (hq : q ≤ 3) (hR : ∀ k : Nat, k < q → ∀ i : Nat, i < nn → -9223372036854775808 ≤ L (178 + k) i ∧ L (178 + k) i < 9223372036854775808) : zCt G M_X_storeSums (zR 2 0 0 48) [.ref B, .ref (B + (97 + 5 * c)), .int (Int32.ofInt (q : Int))] sz (zsys G B kd n t zz ch md tc tg pt L w0) (zdet none (zsys G B kd n t zz ch md tc tg (zpu pt (97 + 5 * c) q) (zSt nn c L q) w0) sz) := by
  subst hnn
  refine V_iconst d_X_storeSums_0 ?_
  refine V_istore_n d_X_storeSums_1 (by decide) ?_
  refine zfor q (fun i => V G M_X_storeSums (zdet none (zsys G B kd nn t zz ch md tc tg (zpu pt (97 + 5 * c) q) (zSt nn c L q) w0) sz) (zR 2 0 0 48) 0 0 sz 2 [(0, .ref B), (1, .ref (B + (97 + 5 * c))), (2, .int (Int32.ofInt (q : Int))), (3, .int (Int32.ofInt (i : Int)))] [] (zsys G B kd nn t zz ch md tc tg pt (zSt nn c L i) w0)) ?_ (fun i hi ih => ?_) 0 (Nat.zero_le q)
  · skip
    refine V_iload_n d_X_storeSums_2 rfl ?_
    refine V_iload_n d_X_storeSums_3 rfl ?_
    refine J_icmp_ge 32 d_X_storeSums_4 (by decide) (by omega) (by omega) (fun c_4 => ?_) (fun c_4 => absurd c_4 (by omega))
    refine V_aload_n d_X_storeSums_32 rfl ?_
    refine V_iload_n d_X_storeSums_33 rfl ?_
    refine V_putf d_X_storeSums_34 ff_X_197 (zsys_at (by omega) (zlay_cip hc)) ⟨_, _, _, _, rfl, rfl, rfl, rfl, rfl⟩ (Nat.le_of_ble_eq_true rfl) ?_
    refine V_w (zsys_pt (v := (q : Int)) hc rfl) ?_
    exact V_return d_X_storeSums_37 rfl ⟨Nat.le_of_ble_eq_true rfl, Nat.le_of_ble_eq_true rfl⟩ ⟨rfl, rfl, rfl⟩
  · skip
    refine V_iload_n d_X_storeSums_2 rfl ?_
    refine V_iload_n d_X_storeSums_3 rfl ?_
    refine J_icmp_ge 32 d_X_storeSums_4 (by decide) (by omega) (by omega) (fun c_4 => absurd c_4 (by omega)) (fun c_4 => ?_)
    refine V_aload_n d_X_storeSums_7 rfl ?_
    refine V_getf d_X_storeSums_8 ff_X_12 zsys_x0 rfl ?_
    refine V_aload_n d_X_storeSums_11 rfl ?_
    refine V_getf d_X_storeSums_12 ff_X_221 (zsys_at (by omega) (zlay_cip hc)) rfl ?_
    refine V_iload_n d_X_storeSums_15 rfl ?_
    refine J_aaload d_X_storeSums_16 (zsys_at (by omega) (zlay_cir hc)) rfl rfl (by omega) (by decide) ((zel (a := fun k => B + (97 + 5 * c + 1 + 1 + k)) (show i < 3 by omega)).trans rfl : _ = some (B + (97 + 5 * c + 1 + 1 + i))) ?_
    refine V_aload_n d_X_storeSums_17 rfl ?_
    refine V_getf d_X_storeSums_18 ff_X_42 zsys_x0 rfl ?_
    refine V_iload_n d_X_storeSums_21 rfl ?_
    refine J_aaload d_X_storeSums_22 (zsys_at (by decide) rfl) rfl rfl (by omega) (by decide) ((zel (a := fun k => B + (178 + k)) (show i < 3 by omega)).trans rfl : _ = some (B + (178 + i))) ?_
    refine V_callV (n := 2) d_X_storeSums_23 g_X_291 rfl zsys_r rfl (c_reduce G _ _ (B + 1) (B + 2) kd nn t zz (B + (97 + 5 * c + 1 + 1 + i)) (B + (178 + i)) nn _ _ zsys_r (zsys_row (zir_c hc (by omega))) (zsys_row (zir_s (by omega))) (by omega) rfl hn (fun j hj => by rw [zSt_o hc i (fun k hk => by omega)]; exact hR i hi j hj)) ⟨co_Ring_reduce, by decide +kernel, Nat.le_of_ble_eq_true rfl⟩ ⟨Nat.le_of_ble_eq_true rfl, Nat.le_of_ble_eq_true rfl, Nat.le_of_ble_eq_true rfl, Nat.le_of_ble_eq_true rfl⟩ (Nat.le_of_ble_eq_true rfl) (fun r_23 w_23 s_23 q_23 => ?_) (fun _ _ _ q => False.elim q)
    obtain ⟨rfl, rfl, rfl⟩ := q_23
    refine V_w (zsys_lu (zir_c hc (by omega))) ?_
    refine J_iinc d_X_storeSums_26 rfl (by decide) ?_
    refine V_goto 2 d_X_storeSums_29 (by decide) ?_
    exact ih

set_option maxRecDepth 100000 in
set_option maxHeartbeats 4000000 in
theorem c_phaseOf (G : zG) (sz B : Nat) (kd n t zz : Int) (ch : Int32) (md tc : Int) (tg pt : Nat → Int) (L : Nat → Int → Int) (w0 : zW) (nn : Nat) (hnn : n = (nn : Int)) (hn : nn ≤ 32) (c : Nat) (hc : c < 16) (hp3 : 0 ≤ pt (97 + 5 * c) ∧ pt (97 + 5 * c) ≤ 3) (hR : ∀ i : Nat, i < nn → -9223372036854775808 ≤ zPs nn c (pt (97 + 5 * c)) L 85 i ∧ zPs nn c (pt (97 + 5 * c)) L 85 i < 9223372036854775808) : zCt G M_X_phaseOf (zR 4 0 0 94) [.ref B, .ref (B + (97 + 5 * c))] sz (zsys G B kd n t zz ch md tc tg pt L w0) (zdet (some (.ref (B + (182 + 0)))) (zsys G B kd n t zz ch md tc tg pt (zPL nn c (pt (97 + 5 * c)) L) w0) sz) := by
  subst hnn
  by_cases h3 : pt (97 + 5 * c) = 3
  · unfold zPs at hR
    rw [if_pos h3] at hR
    refine V_aload_n d_X_phaseOf_0 rfl ?_
    refine V_getf d_X_phaseOf_1 ff_X_45 zsys_x0 rfl ?_
    refine V_iconst d_X_phaseOf_4 ?_
    refine J_aaload d_X_phaseOf_5 (zsys_at (by decide) rfl) rfl rfl (by omega) (by decide) (show _ = some (B + (182 + 0)) from rfl) ?_
    refine V_astore_n d_X_phaseOf_6 (by decide) ?_
    refine V_aload_n d_X_phaseOf_7 rfl ?_
    refine V_getf d_X_phaseOf_8 ff_X_26 zsys_x0 rfl ?_
    refine V_aload_n d_X_phaseOf_11 rfl ?_
    refine V_getf d_X_phaseOf_12 ff_X_12 zsys_x0 rfl ?_
    refine V_aload_n d_X_phaseOf_15 rfl ?_
    refine V_aload_n d_X_phaseOf_16 rfl ?_
    refine V_callV (n := 3) d_X_phaseOf_17 g_X_294 rfl zsys_k rfl (c_findPhase3 G _ B kd nn t zz ch md tc tg pt L w0 nn rfl hn c (182 + 0) hc (zir_w (by decide)) (by decide) hp3 h3 hR) ⟨co_KeyRing_findPhase, by decide +kernel, Nat.le_of_ble_eq_true rfl⟩ ⟨Nat.le_of_ble_eq_true rfl, Nat.le_of_ble_eq_true rfl, Nat.le_of_ble_eq_true rfl, Nat.le_of_ble_eq_true rfl⟩ (Nat.le_of_ble_eq_true rfl) (fun r_17 w_17 s_17 q_17 => ?_) (fun _ _ _ q => False.elim q)
    obtain ⟨rfl, rfl, rfl⟩ := q_17
    refine V_aload_n d_X_phaseOf_20 rfl ?_
    exact V_areturn d_X_phaseOf_21 rfl (Or.inr ⟨_, rfl⟩) ⟨Nat.le_of_ble_eq_true rfl, Nat.le_of_ble_eq_true rfl⟩ ⟨rfl, by unfold zPL zPs; rw [if_pos h3], rfl⟩
  · unfold zPs at hR
    rw [if_neg h3] at hR
    refine V_aload_n d_X_phaseOf_0 rfl ?_
    refine V_getf d_X_phaseOf_1 ff_X_45 zsys_x0 rfl ?_
    refine V_iconst d_X_phaseOf_4 ?_
    refine J_aaload d_X_phaseOf_5 (zsys_at (by decide) rfl) rfl rfl (by omega) (by decide) (show _ = some (B + (182 + 0)) from rfl) ?_
    refine V_astore_n d_X_phaseOf_6 (by decide) ?_
    refine V_aload_n d_X_phaseOf_7 rfl ?_
    refine V_getf d_X_phaseOf_8 ff_X_26 zsys_x0 rfl ?_
    refine V_aload_n d_X_phaseOf_11 rfl ?_
    refine V_getf d_X_phaseOf_12 ff_X_12 zsys_x0 rfl ?_
    refine V_aload_n d_X_phaseOf_15 rfl ?_
    refine V_aload_n d_X_phaseOf_16 rfl ?_
    refine V_callV (n := 3) d_X_phaseOf_17 g_X_294 rfl zsys_k rfl (c_findPhase2 G _ B kd nn t zz ch md tc tg pt L w0 nn rfl hn c (182 + 0) hc (zir_w (by decide)) (by decide) hp3 h3 hR) ⟨co_KeyRing_findPhase, by decide +kernel, Nat.le_of_ble_eq_true rfl⟩ ⟨Nat.le_of_ble_eq_true rfl, Nat.le_of_ble_eq_true rfl, Nat.le_of_ble_eq_true rfl, Nat.le_of_ble_eq_true rfl⟩ (Nat.le_of_ble_eq_true rfl) (fun r_17 w_17 s_17 q_17 => ?_) (fun _ _ _ q => False.elim q)
    obtain ⟨rfl, rfl, rfl⟩ := q_17
    refine V_aload_n d_X_phaseOf_20 rfl ?_
    exact V_areturn d_X_phaseOf_21 rfl (Or.inr ⟨_, rfl⟩) ⟨Nat.le_of_ble_eq_true rfl, Nat.le_of_ble_eq_true rfl⟩ ⟨rfl, by unfold zPL zPs; rw [if_neg h3], rfl⟩

set_option maxRecDepth 100000 in
set_option maxHeartbeats 4000000 in
theorem c_noiseIn (G : zG) (sz B : Nat) (kd n t zz : Int) (ch : Int32) (md tc : Int) (tg pt : Nat → Int) (L : Nat → Int → Int) (w0 : zW) (nn : Nat) (hnn : n = (nn : Int)) (hn : nn ≤ 32) (a : Nat) (ha : zir a) (ht : 0 < t ∧ t ≤ 1000) (hR : ∀ i : Nat, i < nn → -9223372036854775808 ≤ t * L a i ∧ t * L a i < 9223372036854775808) : zCt G M_X_noiseIn (zR 2 0 0 48) [.ref B, .ref (B + a)] sz (zsys G B kd n t zz ch md tc tg pt L w0) (zdet (some (.long (Int64.ofInt (zNz t (L a) nn)))) (zsys G B kd n t zz ch md tc tg pt L w0) sz) := by
  subst hnn
  refine J_lconst (z := 0) d_X_noiseIn_0 rfl ?_
  refine V_lstore_n d_X_noiseIn_1 (by decide) ?_
  refine V_iconst d_X_noiseIn_2 ?_
  refine V_istore d_X_noiseIn_3 (by decide) ?_
  refine zfor nn (fun i => V G M_X_noiseIn (zdet (some (.long (Int64.ofInt (zNz t (L a) nn)))) (zsys G B kd nn t zz ch md tc tg pt L w0) sz) (zR 2 0 0 48) 0 0 sz 5 [(0, .ref B), (1, .ref (B + a)), (2, .long (Int64.ofInt (zNz t (L a) i))), (4, .int (Int32.ofInt (i : Int)))] [] (zsys G B kd nn t zz ch md tc tg pt L w0)) ?_ (fun i hi ih => ?_) 0 (Nat.zero_le nn)
  · skip
    refine V_iload d_X_noiseIn_5 rfl ?_
    refine V_aload_n d_X_noiseIn_7 rfl ?_
    refine V_getf d_X_noiseIn_8 ff_X_12 zsys_x0 rfl ?_
    refine V_getf d_X_noiseIn_11 ff_X_78 zsys_r rfl ?_
    refine J_icmp_ge 47 d_X_noiseIn_14 (by decide) (by omega) (by omega) (fun c_14 => ?_) (fun c_14 => absurd c_14 (by omega))
    refine V_lload_n d_X_noiseIn_47 rfl ?_
    exact V_lreturn d_X_noiseIn_48 rfl ⟨Nat.le_of_ble_eq_true rfl, Nat.le_of_ble_eq_true rfl⟩ ⟨rfl, rfl, rfl⟩
  · have hz := zNz_b t (L a) i
    have hz2 := zct_b (t * L a i)
    have hm := hR i hi
    refine V_iload d_X_noiseIn_5 rfl ?_
    refine V_aload_n d_X_noiseIn_7 rfl ?_
    refine V_getf d_X_noiseIn_8 ff_X_12 zsys_x0 rfl ?_
    refine V_getf d_X_noiseIn_11 ff_X_78 zsys_r rfl ?_
    refine J_icmp_ge 47 d_X_noiseIn_14 (by decide) (by omega) (by omega) (fun c_14 => absurd c_14 (by omega)) (fun c_14 => ?_)
    refine V_lload_n d_X_noiseIn_17 rfl ?_
    refine V_aload_n d_X_noiseIn_18 rfl ?_
    refine V_getf d_X_noiseIn_19 ff_X_12 zsys_x0 rfl ?_
    refine V_getf d_X_noiseIn_22 ff_X_117 zsys_r rfl ?_
    refine J_i2l d_X_noiseIn_25 (by omega) ?_
    refine V_aload_n d_X_noiseIn_26 rfl ?_
    refine V_iload d_X_noiseIn_27 rfl ?_
    refine J_laload d_X_noiseIn_29 (zsys_row ha) (by omega) (by decide) ?_
    refine J_lmul d_X_noiseIn_30 ?_
    refine V_callS (n := 1) d_X_noiseIn_31 g_X_298 rfl (c_centred G _ _ (t * L a i) hm) ⟨co_X_centred, by decide +kernel, Nat.le_of_ble_eq_true rfl⟩ ⟨Nat.le_of_ble_eq_true rfl, Nat.le_of_ble_eq_true rfl, Nat.le_of_ble_eq_true rfl, Nat.le_of_ble_eq_true rfl⟩ (Nat.le_of_ble_eq_true rfl) (fun r_31 w_31 s_31 q_31 => ?_) (fun _ _ _ q => False.elim q)
    obtain ⟨rfl, rfl, rfl⟩ := q_31
    refine V_callS (n := 1) d_X_noiseIn_34 g_X_301 rfl (c_absJ G _ _ (zct (t * L a i)) (by omega)) ⟨co_Math_abs, by decide +kernel, Nat.le_of_ble_eq_true rfl⟩ ⟨Nat.le_of_ble_eq_true rfl, Nat.le_of_ble_eq_true rfl, Nat.le_of_ble_eq_true rfl, Nat.le_of_ble_eq_true rfl⟩ (Nat.le_of_ble_eq_true rfl) (fun r_34 w_34 s_34 q_34 => ?_) (fun _ _ _ q => False.elim q)
    obtain ⟨rfl, rfl, rfl⟩ := q_34
    refine V_callS (n := 2) d_X_noiseIn_37 g_X_304 rfl (c_maxJ G _ _ (zNz t (L a) i) (zab (zct (t * L a i))) (by omega) (by unfold zab; split <;> omega)) ⟨co_Math_max_JJ, by decide +kernel, Nat.le_of_ble_eq_true rfl⟩ ⟨Nat.le_of_ble_eq_true rfl, Nat.le_of_ble_eq_true rfl, Nat.le_of_ble_eq_true rfl, Nat.le_of_ble_eq_true rfl⟩ (Nat.le_of_ble_eq_true rfl) (fun r_37 w_37 s_37 q_37 => ?_) (fun _ _ _ q => False.elim q)
    obtain ⟨rfl, rfl, rfl⟩ := q_37
    refine V_lstore_n d_X_noiseIn_40 (by decide) ?_
    refine J_iinc d_X_noiseIn_41 rfl (by decide) ?_
    refine V_goto 5 d_X_noiseIn_44 (by decide) ?_
    exact ih

set_option maxRecDepth 100000 in
set_option maxHeartbeats 4000000 in
theorem c_budgetOf (G : zG) (sz : Nat) (w : zW) (x : Int) (hx : 0 ≤ x ∧ x ≤ 134217699) : zCt G M_X_budgetOf (zR 0 0 0 0) [.long (Int64.ofInt x)] sz w (zdet (some (.int (Int32.ofInt ((zBu x 27 : Nat) : Int)))) w sz) := by
  have key : ∀ b : Nat, b ≤ 27 → zBu x 27 = zBu x b → V G M_X_budgetOf (zdet (some (.int (Int32.ofInt ((zBu x 27 : Nat) : Int)))) w sz) (zR 0 0 0 0) 0 0 sz 3 [(0, .long (Int64.ofInt x)), (2, .int (Int32.ofInt (b : Int)))] [] w := by
    intro b
    induction b with
    | zero =>
      intro _ h5
      refine V_iload_n d_X_budgetOf_3 rfl ?_
      refine J_if_le 25 d_X_budgetOf_4 (by decide) (by omega) (fun c_4 => ?_) (fun c_4 => absurd c_4 (by decide))
      refine V_iload_n d_X_budgetOf_25 rfl ?_
      exact V_ireturn d_X_budgetOf_26 rfl ⟨Nat.le_of_ble_eq_true rfl, Nat.le_of_ble_eq_true rfl⟩ ⟨by rw [h5]; rfl, rfl, rfl⟩
    | succ b ih =>
      intro h4 h5
      have hx2 : 0 ≤ x * 2 ^ (b + 1 + 1) ∧ x * 2 ^ (b + 1 + 1) < 9223372036854775808 := by
        have h6 : (2 : Int) ^ (b + 1 + 1) ≤ 2 ^ 28 := (show ∀ b : Nat, b < 27 → (2 : Int) ^ (b + 1 + 1) ≤ 2 ^ 28 by decide +kernel) b (by omega)
        have h7 : (0 : Int) < 2 ^ (b + 1 + 1) := Int.pow_pos (by decide)
        have h8 : x * 2 ^ (b + 1 + 1) ≤ 134217699 * 2 ^ 28 := Int.mul_le_mul hx.2 h6 (Int.le_of_lt h7) (by decide)
        have h9 := Int.mul_nonneg hx.1 (Int.le_of_lt h7)
        omega
      refine V_iload_n d_X_budgetOf_3 rfl ?_
      refine J_if_le 25 d_X_budgetOf_4 (by decide) (by omega) (fun c_4 => absurd c_4 (by omega)) (fun c_4 => ?_)
      refine V_lload_n d_X_budgetOf_7 rfl ?_
      refine V_iload_n d_X_budgetOf_8 rfl ?_
      refine V_iconst d_X_budgetOf_9 ?_
      refine J_iadd d_X_budgetOf_10 ?_
      rw [show ((b + 1 : Nat) : Int) + 1 = ((b + 1 + 1 : Nat) : Int) from rfl]
      refine V_lshl d_X_budgetOf_11 ?_
      rw [zshl2 (b := b + 1 + 1) (by omega)]
      refine J_ldc2 d_X_budgetOf_12 k_X_306 ?_
      refine JL_lt 25 d_X_budgetOf_15 d_X_budgetOf_16 (by decide) (by omega) (by omega) (fun c_15 => ?_) (fun c_15 => ?_)
      · skip
        refine V_iload_n d_X_budgetOf_25 rfl ?_
        exact V_ireturn d_X_budgetOf_26 rfl ⟨Nat.le_of_ble_eq_true rfl, Nat.le_of_ble_eq_true rfl⟩ ⟨by rw [h5]; show some (Value.int (Int32.ofInt (((if _ then b + 1 else _) : Nat) : Int))) = _; rw [if_pos c_15], rfl, rfl⟩
      · skip
        have e : zBu x 27 = zBu x b := by rw [h5]; show (if _ then _ else _) = _; rw [if_neg (show ¬ x * 2 ^ (b + 1 + 1) < 268435399 by omega)]
        have e9 : ((b + 1 : Nat) : Int) + -1 = (b : Int) := by omega
        refine J_iinc d_X_budgetOf_19 rfl (by decide) ?_
        rw [e9]
        refine V_goto 3 d_X_budgetOf_22 (by decide) ?_
        exact ih (by omega) e
  refine J_bipush d_X_budgetOf_0 (by decide) ?_
  refine V_istore_n d_X_budgetOf_2 (by decide) ?_
  exact key 27 (Nat.le_refl _) rfl
end
section
section ZCm
variable {nn l r i : Nat} {pl pr f : Int} {L : Nat → Int → Int}
theorem zCm_nn (h1 : pl ≤ i) (h2 : pr ≤ i) : zCm nn l r pl pr f L (i + 1) = zFl (178 + i) 0 (zCm nn l r pl pr f L i) := by
  conv => { lhs; unfold zCm }
  dsimp only
  rw [if_neg (Int.not_lt.mpr h1), if_neg (Int.not_lt.mpr h2)]
theorem zCm_np (h1 : pl ≤ i) (h2 : (i : Int) < pr) : zCm nn l r pl pr f L (i + 1) = zAs nn (178 + i) (97 + 5 * r + 1 + 1 + i) f (zFl (178 + i) 0 (zCm nn l r pl pr f L i)) := by
  conv => { lhs; unfold zCm }
  dsimp only
  rw [if_neg (Int.not_lt.mpr h1), if_pos h2]
theorem zCm_pn (h1 : (i : Int) < pl) (h2 : pr ≤ i) : zCm nn l r pl pr f L (i + 1) = zAs nn (178 + i) (97 + 5 * l + 1 + 1 + i) 1 (zFl (178 + i) 0 (zCm nn l r pl pr f L i)) := by
  conv => { lhs; unfold zCm }
  dsimp only
  rw [if_pos h1, if_neg (Int.not_lt.mpr h2)]
theorem zCm_pp (h1 : (i : Int) < pl) (h2 : (i : Int) < pr) : zCm nn l r pl pr f L (i + 1) = zAs nn (178 + i) (97 + 5 * r + 1 + 1 + i) f (zAs nn (178 + i) (97 + 5 * l + 1 + 1 + i) 1 (zFl (178 + i) 0 (zCm nn l r pl pr f L i))) := by
  conv => { lhs; unfold zCm }
  dsimp only
  rw [if_pos h1, if_pos h2]
end ZCm

set_option maxRecDepth 100000 in
set_option maxHeartbeats 4000000 in
theorem c_applySwitch (G : zG) (sz B : Nat) (kd n t zz : Int) (ch : Int32) (md tc : Int) (tg pt : Nat → Int) (L : Nat → Int → Int) (w0 : zW) (nn : Nat) (hnn : n = (nn : Int)) (hn : nn ≤ 32) (j a : Nat) (hj : j = 9 ∨ j = 25 ∨ j = 40 ∨ j = 55 ∨ j = 70) (ha : zir a) (h178 : a ≠ 178) (h179 : a ≠ 179) (h183 : a ≠ 183) (hR : ∀ i : Nat, i < nn → 0 ≤ L a i ∧ L a i < 268435456) : zCt G M_X_applySwitch (zR 1 0 0 27) [.ref B, .ref (B + j), .ref (B + a)] sz (zsys G B kd n t zz ch md tc tg pt L w0) (zdet none (zsys G B kd n t zz ch md tc tg pt (zAw nn j a L 6) w0) sz) := by
  subst hnn
  refine V_aload_n d_X_applySwitch_0 rfl ?_
  refine V_getf d_X_applySwitch_1 ff_X_45 zsys_x0 rfl ?_
  refine V_iconst d_X_applySwitch_4 ?_
  refine J_aaload d_X_applySwitch_5 (zsys_at (by decide) rfl) rfl rfl (by omega) (by decide) (show _ = some (B + (182 + 1)) from rfl) ?_
  refine V_astore_n d_X_applySwitch_6 (by decide) ?_
  refine V_iconst d_X_applySwitch_7 ?_
  refine V_istore d_X_applySwitch_8 (by decide) ?_
  refine zfor 6 (fun k => V G M_X_applySwitch (zdet none (zsys G B kd nn t zz ch md tc tg pt (zAw nn j a L 6) w0) sz) (zR 1 0 0 27) 0 0 sz 10 [(0, .ref B), (1, .ref (B + j)), (2, .ref (B + a)), (3, .ref (B + (182 + 1))), (4, .int (Int32.ofInt (k : Int)))] [] (zsys G B kd nn t zz ch md tc tg pt (zAw nn j a L k) w0)) ?_ (fun k hk ih => ?_) 0 (Nat.zero_le 6)
  · skip
    refine V_iload d_X_applySwitch_10 rfl ?_
    refine J_bipush d_X_applySwitch_12 (by decide) ?_
    refine J_icmp_ge 103 d_X_applySwitch_14 (by decide) (by omega) (by omega) (fun c_14 => ?_) (fun c_14 => absurd c_14 (by omega))
    exact V_return d_X_applySwitch_103 rfl ⟨Nat.le_of_ble_eq_true rfl, Nat.le_of_ble_eq_true rfl⟩ ⟨rfl, rfl, rfl⟩
  · have hX : ∀ i : Nat, i < nn → 0 ≤ zAw nn j a L k a i ∧ zAw nn j a L k a i < 268435456 := fun i hi => by rw [zAw_o ⟨h178, h179, h183⟩ k]; exact hR i hi
    refine V_iload d_X_applySwitch_10 rfl ?_
    refine J_bipush d_X_applySwitch_12 (by decide) ?_
    refine J_icmp_ge 103 d_X_applySwitch_14 (by decide) (by omega) (by omega) (fun c_14 => absurd c_14 (by omega)) (fun c_14 => ?_)
    refine V_iconst d_X_applySwitch_17 ?_
    refine V_istore d_X_applySwitch_18 (by decide) ?_
    refine V_w (w' := (zsys G B kd nn t zz ch md tc tg pt (zlu (zAw nn j a L k) (182 + 1) (zif ((0 : Nat) : Int) (fun i => (zAw nn j a L k) a i / 32 ^ k % 32) ((zAw nn j a L k) (182 + 1)))) w0)) (by rw [show ((0 : Nat) : Int) = 0 from rfl, zif_0, ← zsys_lu (zir_w (by decide)), zset_self (zsys_row (zir_w (by decide)))]) ?_
    refine zfor nn (fun i => V G M_X_applySwitch (zdet none (zsys G B kd nn t zz ch md tc tg pt (zAw nn j a L 6) w0) sz) (zR 1 0 0 27) 0 0 sz 20 [(0, .ref B), (1, .ref (B + j)), (2, .ref (B + a)), (3, .ref (B + (182 + 1))), (4, .int (Int32.ofInt (k : Int))), (5, .int (Int32.ofInt (i : Int)))] [] (zsys G B kd nn t zz ch md tc tg pt (zlu (zAw nn j a L k) (182 + 1) (zif (i : Int) (fun i => (zAw nn j a L k) a i / 32 ^ k % 32) ((zAw nn j a L k) (182 + 1)))) w0)) ?_ (fun i hi ih2 => ?_) 0 (Nat.zero_le nn)
    · skip
      refine V_iload d_X_applySwitch_20 rfl ?_
      refine V_aload_n d_X_applySwitch_22 rfl ?_
      refine V_getf d_X_applySwitch_23 ff_X_12 zsys_x0 rfl ?_
      refine V_getf d_X_applySwitch_26 ff_X_78 zsys_r rfl ?_
      refine J_icmp_ge 55 d_X_applySwitch_29 (by decide) (by omega) (by omega) (fun c_29 => ?_) (fun c_29 => absurd c_29 (by omega))
      refine V_aload_n d_X_applySwitch_55 rfl ?_
      refine V_getf d_X_applySwitch_56 ff_X_12 zsys_x0 rfl ?_
      refine V_aload_n d_X_applySwitch_59 rfl ?_
      refine V_getf d_X_applySwitch_60 ff_X_42 zsys_x0 rfl ?_
      refine V_iconst d_X_applySwitch_63 ?_
      refine J_aaload d_X_applySwitch_64 (zsys_at (by decide) rfl) rfl rfl (by omega) (by decide) (show _ = some (B + (178 + 0)) from rfl) ?_
      refine V_aload_n d_X_applySwitch_65 rfl ?_
      refine V_aload_n d_X_applySwitch_66 rfl ?_
      refine V_getf d_X_applySwitch_67 ff_X_283 (zsys_at (by omega) (zlay_swk hj)) rfl ?_
      refine V_iload d_X_applySwitch_70 rfl ?_
      refine J_aaload d_X_applySwitch_72 (zsys_at (by omega) (zlay_swr (by omega))) rfl rfl (by omega) (by decide) ((zel (a := fun k => B + (j + 1 + 1 + k)) hk).trans rfl : _ = some (B + (j + 1 + 1 + k))) ?_
      refine V_callV (n := 3) d_X_applySwitch_73 g_X_154 rfl zsys_r rfl (c_addProduct G _ _ (B + 1) (B + 2) kd nn t zz (B + (178 + 0)) (B + (182 + 1)) (B + (j + 1 + 1 + k)) nn _ _ _ zsys_r (zsys_row (zir_s (by decide))) (zsys_row (zir_w (by decide))) (zsys_row (zir_b hj hk)) (by omega) (by omega) rfl hn) ⟨co_Ring_addProduct, by decide +kernel, Nat.le_of_ble_eq_true rfl⟩ ⟨Nat.le_of_ble_eq_true rfl, Nat.le_of_ble_eq_true rfl, Nat.le_of_ble_eq_true rfl, Nat.le_of_ble_eq_true rfl⟩ (Nat.le_of_ble_eq_true rfl) (fun r_73 w_73 s_73 q_73 => ?_) (fun _ _ _ q => False.elim q)
      obtain ⟨rfl, rfl, rfl⟩ := q_73
      refine V_w (zsys_lu (zir_s (by decide))) ?_
      refine V_aload_n d_X_applySwitch_76 rfl ?_
      refine V_getf d_X_applySwitch_77 ff_X_12 zsys_x0 rfl ?_
      refine V_aload_n d_X_applySwitch_80 rfl ?_
      refine V_getf d_X_applySwitch_81 ff_X_42 zsys_x0 rfl ?_
      refine V_iconst d_X_applySwitch_84 ?_
      refine J_aaload d_X_applySwitch_85 (zsys_at (by decide) rfl) rfl rfl (by omega) (by decide) (show _ = some (B + (178 + 1)) from rfl) ?_
      refine V_aload_n d_X_applySwitch_86 rfl ?_
      refine V_aload_n d_X_applySwitch_87 rfl ?_
      refine V_getf d_X_applySwitch_88 ff_X_288 (zsys_at (by omega) (zlay_swk hj)) rfl ?_
      refine V_iload d_X_applySwitch_91 rfl ?_
      refine J_aaload d_X_applySwitch_93 (zsys_at (by omega) (zlay_swr (by omega))) rfl rfl (by omega) (by decide) ((zel (a := fun k => B + (j + 8 + 1 + k)) hk).trans rfl : _ = some (B + (j + 8 + 1 + k))) ?_
      refine V_callV (n := 3) d_X_applySwitch_94 g_X_154 rfl zsys_r rfl (c_addProduct G _ _ (B + 1) (B + 2) kd nn t zz (B + (178 + 1)) (B + (182 + 1)) (B + (j + 8 + 1 + k)) nn _ _ _ zsys_r (zsys_row (zir_s (by decide))) (zsys_row (zir_w (by decide))) (zsys_row (zir_m hj hk)) (by omega) (by omega) rfl hn) ⟨co_Ring_addProduct, by decide +kernel, Nat.le_of_ble_eq_true rfl⟩ ⟨Nat.le_of_ble_eq_true rfl, Nat.le_of_ble_eq_true rfl, Nat.le_of_ble_eq_true rfl, Nat.le_of_ble_eq_true rfl⟩ (Nat.le_of_ble_eq_true rfl) (fun r_94 w_94 s_94 q_94 => ?_) (fun _ _ _ q => False.elim q)
      obtain ⟨rfl, rfl, rfl⟩ := q_94
      refine V_w (zsys_lu (zir_s (by decide))) ?_
      refine J_iinc d_X_applySwitch_97 rfl (by decide) ?_
      refine V_goto 10 d_X_applySwitch_100 (by decide) ?_
      exact V_lo [0, 1, 2, 3, 4] rfl ih
    · skip
      refine V_iload d_X_applySwitch_20 rfl ?_
      refine V_aload_n d_X_applySwitch_22 rfl ?_
      refine V_getf d_X_applySwitch_23 ff_X_12 zsys_x0 rfl ?_
      refine V_getf d_X_applySwitch_26 ff_X_78 zsys_r rfl ?_
      refine J_icmp_ge 55 d_X_applySwitch_29 (by decide) (by omega) (by omega) (fun c_29 => absurd c_29 (by omega)) (fun c_29 => ?_)
      refine V_aload_n d_X_applySwitch_32 rfl ?_
      refine V_iload d_X_applySwitch_33 rfl ?_
      refine V_aload_n d_X_applySwitch_35 rfl ?_
      refine V_iload d_X_applySwitch_36 rfl ?_
      refine J_laload d_X_applySwitch_38 (zsys_row ha) (by omega) (by decide) ?_
      rw [zlu_n h183]
      refine V_iconst d_X_applySwitch_39 ?_
      refine V_iload d_X_applySwitch_40 rfl ?_
      refine J_imul d_X_applySwitch_42 ?_
      refine V_lshr d_X_applySwitch_43 ?_
      refine J_ldc2 d_X_applySwitch_44 k_X_281 ?_
      refine V_land d_X_applySwitch_47 ?_
      rw [zdig (hX i hi) hk]
      refine J_lastore d_X_applySwitch_48 (zsys_row (zir_w (by decide))) (by omega) (by decide) ?_
      refine J_iinc d_X_applySwitch_49 rfl (by decide) ?_
      refine V_goto 20 d_X_applySwitch_52 (by decide) ?_
      exact V_w (by rw [zsys_lu (zir_w (by decide)), zlu_s, zif_s (by omega) rfl, zlu_lu]; rfl) ih2

set_option maxRecDepth 100000 in
set_option maxHeartbeats 4000000 in
theorem c_storeTwoParts (G : zG) (sz B : Nat) (kd n t zz : Int) (ch : Int32) (md tc : Int) (tg pt : Nat → Int) (L : Nat → Int → Int) (w0 : zW) (nn : Nat) (hnn : n = (nn : Int)) (hn : nn ≤ 32) (c : Nat) (hc : c < 16) (ht : 0 < t ∧ t ≤ 1000) (hR : ∀ k : Nat, k < 2 → ∀ i : Nat, i < nn → -9223372036854775808 ≤ L (178 + k) i ∧ L (178 + k) i < 9223372036854775808) (hP : ∀ i : Nat, i < nn → -9223372036854775808 ≤ zPs nn c 2 (zSt nn c L 2) 85 i ∧ zPs nn c 2 (zSt nn c L 2) 85 i < 9223372036854775808) (hM : ∀ i : Nat, i < nn → -9223372036854775808 ≤ t * (zPL nn c 2 (zSt nn c L 2)) (182 + 0) i ∧ t * (zPL nn c 2 (zSt nn c L 2)) (182 + 0) i < 9223372036854775808) : zCt G M_X_storeTwoParts (zR 5 0 0 116) [.ref B, .ref (B + (97 + 5 * c))] sz (zsys G B kd n t zz ch md tc tg pt L w0) (zdet (some (.int (Int32.ofInt ((zBu (zNz t ((zPL nn c 2 (zSt nn c L 2)) (182 + 0)) nn) 27 : Nat) : Int)))) (zsys G B kd n t zz ch md tc tg (zpu pt (97 + 5 * c) 2) (zPL nn c 2 (zSt nn c L 2)) w0) sz) := by
  subst hnn
  have hpp : zpu pt (97 + 5 * c) 2 (97 + 5 * c) = 2 := if_pos rfl
  refine V_aload_n d_X_storeTwoParts_0 rfl ?_
  refine V_aload_n d_X_storeTwoParts_1 rfl ?_
  refine V_iconst d_X_storeTwoParts_2 ?_
  refine V_callV (n := 2) d_X_storeTwoParts_3 g_X_274 rfl zsys_x0 rfl (c_storeSums G _ B kd nn t zz ch md tc tg pt L w0 nn rfl hn c 2 hc (by omega) hR) ⟨co_X_storeSums, by decide +kernel, Nat.le_of_ble_eq_true rfl⟩ ⟨Nat.le_of_ble_eq_true rfl, Nat.le_of_ble_eq_true rfl, Nat.le_of_ble_eq_true rfl, Nat.le_of_ble_eq_true rfl⟩ (Nat.le_of_ble_eq_true rfl) (fun r_3 w_3 s_3 q_3 => ?_) (fun _ _ _ q => False.elim q)
  obtain ⟨rfl, rfl, rfl⟩ := q_3
  refine V_aload_n d_X_storeTwoParts_6 rfl ?_
  refine V_aload_n d_X_storeTwoParts_7 rfl ?_
  refine V_aload_n d_X_storeTwoParts_8 rfl ?_
  refine V_callV (n := 1) d_X_storeTwoParts_9 g_X_176 rfl zsys_x0 rfl (c_phaseOf G _ B kd nn t zz ch md tc tg (zpu pt (97 + 5 * c) 2) (zSt nn c L 2) w0 nn rfl hn c hc (by rw [hpp]; omega) (by rw [hpp]; exact hP)) ⟨co_X_phaseOf, by decide +kernel, Nat.le_of_ble_eq_true rfl⟩ ⟨Nat.le_of_ble_eq_true rfl, Nat.le_of_ble_eq_true rfl, Nat.le_of_ble_eq_true rfl, Nat.le_of_ble_eq_true rfl⟩ (Nat.le_of_ble_eq_true rfl) (fun r_9 w_9 s_9 q_9 => ?_) (fun _ _ _ q => False.elim q)
  obtain ⟨rfl, rfl, rfl⟩ := q_9
  rw [hpp]
  refine V_callV (n := 1) d_X_storeTwoParts_12 g_X_187 rfl zsys_x0 rfl (c_noiseIn G _ B kd nn t zz ch md tc tg (zpu pt (97 + 5 * c) 2) (zPL nn c 2 (zSt nn c L 2)) w0 nn rfl hn (182 + 0) (zir_w (by decide)) ht hM) ⟨co_X_noiseIn, by decide +kernel, Nat.le_of_ble_eq_true rfl⟩ ⟨Nat.le_of_ble_eq_true rfl, Nat.le_of_ble_eq_true rfl, Nat.le_of_ble_eq_true rfl, Nat.le_of_ble_eq_true rfl⟩ (Nat.le_of_ble_eq_true rfl) (fun r_12 w_12 s_12 q_12 => ?_) (fun _ _ _ q => False.elim q)
  obtain ⟨rfl, rfl, rfl⟩ := q_12
  refine V_callS (n := 1) d_X_storeTwoParts_15 g_X_191 rfl (c_budgetOf G _ _ (zNz t ((zPL nn c 2 (zSt nn c L 2)) (182 + 0)) nn) (zNz_b _ _ _)) ⟨co_X_budgetOf, by decide +kernel, Nat.le_of_ble_eq_true rfl⟩ ⟨Nat.le_of_ble_eq_true rfl, Nat.le_of_ble_eq_true rfl, Nat.le_of_ble_eq_true rfl, Nat.le_of_ble_eq_true rfl⟩ (Nat.le_of_ble_eq_true rfl) (fun r_15 w_15 s_15 q_15 => ?_) (fun _ _ _ q => False.elim q)
  obtain ⟨rfl, rfl, rfl⟩ := q_15
  exact V_ireturn d_X_storeTwoParts_18 rfl ⟨Nat.le_of_ble_eq_true rfl, Nat.le_of_ble_eq_true rfl⟩ ⟨rfl, rfl, rfl⟩

set_option maxRecDepth 100000 in
set_option maxHeartbeats 4000000 in
theorem c_addPlain (G : zG) (sz B : Nat) (kd n t zz : Int) (ch : Int32) (md tc : Int) (tg pt : Nat → Int) (L : Nat → Int → Int) (w0 : zW) (nn : Nat) (hnn : n = (nn : Int)) (hn : nn ≤ 32) (c d a q : Nat) (hc : c < 16) (hd : d < 16) (ha : zir a) (ha2 : a ≠ 178) (hq : q ≤ 3) (hpt : pt (97 + 5 * d) = (q : Int)) (ht : 0 < t ∧ t < 1000) (hR : ∀ k : Nat, k < q → ∀ i : Nat, i < nn → -9223372036854775808 ≤ (zAs nn (178 + 0) a (268435399 / t) (zPc nn d L q)) (178 + k) i ∧ (zAs nn (178 + 0) a (268435399 / t) (zPc nn d L q)) (178 + k) i < 9223372036854775808) : zCt G M_X_addPlain (zR 3 0 0 71) [.ref B, .ref (B + (97 + 5 * c)), .ref (B + (97 + 5 * d)), .ref (B + a)] sz (zsys G B kd n t zz ch md tc tg pt L w0) (zdet none (zsys G B kd n t zz ch md tc tg (zpu pt (97 + 5 * c) q) (zSt nn c (zAs nn (178 + 0) a (268435399 / t) (zPc nn d L q)) q) w0) sz) := by
  subst hnn
  refine V_iconst d_X_addPlain_0 ?_
  refine V_istore d_X_addPlain_1 (by decide) ?_
  refine zfor q (fun i => V G M_X_addPlain (zdet none (zsys G B kd nn t zz ch md tc tg (zpu pt (97 + 5 * c) q) (zSt nn c (zAs nn (178 + 0) a (268435399 / t) (zPc nn d L q)) q) w0) sz) (zR 3 0 0 71) 0 0 sz 3 [(0, .ref B), (1, .ref (B + (97 + 5 * c))), (2, .ref (B + (97 + 5 * d))), (3, .ref (B + a)), (4, .int (Int32.ofInt (i : Int)))] [] (zsys G B kd nn t zz ch md tc tg pt (zPc nn d L i) w0)) ?_ (fun i hi ih => ?_) 0 (Nat.zero_le q)
  · skip
    refine V_iload d_X_addPlain_3 rfl ?_
    refine V_aload_n d_X_addPlain_5 rfl ?_
    refine V_getf d_X_addPlain_6 ff_X_197 (zsys_at (by omega) (zlay_cip hd)) rfl ?_
    refine J_icmp_ge 39 d_X_addPlain_9 (by decide) (by omega) (by rw [hpt]; omega) (fun c_9 => ?_) (fun c_9 => absurd c_9 (by rw [hpt]; omega))
    refine V_aload_n d_X_addPlain_39 rfl ?_
    refine V_getf d_X_addPlain_40 ff_X_12 zsys_x0 rfl ?_
    refine V_aload_n d_X_addPlain_43 rfl ?_
    refine V_getf d_X_addPlain_44 ff_X_42 zsys_x0 rfl ?_
    refine V_iconst d_X_addPlain_47 ?_
    refine J_aaload d_X_addPlain_48 (zsys_at (by decide) rfl) rfl rfl (by omega) (by decide) (show _ = some (B + (178 + 0)) from rfl) ?_
    refine V_aload_n d_X_addPlain_49 rfl ?_
    refine V_aload_n d_X_addPlain_50 rfl ?_
    refine V_getf d_X_addPlain_51 ff_X_12 zsys_x0 rfl ?_
    refine V_callV (n := 0) d_X_addPlain_54 g_X_158 rfl zsys_r rfl (c_scale G _ _ (B + 1) (B + 2) kd nn t zz zsys_r (by omega)) ⟨co_Ring_scale, by decide +kernel, Nat.le_of_ble_eq_true rfl⟩ ⟨Nat.le_of_ble_eq_true rfl, Nat.le_of_ble_eq_true rfl, Nat.le_of_ble_eq_true rfl, Nat.le_of_ble_eq_true rfl⟩ (Nat.le_of_ble_eq_true rfl) (fun r_54 w_54 s_54 q_54 => ?_) (fun _ _ _ q => False.elim q)
    obtain ⟨rfl, rfl, rfl⟩ := q_54
    refine V_callV (n := 3) d_X_addPlain_57 g_X_162 rfl zsys_r rfl (c_addScaled G _ _ (B + 1) (B + 2) kd nn t zz (B + (178 + 0)) (B + a) (268435399 / t) _ _ zsys_r (zsys_row (zir_s (by decide))) (zsys_row ha) (by omega) (by omega)) ⟨co_Ring_addScaled, by decide +kernel, Nat.le_of_ble_eq_true rfl⟩ ⟨Nat.le_of_ble_eq_true rfl, Nat.le_of_ble_eq_true rfl, Nat.le_of_ble_eq_true rfl, Nat.le_of_ble_eq_true rfl⟩ (Nat.le_of_ble_eq_true rfl) (fun r_57 w_57 s_57 q_57 => ?_) (fun _ _ _ q => False.elim q)
    obtain ⟨rfl, rfl, rfl⟩ := q_57
    refine V_w (zsys_lu (zir_s (by decide))) ?_
    refine V_aload_n d_X_addPlain_60 rfl ?_
    refine V_aload_n d_X_addPlain_61 rfl ?_
    refine V_aload_n d_X_addPlain_62 rfl ?_
    refine V_getf d_X_addPlain_63 ff_X_197 (zsys_at (by omega) (zlay_cip hd)) rfl ?_
    rw [hpt]
    refine V_callV (n := 2) d_X_addPlain_66 g_X_274 rfl zsys_x0 rfl (c_storeSums G _ B kd nn t zz ch md tc tg pt (zAs nn (178 + 0) a (268435399 / t) (zPc nn d L q)) w0 nn rfl hn c q hc (by omega) hR) ⟨co_X_storeSums, by decide +kernel, Nat.le_of_ble_eq_true rfl⟩ ⟨Nat.le_of_ble_eq_true rfl, Nat.le_of_ble_eq_true rfl, Nat.le_of_ble_eq_true rfl, Nat.le_of_ble_eq_true rfl⟩ (Nat.le_of_ble_eq_true rfl) (fun r_66 w_66 s_66 q_66 => ?_) (fun _ _ _ q => False.elim q)
    obtain ⟨rfl, rfl, rfl⟩ := q_66
    exact V_return d_X_addPlain_69 rfl ⟨Nat.le_of_ble_eq_true rfl, Nat.le_of_ble_eq_true rfl⟩ ⟨rfl, rfl, rfl⟩
  · skip
    refine V_iload d_X_addPlain_3 rfl ?_
    refine V_aload_n d_X_addPlain_5 rfl ?_
    refine V_getf d_X_addPlain_6 ff_X_197 (zsys_at (by omega) (zlay_cip hd)) rfl ?_
    refine J_icmp_ge 39 d_X_addPlain_9 (by decide) (by omega) (by rw [hpt]; omega) (fun c_9 => absurd c_9 (by rw [hpt]; omega)) (fun c_9 => ?_)
    refine V_aload_n d_X_addPlain_12 rfl ?_
    refine V_getf d_X_addPlain_13 ff_X_12 zsys_x0 rfl ?_
    refine V_aload_n d_X_addPlain_16 rfl ?_
    refine V_getf d_X_addPlain_17 ff_X_42 zsys_x0 rfl ?_
    refine V_iload d_X_addPlain_20 rfl ?_
    refine J_aaload d_X_addPlain_22 (zsys_at (by decide) rfl) rfl rfl (by omega) (by decide) ((zel (a := fun k => B + (178 + k)) (show i < 3 by omega)).trans rfl : _ = some (B + (178 + i))) ?_
    refine V_aload_n d_X_addPlain_23 rfl ?_
    refine V_getf d_X_addPlain_24 ff_X_221 (zsys_at (by omega) (zlay_cip hd)) rfl ?_
    refine V_iload d_X_addPlain_27 rfl ?_
    refine J_aaload d_X_addPlain_29 (zsys_at (by omega) (zlay_cir hd)) rfl rfl (by omega) (by decide) ((zel (a := fun k => B + (97 + 5 * d + 1 + 1 + k)) (show i < 3 by omega)).trans rfl : _ = some (B + (97 + 5 * d + 1 + 1 + i))) ?_
    refine V_callV (n := 2) d_X_addPlain_30 g_X_222 rfl zsys_r rfl (c_copy G _ _ (B + 1) (B + 2) kd nn t zz (B + (178 + i)) (B + (97 + 5 * d + 1 + 1 + i)) _ _ zsys_r (zsys_row (zir_s (by omega))) (zsys_row (zir_c hd (by omega))) (by omega)) ⟨co_Ring_copy, by decide +kernel, Nat.le_of_ble_eq_true rfl⟩ ⟨Nat.le_of_ble_eq_true rfl, Nat.le_of_ble_eq_true rfl, Nat.le_of_ble_eq_true rfl, Nat.le_of_ble_eq_true rfl⟩ (Nat.le_of_ble_eq_true rfl) (fun r_30 w_30 s_30 q_30 => ?_) (fun _ _ _ q => False.elim q)
    obtain ⟨rfl, rfl, rfl⟩ := q_30
    refine V_w (zsys_lu (zir_s (by omega))) ?_
    refine J_iinc d_X_addPlain_33 rfl (by decide) ?_
    refine V_goto 3 d_X_addPlain_36 (by decide) ?_
    exact ih

set_option maxRecDepth 100000 in
set_option maxHeartbeats 4000000 in
theorem c_multiplyByPlain (G : zG) (sz B : Nat) (kd n t zz : Int) (ch : Int32) (md tc : Int) (tg pt : Nat → Int) (L : Nat → Int → Int) (w0 : zW) (nn : Nat) (hnn : n = (nn : Int)) (hn : nn ≤ 32) (c d a q : Nat) (hc : c < 16) (hd : d < 16) (ha : zir a) (ha2 : a < 178) (hq : q ≤ 3) (hpt : pt (97 + 5 * d) = (q : Int)) (hR : ∀ k : Nat, k < q → ∀ i : Nat, i < nn → -9223372036854775808 ≤ (zPm nn d a L q) (178 + k) i ∧ (zPm nn d a L q) (178 + k) i < 9223372036854775808) : zCt G M_X_multiplyByPlain (zR 3 0 0 71) [.ref B, .ref (B + (97 + 5 * c)), .ref (B + (97 + 5 * d)), .ref (B + a)] sz (zsys G B kd n t zz ch md tc tg pt L w0) (zdet none (zsys G B kd n t zz ch md tc tg (zpu pt (97 + 5 * c) q) (zSt nn c (zPm nn d a L q) q) w0) sz) := by
  subst hnn
  refine V_iconst d_X_multiplyByPlain_0 ?_
  refine V_istore d_X_multiplyByPlain_1 (by decide) ?_
  refine zfor q (fun i => V G M_X_multiplyByPlain (zdet none (zsys G B kd nn t zz ch md tc tg (zpu pt (97 + 5 * c) q) (zSt nn c (zPm nn d a L q) q) w0) sz) (zR 3 0 0 71) 0 0 sz 3 [(0, .ref B), (1, .ref (B + (97 + 5 * c))), (2, .ref (B + (97 + 5 * d))), (3, .ref (B + a)), (4, .int (Int32.ofInt (i : Int)))] [] (zsys G B kd nn t zz ch md tc tg pt (zPm nn d a L i) w0)) ?_ (fun i hi ih => ?_) 0 (Nat.zero_le q)
  · skip
    refine V_iload d_X_multiplyByPlain_3 rfl ?_
    refine V_aload_n d_X_multiplyByPlain_5 rfl ?_
    refine V_getf d_X_multiplyByPlain_6 ff_X_197 (zsys_at (by omega) (zlay_cip hd)) rfl ?_
    refine J_icmp_ge 51 d_X_multiplyByPlain_9 (by decide) (by omega) (by rw [hpt]; omega) (fun c_9 => ?_) (fun c_9 => absurd c_9 (by rw [hpt]; omega))
    refine V_aload_n d_X_multiplyByPlain_51 rfl ?_
    refine V_aload_n d_X_multiplyByPlain_52 rfl ?_
    refine V_aload_n d_X_multiplyByPlain_53 rfl ?_
    refine V_getf d_X_multiplyByPlain_54 ff_X_197 (zsys_at (by omega) (zlay_cip hd)) rfl ?_
    rw [hpt]
    refine V_callV (n := 2) d_X_multiplyByPlain_57 g_X_274 rfl zsys_x0 rfl (c_storeSums G _ B kd nn t zz ch md tc tg pt (zPm nn d a L q) w0 nn rfl hn c q hc (by omega) hR) ⟨co_X_storeSums, by decide +kernel, Nat.le_of_ble_eq_true rfl⟩ ⟨Nat.le_of_ble_eq_true rfl, Nat.le_of_ble_eq_true rfl, Nat.le_of_ble_eq_true rfl, Nat.le_of_ble_eq_true rfl⟩ (Nat.le_of_ble_eq_true rfl) (fun r_57 w_57 s_57 q_57 => ?_) (fun _ _ _ q => False.elim q)
    obtain ⟨rfl, rfl, rfl⟩ := q_57
    exact V_return d_X_multiplyByPlain_60 rfl ⟨Nat.le_of_ble_eq_true rfl, Nat.le_of_ble_eq_true rfl⟩ ⟨rfl, rfl, rfl⟩
  · skip
    refine V_iload d_X_multiplyByPlain_3 rfl ?_
    refine V_aload_n d_X_multiplyByPlain_5 rfl ?_
    refine V_getf d_X_multiplyByPlain_6 ff_X_197 (zsys_at (by omega) (zlay_cip hd)) rfl ?_
    refine J_icmp_ge 51 d_X_multiplyByPlain_9 (by decide) (by omega) (by rw [hpt]; omega) (fun c_9 => absurd c_9 (by rw [hpt]; omega)) (fun c_9 => ?_)
    refine V_aload_n d_X_multiplyByPlain_12 rfl ?_
    refine V_getf d_X_multiplyByPlain_13 ff_X_42 zsys_x0 rfl ?_
    refine V_iload d_X_multiplyByPlain_16 rfl ?_
    refine J_aaload d_X_multiplyByPlain_18 (zsys_at (by decide) rfl) rfl rfl (by omega) (by decide) ((zel (a := fun k => B + (178 + k)) (show i < 3 by omega)).trans rfl : _ = some (B + (178 + i))) ?_
    refine J_lconst (z := 0) d_X_multiplyByPlain_19 rfl ?_
    refine V_callS (n := 2) d_X_multiplyByPlain_20 g_X_72 rfl (c_fill G _ _ (B + (178 + i)) 32 0 _ (zsys_row (zir_s (by omega))) (by decide)) ⟨co_Arrays_fill, by decide +kernel, Nat.le_of_ble_eq_true rfl⟩ ⟨Nat.le_of_ble_eq_true rfl, Nat.le_of_ble_eq_true rfl, Nat.le_of_ble_eq_true rfl, Nat.le_of_ble_eq_true rfl⟩ (Nat.le_of_ble_eq_true rfl) (fun r_20 w_20 s_20 q_20 => ?_) (fun _ _ _ q => False.elim q)
    obtain ⟨rfl, rfl, rfl⟩ := q_20
    refine V_w (zsys_lu (zir_s (by omega))) ?_
    refine V_aload_n d_X_multiplyByPlain_23 rfl ?_
    refine V_getf d_X_multiplyByPlain_24 ff_X_12 zsys_x0 rfl ?_
    refine V_aload_n d_X_multiplyByPlain_27 rfl ?_
    refine V_getf d_X_multiplyByPlain_28 ff_X_42 zsys_x0 rfl ?_
    refine V_iload d_X_multiplyByPlain_31 rfl ?_
    refine J_aaload d_X_multiplyByPlain_33 (zsys_at (by decide) rfl) rfl rfl (by omega) (by decide) ((zel (a := fun k => B + (178 + k)) (show i < 3 by omega)).trans rfl : _ = some (B + (178 + i))) ?_
    refine V_aload_n d_X_multiplyByPlain_34 rfl ?_
    refine V_aload_n d_X_multiplyByPlain_35 rfl ?_
    refine V_getf d_X_multiplyByPlain_36 ff_X_221 (zsys_at (by omega) (zlay_cip hd)) rfl ?_
    refine V_iload d_X_multiplyByPlain_39 rfl ?_
    refine J_aaload d_X_multiplyByPlain_41 (zsys_at (by omega) (zlay_cir hd)) rfl rfl (by omega) (by decide) ((zel (a := fun k => B + (97 + 5 * d + 1 + 1 + k)) (show i < 3 by omega)).trans rfl : _ = some (B + (97 + 5 * d + 1 + 1 + i))) ?_
    refine V_callV (n := 3) d_X_multiplyByPlain_42 g_X_154 rfl zsys_r rfl (c_addProduct G _ _ (B + 1) (B + 2) kd nn t zz (B + (178 + i)) (B + a) (B + (97 + 5 * d + 1 + 1 + i)) nn _ _ _ zsys_r (zsys_row (zir_s (by omega))) (zsys_row ha) (zsys_row (zir_c hd (by omega))) (by omega) (by omega) rfl hn) ⟨co_Ring_addProduct, by decide +kernel, Nat.le_of_ble_eq_true rfl⟩ ⟨Nat.le_of_ble_eq_true rfl, Nat.le_of_ble_eq_true rfl, Nat.le_of_ble_eq_true rfl, Nat.le_of_ble_eq_true rfl⟩ (Nat.le_of_ble_eq_true rfl) (fun r_42 w_42 s_42 q_42 => ?_) (fun _ _ _ q => False.elim q)
    obtain ⟨rfl, rfl, rfl⟩ := q_42
    refine V_w (zsys_lu (zir_s (by omega))) ?_
    refine J_iinc d_X_multiplyByPlain_45 rfl (by decide) ?_
    refine V_goto 3 d_X_multiplyByPlain_48 (by decide) ?_
    exact ih

set_option maxRecDepth 100000 in
set_option maxHeartbeats 4000000 in
theorem c_combine (G : zG) (sz B : Nat) (kd n t zz : Int) (ch : Int32) (md tc : Int) (tg pt : Nat → Int) (L : Nat → Int → Int) (w0 : zW) (nn : Nat) (hnn : n = (nn : Int)) (hn : nn ≤ 32) (c l r m : Nat) (f pl pr : Int) (hc : c < 16) (hl : l < 16) (hr : r < 16) (hpl : pt (97 + 5 * l) = pl) (hpr : pt (97 + 5 * r) = pr) (hb : 0 ≤ pl ∧ pl ≤ 3 ∧ 0 ≤ pr ∧ pr ≤ 3) (hm : (if pl < pr then pr else pl) = (m : Int)) (hm3 : m ≤ 3) (hR : ∀ k : Nat, k < m → ∀ i : Nat, i < nn → -9223372036854775808 ≤ (zCm nn l r pl pr f L m) (178 + k) i ∧ (zCm nn l r pl pr f L m) (178 + k) i < 9223372036854775808) : zCt G M_X_combine (zR 3 0 0 71) [.ref B, .ref (B + (97 + 5 * c)), .ref (B + (97 + 5 * l)), .ref (B + (97 + 5 * r)), .long (Int64.ofInt f)] sz (zsys G B kd n t zz ch md tc tg pt L w0) (zdet none (zsys G B kd n t zz ch md tc tg (zpu pt (97 + 5 * c) m) (zSt nn c (zCm nn l r pl pr f L m) m) w0) sz) := by
  subst hnn
  subst hpl
  subst hpr
  refine V_aload_n d_X_combine_0 rfl ?_
  refine V_getf d_X_combine_1 ff_X_197 (zsys_at (by omega) (zlay_cip hl)) rfl ?_
  refine V_aload_n d_X_combine_4 rfl ?_
  refine V_getf d_X_combine_5 ff_X_197 (zsys_at (by omega) (zlay_cip hr)) rfl ?_
  refine V_callS (n := 2) d_X_combine_8 g_X_271 rfl (c_maxI G _ _ (pt (97 + 5 * l)) (pt (97 + 5 * r)) (by omega) (by omega)) ⟨co_Math_max_II, by decide +kernel, Nat.le_of_ble_eq_true rfl⟩ ⟨Nat.le_of_ble_eq_true rfl, Nat.le_of_ble_eq_true rfl, Nat.le_of_ble_eq_true rfl, Nat.le_of_ble_eq_true rfl⟩ (Nat.le_of_ble_eq_true rfl) (fun r_8 w_8 s_8 q_8 => ?_) (fun _ _ _ q => False.elim q)
  obtain ⟨rfl, rfl, rfl⟩ := q_8
  rw [hm]
  refine V_istore d_X_combine_11 (by decide) ?_
  refine V_iconst d_X_combine_13 ?_
  refine V_istore d_X_combine_14 (by decide) ?_
  refine zfor m (fun i => V G M_X_combine (zdet none (zsys G B kd nn t zz ch md tc tg (zpu pt (97 + 5 * c) m) (zSt nn c (zCm nn l r (pt (97 + 5 * l)) (pt (97 + 5 * r)) f L m) m) w0) sz) (zR 3 0 0 71) 0 0 sz 16 [(0, .ref B), (1, .ref (B + (97 + 5 * c))), (2, .ref (B + (97 + 5 * l))), (3, .ref (B + (97 + 5 * r))), (4, .long (Int64.ofInt f)), (6, .int (Int32.ofInt (m : Int))), (7, .int (Int32.ofInt (i : Int)))] [] (zsys G B kd nn t zz ch md tc tg pt (zCm nn l r (pt (97 + 5 * l)) (pt (97 + 5 * r)) f L i) w0)) ?_ (fun i hi ih => ?_) 0 (Nat.zero_le m)
  · skip
    refine V_iload d_X_combine_16 rfl ?_
    refine V_iload d_X_combine_18 rfl ?_
    refine J_icmp_ge 103 d_X_combine_20 (by decide) (by omega) (by omega) (fun c_20 => ?_) (fun c_20 => absurd c_20 (by omega))
    refine V_aload_n d_X_combine_103 rfl ?_
    refine V_aload_n d_X_combine_104 rfl ?_
    refine V_iload d_X_combine_105 rfl ?_
    refine V_callV (n := 2) d_X_combine_107 g_X_274 rfl zsys_x0 rfl (c_storeSums G _ B kd nn t zz ch md tc tg pt (zCm nn l r (pt (97 + 5 * l)) (pt (97 + 5 * r)) f L m) w0 nn rfl hn c m hc (by omega) hR) ⟨co_X_storeSums, by decide +kernel, Nat.le_of_ble_eq_true rfl⟩ ⟨Nat.le_of_ble_eq_true rfl, Nat.le_of_ble_eq_true rfl, Nat.le_of_ble_eq_true rfl, Nat.le_of_ble_eq_true rfl⟩ (Nat.le_of_ble_eq_true rfl) (fun r_107 w_107 s_107 q_107 => ?_) (fun _ _ _ q => False.elim q)
    obtain ⟨rfl, rfl, rfl⟩ := q_107
    exact V_return d_X_combine_110 rfl ⟨Nat.le_of_ble_eq_true rfl, Nat.le_of_ble_eq_true rfl⟩ ⟨rfl, rfl, rfl⟩
  · skip
    refine V_iload d_X_combine_16 rfl ?_
    refine V_iload d_X_combine_18 rfl ?_
    refine J_icmp_ge 103 d_X_combine_20 (by decide) (by omega) (by omega) (fun c_20 => absurd c_20 (by omega)) (fun c_20 => ?_)
    refine V_aload_n d_X_combine_23 rfl ?_
    refine V_getf d_X_combine_24 ff_X_42 zsys_x0 rfl ?_
    refine V_iload d_X_combine_27 rfl ?_
    refine J_aaload d_X_combine_29 (zsys_at (by decide) rfl) rfl rfl (by omega) (by decide) ((zel (a := fun k => B + (178 + k)) (show i < 3 by omega)).trans rfl : _ = some (B + (178 + i))) ?_
    refine J_lconst (z := 0) d_X_combine_30 rfl ?_
    refine V_callS (n := 2) d_X_combine_31 g_X_72 rfl (c_fill G _ _ (B + (178 + i)) 32 0 _ (zsys_row (zir_s (by omega))) (by decide)) ⟨co_Arrays_fill, by decide +kernel, Nat.le_of_ble_eq_true rfl⟩ ⟨Nat.le_of_ble_eq_true rfl, Nat.le_of_ble_eq_true rfl, Nat.le_of_ble_eq_true rfl, Nat.le_of_ble_eq_true rfl⟩ (Nat.le_of_ble_eq_true rfl) (fun r_31 w_31 s_31 q_31 => ?_) (fun _ _ _ q => False.elim q)
    obtain ⟨rfl, rfl, rfl⟩ := q_31
    refine V_w (zsys_lu (zir_s (by omega))) ?_
    refine V_iload d_X_combine_34 rfl ?_
    refine V_aload_n d_X_combine_36 rfl ?_
    refine V_getf d_X_combine_37 ff_X_197 (zsys_at (by omega) (zlay_cip hl)) rfl ?_
    refine J_icmp_ge 65 d_X_combine_40 (by decide) (by omega) (by omega) (fun c_40 => ?_) (fun c_40 => ?_)
    · skip
      refine V_iload d_X_combine_65 rfl ?_
      refine V_aload_n d_X_combine_67 rfl ?_
      refine V_getf d_X_combine_68 ff_X_197 (zsys_at (by omega) (zlay_cip hr)) rfl ?_
      refine J_icmp_ge 97 d_X_combine_71 (by decide) (by omega) (by omega) (fun c_71 => ?_) (fun c_71 => ?_)
      · skip
        refine J_iinc d_X_combine_97 rfl (by decide) ?_
        refine V_goto 16 d_X_combine_100 (by decide) ?_
        exact V_w (by rw [zCm_nn c_40 c_71]; rfl) ih
      · skip
        refine V_aload_n d_X_combine_74 rfl ?_
        refine V_getf d_X_combine_75 ff_X_12 zsys_x0 rfl ?_
        refine V_aload_n d_X_combine_78 rfl ?_
        refine V_getf d_X_combine_79 ff_X_42 zsys_x0 rfl ?_
        refine V_iload d_X_combine_82 rfl ?_
        refine J_aaload d_X_combine_84 (zsys_at (by decide) rfl) rfl rfl (by omega) (by decide) ((zel (a := fun k => B + (178 + k)) (show i < 3 by omega)).trans rfl : _ = some (B + (178 + i))) ?_
        refine V_aload_n d_X_combine_85 rfl ?_
        refine V_getf d_X_combine_86 ff_X_221 (zsys_at (by omega) (zlay_cip hr)) rfl ?_
        refine V_iload d_X_combine_89 rfl ?_
        refine J_aaload d_X_combine_91 (zsys_at (by omega) (zlay_cir hr)) rfl rfl (by omega) (by decide) ((zel (a := fun k => B + (97 + 5 * r + 1 + 1 + k)) (show i < 3 by omega)).trans rfl : _ = some (B + (97 + 5 * r + 1 + 1 + i))) ?_
        refine V_lload d_X_combine_92 rfl ?_
        refine V_callV (n := 3) d_X_combine_94 g_X_162 rfl zsys_r rfl (c_addScaled G _ _ (B + 1) (B + 2) kd nn t zz (B + (178 + i)) (B + (97 + 5 * r + 1 + 1 + i)) f _ _ zsys_r (zsys_row (zir_s (by omega))) (zsys_row (zir_c hr (by omega))) (by omega) (by omega)) ⟨co_Ring_addScaled, by decide +kernel, Nat.le_of_ble_eq_true rfl⟩ ⟨Nat.le_of_ble_eq_true rfl, Nat.le_of_ble_eq_true rfl, Nat.le_of_ble_eq_true rfl, Nat.le_of_ble_eq_true rfl⟩ (Nat.le_of_ble_eq_true rfl) (fun r_94 w_94 s_94 q_94 => ?_) (fun _ _ _ q => False.elim q)
        obtain ⟨rfl, rfl, rfl⟩ := q_94
        refine V_w (zsys_lu (zir_s (by omega))) ?_
        refine J_iinc d_X_combine_97 rfl (by decide) ?_
        refine V_goto 16 d_X_combine_100 (by decide) ?_
        exact V_w (by rw [zCm_np c_40 c_71]; rfl) ih
    · skip
      refine V_aload_n d_X_combine_43 rfl ?_
      refine V_getf d_X_combine_44 ff_X_12 zsys_x0 rfl ?_
      refine V_aload_n d_X_combine_47 rfl ?_
      refine V_getf d_X_combine_48 ff_X_42 zsys_x0 rfl ?_
      refine V_iload d_X_combine_51 rfl ?_
      refine J_aaload d_X_combine_53 (zsys_at (by decide) rfl) rfl rfl (by omega) (by decide) ((zel (a := fun k => B + (178 + k)) (show i < 3 by omega)).trans rfl : _ = some (B + (178 + i))) ?_
      refine V_aload_n d_X_combine_54 rfl ?_
      refine V_getf d_X_combine_55 ff_X_221 (zsys_at (by omega) (zlay_cip hl)) rfl ?_
      refine V_iload d_X_combine_58 rfl ?_
      refine J_aaload d_X_combine_60 (zsys_at (by omega) (zlay_cir hl)) rfl rfl (by omega) (by decide) ((zel (a := fun k => B + (97 + 5 * l + 1 + 1 + k)) (show i < 3 by omega)).trans rfl : _ = some (B + (97 + 5 * l + 1 + 1 + i))) ?_
      refine J_lconst (z := 1) d_X_combine_61 rfl ?_
      refine V_callV (n := 3) d_X_combine_62 g_X_162 rfl zsys_r rfl (c_addScaled G _ _ (B + 1) (B + 2) kd nn t zz (B + (178 + i)) (B + (97 + 5 * l + 1 + 1 + i)) 1 _ _ zsys_r (zsys_row (zir_s (by omega))) (zsys_row (zir_c hl (by omega))) (by omega) (by omega)) ⟨co_Ring_addScaled, by decide +kernel, Nat.le_of_ble_eq_true rfl⟩ ⟨Nat.le_of_ble_eq_true rfl, Nat.le_of_ble_eq_true rfl, Nat.le_of_ble_eq_true rfl, Nat.le_of_ble_eq_true rfl⟩ (Nat.le_of_ble_eq_true rfl) (fun r_62 w_62 s_62 q_62 => ?_) (fun _ _ _ q => False.elim q)
      obtain ⟨rfl, rfl, rfl⟩ := q_62
      refine V_w (zsys_lu (zir_s (by omega))) ?_
      refine V_iload d_X_combine_65 rfl ?_
      refine V_aload_n d_X_combine_67 rfl ?_
      refine V_getf d_X_combine_68 ff_X_197 (zsys_at (by omega) (zlay_cip hr)) rfl ?_
      refine J_icmp_ge 97 d_X_combine_71 (by decide) (by omega) (by omega) (fun c_71 => ?_) (fun c_71 => ?_)
      · skip
        refine J_iinc d_X_combine_97 rfl (by decide) ?_
        refine V_goto 16 d_X_combine_100 (by decide) ?_
        exact V_w (by rw [zCm_pn c_40 c_71]; rfl) ih
      · skip
        refine V_aload_n d_X_combine_74 rfl ?_
        refine V_getf d_X_combine_75 ff_X_12 zsys_x0 rfl ?_
        refine V_aload_n d_X_combine_78 rfl ?_
        refine V_getf d_X_combine_79 ff_X_42 zsys_x0 rfl ?_
        refine V_iload d_X_combine_82 rfl ?_
        refine J_aaload d_X_combine_84 (zsys_at (by decide) rfl) rfl rfl (by omega) (by decide) ((zel (a := fun k => B + (178 + k)) (show i < 3 by omega)).trans rfl : _ = some (B + (178 + i))) ?_
        refine V_aload_n d_X_combine_85 rfl ?_
        refine V_getf d_X_combine_86 ff_X_221 (zsys_at (by omega) (zlay_cip hr)) rfl ?_
        refine V_iload d_X_combine_89 rfl ?_
        refine J_aaload d_X_combine_91 (zsys_at (by omega) (zlay_cir hr)) rfl rfl (by omega) (by decide) ((zel (a := fun k => B + (97 + 5 * r + 1 + 1 + k)) (show i < 3 by omega)).trans rfl : _ = some (B + (97 + 5 * r + 1 + 1 + i))) ?_
        refine V_lload d_X_combine_92 rfl ?_
        refine V_callV (n := 3) d_X_combine_94 g_X_162 rfl zsys_r rfl (c_addScaled G _ _ (B + 1) (B + 2) kd nn t zz (B + (178 + i)) (B + (97 + 5 * r + 1 + 1 + i)) f _ _ zsys_r (zsys_row (zir_s (by omega))) (zsys_row (zir_c hr (by omega))) (by omega) (by omega)) ⟨co_Ring_addScaled, by decide +kernel, Nat.le_of_ble_eq_true rfl⟩ ⟨Nat.le_of_ble_eq_true rfl, Nat.le_of_ble_eq_true rfl, Nat.le_of_ble_eq_true rfl, Nat.le_of_ble_eq_true rfl⟩ (Nat.le_of_ble_eq_true rfl) (fun r_94 w_94 s_94 q_94 => ?_) (fun _ _ _ q => False.elim q)
        obtain ⟨rfl, rfl, rfl⟩ := q_94
        refine V_w (zsys_lu (zir_s (by omega))) ?_
        refine J_iinc d_X_combine_97 rfl (by decide) ?_
        refine V_goto 16 d_X_combine_100 (by decide) ?_
        exact V_w (by rw [zCm_pp c_40 c_71]; rfl) ih
end
section
/-- one outcome, one world; at most one thing made -/
def zOut (o : Option Value ⊕ String) (w' : zW) (sz' : Nat) : zK := (fun o1 w1 s1 => o = o1 ∧ w' = w1 ∧ sz' = s1, 1, 6)

set_option maxRecDepth 100000 in
set_option maxHeartbeats 4000000 in
theorem c_multiply (G : zG) (sz B : Nat) (kd n t zz : Int) (ch : Int32) (md tc : Int) (tg pt : Nat → Int) (L : Nat → Int → Int) (w0 : zW) (nn : Nat) (hnn : n = (nn : Int)) (hn : nn ≤ 32) (c l r : Nat) (hc : c < 16) (hl : l < 16) (hr : r < 16) (ht : 1 < t ∧ t ≤ 1000) (hL : ∀ q : Nat, q < 2 → ∀ i : Nat, i < nn → -9223372036854775808 ≤ L (97 + 5 * l + 1 + 1 + q) i ∧ L (97 + 5 * l + 1 + 1 + q) i < 9223372036854775808) (hR2 : ∀ q : Nat, q < 2 → ∀ i : Nat, i < nn → -9223372036854775808 ≤ L (97 + 5 * r + 1 + 1 + q) i ∧ L (97 + 5 * r + 1 + 1 + q) i < 9223372036854775808) (hM : ∀ k : Nat, k < 3 → ∀ i : Nat, i < nn → -4611686018427387904 ≤ zMp nn l r L (178 + k) i ∧ zMp nn l r L (178 + k) i ≤ 4611686018427387904) (hR : ∀ k : Nat, k < 3 → ∀ i : Nat, i < nn → -9223372036854775808 ≤ (zTs nn t (zMp nn l r L) 3) (178 + k) i ∧ (zTs nn t (zMp nn l r L) 3) (178 + k) i < 9223372036854775808) : zCt G M_X_multiply (zR 3 0 0 71) [.ref B, .ref (B + (97 + 5 * c)), .ref (B + (97 + 5 * l)), .ref (B + (97 + 5 * r))] sz (zsys G B kd n t zz ch md tc tg pt L w0) (zdet none (zsys G B kd n t zz ch md tc tg (zpu pt (97 + 5 * c) 3) (zSt nn c (zTs nn t (zMp nn l r L) 3) 3) w0) sz) := by
  subst hnn
  refine V_aload_n d_X_multiply_0 rfl ?_
  refine V_getf d_X_multiply_1 ff_X_12 zsys_x0 rfl ?_
  refine V_aload_n d_X_multiply_4 rfl ?_
  refine V_getf d_X_multiply_5 ff_X_45 zsys_x0 rfl ?_
  refine V_iconst d_X_multiply_8 ?_
  refine J_aaload d_X_multiply_9 (zsys_at (by decide) rfl) rfl rfl (by omega) (by decide) (show _ = some (B + (182 + 0)) from rfl) ?_
  refine V_aload_n d_X_multiply_10 rfl ?_
  refine V_getf d_X_multiply_11 ff_X_221 (zsys_at (by omega) (zlay_cip hl)) rfl ?_
  refine V_iconst d_X_multiply_14 ?_
  refine J_aaload d_X_multiply_15 (zsys_at (by omega) (zlay_cir hl)) rfl rfl (by omega) (by decide) (show _ = some (B + (97 + 5 * l + 1 + 1 + 0)) from rfl) ?_
  refine V_callV (n := 2) d_X_multiply_16 g_X_278 rfl zsys_r rfl (c_centre G _ _ (B + 1) (B + 2) kd nn t zz (B + (182 + 0)) (B + (97 + 5 * l + 1 + 1 + 0)) nn _ _ zsys_r (zsys_row (zir_w (by decide))) (zsys_row (zir_c hl (by decide))) (by omega) rfl hn (fun j hj => hL 0 (by decide) j hj)) ⟨co_Ring_centre, by decide +kernel, Nat.le_of_ble_eq_true rfl⟩ ⟨Nat.le_of_ble_eq_true rfl, Nat.le_of_ble_eq_true rfl, Nat.le_of_ble_eq_true rfl, Nat.le_of_ble_eq_true rfl⟩ (Nat.le_of_ble_eq_true rfl) (fun r_16 w_16 s_16 q_16 => ?_) (fun _ _ _ q => False.elim q)
  obtain ⟨rfl, rfl, rfl⟩ := q_16
  refine V_w (zsys_lu (zir_w (by decide))) ?_
  refine V_aload_n d_X_multiply_19 rfl ?_
  refine V_getf d_X_multiply_20 ff_X_12 zsys_x0 rfl ?_
  refine V_aload_n d_X_multiply_23 rfl ?_
  refine V_getf d_X_multiply_24 ff_X_45 zsys_x0 rfl ?_
  refine V_iconst d_X_multiply_27 ?_
  refine J_aaload d_X_multiply_28 (zsys_at (by decide) rfl) rfl rfl (by omega) (by decide) (show _ = some (B + (182 + 1)) from rfl) ?_
  refine V_aload_n d_X_multiply_29 rfl ?_
  refine V_getf d_X_multiply_30 ff_X_221 (zsys_at (by omega) (zlay_cip hl)) rfl ?_
  refine V_iconst d_X_multiply_33 ?_
  refine J_aaload d_X_multiply_34 (zsys_at (by omega) (zlay_cir hl)) rfl rfl (by omega) (by decide) (show _ = some (B + (97 + 5 * l + 1 + 1 + 1)) from rfl) ?_
  refine V_callV (n := 2) d_X_multiply_35 g_X_278 rfl zsys_r rfl (c_centre G _ _ (B + 1) (B + 2) kd nn t zz (B + (182 + 1)) (B + (97 + 5 * l + 1 + 1 + 1)) nn _ _ zsys_r (zsys_row (zir_w (by decide))) (zsys_row (zir_c hl (by decide))) (by omega) rfl hn (fun j hj => by rw [zlu_n (by omega)]; exact hL 1 (by decide) j hj)) ⟨co_Ring_centre, by decide +kernel, Nat.le_of_ble_eq_true rfl⟩ ⟨Nat.le_of_ble_eq_true rfl, Nat.le_of_ble_eq_true rfl, Nat.le_of_ble_eq_true rfl, Nat.le_of_ble_eq_true rfl⟩ (Nat.le_of_ble_eq_true rfl) (fun r_35 w_35 s_35 q_35 => ?_) (fun _ _ _ q => False.elim q)
  obtain ⟨rfl, rfl, rfl⟩ := q_35
  refine V_w (zsys_lu (zir_w (by decide))) ?_
  refine V_aload_n d_X_multiply_38 rfl ?_
  refine V_getf d_X_multiply_39 ff_X_12 zsys_x0 rfl ?_
  refine V_aload_n d_X_multiply_42 rfl ?_
  refine V_getf d_X_multiply_43 ff_X_45 zsys_x0 rfl ?_
  refine V_iconst d_X_multiply_46 ?_
  refine J_aaload d_X_multiply_47 (zsys_at (by decide) rfl) rfl rfl (by omega) (by decide) (show _ = some (B + (182 + 2)) from rfl) ?_
  refine V_aload_n d_X_multiply_48 rfl ?_
  refine V_getf d_X_multiply_49 ff_X_221 (zsys_at (by omega) (zlay_cip hr)) rfl ?_
  refine V_iconst d_X_multiply_52 ?_
  refine J_aaload d_X_multiply_53 (zsys_at (by omega) (zlay_cir hr)) rfl rfl (by omega) (by decide) (show _ = some (B + (97 + 5 * r + 1 + 1 + 0)) from rfl) ?_
  refine V_callV (n := 2) d_X_multiply_54 g_X_278 rfl zsys_r rfl (c_centre G _ _ (B + 1) (B + 2) kd nn t zz (B + (182 + 2)) (B + (97 + 5 * r + 1 + 1 + 0)) nn _ _ zsys_r (zsys_row (zir_w (by decide))) (zsys_row (zir_c hr (by decide))) (by omega) rfl hn (fun j hj => by rw [zlu_n (by omega), zlu_n (by omega)]; exact hR2 0 (by decide) j hj)) ⟨co_Ring_centre, by decide +kernel, Nat.le_of_ble_eq_true rfl⟩ ⟨Nat.le_of_ble_eq_true rfl, Nat.le_of_ble_eq_true rfl, Nat.le_of_ble_eq_true rfl, Nat.le_of_ble_eq_true rfl⟩ (Nat.le_of_ble_eq_true rfl) (fun r_54 w_54 s_54 q_54 => ?_) (fun _ _ _ q => False.elim q)
  obtain ⟨rfl, rfl, rfl⟩ := q_54
  refine V_w (zsys_lu (zir_w (by decide))) ?_
  refine V_aload_n d_X_multiply_57 rfl ?_
  refine V_getf d_X_multiply_58 ff_X_12 zsys_x0 rfl ?_
  refine V_aload_n d_X_multiply_61 rfl ?_
  refine V_getf d_X_multiply_62 ff_X_45 zsys_x0 rfl ?_
  refine V_iconst d_X_multiply_65 ?_
  refine J_aaload d_X_multiply_66 (zsys_at (by decide) rfl) rfl rfl (by omega) (by decide) (show _ = some (B + (182 + 3)) from rfl) ?_
  refine V_aload_n d_X_multiply_67 rfl ?_
  refine V_getf d_X_multiply_68 ff_X_221 (zsys_at (by omega) (zlay_cip hr)) rfl ?_
  refine V_iconst d_X_multiply_71 ?_
  refine J_aaload d_X_multiply_72 (zsys_at (by omega) (zlay_cir hr)) rfl rfl (by omega) (by decide) (show _ = some (B + (97 + 5 * r + 1 + 1 + 1)) from rfl) ?_
  refine V_callV (n := 2) d_X_multiply_73 g_X_278 rfl zsys_r rfl (c_centre G _ _ (B + 1) (B + 2) kd nn t zz (B + (182 + 3)) (B + (97 + 5 * r + 1 + 1 + 1)) nn _ _ zsys_r (zsys_row (zir_w (by decide))) (zsys_row (zir_c hr (by decide))) (by omega) rfl hn (fun j hj => by rw [zlu_n (by omega), zlu_n (by omega), zlu_n (by omega)]; exact hR2 1 (by decide) j hj)) ⟨co_Ring_centre, by decide +kernel, Nat.le_of_ble_eq_true rfl⟩ ⟨Nat.le_of_ble_eq_true rfl, Nat.le_of_ble_eq_true rfl, Nat.le_of_ble_eq_true rfl, Nat.le_of_ble_eq_true rfl⟩ (Nat.le_of_ble_eq_true rfl) (fun r_73 w_73 s_73 q_73 => ?_) (fun _ _ _ q => False.elim q)
  obtain ⟨rfl, rfl, rfl⟩ := q_73
  refine V_w (zsys_lu (zir_w (by decide))) ?_
  refine V_iconst d_X_multiply_76 ?_
  refine V_istore d_X_multiply_77 (by decide) ?_
  refine zfor 3 (fun k => V G M_X_multiply (zdet none (zsys G B kd nn t zz ch md tc tg (zpu pt (97 + 5 * c) 3) (zSt nn c (zTs nn t (zMp nn l r L) 3) 3) w0) sz) (zR 3 0 0 71) 0 0 sz 79 [(0, .ref B), (1, .ref (B + (97 + 5 * c))), (2, .ref (B + (97 + 5 * l))), (3, .ref (B + (97 + 5 * r))), (4, .int (Int32.ofInt (k : Int)))] [] (zsys G B kd nn t zz ch md tc tg pt (zFs (zMc nn l r L) k) w0)) ?_ (fun k hk ih => ?_) 0 (Nat.zero_le 3)
  · skip
    refine V_iload d_X_multiply_79 rfl ?_
    refine V_iconst d_X_multiply_81 ?_
    refine J_icmp_ge 102 d_X_multiply_82 (by decide) (by omega) (by omega) (fun c_82 => ?_) (fun c_82 => absurd c_82 (by omega))
    refine V_aload_n d_X_multiply_102 rfl ?_
    refine V_getf d_X_multiply_103 ff_X_12 zsys_x0 rfl ?_
    refine V_aload_n d_X_multiply_106 rfl ?_
    refine V_getf d_X_multiply_107 ff_X_42 zsys_x0 rfl ?_
    refine V_iconst d_X_multiply_110 ?_
    refine J_aaload d_X_multiply_111 (zsys_at (by decide) rfl) rfl rfl (by omega) (by decide) (show _ = some (B + (178 + 0)) from rfl) ?_
    refine V_aload_n d_X_multiply_112 rfl ?_
    refine V_getf d_X_multiply_113 ff_X_45 zsys_x0 rfl ?_
    refine V_iconst d_X_multiply_116 ?_
    refine J_aaload d_X_multiply_117 (zsys_at (by decide) rfl) rfl rfl (by omega) (by decide) (show _ = some (B + (182 + 0)) from rfl) ?_
    refine V_aload_n d_X_multiply_118 rfl ?_
    refine V_getf d_X_multiply_119 ff_X_45 zsys_x0 rfl ?_
    refine V_iconst d_X_multiply_122 ?_
    refine J_aaload d_X_multiply_123 (zsys_at (by decide) rfl) rfl rfl (by omega) (by decide) (show _ = some (B + (182 + 2)) from rfl) ?_
    refine V_callV (n := 3) d_X_multiply_124 g_X_154 rfl zsys_r rfl (c_addProduct G _ _ (B + 1) (B + 2) kd nn t zz (B + (178 + 0)) (B + (182 + 0)) (B + (182 + 2)) nn _ _ _ zsys_r (zsys_row (zir_s (by decide))) (zsys_row (zir_w (by decide))) (zsys_row (zir_w (by decide))) (by omega) (by omega) rfl hn) ⟨co_Ring_addProduct, by decide +kernel, Nat.le_of_ble_eq_true rfl⟩ ⟨Nat.le_of_ble_eq_true rfl, Nat.le_of_ble_eq_true rfl, Nat.le_of_ble_eq_true rfl, Nat.le_of_ble_eq_true rfl⟩ (Nat.le_of_ble_eq_true rfl) (fun r_124 w_124 s_124 q_124 => ?_) (fun _ _ _ q => False.elim q)
    obtain ⟨rfl, rfl, rfl⟩ := q_124
    refine V_w (zsys_lu (zir_s (by decide))) ?_
    refine V_aload_n d_X_multiply_127 rfl ?_
    refine V_getf d_X_multiply_128 ff_X_12 zsys_x0 rfl ?_
    refine V_aload_n d_X_multiply_131 rfl ?_
    refine V_getf d_X_multiply_132 ff_X_42 zsys_x0 rfl ?_
    refine V_iconst d_X_multiply_135 ?_
    refine J_aaload d_X_multiply_136 (zsys_at (by decide) rfl) rfl rfl (by omega) (by decide) (show _ = some (B + (178 + 1)) from rfl) ?_
    refine V_aload_n d_X_multiply_137 rfl ?_
    refine V_getf d_X_multiply_138 ff_X_45 zsys_x0 rfl ?_
    refine V_iconst d_X_multiply_141 ?_
    refine J_aaload d_X_multiply_142 (zsys_at (by decide) rfl) rfl rfl (by omega) (by decide) (show _ = some (B + (182 + 0)) from rfl) ?_
    refine V_aload_n d_X_multiply_143 rfl ?_
    refine V_getf d_X_multiply_144 ff_X_45 zsys_x0 rfl ?_
    refine V_iconst d_X_multiply_147 ?_
    refine J_aaload d_X_multiply_148 (zsys_at (by decide) rfl) rfl rfl (by omega) (by decide) (show _ = some (B + (182 + 3)) from rfl) ?_
    refine V_callV (n := 3) d_X_multiply_149 g_X_154 rfl zsys_r rfl (c_addProduct G _ _ (B + 1) (B + 2) kd nn t zz (B + (178 + 1)) (B + (182 + 0)) (B + (182 + 3)) nn _ _ _ zsys_r (zsys_row (zir_s (by decide))) (zsys_row (zir_w (by decide))) (zsys_row (zir_w (by decide))) (by omega) (by omega) rfl hn) ⟨co_Ring_addProduct, by decide +kernel, Nat.le_of_ble_eq_true rfl⟩ ⟨Nat.le_of_ble_eq_true rfl, Nat.le_of_ble_eq_true rfl, Nat.le_of_ble_eq_true rfl, Nat.le_of_ble_eq_true rfl⟩ (Nat.le_of_ble_eq_true rfl) (fun r_149 w_149 s_149 q_149 => ?_) (fun _ _ _ q => False.elim q)
    obtain ⟨rfl, rfl, rfl⟩ := q_149
    refine V_w (zsys_lu (zir_s (by decide))) ?_
    refine V_aload_n d_X_multiply_152 rfl ?_
    refine V_getf d_X_multiply_153 ff_X_12 zsys_x0 rfl ?_
    refine V_aload_n d_X_multiply_156 rfl ?_
    refine V_getf d_X_multiply_157 ff_X_42 zsys_x0 rfl ?_
    refine V_iconst d_X_multiply_160 ?_
    refine J_aaload d_X_multiply_161 (zsys_at (by decide) rfl) rfl rfl (by omega) (by decide) (show _ = some (B + (178 + 1)) from rfl) ?_
    refine V_aload_n d_X_multiply_162 rfl ?_
    refine V_getf d_X_multiply_163 ff_X_45 zsys_x0 rfl ?_
    refine V_iconst d_X_multiply_166 ?_
    refine J_aaload d_X_multiply_167 (zsys_at (by decide) rfl) rfl rfl (by omega) (by decide) (show _ = some (B + (182 + 1)) from rfl) ?_
    refine V_aload_n d_X_multiply_168 rfl ?_
    refine V_getf d_X_multiply_169 ff_X_45 zsys_x0 rfl ?_
    refine V_iconst d_X_multiply_172 ?_
    refine J_aaload d_X_multiply_173 (zsys_at (by decide) rfl) rfl rfl (by omega) (by decide) (show _ = some (B + (182 + 2)) from rfl) ?_
    refine V_callV (n := 3) d_X_multiply_174 g_X_154 rfl zsys_r rfl (c_addProduct G _ _ (B + 1) (B + 2) kd nn t zz (B + (178 + 1)) (B + (182 + 1)) (B + (182 + 2)) nn _ _ _ zsys_r (zsys_row (zir_s (by decide))) (zsys_row (zir_w (by decide))) (zsys_row (zir_w (by decide))) (by omega) (by omega) rfl hn) ⟨co_Ring_addProduct, by decide +kernel, Nat.le_of_ble_eq_true rfl⟩ ⟨Nat.le_of_ble_eq_true rfl, Nat.le_of_ble_eq_true rfl, Nat.le_of_ble_eq_true rfl, Nat.le_of_ble_eq_true rfl⟩ (Nat.le_of_ble_eq_true rfl) (fun r_174 w_174 s_174 q_174 => ?_) (fun _ _ _ q => False.elim q)
    obtain ⟨rfl, rfl, rfl⟩ := q_174
    refine V_w (zsys_lu (zir_s (by decide))) ?_
    refine V_aload_n d_X_multiply_177 rfl ?_
    refine V_getf d_X_multiply_178 ff_X_12 zsys_x0 rfl ?_
    refine V_aload_n d_X_multiply_181 rfl ?_
    refine V_getf d_X_multiply_182 ff_X_42 zsys_x0 rfl ?_
    refine V_iconst d_X_multiply_185 ?_
    refine J_aaload d_X_multiply_186 (zsys_at (by decide) rfl) rfl rfl (by omega) (by decide) (show _ = some (B + (178 + 2)) from rfl) ?_
    refine V_aload_n d_X_multiply_187 rfl ?_
    refine V_getf d_X_multiply_188 ff_X_45 zsys_x0 rfl ?_
    refine V_iconst d_X_multiply_191 ?_
    refine J_aaload d_X_multiply_192 (zsys_at (by decide) rfl) rfl rfl (by omega) (by decide) (show _ = some (B + (182 + 1)) from rfl) ?_
    refine V_aload_n d_X_multiply_193 rfl ?_
    refine V_getf d_X_multiply_194 ff_X_45 zsys_x0 rfl ?_
    refine V_iconst d_X_multiply_197 ?_
    refine J_aaload d_X_multiply_198 (zsys_at (by decide) rfl) rfl rfl (by omega) (by decide) (show _ = some (B + (182 + 3)) from rfl) ?_
    refine V_callV (n := 3) d_X_multiply_199 g_X_154 rfl zsys_r rfl (c_addProduct G _ _ (B + 1) (B + 2) kd nn t zz (B + (178 + 2)) (B + (182 + 1)) (B + (182 + 3)) nn _ _ _ zsys_r (zsys_row (zir_s (by decide))) (zsys_row (zir_w (by decide))) (zsys_row (zir_w (by decide))) (by omega) (by omega) rfl hn) ⟨co_Ring_addProduct, by decide +kernel, Nat.le_of_ble_eq_true rfl⟩ ⟨Nat.le_of_ble_eq_true rfl, Nat.le_of_ble_eq_true rfl, Nat.le_of_ble_eq_true rfl, Nat.le_of_ble_eq_true rfl⟩ (Nat.le_of_ble_eq_true rfl) (fun r_199 w_199 s_199 q_199 => ?_) (fun _ _ _ q => False.elim q)
    obtain ⟨rfl, rfl, rfl⟩ := q_199
    refine V_w (zsys_lu (zir_s (by decide))) ?_
    refine V_iconst d_X_multiply_202 ?_
    refine V_istore d_X_multiply_203 (by decide) ?_
    refine V_lo [0, 1, 2, 3, 4] rfl ?_
    refine zfor 3 (fun k => V G M_X_multiply (zdet none (zsys G B kd nn t zz ch md tc tg (zpu pt (97 + 5 * c) 3) (zSt nn c (zTs nn t (zMp nn l r L) 3) 3) w0) sz) (zR 3 0 0 71) 0 0 sz 205 [(0, .ref B), (1, .ref (B + (97 + 5 * c))), (2, .ref (B + (97 + 5 * l))), (3, .ref (B + (97 + 5 * r))), (4, .int (Int32.ofInt (k : Int)))] [] (zsys G B kd nn t zz ch md tc tg pt (zTs nn t (zMp nn l r L) k) w0)) ?_ (fun k hk ih => ?_) 0 (Nat.zero_le 3)
    · skip
      refine V_iload d_X_multiply_205 rfl ?_
      refine V_iconst d_X_multiply_207 ?_
      refine J_icmp_ge 265 d_X_multiply_208 (by decide) (by omega) (by omega) (fun c_208 => ?_) (fun c_208 => absurd c_208 (by omega))
      refine V_aload_n d_X_multiply_265 rfl ?_
      refine V_aload_n d_X_multiply_266 rfl ?_
      refine V_iconst d_X_multiply_267 ?_
      refine V_callV (n := 2) d_X_multiply_268 g_X_274 rfl zsys_x0 rfl (c_storeSums G _ B kd nn t zz ch md tc tg pt (zTs nn t (zMp nn l r L) 3) w0 nn rfl hn c 3 hc (by omega) hR) ⟨co_X_storeSums, by decide +kernel, Nat.le_of_ble_eq_true rfl⟩ ⟨Nat.le_of_ble_eq_true rfl, Nat.le_of_ble_eq_true rfl, Nat.le_of_ble_eq_true rfl, Nat.le_of_ble_eq_true rfl⟩ (Nat.le_of_ble_eq_true rfl) (fun r_268 w_268 s_268 q_268 => ?_) (fun _ _ _ q => False.elim q)
      obtain ⟨rfl, rfl, rfl⟩ := q_268
      exact V_return d_X_multiply_271 rfl ⟨Nat.le_of_ble_eq_true rfl, Nat.le_of_ble_eq_true rfl⟩ ⟨rfl, rfl, rfl⟩
    · have hX : ∀ i : Nat, i < nn → -4611686018427387904 ≤ zTs nn t (zMp nn l r L) k (178 + k) i ∧ zTs nn t (zMp nn l r L) k (178 + k) i ≤ 4611686018427387904 := fun i hi => by rw [zTs_o k (fun i hi => by omega)]; exact hM k hk i hi
      refine V_iload d_X_multiply_205 rfl ?_
      refine V_iconst d_X_multiply_207 ?_
      refine J_icmp_ge 265 d_X_multiply_208 (by decide) (by omega) (by omega) (fun c_208 => absurd c_208 (by omega)) (fun c_208 => ?_)
      refine V_iconst d_X_multiply_211 ?_
      refine V_istore d_X_multiply_212 (by decide) ?_
      refine V_w (w' := (zsys G B kd nn t zz ch md tc tg pt (zlu (zTs nn t (zMp nn l r L) k) (178 + k) (zif ((0 : Nat) : Int) (fun i => zts t ((zTs nn t (zMp nn l r L) k) (178 + k) i)) ((zTs nn t (zMp nn l r L) k) (178 + k)))) w0)) (by rw [show ((0 : Nat) : Int) = 0 from rfl, zif_0, ← zsys_lu (zir_s hk), zset_self (zsys_row (zir_s hk))]) ?_
      refine zfor nn (fun i => V G M_X_multiply (zdet none (zsys G B kd nn t zz ch md tc tg (zpu pt (97 + 5 * c) 3) (zSt nn c (zTs nn t (zMp nn l r L) 3) 3) w0) sz) (zR 3 0 0 71) 0 0 sz 214 [(0, .ref B), (1, .ref (B + (97 + 5 * c))), (2, .ref (B + (97 + 5 * l))), (3, .ref (B + (97 + 5 * r))), (4, .int (Int32.ofInt (k : Int))), (5, .int (Int32.ofInt (i : Int)))] [] (zsys G B kd nn t zz ch md tc tg pt (zlu (zTs nn t (zMp nn l r L) k) (178 + k) (zif (i : Int) (fun i => zts t ((zTs nn t (zMp nn l r L) k) (178 + k) i)) ((zTs nn t (zMp nn l r L) k) (178 + k)))) w0)) ?_ (fun i hi ih2 => ?_) 0 (Nat.zero_le nn)
      · skip
        refine V_iload d_X_multiply_214 rfl ?_
        refine V_aload_n d_X_multiply_216 rfl ?_
        refine V_getf d_X_multiply_217 ff_X_12 zsys_x0 rfl ?_
        refine V_getf d_X_multiply_220 ff_X_78 zsys_r rfl ?_
        refine J_icmp_ge 259 d_X_multiply_223 (by decide) (by omega) (by omega) (fun c_223 => ?_) (fun c_223 => absurd c_223 (by omega))
        refine J_iinc d_X_multiply_259 rfl (by decide) ?_
        refine V_goto 205 d_X_multiply_262 (by decide) ?_
        exact V_lo [0, 1, 2, 3, 4] rfl ih
      · skip
        refine V_iload d_X_multiply_214 rfl ?_
        refine V_aload_n d_X_multiply_216 rfl ?_
        refine V_getf d_X_multiply_217 ff_X_12 zsys_x0 rfl ?_
        refine V_getf d_X_multiply_220 ff_X_78 zsys_r rfl ?_
        refine J_icmp_ge 259 d_X_multiply_223 (by decide) (by omega) (by omega) (fun c_223 => absurd c_223 (by omega)) (fun c_223 => ?_)
        refine V_aload_n d_X_multiply_226 rfl ?_
        refine V_getf d_X_multiply_227 ff_X_42 zsys_x0 rfl ?_
        refine V_iload d_X_multiply_230 rfl ?_
        refine J_aaload d_X_multiply_232 (zsys_at (by decide) rfl) rfl rfl (by omega) (by decide) ((zel (a := fun k => B + (178 + k)) hk).trans rfl : _ = some (B + (178 + k))) ?_
        refine V_iload d_X_multiply_233 rfl ?_
        refine V_aload_n d_X_multiply_235 rfl ?_
        refine V_getf d_X_multiply_236 ff_X_12 zsys_x0 rfl ?_
        refine V_aload_n d_X_multiply_239 rfl ?_
        refine V_getf d_X_multiply_240 ff_X_42 zsys_x0 rfl ?_
        refine V_iload d_X_multiply_243 rfl ?_
        refine J_aaload d_X_multiply_245 (zsys_at (by decide) rfl) rfl rfl (by omega) (by decide) ((zel (a := fun k => B + (178 + k)) hk).trans rfl : _ = some (B + (178 + k))) ?_
        refine V_iload d_X_multiply_246 rfl ?_
        refine J_laload d_X_multiply_248 (zsys_row (zir_s (show k < 3 by omega))) (by omega) (by decide) ?_
        rw [zlu_s, zif_r (show ¬ (0 ≤ (i : Int) ∧ (i : Int) < i) by omega)]
        refine V_callV (n := 1) d_X_multiply_249 g_X_180 rfl zsys_r rfl (c_timesTOverQ G _ _ (B + 1) (B + 2) kd nn t zz ((zTs nn t (zMp nn l r L) k) (178 + k) i) zsys_r ht (hX i hi)) ⟨co_Ring_timesTOverQ, by decide +kernel, Nat.le_of_ble_eq_true rfl⟩ ⟨Nat.le_of_ble_eq_true rfl, Nat.le_of_ble_eq_true rfl, Nat.le_of_ble_eq_true rfl, Nat.le_of_ble_eq_true rfl⟩ (Nat.le_of_ble_eq_true rfl) (fun r_249 w_249 s_249 q_249 => ?_) (fun _ _ _ q => False.elim q)
        obtain ⟨rfl, rfl, rfl⟩ := q_249
        refine J_lastore d_X_multiply_252 (zsys_row (zir_s (show k < 3 by omega))) (by omega) (by decide) ?_
        refine J_iinc d_X_multiply_253 rfl (by decide) ?_
        refine V_goto 214 d_X_multiply_256 (by decide) ?_
        exact V_w (by rw [zsys_lu (zir_s hk), zlu_s, zif_s (by omega) rfl, zlu_lu]; rfl) ih2
  · skip
    refine V_iload d_X_multiply_79 rfl ?_
    refine V_iconst d_X_multiply_81 ?_
    refine J_icmp_ge 102 d_X_multiply_82 (by decide) (by omega) (by omega) (fun c_82 => absurd c_82 (by omega)) (fun c_82 => ?_)
    refine V_aload_n d_X_multiply_85 rfl ?_
    refine V_getf d_X_multiply_86 ff_X_42 zsys_x0 rfl ?_
    refine V_iload d_X_multiply_89 rfl ?_
    refine J_aaload d_X_multiply_91 (zsys_at (by decide) rfl) rfl rfl (by omega) (by decide) ((zel (a := fun k => B + (178 + k)) hk).trans rfl : _ = some (B + (178 + k))) ?_
    refine J_lconst (z := 0) d_X_multiply_92 rfl ?_
    refine V_callS (n := 2) d_X_multiply_93 g_X_72 rfl (c_fill G _ _ (B + (178 + k)) 32 0 _ (zsys_row (zir_s hk)) (by decide)) ⟨co_Arrays_fill, by decide +kernel, Nat.le_of_ble_eq_true rfl⟩ ⟨Nat.le_of_ble_eq_true rfl, Nat.le_of_ble_eq_true rfl, Nat.le_of_ble_eq_true rfl, Nat.le_of_ble_eq_true rfl⟩ (Nat.le_of_ble_eq_true rfl) (fun r_93 w_93 s_93 q_93 => ?_) (fun _ _ _ q => False.elim q)
    obtain ⟨rfl, rfl, rfl⟩ := q_93
    refine V_w (zsys_lu (zir_s hk)) ?_
    refine J_iinc d_X_multiply_96 rfl (by decide) ?_
    refine V_goto 79 d_X_multiply_99 (by decide) ?_
    exact ih

set_option maxRecDepth 100000 in
set_option maxHeartbeats 4000000 in
theorem c_plainAt_no (G : zG) (sz B : Nat) (kd n t zz : Int) (ch : Int32) (md tc : Int) (tg pt : Nat → Int) (L : Nat → Int → Int) (w0 : zW) (p : Int) (hp : -2147483648 ≤ p ∧ p < 2147483648) (hb : p < 0 ∨ 8 ≤ p) : zCt G M_X_plainAt (zR 6 1 6 96) [.ref B, .int (Int32.ofInt p)] sz (zsys G B kd n t zz ch md tc tg pt L w0) (zOut (.inr zNSE) (zsys G B kd n t zz ch md tc tg pt L w0) (sz + 1)) := by
  by_cases h0 : p < 0
  · skip
    refine V_iload_n d_X_plainAt_0 rfl ?_
    refine J_if_lt 10 d_X_plainAt_1 (by decide) (by omega) (fun c_1 => ?_) (fun c_1 => absurd c_1 (by omega))
    exact V_throwN (tx := "no such plain") d_X_plainAt_10 d_X_plainAt_13 (Or.inr ⟨d_X_plainAt_14, rfl⟩) d_X_plainAt_17 d_X_plainAt_20 rfl (by decide) rfl (Nat.le_of_ble_eq_true rfl) (Nat.le_of_ble_eq_true rfl) (Nat.le_of_ble_eq_true rfl) (Nat.le_of_ble_eq_true rfl) ⟨Nat.le_of_ble_eq_true rfl, Nat.le_of_ble_eq_true rfl⟩ ⟨rfl, rfl, rfl⟩
  · skip
    refine V_iload_n d_X_plainAt_0 rfl ?_
    refine J_if_lt 10 d_X_plainAt_1 (by decide) (by omega) (fun c_1 => absurd c_1 (by omega)) (fun c_1 => ?_)
    refine V_iload_n d_X_plainAt_4 rfl ?_
    refine J_bipush d_X_plainAt_5 (by decide) ?_
    refine J_icmp_lt 21 d_X_plainAt_7 (by decide) (by omega) (by omega) (fun c_7 => absurd c_7 (by omega)) (fun c_7 => ?_)
    exact V_throwN (tx := "no such plain") d_X_plainAt_10 d_X_plainAt_13 (Or.inr ⟨d_X_plainAt_14, rfl⟩) d_X_plainAt_17 d_X_plainAt_20 rfl (by decide) rfl (Nat.le_of_ble_eq_true rfl) (Nat.le_of_ble_eq_true rfl) (Nat.le_of_ble_eq_true rfl) (Nat.le_of_ble_eq_true rfl) ⟨Nat.le_of_ble_eq_true rfl, Nat.le_of_ble_eq_true rfl⟩ ⟨rfl, rfl, rfl⟩

set_option maxRecDepth 100000 in
set_option maxHeartbeats 4000000 in
theorem c_plainAt (G : zG) (sz B : Nat) (kd n t zz : Int) (ch : Int32) (md tc : Int) (tg pt : Nat → Int) (L : Nat → Int → Int) (w0 : zW) (p : Nat) (hp : p < 8) : zCt G M_X_plainAt (zR 6 1 6 96) [.ref B, .int (Int32.ofInt (p : Int))] sz (zsys G B kd n t zz ch md tc tg pt L w0) (zdet (some (.ref (B + (88 + p)))) (zsys G B kd n t zz ch md tc tg pt L w0) sz) := by
  refine V_iload_n d_X_plainAt_0 rfl ?_
  refine J_if_lt 10 d_X_plainAt_1 (by decide) (by omega) (fun c_1 => absurd c_1 (by omega)) (fun c_1 => ?_)
  refine V_iload_n d_X_plainAt_4 rfl ?_
  refine J_bipush d_X_plainAt_5 (by decide) ?_
  refine J_icmp_lt 21 d_X_plainAt_7 (by decide) (by omega) (by omega) (fun c_7 => ?_) (fun c_7 => absurd c_7 (by omega))
  refine V_aload_n d_X_plainAt_21 rfl ?_
  refine V_getf d_X_plainAt_22 ff_X_32 zsys_x0 rfl ?_
  refine V_iload_n d_X_plainAt_25 rfl ?_
  refine J_aaload d_X_plainAt_26 (zsys_at (by decide) rfl) rfl rfl (by omega) (by decide) ((zel (a := fun k => B + (88 + k)) hp).trans rfl : _ = some (B + (88 + p))) ?_
  exact V_areturn d_X_plainAt_27 rfl (Or.inr ⟨_, rfl⟩) ⟨Nat.le_of_ble_eq_true rfl, Nat.le_of_ble_eq_true rfl⟩ ⟨rfl, rfl, rfl⟩

set_option maxRecDepth 100000 in
set_option maxHeartbeats 4000000 in
theorem c_placeAt_no (G : zG) (sz B : Nat) (kd n t zz : Int) (ch : Int32) (md tc : Int) (tg pt : Nat → Int) (L : Nat → Int → Int) (w0 : zW) (p : Int) (hp : -2147483648 ≤ p ∧ p < 2147483648) (hb : p < 0 ∨ 16 ≤ p) : zCt G M_X_placeAt (zR 6 1 6 96) [.ref B, .int (Int32.ofInt p)] sz (zsys G B kd n t zz ch md tc tg pt L w0) (zOut (.inr zNSE) (zsys G B kd n t zz ch md tc tg pt L w0) (sz + 1)) := by
  by_cases h0 : p < 0
  · skip
    refine V_iload_n d_X_placeAt_0 rfl ?_
    refine J_if_lt 10 d_X_placeAt_1 (by decide) (by omega) (fun c_1 => ?_) (fun c_1 => absurd c_1 (by omega))
    exact V_throwN (tx := "no such cipher") d_X_placeAt_10 d_X_placeAt_13 (Or.inr ⟨d_X_placeAt_14, rfl⟩) d_X_placeAt_17 d_X_placeAt_20 rfl (by decide) rfl (Nat.le_of_ble_eq_true rfl) (Nat.le_of_ble_eq_true rfl) (Nat.le_of_ble_eq_true rfl) (Nat.le_of_ble_eq_true rfl) ⟨Nat.le_of_ble_eq_true rfl, Nat.le_of_ble_eq_true rfl⟩ ⟨rfl, rfl, rfl⟩
  · skip
    refine V_iload_n d_X_placeAt_0 rfl ?_
    refine J_if_lt 10 d_X_placeAt_1 (by decide) (by omega) (fun c_1 => absurd c_1 (by omega)) (fun c_1 => ?_)
    refine V_iload_n d_X_placeAt_4 rfl ?_
    refine J_bipush d_X_placeAt_5 (by decide) ?_
    refine J_icmp_lt 21 d_X_placeAt_7 (by decide) (by omega) (by omega) (fun c_7 => absurd c_7 (by omega)) (fun c_7 => ?_)
    exact V_throwN (tx := "no such cipher") d_X_placeAt_10 d_X_placeAt_13 (Or.inr ⟨d_X_placeAt_14, rfl⟩) d_X_placeAt_17 d_X_placeAt_20 rfl (by decide) rfl (Nat.le_of_ble_eq_true rfl) (Nat.le_of_ble_eq_true rfl) (Nat.le_of_ble_eq_true rfl) (Nat.le_of_ble_eq_true rfl) ⟨Nat.le_of_ble_eq_true rfl, Nat.le_of_ble_eq_true rfl⟩ ⟨rfl, rfl, rfl⟩

set_option maxRecDepth 100000 in
set_option maxHeartbeats 4000000 in
theorem c_placeAt (G : zG) (sz B : Nat) (kd n t zz : Int) (ch : Int32) (md tc : Int) (tg pt : Nat → Int) (L : Nat → Int → Int) (w0 : zW) (p : Nat) (hp : p < 16) : zCt G M_X_placeAt (zR 6 1 6 96) [.ref B, .int (Int32.ofInt (p : Int))] sz (zsys G B kd n t zz ch md tc tg pt L w0) (zdet (some (.ref (B + (97 + 5 * p)))) (zsys G B kd n t zz ch md tc tg pt L w0) sz) := by
  refine V_iload_n d_X_placeAt_0 rfl ?_
  refine J_if_lt 10 d_X_placeAt_1 (by decide) (by omega) (fun c_1 => absurd c_1 (by omega)) (fun c_1 => ?_)
  refine V_iload_n d_X_placeAt_4 rfl ?_
  refine J_bipush d_X_placeAt_5 (by decide) ?_
  refine J_icmp_lt 21 d_X_placeAt_7 (by decide) (by omega) (by omega) (fun c_7 => ?_) (fun c_7 => absurd c_7 (by omega))
  refine V_aload_n d_X_placeAt_21 rfl ?_
  refine V_getf d_X_placeAt_22 ff_X_37 zsys_x0 rfl ?_
  refine V_iload_n d_X_placeAt_25 rfl ?_
  refine J_aaload d_X_placeAt_26 (zsys_at (by decide) rfl) rfl rfl (by omega) (by decide) ((zel (a := fun k => B + (97 + 5 * k)) hp).trans rfl : _ = some (B + (97 + 5 * p))) ?_
  exact V_areturn d_X_placeAt_27 rfl (Or.inl ⟨_, rfl⟩) ⟨Nat.le_of_ble_eq_true rfl, Nat.le_of_ble_eq_true rfl⟩ ⟨rfl, rfl, rfl⟩

set_option maxRecDepth 100000 in
set_option maxHeartbeats 4000000 in
theorem c_takenAt_no (G : zG) (sz B : Nat) (kd n t zz : Int) (ch : Int32) (md tc : Int) (tg pt : Nat → Int) (L : Nat → Int → Int) (w0 : zW) (p : Int) (hp : -2147483648 ≤ p ∧ p < 2147483648) (hb : p < 0 ∨ 16 ≤ p) : zCt G M_X_takenAt (zR 7 1 6 117) [.ref B, .int (Int32.ofInt p)] sz (zsys G B kd n t zz ch md tc tg pt L w0) (zOut (.inr zNSE) (zsys G B kd n t zz ch md tc tg pt L w0) (sz + 1)) := by
  refine V_aload_n d_X_takenAt_0 rfl ?_
  refine V_iload_n d_X_takenAt_1 rfl ?_
  refine V_callV (n := 1) d_X_takenAt_2 g_X_139 rfl zsys_x0 rfl (c_placeAt_no G _ B kd n t zz ch md tc tg pt L w0 p hp hb) ⟨co_X_placeAt, by decide +kernel, Nat.le_of_ble_eq_true rfl⟩ ⟨Nat.le_of_ble_eq_true rfl, Nat.le_of_ble_eq_true rfl, Nat.le_of_ble_eq_true rfl, Nat.le_of_ble_eq_true rfl⟩ (Nat.le_of_ble_eq_true rfl) (fun r_2 w_2 s_2 q_2 => ?_) (fun _ _ _ q => ⟨⟨Nat.le_of_ble_eq_true rfl, Nat.le_of_ble_eq_true rfl⟩, q⟩)
  cases q_2.1

set_option maxRecDepth 100000 in
set_option maxHeartbeats 4000000 in
theorem c_takenAt_em (G : zG) (sz B : Nat) (kd n t zz : Int) (ch : Int32) (md tc : Int) (tg pt : Nat → Int) (L : Nat → Int → Int) (w0 : zW) (p : Nat) (hp : p < 16) (hpt : pt (97 + 5 * p) = 0) : zCt G M_X_takenAt (zR 7 1 6 117) [.ref B, .int (Int32.ofInt (p : Int))] sz (zsys G B kd n t zz ch md tc tg pt L w0) (zOut (.inr zNSE) (zsys G B kd n t zz ch md tc tg pt L w0) (sz + 1)) := by
  refine V_aload_n d_X_takenAt_0 rfl ?_
  refine V_iload_n d_X_takenAt_1 rfl ?_
  refine V_callV (n := 1) d_X_takenAt_2 g_X_139 rfl zsys_x0 rfl (c_placeAt G _ B kd n t zz ch md tc tg pt L w0 p hp) ⟨co_X_placeAt, by decide +kernel, Nat.le_of_ble_eq_true rfl⟩ ⟨Nat.le_of_ble_eq_true rfl, Nat.le_of_ble_eq_true rfl, Nat.le_of_ble_eq_true rfl, Nat.le_of_ble_eq_true rfl⟩ (Nat.le_of_ble_eq_true rfl) (fun r_2 w_2 s_2 q_2 => ?_) (fun _ _ _ q => False.elim q)
  obtain ⟨rfl, rfl, rfl⟩ := q_2
  refine V_astore_n d_X_takenAt_5 (by decide) ?_
  refine V_aload_n d_X_takenAt_6 rfl ?_
  refine V_getf d_X_takenAt_7 ff_X_197 (zsys_at (by omega) (zlay_cip hp)) rfl ?_
  refine J_if_ne 24 d_X_takenAt_10 (by decide) (by omega) (fun c_10 => absurd hpt c_10) (fun c_10 => ?_)
  exact V_throwN (tx := "an empty cipher") d_X_takenAt_13 d_X_takenAt_16 (Or.inr ⟨d_X_takenAt_17, rfl⟩) d_X_takenAt_20 d_X_takenAt_23 rfl (by decide) rfl (Nat.le_of_ble_eq_true rfl) (Nat.le_of_ble_eq_true rfl) (Nat.le_of_ble_eq_true rfl) (Nat.le_of_ble_eq_true rfl) ⟨Nat.le_of_ble_eq_true rfl, Nat.le_of_ble_eq_true rfl⟩ ⟨rfl, rfl, rfl⟩

set_option maxRecDepth 100000 in
set_option maxHeartbeats 4000000 in
theorem c_takenAt (G : zG) (sz B : Nat) (kd n t zz : Int) (ch : Int32) (md tc : Int) (tg pt : Nat → Int) (L : Nat → Int → Int) (w0 : zW) (p : Nat) (hp : p < 16) (hb : 0 < pt (97 + 5 * p) ∧ pt (97 + 5 * p) ≤ 3) : zCt G M_X_takenAt (zR 7 1 6 117) [.ref B, .int (Int32.ofInt (p : Int))] sz (zsys G B kd n t zz ch md tc tg pt L w0) (zdet (some (.ref (B + (97 + 5 * p)))) (zsys G B kd n t zz ch md tc tg pt L w0) sz) := by
  refine V_aload_n d_X_takenAt_0 rfl ?_
  refine V_iload_n d_X_takenAt_1 rfl ?_
  refine V_callV (n := 1) d_X_takenAt_2 g_X_139 rfl zsys_x0 rfl (c_placeAt G _ B kd n t zz ch md tc tg pt L w0 p hp) ⟨co_X_placeAt, by decide +kernel, Nat.le_of_ble_eq_true rfl⟩ ⟨Nat.le_of_ble_eq_true rfl, Nat.le_of_ble_eq_true rfl, Nat.le_of_ble_eq_true rfl, Nat.le_of_ble_eq_true rfl⟩ (Nat.le_of_ble_eq_true rfl) (fun r_2 w_2 s_2 q_2 => ?_) (fun _ _ _ q => False.elim q)
  obtain ⟨rfl, rfl, rfl⟩ := q_2
  refine V_astore_n d_X_takenAt_5 (by decide) ?_
  refine V_aload_n d_X_takenAt_6 rfl ?_
  refine V_getf d_X_takenAt_7 ff_X_197 (zsys_at (by omega) (zlay_cip hp)) rfl ?_
  refine J_if_ne 24 d_X_takenAt_10 (by decide) (by omega) (fun c_10 => ?_) (fun c_10 => absurd c_10 (by omega))
  refine V_aload_n d_X_takenAt_24 rfl ?_
  exact V_areturn d_X_takenAt_25 rfl (Or.inl ⟨_, rfl⟩) ⟨Nat.le_of_ble_eq_true rfl, Nat.le_of_ble_eq_true rfl⟩ ⟨rfl, rfl, rfl⟩

set_option maxRecDepth 100000 in
set_option maxHeartbeats 4000000 in
theorem c_checkC_no (G : zG) (sz B : Nat) (kd n t zz : Int) (ch : Int32) (md tc : Int) (tg pt : Nat → Int) (L : Nat → Int → Int) (w0 : zW) (p : Int) (hp : -2147483648 ≤ p ∧ p < 2147483648) (hn : 0 ≤ n ∧ n ≤ 32) (hb : p < 0 ∨ n ≤ p) : zCt G M_X_checkCoefficient (zR 6 1 6 96) [.ref B, .int (Int32.ofInt p)] sz (zsys G B kd n t zz ch md tc tg pt L w0) (zOut (.inr zNSE) (zsys G B kd n t zz ch md tc tg pt L w0) (sz + 1)) := by
  by_cases h0 : p < 0
  · skip
    refine V_iload_n d_X_checkCoefficient_0 rfl ?_
    refine J_if_lt 15 d_X_checkCoefficient_1 (by decide) (by omega) (fun c_1 => ?_) (fun c_1 => absurd c_1 (by omega))
    exact V_throwN (tx := "no such coefficient") d_X_checkCoefficient_15 d_X_checkCoefficient_18 (Or.inr ⟨d_X_checkCoefficient_19, rfl⟩) d_X_checkCoefficient_22 d_X_checkCoefficient_25 rfl (by decide) rfl (Nat.le_of_ble_eq_true rfl) (Nat.le_of_ble_eq_true rfl) (Nat.le_of_ble_eq_true rfl) (Nat.le_of_ble_eq_true rfl) ⟨Nat.le_of_ble_eq_true rfl, Nat.le_of_ble_eq_true rfl⟩ ⟨rfl, rfl, rfl⟩
  · skip
    refine V_iload_n d_X_checkCoefficient_0 rfl ?_
    refine J_if_lt 15 d_X_checkCoefficient_1 (by decide) (by omega) (fun c_1 => absurd c_1 (by omega)) (fun c_1 => ?_)
    refine V_iload_n d_X_checkCoefficient_4 rfl ?_
    refine V_aload_n d_X_checkCoefficient_5 rfl ?_
    refine V_getf d_X_checkCoefficient_6 ff_X_12 zsys_x0 rfl ?_
    refine V_getf d_X_checkCoefficient_9 ff_X_78 zsys_r rfl ?_
    refine J_icmp_lt 26 d_X_checkCoefficient_12 (by decide) (by omega) (by omega) (fun c_12 => absurd c_12 (by omega)) (fun c_12 => ?_)
    exact V_throwN (tx := "no such coefficient") d_X_checkCoefficient_15 d_X_checkCoefficient_18 (Or.inr ⟨d_X_checkCoefficient_19, rfl⟩) d_X_checkCoefficient_22 d_X_checkCoefficient_25 rfl (by decide) rfl (Nat.le_of_ble_eq_true rfl) (Nat.le_of_ble_eq_true rfl) (Nat.le_of_ble_eq_true rfl) (Nat.le_of_ble_eq_true rfl) ⟨Nat.le_of_ble_eq_true rfl, Nat.le_of_ble_eq_true rfl⟩ ⟨rfl, rfl, rfl⟩

set_option maxRecDepth 100000 in
set_option maxHeartbeats 4000000 in
theorem c_checkC (G : zG) (sz B : Nat) (kd n t zz : Int) (ch : Int32) (md tc : Int) (tg pt : Nat → Int) (L : Nat → Int → Int) (w0 : zW) (p : Int) (hn : n ≤ 32) (hp : 0 ≤ p ∧ p < n) : zCt G M_X_checkCoefficient (zR 6 1 6 96) [.ref B, .int (Int32.ofInt p)] sz (zsys G B kd n t zz ch md tc tg pt L w0) (zdet none (zsys G B kd n t zz ch md tc tg pt L w0) sz) := by
  refine V_iload_n d_X_checkCoefficient_0 rfl ?_
  refine J_if_lt 15 d_X_checkCoefficient_1 (by decide) (by omega) (fun c_1 => absurd c_1 (by omega)) (fun c_1 => ?_)
  refine V_iload_n d_X_checkCoefficient_4 rfl ?_
  refine V_aload_n d_X_checkCoefficient_5 rfl ?_
  refine V_getf d_X_checkCoefficient_6 ff_X_12 zsys_x0 rfl ?_
  refine V_getf d_X_checkCoefficient_9 ff_X_78 zsys_r rfl ?_
  refine J_icmp_lt 26 d_X_checkCoefficient_12 (by decide) (by omega) (by omega) (fun c_12 => ?_) (fun c_12 => absurd c_12 (by omega))
  exact V_return d_X_checkCoefficient_26 rfl ⟨Nat.le_of_ble_eq_true rfl, Nat.le_of_ble_eq_true rfl⟩ ⟨rfl, rfl, rfl⟩
end
