-- ===== PART A: goes FIRST, ahead of the names: the tables' words, and 'selects' of the private methods out of them =====
/-- a private method of a class that the tables say can be made, by its rows of tables_1 -/
def lw_okq (q : MethodName × Nat) : Prop := (q.1.cls ≠ "java/lang/invoke/MethodHandle" ∧ q.1.cls ≠ "java/lang/invoke/VarHandle") ∧ Cond.instantiable q.1.cls q.2 ∈ tables_1 ∧ Cond.privateMethod q.1 ∈ tables_1 ∧ Cond.instanceMethod q.1 ∈ tables_1
theorem lw_p0 : lw_okq (⟨"RingCipher$Ring", "choose", "(I)V"⟩, 5) := ⟨⟨by decide +kernel, by decide +kernel⟩, List.mem_of_getElem? (i := 27) (by decide +kernel), List.mem_of_getElem? (i := 33) (by decide +kernel), List.mem_of_getElem? (i := 34) (by decide +kernel)⟩
theorem lw_p1 : lw_okq (⟨"RingCipher$Ring", "leastRoot", "()I"⟩, 5) := ⟨⟨by decide +kernel, by decide +kernel⟩, List.mem_of_getElem? (i := 27) (by decide +kernel), List.mem_of_getElem? (i := 41) (by decide +kernel), List.mem_of_getElem? (i := 42) (by decide +kernel)⟩
theorem lw_p2 : lw_okq (⟨"RingCipher$Ring", "powerModT", "(JI)J"⟩, 5) := ⟨⟨by decide +kernel, by decide +kernel⟩, List.mem_of_getElem? (i := 27) (by decide +kernel), List.mem_of_getElem? (i := 45) (by decide +kernel), List.mem_of_getElem? (i := 46) (by decide +kernel)⟩
theorem lw_p3 : lw_okq (⟨"RingCipher$KeyRing", "renew", "(LRingCipher$Ring;LRingCipher$Chance;)V"⟩, 10) := ⟨⟨by decide +kernel, by decide +kernel⟩, List.mem_of_getElem? (i := 81) (by decide +kernel), List.mem_of_getElem? (i := 192) (by decide +kernel), List.mem_of_getElem? (i := 193) (by decide +kernel)⟩
theorem lw_p4 : lw_okq (⟨"RingCipher$Chance", "fillTernary", "([JI)V"⟩, 1) := ⟨⟨by decide +kernel, by decide +kernel⟩, List.mem_of_getElem? (i := 71) (by decide +kernel), List.mem_of_getElem? (i := 196) (by decide +kernel), List.mem_of_getElem? (i := 197) (by decide +kernel)⟩
theorem lw_p5 : lw_okq (⟨"RingCipher$Chance", "draw", "()I"⟩, 1) := ⟨⟨by decide +kernel, by decide +kernel⟩, List.mem_of_getElem? (i := 71) (by decide +kernel), List.mem_of_getElem? (i := 200) (by decide +kernel), List.mem_of_getElem? (i := 201) (by decide +kernel)⟩
theorem lw_p6 : lw_okq (⟨"RingCipher$Ring", "addProduct", "([J[J[J)V"⟩, 5) := ⟨⟨by decide +kernel, by decide +kernel⟩, List.mem_of_getElem? (i := 27) (by decide +kernel), List.mem_of_getElem? (i := 209) (by decide +kernel), List.mem_of_getElem? (i := 210) (by decide +kernel)⟩
theorem lw_p7 : lw_okq (⟨"RingCipher$KeyRing", "makeMask", "(LRingCipher$Ring;LRingCipher$Chance;[J)V"⟩, 10) := ⟨⟨by decide +kernel, by decide +kernel⟩, List.mem_of_getElem? (i := 81) (by decide +kernel), List.mem_of_getElem? (i := 213) (by decide +kernel), List.mem_of_getElem? (i := 214) (by decide +kernel)⟩
theorem lw_p8 : lw_okq (⟨"RingCipher$Chance", "fillUniform", "([JI)V"⟩, 1) := ⟨⟨by decide +kernel, by decide +kernel⟩, List.mem_of_getElem? (i := 71) (by decide +kernel), List.mem_of_getElem? (i := 217) (by decide +kernel), List.mem_of_getElem? (i := 218) (by decide +kernel)⟩
theorem lw_p9 : lw_okq (⟨"RingCipher$Chance", "fillErrors", "([JI)V"⟩, 1) := ⟨⟨by decide +kernel, by decide +kernel⟩, List.mem_of_getElem? (i := 71) (by decide +kernel), List.mem_of_getElem? (i := 223) (by decide +kernel), List.mem_of_getElem? (i := 224) (by decide +kernel)⟩
theorem lw_p10 : lw_okq (⟨"RingCipher$KeyRing", "hideBody", "(LRingCipher$Ring;[J)V"⟩, 10) := ⟨⟨by decide +kernel, by decide +kernel⟩, List.mem_of_getElem? (i := 81) (by decide +kernel), List.mem_of_getElem? (i := 233) (by decide +kernel), List.mem_of_getElem? (i := 234) (by decide +kernel)⟩
theorem lw_p11 : lw_okq (⟨"RingCipher$KeyRing", "makeSwitch", "(LRingCipher$Ring;LRingCipher$Chance;LRingCipher$SwitchKey;[J)V"⟩, 10) := ⟨⟨by decide +kernel, by decide +kernel⟩, List.mem_of_getElem? (i := 81) (by decide +kernel), List.mem_of_getElem? (i := 241) (by decide +kernel), List.mem_of_getElem? (i := 242) (by decide +kernel)⟩
theorem lw_p12 : lw_okq (⟨"RingCipher$Ring", "addScaled", "([J[JJ)V"⟩, 5) := ⟨⟨by decide +kernel, by decide +kernel⟩, List.mem_of_getElem? (i := 27) (by decide +kernel), List.mem_of_getElem? (i := 245) (by decide +kernel), List.mem_of_getElem? (i := 246) (by decide +kernel)⟩
theorem lw_p13 : lw_okq (⟨"RingCipher", "emptyCiphers", "()V"⟩, 7) := ⟨⟨by decide +kernel, by decide +kernel⟩, List.mem_of_getElem? (i := 19) (by decide +kernel), List.mem_of_getElem? (i := 249) (by decide +kernel), List.mem_of_getElem? (i := 250) (by decide +kernel)⟩
theorem lw_p14 : lw_okq (⟨"RingCipher", "fullCiphers", "()I"⟩, 7) := ⟨⟨by decide +kernel, by decide +kernel⟩, List.mem_of_getElem? (i := 19) (by decide +kernel), List.mem_of_getElem? (i := 257) (by decide +kernel), List.mem_of_getElem? (i := 258) (by decide +kernel)⟩
theorem lw_p15 : lw_okq (⟨"RingCipher$Chance", "upperHalf", "()I"⟩, 1) := ⟨⟨by decide +kernel, by decide +kernel⟩, List.mem_of_getElem? (i := 71) (by decide +kernel), List.mem_of_getElem? (i := 261) (by decide +kernel), List.mem_of_getElem? (i := 262) (by decide +kernel)⟩
def lw_privs_1 : List (MethodName × Nat) := [(⟨"RingCipher$Ring", "choose", "(I)V"⟩, 5), (⟨"RingCipher$Ring", "leastRoot", "()I"⟩, 5), (⟨"RingCipher$Ring", "powerModT", "(JI)J"⟩, 5), (⟨"RingCipher$KeyRing", "renew", "(LRingCipher$Ring;LRingCipher$Chance;)V"⟩, 10), (⟨"RingCipher$Chance", "fillTernary", "([JI)V"⟩, 1), (⟨"RingCipher$Chance", "draw", "()I"⟩, 1), (⟨"RingCipher$Ring", "addProduct", "([J[J[J)V"⟩, 5), (⟨"RingCipher$KeyRing", "makeMask", "(LRingCipher$Ring;LRingCipher$Chance;[J)V"⟩, 10), (⟨"RingCipher$Chance", "fillUniform", "([JI)V"⟩, 1), (⟨"RingCipher$Chance", "fillErrors", "([JI)V"⟩, 1), (⟨"RingCipher$KeyRing", "hideBody", "(LRingCipher$Ring;[J)V"⟩, 10), (⟨"RingCipher$KeyRing", "makeSwitch", "(LRingCipher$Ring;LRingCipher$Chance;LRingCipher$SwitchKey;[J)V"⟩, 10), (⟨"RingCipher$Ring", "addScaled", "([J[JJ)V"⟩, 5), (⟨"RingCipher", "emptyCiphers", "()V"⟩, 7), (⟨"RingCipher", "fullCiphers", "()I"⟩, 7), (⟨"RingCipher$Chance", "upperHalf", "()I"⟩, 1)]
theorem lw_r1 : ∀ q ∈ lw_privs_1, lw_okq q := List.forall_mem_cons.mpr ⟨lw_p0, List.forall_mem_cons.mpr ⟨lw_p1, List.forall_mem_cons.mpr ⟨lw_p2, List.forall_mem_cons.mpr ⟨lw_p3, List.forall_mem_cons.mpr ⟨lw_p4, List.forall_mem_cons.mpr ⟨lw_p5, List.forall_mem_cons.mpr ⟨lw_p6, List.forall_mem_cons.mpr ⟨lw_p7, List.forall_mem_cons.mpr ⟨lw_p8, List.forall_mem_cons.mpr ⟨lw_p9, List.forall_mem_cons.mpr ⟨lw_p10, List.forall_mem_cons.mpr ⟨lw_p11, List.forall_mem_cons.mpr ⟨lw_p12, List.forall_mem_cons.mpr ⟨lw_p13, List.forall_mem_cons.mpr ⟨lw_p14, List.forall_mem_cons.mpr ⟨lw_p15, fun _ h => absurd h List.not_mem_nil⟩⟩⟩⟩⟩⟩⟩⟩⟩⟩⟩⟩⟩⟩⟩⟩
theorem lw_p16 : lw_okq (⟨"java/lang/Throwable", "fillInStackTrace", "(I)Ljava/lang/Throwable;"⟩, 6) := ⟨⟨by decide +kernel, by decide +kernel⟩, List.mem_of_getElem? (i := 312) (by decide +kernel), List.mem_of_getElem? (i := 310) (by decide +kernel), List.mem_of_getElem? (i := 311) (by decide +kernel)⟩
theorem lw_p17 : lw_okq (⟨"RingCipher$Chance", "restart", "(I)V"⟩, 1) := ⟨⟨by decide +kernel, by decide +kernel⟩, List.mem_of_getElem? (i := 71) (by decide +kernel), List.mem_of_getElem? (i := 343) (by decide +kernel), List.mem_of_getElem? (i := 344) (by decide +kernel)⟩
theorem lw_p18 : lw_okq (⟨"RingCipher$KeyRing", "forget", "()V"⟩, 10) := ⟨⟨by decide +kernel, by decide +kernel⟩, List.mem_of_getElem? (i := 81) (by decide +kernel), List.mem_of_getElem? (i := 347) (by decide +kernel), List.mem_of_getElem? (i := 348) (by decide +kernel)⟩
theorem lw_p19 : lw_okq (⟨"RingCipher$KeyRing", "placeOfTurn", "(I)I"⟩, 10) := ⟨⟨by decide +kernel, by decide +kernel⟩, List.mem_of_getElem? (i := 81) (by decide +kernel), List.mem_of_getElem? (i := 377) (by decide +kernel), List.mem_of_getElem? (i := 378) (by decide +kernel)⟩
theorem lw_p20 : lw_okq (⟨"RingCipher$KeyRing", "makeTurn", "(LRingCipher$Ring;LRingCipher$Chance;II)V"⟩, 10) := ⟨⟨by decide +kernel, by decide +kernel⟩, List.mem_of_getElem? (i := 81) (by decide +kernel), List.mem_of_getElem? (i := 382) (by decide +kernel), List.mem_of_getElem? (i := 383) (by decide +kernel)⟩
theorem lw_p21 : lw_okq (⟨"RingCipher$Ring", "substitute", "([J[JI)V"⟩, 5) := ⟨⟨by decide +kernel, by decide +kernel⟩, List.mem_of_getElem? (i := 27) (by decide +kernel), List.mem_of_getElem? (i := 386) (by decide +kernel), List.mem_of_getElem? (i := 387) (by decide +kernel)⟩
theorem lw_p22 : lw_okq (⟨"RingCipher", "plainAt", "(I)[J"⟩, 7) := ⟨⟨by decide +kernel, by decide +kernel⟩, List.mem_of_getElem? (i := 19) (by decide +kernel), List.mem_of_getElem? (i := 403) (by decide +kernel), List.mem_of_getElem? (i := 404) (by decide +kernel)⟩
theorem lw_p23 : lw_okq (⟨"RingCipher", "checkCoefficient", "(I)V"⟩, 7) := ⟨⟨by decide +kernel, by decide +kernel⟩, List.mem_of_getElem? (i := 19) (by decide +kernel), List.mem_of_getElem? (i := 423) (by decide +kernel), List.mem_of_getElem? (i := 424) (by decide +kernel)⟩
theorem lw_p24 : lw_okq (⟨"RingCipher$Ring", "evaluate", "([J[J)V"⟩, 5) := ⟨⟨by decide +kernel, by decide +kernel⟩, List.mem_of_getElem? (i := 27) (by decide +kernel), List.mem_of_getElem? (i := 445) (by decide +kernel), List.mem_of_getElem? (i := 446) (by decide +kernel)⟩
theorem lw_p25 : lw_okq (⟨"RingCipher$Ring", "interpolate", "([J[J)V"⟩, 5) := ⟨⟨by decide +kernel, by decide +kernel⟩, List.mem_of_getElem? (i := 27) (by decide +kernel), List.mem_of_getElem? (i := 449) (by decide +kernel), List.mem_of_getElem? (i := 450) (by decide +kernel)⟩
theorem lw_p26 : lw_okq (⟨"RingCipher", "placeAt", "(I)LRingCipher$Cipher;"⟩, 7) := ⟨⟨by decide +kernel, by decide +kernel⟩, List.mem_of_getElem? (i := 19) (by decide +kernel), List.mem_of_getElem? (i := 463) (by decide +kernel), List.mem_of_getElem? (i := 464) (by decide +kernel)⟩
theorem lw_p27 : lw_okq (⟨"RingCipher$Ring", "scale", "()J"⟩, 5) := ⟨⟨by decide +kernel, by decide +kernel⟩, List.mem_of_getElem? (i := 27) (by decide +kernel), List.mem_of_getElem? (i := 471) (by decide +kernel), List.mem_of_getElem? (i := 472) (by decide +kernel)⟩
theorem lw_p28 : lw_okq (⟨"RingCipher", "storeTwoParts", "(LRingCipher$Cipher;)I"⟩, 7) := ⟨⟨by decide +kernel, by decide +kernel⟩, List.mem_of_getElem? (i := 19) (by decide +kernel), List.mem_of_getElem? (i := 476) (by decide +kernel), List.mem_of_getElem? (i := 477) (by decide +kernel)⟩
theorem lw_p29 : lw_okq (⟨"RingCipher", "storeSums", "(LRingCipher$Cipher;I)V"⟩, 7) := ⟨⟨by decide +kernel, by decide +kernel⟩, List.mem_of_getElem? (i := 19) (by decide +kernel), List.mem_of_getElem? (i := 480) (by decide +kernel), List.mem_of_getElem? (i := 481) (by decide +kernel)⟩
theorem lw_p30 : lw_okq (⟨"RingCipher$Ring", "reduce", "([J[J)V"⟩, 5) := ⟨⟨by decide +kernel, by decide +kernel⟩, List.mem_of_getElem? (i := 27) (by decide +kernel), List.mem_of_getElem? (i := 484) (by decide +kernel), List.mem_of_getElem? (i := 485) (by decide +kernel)⟩
theorem lw_p31 : lw_okq (⟨"RingCipher", "phaseOf", "(LRingCipher$Cipher;)[J"⟩, 7) := ⟨⟨by decide +kernel, by decide +kernel⟩, List.mem_of_getElem? (i := 19) (by decide +kernel), List.mem_of_getElem? (i := 488) (by decide +kernel), List.mem_of_getElem? (i := 489) (by decide +kernel)⟩
def lw_privs_2 : List (MethodName × Nat) := [(⟨"java/lang/Throwable", "fillInStackTrace", "(I)Ljava/lang/Throwable;"⟩, 6), (⟨"RingCipher$Chance", "restart", "(I)V"⟩, 1), (⟨"RingCipher$KeyRing", "forget", "()V"⟩, 10), (⟨"RingCipher$KeyRing", "placeOfTurn", "(I)I"⟩, 10), (⟨"RingCipher$KeyRing", "makeTurn", "(LRingCipher$Ring;LRingCipher$Chance;II)V"⟩, 10), (⟨"RingCipher$Ring", "substitute", "([J[JI)V"⟩, 5), (⟨"RingCipher", "plainAt", "(I)[J"⟩, 7), (⟨"RingCipher", "checkCoefficient", "(I)V"⟩, 7), (⟨"RingCipher$Ring", "evaluate", "([J[J)V"⟩, 5), (⟨"RingCipher$Ring", "interpolate", "([J[J)V"⟩, 5), (⟨"RingCipher", "placeAt", "(I)LRingCipher$Cipher;"⟩, 7), (⟨"RingCipher$Ring", "scale", "()J"⟩, 5), (⟨"RingCipher", "storeTwoParts", "(LRingCipher$Cipher;)I"⟩, 7), (⟨"RingCipher", "storeSums", "(LRingCipher$Cipher;I)V"⟩, 7), (⟨"RingCipher$Ring", "reduce", "([J[J)V"⟩, 5), (⟨"RingCipher", "phaseOf", "(LRingCipher$Cipher;)[J"⟩, 7)]
theorem lw_r2 : ∀ q ∈ lw_privs_2, lw_okq q := List.forall_mem_cons.mpr ⟨lw_p16, List.forall_mem_cons.mpr ⟨lw_p17, List.forall_mem_cons.mpr ⟨lw_p18, List.forall_mem_cons.mpr ⟨lw_p19, List.forall_mem_cons.mpr ⟨lw_p20, List.forall_mem_cons.mpr ⟨lw_p21, List.forall_mem_cons.mpr ⟨lw_p22, List.forall_mem_cons.mpr ⟨lw_p23, List.forall_mem_cons.mpr ⟨lw_p24, List.forall_mem_cons.mpr ⟨lw_p25, List.forall_mem_cons.mpr ⟨lw_p26, List.forall_mem_cons.mpr ⟨lw_p27, List.forall_mem_cons.mpr ⟨lw_p28, List.forall_mem_cons.mpr ⟨lw_p29, List.forall_mem_cons.mpr ⟨lw_p30, List.forall_mem_cons.mpr ⟨lw_p31, fun _ h => absurd h List.not_mem_nil⟩⟩⟩⟩⟩⟩⟩⟩⟩⟩⟩⟩⟩⟩⟩⟩
theorem lw_p32 : lw_okq (⟨"RingCipher$KeyRing", "findPhase", "(LRingCipher$Ring;[JLRingCipher$Cipher;)V"⟩, 10) := ⟨⟨by decide +kernel, by decide +kernel⟩, List.mem_of_getElem? (i := 81) (by decide +kernel), List.mem_of_getElem? (i := 492) (by decide +kernel), List.mem_of_getElem? (i := 493) (by decide +kernel)⟩
theorem lw_p33 : lw_okq (⟨"RingCipher$Ring", "copy", "([J[J)V"⟩, 5) := ⟨⟨by decide +kernel, by decide +kernel⟩, List.mem_of_getElem? (i := 27) (by decide +kernel), List.mem_of_getElem? (i := 496) (by decide +kernel), List.mem_of_getElem? (i := 497) (by decide +kernel)⟩
theorem lw_p34 : lw_okq (⟨"RingCipher$Ring", "centre", "([J[J)V"⟩, 5) := ⟨⟨by decide +kernel, by decide +kernel⟩, List.mem_of_getElem? (i := 27) (by decide +kernel), List.mem_of_getElem? (i := 501) (by decide +kernel), List.mem_of_getElem? (i := 502) (by decide +kernel)⟩
theorem lw_p35 : lw_okq (⟨"RingCipher", "noiseIn", "([J)J"⟩, 7) := ⟨⟨by decide +kernel, by decide +kernel⟩, List.mem_of_getElem? (i := 19) (by decide +kernel), List.mem_of_getElem? (i := 511) (by decide +kernel), List.mem_of_getElem? (i := 512) (by decide +kernel)⟩
theorem lw_p36 : lw_okq (⟨"RingCipher", "takenAt", "(I)LRingCipher$Cipher;"⟩, 7) := ⟨⟨by decide +kernel, by decide +kernel⟩, List.mem_of_getElem? (i := 19) (by decide +kernel), List.mem_of_getElem? (i := 532) (by decide +kernel), List.mem_of_getElem? (i := 533) (by decide +kernel)⟩
theorem lw_p37 : lw_okq (⟨"RingCipher$Ring", "timesTOverQ", "(J)J"⟩, 5) := ⟨⟨by decide +kernel, by decide +kernel⟩, List.mem_of_getElem? (i := 27) (by decide +kernel), List.mem_of_getElem? (i := 537) (by decide +kernel), List.mem_of_getElem? (i := 538) (by decide +kernel)⟩
theorem lw_p38 : lw_okq (⟨"RingCipher", "multiply", "(LRingCipher$Cipher;LRingCipher$Cipher;LRingCipher$Cipher;)V"⟩, 7) := ⟨⟨by decide +kernel, by decide +kernel⟩, List.mem_of_getElem? (i := 19) (by decide +kernel), List.mem_of_getElem? (i := 554) (by decide +kernel), List.mem_of_getElem? (i := 555) (by decide +kernel)⟩
theorem lw_p39 : lw_okq (⟨"RingCipher", "combine", "(LRingCipher$Cipher;LRingCipher$Cipher;LRingCipher$Cipher;J)V"⟩, 7) := ⟨⟨by decide +kernel, by decide +kernel⟩, List.mem_of_getElem? (i := 19) (by decide +kernel), List.mem_of_getElem? (i := 560) (by decide +kernel), List.mem_of_getElem? (i := 561) (by decide +kernel)⟩
theorem lw_p40 : lw_okq (⟨"RingCipher", "addPlain", "(LRingCipher$Cipher;LRingCipher$Cipher;[J)V"⟩, 7) := ⟨⟨by decide +kernel, by decide +kernel⟩, List.mem_of_getElem? (i := 19) (by decide +kernel), List.mem_of_getElem? (i := 572) (by decide +kernel), List.mem_of_getElem? (i := 573) (by decide +kernel)⟩
theorem lw_p41 : lw_okq (⟨"RingCipher", "multiplyByPlain", "(LRingCipher$Cipher;LRingCipher$Cipher;[J)V"⟩, 7) := ⟨⟨by decide +kernel, by decide +kernel⟩, List.mem_of_getElem? (i := 19) (by decide +kernel), List.mem_of_getElem? (i := 577) (by decide +kernel), List.mem_of_getElem? (i := 578) (by decide +kernel)⟩
theorem lw_p42 : lw_okq (⟨"RingCipher", "applySwitch", "(LRingCipher$SwitchKey;[J)V"⟩, 7) := ⟨⟨by decide +kernel, by decide +kernel⟩, List.mem_of_getElem? (i := 19) (by decide +kernel), List.mem_of_getElem? (i := 589) (by decide +kernel), List.mem_of_getElem? (i := 590) (by decide +kernel)⟩
theorem lw_p43 : lw_okq (⟨"RingCipherModel", "empty", "()V"⟩, 24) := ⟨⟨by decide +kernel, by decide +kernel⟩, List.mem_of_getElem? (i := 626) (by decide +kernel), List.mem_of_getElem? (i := 714) (by decide +kernel), List.mem_of_getElem? (i := 715) (by decide +kernel)⟩
theorem lw_p44 : lw_okq (⟨"RingCipherModel", "ternary", "([J)V"⟩, 24) := ⟨⟨by decide +kernel, by decide +kernel⟩, List.mem_of_getElem? (i := 626) (by decide +kernel), List.mem_of_getElem? (i := 722) (by decide +kernel), List.mem_of_getElem? (i := 723) (by decide +kernel)⟩
theorem lw_p45 : lw_okq (⟨"RingCipherModel", "draw", "()I"⟩, 24) := ⟨⟨by decide +kernel, by decide +kernel⟩, List.mem_of_getElem? (i := 626) (by decide +kernel), List.mem_of_getElem? (i := 726) (by decide +kernel), List.mem_of_getElem? (i := 727) (by decide +kernel)⟩
theorem lw_p46 : lw_okq (⟨"RingCipherModel", "uniform", "([J)V"⟩, 24) := ⟨⟨by decide +kernel, by decide +kernel⟩, List.mem_of_getElem? (i := 626) (by decide +kernel), List.mem_of_getElem? (i := 732) (by decide +kernel), List.mem_of_getElem? (i := 733) (by decide +kernel)⟩
theorem lw_p47 : lw_okq (⟨"RingCipherModel", "error", "([J)V"⟩, 24) := ⟨⟨by decide +kernel, by decide +kernel⟩, List.mem_of_getElem? (i := 626) (by decide +kernel), List.mem_of_getElem? (i := 738) (by decide +kernel), List.mem_of_getElem? (i := 739) (by decide +kernel)⟩
def lw_privs_3 : List (MethodName × Nat) := [(⟨"RingCipher$KeyRing", "findPhase", "(LRingCipher$Ring;[JLRingCipher$Cipher;)V"⟩, 10), (⟨"RingCipher$Ring", "copy", "([J[J)V"⟩, 5), (⟨"RingCipher$Ring", "centre", "([J[J)V"⟩, 5), (⟨"RingCipher", "noiseIn", "([J)J"⟩, 7), (⟨"RingCipher", "takenAt", "(I)LRingCipher$Cipher;"⟩, 7), (⟨"RingCipher$Ring", "timesTOverQ", "(J)J"⟩, 5), (⟨"RingCipher", "multiply", "(LRingCipher$Cipher;LRingCipher$Cipher;LRingCipher$Cipher;)V"⟩, 7), (⟨"RingCipher", "combine", "(LRingCipher$Cipher;LRingCipher$Cipher;LRingCipher$Cipher;J)V"⟩, 7), (⟨"RingCipher", "addPlain", "(LRingCipher$Cipher;LRingCipher$Cipher;[J)V"⟩, 7), (⟨"RingCipher", "multiplyByPlain", "(LRingCipher$Cipher;LRingCipher$Cipher;[J)V"⟩, 7), (⟨"RingCipher", "applySwitch", "(LRingCipher$SwitchKey;[J)V"⟩, 7), (⟨"RingCipherModel", "empty", "()V"⟩, 24), (⟨"RingCipherModel", "ternary", "([J)V"⟩, 24), (⟨"RingCipherModel", "draw", "()I"⟩, 24), (⟨"RingCipherModel", "uniform", "([J)V"⟩, 24), (⟨"RingCipherModel", "error", "([J)V"⟩, 24)]
theorem lw_r3 : ∀ q ∈ lw_privs_3, lw_okq q := List.forall_mem_cons.mpr ⟨lw_p32, List.forall_mem_cons.mpr ⟨lw_p33, List.forall_mem_cons.mpr ⟨lw_p34, List.forall_mem_cons.mpr ⟨lw_p35, List.forall_mem_cons.mpr ⟨lw_p36, List.forall_mem_cons.mpr ⟨lw_p37, List.forall_mem_cons.mpr ⟨lw_p38, List.forall_mem_cons.mpr ⟨lw_p39, List.forall_mem_cons.mpr ⟨lw_p40, List.forall_mem_cons.mpr ⟨lw_p41, List.forall_mem_cons.mpr ⟨lw_p42, List.forall_mem_cons.mpr ⟨lw_p43, List.forall_mem_cons.mpr ⟨lw_p44, List.forall_mem_cons.mpr ⟨lw_p45, List.forall_mem_cons.mpr ⟨lw_p46, List.forall_mem_cons.mpr ⟨lw_p47, fun _ h => absurd h List.not_mem_nil⟩⟩⟩⟩⟩⟩⟩⟩⟩⟩⟩⟩⟩⟩⟩⟩
theorem lw_p48 : lw_okq (⟨"RingCipherModel", "reduced", "([J[J[J)V"⟩, 24) := ⟨⟨by decide +kernel, by decide +kernel⟩, List.mem_of_getElem? (i := 626) (by decide +kernel), List.mem_of_getElem? (i := 742) (by decide +kernel), List.mem_of_getElem? (i := 743) (by decide +kernel)⟩
theorem lw_p49 : lw_okq (⟨"RingCipherModel", "product", "([J[J[J)V"⟩, 24) := ⟨⟨by decide +kernel, by decide +kernel⟩, List.mem_of_getElem? (i := 626) (by decide +kernel), List.mem_of_getElem? (i := 749) (by decide +kernel), List.mem_of_getElem? (i := 750) (by decide +kernel)⟩
theorem lw_p50 : lw_okq (⟨"RingCipherModel", "pairs", "(I)V"⟩, 24) := ⟨⟨by decide +kernel, by decide +kernel⟩, List.mem_of_getElem? (i := 626) (by decide +kernel), List.mem_of_getElem? (i := 753) (by decide +kernel), List.mem_of_getElem? (i := 754) (by decide +kernel)⟩
theorem lw_p51 : lw_okq (⟨"RingCipherModel", "fail", "(I)I"⟩, 24) := ⟨⟨by decide +kernel, by decide +kernel⟩, List.mem_of_getElem? (i := 626) (by decide +kernel), List.mem_of_getElem? (i := 762) (by decide +kernel), List.mem_of_getElem? (i := 763) (by decide +kernel)⟩
theorem lw_p52 : lw_okq (⟨"RingCipherModel", "find", "(I)I"⟩, 24) := ⟨⟨by decide +kernel, by decide +kernel⟩, List.mem_of_getElem? (i := 626) (by decide +kernel), List.mem_of_getElem? (i := 766) (by decide +kernel), List.mem_of_getElem? (i := 767) (by decide +kernel)⟩
theorem lw_p53 : lw_okq (⟨"RingCipherModel", "turned", "([JI[J)V"⟩, 24) := ⟨⟨by decide +kernel, by decide +kernel⟩, List.mem_of_getElem? (i := 626) (by decide +kernel), List.mem_of_getElem? (i := 770) (by decide +kernel), List.mem_of_getElem? (i := 771) (by decide +kernel)⟩
theorem lw_p54 : lw_okq (⟨"RingCipherModel", "root", "()I"⟩, 24) := ⟨⟨by decide +kernel, by decide +kernel⟩, List.mem_of_getElem? (i := 626) (by decide +kernel), List.mem_of_getElem? (i := 789) (by decide +kernel), List.mem_of_getElem? (i := 790) (by decide +kernel)⟩
theorem lw_p55 : lw_okq (⟨"RingCipherModel", "power", "(II)I"⟩, 24) := ⟨⟨by decide +kernel, by decide +kernel⟩, List.mem_of_getElem? (i := 626) (by decide +kernel), List.mem_of_getElem? (i := 793) (by decide +kernel), List.mem_of_getElem? (i := 794) (by decide +kernel)⟩
theorem lw_p56 : lw_okq (⟨"RingCipherModel", "put", "(II[J)V"⟩, 24) := ⟨⟨by decide +kernel, by decide +kernel⟩, List.mem_of_getElem? (i := 626) (by decide +kernel), List.mem_of_getElem? (i := 804) (by decide +kernel), List.mem_of_getElem? (i := 805) (by decide +kernel)⟩
theorem lw_p57 : lw_okq (⟨"RingCipherModel", "budget", "(I)I"⟩, 24) := ⟨⟨by decide +kernel, by decide +kernel⟩, List.mem_of_getElem? (i := 626) (by decide +kernel), List.mem_of_getElem? (i := 808) (by decide +kernel), List.mem_of_getElem? (i := 809) (by decide +kernel)⟩
theorem lw_p58 : lw_okq (⟨"RingCipherModel", "noise", "(I)J"⟩, 24) := ⟨⟨by decide +kernel, by decide +kernel⟩, List.mem_of_getElem? (i := 626) (by decide +kernel), List.mem_of_getElem? (i := 812) (by decide +kernel), List.mem_of_getElem? (i := 813) (by decide +kernel)⟩
theorem lw_p59 : lw_okq (⟨"RingCipherModel", "phase", "(I)V"⟩, 24) := ⟨⟨by decide +kernel, by decide +kernel⟩, List.mem_of_getElem? (i := 626) (by decide +kernel), List.mem_of_getElem? (i := 816) (by decide +kernel), List.mem_of_getElem? (i := 817) (by decide +kernel)⟩
theorem lw_p60 : lw_okq (⟨"RingCipherModel", "take", "(II[J)V"⟩, 24) := ⟨⟨by decide +kernel, by decide +kernel⟩, List.mem_of_getElem? (i := 626) (by decide +kernel), List.mem_of_getElem? (i := 820) (by decide +kernel), List.mem_of_getElem? (i := 821) (by decide +kernel)⟩
theorem lw_p61 : lw_okq (⟨"RingCipherModel", "empty", "(I)Z"⟩, 24) := ⟨⟨by decide +kernel, by decide +kernel⟩, List.mem_of_getElem? (i := 626) (by decide +kernel), List.mem_of_getElem? (i := 833) (by decide +kernel), List.mem_of_getElem? (i := 834) (by decide +kernel)⟩
theorem lw_p62 : lw_okq (⟨"RingCipherModel", "scaled", "(J)J"⟩, 24) := ⟨⟨by decide +kernel, by decide +kernel⟩, List.mem_of_getElem? (i := 626) (by decide +kernel), List.mem_of_getElem? (i := 837) (by decide +kernel), List.mem_of_getElem? (i := 838) (by decide +kernel)⟩
theorem lw_p63 : lw_okq (⟨"RingCipherModel", "centre", "(II[J)V"⟩, 24) := ⟨⟨by decide +kernel, by decide +kernel⟩, List.mem_of_getElem? (i := 626) (by decide +kernel), List.mem_of_getElem? (i := 847) (by decide +kernel), List.mem_of_getElem? (i := 848) (by decide +kernel)⟩
def lw_privs_4 : List (MethodName × Nat) := [(⟨"RingCipherModel", "reduced", "([J[J[J)V"⟩, 24), (⟨"RingCipherModel", "product", "([J[J[J)V"⟩, 24), (⟨"RingCipherModel", "pairs", "(I)V"⟩, 24), (⟨"RingCipherModel", "fail", "(I)I"⟩, 24), (⟨"RingCipherModel", "find", "(I)I"⟩, 24), (⟨"RingCipherModel", "turned", "([JI[J)V"⟩, 24), (⟨"RingCipherModel", "root", "()I"⟩, 24), (⟨"RingCipherModel", "power", "(II)I"⟩, 24), (⟨"RingCipherModel", "put", "(II[J)V"⟩, 24), (⟨"RingCipherModel", "budget", "(I)I"⟩, 24), (⟨"RingCipherModel", "noise", "(I)J"⟩, 24), (⟨"RingCipherModel", "phase", "(I)V"⟩, 24), (⟨"RingCipherModel", "take", "(II[J)V"⟩, 24), (⟨"RingCipherModel", "empty", "(I)Z"⟩, 24), (⟨"RingCipherModel", "scaled", "(J)J"⟩, 24), (⟨"RingCipherModel", "centre", "(II[J)V"⟩, 24)]
theorem lw_r4 : ∀ q ∈ lw_privs_4, lw_okq q := List.forall_mem_cons.mpr ⟨lw_p48, List.forall_mem_cons.mpr ⟨lw_p49, List.forall_mem_cons.mpr ⟨lw_p50, List.forall_mem_cons.mpr ⟨lw_p51, List.forall_mem_cons.mpr ⟨lw_p52, List.forall_mem_cons.mpr ⟨lw_p53, List.forall_mem_cons.mpr ⟨lw_p54, List.forall_mem_cons.mpr ⟨lw_p55, List.forall_mem_cons.mpr ⟨lw_p56, List.forall_mem_cons.mpr ⟨lw_p57, List.forall_mem_cons.mpr ⟨lw_p58, List.forall_mem_cons.mpr ⟨lw_p59, List.forall_mem_cons.mpr ⟨lw_p60, List.forall_mem_cons.mpr ⟨lw_p61, List.forall_mem_cons.mpr ⟨lw_p62, List.forall_mem_cons.mpr ⟨lw_p63, fun _ h => absurd h List.not_mem_nil⟩⟩⟩⟩⟩⟩⟩⟩⟩⟩⟩⟩⟩⟩⟩⟩
theorem lw_p64 : lw_okq (⟨"RingCipherModel", "applied", "(I)V"⟩, 24) := ⟨⟨by decide +kernel, by decide +kernel⟩, List.mem_of_getElem? (i := 626) (by decide +kernel), List.mem_of_getElem? (i := 859) (by decide +kernel), List.mem_of_getElem? (i := 860) (by decide +kernel)⟩
theorem lw_p65 : lw_okq (⟨"RingCipherModel", "reduce", "([J)V"⟩, 24) := ⟨⟨by decide +kernel, by decide +kernel⟩, List.mem_of_getElem? (i := 626) (by decide +kernel), List.mem_of_getElem? (i := 868) (by decide +kernel), List.mem_of_getElem? (i := 869) (by decide +kernel)⟩
def lw_privs_5 : List (MethodName × Nat) := [(⟨"RingCipherModel", "applied", "(I)V"⟩, 24), (⟨"RingCipherModel", "reduce", "([J)V"⟩, 24)]
theorem lw_r5 : ∀ q ∈ lw_privs_5, lw_okq q := List.forall_mem_cons.mpr ⟨lw_p64, List.forall_mem_cons.mpr ⟨lw_p65, fun _ h => absurd h List.not_mem_nil⟩⟩
def lw_privs : List (MethodName × Nat) := lw_privs_1 ++ (lw_privs_2 ++ (lw_privs_3 ++ (lw_privs_4 ++ (lw_privs_5))))
def lw_tbl : List Cond := k2_sels lw_privs ++ tables_1
theorem lw_privs_ok : ∀ q ∈ lw_privs, lw_okq q := by
  show ∀ q ∈ lw_privs_1 ++ (lw_privs_2 ++ (lw_privs_3 ++ (lw_privs_4 ++ (lw_privs_5)))), lw_okq q
  exact List.forall_mem_append.mpr ⟨lw_r1, List.forall_mem_append.mpr ⟨lw_r2, List.forall_mem_append.mpr ⟨lw_r3, List.forall_mem_append.mpr ⟨lw_r4, lw_r5⟩⟩⟩⟩
abbrev cChance : Nat := 0
def R_Chance : String := "RingCipher$Chance"
def F_Chance : u_T := fun k => match k with
  | _ => ("RingCipher$Chance", "state", "I", false)
def t_Chance : Nat → FieldType := fun k => match k with
  | _ => .int
theorem n_Chance : ∀ a, a < 1 → ∀ b, b < 1 → a ≠ b → (F_Chance a).2.1 ≠ (F_Chance b).2.1 := by decide +kernel
theorem t_Chance_ok : ∀ k, k < 1 → parseFieldDescriptor (F_Chance k).2.2.1 = some (t_Chance k) := by decide +kernel
abbrev cCipher : Nat := 1
def R_Cipher : String := "RingCipher$Cipher"
def F_Cipher : u_T := fun k => match k with
  | 0 => ("RingCipher$Cipher", "parts", "I", false)
  | _ => ("RingCipher$Cipher", "rows", "[[J", true)
def t_Cipher : Nat → FieldType := fun k => match k with
  | 0 => .int
  | _ => (.array (.array .long))
theorem n_Cipher : ∀ a, a < 2 → ∀ b, b < 2 → a ≠ b → (F_Cipher a).2.1 ≠ (F_Cipher b).2.1 := by decide +kernel
theorem t_Cipher_ok : ∀ k, k < 2 → parseFieldDescriptor (F_Cipher k).2.2.1 = some (t_Cipher k) := by decide +kernel
abbrev cKeyRing : Nat := 2
def R_KeyRing : String := "RingCipher$KeyRing"
def F_KeyRing : u_T := fun k => match k with
  | 0 => ("RingCipher$KeyRing", "made", "Z", false)
  | 1 => ("RingCipher$KeyRing", "turnCount", "I", false)
  | 2 => ("RingCipher$KeyRing", "secret", "[J", true)
  | 3 => ("RingCipher$KeyRing", "square", "[J", true)
  | 4 => ("RingCipher$KeyRing", "publicBody", "[J", true)
  | 5 => ("RingCipher$KeyRing", "publicMask", "[J", true)
  | 6 => ("RingCipher$KeyRing", "relin", "LRingCipher$SwitchKey;", true)
  | 7 => ("RingCipher$KeyRing", "turns", "[LRingCipher$SwitchKey;", true)
  | 8 => ("RingCipher$KeyRing", "sum", "[J", true)
  | _ => ("RingCipher$KeyRing", "source", "[J", true)
def t_KeyRing : Nat → FieldType := fun k => match k with
  | 0 => .boolean
  | 1 => .int
  | 2 => (.array .long)
  | 3 => (.array .long)
  | 4 => (.array .long)
  | 5 => (.array .long)
  | 6 => (.object "RingCipher$SwitchKey")
  | 7 => (.array (.object "RingCipher$SwitchKey"))
  | 8 => (.array .long)
  | _ => (.array .long)
theorem n_KeyRing : ∀ a, a < 10 → ∀ b, b < 10 → a ≠ b → (F_KeyRing a).2.1 ≠ (F_KeyRing b).2.1 := by decide +kernel
theorem t_KeyRing_ok : ∀ k, k < 10 → parseFieldDescriptor (F_KeyRing k).2.2.1 = some (t_KeyRing k) := by decide +kernel
abbrev cRing : Nat := 3
def R_Ring : String := "RingCipher$Ring"
def F_Ring : u_T := fun k => match k with
  | 0 => ("RingCipher$Ring", "kind", "I", false)
  | 1 => ("RingCipher$Ring", "n", "I", false)
  | 2 => ("RingCipher$Ring", "t", "I", false)
  | 3 => ("RingCipher$Ring", "z", "I", false)
  | _ => ("RingCipher$Ring", "powersOfZ", "[J", true)
def t_Ring : Nat → FieldType := fun k => match k with
  | 0 => .int
  | 1 => .int
  | 2 => .int
  | 3 => .int
  | _ => (.array .long)
theorem n_Ring : ∀ a, a < 5 → ∀ b, b < 5 → a ≠ b → (F_Ring a).2.1 ≠ (F_Ring b).2.1 := by decide +kernel
theorem t_Ring_ok : ∀ k, k < 5 → parseFieldDescriptor (F_Ring k).2.2.1 = some (t_Ring k) := by decide +kernel
abbrev cSwitchKey : Nat := 4
def R_SwitchKey : String := "RingCipher$SwitchKey"
def F_SwitchKey : u_T := fun k => match k with
  | 0 => ("RingCipher$SwitchKey", "g", "I", false)
  | 1 => ("RingCipher$SwitchKey", "bodies", "[[J", true)
  | _ => ("RingCipher$SwitchKey", "masks", "[[J", true)
def t_SwitchKey : Nat → FieldType := fun k => match k with
  | 0 => .int
  | 1 => (.array (.array .long))
  | _ => (.array (.array .long))
theorem n_SwitchKey : ∀ a, a < 3 → ∀ b, b < 3 → a ≠ b → (F_SwitchKey a).2.1 ≠ (F_SwitchKey b).2.1 := by decide +kernel
theorem t_SwitchKey_ok : ∀ k, k < 3 → parseFieldDescriptor (F_SwitchKey k).2.2.1 = some (t_SwitchKey k) := by decide +kernel
abbrev cX : Nat := 5
def R_X : String := "RingCipher"
def F_X : u_T := fun k => match k with
  | 0 => ("RingCipher", "ring", "LRingCipher$Ring;", true)
  | 1 => ("RingCipher", "chance", "LRingCipher$Chance;", true)
  | 2 => ("RingCipher", "keyRing", "LRingCipher$KeyRing;", true)
  | 3 => ("RingCipher", "plains", "[[J", true)
  | 4 => ("RingCipher", "ciphers", "[LRingCipher$Cipher;", true)
  | 5 => ("RingCipher", "sums", "[[J", true)
  | _ => ("RingCipher", "rows", "[[J", true)
def t_X : Nat → FieldType := fun k => match k with
  | 0 => (.object "RingCipher$Ring")
  | 1 => (.object "RingCipher$Chance")
  | 2 => (.object "RingCipher$KeyRing")
  | 3 => (.array (.array .long))
  | 4 => (.array (.object "RingCipher$Cipher"))
  | 5 => (.array (.array .long))
  | _ => (.array (.array .long))
theorem n_X : ∀ a, a < 7 → ∀ b, b < 7 → a ≠ b → (F_X a).2.1 ≠ (F_X b).2.1 := by decide +kernel
theorem t_X_ok : ∀ k, k < 7 → parseFieldDescriptor (F_X k).2.2.1 = some (t_X k) := by decide +kernel
abbrev cRef : Nat := 6
def R_Ref : String := "RingCipherModel"
def F_Ref : u_T := fun k => match k with
  | 0 => ("RingCipherModel", "thrown", "I", false)
  | 1 => ("RingCipherModel", "kind", "I", false)
  | 2 => ("RingCipherModel", "n", "I", false)
  | 3 => ("RingCipherModel", "t", "I", false)
  | 4 => ("RingCipherModel", "turns", "I", false)
  | 5 => ("RingCipherModel", "chance", "I", false)
  | 6 => ("RingCipherModel", "keyed", "Z", false)
  | 7 => ("RingCipherModel", "s", "[J", true)
  | 8 => ("RingCipherModel", "b", "[J", true)
  | 9 => ("RingCipherModel", "a", "[J", true)
  | 10 => ("RingCipherModel", "first", "[J", true)
  | 11 => ("RingCipherModel", "second", "[J", true)
  | 12 => ("RingCipherModel", "turn", "[I", true)
  | 13 => ("RingCipherModel", "plain", "[I", true)
  | 14 => ("RingCipherModel", "parts", "[I", true)
  | 15 => ("RingCipherModel", "part", "[J", true)
  | 16 => ("RingCipherModel", "p", "[J", true)
  | 17 => ("RingCipherModel", "q", "[J", true)
  | 18 => ("RingCipherModel", "\x72", "[J", true)
  | 19 => ("RingCipherModel", "u", "[J", true)
  | 20 => ("RingCipherModel", "v", "[J", true)
  | 21 => ("RingCipherModel", "w", "[J", true)
  | 22 => ("RingCipherModel", "x", "[J", true)
  | _ => ("RingCipherModel", "y", "[J", true)
def t_Ref : Nat → FieldType := fun k => match k with
  | 0 => .int
  | 1 => .int
  | 2 => .int
  | 3 => .int
  | 4 => .int
  | 5 => .int
  | 6 => .boolean
  | 7 => (.array .long)
  | 8 => (.array .long)
  | 9 => (.array .long)
  | 10 => (.array .long)
  | 11 => (.array .long)
  | 12 => (.array .int)
  | 13 => (.array .int)
  | 14 => (.array .int)
  | 15 => (.array .long)
  | 16 => (.array .long)
  | 17 => (.array .long)
  | 18 => (.array .long)
  | 19 => (.array .long)
  | 20 => (.array .long)
  | 21 => (.array .long)
  | 22 => (.array .long)
  | _ => (.array .long)
theorem n_Ref : ∀ a, a < 24 → ∀ b, b < 24 → a ≠ b → (F_Ref a).2.1 ≠ (F_Ref b).2.1 := by decide +kernel
theorem t_Ref_ok : ∀ k, k < 24 → parseFieldDescriptor (F_Ref k).2.2.1 = some (t_Ref k) := by decide +kernel
abbrev vwCl : List vw_C := [(R_Chance, F_Chance, 1), (R_Cipher, F_Cipher, 2), (R_KeyRing, F_KeyRing, 10), (R_Ring, F_Ring, 5), (R_SwitchKey, F_SwitchKey, 3), (R_X, F_X, 7), (R_Ref, F_Ref, 24)]

