theorem ff_KeyRing_49 : zFF "RingCipher$KeyRing" 49 cRing 1 := ⟨R_Ring, F_Ring, 5, t_Ring, rfl, by decide, i_Ring, t_Ring_ok, n_Ring, Or.inr ⟨"RingCipher", List.mem_append_right _ (List.mem_of_getElem? (i := 52) (by decide +kernel)), by decide +kernel⟩⟩
theorem ff_KeyRing_82 : zFF "RingCipher$KeyRing" 82 cSwitchKey 0 := ⟨R_SwitchKey, F_SwitchKey, 3, t_SwitchKey, rfl, by decide, i_SwitchKey, t_SwitchKey_ok, n_SwitchKey, Or.inr ⟨"RingCipher", List.mem_append_right _ (List.mem_of_getElem? (i := 94) (by decide +kernel)), by decide +kernel⟩⟩
theorem ff_KeyRing_103 : zFF "RingCipher$KeyRing" 103 cSwitchKey 1 := ⟨R_SwitchKey, F_SwitchKey, 3, t_SwitchKey, rfl, by decide, i_SwitchKey, t_SwitchKey_ok, n_SwitchKey, Or.inr ⟨"RingCipher", List.mem_append_right _ (List.mem_of_getElem? (i := 96) (by decide +kernel)), by decide +kernel⟩⟩
theorem ff_KeyRing_95 : zFF "RingCipher$KeyRing" 95 cSwitchKey 2 := ⟨R_SwitchKey, F_SwitchKey, 3, t_SwitchKey, rfl, by decide, i_SwitchKey, t_SwitchKey_ok, n_SwitchKey, Or.inr ⟨"RingCipher", List.mem_append_right _ (List.mem_of_getElem? (i := 99) (by decide +kernel)), by decide +kernel⟩⟩
theorem ff_KeyRing_41 : zFF "RingCipher$KeyRing" 41 cKeyRing 0 := ⟨R_KeyRing, F_KeyRing, 10, t_KeyRing, rfl, by decide, i_KeyRing, t_KeyRing_ok, n_KeyRing, Or.inl ⟨List.mem_append_right _ (List.mem_of_getElem? (i := 109) (by decide +kernel)), by decide +kernel⟩⟩
theorem ff_KeyRing_45 : zFF "RingCipher$KeyRing" 45 cKeyRing 1 := ⟨R_KeyRing, F_KeyRing, 10, t_KeyRing, rfl, by decide, i_KeyRing, t_KeyRing_ok, n_KeyRing, Or.inl ⟨List.mem_append_right _ (List.mem_of_getElem? (i := 111) (by decide +kernel)), by decide +kernel⟩⟩
theorem ff_KeyRing_9 : zFF "RingCipher$KeyRing" 9 cKeyRing 2 := ⟨R_KeyRing, F_KeyRing, 10, t_KeyRing, rfl, by decide, i_KeyRing, t_KeyRing_ok, n_KeyRing, Or.inl ⟨List.mem_append_right _ (List.mem_of_getElem? (i := 113) (by decide +kernel)), by decide +kernel⟩⟩
theorem ff_KeyRing_15 : zFF "RingCipher$KeyRing" 15 cKeyRing 3 := ⟨R_KeyRing, F_KeyRing, 10, t_KeyRing, rfl, by decide, i_KeyRing, t_KeyRing_ok, n_KeyRing, Or.inl ⟨List.mem_append_right _ (List.mem_of_getElem? (i := 114) (by decide +kernel)), by decide +kernel⟩⟩
theorem ff_KeyRing_18 : zFF "RingCipher$KeyRing" 18 cKeyRing 4 := ⟨R_KeyRing, F_KeyRing, 10, t_KeyRing, rfl, by decide, i_KeyRing, t_KeyRing_ok, n_KeyRing, Or.inl ⟨List.mem_append_right _ (List.mem_of_getElem? (i := 115) (by decide +kernel)), by decide +kernel⟩⟩
theorem ff_KeyRing_21 : zFF "RingCipher$KeyRing" 21 cKeyRing 5 := ⟨R_KeyRing, F_KeyRing, 10, t_KeyRing, rfl, by decide, i_KeyRing, t_KeyRing_ok, n_KeyRing, Or.inl ⟨List.mem_append_right _ (List.mem_of_getElem? (i := 117) (by decide +kernel)), by decide +kernel⟩⟩
theorem ff_KeyRing_27 : zFF "RingCipher$KeyRing" 27 cKeyRing 6 := ⟨R_KeyRing, F_KeyRing, 10, t_KeyRing, rfl, by decide, i_KeyRing, t_KeyRing_ok, n_KeyRing, Or.inl ⟨List.mem_append_right _ (List.mem_of_getElem? (i := 119) (by decide +kernel)), by decide +kernel⟩⟩
theorem ff_KeyRing_31 : zFF "RingCipher$KeyRing" 31 cKeyRing 7 := ⟨R_KeyRing, F_KeyRing, 10, t_KeyRing, rfl, by decide, i_KeyRing, t_KeyRing_ok, n_KeyRing, Or.inl ⟨List.mem_append_right _ (List.mem_of_getElem? (i := 121) (by decide +kernel)), by decide +kernel⟩⟩
theorem ff_KeyRing_35 : zFF "RingCipher$KeyRing" 35 cKeyRing 8 := ⟨R_KeyRing, F_KeyRing, 10, t_KeyRing, rfl, by decide, i_KeyRing, t_KeyRing_ok, n_KeyRing, Or.inl ⟨List.mem_append_right _ (List.mem_of_getElem? (i := 123) (by decide +kernel)), by decide +kernel⟩⟩
theorem ff_KeyRing_38 : zFF "RingCipher$KeyRing" 38 cKeyRing 9 := ⟨R_KeyRing, F_KeyRing, 10, t_KeyRing, rfl, by decide, i_KeyRing, t_KeyRing_ok, n_KeyRing, Or.inl ⟨List.mem_append_right _ (List.mem_of_getElem? (i := 124) (by decide +kernel)), by decide +kernel⟩⟩
theorem ff_KeyRing_127 : zFF "RingCipher$KeyRing" 127 cCipher 0 := ⟨R_Cipher, F_Cipher, 2, t_Cipher, rfl, by decide, i_Cipher, t_Cipher_ok, n_Cipher, Or.inr ⟨"RingCipher", List.mem_append_right _ (List.mem_of_getElem? (i := 155) (by decide +kernel)), by decide +kernel⟩⟩
theorem ff_KeyRing_118 : zFF "RingCipher$KeyRing" 118 cCipher 1 := ⟨R_Cipher, F_Cipher, 2, t_Cipher, rfl, by decide, i_Cipher, t_Cipher_ok, n_Cipher, Or.inr ⟨"RingCipher", List.mem_append_right _ (List.mem_of_getElem? (i := 158) (by decide +kernel)), by decide +kernel⟩⟩
theorem k_KeyRing_112 : zin (.constantLong "RingCipher$KeyRing" 112 (Int64.ofInt 268435399)) := ⟨List.mem_append_right _ (List.mem_of_getElem? (i := 236) (by decide +kernel)), by decide +kernel⟩
theorem g_KeyRing_26 : zGI "RingCipher$KeyRing" 26 M_SwitchKey_init 0 := ⟨Or.inr ⟨"RingCipher", List.mem_append_right _ (List.mem_of_getElem? (i := 88) (by decide +kernel)), by decide +kernel⟩, ⟨List.mem_append_right _ (List.mem_of_getElem? (i := 89) (by decide +kernel)), by decide +kernel⟩, rfl, rfl, ⟨List.mem_append_right _ (List.mem_of_getElem? (i := 90) (by decide +kernel)), by decide +kernel⟩, ⟨by decide +kernel, by decide +kernel⟩, by decide +kernel⟩
theorem g_KeyRing_54 : zGV "RingCipher$KeyRing" 54 M_Chance_fillTernary 2 := ⟨Or.inr ⟨"RingCipher", List.mem_append_right _ (List.mem_of_getElem? (i := 195) (by decide +kernel)), by decide +kernel⟩, ⟨List.mem_append_right _ (List.mem_of_getElem? (i := 197) (by decide +kernel)), by decide +kernel⟩, ⟨List.mem_append_left _ (List.mem_of_getElem? (i := 4) (by decide +kernel)), by decide +kernel⟩, ⟨by decide +kernel, by decide +kernel⟩, by decide +kernel⟩
theorem g_KeyRing_60 : zGS "RingCipher$KeyRing" 60 M_Arrays_fill 2 := ⟨Or.inl ⟨List.mem_append_right _ (List.mem_of_getElem? (i := 205) (by decide +kernel)), by decide +kernel⟩, ⟨List.mem_append_right _ (List.mem_of_getElem? (i := 206) (by decide +kernel)), by decide +kernel⟩, ⟨List.mem_append_right _ (List.mem_of_getElem? (i := 12) (by decide +kernel)), by decide +kernel⟩, ⟨by decide +kernel, by decide +kernel⟩, by decide +kernel⟩
theorem g_KeyRing_66 : zGV "RingCipher$KeyRing" 66 M_Ring_addProduct 3 := ⟨Or.inr ⟨"RingCipher", List.mem_append_right _ (List.mem_of_getElem? (i := 208) (by decide +kernel)), by decide +kernel⟩, ⟨List.mem_append_right _ (List.mem_of_getElem? (i := 210) (by decide +kernel)), by decide +kernel⟩, ⟨List.mem_append_left _ (List.mem_of_getElem? (i := 6) (by decide +kernel)), by decide +kernel⟩, ⟨by decide +kernel, by decide +kernel⟩, by decide +kernel⟩
theorem g_KeyRing_70 : zGV "RingCipher$KeyRing" 70 M_KeyRing_makeMask 3 := ⟨Or.inl ⟨List.mem_append_right _ (List.mem_of_getElem? (i := 212) (by decide +kernel)), by decide +kernel⟩, ⟨List.mem_append_right _ (List.mem_of_getElem? (i := 214) (by decide +kernel)), by decide +kernel⟩, ⟨List.mem_append_left _ (List.mem_of_getElem? (i := 7) (by decide +kernel)), by decide +kernel⟩, ⟨by decide +kernel, by decide +kernel⟩, by decide +kernel⟩
theorem g_KeyRing_106 : zGV "RingCipher$KeyRing" 106 M_Chance_fillUniform 2 := ⟨Or.inr ⟨"RingCipher", List.mem_append_right _ (List.mem_of_getElem? (i := 216) (by decide +kernel)), by decide +kernel⟩, ⟨List.mem_append_right _ (List.mem_of_getElem? (i := 218) (by decide +kernel)), by decide +kernel⟩, ⟨List.mem_append_left _ (List.mem_of_getElem? (i := 8) (by decide +kernel)), by decide +kernel⟩, ⟨by decide +kernel, by decide +kernel⟩, by decide +kernel⟩
theorem g_KeyRing_109 : zGV "RingCipher$KeyRing" 109 M_Chance_fillErrors 2 := ⟨Or.inr ⟨"RingCipher", List.mem_append_right _ (List.mem_of_getElem? (i := 222) (by decide +kernel)), by decide +kernel⟩, ⟨List.mem_append_right _ (List.mem_of_getElem? (i := 224) (by decide +kernel)), by decide +kernel⟩, ⟨List.mem_append_left _ (List.mem_of_getElem? (i := 9) (by decide +kernel)), by decide +kernel⟩, ⟨by decide +kernel, by decide +kernel⟩, by decide +kernel⟩
theorem g_KeyRing_74 : zGV "RingCipher$KeyRing" 74 M_KeyRing_hideBody 2 := ⟨Or.inl ⟨List.mem_append_right _ (List.mem_of_getElem? (i := 232) (by decide +kernel)), by decide +kernel⟩, ⟨List.mem_append_right _ (List.mem_of_getElem? (i := 234) (by decide +kernel)), by decide +kernel⟩, ⟨List.mem_append_left _ (List.mem_of_getElem? (i := 10) (by decide +kernel)), by decide +kernel⟩, ⟨by decide +kernel, by decide +kernel⟩, by decide +kernel⟩
theorem g_KeyRing_114 : zGS "RingCipher$KeyRing" 114 M_Math_floorMod_JJ 2 := ⟨Or.inl ⟨List.mem_append_right _ (List.mem_of_getElem? (i := 237) (by decide +kernel)), by decide +kernel⟩, ⟨List.mem_append_right _ (List.mem_of_getElem? (i := 238) (by decide +kernel)), by decide +kernel⟩, ⟨List.mem_append_right _ (List.mem_of_getElem? (i := 14) (by decide +kernel)), by decide +kernel⟩, ⟨by decide +kernel, by decide +kernel⟩, by decide +kernel⟩
theorem g_KeyRing_78 : zGV "RingCipher$KeyRing" 78 M_KeyRing_makeSwitch 4 := ⟨Or.inl ⟨List.mem_append_right _ (List.mem_of_getElem? (i := 240) (by decide +kernel)), by decide +kernel⟩, ⟨List.mem_append_right _ (List.mem_of_getElem? (i := 242) (by decide +kernel)), by decide +kernel⟩, ⟨List.mem_append_left _ (List.mem_of_getElem? (i := 11) (by decide +kernel)), by decide +kernel⟩, ⟨by decide +kernel, by decide +kernel⟩, by decide +kernel⟩
theorem g_KeyRing_99 : zGV "RingCipher$KeyRing" 99 M_Ring_addScaled 3 := ⟨Or.inr ⟨"RingCipher", List.mem_append_right _ (List.mem_of_getElem? (i := 244) (by decide +kernel)), by decide +kernel⟩, ⟨List.mem_append_right _ (List.mem_of_getElem? (i := 246) (by decide +kernel)), by decide +kernel⟩, ⟨List.mem_append_left _ (List.mem_of_getElem? (i := 12) (by decide +kernel)), by decide +kernel⟩, ⟨by decide +kernel, by decide +kernel⟩, by decide +kernel⟩
theorem g_KeyRing_85 : zGV "RingCipher$KeyRing" 85 M_Ring_substitute 3 := ⟨Or.inr ⟨"RingCipher", List.mem_append_right _ (List.mem_of_getElem? (i := 385) (by decide +kernel)), by decide +kernel⟩, ⟨List.mem_append_right _ (List.mem_of_getElem? (i := 387) (by decide +kernel)), by decide +kernel⟩, ⟨List.mem_append_left _ (List.mem_of_getElem? (i := 21) (by decide +kernel)), by decide +kernel⟩, ⟨by decide +kernel, by decide +kernel⟩, by decide +kernel⟩
theorem g_KeyRing_89 : zGS "RingCipher$KeyRing" 89 M_Math_max_II 2 := ⟨Or.inl ⟨List.mem_append_right _ (List.mem_of_getElem? (i := 391) (by decide +kernel)), by decide +kernel⟩, ⟨List.mem_append_right _ (List.mem_of_getElem? (i := 392) (by decide +kernel)), by decide +kernel⟩, ⟨List.mem_append_right _ (List.mem_of_getElem? (i := 14) (by decide +kernel)), by decide +kernel⟩, ⟨by decide +kernel, by decide +kernel⟩, by decide +kernel⟩
theorem g_KeyRing_123 : zGV "RingCipher$KeyRing" 123 M_Ring_copy 2 := ⟨Or.inr ⟨"RingCipher", List.mem_append_right _ (List.mem_of_getElem? (i := 495) (by decide +kernel)), by decide +kernel⟩, ⟨List.mem_append_right _ (List.mem_of_getElem? (i := 497) (by decide +kernel)), by decide +kernel⟩, ⟨List.mem_append_left _ (List.mem_of_getElem? (i := 33) (by decide +kernel)), by decide +kernel⟩, ⟨by decide +kernel, by decide +kernel⟩, by decide +kernel⟩
theorem g_KeyRing_130 : zGV "RingCipher$KeyRing" 130 M_Ring_centre 2 := ⟨Or.inr ⟨"RingCipher", List.mem_append_right _ (List.mem_of_getElem? (i := 500) (by decide +kernel)), by decide +kernel⟩, ⟨List.mem_append_right _ (List.mem_of_getElem? (i := 502) (by decide +kernel)), by decide +kernel⟩, ⟨List.mem_append_left _ (List.mem_of_getElem? (i := 34) (by decide +kernel)), by decide +kernel⟩, ⟨by decide +kernel, by decide +kernel⟩, by decide +kernel⟩
theorem co_KeyRing_init : zCo M_KeyRing_init := Or.inl ⟨⟨List.mem_append_right _ (List.mem_of_getElem? (i := 84) (by decide +kernel)), by decide +kernel⟩, rfl⟩
theorem co_KeyRing_renew : zCo M_KeyRing_renew := Or.inl ⟨⟨List.mem_append_right _ (List.mem_of_getElem? (i := 194) (by decide +kernel)), by decide +kernel⟩, rfl⟩
theorem co_KeyRing_makeMask : zCo M_KeyRing_makeMask := Or.inl ⟨⟨List.mem_append_right _ (List.mem_of_getElem? (i := 215) (by decide +kernel)), by decide +kernel⟩, rfl⟩
theorem co_KeyRing_hideBody : zCo M_KeyRing_hideBody := Or.inl ⟨⟨List.mem_append_right _ (List.mem_of_getElem? (i := 235) (by decide +kernel)), by decide +kernel⟩, rfl⟩
theorem co_KeyRing_makeSwitch : zCo M_KeyRing_makeSwitch := Or.inl ⟨⟨List.mem_append_right _ (List.mem_of_getElem? (i := 243) (by decide +kernel)), by decide +kernel⟩, rfl⟩
theorem co_KeyRing_forget : zCo M_KeyRing_forget := Or.inl ⟨⟨List.mem_append_right _ (List.mem_of_getElem? (i := 349) (by decide +kernel)), by decide +kernel⟩, rfl⟩
theorem co_KeyRing_placeOfTurn : zCo M_KeyRing_placeOfTurn := Or.inl ⟨⟨List.mem_append_right _ (List.mem_of_getElem? (i := 379) (by decide +kernel)), by decide +kernel⟩, rfl⟩
theorem co_KeyRing_makeTurn : zCo M_KeyRing_makeTurn := Or.inl ⟨⟨List.mem_append_right _ (List.mem_of_getElem? (i := 384) (by decide +kernel)), by decide +kernel⟩, rfl⟩
theorem co_KeyRing_findPhase : zCo M_KeyRing_findPhase := Or.inl ⟨⟨List.mem_append_right _ (List.mem_of_getElem? (i := 494) (by decide +kernel)), by decide +kernel⟩, rfl⟩
theorem d_KeyRing_init_0 : decode prog_4_method_1_code 0 = .ok (.aload_n 0, 1) := by decide +kernel
theorem d_KeyRing_init_1 : decode prog_4_method_1_code 1 = .ok (.invokespecial 3, 3) := by decide +kernel
theorem d_KeyRing_init_4 : decode prog_4_method_1_code 4 = .ok (.aload_n 0, 1) := by decide +kernel
theorem d_KeyRing_init_5 : decode prog_4_method_1_code 5 = .ok (.bipush 32, 2) := by decide +kernel
theorem d_KeyRing_init_7 : decode prog_4_method_1_code 7 = .ok (.newarray .long, 2) := by decide +kernel
theorem d_KeyRing_init_9 : decode prog_4_method_1_code 9 = .ok (.putfield 9, 3) := by decide +kernel
theorem d_KeyRing_init_12 : decode prog_4_method_1_code 12 = .ok (.aload_n 0, 1) := by decide +kernel
theorem d_KeyRing_init_13 : decode prog_4_method_1_code 13 = .ok (.bipush 32, 2) := by decide +kernel
theorem d_KeyRing_init_15 : decode prog_4_method_1_code 15 = .ok (.newarray .long, 2) := by decide +kernel
theorem d_KeyRing_init_17 : decode prog_4_method_1_code 17 = .ok (.putfield 15, 3) := by decide +kernel
theorem d_KeyRing_init_20 : decode prog_4_method_1_code 20 = .ok (.aload_n 0, 1) := by decide +kernel
theorem d_KeyRing_init_21 : decode prog_4_method_1_code 21 = .ok (.bipush 32, 2) := by decide +kernel
theorem d_KeyRing_init_23 : decode prog_4_method_1_code 23 = .ok (.newarray .long, 2) := by decide +kernel
theorem d_KeyRing_init_25 : decode prog_4_method_1_code 25 = .ok (.putfield 18, 3) := by decide +kernel
theorem d_KeyRing_init_28 : decode prog_4_method_1_code 28 = .ok (.aload_n 0, 1) := by decide +kernel
theorem d_KeyRing_init_29 : decode prog_4_method_1_code 29 = .ok (.bipush 32, 2) := by decide +kernel
theorem d_KeyRing_init_31 : decode prog_4_method_1_code 31 = .ok (.newarray .long, 2) := by decide +kernel
theorem d_KeyRing_init_33 : decode prog_4_method_1_code 33 = .ok (.putfield 21, 3) := by decide +kernel
theorem d_KeyRing_init_36 : decode prog_4_method_1_code 36 = .ok (.aload_n 0, 1) := by decide +kernel
theorem d_KeyRing_init_37 : decode prog_4_method_1_code 37 = .ok (.new 24, 3) := by decide +kernel
theorem d_KeyRing_init_40 : decode prog_4_method_1_code 40 = .ok (.dup, 1) := by decide +kernel
theorem d_KeyRing_init_41 : decode prog_4_method_1_code 41 = .ok (.invokespecial 26, 3) := by decide +kernel
theorem d_KeyRing_init_44 : decode prog_4_method_1_code 44 = .ok (.putfield 27, 3) := by decide +kernel
theorem d_KeyRing_init_47 : decode prog_4_method_1_code 47 = .ok (.aload_n 0, 1) := by decide +kernel
theorem d_KeyRing_init_48 : decode prog_4_method_1_code 48 = .ok (.iconst 4, 1) := by decide +kernel
theorem d_KeyRing_init_49 : decode prog_4_method_1_code 49 = .ok (.anewarray 24, 3) := by decide +kernel
theorem d_KeyRing_init_52 : decode prog_4_method_1_code 52 = .ok (.putfield 31, 3) := by decide +kernel
theorem d_KeyRing_init_55 : decode prog_4_method_1_code 55 = .ok (.iconst 0, 1) := by decide +kernel
theorem d_KeyRing_init_56 : decode prog_4_method_1_code 56 = .ok (.istore_n 1, 1) := by decide +kernel
theorem d_KeyRing_init_57 : decode prog_4_method_1_code 57 = .ok (.iload_n 1, 1) := by decide +kernel
theorem d_KeyRing_init_58 : decode prog_4_method_1_code 58 = .ok (.iconst 4, 1) := by decide +kernel
theorem d_KeyRing_init_59 : decode prog_4_method_1_code 59 = .ok (.if_icmp .ge 22, 3) := by decide +kernel
theorem d_KeyRing_init_62 : decode prog_4_method_1_code 62 = .ok (.aload_n 0, 1) := by decide +kernel
theorem d_KeyRing_init_63 : decode prog_4_method_1_code 63 = .ok (.getfield 31, 3) := by decide +kernel
theorem d_KeyRing_init_66 : decode prog_4_method_1_code 66 = .ok (.iload_n 1, 1) := by decide +kernel
theorem d_KeyRing_init_67 : decode prog_4_method_1_code 67 = .ok (.new 24, 3) := by decide +kernel
theorem d_KeyRing_init_70 : decode prog_4_method_1_code 70 = .ok (.dup, 1) := by decide +kernel
theorem d_KeyRing_init_71 : decode prog_4_method_1_code 71 = .ok (.invokespecial 26, 3) := by decide +kernel
theorem d_KeyRing_init_74 : decode prog_4_method_1_code 74 = .ok (.aastore, 1) := by decide +kernel
theorem d_KeyRing_init_75 : decode prog_4_method_1_code 75 = .ok (.iinc 1 1, 3) := by decide +kernel
theorem d_KeyRing_init_78 : decode prog_4_method_1_code 78 = .ok (.goto (-21), 3) := by decide +kernel
theorem d_KeyRing_init_81 : decode prog_4_method_1_code 81 = .ok (.aload_n 0, 1) := by decide +kernel
theorem d_KeyRing_init_82 : decode prog_4_method_1_code 82 = .ok (.bipush 32, 2) := by decide +kernel
theorem d_KeyRing_init_84 : decode prog_4_method_1_code 84 = .ok (.newarray .long, 2) := by decide +kernel
theorem d_KeyRing_init_86 : decode prog_4_method_1_code 86 = .ok (.putfield 35, 3) := by decide +kernel
theorem d_KeyRing_init_89 : decode prog_4_method_1_code 89 = .ok (.aload_n 0, 1) := by decide +kernel
theorem d_KeyRing_init_90 : decode prog_4_method_1_code 90 = .ok (.bipush 32, 2) := by decide +kernel
theorem d_KeyRing_init_92 : decode prog_4_method_1_code 92 = .ok (.newarray .long, 2) := by decide +kernel
theorem d_KeyRing_init_94 : decode prog_4_method_1_code 94 = .ok (.putfield 38, 3) := by decide +kernel
theorem d_KeyRing_init_97 : decode prog_4_method_1_code 97 = .ok (.return_, 1) := by decide +kernel
theorem d_KeyRing_forget_0 : decode prog_4_method_2_code 0 = .ok (.aload_n 0, 1) := by decide +kernel
theorem d_KeyRing_forget_1 : decode prog_4_method_2_code 1 = .ok (.iconst 0, 1) := by decide +kernel
theorem d_KeyRing_forget_2 : decode prog_4_method_2_code 2 = .ok (.putfield 41, 3) := by decide +kernel
theorem d_KeyRing_forget_5 : decode prog_4_method_2_code 5 = .ok (.aload_n 0, 1) := by decide +kernel
theorem d_KeyRing_forget_6 : decode prog_4_method_2_code 6 = .ok (.iconst 0, 1) := by decide +kernel
theorem d_KeyRing_forget_7 : decode prog_4_method_2_code 7 = .ok (.putfield 45, 3) := by decide +kernel
theorem d_KeyRing_forget_10 : decode prog_4_method_2_code 10 = .ok (.return_, 1) := by decide +kernel
theorem d_KeyRing_renew_0 : decode prog_4_method_3_code 0 = .ok (.aload_n 2, 1) := by decide +kernel
theorem d_KeyRing_renew_1 : decode prog_4_method_3_code 1 = .ok (.aload_n 0, 1) := by decide +kernel
theorem d_KeyRing_renew_2 : decode prog_4_method_3_code 2 = .ok (.getfield 9, 3) := by decide +kernel
theorem d_KeyRing_renew_5 : decode prog_4_method_3_code 5 = .ok (.aload_n 1, 1) := by decide +kernel
theorem d_KeyRing_renew_6 : decode prog_4_method_3_code 6 = .ok (.getfield 49, 3) := by decide +kernel
theorem d_KeyRing_renew_9 : decode prog_4_method_3_code 9 = .ok (.invokevirtual 54, 3) := by decide +kernel
theorem d_KeyRing_renew_12 : decode prog_4_method_3_code 12 = .ok (.aload_n 0, 1) := by decide +kernel
theorem d_KeyRing_renew_13 : decode prog_4_method_3_code 13 = .ok (.getfield 15, 3) := by decide +kernel
theorem d_KeyRing_renew_16 : decode prog_4_method_3_code 16 = .ok (.lconst 0, 1) := by decide +kernel
theorem d_KeyRing_renew_17 : decode prog_4_method_3_code 17 = .ok (.invokestatic 60, 3) := by decide +kernel
theorem d_KeyRing_renew_20 : decode prog_4_method_3_code 20 = .ok (.aload_n 1, 1) := by decide +kernel
theorem d_KeyRing_renew_21 : decode prog_4_method_3_code 21 = .ok (.aload_n 0, 1) := by decide +kernel
theorem d_KeyRing_renew_22 : decode prog_4_method_3_code 22 = .ok (.getfield 15, 3) := by decide +kernel
theorem d_KeyRing_renew_25 : decode prog_4_method_3_code 25 = .ok (.aload_n 0, 1) := by decide +kernel
theorem d_KeyRing_renew_26 : decode prog_4_method_3_code 26 = .ok (.getfield 9, 3) := by decide +kernel
theorem d_KeyRing_renew_29 : decode prog_4_method_3_code 29 = .ok (.aload_n 0, 1) := by decide +kernel
theorem d_KeyRing_renew_30 : decode prog_4_method_3_code 30 = .ok (.getfield 9, 3) := by decide +kernel
theorem d_KeyRing_renew_33 : decode prog_4_method_3_code 33 = .ok (.invokevirtual 66, 3) := by decide +kernel
theorem d_KeyRing_renew_36 : decode prog_4_method_3_code 36 = .ok (.aload_n 0, 1) := by decide +kernel
theorem d_KeyRing_renew_37 : decode prog_4_method_3_code 37 = .ok (.aload_n 1, 1) := by decide +kernel
theorem d_KeyRing_renew_38 : decode prog_4_method_3_code 38 = .ok (.aload_n 2, 1) := by decide +kernel
theorem d_KeyRing_renew_39 : decode prog_4_method_3_code 39 = .ok (.aload_n 0, 1) := by decide +kernel
theorem d_KeyRing_renew_40 : decode prog_4_method_3_code 40 = .ok (.getfield 21, 3) := by decide +kernel
theorem d_KeyRing_renew_43 : decode prog_4_method_3_code 43 = .ok (.invokevirtual 70, 3) := by decide +kernel
theorem d_KeyRing_renew_46 : decode prog_4_method_3_code 46 = .ok (.aload_n 0, 1) := by decide +kernel
theorem d_KeyRing_renew_47 : decode prog_4_method_3_code 47 = .ok (.aload_n 1, 1) := by decide +kernel
theorem d_KeyRing_renew_48 : decode prog_4_method_3_code 48 = .ok (.aload_n 0, 1) := by decide +kernel
theorem d_KeyRing_renew_49 : decode prog_4_method_3_code 49 = .ok (.getfield 18, 3) := by decide +kernel
theorem d_KeyRing_renew_52 : decode prog_4_method_3_code 52 = .ok (.invokevirtual 74, 3) := by decide +kernel
theorem d_KeyRing_renew_55 : decode prog_4_method_3_code 55 = .ok (.aload_n 0, 1) := by decide +kernel
theorem d_KeyRing_renew_56 : decode prog_4_method_3_code 56 = .ok (.aload_n 1, 1) := by decide +kernel
theorem d_KeyRing_renew_57 : decode prog_4_method_3_code 57 = .ok (.aload_n 2, 1) := by decide +kernel
theorem d_KeyRing_renew_58 : decode prog_4_method_3_code 58 = .ok (.aload_n 0, 1) := by decide +kernel
theorem d_KeyRing_renew_59 : decode prog_4_method_3_code 59 = .ok (.getfield 27, 3) := by decide +kernel
theorem d_KeyRing_renew_62 : decode prog_4_method_3_code 62 = .ok (.aload_n 0, 1) := by decide +kernel
theorem d_KeyRing_renew_63 : decode prog_4_method_3_code 63 = .ok (.getfield 15, 3) := by decide +kernel
theorem d_KeyRing_renew_66 : decode prog_4_method_3_code 66 = .ok (.invokevirtual 78, 3) := by decide +kernel
theorem d_KeyRing_renew_69 : decode prog_4_method_3_code 69 = .ok (.aload_n 0, 1) := by decide +kernel
theorem d_KeyRing_renew_70 : decode prog_4_method_3_code 70 = .ok (.iconst 1, 1) := by decide +kernel
theorem d_KeyRing_renew_71 : decode prog_4_method_3_code 71 = .ok (.putfield 41, 3) := by decide +kernel
theorem d_KeyRing_renew_74 : decode prog_4_method_3_code 74 = .ok (.aload_n 0, 1) := by decide +kernel
theorem d_KeyRing_renew_75 : decode prog_4_method_3_code 75 = .ok (.iconst 0, 1) := by decide +kernel
theorem d_KeyRing_renew_76 : decode prog_4_method_3_code 76 = .ok (.putfield 45, 3) := by decide +kernel
theorem d_KeyRing_renew_79 : decode prog_4_method_3_code 79 = .ok (.return_, 1) := by decide +kernel
theorem d_KeyRing_placeOfTurn_0 : decode prog_4_method_4_code 0 = .ok (.iconst 0, 1) := by decide +kernel
theorem d_KeyRing_placeOfTurn_1 : decode prog_4_method_4_code 1 = .ok (.istore_n 2, 1) := by decide +kernel
theorem d_KeyRing_placeOfTurn_2 : decode prog_4_method_4_code 2 = .ok (.iload_n 2, 1) := by decide +kernel
theorem d_KeyRing_placeOfTurn_3 : decode prog_4_method_4_code 3 = .ok (.aload_n 0, 1) := by decide +kernel
theorem d_KeyRing_placeOfTurn_4 : decode prog_4_method_4_code 4 = .ok (.getfield 45, 3) := by decide +kernel
theorem d_KeyRing_placeOfTurn_7 : decode prog_4_method_4_code 7 = .ok (.if_icmp .ge 22, 3) := by decide +kernel
theorem d_KeyRing_placeOfTurn_10 : decode prog_4_method_4_code 10 = .ok (.aload_n 0, 1) := by decide +kernel
theorem d_KeyRing_placeOfTurn_11 : decode prog_4_method_4_code 11 = .ok (.getfield 31, 3) := by decide +kernel
theorem d_KeyRing_placeOfTurn_14 : decode prog_4_method_4_code 14 = .ok (.iload_n 2, 1) := by decide +kernel
theorem d_KeyRing_placeOfTurn_15 : decode prog_4_method_4_code 15 = .ok (.aaload, 1) := by decide +kernel
theorem d_KeyRing_placeOfTurn_16 : decode prog_4_method_4_code 16 = .ok (.getfield 82, 3) := by decide +kernel
theorem d_KeyRing_placeOfTurn_19 : decode prog_4_method_4_code 19 = .ok (.iload_n 1, 1) := by decide +kernel
theorem d_KeyRing_placeOfTurn_20 : decode prog_4_method_4_code 20 = .ok (.if_icmp .eq 9, 3) := by decide +kernel
theorem d_KeyRing_placeOfTurn_23 : decode prog_4_method_4_code 23 = .ok (.iinc 2 1, 3) := by decide +kernel
theorem d_KeyRing_placeOfTurn_26 : decode prog_4_method_4_code 26 = .ok (.goto (-24), 3) := by decide +kernel
theorem d_KeyRing_placeOfTurn_29 : decode prog_4_method_4_code 29 = .ok (.iload_n 2, 1) := by decide +kernel
theorem d_KeyRing_placeOfTurn_30 : decode prog_4_method_4_code 30 = .ok (.ireturn, 1) := by decide +kernel
theorem d_KeyRing_makeTurn_0 : decode prog_4_method_5_code 0 = .ok (.aload_n 1, 1) := by decide +kernel
theorem d_KeyRing_makeTurn_1 : decode prog_4_method_5_code 1 = .ok (.aload_n 0, 1) := by decide +kernel
theorem d_KeyRing_makeTurn_2 : decode prog_4_method_5_code 2 = .ok (.getfield 38, 3) := by decide +kernel
theorem d_KeyRing_makeTurn_5 : decode prog_4_method_5_code 5 = .ok (.aload_n 0, 1) := by decide +kernel
theorem d_KeyRing_makeTurn_6 : decode prog_4_method_5_code 6 = .ok (.getfield 9, 3) := by decide +kernel
theorem d_KeyRing_makeTurn_9 : decode prog_4_method_5_code 9 = .ok (.iload 4, 2) := by decide +kernel
theorem d_KeyRing_makeTurn_11 : decode prog_4_method_5_code 11 = .ok (.invokevirtual 85, 3) := by decide +kernel
theorem d_KeyRing_makeTurn_14 : decode prog_4_method_5_code 14 = .ok (.aload_n 0, 1) := by decide +kernel
theorem d_KeyRing_makeTurn_15 : decode prog_4_method_5_code 15 = .ok (.aload_n 1, 1) := by decide +kernel
theorem d_KeyRing_makeTurn_16 : decode prog_4_method_5_code 16 = .ok (.aload_n 2, 1) := by decide +kernel
theorem d_KeyRing_makeTurn_17 : decode prog_4_method_5_code 17 = .ok (.aload_n 0, 1) := by decide +kernel
theorem d_KeyRing_makeTurn_18 : decode prog_4_method_5_code 18 = .ok (.getfield 31, 3) := by decide +kernel
theorem d_KeyRing_makeTurn_21 : decode prog_4_method_5_code 21 = .ok (.iload_n 3, 1) := by decide +kernel
theorem d_KeyRing_makeTurn_22 : decode prog_4_method_5_code 22 = .ok (.aaload, 1) := by decide +kernel
theorem d_KeyRing_makeTurn_23 : decode prog_4_method_5_code 23 = .ok (.aload_n 0, 1) := by decide +kernel
theorem d_KeyRing_makeTurn_24 : decode prog_4_method_5_code 24 = .ok (.getfield 38, 3) := by decide +kernel
theorem d_KeyRing_makeTurn_27 : decode prog_4_method_5_code 27 = .ok (.invokevirtual 78, 3) := by decide +kernel
theorem d_KeyRing_makeTurn_30 : decode prog_4_method_5_code 30 = .ok (.aload_n 0, 1) := by decide +kernel
theorem d_KeyRing_makeTurn_31 : decode prog_4_method_5_code 31 = .ok (.getfield 31, 3) := by decide +kernel
theorem d_KeyRing_makeTurn_34 : decode prog_4_method_5_code 34 = .ok (.iload_n 3, 1) := by decide +kernel
theorem d_KeyRing_makeTurn_35 : decode prog_4_method_5_code 35 = .ok (.aaload, 1) := by decide +kernel
theorem d_KeyRing_makeTurn_36 : decode prog_4_method_5_code 36 = .ok (.iload 4, 2) := by decide +kernel
theorem d_KeyRing_makeTurn_38 : decode prog_4_method_5_code 38 = .ok (.putfield 82, 3) := by decide +kernel
theorem d_KeyRing_makeTurn_41 : decode prog_4_method_5_code 41 = .ok (.aload_n 0, 1) := by decide +kernel
theorem d_KeyRing_makeTurn_42 : decode prog_4_method_5_code 42 = .ok (.aload_n 0, 1) := by decide +kernel
theorem d_KeyRing_makeTurn_43 : decode prog_4_method_5_code 43 = .ok (.getfield 45, 3) := by decide +kernel
theorem d_KeyRing_makeTurn_46 : decode prog_4_method_5_code 46 = .ok (.iload_n 3, 1) := by decide +kernel
theorem d_KeyRing_makeTurn_47 : decode prog_4_method_5_code 47 = .ok (.iconst 1, 1) := by decide +kernel
theorem d_KeyRing_makeTurn_48 : decode prog_4_method_5_code 48 = .ok (.iadd, 1) := by decide +kernel
theorem d_KeyRing_makeTurn_49 : decode prog_4_method_5_code 49 = .ok (.invokestatic 89, 3) := by decide +kernel
theorem d_KeyRing_makeTurn_52 : decode prog_4_method_5_code 52 = .ok (.putfield 45, 3) := by decide +kernel
theorem d_KeyRing_makeTurn_55 : decode prog_4_method_5_code 55 = .ok (.return_, 1) := by decide +kernel
theorem d_KeyRing_makeSwitch_0 : decode prog_4_method_6_code 0 = .ok (.iconst 0, 1) := by decide +kernel
theorem d_KeyRing_makeSwitch_1 : decode prog_4_method_6_code 1 = .ok (.istore 5, 2) := by decide +kernel
theorem d_KeyRing_makeSwitch_3 : decode prog_4_method_6_code 3 = .ok (.iload 5, 2) := by decide +kernel
theorem d_KeyRing_makeSwitch_5 : decode prog_4_method_6_code 5 = .ok (.bipush 6, 2) := by decide +kernel
theorem d_KeyRing_makeSwitch_7 : decode prog_4_method_6_code 7 = .ok (.if_icmp .ge 51, 3) := by decide +kernel
theorem d_KeyRing_makeSwitch_10 : decode prog_4_method_6_code 10 = .ok (.aload_n 0, 1) := by decide +kernel
theorem d_KeyRing_makeSwitch_11 : decode prog_4_method_6_code 11 = .ok (.aload_n 1, 1) := by decide +kernel
theorem d_KeyRing_makeSwitch_12 : decode prog_4_method_6_code 12 = .ok (.aload_n 2, 1) := by decide +kernel
theorem d_KeyRing_makeSwitch_13 : decode prog_4_method_6_code 13 = .ok (.aload_n 3, 1) := by decide +kernel
theorem d_KeyRing_makeSwitch_14 : decode prog_4_method_6_code 14 = .ok (.getfield 95, 3) := by decide +kernel
theorem d_KeyRing_makeSwitch_17 : decode prog_4_method_6_code 17 = .ok (.iload 5, 2) := by decide +kernel
theorem d_KeyRing_makeSwitch_19 : decode prog_4_method_6_code 19 = .ok (.aaload, 1) := by decide +kernel
theorem d_KeyRing_makeSwitch_20 : decode prog_4_method_6_code 20 = .ok (.invokevirtual 70, 3) := by decide +kernel
theorem d_KeyRing_makeSwitch_23 : decode prog_4_method_6_code 23 = .ok (.aload_n 1, 1) := by decide +kernel
theorem d_KeyRing_makeSwitch_24 : decode prog_4_method_6_code 24 = .ok (.aload_n 0, 1) := by decide +kernel
theorem d_KeyRing_makeSwitch_25 : decode prog_4_method_6_code 25 = .ok (.getfield 35, 3) := by decide +kernel
theorem d_KeyRing_makeSwitch_28 : decode prog_4_method_6_code 28 = .ok (.aload 4, 2) := by decide +kernel
theorem d_KeyRing_makeSwitch_30 : decode prog_4_method_6_code 30 = .ok (.lconst 1, 1) := by decide +kernel
theorem d_KeyRing_makeSwitch_31 : decode prog_4_method_6_code 31 = .ok (.iconst 5, 1) := by decide +kernel
theorem d_KeyRing_makeSwitch_32 : decode prog_4_method_6_code 32 = .ok (.iload 5, 2) := by decide +kernel
theorem d_KeyRing_makeSwitch_34 : decode prog_4_method_6_code 34 = .ok (.imul, 1) := by decide +kernel
theorem d_KeyRing_makeSwitch_35 : decode prog_4_method_6_code 35 = .ok (.lshl, 1) := by decide +kernel
theorem d_KeyRing_makeSwitch_36 : decode prog_4_method_6_code 36 = .ok (.lneg, 1) := by decide +kernel
theorem d_KeyRing_makeSwitch_37 : decode prog_4_method_6_code 37 = .ok (.invokevirtual 99, 3) := by decide +kernel
theorem d_KeyRing_makeSwitch_40 : decode prog_4_method_6_code 40 = .ok (.aload_n 0, 1) := by decide +kernel
theorem d_KeyRing_makeSwitch_41 : decode prog_4_method_6_code 41 = .ok (.aload_n 1, 1) := by decide +kernel
theorem d_KeyRing_makeSwitch_42 : decode prog_4_method_6_code 42 = .ok (.aload_n 3, 1) := by decide +kernel
theorem d_KeyRing_makeSwitch_43 : decode prog_4_method_6_code 43 = .ok (.getfield 103, 3) := by decide +kernel
theorem d_KeyRing_makeSwitch_46 : decode prog_4_method_6_code 46 = .ok (.iload 5, 2) := by decide +kernel
theorem d_KeyRing_makeSwitch_48 : decode prog_4_method_6_code 48 = .ok (.aaload, 1) := by decide +kernel
theorem d_KeyRing_makeSwitch_49 : decode prog_4_method_6_code 49 = .ok (.invokevirtual 74, 3) := by decide +kernel
theorem d_KeyRing_makeSwitch_52 : decode prog_4_method_6_code 52 = .ok (.iinc 5 1, 3) := by decide +kernel
theorem d_KeyRing_makeSwitch_55 : decode prog_4_method_6_code 55 = .ok (.goto (-52), 3) := by decide +kernel
theorem d_KeyRing_makeSwitch_58 : decode prog_4_method_6_code 58 = .ok (.return_, 1) := by decide +kernel
theorem d_KeyRing_makeMask_0 : decode prog_4_method_7_code 0 = .ok (.aload_n 2, 1) := by decide +kernel
theorem d_KeyRing_makeMask_1 : decode prog_4_method_7_code 1 = .ok (.aload_n 3, 1) := by decide +kernel
theorem d_KeyRing_makeMask_2 : decode prog_4_method_7_code 2 = .ok (.aload_n 1, 1) := by decide +kernel
theorem d_KeyRing_makeMask_3 : decode prog_4_method_7_code 3 = .ok (.getfield 49, 3) := by decide +kernel
theorem d_KeyRing_makeMask_6 : decode prog_4_method_7_code 6 = .ok (.invokevirtual 106, 3) := by decide +kernel
theorem d_KeyRing_makeMask_9 : decode prog_4_method_7_code 9 = .ok (.aload_n 2, 1) := by decide +kernel
theorem d_KeyRing_makeMask_10 : decode prog_4_method_7_code 10 = .ok (.aload_n 0, 1) := by decide +kernel
theorem d_KeyRing_makeMask_11 : decode prog_4_method_7_code 11 = .ok (.getfield 35, 3) := by decide +kernel
theorem d_KeyRing_makeMask_14 : decode prog_4_method_7_code 14 = .ok (.aload_n 1, 1) := by decide +kernel
theorem d_KeyRing_makeMask_15 : decode prog_4_method_7_code 15 = .ok (.getfield 49, 3) := by decide +kernel
theorem d_KeyRing_makeMask_18 : decode prog_4_method_7_code 18 = .ok (.invokevirtual 109, 3) := by decide +kernel
theorem d_KeyRing_makeMask_21 : decode prog_4_method_7_code 21 = .ok (.aload_n 1, 1) := by decide +kernel
theorem d_KeyRing_makeMask_22 : decode prog_4_method_7_code 22 = .ok (.aload_n 0, 1) := by decide +kernel
theorem d_KeyRing_makeMask_23 : decode prog_4_method_7_code 23 = .ok (.getfield 35, 3) := by decide +kernel
theorem d_KeyRing_makeMask_26 : decode prog_4_method_7_code 26 = .ok (.aload_n 0, 1) := by decide +kernel
theorem d_KeyRing_makeMask_27 : decode prog_4_method_7_code 27 = .ok (.getfield 9, 3) := by decide +kernel
theorem d_KeyRing_makeMask_30 : decode prog_4_method_7_code 30 = .ok (.aload_n 3, 1) := by decide +kernel
theorem d_KeyRing_makeMask_31 : decode prog_4_method_7_code 31 = .ok (.invokevirtual 66, 3) := by decide +kernel
theorem d_KeyRing_makeMask_34 : decode prog_4_method_7_code 34 = .ok (.return_, 1) := by decide +kernel
theorem d_KeyRing_hideBody_0 : decode prog_4_method_8_code 0 = .ok (.iconst 0, 1) := by decide +kernel
theorem d_KeyRing_hideBody_1 : decode prog_4_method_8_code 1 = .ok (.istore_n 3, 1) := by decide +kernel
theorem d_KeyRing_hideBody_2 : decode prog_4_method_8_code 2 = .ok (.iload_n 3, 1) := by decide +kernel
theorem d_KeyRing_hideBody_3 : decode prog_4_method_8_code 3 = .ok (.aload_n 1, 1) := by decide +kernel
theorem d_KeyRing_hideBody_4 : decode prog_4_method_8_code 4 = .ok (.getfield 49, 3) := by decide +kernel
theorem d_KeyRing_hideBody_7 : decode prog_4_method_8_code 7 = .ok (.if_icmp .ge 25, 3) := by decide +kernel
theorem d_KeyRing_hideBody_10 : decode prog_4_method_8_code 10 = .ok (.aload_n 2, 1) := by decide +kernel
theorem d_KeyRing_hideBody_11 : decode prog_4_method_8_code 11 = .ok (.iload_n 3, 1) := by decide +kernel
theorem d_KeyRing_hideBody_12 : decode prog_4_method_8_code 12 = .ok (.aload_n 0, 1) := by decide +kernel
theorem d_KeyRing_hideBody_13 : decode prog_4_method_8_code 13 = .ok (.getfield 35, 3) := by decide +kernel
theorem d_KeyRing_hideBody_16 : decode prog_4_method_8_code 16 = .ok (.iload_n 3, 1) := by decide +kernel
theorem d_KeyRing_hideBody_17 : decode prog_4_method_8_code 17 = .ok (.laload, 1) := by decide +kernel
theorem d_KeyRing_hideBody_18 : decode prog_4_method_8_code 18 = .ok (.lneg, 1) := by decide +kernel
theorem d_KeyRing_hideBody_19 : decode prog_4_method_8_code 19 = .ok (.ldc2_w 112, 3) := by decide +kernel
theorem d_KeyRing_hideBody_22 : decode prog_4_method_8_code 22 = .ok (.invokestatic 114, 3) := by decide +kernel
theorem d_KeyRing_hideBody_25 : decode prog_4_method_8_code 25 = .ok (.lastore, 1) := by decide +kernel
theorem d_KeyRing_hideBody_26 : decode prog_4_method_8_code 26 = .ok (.iinc 3 1, 3) := by decide +kernel
theorem d_KeyRing_hideBody_29 : decode prog_4_method_8_code 29 = .ok (.goto (-27), 3) := by decide +kernel
theorem d_KeyRing_hideBody_32 : decode prog_4_method_8_code 32 = .ok (.return_, 1) := by decide +kernel
theorem d_KeyRing_findPhase_0 : decode prog_4_method_9_code 0 = .ok (.aload_n 1, 1) := by decide +kernel
theorem d_KeyRing_findPhase_1 : decode prog_4_method_9_code 1 = .ok (.aload_n 0, 1) := by decide +kernel
theorem d_KeyRing_findPhase_2 : decode prog_4_method_9_code 2 = .ok (.getfield 35, 3) := by decide +kernel
theorem d_KeyRing_findPhase_5 : decode prog_4_method_9_code 5 = .ok (.aload_n 3, 1) := by decide +kernel
theorem d_KeyRing_findPhase_6 : decode prog_4_method_9_code 6 = .ok (.getfield 118, 3) := by decide +kernel
theorem d_KeyRing_findPhase_9 : decode prog_4_method_9_code 9 = .ok (.iconst 0, 1) := by decide +kernel
theorem d_KeyRing_findPhase_10 : decode prog_4_method_9_code 10 = .ok (.aaload, 1) := by decide +kernel
theorem d_KeyRing_findPhase_11 : decode prog_4_method_9_code 11 = .ok (.invokevirtual 123, 3) := by decide +kernel
theorem d_KeyRing_findPhase_14 : decode prog_4_method_9_code 14 = .ok (.aload_n 1, 1) := by decide +kernel
theorem d_KeyRing_findPhase_15 : decode prog_4_method_9_code 15 = .ok (.aload_n 0, 1) := by decide +kernel
theorem d_KeyRing_findPhase_16 : decode prog_4_method_9_code 16 = .ok (.getfield 35, 3) := by decide +kernel
theorem d_KeyRing_findPhase_19 : decode prog_4_method_9_code 19 = .ok (.aload_n 0, 1) := by decide +kernel
theorem d_KeyRing_findPhase_20 : decode prog_4_method_9_code 20 = .ok (.getfield 9, 3) := by decide +kernel
theorem d_KeyRing_findPhase_23 : decode prog_4_method_9_code 23 = .ok (.aload_n 3, 1) := by decide +kernel
theorem d_KeyRing_findPhase_24 : decode prog_4_method_9_code 24 = .ok (.getfield 118, 3) := by decide +kernel
theorem d_KeyRing_findPhase_27 : decode prog_4_method_9_code 27 = .ok (.iconst 1, 1) := by decide +kernel
theorem d_KeyRing_findPhase_28 : decode prog_4_method_9_code 28 = .ok (.aaload, 1) := by decide +kernel
theorem d_KeyRing_findPhase_29 : decode prog_4_method_9_code 29 = .ok (.invokevirtual 66, 3) := by decide +kernel
theorem d_KeyRing_findPhase_32 : decode prog_4_method_9_code 32 = .ok (.aload_n 3, 1) := by decide +kernel
theorem d_KeyRing_findPhase_33 : decode prog_4_method_9_code 33 = .ok (.getfield 127, 3) := by decide +kernel
theorem d_KeyRing_findPhase_36 : decode prog_4_method_9_code 36 = .ok (.iconst 3, 1) := by decide +kernel
theorem d_KeyRing_findPhase_37 : decode prog_4_method_9_code 37 = .ok (.if_icmp .ne 21, 3) := by decide +kernel
theorem d_KeyRing_findPhase_40 : decode prog_4_method_9_code 40 = .ok (.aload_n 1, 1) := by decide +kernel
theorem d_KeyRing_findPhase_41 : decode prog_4_method_9_code 41 = .ok (.aload_n 0, 1) := by decide +kernel
theorem d_KeyRing_findPhase_42 : decode prog_4_method_9_code 42 = .ok (.getfield 35, 3) := by decide +kernel
theorem d_KeyRing_findPhase_45 : decode prog_4_method_9_code 45 = .ok (.aload_n 0, 1) := by decide +kernel
theorem d_KeyRing_findPhase_46 : decode prog_4_method_9_code 46 = .ok (.getfield 15, 3) := by decide +kernel
theorem d_KeyRing_findPhase_49 : decode prog_4_method_9_code 49 = .ok (.aload_n 3, 1) := by decide +kernel
theorem d_KeyRing_findPhase_50 : decode prog_4_method_9_code 50 = .ok (.getfield 118, 3) := by decide +kernel
theorem d_KeyRing_findPhase_53 : decode prog_4_method_9_code 53 = .ok (.iconst 2, 1) := by decide +kernel
theorem d_KeyRing_findPhase_54 : decode prog_4_method_9_code 54 = .ok (.aaload, 1) := by decide +kernel
theorem d_KeyRing_findPhase_55 : decode prog_4_method_9_code 55 = .ok (.invokevirtual 66, 3) := by decide +kernel
theorem d_KeyRing_findPhase_58 : decode prog_4_method_9_code 58 = .ok (.aload_n 1, 1) := by decide +kernel
theorem d_KeyRing_findPhase_59 : decode prog_4_method_9_code 59 = .ok (.aload_n 2, 1) := by decide +kernel
theorem d_KeyRing_findPhase_60 : decode prog_4_method_9_code 60 = .ok (.aload_n 0, 1) := by decide +kernel
theorem d_KeyRing_findPhase_61 : decode prog_4_method_9_code 61 = .ok (.getfield 35, 3) := by decide +kernel
theorem d_KeyRing_findPhase_64 : decode prog_4_method_9_code 64 = .ok (.invokevirtual 130, 3) := by decide +kernel
theorem d_KeyRing_findPhase_67 : decode prog_4_method_9_code 67 = .ok (.return_, 1) := by decide +kernel

theorem ff_Cipher_11 : zFF "RingCipher$Cipher" 11 cCipher 1 := ⟨R_Cipher, F_Cipher, 2, t_Cipher, rfl, by decide, i_Cipher, t_Cipher_ok, n_Cipher, Or.inl ⟨List.mem_append_right _ (List.mem_of_getElem? (i := 157) (by decide +kernel)), by decide +kernel⟩⟩
theorem co_Cipher_init : zCo M_Cipher_init := Or.inl ⟨⟨List.mem_append_right _ (List.mem_of_getElem? (i := 152) (by decide +kernel)), by decide +kernel⟩, rfl⟩
theorem d_Cipher_init_0 : decode prog_3_method_1_code 0 = .ok (.aload_n 0, 1) := by decide +kernel
theorem d_Cipher_init_1 : decode prog_3_method_1_code 1 = .ok (.invokespecial 3, 3) := by decide +kernel
theorem d_Cipher_init_4 : decode prog_3_method_1_code 4 = .ok (.aload_n 0, 1) := by decide +kernel
theorem d_Cipher_init_5 : decode prog_3_method_1_code 5 = .ok (.iconst 3, 1) := by decide +kernel
theorem d_Cipher_init_6 : decode prog_3_method_1_code 6 = .ok (.bipush 32, 2) := by decide +kernel
theorem d_Cipher_init_8 : decode prog_3_method_1_code 8 = .ok (.multianewarray 9 2, 4) := by decide +kernel
theorem d_Cipher_init_12 : decode prog_3_method_1_code 12 = .ok (.putfield 11, 3) := by decide +kernel
theorem d_Cipher_init_15 : decode prog_3_method_1_code 15 = .ok (.return_, 1) := by decide +kernel

theorem ff_SwitchKey_11 : zFF "RingCipher$SwitchKey" 11 cSwitchKey 1 := ⟨R_SwitchKey, F_SwitchKey, 3, t_SwitchKey, rfl, by decide, i_SwitchKey, t_SwitchKey_ok, n_SwitchKey, Or.inl ⟨List.mem_append_right _ (List.mem_of_getElem? (i := 95) (by decide +kernel)), by decide +kernel⟩⟩
theorem ff_SwitchKey_16 : zFF "RingCipher$SwitchKey" 16 cSwitchKey 2 := ⟨R_SwitchKey, F_SwitchKey, 3, t_SwitchKey, rfl, by decide, i_SwitchKey, t_SwitchKey_ok, n_SwitchKey, Or.inl ⟨List.mem_append_right _ (List.mem_of_getElem? (i := 98) (by decide +kernel)), by decide +kernel⟩⟩
theorem co_SwitchKey_init : zCo M_SwitchKey_init := Or.inl ⟨⟨List.mem_append_right _ (List.mem_of_getElem? (i := 90) (by decide +kernel)), by decide +kernel⟩, rfl⟩
theorem d_SwitchKey_init_0 : decode prog_6_method_1_code 0 = .ok (.aload_n 0, 1) := by decide +kernel
theorem d_SwitchKey_init_1 : decode prog_6_method_1_code 1 = .ok (.invokespecial 3, 3) := by decide +kernel
theorem d_SwitchKey_init_4 : decode prog_6_method_1_code 4 = .ok (.aload_n 0, 1) := by decide +kernel
theorem d_SwitchKey_init_5 : decode prog_6_method_1_code 5 = .ok (.bipush 6, 2) := by decide +kernel
theorem d_SwitchKey_init_7 : decode prog_6_method_1_code 7 = .ok (.bipush 32, 2) := by decide +kernel
theorem d_SwitchKey_init_9 : decode prog_6_method_1_code 9 = .ok (.multianewarray 9 2, 4) := by decide +kernel
theorem d_SwitchKey_init_13 : decode prog_6_method_1_code 13 = .ok (.putfield 11, 3) := by decide +kernel
theorem d_SwitchKey_init_16 : decode prog_6_method_1_code 16 = .ok (.aload_n 0, 1) := by decide +kernel
theorem d_SwitchKey_init_17 : decode prog_6_method_1_code 17 = .ok (.bipush 6, 2) := by decide +kernel
theorem d_SwitchKey_init_19 : decode prog_6_method_1_code 19 = .ok (.bipush 32, 2) := by decide +kernel
theorem d_SwitchKey_init_21 : decode prog_6_method_1_code 21 = .ok (.multianewarray 9 2, 4) := by decide +kernel
theorem d_SwitchKey_init_25 : decode prog_6_method_1_code 25 = .ok (.putfield 16, 3) := by decide +kernel
theorem d_SwitchKey_init_28 : decode prog_6_method_1_code 28 = .ok (.return_, 1) := by decide +kernel

