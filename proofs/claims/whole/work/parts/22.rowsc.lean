theorem ff_X_250 : zFF "RingCipher" 250 cRing 0 := ⟨R_Ring, F_Ring, 5, t_Ring, rfl, by decide, i_Ring, t_Ring_ok, n_Ring, Or.inr ⟨"RingCipher", List.mem_append_right _ (List.mem_of_getElem? (i := 49) (by decide +kernel)), by decide +kernel⟩⟩
theorem ff_X_78 : zFF "RingCipher" 78 cRing 1 := ⟨R_Ring, F_Ring, 5, t_Ring, rfl, by decide, i_Ring, t_Ring_ok, n_Ring, Or.inr ⟨"RingCipher", List.mem_append_right _ (List.mem_of_getElem? (i := 51) (by decide +kernel)), by decide +kernel⟩⟩
theorem ff_X_117 : zFF "RingCipher" 117 cRing 2 := ⟨R_Ring, F_Ring, 5, t_Ring, rfl, by decide, i_Ring, t_Ring_ok, n_Ring, Or.inr ⟨"RingCipher", List.mem_append_right _ (List.mem_of_getElem? (i := 54) (by decide +kernel)), by decide +kernel⟩⟩
theorem ff_X_253 : zFF "RingCipher" 253 cRing 3 := ⟨R_Ring, F_Ring, 5, t_Ring, rfl, by decide, i_Ring, t_Ring_ok, n_Ring, Or.inr ⟨"RingCipher", List.mem_append_right _ (List.mem_of_getElem? (i := 56) (by decide +kernel)), by decide +kernel⟩⟩
theorem ff_X_283 : zFF "RingCipher" 283 cSwitchKey 1 := ⟨R_SwitchKey, F_SwitchKey, 3, t_SwitchKey, rfl, by decide, i_SwitchKey, t_SwitchKey_ok, n_SwitchKey, Or.inr ⟨"RingCipher", List.mem_append_right _ (List.mem_of_getElem? (i := 97) (by decide +kernel)), by decide +kernel⟩⟩
theorem ff_X_288 : zFF "RingCipher" 288 cSwitchKey 2 := ⟨R_SwitchKey, F_SwitchKey, 3, t_SwitchKey, rfl, by decide, i_SwitchKey, t_SwitchKey_ok, n_SwitchKey, Or.inr ⟨"RingCipher", List.mem_append_right _ (List.mem_of_getElem? (i := 100) (by decide +kernel)), by decide +kernel⟩⟩
theorem ff_X_88 : zFF "RingCipher" 88 cKeyRing 0 := ⟨R_KeyRing, F_KeyRing, 10, t_KeyRing, rfl, by decide, i_KeyRing, t_KeyRing_ok, n_KeyRing, Or.inr ⟨"RingCipher", List.mem_append_right _ (List.mem_of_getElem? (i := 110) (by decide +kernel)), by decide +kernel⟩⟩
theorem ff_X_107 : zFF "RingCipher" 107 cKeyRing 1 := ⟨R_KeyRing, F_KeyRing, 10, t_KeyRing, rfl, by decide, i_KeyRing, t_KeyRing_ok, n_KeyRing, Or.inr ⟨"RingCipher", List.mem_append_right _ (List.mem_of_getElem? (i := 112) (by decide +kernel)), by decide +kernel⟩⟩
theorem ff_X_150 : zFF "RingCipher" 150 cKeyRing 4 := ⟨R_KeyRing, F_KeyRing, 10, t_KeyRing, rfl, by decide, i_KeyRing, t_KeyRing_ok, n_KeyRing, Or.inr ⟨"RingCipher", List.mem_append_right _ (List.mem_of_getElem? (i := 116) (by decide +kernel)), by decide +kernel⟩⟩
theorem ff_X_166 : zFF "RingCipher" 166 cKeyRing 5 := ⟨R_KeyRing, F_KeyRing, 10, t_KeyRing, rfl, by decide, i_KeyRing, t_KeyRing_ok, n_KeyRing, Or.inr ⟨"RingCipher", List.mem_append_right _ (List.mem_of_getElem? (i := 118) (by decide +kernel)), by decide +kernel⟩⟩
theorem ff_X_225 : zFF "RingCipher" 225 cKeyRing 6 := ⟨R_KeyRing, F_KeyRing, 10, t_KeyRing, rfl, by decide, i_KeyRing, t_KeyRing_ok, n_KeyRing, Or.inr ⟨"RingCipher", List.mem_append_right _ (List.mem_of_getElem? (i := 120) (by decide +kernel)), by decide +kernel⟩⟩
theorem ff_X_239 : zFF "RingCipher" 239 cKeyRing 7 := ⟨R_KeyRing, F_KeyRing, 10, t_KeyRing, rfl, by decide, i_KeyRing, t_KeyRing_ok, n_KeyRing, Or.inr ⟨"RingCipher", List.mem_append_right _ (List.mem_of_getElem? (i := 122) (by decide +kernel)), by decide +kernel⟩⟩
theorem ff_X_197 : zFF "RingCipher" 197 cCipher 0 := ⟨R_Cipher, F_Cipher, 2, t_Cipher, rfl, by decide, i_Cipher, t_Cipher_ok, n_Cipher, Or.inr ⟨"RingCipher", List.mem_append_right _ (List.mem_of_getElem? (i := 156) (by decide +kernel)), by decide +kernel⟩⟩
theorem ff_X_221 : zFF "RingCipher" 221 cCipher 1 := ⟨R_Cipher, F_Cipher, 2, t_Cipher, rfl, by decide, i_Cipher, t_Cipher_ok, n_Cipher, Or.inr ⟨"RingCipher", List.mem_append_right _ (List.mem_of_getElem? (i := 159) (by decide +kernel)), by decide +kernel⟩⟩
theorem ff_X_12 : zFF "RingCipher" 12 cX 0 := ⟨R_X, F_X, 7, t_X, rfl, by decide, i_X, t_X_ok, n_X, Or.inl ⟨List.mem_append_right _ (List.mem_of_getElem? (i := 165) (by decide +kernel)), by decide +kernel⟩⟩
theorem ff_X_19 : zFF "RingCipher" 19 cX 1 := ⟨R_X, F_X, 7, t_X, rfl, by decide, i_X, t_X_ok, n_X, Or.inl ⟨List.mem_append_right _ (List.mem_of_getElem? (i := 166) (by decide +kernel)), by decide +kernel⟩⟩
theorem ff_X_26 : zFF "RingCipher" 26 cX 2 := ⟨R_X, F_X, 7, t_X, rfl, by decide, i_X, t_X_ok, n_X, Or.inl ⟨List.mem_append_right _ (List.mem_of_getElem? (i := 167) (by decide +kernel)), by decide +kernel⟩⟩
theorem ff_X_32 : zFF "RingCipher" 32 cX 3 := ⟨R_X, F_X, 7, t_X, rfl, by decide, i_X, t_X_ok, n_X, Or.inl ⟨List.mem_append_right _ (List.mem_of_getElem? (i := 168) (by decide +kernel)), by decide +kernel⟩⟩
theorem ff_X_37 : zFF "RingCipher" 37 cX 4 := ⟨R_X, F_X, 7, t_X, rfl, by decide, i_X, t_X_ok, n_X, Or.inl ⟨List.mem_append_right _ (List.mem_of_getElem? (i := 169) (by decide +kernel)), by decide +kernel⟩⟩
theorem ff_X_42 : zFF "RingCipher" 42 cX 5 := ⟨R_X, F_X, 7, t_X, rfl, by decide, i_X, t_X_ok, n_X, Or.inl ⟨List.mem_append_right _ (List.mem_of_getElem? (i := 170) (by decide +kernel)), by decide +kernel⟩⟩
theorem ff_X_45 : zFF "RingCipher" 45 cX 6 := ⟨R_X, F_X, 7, t_X, rfl, by decide, i_X, t_X_ok, n_X, Or.inl ⟨List.mem_append_right _ (List.mem_of_getElem? (i := 171) (by decide +kernel)), by decide +kernel⟩⟩
theorem k_X_306 : zin (.constantLong "RingCipher" 306 (Int64.ofInt (268435399))) := ⟨List.mem_append_right _ (List.mem_of_getElem? (i := 507) (by decide +kernel)), by decide +kernel⟩
theorem k_X_308 : zin (.constantLong "RingCipher" 308 (Int64.ofInt (134217699))) := ⟨List.mem_append_right _ (List.mem_of_getElem? (i := 509) (by decide +kernel)), by decide +kernel⟩
theorem k_X_206 : zin (.constantLong "RingCipher" 206 (Int64.ofInt (-1))) := ⟨List.mem_append_right _ (List.mem_of_getElem? (i := 558) (by decide +kernel)), by decide +kernel⟩
theorem k_X_281 : zin (.constantLong "RingCipher" 281 (Int64.ofInt (31))) := ⟨List.mem_append_right _ (List.mem_of_getElem? (i := 592) (by decide +kernel)), by decide +kernel⟩
theorem g_X_11 : zGI "RingCipher" 11 M_Ring_init 0 := ⟨Or.inr ⟨"RingCipher", List.mem_append_right _ (List.mem_of_getElem? (i := 28) (by decide +kernel)), by decide +kernel⟩, ⟨List.mem_append_right _ (List.mem_of_getElem? (i := 29) (by decide +kernel)), by decide +kernel⟩, rfl, rfl, ⟨List.mem_append_right _ (List.mem_of_getElem? (i := 30) (by decide +kernel)), by decide +kernel⟩, ⟨by decide +kernel, by decide +kernel⟩, by decide +kernel⟩
theorem g_X_18 : zGI "RingCipher" 18 M_Chance_init 0 := ⟨Or.inr ⟨"RingCipher", List.mem_append_right _ (List.mem_of_getElem? (i := 72) (by decide +kernel)), by decide +kernel⟩, ⟨List.mem_append_right _ (List.mem_of_getElem? (i := 73) (by decide +kernel)), by decide +kernel⟩, rfl, rfl, ⟨List.mem_append_right _ (List.mem_of_getElem? (i := 74) (by decide +kernel)), by decide +kernel⟩, ⟨by decide +kernel, by decide +kernel⟩, by decide +kernel⟩
theorem g_X_25 : zGI "RingCipher" 25 M_KeyRing_init 0 := ⟨Or.inr ⟨"RingCipher", List.mem_append_right _ (List.mem_of_getElem? (i := 82) (by decide +kernel)), by decide +kernel⟩, ⟨List.mem_append_right _ (List.mem_of_getElem? (i := 83) (by decide +kernel)), by decide +kernel⟩, rfl, rfl, ⟨List.mem_append_right _ (List.mem_of_getElem? (i := 84) (by decide +kernel)), by decide +kernel⟩, ⟨by decide +kernel, by decide +kernel⟩, by decide +kernel⟩
theorem g_X_41 : zGI "RingCipher" 41 M_Cipher_init 0 := ⟨Or.inr ⟨"RingCipher", List.mem_append_right _ (List.mem_of_getElem? (i := 150) (by decide +kernel)), by decide +kernel⟩, ⟨List.mem_append_right _ (List.mem_of_getElem? (i := 151) (by decide +kernel)), by decide +kernel⟩, rfl, rfl, ⟨List.mem_append_right _ (List.mem_of_getElem? (i := 152) (by decide +kernel)), by decide +kernel⟩, ⟨by decide +kernel, by decide +kernel⟩, by decide +kernel⟩
theorem g_X_82 : zGV "RingCipher" 82 M_KeyRing_renew 2 := ⟨Or.inr ⟨"RingCipher", List.mem_append_right _ (List.mem_of_getElem? (i := 191) (by decide +kernel)), by decide +kernel⟩, ⟨List.mem_append_right _ (List.mem_of_getElem? (i := 193) (by decide +kernel)), by decide +kernel⟩, ⟨List.mem_append_left _ (List.mem_of_getElem? (i := 3) (by decide +kernel)), by decide +kernel⟩, ⟨by decide +kernel, by decide +kernel⟩, by decide +kernel⟩
theorem g_X_69 : zGV "RingCipher" 69 M_X_emptyCiphers 0 := ⟨Or.inl ⟨List.mem_append_right _ (List.mem_of_getElem? (i := 248) (by decide +kernel)), by decide +kernel⟩, ⟨List.mem_append_right _ (List.mem_of_getElem? (i := 250) (by decide +kernel)), by decide +kernel⟩, ⟨List.mem_append_left _ (List.mem_of_getElem? (i := 13) (by decide +kernel)), by decide +kernel⟩, ⟨by decide +kernel, by decide +kernel⟩, by decide +kernel⟩
theorem g_X_256 : zGV "RingCipher" 256 M_X_fullCiphers 0 := ⟨Or.inl ⟨List.mem_append_right _ (List.mem_of_getElem? (i := 256) (by decide +kernel)), by decide +kernel⟩, ⟨List.mem_append_right _ (List.mem_of_getElem? (i := 258) (by decide +kernel)), by decide +kernel⟩, ⟨List.mem_append_left _ (List.mem_of_getElem? (i := 14) (by decide +kernel)), by decide +kernel⟩, ⟨by decide +kernel, by decide +kernel⟩, by decide +kernel⟩
theorem g_X_260 : zGV "RingCipher" 260 M_Chance_upperHalf 0 := ⟨Or.inr ⟨"RingCipher", List.mem_append_right _ (List.mem_of_getElem? (i := 260) (by decide +kernel)), by decide +kernel⟩, ⟨List.mem_append_right _ (List.mem_of_getElem? (i := 262) (by decide +kernel)), by decide +kernel⟩, ⟨List.mem_append_left _ (List.mem_of_getElem? (i := 15) (by decide +kernel)), by decide +kernel⟩, ⟨by decide +kernel, by decide +kernel⟩, by decide +kernel⟩
theorem g_X_59 : zGV "RingCipher" 59 M_Ring_choose 1 := ⟨Or.inr ⟨"RingCipher", List.mem_append_right _ (List.mem_of_getElem? (i := 341) (by decide +kernel)), by decide +kernel⟩, ⟨List.mem_append_right _ (List.mem_of_getElem? (i := 34) (by decide +kernel)), by decide +kernel⟩, ⟨List.mem_append_left _ (List.mem_of_getElem? (i := 0) (by decide +kernel)), by decide +kernel⟩, ⟨by decide +kernel, by decide +kernel⟩, by decide +kernel⟩
theorem g_X_63 : zGV "RingCipher" 63 M_Chance_restart 1 := ⟨Or.inr ⟨"RingCipher", List.mem_append_right _ (List.mem_of_getElem? (i := 342) (by decide +kernel)), by decide +kernel⟩, ⟨List.mem_append_right _ (List.mem_of_getElem? (i := 344) (by decide +kernel)), by decide +kernel⟩, ⟨List.mem_append_left _ (List.mem_of_getElem? (i := 17) (by decide +kernel)), by decide +kernel⟩, ⟨by decide +kernel, by decide +kernel⟩, by decide +kernel⟩
theorem g_X_66 : zGV "RingCipher" 66 M_KeyRing_forget 0 := ⟨Or.inr ⟨"RingCipher", List.mem_append_right _ (List.mem_of_getElem? (i := 346) (by decide +kernel)), by decide +kernel⟩, ⟨List.mem_append_right _ (List.mem_of_getElem? (i := 348) (by decide +kernel)), by decide +kernel⟩, ⟨List.mem_append_left _ (List.mem_of_getElem? (i := 18) (by decide +kernel)), by decide +kernel⟩, ⟨by decide +kernel, by decide +kernel⟩, by decide +kernel⟩
theorem g_X_72 : zGS "RingCipher" 72 M_Arrays_fill 2 := ⟨Or.inl ⟨List.mem_append_right _ (List.mem_of_getElem? (i := 350) (by decide +kernel)), by decide +kernel⟩, ⟨List.mem_append_right _ (List.mem_of_getElem? (i := 206) (by decide +kernel)), by decide +kernel⟩, ⟨List.mem_append_right _ (List.mem_of_getElem? (i := 12) (by decide +kernel)), by decide +kernel⟩, ⟨by decide +kernel, by decide +kernel⟩, by decide +kernel⟩
theorem g_X_97 : zGV "RingCipher" 97 M_KeyRing_placeOfTurn 1 := ⟨Or.inr ⟨"RingCipher", List.mem_append_right _ (List.mem_of_getElem? (i := 376) (by decide +kernel)), by decide +kernel⟩, ⟨List.mem_append_right _ (List.mem_of_getElem? (i := 378) (by decide +kernel)), by decide +kernel⟩, ⟨List.mem_append_left _ (List.mem_of_getElem? (i := 19) (by decide +kernel)), by decide +kernel⟩, ⟨by decide +kernel, by decide +kernel⟩, by decide +kernel⟩
theorem g_X_103 : zGV "RingCipher" 103 M_KeyRing_makeTurn 4 := ⟨Or.inr ⟨"RingCipher", List.mem_append_right _ (List.mem_of_getElem? (i := 381) (by decide +kernel)), by decide +kernel⟩, ⟨List.mem_append_right _ (List.mem_of_getElem? (i := 383) (by decide +kernel)), by decide +kernel⟩, ⟨List.mem_append_left _ (List.mem_of_getElem? (i := 20) (by decide +kernel)), by decide +kernel⟩, ⟨by decide +kernel, by decide +kernel⟩, by decide +kernel⟩
theorem g_X_110 : zGV "RingCipher" 110 M_X_plainAt 1 := ⟨Or.inl ⟨List.mem_append_right _ (List.mem_of_getElem? (i := 402) (by decide +kernel)), by decide +kernel⟩, ⟨List.mem_append_right _ (List.mem_of_getElem? (i := 404) (by decide +kernel)), by decide +kernel⟩, ⟨List.mem_append_left _ (List.mem_of_getElem? (i := 22) (by decide +kernel)), by decide +kernel⟩, ⟨by decide +kernel, by decide +kernel⟩, by decide +kernel⟩
theorem g_X_114 : zGV "RingCipher" 114 M_X_checkCoefficient 1 := ⟨Or.inl ⟨List.mem_append_right _ (List.mem_of_getElem? (i := 422) (by decide +kernel)), by decide +kernel⟩, ⟨List.mem_append_right _ (List.mem_of_getElem? (i := 424) (by decide +kernel)), by decide +kernel⟩, ⟨List.mem_append_left _ (List.mem_of_getElem? (i := 23) (by decide +kernel)), by decide +kernel⟩, ⟨by decide +kernel, by decide +kernel⟩, by decide +kernel⟩
theorem g_X_120 : zGS "RingCipher" 120 M_Math_floorMod_II 2 := ⟨Or.inl ⟨List.mem_append_right _ (List.mem_of_getElem? (i := 427) (by decide +kernel)), by decide +kernel⟩, ⟨List.mem_append_right _ (List.mem_of_getElem? (i := 428) (by decide +kernel)), by decide +kernel⟩, ⟨List.mem_append_right _ (List.mem_of_getElem? (i := 14) (by decide +kernel)), by decide +kernel⟩, ⟨by decide +kernel, by decide +kernel⟩, by decide +kernel⟩
theorem g_X_126 : zGV "RingCipher" 126 M_Ring_evaluate 2 := ⟨Or.inr ⟨"RingCipher", List.mem_append_right _ (List.mem_of_getElem? (i := 444) (by decide +kernel)), by decide +kernel⟩, ⟨List.mem_append_right _ (List.mem_of_getElem? (i := 446) (by decide +kernel)), by decide +kernel⟩, ⟨List.mem_append_left _ (List.mem_of_getElem? (i := 24) (by decide +kernel)), by decide +kernel⟩, ⟨by decide +kernel, by decide +kernel⟩, by decide +kernel⟩
theorem g_X_130 : zGV "RingCipher" 130 M_Ring_interpolate 2 := ⟨Or.inr ⟨"RingCipher", List.mem_append_right _ (List.mem_of_getElem? (i := 448) (by decide +kernel)), by decide +kernel⟩, ⟨List.mem_append_right _ (List.mem_of_getElem? (i := 450) (by decide +kernel)), by decide +kernel⟩, ⟨List.mem_append_left _ (List.mem_of_getElem? (i := 25) (by decide +kernel)), by decide +kernel⟩, ⟨by decide +kernel, by decide +kernel⟩, by decide +kernel⟩
theorem g_X_139 : zGV "RingCipher" 139 M_X_placeAt 1 := ⟨Or.inl ⟨List.mem_append_right _ (List.mem_of_getElem? (i := 462) (by decide +kernel)), by decide +kernel⟩, ⟨List.mem_append_right _ (List.mem_of_getElem? (i := 464) (by decide +kernel)), by decide +kernel⟩, ⟨List.mem_append_left _ (List.mem_of_getElem? (i := 26) (by decide +kernel)), by decide +kernel⟩, ⟨by decide +kernel, by decide +kernel⟩, by decide +kernel⟩
theorem g_X_143 : zGV "RingCipher" 143 M_Chance_fillTernary 2 := ⟨Or.inr ⟨"RingCipher", List.mem_append_right _ (List.mem_of_getElem? (i := 467) (by decide +kernel)), by decide +kernel⟩, ⟨List.mem_append_right _ (List.mem_of_getElem? (i := 197) (by decide +kernel)), by decide +kernel⟩, ⟨List.mem_append_left _ (List.mem_of_getElem? (i := 4) (by decide +kernel)), by decide +kernel⟩, ⟨by decide +kernel, by decide +kernel⟩, by decide +kernel⟩
theorem g_X_147 : zGV "RingCipher" 147 M_Chance_fillErrors 2 := ⟨Or.inr ⟨"RingCipher", List.mem_append_right _ (List.mem_of_getElem? (i := 468) (by decide +kernel)), by decide +kernel⟩, ⟨List.mem_append_right _ (List.mem_of_getElem? (i := 224) (by decide +kernel)), by decide +kernel⟩, ⟨List.mem_append_left _ (List.mem_of_getElem? (i := 9) (by decide +kernel)), by decide +kernel⟩, ⟨by decide +kernel, by decide +kernel⟩, by decide +kernel⟩
theorem g_X_154 : zGV "RingCipher" 154 M_Ring_addProduct 3 := ⟨Or.inr ⟨"RingCipher", List.mem_append_right _ (List.mem_of_getElem? (i := 469) (by decide +kernel)), by decide +kernel⟩, ⟨List.mem_append_right _ (List.mem_of_getElem? (i := 210) (by decide +kernel)), by decide +kernel⟩, ⟨List.mem_append_left _ (List.mem_of_getElem? (i := 6) (by decide +kernel)), by decide +kernel⟩, ⟨by decide +kernel, by decide +kernel⟩, by decide +kernel⟩
theorem g_X_158 : zGV "RingCipher" 158 M_Ring_scale 0 := ⟨Or.inr ⟨"RingCipher", List.mem_append_right _ (List.mem_of_getElem? (i := 470) (by decide +kernel)), by decide +kernel⟩, ⟨List.mem_append_right _ (List.mem_of_getElem? (i := 472) (by decide +kernel)), by decide +kernel⟩, ⟨List.mem_append_left _ (List.mem_of_getElem? (i := 27) (by decide +kernel)), by decide +kernel⟩, ⟨by decide +kernel, by decide +kernel⟩, by decide +kernel⟩
theorem g_X_162 : zGV "RingCipher" 162 M_Ring_addScaled 3 := ⟨Or.inr ⟨"RingCipher", List.mem_append_right _ (List.mem_of_getElem? (i := 474) (by decide +kernel)), by decide +kernel⟩, ⟨List.mem_append_right _ (List.mem_of_getElem? (i := 246) (by decide +kernel)), by decide +kernel⟩, ⟨List.mem_append_left _ (List.mem_of_getElem? (i := 12) (by decide +kernel)), by decide +kernel⟩, ⟨by decide +kernel, by decide +kernel⟩, by decide +kernel⟩
theorem g_X_169 : zGV "RingCipher" 169 M_X_storeTwoParts 1 := ⟨Or.inl ⟨List.mem_append_right _ (List.mem_of_getElem? (i := 475) (by decide +kernel)), by decide +kernel⟩, ⟨List.mem_append_right _ (List.mem_of_getElem? (i := 477) (by decide +kernel)), by decide +kernel⟩, ⟨List.mem_append_left _ (List.mem_of_getElem? (i := 28) (by decide +kernel)), by decide +kernel⟩, ⟨by decide +kernel, by decide +kernel⟩, by decide +kernel⟩
theorem g_X_274 : zGV "RingCipher" 274 M_X_storeSums 2 := ⟨Or.inl ⟨List.mem_append_right _ (List.mem_of_getElem? (i := 479) (by decide +kernel)), by decide +kernel⟩, ⟨List.mem_append_right _ (List.mem_of_getElem? (i := 481) (by decide +kernel)), by decide +kernel⟩, ⟨List.mem_append_left _ (List.mem_of_getElem? (i := 29) (by decide +kernel)), by decide +kernel⟩, ⟨by decide +kernel, by decide +kernel⟩, by decide +kernel⟩
theorem g_X_291 : zGV "RingCipher" 291 M_Ring_reduce 2 := ⟨Or.inr ⟨"RingCipher", List.mem_append_right _ (List.mem_of_getElem? (i := 483) (by decide +kernel)), by decide +kernel⟩, ⟨List.mem_append_right _ (List.mem_of_getElem? (i := 485) (by decide +kernel)), by decide +kernel⟩, ⟨List.mem_append_left _ (List.mem_of_getElem? (i := 30) (by decide +kernel)), by decide +kernel⟩, ⟨by decide +kernel, by decide +kernel⟩, by decide +kernel⟩
theorem g_X_176 : zGV "RingCipher" 176 M_X_phaseOf 1 := ⟨Or.inl ⟨List.mem_append_right _ (List.mem_of_getElem? (i := 487) (by decide +kernel)), by decide +kernel⟩, ⟨List.mem_append_right _ (List.mem_of_getElem? (i := 489) (by decide +kernel)), by decide +kernel⟩, ⟨List.mem_append_left _ (List.mem_of_getElem? (i := 31) (by decide +kernel)), by decide +kernel⟩, ⟨by decide +kernel, by decide +kernel⟩, by decide +kernel⟩
theorem g_X_294 : zGV "RingCipher" 294 M_KeyRing_findPhase 3 := ⟨Or.inr ⟨"RingCipher", List.mem_append_right _ (List.mem_of_getElem? (i := 491) (by decide +kernel)), by decide +kernel⟩, ⟨List.mem_append_right _ (List.mem_of_getElem? (i := 493) (by decide +kernel)), by decide +kernel⟩, ⟨List.mem_append_left _ (List.mem_of_getElem? (i := 32) (by decide +kernel)), by decide +kernel⟩, ⟨by decide +kernel, by decide +kernel⟩, by decide +kernel⟩
theorem g_X_184 : zGS "RingCipher" 184 M_Math_floorMod_JJ 2 := ⟨Or.inl ⟨List.mem_append_right _ (List.mem_of_getElem? (i := 508) (by decide +kernel)), by decide +kernel⟩, ⟨List.mem_append_right _ (List.mem_of_getElem? (i := 238) (by decide +kernel)), by decide +kernel⟩, ⟨List.mem_append_right _ (List.mem_of_getElem? (i := 14) (by decide +kernel)), by decide +kernel⟩, ⟨by decide +kernel, by decide +kernel⟩, by decide +kernel⟩
theorem g_X_187 : zGV "RingCipher" 187 M_X_noiseIn 1 := ⟨Or.inl ⟨List.mem_append_right _ (List.mem_of_getElem? (i := 510) (by decide +kernel)), by decide +kernel⟩, ⟨List.mem_append_right _ (List.mem_of_getElem? (i := 512) (by decide +kernel)), by decide +kernel⟩, ⟨List.mem_append_left _ (List.mem_of_getElem? (i := 35) (by decide +kernel)), by decide +kernel⟩, ⟨by decide +kernel, by decide +kernel⟩, by decide +kernel⟩
theorem g_X_298 : zGS "RingCipher" 298 M_X_centred 1 := ⟨Or.inl ⟨List.mem_append_right _ (List.mem_of_getElem? (i := 514) (by decide +kernel)), by decide +kernel⟩, ⟨List.mem_append_right _ (List.mem_of_getElem? (i := 505) (by decide +kernel)), by decide +kernel⟩, ⟨List.mem_append_right _ (List.mem_of_getElem? (i := 1) (by decide +kernel)), by decide +kernel⟩, ⟨by decide +kernel, by decide +kernel⟩, by decide +kernel⟩
theorem g_X_301 : zGS "RingCipher" 301 M_Math_abs 1 := ⟨Or.inl ⟨List.mem_append_right _ (List.mem_of_getElem? (i := 515) (by decide +kernel)), by decide +kernel⟩, ⟨List.mem_append_right _ (List.mem_of_getElem? (i := 516) (by decide +kernel)), by decide +kernel⟩, ⟨List.mem_append_right _ (List.mem_of_getElem? (i := 14) (by decide +kernel)), by decide +kernel⟩, ⟨by decide +kernel, by decide +kernel⟩, by decide +kernel⟩
theorem g_X_304 : zGS "RingCipher" 304 M_Math_max_JJ 2 := ⟨Or.inl ⟨List.mem_append_right _ (List.mem_of_getElem? (i := 518) (by decide +kernel)), by decide +kernel⟩, ⟨List.mem_append_right _ (List.mem_of_getElem? (i := 519) (by decide +kernel)), by decide +kernel⟩, ⟨List.mem_append_right _ (List.mem_of_getElem? (i := 14) (by decide +kernel)), by decide +kernel⟩, ⟨by decide +kernel, by decide +kernel⟩, by decide +kernel⟩
theorem g_X_191 : zGS "RingCipher" 191 M_X_budgetOf 1 := ⟨Or.inl ⟨List.mem_append_right _ (List.mem_of_getElem? (i := 521) (by decide +kernel)), by decide +kernel⟩, ⟨List.mem_append_right _ (List.mem_of_getElem? (i := 522) (by decide +kernel)), by decide +kernel⟩, ⟨List.mem_append_right _ (List.mem_of_getElem? (i := 1) (by decide +kernel)), by decide +kernel⟩, ⟨by decide +kernel, by decide +kernel⟩, by decide +kernel⟩
theorem g_X_173 : zGV "RingCipher" 173 M_X_takenAt 1 := ⟨Or.inl ⟨List.mem_append_right _ (List.mem_of_getElem? (i := 531) (by decide +kernel)), by decide +kernel⟩, ⟨List.mem_append_right _ (List.mem_of_getElem? (i := 533) (by decide +kernel)), by decide +kernel⟩, ⟨List.mem_append_left _ (List.mem_of_getElem? (i := 36) (by decide +kernel)), by decide +kernel⟩, ⟨by decide +kernel, by decide +kernel⟩, by decide +kernel⟩
theorem g_X_180 : zGV "RingCipher" 180 M_Ring_timesTOverQ 1 := ⟨Or.inr ⟨"RingCipher", List.mem_append_right _ (List.mem_of_getElem? (i := 536) (by decide +kernel)), by decide +kernel⟩, ⟨List.mem_append_right _ (List.mem_of_getElem? (i := 538) (by decide +kernel)), by decide +kernel⟩, ⟨List.mem_append_left _ (List.mem_of_getElem? (i := 37) (by decide +kernel)), by decide +kernel⟩, ⟨by decide +kernel, by decide +kernel⟩, by decide +kernel⟩
theorem g_X_202 : zGV "RingCipher" 202 M_X_multiply 3 := ⟨Or.inl ⟨List.mem_append_right _ (List.mem_of_getElem? (i := 553) (by decide +kernel)), by decide +kernel⟩, ⟨List.mem_append_right _ (List.mem_of_getElem? (i := 555) (by decide +kernel)), by decide +kernel⟩, ⟨List.mem_append_left _ (List.mem_of_getElem? (i := 38) (by decide +kernel)), by decide +kernel⟩, ⟨by decide +kernel, by decide +kernel⟩, by decide +kernel⟩
theorem g_X_278 : zGV "RingCipher" 278 M_Ring_centre 2 := ⟨Or.inr ⟨"RingCipher", List.mem_append_right _ (List.mem_of_getElem? (i := 557) (by decide +kernel)), by decide +kernel⟩, ⟨List.mem_append_right _ (List.mem_of_getElem? (i := 502) (by decide +kernel)), by decide +kernel⟩, ⟨List.mem_append_left _ (List.mem_of_getElem? (i := 34) (by decide +kernel)), by decide +kernel⟩, ⟨by decide +kernel, by decide +kernel⟩, by decide +kernel⟩
theorem g_X_208 : zGV "RingCipher" 208 M_X_combine 4 := ⟨Or.inl ⟨List.mem_append_right _ (List.mem_of_getElem? (i := 559) (by decide +kernel)), by decide +kernel⟩, ⟨List.mem_append_right _ (List.mem_of_getElem? (i := 561) (by decide +kernel)), by decide +kernel⟩, ⟨List.mem_append_left _ (List.mem_of_getElem? (i := 39) (by decide +kernel)), by decide +kernel⟩, ⟨by decide +kernel, by decide +kernel⟩, by decide +kernel⟩
theorem g_X_271 : zGS "RingCipher" 271 M_Math_max_II 2 := ⟨Or.inl ⟨List.mem_append_right _ (List.mem_of_getElem? (i := 563) (by decide +kernel)), by decide +kernel⟩, ⟨List.mem_append_right _ (List.mem_of_getElem? (i := 392) (by decide +kernel)), by decide +kernel⟩, ⟨List.mem_append_right _ (List.mem_of_getElem? (i := 14) (by decide +kernel)), by decide +kernel⟩, ⟨by decide +kernel, by decide +kernel⟩, by decide +kernel⟩
theorem g_X_212 : zGV "RingCipher" 212 M_X_addPlain 3 := ⟨Or.inl ⟨List.mem_append_right _ (List.mem_of_getElem? (i := 571) (by decide +kernel)), by decide +kernel⟩, ⟨List.mem_append_right _ (List.mem_of_getElem? (i := 573) (by decide +kernel)), by decide +kernel⟩, ⟨List.mem_append_left _ (List.mem_of_getElem? (i := 40) (by decide +kernel)), by decide +kernel⟩, ⟨by decide +kernel, by decide +kernel⟩, by decide +kernel⟩
theorem g_X_222 : zGV "RingCipher" 222 M_Ring_copy 2 := ⟨Or.inr ⟨"RingCipher", List.mem_append_right _ (List.mem_of_getElem? (i := 575) (by decide +kernel)), by decide +kernel⟩, ⟨List.mem_append_right _ (List.mem_of_getElem? (i := 497) (by decide +kernel)), by decide +kernel⟩, ⟨List.mem_append_left _ (List.mem_of_getElem? (i := 33) (by decide +kernel)), by decide +kernel⟩, ⟨by decide +kernel, by decide +kernel⟩, by decide +kernel⟩
theorem g_X_216 : zGV "RingCipher" 216 M_X_multiplyByPlain 3 := ⟨Or.inl ⟨List.mem_append_right _ (List.mem_of_getElem? (i := 576) (by decide +kernel)), by decide +kernel⟩, ⟨List.mem_append_right _ (List.mem_of_getElem? (i := 578) (by decide +kernel)), by decide +kernel⟩, ⟨List.mem_append_left _ (List.mem_of_getElem? (i := 41) (by decide +kernel)), by decide +kernel⟩, ⟨by decide +kernel, by decide +kernel⟩, by decide +kernel⟩
theorem g_X_229 : zGV "RingCipher" 229 M_X_applySwitch 2 := ⟨Or.inl ⟨List.mem_append_right _ (List.mem_of_getElem? (i := 588) (by decide +kernel)), by decide +kernel⟩, ⟨List.mem_append_right _ (List.mem_of_getElem? (i := 590) (by decide +kernel)), by decide +kernel⟩, ⟨List.mem_append_left _ (List.mem_of_getElem? (i := 42) (by decide +kernel)), by decide +kernel⟩, ⟨by decide +kernel, by decide +kernel⟩, by decide +kernel⟩
theorem g_X_235 : zGV "RingCipher" 235 M_Ring_substitute 3 := ⟨Or.inr ⟨"RingCipher", List.mem_append_right _ (List.mem_of_getElem? (i := 601) (by decide +kernel)), by decide +kernel⟩, ⟨List.mem_append_right _ (List.mem_of_getElem? (i := 387) (by decide +kernel)), by decide +kernel⟩, ⟨List.mem_append_left _ (List.mem_of_getElem? (i := 21) (by decide +kernel)), by decide +kernel⟩, ⟨by decide +kernel, by decide +kernel⟩, by decide +kernel⟩
theorem co_X_init : zCo M_X_init := Or.inl ⟨⟨List.mem_append_right _ (List.mem_of_getElem? (i := 22) (by decide +kernel)), by decide +kernel⟩, rfl⟩
theorem co_X_keys : zCo M_X_keys := Or.inl ⟨⟨List.mem_append_right _ (List.mem_of_getElem? (i := 190) (by decide +kernel)), by decide +kernel⟩, rfl⟩
theorem co_X_emptyCiphers : zCo M_X_emptyCiphers := Or.inl ⟨⟨List.mem_append_right _ (List.mem_of_getElem? (i := 251) (by decide +kernel)), by decide +kernel⟩, rfl⟩
theorem co_X_count : zCo M_X_count := Or.inl ⟨⟨List.mem_append_right _ (List.mem_of_getElem? (i := 255) (by decide +kernel)), by decide +kernel⟩, rfl⟩
theorem co_X_fullCiphers : zCo M_X_fullCiphers := Or.inl ⟨⟨List.mem_append_right _ (List.mem_of_getElem? (i := 259) (by decide +kernel)), by decide +kernel⟩, rfl⟩
theorem co_X_begin : zCo M_X_begin := Or.inl ⟨⟨List.mem_append_right _ (List.mem_of_getElem? (i := 271) (by decide +kernel)), by decide +kernel⟩, rfl⟩
theorem co_X_turnKey : zCo M_X_turnKey := Or.inl ⟨⟨List.mem_append_right _ (List.mem_of_getElem? (i := 358) (by decide +kernel)), by decide +kernel⟩, rfl⟩
theorem co_X_set : zCo M_X_set := Or.inl ⟨⟨List.mem_append_right _ (List.mem_of_getElem? (i := 401) (by decide +kernel)), by decide +kernel⟩, rfl⟩
theorem co_X_plainAt : zCo M_X_plainAt := Or.inl ⟨⟨List.mem_append_right _ (List.mem_of_getElem? (i := 405) (by decide +kernel)), by decide +kernel⟩, rfl⟩
theorem co_X_checkCoefficient : zCo M_X_checkCoefficient := Or.inl ⟨⟨List.mem_append_right _ (List.mem_of_getElem? (i := 425) (by decide +kernel)), by decide +kernel⟩, rfl⟩
theorem co_X_get : zCo M_X_get := Or.inl ⟨⟨List.mem_append_right _ (List.mem_of_getElem? (i := 436) (by decide +kernel)), by decide +kernel⟩, rfl⟩
theorem co_X_batch : zCo M_X_batch := Or.inl ⟨⟨List.mem_append_right _ (List.mem_of_getElem? (i := 443) (by decide +kernel)), by decide +kernel⟩, rfl⟩
theorem co_X_seal : zCo M_X_seal := Or.inl ⟨⟨List.mem_append_right _ (List.mem_of_getElem? (i := 461) (by decide +kernel)), by decide +kernel⟩, rfl⟩
theorem co_X_placeAt : zCo M_X_placeAt := Or.inl ⟨⟨List.mem_append_right _ (List.mem_of_getElem? (i := 465) (by decide +kernel)), by decide +kernel⟩, rfl⟩
theorem co_X_storeTwoParts : zCo M_X_storeTwoParts := Or.inl ⟨⟨List.mem_append_right _ (List.mem_of_getElem? (i := 478) (by decide +kernel)), by decide +kernel⟩, rfl⟩
theorem co_X_storeSums : zCo M_X_storeSums := Or.inl ⟨⟨List.mem_append_right _ (List.mem_of_getElem? (i := 482) (by decide +kernel)), by decide +kernel⟩, rfl⟩
theorem co_X_phaseOf : zCo M_X_phaseOf := Or.inl ⟨⟨List.mem_append_right _ (List.mem_of_getElem? (i := 490) (by decide +kernel)), by decide +kernel⟩, rfl⟩
theorem co_X_centred : zCo M_X_centred := Or.inl ⟨⟨List.mem_append_right _ (List.mem_of_getElem? (i := 506) (by decide +kernel)), by decide +kernel⟩, rfl⟩
theorem co_X_noiseIn : zCo M_X_noiseIn := Or.inl ⟨⟨List.mem_append_right _ (List.mem_of_getElem? (i := 513) (by decide +kernel)), by decide +kernel⟩, rfl⟩
theorem co_X_budgetOf : zCo M_X_budgetOf := Or.inl ⟨⟨List.mem_append_right _ (List.mem_of_getElem? (i := 523) (by decide +kernel)), by decide +kernel⟩, rfl⟩
theorem co_X_open : zCo M_X_open := Or.inl ⟨⟨List.mem_append_right _ (List.mem_of_getElem? (i := 530) (by decide +kernel)), by decide +kernel⟩, rfl⟩
theorem co_X_takenAt : zCo M_X_takenAt := Or.inl ⟨⟨List.mem_append_right _ (List.mem_of_getElem? (i := 534) (by decide +kernel)), by decide +kernel⟩, rfl⟩
theorem co_X_join : zCo M_X_join := Or.inl ⟨⟨List.mem_append_right _ (List.mem_of_getElem? (i := 550) (by decide +kernel)), by decide +kernel⟩, rfl⟩
theorem co_X_multiply : zCo M_X_multiply := Or.inl ⟨⟨List.mem_append_right _ (List.mem_of_getElem? (i := 556) (by decide +kernel)), by decide +kernel⟩, rfl⟩
theorem co_X_combine : zCo M_X_combine := Or.inl ⟨⟨List.mem_append_right _ (List.mem_of_getElem? (i := 562) (by decide +kernel)), by decide +kernel⟩, rfl⟩
theorem co_X_plain : zCo M_X_plain := Or.inl ⟨⟨List.mem_append_right _ (List.mem_of_getElem? (i := 570) (by decide +kernel)), by decide +kernel⟩, rfl⟩
theorem co_X_addPlain : zCo M_X_addPlain := Or.inl ⟨⟨List.mem_append_right _ (List.mem_of_getElem? (i := 574) (by decide +kernel)), by decide +kernel⟩, rfl⟩
theorem co_X_multiplyByPlain : zCo M_X_multiplyByPlain := Or.inl ⟨⟨List.mem_append_right _ (List.mem_of_getElem? (i := 579) (by decide +kernel)), by decide +kernel⟩, rfl⟩
theorem co_X_shrink : zCo M_X_shrink := Or.inl ⟨⟨List.mem_append_right _ (List.mem_of_getElem? (i := 586) (by decide +kernel)), by decide +kernel⟩, rfl⟩
theorem co_X_applySwitch : zCo M_X_applySwitch := Or.inl ⟨⟨List.mem_append_right _ (List.mem_of_getElem? (i := 591) (by decide +kernel)), by decide +kernel⟩, rfl⟩
theorem co_X_turn : zCo M_X_turn := Or.inl ⟨⟨List.mem_append_right _ (List.mem_of_getElem? (i := 599) (by decide +kernel)), by decide +kernel⟩, rfl⟩
theorem co_X_part : zCo M_X_part := Or.inl ⟨⟨List.mem_append_right _ (List.mem_of_getElem? (i := 608) (by decide +kernel)), by decide +kernel⟩, rfl⟩
theorem co_X_about : zCo M_X_about := Or.inl ⟨⟨List.mem_append_right _ (List.mem_of_getElem? (i := 616) (by decide +kernel)), by decide +kernel⟩, rfl⟩
theorem co_X_drop : zCo M_X_drop := Or.inl ⟨⟨List.mem_append_right _ (List.mem_of_getElem? (i := 624) (by decide +kernel)), by decide +kernel⟩, rfl⟩
theorem d_X_init_0 : decode prog_1_method_1_code 0 = .ok (.aload_n 0, 1) := by decide +kernel
theorem d_X_init_1 : decode prog_1_method_1_code 1 = .ok (.invokespecial 3, 3) := by decide +kernel
theorem d_X_init_4 : decode prog_1_method_1_code 4 = .ok (.aload_n 0, 1) := by decide +kernel
theorem d_X_init_5 : decode prog_1_method_1_code 5 = .ok (.new 9, 3) := by decide +kernel
theorem d_X_init_8 : decode prog_1_method_1_code 8 = .ok (.dup, 1) := by decide +kernel
theorem d_X_init_9 : decode prog_1_method_1_code 9 = .ok (.invokespecial 11, 3) := by decide +kernel
theorem d_X_init_12 : decode prog_1_method_1_code 12 = .ok (.putfield 12, 3) := by decide +kernel
theorem d_X_init_15 : decode prog_1_method_1_code 15 = .ok (.aload_n 0, 1) := by decide +kernel
theorem d_X_init_16 : decode prog_1_method_1_code 16 = .ok (.new 16, 3) := by decide +kernel
theorem d_X_init_19 : decode prog_1_method_1_code 19 = .ok (.dup, 1) := by decide +kernel
theorem d_X_init_20 : decode prog_1_method_1_code 20 = .ok (.invokespecial 18, 3) := by decide +kernel
theorem d_X_init_23 : decode prog_1_method_1_code 23 = .ok (.putfield 19, 3) := by decide +kernel
theorem d_X_init_26 : decode prog_1_method_1_code 26 = .ok (.aload_n 0, 1) := by decide +kernel
theorem d_X_init_27 : decode prog_1_method_1_code 27 = .ok (.new 23, 3) := by decide +kernel
theorem d_X_init_30 : decode prog_1_method_1_code 30 = .ok (.dup, 1) := by decide +kernel
theorem d_X_init_31 : decode prog_1_method_1_code 31 = .ok (.invokespecial 25, 3) := by decide +kernel
theorem d_X_init_34 : decode prog_1_method_1_code 34 = .ok (.putfield 26, 3) := by decide +kernel
theorem d_X_init_37 : decode prog_1_method_1_code 37 = .ok (.aload_n 0, 1) := by decide +kernel
theorem d_X_init_38 : decode prog_1_method_1_code 38 = .ok (.bipush 8, 2) := by decide +kernel
theorem d_X_init_40 : decode prog_1_method_1_code 40 = .ok (.bipush 32, 2) := by decide +kernel
theorem d_X_init_42 : decode prog_1_method_1_code 42 = .ok (.multianewarray 30 2, 4) := by decide +kernel
theorem d_X_init_46 : decode prog_1_method_1_code 46 = .ok (.putfield 32, 3) := by decide +kernel
theorem d_X_init_49 : decode prog_1_method_1_code 49 = .ok (.aload_n 0, 1) := by decide +kernel
theorem d_X_init_50 : decode prog_1_method_1_code 50 = .ok (.bipush 16, 2) := by decide +kernel
theorem d_X_init_52 : decode prog_1_method_1_code 52 = .ok (.anewarray 35, 3) := by decide +kernel
theorem d_X_init_55 : decode prog_1_method_1_code 55 = .ok (.putfield 37, 3) := by decide +kernel
theorem d_X_init_58 : decode prog_1_method_1_code 58 = .ok (.iconst 0, 1) := by decide +kernel
theorem d_X_init_59 : decode prog_1_method_1_code 59 = .ok (.istore_n 1, 1) := by decide +kernel
theorem d_X_init_60 : decode prog_1_method_1_code 60 = .ok (.iload_n 1, 1) := by decide +kernel
theorem d_X_init_61 : decode prog_1_method_1_code 61 = .ok (.bipush 16, 2) := by decide +kernel
theorem d_X_init_63 : decode prog_1_method_1_code 63 = .ok (.if_icmp .ge 22, 3) := by decide +kernel
theorem d_X_init_66 : decode prog_1_method_1_code 66 = .ok (.aload_n 0, 1) := by decide +kernel
theorem d_X_init_67 : decode prog_1_method_1_code 67 = .ok (.getfield 37, 3) := by decide +kernel
theorem d_X_init_70 : decode prog_1_method_1_code 70 = .ok (.iload_n 1, 1) := by decide +kernel
theorem d_X_init_71 : decode prog_1_method_1_code 71 = .ok (.new 35, 3) := by decide +kernel
theorem d_X_init_74 : decode prog_1_method_1_code 74 = .ok (.dup, 1) := by decide +kernel
theorem d_X_init_75 : decode prog_1_method_1_code 75 = .ok (.invokespecial 41, 3) := by decide +kernel
theorem d_X_init_78 : decode prog_1_method_1_code 78 = .ok (.aastore, 1) := by decide +kernel
theorem d_X_init_79 : decode prog_1_method_1_code 79 = .ok (.iinc 1 1, 3) := by decide +kernel
theorem d_X_init_82 : decode prog_1_method_1_code 82 = .ok (.goto (-22), 3) := by decide +kernel
theorem d_X_init_85 : decode prog_1_method_1_code 85 = .ok (.aload_n 0, 1) := by decide +kernel
theorem d_X_init_86 : decode prog_1_method_1_code 86 = .ok (.iconst 3, 1) := by decide +kernel
theorem d_X_init_87 : decode prog_1_method_1_code 87 = .ok (.bipush 32, 2) := by decide +kernel
theorem d_X_init_89 : decode prog_1_method_1_code 89 = .ok (.multianewarray 30 2, 4) := by decide +kernel
theorem d_X_init_93 : decode prog_1_method_1_code 93 = .ok (.putfield 42, 3) := by decide +kernel
theorem d_X_init_96 : decode prog_1_method_1_code 96 = .ok (.aload_n 0, 1) := by decide +kernel
theorem d_X_init_97 : decode prog_1_method_1_code 97 = .ok (.iconst 4, 1) := by decide +kernel
theorem d_X_init_98 : decode prog_1_method_1_code 98 = .ok (.bipush 32, 2) := by decide +kernel
theorem d_X_init_100 : decode prog_1_method_1_code 100 = .ok (.multianewarray 30 2, 4) := by decide +kernel
theorem d_X_init_104 : decode prog_1_method_1_code 104 = .ok (.putfield 45, 3) := by decide +kernel
theorem d_X_init_107 : decode prog_1_method_1_code 107 = .ok (.return_, 1) := by decide +kernel
theorem d_X_begin_0 : decode prog_1_method_2_code 0 = .ok (.iload_n 1, 1) := by decide +kernel
theorem d_X_begin_1 : decode prog_1_method_2_code 1 = .ok (.ifCond .lt 11, 3) := by decide +kernel
theorem d_X_begin_4 : decode prog_1_method_2_code 4 = .ok (.iload_n 1, 1) := by decide +kernel
theorem d_X_begin_5 : decode prog_1_method_2_code 5 = .ok (.getstatic 48, 3) := by decide +kernel
theorem d_X_begin_8 : decode prog_1_method_2_code 8 = .ok (.arraylength, 1) := by decide +kernel
theorem d_X_begin_9 : decode prog_1_method_2_code 9 = .ok (.if_icmp .lt 13, 3) := by decide +kernel
theorem d_X_begin_12 : decode prog_1_method_2_code 12 = .ok (.new 52, 3) := by decide +kernel
theorem d_X_begin_15 : decode prog_1_method_2_code 15 = .ok (.dup, 1) := by decide +kernel
theorem d_X_begin_16 : decode prog_1_method_2_code 16 = .ok (.ldc 54, 2) := by decide +kernel
theorem d_X_begin_18 : decode prog_1_method_2_code 18 = .ok (.invokespecial 56, 3) := by decide +kernel
theorem d_X_begin_21 : decode prog_1_method_2_code 21 = .ok (.athrow, 1) := by decide +kernel
theorem d_X_begin_22 : decode prog_1_method_2_code 22 = .ok (.aload_n 0, 1) := by decide +kernel
theorem d_X_begin_23 : decode prog_1_method_2_code 23 = .ok (.getfield 12, 3) := by decide +kernel
theorem d_X_begin_26 : decode prog_1_method_2_code 26 = .ok (.iload_n 1, 1) := by decide +kernel
theorem d_X_begin_27 : decode prog_1_method_2_code 27 = .ok (.invokevirtual 59, 3) := by decide +kernel
theorem d_X_begin_30 : decode prog_1_method_2_code 30 = .ok (.aload_n 0, 1) := by decide +kernel
theorem d_X_begin_31 : decode prog_1_method_2_code 31 = .ok (.getfield 19, 3) := by decide +kernel
theorem d_X_begin_34 : decode prog_1_method_2_code 34 = .ok (.iload_n 2, 1) := by decide +kernel
theorem d_X_begin_35 : decode prog_1_method_2_code 35 = .ok (.invokevirtual 63, 3) := by decide +kernel
theorem d_X_begin_38 : decode prog_1_method_2_code 38 = .ok (.aload_n 0, 1) := by decide +kernel
theorem d_X_begin_39 : decode prog_1_method_2_code 39 = .ok (.getfield 26, 3) := by decide +kernel
theorem d_X_begin_42 : decode prog_1_method_2_code 42 = .ok (.invokevirtual 66, 3) := by decide +kernel
theorem d_X_begin_45 : decode prog_1_method_2_code 45 = .ok (.aload_n 0, 1) := by decide +kernel
theorem d_X_begin_46 : decode prog_1_method_2_code 46 = .ok (.invokevirtual 69, 3) := by decide +kernel
theorem d_X_begin_49 : decode prog_1_method_2_code 49 = .ok (.iconst 0, 1) := by decide +kernel
theorem d_X_begin_50 : decode prog_1_method_2_code 50 = .ok (.istore_n 3, 1) := by decide +kernel
theorem d_X_begin_51 : decode prog_1_method_2_code 51 = .ok (.iload_n 3, 1) := by decide +kernel
theorem d_X_begin_52 : decode prog_1_method_2_code 52 = .ok (.bipush 8, 2) := by decide +kernel
theorem d_X_begin_54 : decode prog_1_method_2_code 54 = .ok (.if_icmp .ge 19, 3) := by decide +kernel
theorem d_X_begin_57 : decode prog_1_method_2_code 57 = .ok (.aload_n 0, 1) := by decide +kernel
theorem d_X_begin_58 : decode prog_1_method_2_code 58 = .ok (.getfield 32, 3) := by decide +kernel
theorem d_X_begin_61 : decode prog_1_method_2_code 61 = .ok (.iload_n 3, 1) := by decide +kernel
theorem d_X_begin_62 : decode prog_1_method_2_code 62 = .ok (.aaload, 1) := by decide +kernel
theorem d_X_begin_63 : decode prog_1_method_2_code 63 = .ok (.lconst 0, 1) := by decide +kernel
theorem d_X_begin_64 : decode prog_1_method_2_code 64 = .ok (.invokestatic 72, 3) := by decide +kernel
theorem d_X_begin_67 : decode prog_1_method_2_code 67 = .ok (.iinc 3 1, 3) := by decide +kernel
theorem d_X_begin_70 : decode prog_1_method_2_code 70 = .ok (.goto (-19), 3) := by decide +kernel
theorem d_X_begin_73 : decode prog_1_method_2_code 73 = .ok (.aload_n 0, 1) := by decide +kernel
theorem d_X_begin_74 : decode prog_1_method_2_code 74 = .ok (.getfield 12, 3) := by decide +kernel
theorem d_X_begin_77 : decode prog_1_method_2_code 77 = .ok (.getfield 78, 3) := by decide +kernel
theorem d_X_begin_80 : decode prog_1_method_2_code 80 = .ok (.ireturn, 1) := by decide +kernel
theorem d_X_keys_0 : decode prog_1_method_3_code 0 = .ok (.aload_n 0, 1) := by decide +kernel
theorem d_X_keys_1 : decode prog_1_method_3_code 1 = .ok (.getfield 26, 3) := by decide +kernel
theorem d_X_keys_4 : decode prog_1_method_3_code 4 = .ok (.aload_n 0, 1) := by decide +kernel
theorem d_X_keys_5 : decode prog_1_method_3_code 5 = .ok (.getfield 12, 3) := by decide +kernel
theorem d_X_keys_8 : decode prog_1_method_3_code 8 = .ok (.aload_n 0, 1) := by decide +kernel
theorem d_X_keys_9 : decode prog_1_method_3_code 9 = .ok (.getfield 19, 3) := by decide +kernel
theorem d_X_keys_12 : decode prog_1_method_3_code 12 = .ok (.invokevirtual 82, 3) := by decide +kernel
theorem d_X_keys_15 : decode prog_1_method_3_code 15 = .ok (.aload_n 0, 1) := by decide +kernel
theorem d_X_keys_16 : decode prog_1_method_3_code 16 = .ok (.invokevirtual 69, 3) := by decide +kernel
theorem d_X_keys_19 : decode prog_1_method_3_code 19 = .ok (.aload_n 0, 1) := by decide +kernel
theorem d_X_keys_20 : decode prog_1_method_3_code 20 = .ok (.getfield 12, 3) := by decide +kernel
theorem d_X_keys_23 : decode prog_1_method_3_code 23 = .ok (.getfield 78, 3) := by decide +kernel
theorem d_X_keys_26 : decode prog_1_method_3_code 26 = .ok (.ireturn, 1) := by decide +kernel
theorem d_X_turnKey_0 : decode prog_1_method_4_code 0 = .ok (.iload_n 1, 1) := by decide +kernel
theorem d_X_turnKey_1 : decode prog_1_method_4_code 1 = .ok (.iconst 3, 1) := by decide +kernel
theorem d_X_turnKey_2 : decode prog_1_method_4_code 2 = .ok (.if_icmp .lt 24, 3) := by decide +kernel
theorem d_X_turnKey_5 : decode prog_1_method_4_code 5 = .ok (.iload_n 1, 1) := by decide +kernel
theorem d_X_turnKey_6 : decode prog_1_method_4_code 6 = .ok (.iconst 2, 1) := by decide +kernel
theorem d_X_turnKey_7 : decode prog_1_method_4_code 7 = .ok (.aload_n 0, 1) := by decide +kernel
theorem d_X_turnKey_8 : decode prog_1_method_4_code 8 = .ok (.getfield 12, 3) := by decide +kernel
theorem d_X_turnKey_11 : decode prog_1_method_4_code 11 = .ok (.getfield 78, 3) := by decide +kernel
theorem d_X_turnKey_14 : decode prog_1_method_4_code 14 = .ok (.imul, 1) := by decide +kernel
theorem d_X_turnKey_15 : decode prog_1_method_4_code 15 = .ok (.iconst 1, 1) := by decide +kernel
theorem d_X_turnKey_16 : decode prog_1_method_4_code 16 = .ok (.isub, 1) := by decide +kernel
theorem d_X_turnKey_17 : decode prog_1_method_4_code 17 = .ok (.if_icmp .gt 9, 3) := by decide +kernel
theorem d_X_turnKey_20 : decode prog_1_method_4_code 20 = .ok (.iload_n 1, 1) := by decide +kernel
theorem d_X_turnKey_21 : decode prog_1_method_4_code 21 = .ok (.iconst 2, 1) := by decide +kernel
theorem d_X_turnKey_22 : decode prog_1_method_4_code 22 = .ok (.irem, 1) := by decide +kernel
theorem d_X_turnKey_23 : decode prog_1_method_4_code 23 = .ok (.ifCond .ne 13, 3) := by decide +kernel
theorem d_X_turnKey_26 : decode prog_1_method_4_code 26 = .ok (.new 52, 3) := by decide +kernel
theorem d_X_turnKey_29 : decode prog_1_method_4_code 29 = .ok (.dup, 1) := by decide +kernel
theorem d_X_turnKey_30 : decode prog_1_method_4_code 30 = .ok (.ldc 86, 2) := by decide +kernel
theorem d_X_turnKey_32 : decode prog_1_method_4_code 32 = .ok (.invokespecial 56, 3) := by decide +kernel
theorem d_X_turnKey_35 : decode prog_1_method_4_code 35 = .ok (.athrow, 1) := by decide +kernel
theorem d_X_turnKey_36 : decode prog_1_method_4_code 36 = .ok (.aload_n 0, 1) := by decide +kernel
theorem d_X_turnKey_37 : decode prog_1_method_4_code 37 = .ok (.getfield 26, 3) := by decide +kernel
theorem d_X_turnKey_40 : decode prog_1_method_4_code 40 = .ok (.getfield 88, 3) := by decide +kernel
theorem d_X_turnKey_43 : decode prog_1_method_4_code 43 = .ok (.ifCond .ne 13, 3) := by decide +kernel
theorem d_X_turnKey_46 : decode prog_1_method_4_code 46 = .ok (.new 92, 3) := by decide +kernel
theorem d_X_turnKey_49 : decode prog_1_method_4_code 49 = .ok (.dup, 1) := by decide +kernel
theorem d_X_turnKey_50 : decode prog_1_method_4_code 50 = .ok (.ldc 94, 2) := by decide +kernel
theorem d_X_turnKey_52 : decode prog_1_method_4_code 52 = .ok (.invokespecial 96, 3) := by decide +kernel
theorem d_X_turnKey_55 : decode prog_1_method_4_code 55 = .ok (.athrow, 1) := by decide +kernel
theorem d_X_turnKey_56 : decode prog_1_method_4_code 56 = .ok (.aload_n 0, 1) := by decide +kernel
theorem d_X_turnKey_57 : decode prog_1_method_4_code 57 = .ok (.getfield 26, 3) := by decide +kernel
theorem d_X_turnKey_60 : decode prog_1_method_4_code 60 = .ok (.iload_n 1, 1) := by decide +kernel
theorem d_X_turnKey_61 : decode prog_1_method_4_code 61 = .ok (.invokevirtual 97, 3) := by decide +kernel
theorem d_X_turnKey_64 : decode prog_1_method_4_code 64 = .ok (.istore_n 2, 1) := by decide +kernel
theorem d_X_turnKey_65 : decode prog_1_method_4_code 65 = .ok (.iload_n 2, 1) := by decide +kernel
theorem d_X_turnKey_66 : decode prog_1_method_4_code 66 = .ok (.iconst 4, 1) := by decide +kernel
theorem d_X_turnKey_67 : decode prog_1_method_4_code 67 = .ok (.if_icmp .ne 13, 3) := by decide +kernel
theorem d_X_turnKey_70 : decode prog_1_method_4_code 70 = .ok (.new 92, 3) := by decide +kernel
theorem d_X_turnKey_73 : decode prog_1_method_4_code 73 = .ok (.dup, 1) := by decide +kernel
theorem d_X_turnKey_74 : decode prog_1_method_4_code 74 = .ok (.ldc 101, 2) := by decide +kernel
theorem d_X_turnKey_76 : decode prog_1_method_4_code 76 = .ok (.invokespecial 96, 3) := by decide +kernel
theorem d_X_turnKey_79 : decode prog_1_method_4_code 79 = .ok (.athrow, 1) := by decide +kernel
theorem d_X_turnKey_80 : decode prog_1_method_4_code 80 = .ok (.aload_n 0, 1) := by decide +kernel
theorem d_X_turnKey_81 : decode prog_1_method_4_code 81 = .ok (.getfield 26, 3) := by decide +kernel
theorem d_X_turnKey_84 : decode prog_1_method_4_code 84 = .ok (.aload_n 0, 1) := by decide +kernel
theorem d_X_turnKey_85 : decode prog_1_method_4_code 85 = .ok (.getfield 12, 3) := by decide +kernel
theorem d_X_turnKey_88 : decode prog_1_method_4_code 88 = .ok (.aload_n 0, 1) := by decide +kernel
theorem d_X_turnKey_89 : decode prog_1_method_4_code 89 = .ok (.getfield 19, 3) := by decide +kernel
theorem d_X_turnKey_92 : decode prog_1_method_4_code 92 = .ok (.iload_n 2, 1) := by decide +kernel
theorem d_X_turnKey_93 : decode prog_1_method_4_code 93 = .ok (.iload_n 1, 1) := by decide +kernel
theorem d_X_turnKey_94 : decode prog_1_method_4_code 94 = .ok (.invokevirtual 103, 3) := by decide +kernel
theorem d_X_turnKey_97 : decode prog_1_method_4_code 97 = .ok (.aload_n 0, 1) := by decide +kernel
theorem d_X_turnKey_98 : decode prog_1_method_4_code 98 = .ok (.getfield 26, 3) := by decide +kernel
theorem d_X_turnKey_101 : decode prog_1_method_4_code 101 = .ok (.getfield 107, 3) := by decide +kernel
theorem d_X_turnKey_104 : decode prog_1_method_4_code 104 = .ok (.ireturn, 1) := by decide +kernel
theorem d_X_set_0 : decode prog_1_method_5_code 0 = .ok (.aload_n 0, 1) := by decide +kernel
theorem d_X_set_1 : decode prog_1_method_5_code 1 = .ok (.iload_n 1, 1) := by decide +kernel
theorem d_X_set_2 : decode prog_1_method_5_code 2 = .ok (.invokevirtual 110, 3) := by decide +kernel
theorem d_X_set_5 : decode prog_1_method_5_code 5 = .ok (.astore 4, 2) := by decide +kernel
theorem d_X_set_7 : decode prog_1_method_5_code 7 = .ok (.aload_n 0, 1) := by decide +kernel
theorem d_X_set_8 : decode prog_1_method_5_code 8 = .ok (.iload_n 2, 1) := by decide +kernel
theorem d_X_set_9 : decode prog_1_method_5_code 9 = .ok (.invokevirtual 114, 3) := by decide +kernel
theorem d_X_set_12 : decode prog_1_method_5_code 12 = .ok (.aload 4, 2) := by decide +kernel
theorem d_X_set_14 : decode prog_1_method_5_code 14 = .ok (.iload_n 2, 1) := by decide +kernel
theorem d_X_set_15 : decode prog_1_method_5_code 15 = .ok (.laload, 1) := by decide +kernel
theorem d_X_set_16 : decode prog_1_method_5_code 16 = .ok (.lstore 5, 2) := by decide +kernel
theorem d_X_set_18 : decode prog_1_method_5_code 18 = .ok (.aload 4, 2) := by decide +kernel
theorem d_X_set_20 : decode prog_1_method_5_code 20 = .ok (.iload_n 2, 1) := by decide +kernel
theorem d_X_set_21 : decode prog_1_method_5_code 21 = .ok (.iload_n 3, 1) := by decide +kernel
theorem d_X_set_22 : decode prog_1_method_5_code 22 = .ok (.aload_n 0, 1) := by decide +kernel
theorem d_X_set_23 : decode prog_1_method_5_code 23 = .ok (.getfield 12, 3) := by decide +kernel
theorem d_X_set_26 : decode prog_1_method_5_code 26 = .ok (.getfield 117, 3) := by decide +kernel
theorem d_X_set_29 : decode prog_1_method_5_code 29 = .ok (.invokestatic 120, 3) := by decide +kernel
theorem d_X_set_32 : decode prog_1_method_5_code 32 = .ok (.i2l, 1) := by decide +kernel
theorem d_X_set_33 : decode prog_1_method_5_code 33 = .ok (.lastore, 1) := by decide +kernel
theorem d_X_set_34 : decode prog_1_method_5_code 34 = .ok (.lload 5, 2) := by decide +kernel
theorem d_X_set_36 : decode prog_1_method_5_code 36 = .ok (.l2i, 1) := by decide +kernel
theorem d_X_set_37 : decode prog_1_method_5_code 37 = .ok (.ireturn, 1) := by decide +kernel
theorem d_X_get_0 : decode prog_1_method_6_code 0 = .ok (.aload_n 0, 1) := by decide +kernel
theorem d_X_get_1 : decode prog_1_method_6_code 1 = .ok (.iload_n 1, 1) := by decide +kernel
theorem d_X_get_2 : decode prog_1_method_6_code 2 = .ok (.invokevirtual 110, 3) := by decide +kernel
theorem d_X_get_5 : decode prog_1_method_6_code 5 = .ok (.astore_n 3, 1) := by decide +kernel
theorem d_X_get_6 : decode prog_1_method_6_code 6 = .ok (.aload_n 0, 1) := by decide +kernel
theorem d_X_get_7 : decode prog_1_method_6_code 7 = .ok (.iload_n 2, 1) := by decide +kernel
theorem d_X_get_8 : decode prog_1_method_6_code 8 = .ok (.invokevirtual 114, 3) := by decide +kernel
theorem d_X_get_11 : decode prog_1_method_6_code 11 = .ok (.aload_n 3, 1) := by decide +kernel
theorem d_X_get_12 : decode prog_1_method_6_code 12 = .ok (.iload_n 2, 1) := by decide +kernel
theorem d_X_get_13 : decode prog_1_method_6_code 13 = .ok (.laload, 1) := by decide +kernel
theorem d_X_get_14 : decode prog_1_method_6_code 14 = .ok (.l2i, 1) := by decide +kernel
theorem d_X_get_15 : decode prog_1_method_6_code 15 = .ok (.ireturn, 1) := by decide +kernel
theorem d_X_batch_0 : decode prog_1_method_7_code 0 = .ok (.aload_n 0, 1) := by decide +kernel
theorem d_X_batch_1 : decode prog_1_method_7_code 1 = .ok (.iload_n 1, 1) := by decide +kernel
theorem d_X_batch_2 : decode prog_1_method_7_code 2 = .ok (.invokevirtual 110, 3) := by decide +kernel
theorem d_X_batch_5 : decode prog_1_method_7_code 5 = .ok (.astore_n 3, 1) := by decide +kernel
theorem d_X_batch_6 : decode prog_1_method_7_code 6 = .ok (.iload_n 2, 1) := by decide +kernel
theorem d_X_batch_7 : decode prog_1_method_7_code 7 = .ok (.ifCond .eq 20, 3) := by decide +kernel
theorem d_X_batch_10 : decode prog_1_method_7_code 10 = .ok (.aload_n 0, 1) := by decide +kernel
theorem d_X_batch_11 : decode prog_1_method_7_code 11 = .ok (.getfield 12, 3) := by decide +kernel
theorem d_X_batch_14 : decode prog_1_method_7_code 14 = .ok (.aload_n 0, 1) := by decide +kernel
theorem d_X_batch_15 : decode prog_1_method_7_code 15 = .ok (.getfield 45, 3) := by decide +kernel
theorem d_X_batch_18 : decode prog_1_method_7_code 18 = .ok (.iconst 0, 1) := by decide +kernel
theorem d_X_batch_19 : decode prog_1_method_7_code 19 = .ok (.aaload, 1) := by decide +kernel
theorem d_X_batch_20 : decode prog_1_method_7_code 20 = .ok (.aload_n 3, 1) := by decide +kernel
theorem d_X_batch_21 : decode prog_1_method_7_code 21 = .ok (.invokevirtual 126, 3) := by decide +kernel
theorem d_X_batch_24 : decode prog_1_method_7_code 24 = .ok (.goto 17, 3) := by decide +kernel
theorem d_X_batch_27 : decode prog_1_method_7_code 27 = .ok (.aload_n 0, 1) := by decide +kernel
theorem d_X_batch_28 : decode prog_1_method_7_code 28 = .ok (.getfield 12, 3) := by decide +kernel
theorem d_X_batch_31 : decode prog_1_method_7_code 31 = .ok (.aload_n 0, 1) := by decide +kernel
theorem d_X_batch_32 : decode prog_1_method_7_code 32 = .ok (.getfield 45, 3) := by decide +kernel
theorem d_X_batch_35 : decode prog_1_method_7_code 35 = .ok (.iconst 0, 1) := by decide +kernel
theorem d_X_batch_36 : decode prog_1_method_7_code 36 = .ok (.aaload, 1) := by decide +kernel
theorem d_X_batch_37 : decode prog_1_method_7_code 37 = .ok (.aload_n 3, 1) := by decide +kernel
theorem d_X_batch_38 : decode prog_1_method_7_code 38 = .ok (.invokevirtual 130, 3) := by decide +kernel
theorem d_X_batch_41 : decode prog_1_method_7_code 41 = .ok (.aload_n 0, 1) := by decide +kernel
theorem d_X_batch_42 : decode prog_1_method_7_code 42 = .ok (.getfield 45, 3) := by decide +kernel
theorem d_X_batch_45 : decode prog_1_method_7_code 45 = .ok (.iconst 0, 1) := by decide +kernel
theorem d_X_batch_46 : decode prog_1_method_7_code 46 = .ok (.aaload, 1) := by decide +kernel
theorem d_X_batch_47 : decode prog_1_method_7_code 47 = .ok (.iconst 0, 1) := by decide +kernel
theorem d_X_batch_48 : decode prog_1_method_7_code 48 = .ok (.aload_n 3, 1) := by decide +kernel
theorem d_X_batch_49 : decode prog_1_method_7_code 49 = .ok (.iconst 0, 1) := by decide +kernel
theorem d_X_batch_50 : decode prog_1_method_7_code 50 = .ok (.aload_n 0, 1) := by decide +kernel
theorem d_X_batch_51 : decode prog_1_method_7_code 51 = .ok (.getfield 12, 3) := by decide +kernel
theorem d_X_batch_54 : decode prog_1_method_7_code 54 = .ok (.getfield 78, 3) := by decide +kernel
theorem d_X_batch_57 : decode prog_1_method_7_code 57 = .ok (.invokestatic 133, 3) := by decide +kernel
theorem d_X_batch_60 : decode prog_1_method_7_code 60 = .ok (.aload_n 3, 1) := by decide +kernel
theorem d_X_batch_61 : decode prog_1_method_7_code 61 = .ok (.iconst 0, 1) := by decide +kernel
theorem d_X_batch_62 : decode prog_1_method_7_code 62 = .ok (.laload, 1) := by decide +kernel
theorem d_X_batch_63 : decode prog_1_method_7_code 63 = .ok (.l2i, 1) := by decide +kernel
theorem d_X_batch_64 : decode prog_1_method_7_code 64 = .ok (.ireturn, 1) := by decide +kernel
theorem d_X_seal_0 : decode prog_1_method_8_code 0 = .ok (.aload_n 0, 1) := by decide +kernel
theorem d_X_seal_1 : decode prog_1_method_8_code 1 = .ok (.iload_n 1, 1) := by decide +kernel
theorem d_X_seal_2 : decode prog_1_method_8_code 2 = .ok (.invokevirtual 139, 3) := by decide +kernel
theorem d_X_seal_5 : decode prog_1_method_8_code 5 = .ok (.astore_n 3, 1) := by decide +kernel
theorem d_X_seal_6 : decode prog_1_method_8_code 6 = .ok (.aload_n 0, 1) := by decide +kernel
theorem d_X_seal_7 : decode prog_1_method_8_code 7 = .ok (.iload_n 2, 1) := by decide +kernel
theorem d_X_seal_8 : decode prog_1_method_8_code 8 = .ok (.invokevirtual 110, 3) := by decide +kernel
theorem d_X_seal_11 : decode prog_1_method_8_code 11 = .ok (.astore 4, 2) := by decide +kernel
theorem d_X_seal_13 : decode prog_1_method_8_code 13 = .ok (.aload_n 0, 1) := by decide +kernel
theorem d_X_seal_14 : decode prog_1_method_8_code 14 = .ok (.getfield 26, 3) := by decide +kernel
theorem d_X_seal_17 : decode prog_1_method_8_code 17 = .ok (.getfield 88, 3) := by decide +kernel
theorem d_X_seal_20 : decode prog_1_method_8_code 20 = .ok (.ifCond .ne 13, 3) := by decide +kernel
theorem d_X_seal_23 : decode prog_1_method_8_code 23 = .ok (.new 92, 3) := by decide +kernel
theorem d_X_seal_26 : decode prog_1_method_8_code 26 = .ok (.dup, 1) := by decide +kernel
theorem d_X_seal_27 : decode prog_1_method_8_code 27 = .ok (.ldc 94, 2) := by decide +kernel
theorem d_X_seal_29 : decode prog_1_method_8_code 29 = .ok (.invokespecial 96, 3) := by decide +kernel
theorem d_X_seal_32 : decode prog_1_method_8_code 32 = .ok (.athrow, 1) := by decide +kernel
theorem d_X_seal_33 : decode prog_1_method_8_code 33 = .ok (.aload_n 0, 1) := by decide +kernel
theorem d_X_seal_34 : decode prog_1_method_8_code 34 = .ok (.getfield 45, 3) := by decide +kernel
theorem d_X_seal_37 : decode prog_1_method_8_code 37 = .ok (.iconst 0, 1) := by decide +kernel
theorem d_X_seal_38 : decode prog_1_method_8_code 38 = .ok (.aaload, 1) := by decide +kernel
theorem d_X_seal_39 : decode prog_1_method_8_code 39 = .ok (.astore 5, 2) := by decide +kernel
theorem d_X_seal_41 : decode prog_1_method_8_code 41 = .ok (.aload_n 0, 1) := by decide +kernel
theorem d_X_seal_42 : decode prog_1_method_8_code 42 = .ok (.getfield 19, 3) := by decide +kernel
theorem d_X_seal_45 : decode prog_1_method_8_code 45 = .ok (.aload 5, 2) := by decide +kernel
theorem d_X_seal_47 : decode prog_1_method_8_code 47 = .ok (.aload_n 0, 1) := by decide +kernel
theorem d_X_seal_48 : decode prog_1_method_8_code 48 = .ok (.getfield 12, 3) := by decide +kernel
theorem d_X_seal_51 : decode prog_1_method_8_code 51 = .ok (.getfield 78, 3) := by decide +kernel
theorem d_X_seal_54 : decode prog_1_method_8_code 54 = .ok (.invokevirtual 143, 3) := by decide +kernel
theorem d_X_seal_57 : decode prog_1_method_8_code 57 = .ok (.aload_n 0, 1) := by decide +kernel
theorem d_X_seal_58 : decode prog_1_method_8_code 58 = .ok (.getfield 19, 3) := by decide +kernel
theorem d_X_seal_61 : decode prog_1_method_8_code 61 = .ok (.aload_n 0, 1) := by decide +kernel
theorem d_X_seal_62 : decode prog_1_method_8_code 62 = .ok (.getfield 42, 3) := by decide +kernel
theorem d_X_seal_65 : decode prog_1_method_8_code 65 = .ok (.iconst 0, 1) := by decide +kernel
theorem d_X_seal_66 : decode prog_1_method_8_code 66 = .ok (.aaload, 1) := by decide +kernel
theorem d_X_seal_67 : decode prog_1_method_8_code 67 = .ok (.aload_n 0, 1) := by decide +kernel
theorem d_X_seal_68 : decode prog_1_method_8_code 68 = .ok (.getfield 12, 3) := by decide +kernel
theorem d_X_seal_71 : decode prog_1_method_8_code 71 = .ok (.getfield 78, 3) := by decide +kernel
theorem d_X_seal_74 : decode prog_1_method_8_code 74 = .ok (.invokevirtual 147, 3) := by decide +kernel
theorem d_X_seal_77 : decode prog_1_method_8_code 77 = .ok (.aload_n 0, 1) := by decide +kernel
theorem d_X_seal_78 : decode prog_1_method_8_code 78 = .ok (.getfield 19, 3) := by decide +kernel
theorem d_X_seal_81 : decode prog_1_method_8_code 81 = .ok (.aload_n 0, 1) := by decide +kernel
theorem d_X_seal_82 : decode prog_1_method_8_code 82 = .ok (.getfield 42, 3) := by decide +kernel
theorem d_X_seal_85 : decode prog_1_method_8_code 85 = .ok (.iconst 1, 1) := by decide +kernel
theorem d_X_seal_86 : decode prog_1_method_8_code 86 = .ok (.aaload, 1) := by decide +kernel
theorem d_X_seal_87 : decode prog_1_method_8_code 87 = .ok (.aload_n 0, 1) := by decide +kernel
theorem d_X_seal_88 : decode prog_1_method_8_code 88 = .ok (.getfield 12, 3) := by decide +kernel
theorem d_X_seal_91 : decode prog_1_method_8_code 91 = .ok (.getfield 78, 3) := by decide +kernel
theorem d_X_seal_94 : decode prog_1_method_8_code 94 = .ok (.invokevirtual 147, 3) := by decide +kernel
theorem d_X_seal_97 : decode prog_1_method_8_code 97 = .ok (.aload_n 0, 1) := by decide +kernel
theorem d_X_seal_98 : decode prog_1_method_8_code 98 = .ok (.getfield 12, 3) := by decide +kernel
theorem d_X_seal_101 : decode prog_1_method_8_code 101 = .ok (.aload_n 0, 1) := by decide +kernel
theorem d_X_seal_102 : decode prog_1_method_8_code 102 = .ok (.getfield 42, 3) := by decide +kernel
theorem d_X_seal_105 : decode prog_1_method_8_code 105 = .ok (.iconst 0, 1) := by decide +kernel
theorem d_X_seal_106 : decode prog_1_method_8_code 106 = .ok (.aaload, 1) := by decide +kernel
theorem d_X_seal_107 : decode prog_1_method_8_code 107 = .ok (.aload_n 0, 1) := by decide +kernel
theorem d_X_seal_108 : decode prog_1_method_8_code 108 = .ok (.getfield 26, 3) := by decide +kernel
theorem d_X_seal_111 : decode prog_1_method_8_code 111 = .ok (.getfield 150, 3) := by decide +kernel
theorem d_X_seal_114 : decode prog_1_method_8_code 114 = .ok (.aload 5, 2) := by decide +kernel
theorem d_X_seal_116 : decode prog_1_method_8_code 116 = .ok (.invokevirtual 154, 3) := by decide +kernel
theorem d_X_seal_119 : decode prog_1_method_8_code 119 = .ok (.aload_n 0, 1) := by decide +kernel
theorem d_X_seal_120 : decode prog_1_method_8_code 120 = .ok (.getfield 12, 3) := by decide +kernel
theorem d_X_seal_123 : decode prog_1_method_8_code 123 = .ok (.aload_n 0, 1) := by decide +kernel
theorem d_X_seal_124 : decode prog_1_method_8_code 124 = .ok (.getfield 42, 3) := by decide +kernel
theorem d_X_seal_127 : decode prog_1_method_8_code 127 = .ok (.iconst 0, 1) := by decide +kernel
theorem d_X_seal_128 : decode prog_1_method_8_code 128 = .ok (.aaload, 1) := by decide +kernel
theorem d_X_seal_129 : decode prog_1_method_8_code 129 = .ok (.aload 4, 2) := by decide +kernel
theorem d_X_seal_131 : decode prog_1_method_8_code 131 = .ok (.aload_n 0, 1) := by decide +kernel
theorem d_X_seal_132 : decode prog_1_method_8_code 132 = .ok (.getfield 12, 3) := by decide +kernel
theorem d_X_seal_135 : decode prog_1_method_8_code 135 = .ok (.invokevirtual 158, 3) := by decide +kernel
theorem d_X_seal_138 : decode prog_1_method_8_code 138 = .ok (.invokevirtual 162, 3) := by decide +kernel
theorem d_X_seal_141 : decode prog_1_method_8_code 141 = .ok (.aload_n 0, 1) := by decide +kernel
theorem d_X_seal_142 : decode prog_1_method_8_code 142 = .ok (.getfield 12, 3) := by decide +kernel
theorem d_X_seal_145 : decode prog_1_method_8_code 145 = .ok (.aload_n 0, 1) := by decide +kernel
theorem d_X_seal_146 : decode prog_1_method_8_code 146 = .ok (.getfield 42, 3) := by decide +kernel
theorem d_X_seal_149 : decode prog_1_method_8_code 149 = .ok (.iconst 1, 1) := by decide +kernel
theorem d_X_seal_150 : decode prog_1_method_8_code 150 = .ok (.aaload, 1) := by decide +kernel
theorem d_X_seal_151 : decode prog_1_method_8_code 151 = .ok (.aload_n 0, 1) := by decide +kernel
theorem d_X_seal_152 : decode prog_1_method_8_code 152 = .ok (.getfield 26, 3) := by decide +kernel
theorem d_X_seal_155 : decode prog_1_method_8_code 155 = .ok (.getfield 166, 3) := by decide +kernel
theorem d_X_seal_158 : decode prog_1_method_8_code 158 = .ok (.aload 5, 2) := by decide +kernel
theorem d_X_seal_160 : decode prog_1_method_8_code 160 = .ok (.invokevirtual 154, 3) := by decide +kernel
theorem d_X_seal_163 : decode prog_1_method_8_code 163 = .ok (.aload_n 0, 1) := by decide +kernel
theorem d_X_seal_164 : decode prog_1_method_8_code 164 = .ok (.aload_n 3, 1) := by decide +kernel
theorem d_X_seal_165 : decode prog_1_method_8_code 165 = .ok (.invokevirtual 169, 3) := by decide +kernel
theorem d_X_seal_168 : decode prog_1_method_8_code 168 = .ok (.ireturn, 1) := by decide +kernel
theorem d_X_open_0 : decode prog_1_method_9_code 0 = .ok (.aload_n 0, 1) := by decide +kernel
theorem d_X_open_1 : decode prog_1_method_9_code 1 = .ok (.iload_n 1, 1) := by decide +kernel
theorem d_X_open_2 : decode prog_1_method_9_code 2 = .ok (.invokevirtual 110, 3) := by decide +kernel
theorem d_X_open_5 : decode prog_1_method_9_code 5 = .ok (.astore_n 3, 1) := by decide +kernel
theorem d_X_open_6 : decode prog_1_method_9_code 6 = .ok (.aload_n 0, 1) := by decide +kernel
theorem d_X_open_7 : decode prog_1_method_9_code 7 = .ok (.iload_n 2, 1) := by decide +kernel
theorem d_X_open_8 : decode prog_1_method_9_code 8 = .ok (.invokevirtual 173, 3) := by decide +kernel
theorem d_X_open_11 : decode prog_1_method_9_code 11 = .ok (.astore 4, 2) := by decide +kernel
theorem d_X_open_13 : decode prog_1_method_9_code 13 = .ok (.aload_n 0, 1) := by decide +kernel
theorem d_X_open_14 : decode prog_1_method_9_code 14 = .ok (.aload 4, 2) := by decide +kernel
theorem d_X_open_16 : decode prog_1_method_9_code 16 = .ok (.invokevirtual 176, 3) := by decide +kernel
theorem d_X_open_19 : decode prog_1_method_9_code 19 = .ok (.astore 5, 2) := by decide +kernel
theorem d_X_open_21 : decode prog_1_method_9_code 21 = .ok (.iconst 0, 1) := by decide +kernel
theorem d_X_open_22 : decode prog_1_method_9_code 22 = .ok (.istore 6, 2) := by decide +kernel
theorem d_X_open_24 : decode prog_1_method_9_code 24 = .ok (.iload 6, 2) := by decide +kernel
theorem d_X_open_26 : decode prog_1_method_9_code 26 = .ok (.aload_n 0, 1) := by decide +kernel
theorem d_X_open_27 : decode prog_1_method_9_code 27 = .ok (.getfield 12, 3) := by decide +kernel
theorem d_X_open_30 : decode prog_1_method_9_code 30 = .ok (.getfield 78, 3) := by decide +kernel
theorem d_X_open_33 : decode prog_1_method_9_code 33 = .ok (.if_icmp .ge 36, 3) := by decide +kernel
theorem d_X_open_36 : decode prog_1_method_9_code 36 = .ok (.aload_n 3, 1) := by decide +kernel
theorem d_X_open_37 : decode prog_1_method_9_code 37 = .ok (.iload 6, 2) := by decide +kernel
theorem d_X_open_39 : decode prog_1_method_9_code 39 = .ok (.aload_n 0, 1) := by decide +kernel
theorem d_X_open_40 : decode prog_1_method_9_code 40 = .ok (.getfield 12, 3) := by decide +kernel
theorem d_X_open_43 : decode prog_1_method_9_code 43 = .ok (.aload 5, 2) := by decide +kernel
theorem d_X_open_45 : decode prog_1_method_9_code 45 = .ok (.iload 6, 2) := by decide +kernel
theorem d_X_open_47 : decode prog_1_method_9_code 47 = .ok (.laload, 1) := by decide +kernel
theorem d_X_open_48 : decode prog_1_method_9_code 48 = .ok (.invokevirtual 180, 3) := by decide +kernel
theorem d_X_open_51 : decode prog_1_method_9_code 51 = .ok (.aload_n 0, 1) := by decide +kernel
theorem d_X_open_52 : decode prog_1_method_9_code 52 = .ok (.getfield 12, 3) := by decide +kernel
theorem d_X_open_55 : decode prog_1_method_9_code 55 = .ok (.getfield 117, 3) := by decide +kernel
theorem d_X_open_58 : decode prog_1_method_9_code 58 = .ok (.i2l, 1) := by decide +kernel
theorem d_X_open_59 : decode prog_1_method_9_code 59 = .ok (.invokestatic 184, 3) := by decide +kernel
theorem d_X_open_62 : decode prog_1_method_9_code 62 = .ok (.lastore, 1) := by decide +kernel
theorem d_X_open_63 : decode prog_1_method_9_code 63 = .ok (.iinc 6 1, 3) := by decide +kernel
theorem d_X_open_66 : decode prog_1_method_9_code 66 = .ok (.goto (-42), 3) := by decide +kernel
theorem d_X_open_69 : decode prog_1_method_9_code 69 = .ok (.aload_n 0, 1) := by decide +kernel
theorem d_X_open_70 : decode prog_1_method_9_code 70 = .ok (.aload 5, 2) := by decide +kernel
theorem d_X_open_72 : decode prog_1_method_9_code 72 = .ok (.invokevirtual 187, 3) := by decide +kernel
theorem d_X_open_75 : decode prog_1_method_9_code 75 = .ok (.invokestatic 191, 3) := by decide +kernel
theorem d_X_open_78 : decode prog_1_method_9_code 78 = .ok (.ireturn, 1) := by decide +kernel
theorem d_X_join_0 : decode prog_1_method_10_code 0 = .ok (.aload_n 0, 1) := by decide +kernel
theorem d_X_join_1 : decode prog_1_method_10_code 1 = .ok (.iload_n 1, 1) := by decide +kernel
theorem d_X_join_2 : decode prog_1_method_10_code 2 = .ok (.invokevirtual 139, 3) := by decide +kernel
theorem d_X_join_5 : decode prog_1_method_10_code 5 = .ok (.astore 5, 2) := by decide +kernel
theorem d_X_join_7 : decode prog_1_method_10_code 7 = .ok (.aload_n 0, 1) := by decide +kernel
theorem d_X_join_8 : decode prog_1_method_10_code 8 = .ok (.iload_n 3, 1) := by decide +kernel
theorem d_X_join_9 : decode prog_1_method_10_code 9 = .ok (.invokevirtual 173, 3) := by decide +kernel
theorem d_X_join_12 : decode prog_1_method_10_code 12 = .ok (.astore 6, 2) := by decide +kernel
theorem d_X_join_14 : decode prog_1_method_10_code 14 = .ok (.aload_n 0, 1) := by decide +kernel
theorem d_X_join_15 : decode prog_1_method_10_code 15 = .ok (.iload 4, 2) := by decide +kernel
theorem d_X_join_17 : decode prog_1_method_10_code 17 = .ok (.invokevirtual 173, 3) := by decide +kernel
theorem d_X_join_20 : decode prog_1_method_10_code 20 = .ok (.astore 7, 2) := by decide +kernel
theorem d_X_join_22 : decode prog_1_method_10_code 22 = .ok (.iload_n 2, 1) := by decide +kernel
theorem d_X_join_23 : decode prog_1_method_10_code 23 = .ok (.ifCond .lt 8, 3) := by decide +kernel
theorem d_X_join_26 : decode prog_1_method_10_code 26 = .ok (.iload_n 2, 1) := by decide +kernel
theorem d_X_join_27 : decode prog_1_method_10_code 27 = .ok (.iconst 2, 1) := by decide +kernel
theorem d_X_join_28 : decode prog_1_method_10_code 28 = .ok (.if_icmp .le 13, 3) := by decide +kernel
theorem d_X_join_31 : decode prog_1_method_10_code 31 = .ok (.new 52, 3) := by decide +kernel
theorem d_X_join_34 : decode prog_1_method_10_code 34 = .ok (.dup, 1) := by decide +kernel
theorem d_X_join_35 : decode prog_1_method_10_code 35 = .ok (.ldc 195, 2) := by decide +kernel
theorem d_X_join_37 : decode prog_1_method_10_code 37 = .ok (.invokespecial 56, 3) := by decide +kernel
theorem d_X_join_40 : decode prog_1_method_10_code 40 = .ok (.athrow, 1) := by decide +kernel
theorem d_X_join_41 : decode prog_1_method_10_code 41 = .ok (.iload_n 2, 1) := by decide +kernel
theorem d_X_join_42 : decode prog_1_method_10_code 42 = .ok (.iconst 2, 1) := by decide +kernel
theorem d_X_join_43 : decode prog_1_method_10_code 43 = .ok (.if_icmp .ne 31, 3) := by decide +kernel
theorem d_X_join_46 : decode prog_1_method_10_code 46 = .ok (.aload 6, 2) := by decide +kernel
theorem d_X_join_48 : decode prog_1_method_10_code 48 = .ok (.getfield 197, 3) := by decide +kernel
theorem d_X_join_51 : decode prog_1_method_10_code 51 = .ok (.iconst 3, 1) := by decide +kernel
theorem d_X_join_52 : decode prog_1_method_10_code 52 = .ok (.if_icmp .eq 12, 3) := by decide +kernel
theorem d_X_join_55 : decode prog_1_method_10_code 55 = .ok (.aload 7, 2) := by decide +kernel
theorem d_X_join_57 : decode prog_1_method_10_code 57 = .ok (.getfield 197, 3) := by decide +kernel
theorem d_X_join_60 : decode prog_1_method_10_code 60 = .ok (.iconst 3, 1) := by decide +kernel
theorem d_X_join_61 : decode prog_1_method_10_code 61 = .ok (.if_icmp .ne 13, 3) := by decide +kernel
theorem d_X_join_64 : decode prog_1_method_10_code 64 = .ok (.new 92, 3) := by decide +kernel
theorem d_X_join_67 : decode prog_1_method_10_code 67 = .ok (.dup, 1) := by decide +kernel
theorem d_X_join_68 : decode prog_1_method_10_code 68 = .ok (.ldc 200, 2) := by decide +kernel
theorem d_X_join_70 : decode prog_1_method_10_code 70 = .ok (.invokespecial 96, 3) := by decide +kernel
theorem d_X_join_73 : decode prog_1_method_10_code 73 = .ok (.athrow, 1) := by decide +kernel
theorem d_X_join_74 : decode prog_1_method_10_code 74 = .ok (.iload_n 2, 1) := by decide +kernel
theorem d_X_join_75 : decode prog_1_method_10_code 75 = .ok (.iconst 2, 1) := by decide +kernel
theorem d_X_join_76 : decode prog_1_method_10_code 76 = .ok (.if_icmp .ne 16, 3) := by decide +kernel
theorem d_X_join_79 : decode prog_1_method_10_code 79 = .ok (.aload_n 0, 1) := by decide +kernel
theorem d_X_join_80 : decode prog_1_method_10_code 80 = .ok (.aload 5, 2) := by decide +kernel
theorem d_X_join_82 : decode prog_1_method_10_code 82 = .ok (.aload 6, 2) := by decide +kernel
theorem d_X_join_84 : decode prog_1_method_10_code 84 = .ok (.aload 7, 2) := by decide +kernel
theorem d_X_join_86 : decode prog_1_method_10_code 86 = .ok (.invokevirtual 202, 3) := by decide +kernel
theorem d_X_join_89 : decode prog_1_method_10_code 89 = .ok (.goto 24, 3) := by decide +kernel
theorem d_X_join_92 : decode prog_1_method_10_code 92 = .ok (.aload_n 0, 1) := by decide +kernel
theorem d_X_join_93 : decode prog_1_method_10_code 93 = .ok (.aload 5, 2) := by decide +kernel
theorem d_X_join_95 : decode prog_1_method_10_code 95 = .ok (.aload 6, 2) := by decide +kernel
theorem d_X_join_97 : decode prog_1_method_10_code 97 = .ok (.aload 7, 2) := by decide +kernel
theorem d_X_join_99 : decode prog_1_method_10_code 99 = .ok (.iload_n 2, 1) := by decide +kernel
theorem d_X_join_100 : decode prog_1_method_10_code 100 = .ok (.ifCond .ne 7, 3) := by decide +kernel
theorem d_X_join_103 : decode prog_1_method_10_code 103 = .ok (.lconst 1, 1) := by decide +kernel
theorem d_X_join_104 : decode prog_1_method_10_code 104 = .ok (.goto 6, 3) := by decide +kernel
theorem d_X_join_107 : decode prog_1_method_10_code 107 = .ok (.ldc2_w 206, 3) := by decide +kernel
theorem d_X_join_110 : decode prog_1_method_10_code 110 = .ok (.invokevirtual 208, 3) := by decide +kernel
theorem d_X_join_113 : decode prog_1_method_10_code 113 = .ok (.aload 5, 2) := by decide +kernel
theorem d_X_join_115 : decode prog_1_method_10_code 115 = .ok (.getfield 197, 3) := by decide +kernel
theorem d_X_join_118 : decode prog_1_method_10_code 118 = .ok (.ireturn, 1) := by decide +kernel
theorem d_X_plain_0 : decode prog_1_method_11_code 0 = .ok (.aload_n 0, 1) := by decide +kernel
theorem d_X_plain_1 : decode prog_1_method_11_code 1 = .ok (.iload_n 1, 1) := by decide +kernel
theorem d_X_plain_2 : decode prog_1_method_11_code 2 = .ok (.invokevirtual 139, 3) := by decide +kernel
theorem d_X_plain_5 : decode prog_1_method_11_code 5 = .ok (.astore 5, 2) := by decide +kernel
theorem d_X_plain_7 : decode prog_1_method_11_code 7 = .ok (.aload_n 0, 1) := by decide +kernel
theorem d_X_plain_8 : decode prog_1_method_11_code 8 = .ok (.iload_n 3, 1) := by decide +kernel
theorem d_X_plain_9 : decode prog_1_method_11_code 9 = .ok (.invokevirtual 173, 3) := by decide +kernel
theorem d_X_plain_12 : decode prog_1_method_11_code 12 = .ok (.astore 6, 2) := by decide +kernel
theorem d_X_plain_14 : decode prog_1_method_11_code 14 = .ok (.aload_n 0, 1) := by decide +kernel
theorem d_X_plain_15 : decode prog_1_method_11_code 15 = .ok (.iload 4, 2) := by decide +kernel
theorem d_X_plain_17 : decode prog_1_method_11_code 17 = .ok (.invokevirtual 110, 3) := by decide +kernel
theorem d_X_plain_20 : decode prog_1_method_11_code 20 = .ok (.astore 7, 2) := by decide +kernel
theorem d_X_plain_22 : decode prog_1_method_11_code 22 = .ok (.iload_n 2, 1) := by decide +kernel
theorem d_X_plain_23 : decode prog_1_method_11_code 23 = .ok (.ifCond .lt 8, 3) := by decide +kernel
theorem d_X_plain_26 : decode prog_1_method_11_code 26 = .ok (.iload_n 2, 1) := by decide +kernel
theorem d_X_plain_27 : decode prog_1_method_11_code 27 = .ok (.iconst 1, 1) := by decide +kernel
theorem d_X_plain_28 : decode prog_1_method_11_code 28 = .ok (.if_icmp .le 13, 3) := by decide +kernel
theorem d_X_plain_31 : decode prog_1_method_11_code 31 = .ok (.new 52, 3) := by decide +kernel
theorem d_X_plain_34 : decode prog_1_method_11_code 34 = .ok (.dup, 1) := by decide +kernel
theorem d_X_plain_35 : decode prog_1_method_11_code 35 = .ok (.ldc 195, 2) := by decide +kernel
theorem d_X_plain_37 : decode prog_1_method_11_code 37 = .ok (.invokespecial 56, 3) := by decide +kernel
theorem d_X_plain_40 : decode prog_1_method_11_code 40 = .ok (.athrow, 1) := by decide +kernel
theorem d_X_plain_41 : decode prog_1_method_11_code 41 = .ok (.iload_n 2, 1) := by decide +kernel
theorem d_X_plain_42 : decode prog_1_method_11_code 42 = .ok (.ifCond .ne 16, 3) := by decide +kernel
theorem d_X_plain_45 : decode prog_1_method_11_code 45 = .ok (.aload_n 0, 1) := by decide +kernel
theorem d_X_plain_46 : decode prog_1_method_11_code 46 = .ok (.aload 5, 2) := by decide +kernel
theorem d_X_plain_48 : decode prog_1_method_11_code 48 = .ok (.aload 6, 2) := by decide +kernel
theorem d_X_plain_50 : decode prog_1_method_11_code 50 = .ok (.aload 7, 2) := by decide +kernel
theorem d_X_plain_52 : decode prog_1_method_11_code 52 = .ok (.invokevirtual 212, 3) := by decide +kernel
theorem d_X_plain_55 : decode prog_1_method_11_code 55 = .ok (.goto 13, 3) := by decide +kernel
theorem d_X_plain_58 : decode prog_1_method_11_code 58 = .ok (.aload_n 0, 1) := by decide +kernel
theorem d_X_plain_59 : decode prog_1_method_11_code 59 = .ok (.aload 5, 2) := by decide +kernel
theorem d_X_plain_61 : decode prog_1_method_11_code 61 = .ok (.aload 6, 2) := by decide +kernel
theorem d_X_plain_63 : decode prog_1_method_11_code 63 = .ok (.aload 7, 2) := by decide +kernel
theorem d_X_plain_65 : decode prog_1_method_11_code 65 = .ok (.invokevirtual 216, 3) := by decide +kernel
theorem d_X_plain_68 : decode prog_1_method_11_code 68 = .ok (.aload 5, 2) := by decide +kernel
theorem d_X_plain_70 : decode prog_1_method_11_code 70 = .ok (.getfield 197, 3) := by decide +kernel
theorem d_X_plain_73 : decode prog_1_method_11_code 73 = .ok (.ireturn, 1) := by decide +kernel
theorem d_X_shrink_0 : decode prog_1_method_12_code 0 = .ok (.aload_n 0, 1) := by decide +kernel
theorem d_X_shrink_1 : decode prog_1_method_12_code 1 = .ok (.iload_n 1, 1) := by decide +kernel
theorem d_X_shrink_2 : decode prog_1_method_12_code 2 = .ok (.invokevirtual 139, 3) := by decide +kernel
theorem d_X_shrink_5 : decode prog_1_method_12_code 5 = .ok (.astore_n 3, 1) := by decide +kernel
theorem d_X_shrink_6 : decode prog_1_method_12_code 6 = .ok (.aload_n 0, 1) := by decide +kernel
theorem d_X_shrink_7 : decode prog_1_method_12_code 7 = .ok (.iload_n 2, 1) := by decide +kernel
theorem d_X_shrink_8 : decode prog_1_method_12_code 8 = .ok (.invokevirtual 173, 3) := by decide +kernel
theorem d_X_shrink_11 : decode prog_1_method_12_code 11 = .ok (.astore 4, 2) := by decide +kernel
theorem d_X_shrink_13 : decode prog_1_method_12_code 13 = .ok (.aload 4, 2) := by decide +kernel
theorem d_X_shrink_15 : decode prog_1_method_12_code 15 = .ok (.getfield 197, 3) := by decide +kernel
theorem d_X_shrink_18 : decode prog_1_method_12_code 18 = .ok (.iconst 2, 1) := by decide +kernel
theorem d_X_shrink_19 : decode prog_1_method_12_code 19 = .ok (.if_icmp .ne 13, 3) := by decide +kernel
theorem d_X_shrink_22 : decode prog_1_method_12_code 22 = .ok (.new 92, 3) := by decide +kernel
theorem d_X_shrink_25 : decode prog_1_method_12_code 25 = .ok (.dup, 1) := by decide +kernel
theorem d_X_shrink_26 : decode prog_1_method_12_code 26 = .ok (.ldc 219, 2) := by decide +kernel
theorem d_X_shrink_28 : decode prog_1_method_12_code 28 = .ok (.invokespecial 96, 3) := by decide +kernel
theorem d_X_shrink_31 : decode prog_1_method_12_code 31 = .ok (.athrow, 1) := by decide +kernel
theorem d_X_shrink_32 : decode prog_1_method_12_code 32 = .ok (.aload_n 0, 1) := by decide +kernel
theorem d_X_shrink_33 : decode prog_1_method_12_code 33 = .ok (.getfield 12, 3) := by decide +kernel
theorem d_X_shrink_36 : decode prog_1_method_12_code 36 = .ok (.aload_n 0, 1) := by decide +kernel
theorem d_X_shrink_37 : decode prog_1_method_12_code 37 = .ok (.getfield 42, 3) := by decide +kernel
theorem d_X_shrink_40 : decode prog_1_method_12_code 40 = .ok (.iconst 0, 1) := by decide +kernel
theorem d_X_shrink_41 : decode prog_1_method_12_code 41 = .ok (.aaload, 1) := by decide +kernel
theorem d_X_shrink_42 : decode prog_1_method_12_code 42 = .ok (.aload 4, 2) := by decide +kernel
theorem d_X_shrink_44 : decode prog_1_method_12_code 44 = .ok (.getfield 221, 3) := by decide +kernel
theorem d_X_shrink_47 : decode prog_1_method_12_code 47 = .ok (.iconst 0, 1) := by decide +kernel
theorem d_X_shrink_48 : decode prog_1_method_12_code 48 = .ok (.aaload, 1) := by decide +kernel
theorem d_X_shrink_49 : decode prog_1_method_12_code 49 = .ok (.invokevirtual 222, 3) := by decide +kernel
theorem d_X_shrink_52 : decode prog_1_method_12_code 52 = .ok (.aload_n 0, 1) := by decide +kernel
theorem d_X_shrink_53 : decode prog_1_method_12_code 53 = .ok (.getfield 12, 3) := by decide +kernel
theorem d_X_shrink_56 : decode prog_1_method_12_code 56 = .ok (.aload_n 0, 1) := by decide +kernel
theorem d_X_shrink_57 : decode prog_1_method_12_code 57 = .ok (.getfield 42, 3) := by decide +kernel
theorem d_X_shrink_60 : decode prog_1_method_12_code 60 = .ok (.iconst 1, 1) := by decide +kernel
theorem d_X_shrink_61 : decode prog_1_method_12_code 61 = .ok (.aaload, 1) := by decide +kernel
theorem d_X_shrink_62 : decode prog_1_method_12_code 62 = .ok (.aload 4, 2) := by decide +kernel
theorem d_X_shrink_64 : decode prog_1_method_12_code 64 = .ok (.getfield 221, 3) := by decide +kernel
theorem d_X_shrink_67 : decode prog_1_method_12_code 67 = .ok (.iconst 1, 1) := by decide +kernel
theorem d_X_shrink_68 : decode prog_1_method_12_code 68 = .ok (.aaload, 1) := by decide +kernel
theorem d_X_shrink_69 : decode prog_1_method_12_code 69 = .ok (.invokevirtual 222, 3) := by decide +kernel
theorem d_X_shrink_72 : decode prog_1_method_12_code 72 = .ok (.aload_n 0, 1) := by decide +kernel
theorem d_X_shrink_73 : decode prog_1_method_12_code 73 = .ok (.aload_n 0, 1) := by decide +kernel
theorem d_X_shrink_74 : decode prog_1_method_12_code 74 = .ok (.getfield 26, 3) := by decide +kernel
theorem d_X_shrink_77 : decode prog_1_method_12_code 77 = .ok (.getfield 225, 3) := by decide +kernel
theorem d_X_shrink_80 : decode prog_1_method_12_code 80 = .ok (.aload 4, 2) := by decide +kernel
theorem d_X_shrink_82 : decode prog_1_method_12_code 82 = .ok (.getfield 221, 3) := by decide +kernel
theorem d_X_shrink_85 : decode prog_1_method_12_code 85 = .ok (.iconst 2, 1) := by decide +kernel
theorem d_X_shrink_86 : decode prog_1_method_12_code 86 = .ok (.aaload, 1) := by decide +kernel
theorem d_X_shrink_87 : decode prog_1_method_12_code 87 = .ok (.invokevirtual 229, 3) := by decide +kernel
theorem d_X_shrink_90 : decode prog_1_method_12_code 90 = .ok (.aload_n 0, 1) := by decide +kernel
theorem d_X_shrink_91 : decode prog_1_method_12_code 91 = .ok (.aload_n 3, 1) := by decide +kernel
theorem d_X_shrink_92 : decode prog_1_method_12_code 92 = .ok (.invokevirtual 169, 3) := by decide +kernel
theorem d_X_shrink_95 : decode prog_1_method_12_code 95 = .ok (.ireturn, 1) := by decide +kernel
theorem d_X_turn_0 : decode prog_1_method_13_code 0 = .ok (.aload_n 0, 1) := by decide +kernel
theorem d_X_turn_1 : decode prog_1_method_13_code 1 = .ok (.iload_n 1, 1) := by decide +kernel
theorem d_X_turn_2 : decode prog_1_method_13_code 2 = .ok (.invokevirtual 139, 3) := by decide +kernel
theorem d_X_turn_5 : decode prog_1_method_13_code 5 = .ok (.astore 4, 2) := by decide +kernel
theorem d_X_turn_7 : decode prog_1_method_13_code 7 = .ok (.aload_n 0, 1) := by decide +kernel
theorem d_X_turn_8 : decode prog_1_method_13_code 8 = .ok (.iload_n 2, 1) := by decide +kernel
theorem d_X_turn_9 : decode prog_1_method_13_code 9 = .ok (.invokevirtual 173, 3) := by decide +kernel
theorem d_X_turn_12 : decode prog_1_method_13_code 12 = .ok (.astore 5, 2) := by decide +kernel
theorem d_X_turn_14 : decode prog_1_method_13_code 14 = .ok (.aload_n 0, 1) := by decide +kernel
theorem d_X_turn_15 : decode prog_1_method_13_code 15 = .ok (.getfield 26, 3) := by decide +kernel
theorem d_X_turn_18 : decode prog_1_method_13_code 18 = .ok (.iload_n 3, 1) := by decide +kernel
theorem d_X_turn_19 : decode prog_1_method_13_code 19 = .ok (.invokevirtual 97, 3) := by decide +kernel
theorem d_X_turn_22 : decode prog_1_method_13_code 22 = .ok (.istore 6, 2) := by decide +kernel
theorem d_X_turn_24 : decode prog_1_method_13_code 24 = .ok (.iload 6, 2) := by decide +kernel
theorem d_X_turn_26 : decode prog_1_method_13_code 26 = .ok (.aload_n 0, 1) := by decide +kernel
theorem d_X_turn_27 : decode prog_1_method_13_code 27 = .ok (.getfield 26, 3) := by decide +kernel
theorem d_X_turn_30 : decode prog_1_method_13_code 30 = .ok (.getfield 107, 3) := by decide +kernel
theorem d_X_turn_33 : decode prog_1_method_13_code 33 = .ok (.if_icmp .ne 13, 3) := by decide +kernel
theorem d_X_turn_36 : decode prog_1_method_13_code 36 = .ok (.new 92, 3) := by decide +kernel
theorem d_X_turn_39 : decode prog_1_method_13_code 39 = .ok (.dup, 1) := by decide +kernel
theorem d_X_turn_40 : decode prog_1_method_13_code 40 = .ok (.ldc 86, 2) := by decide +kernel
theorem d_X_turn_42 : decode prog_1_method_13_code 42 = .ok (.invokespecial 96, 3) := by decide +kernel
theorem d_X_turn_45 : decode prog_1_method_13_code 45 = .ok (.athrow, 1) := by decide +kernel
theorem d_X_turn_46 : decode prog_1_method_13_code 46 = .ok (.aload 5, 2) := by decide +kernel
theorem d_X_turn_48 : decode prog_1_method_13_code 48 = .ok (.getfield 197, 3) := by decide +kernel
theorem d_X_turn_51 : decode prog_1_method_13_code 51 = .ok (.iconst 3, 1) := by decide +kernel
theorem d_X_turn_52 : decode prog_1_method_13_code 52 = .ok (.if_icmp .ne 13, 3) := by decide +kernel
theorem d_X_turn_55 : decode prog_1_method_13_code 55 = .ok (.new 92, 3) := by decide +kernel
theorem d_X_turn_58 : decode prog_1_method_13_code 58 = .ok (.dup, 1) := by decide +kernel
theorem d_X_turn_59 : decode prog_1_method_13_code 59 = .ok (.ldc 233, 2) := by decide +kernel
theorem d_X_turn_61 : decode prog_1_method_13_code 61 = .ok (.invokespecial 96, 3) := by decide +kernel
theorem d_X_turn_64 : decode prog_1_method_13_code 64 = .ok (.athrow, 1) := by decide +kernel
theorem d_X_turn_65 : decode prog_1_method_13_code 65 = .ok (.aload_n 0, 1) := by decide +kernel
theorem d_X_turn_66 : decode prog_1_method_13_code 66 = .ok (.getfield 45, 3) := by decide +kernel
theorem d_X_turn_69 : decode prog_1_method_13_code 69 = .ok (.iconst 0, 1) := by decide +kernel
theorem d_X_turn_70 : decode prog_1_method_13_code 70 = .ok (.aaload, 1) := by decide +kernel
theorem d_X_turn_71 : decode prog_1_method_13_code 71 = .ok (.astore 7, 2) := by decide +kernel
theorem d_X_turn_73 : decode prog_1_method_13_code 73 = .ok (.aload_n 0, 1) := by decide +kernel
theorem d_X_turn_74 : decode prog_1_method_13_code 74 = .ok (.getfield 12, 3) := by decide +kernel
theorem d_X_turn_77 : decode prog_1_method_13_code 77 = .ok (.aload_n 0, 1) := by decide +kernel
theorem d_X_turn_78 : decode prog_1_method_13_code 78 = .ok (.getfield 42, 3) := by decide +kernel
theorem d_X_turn_81 : decode prog_1_method_13_code 81 = .ok (.iconst 0, 1) := by decide +kernel
theorem d_X_turn_82 : decode prog_1_method_13_code 82 = .ok (.aaload, 1) := by decide +kernel
theorem d_X_turn_83 : decode prog_1_method_13_code 83 = .ok (.aload 5, 2) := by decide +kernel
theorem d_X_turn_85 : decode prog_1_method_13_code 85 = .ok (.getfield 221, 3) := by decide +kernel
theorem d_X_turn_88 : decode prog_1_method_13_code 88 = .ok (.iconst 0, 1) := by decide +kernel
theorem d_X_turn_89 : decode prog_1_method_13_code 89 = .ok (.aaload, 1) := by decide +kernel
theorem d_X_turn_90 : decode prog_1_method_13_code 90 = .ok (.iload_n 3, 1) := by decide +kernel
theorem d_X_turn_91 : decode prog_1_method_13_code 91 = .ok (.invokevirtual 235, 3) := by decide +kernel
theorem d_X_turn_94 : decode prog_1_method_13_code 94 = .ok (.aload_n 0, 1) := by decide +kernel
theorem d_X_turn_95 : decode prog_1_method_13_code 95 = .ok (.getfield 12, 3) := by decide +kernel
theorem d_X_turn_98 : decode prog_1_method_13_code 98 = .ok (.aload 7, 2) := by decide +kernel
theorem d_X_turn_100 : decode prog_1_method_13_code 100 = .ok (.aload 5, 2) := by decide +kernel
theorem d_X_turn_102 : decode prog_1_method_13_code 102 = .ok (.getfield 221, 3) := by decide +kernel
theorem d_X_turn_105 : decode prog_1_method_13_code 105 = .ok (.iconst 1, 1) := by decide +kernel
theorem d_X_turn_106 : decode prog_1_method_13_code 106 = .ok (.aaload, 1) := by decide +kernel
theorem d_X_turn_107 : decode prog_1_method_13_code 107 = .ok (.iload_n 3, 1) := by decide +kernel
theorem d_X_turn_108 : decode prog_1_method_13_code 108 = .ok (.invokevirtual 235, 3) := by decide +kernel
theorem d_X_turn_111 : decode prog_1_method_13_code 111 = .ok (.aload_n 0, 1) := by decide +kernel
theorem d_X_turn_112 : decode prog_1_method_13_code 112 = .ok (.getfield 42, 3) := by decide +kernel
theorem d_X_turn_115 : decode prog_1_method_13_code 115 = .ok (.iconst 1, 1) := by decide +kernel
theorem d_X_turn_116 : decode prog_1_method_13_code 116 = .ok (.aaload, 1) := by decide +kernel
theorem d_X_turn_117 : decode prog_1_method_13_code 117 = .ok (.lconst 0, 1) := by decide +kernel
theorem d_X_turn_118 : decode prog_1_method_13_code 118 = .ok (.invokestatic 72, 3) := by decide +kernel
theorem d_X_turn_121 : decode prog_1_method_13_code 121 = .ok (.aload_n 0, 1) := by decide +kernel
theorem d_X_turn_122 : decode prog_1_method_13_code 122 = .ok (.aload_n 0, 1) := by decide +kernel
theorem d_X_turn_123 : decode prog_1_method_13_code 123 = .ok (.getfield 26, 3) := by decide +kernel
theorem d_X_turn_126 : decode prog_1_method_13_code 126 = .ok (.getfield 239, 3) := by decide +kernel
theorem d_X_turn_129 : decode prog_1_method_13_code 129 = .ok (.iload 6, 2) := by decide +kernel
theorem d_X_turn_131 : decode prog_1_method_13_code 131 = .ok (.aaload, 1) := by decide +kernel
theorem d_X_turn_132 : decode prog_1_method_13_code 132 = .ok (.aload 7, 2) := by decide +kernel
theorem d_X_turn_134 : decode prog_1_method_13_code 134 = .ok (.invokevirtual 229, 3) := by decide +kernel
theorem d_X_turn_137 : decode prog_1_method_13_code 137 = .ok (.aload_n 0, 1) := by decide +kernel
theorem d_X_turn_138 : decode prog_1_method_13_code 138 = .ok (.aload 4, 2) := by decide +kernel
theorem d_X_turn_140 : decode prog_1_method_13_code 140 = .ok (.invokevirtual 169, 3) := by decide +kernel
theorem d_X_turn_143 : decode prog_1_method_13_code 143 = .ok (.ireturn, 1) := by decide +kernel
theorem d_X_part_0 : decode prog_1_method_14_code 0 = .ok (.aload_n 0, 1) := by decide +kernel
theorem d_X_part_1 : decode prog_1_method_14_code 1 = .ok (.iload_n 1, 1) := by decide +kernel
theorem d_X_part_2 : decode prog_1_method_14_code 2 = .ok (.invokevirtual 173, 3) := by decide +kernel
theorem d_X_part_5 : decode prog_1_method_14_code 5 = .ok (.astore 4, 2) := by decide +kernel
theorem d_X_part_7 : decode prog_1_method_14_code 7 = .ok (.iload_n 2, 1) := by decide +kernel
theorem d_X_part_8 : decode prog_1_method_14_code 8 = .ok (.ifCond .lt 12, 3) := by decide +kernel
theorem d_X_part_11 : decode prog_1_method_14_code 11 = .ok (.iload_n 2, 1) := by decide +kernel
theorem d_X_part_12 : decode prog_1_method_14_code 12 = .ok (.aload 4, 2) := by decide +kernel
theorem d_X_part_14 : decode prog_1_method_14_code 14 = .ok (.getfield 197, 3) := by decide +kernel
theorem d_X_part_17 : decode prog_1_method_14_code 17 = .ok (.if_icmp .lt 13, 3) := by decide +kernel
theorem d_X_part_20 : decode prog_1_method_14_code 20 = .ok (.new 243, 3) := by decide +kernel
theorem d_X_part_23 : decode prog_1_method_14_code 23 = .ok (.dup, 1) := by decide +kernel
theorem d_X_part_24 : decode prog_1_method_14_code 24 = .ok (.ldc 245, 2) := by decide +kernel
theorem d_X_part_26 : decode prog_1_method_14_code 26 = .ok (.invokespecial 247, 3) := by decide +kernel
theorem d_X_part_29 : decode prog_1_method_14_code 29 = .ok (.athrow, 1) := by decide +kernel
theorem d_X_part_30 : decode prog_1_method_14_code 30 = .ok (.aload_n 0, 1) := by decide +kernel
theorem d_X_part_31 : decode prog_1_method_14_code 31 = .ok (.iload_n 3, 1) := by decide +kernel
theorem d_X_part_32 : decode prog_1_method_14_code 32 = .ok (.invokevirtual 114, 3) := by decide +kernel
theorem d_X_part_35 : decode prog_1_method_14_code 35 = .ok (.aload 4, 2) := by decide +kernel
theorem d_X_part_37 : decode prog_1_method_14_code 37 = .ok (.getfield 221, 3) := by decide +kernel
theorem d_X_part_40 : decode prog_1_method_14_code 40 = .ok (.iload_n 2, 1) := by decide +kernel
theorem d_X_part_41 : decode prog_1_method_14_code 41 = .ok (.aaload, 1) := by decide +kernel
theorem d_X_part_42 : decode prog_1_method_14_code 42 = .ok (.iload_n 3, 1) := by decide +kernel
theorem d_X_part_43 : decode prog_1_method_14_code 43 = .ok (.laload, 1) := by decide +kernel
theorem d_X_part_44 : decode prog_1_method_14_code 44 = .ok (.l2i, 1) := by decide +kernel
theorem d_X_part_45 : decode prog_1_method_14_code 45 = .ok (.ireturn, 1) := by decide +kernel
theorem d_X_about_0 : decode prog_1_method_15_code 0 = .ok (.aload_n 0, 1) := by decide +kernel
theorem d_X_about_1 : decode prog_1_method_15_code 1 = .ok (.iload_n 1, 1) := by decide +kernel
theorem d_X_about_2 : decode prog_1_method_15_code 2 = .ok (.invokevirtual 173, 3) := by decide +kernel
theorem d_X_about_5 : decode prog_1_method_15_code 5 = .ok (.astore_n 3, 1) := by decide +kernel
theorem d_X_about_6 : decode prog_1_method_15_code 6 = .ok (.iload_n 2, 1) := by decide +kernel
theorem d_X_about_7 : decode prog_1_method_15_code 7 = .ok (.tableswitch 54 0 2 #[25, 30, 43], 25) := by decide +kernel
theorem d_X_about_32 : decode prog_1_method_15_code 32 = .ok (.aload_n 3, 1) := by decide +kernel
theorem d_X_about_33 : decode prog_1_method_15_code 33 = .ok (.getfield 197, 3) := by decide +kernel
theorem d_X_about_36 : decode prog_1_method_15_code 36 = .ok (.ireturn, 1) := by decide +kernel
theorem d_X_about_37 : decode prog_1_method_15_code 37 = .ok (.aload_n 0, 1) := by decide +kernel
theorem d_X_about_38 : decode prog_1_method_15_code 38 = .ok (.aload_n 0, 1) := by decide +kernel
theorem d_X_about_39 : decode prog_1_method_15_code 39 = .ok (.aload_n 3, 1) := by decide +kernel
theorem d_X_about_40 : decode prog_1_method_15_code 40 = .ok (.invokevirtual 176, 3) := by decide +kernel
theorem d_X_about_43 : decode prog_1_method_15_code 43 = .ok (.invokevirtual 187, 3) := by decide +kernel
theorem d_X_about_46 : decode prog_1_method_15_code 46 = .ok (.invokestatic 191, 3) := by decide +kernel
theorem d_X_about_49 : decode prog_1_method_15_code 49 = .ok (.ireturn, 1) := by decide +kernel
theorem d_X_about_50 : decode prog_1_method_15_code 50 = .ok (.aload_n 0, 1) := by decide +kernel
theorem d_X_about_51 : decode prog_1_method_15_code 51 = .ok (.aload_n 0, 1) := by decide +kernel
theorem d_X_about_52 : decode prog_1_method_15_code 52 = .ok (.aload_n 3, 1) := by decide +kernel
theorem d_X_about_53 : decode prog_1_method_15_code 53 = .ok (.invokevirtual 176, 3) := by decide +kernel
theorem d_X_about_56 : decode prog_1_method_15_code 56 = .ok (.invokevirtual 187, 3) := by decide +kernel
theorem d_X_about_59 : decode prog_1_method_15_code 59 = .ok (.l2i, 1) := by decide +kernel
theorem d_X_about_60 : decode prog_1_method_15_code 60 = .ok (.ireturn, 1) := by decide +kernel
theorem d_X_about_61 : decode prog_1_method_15_code 61 = .ok (.new 52, 3) := by decide +kernel
theorem d_X_about_64 : decode prog_1_method_15_code 64 = .ok (.dup, 1) := by decide +kernel
theorem d_X_about_65 : decode prog_1_method_15_code 65 = .ok (.ldc 248, 2) := by decide +kernel
theorem d_X_about_67 : decode prog_1_method_15_code 67 = .ok (.invokespecial 56, 3) := by decide +kernel
theorem d_X_about_70 : decode prog_1_method_15_code 70 = .ok (.athrow, 1) := by decide +kernel
theorem d_X_drop_0 : decode prog_1_method_16_code 0 = .ok (.aload_n 0, 1) := by decide +kernel
theorem d_X_drop_1 : decode prog_1_method_16_code 1 = .ok (.iload_n 1, 1) := by decide +kernel
theorem d_X_drop_2 : decode prog_1_method_16_code 2 = .ok (.invokevirtual 139, 3) := by decide +kernel
theorem d_X_drop_5 : decode prog_1_method_16_code 5 = .ok (.astore_n 2, 1) := by decide +kernel
theorem d_X_drop_6 : decode prog_1_method_16_code 6 = .ok (.aload_n 2, 1) := by decide +kernel
theorem d_X_drop_7 : decode prog_1_method_16_code 7 = .ok (.getfield 197, 3) := by decide +kernel
theorem d_X_drop_10 : decode prog_1_method_16_code 10 = .ok (.istore_n 3, 1) := by decide +kernel
theorem d_X_drop_11 : decode prog_1_method_16_code 11 = .ok (.aload_n 2, 1) := by decide +kernel
theorem d_X_drop_12 : decode prog_1_method_16_code 12 = .ok (.iconst 0, 1) := by decide +kernel
theorem d_X_drop_13 : decode prog_1_method_16_code 13 = .ok (.putfield 197, 3) := by decide +kernel
theorem d_X_drop_16 : decode prog_1_method_16_code 16 = .ok (.iload_n 3, 1) := by decide +kernel
theorem d_X_drop_17 : decode prog_1_method_16_code 17 = .ok (.ireturn, 1) := by decide +kernel
theorem d_X_count_0 : decode prog_1_method_17_code 0 = .ok (.iload_n 1, 1) := by decide +kernel
theorem d_X_count_1 : decode prog_1_method_17_code 1 = .ok (.tableswitch 116 0 7 #[47, 55, 63, 71, 79, 95, 103, 108], 47) := by decide +kernel
theorem d_X_count_48 : decode prog_1_method_17_code 48 = .ok (.aload_n 0, 1) := by decide +kernel
theorem d_X_count_49 : decode prog_1_method_17_code 49 = .ok (.getfield 12, 3) := by decide +kernel
theorem d_X_count_52 : decode prog_1_method_17_code 52 = .ok (.getfield 250, 3) := by decide +kernel
theorem d_X_count_55 : decode prog_1_method_17_code 55 = .ok (.ireturn, 1) := by decide +kernel
theorem d_X_count_56 : decode prog_1_method_17_code 56 = .ok (.aload_n 0, 1) := by decide +kernel
theorem d_X_count_57 : decode prog_1_method_17_code 57 = .ok (.getfield 12, 3) := by decide +kernel
theorem d_X_count_60 : decode prog_1_method_17_code 60 = .ok (.getfield 78, 3) := by decide +kernel
theorem d_X_count_63 : decode prog_1_method_17_code 63 = .ok (.ireturn, 1) := by decide +kernel
theorem d_X_count_64 : decode prog_1_method_17_code 64 = .ok (.aload_n 0, 1) := by decide +kernel
theorem d_X_count_65 : decode prog_1_method_17_code 65 = .ok (.getfield 12, 3) := by decide +kernel
theorem d_X_count_68 : decode prog_1_method_17_code 68 = .ok (.getfield 117, 3) := by decide +kernel
theorem d_X_count_71 : decode prog_1_method_17_code 71 = .ok (.ireturn, 1) := by decide +kernel
theorem d_X_count_72 : decode prog_1_method_17_code 72 = .ok (.aload_n 0, 1) := by decide +kernel
theorem d_X_count_73 : decode prog_1_method_17_code 73 = .ok (.getfield 12, 3) := by decide +kernel
theorem d_X_count_76 : decode prog_1_method_17_code 76 = .ok (.getfield 253, 3) := by decide +kernel
theorem d_X_count_79 : decode prog_1_method_17_code 79 = .ok (.ireturn, 1) := by decide +kernel
theorem d_X_count_80 : decode prog_1_method_17_code 80 = .ok (.aload_n 0, 1) := by decide +kernel
theorem d_X_count_81 : decode prog_1_method_17_code 81 = .ok (.getfield 26, 3) := by decide +kernel
theorem d_X_count_84 : decode prog_1_method_17_code 84 = .ok (.getfield 88, 3) := by decide +kernel
theorem d_X_count_87 : decode prog_1_method_17_code 87 = .ok (.ifCond .eq 7, 3) := by decide +kernel
theorem d_X_count_90 : decode prog_1_method_17_code 90 = .ok (.iconst 1, 1) := by decide +kernel
theorem d_X_count_91 : decode prog_1_method_17_code 91 = .ok (.goto 4, 3) := by decide +kernel
theorem d_X_count_94 : decode prog_1_method_17_code 94 = .ok (.iconst 0, 1) := by decide +kernel
theorem d_X_count_95 : decode prog_1_method_17_code 95 = .ok (.ireturn, 1) := by decide +kernel
theorem d_X_count_96 : decode prog_1_method_17_code 96 = .ok (.aload_n 0, 1) := by decide +kernel
theorem d_X_count_97 : decode prog_1_method_17_code 97 = .ok (.getfield 26, 3) := by decide +kernel
theorem d_X_count_100 : decode prog_1_method_17_code 100 = .ok (.getfield 107, 3) := by decide +kernel
theorem d_X_count_103 : decode prog_1_method_17_code 103 = .ok (.ireturn, 1) := by decide +kernel
theorem d_X_count_104 : decode prog_1_method_17_code 104 = .ok (.aload_n 0, 1) := by decide +kernel
theorem d_X_count_105 : decode prog_1_method_17_code 105 = .ok (.invokevirtual 256, 3) := by decide +kernel
theorem d_X_count_108 : decode prog_1_method_17_code 108 = .ok (.ireturn, 1) := by decide +kernel
theorem d_X_count_109 : decode prog_1_method_17_code 109 = .ok (.aload_n 0, 1) := by decide +kernel
theorem d_X_count_110 : decode prog_1_method_17_code 110 = .ok (.getfield 19, 3) := by decide +kernel
theorem d_X_count_113 : decode prog_1_method_17_code 113 = .ok (.invokevirtual 260, 3) := by decide +kernel
theorem d_X_count_116 : decode prog_1_method_17_code 116 = .ok (.ireturn, 1) := by decide +kernel
theorem d_X_count_117 : decode prog_1_method_17_code 117 = .ok (.iconst (-1), 1) := by decide +kernel
theorem d_X_count_118 : decode prog_1_method_17_code 118 = .ok (.ireturn, 1) := by decide +kernel
theorem d_X_plainAt_0 : decode prog_1_method_18_code 0 = .ok (.iload_n 1, 1) := by decide +kernel
theorem d_X_plainAt_1 : decode prog_1_method_18_code 1 = .ok (.ifCond .lt 9, 3) := by decide +kernel
theorem d_X_plainAt_4 : decode prog_1_method_18_code 4 = .ok (.iload_n 1, 1) := by decide +kernel
theorem d_X_plainAt_5 : decode prog_1_method_18_code 5 = .ok (.bipush 8, 2) := by decide +kernel
theorem d_X_plainAt_7 : decode prog_1_method_18_code 7 = .ok (.if_icmp .lt 14, 3) := by decide +kernel
theorem d_X_plainAt_10 : decode prog_1_method_18_code 10 = .ok (.new 243, 3) := by decide +kernel
theorem d_X_plainAt_13 : decode prog_1_method_18_code 13 = .ok (.dup, 1) := by decide +kernel
theorem d_X_plainAt_14 : decode prog_1_method_18_code 14 = .ok (.ldc_w 263, 3) := by decide +kernel
theorem d_X_plainAt_17 : decode prog_1_method_18_code 17 = .ok (.invokespecial 247, 3) := by decide +kernel
theorem d_X_plainAt_20 : decode prog_1_method_18_code 20 = .ok (.athrow, 1) := by decide +kernel
theorem d_X_plainAt_21 : decode prog_1_method_18_code 21 = .ok (.aload_n 0, 1) := by decide +kernel
theorem d_X_plainAt_22 : decode prog_1_method_18_code 22 = .ok (.getfield 32, 3) := by decide +kernel
theorem d_X_plainAt_25 : decode prog_1_method_18_code 25 = .ok (.iload_n 1, 1) := by decide +kernel
theorem d_X_plainAt_26 : decode prog_1_method_18_code 26 = .ok (.aaload, 1) := by decide +kernel
theorem d_X_plainAt_27 : decode prog_1_method_18_code 27 = .ok (.areturn, 1) := by decide +kernel
theorem d_X_placeAt_0 : decode prog_1_method_19_code 0 = .ok (.iload_n 1, 1) := by decide +kernel
theorem d_X_placeAt_1 : decode prog_1_method_19_code 1 = .ok (.ifCond .lt 9, 3) := by decide +kernel
theorem d_X_placeAt_4 : decode prog_1_method_19_code 4 = .ok (.iload_n 1, 1) := by decide +kernel
theorem d_X_placeAt_5 : decode prog_1_method_19_code 5 = .ok (.bipush 16, 2) := by decide +kernel
theorem d_X_placeAt_7 : decode prog_1_method_19_code 7 = .ok (.if_icmp .lt 14, 3) := by decide +kernel
theorem d_X_placeAt_10 : decode prog_1_method_19_code 10 = .ok (.new 243, 3) := by decide +kernel
theorem d_X_placeAt_13 : decode prog_1_method_19_code 13 = .ok (.dup, 1) := by decide +kernel
theorem d_X_placeAt_14 : decode prog_1_method_19_code 14 = .ok (.ldc_w 265, 3) := by decide +kernel
theorem d_X_placeAt_17 : decode prog_1_method_19_code 17 = .ok (.invokespecial 247, 3) := by decide +kernel
theorem d_X_placeAt_20 : decode prog_1_method_19_code 20 = .ok (.athrow, 1) := by decide +kernel
theorem d_X_placeAt_21 : decode prog_1_method_19_code 21 = .ok (.aload_n 0, 1) := by decide +kernel
theorem d_X_placeAt_22 : decode prog_1_method_19_code 22 = .ok (.getfield 37, 3) := by decide +kernel
theorem d_X_placeAt_25 : decode prog_1_method_19_code 25 = .ok (.iload_n 1, 1) := by decide +kernel
theorem d_X_placeAt_26 : decode prog_1_method_19_code 26 = .ok (.aaload, 1) := by decide +kernel
theorem d_X_placeAt_27 : decode prog_1_method_19_code 27 = .ok (.areturn, 1) := by decide +kernel
theorem d_X_takenAt_0 : decode prog_1_method_20_code 0 = .ok (.aload_n 0, 1) := by decide +kernel
theorem d_X_takenAt_1 : decode prog_1_method_20_code 1 = .ok (.iload_n 1, 1) := by decide +kernel
theorem d_X_takenAt_2 : decode prog_1_method_20_code 2 = .ok (.invokevirtual 139, 3) := by decide +kernel
theorem d_X_takenAt_5 : decode prog_1_method_20_code 5 = .ok (.astore_n 2, 1) := by decide +kernel
theorem d_X_takenAt_6 : decode prog_1_method_20_code 6 = .ok (.aload_n 2, 1) := by decide +kernel
theorem d_X_takenAt_7 : decode prog_1_method_20_code 7 = .ok (.getfield 197, 3) := by decide +kernel
theorem d_X_takenAt_10 : decode prog_1_method_20_code 10 = .ok (.ifCond .ne 14, 3) := by decide +kernel
theorem d_X_takenAt_13 : decode prog_1_method_20_code 13 = .ok (.new 243, 3) := by decide +kernel
theorem d_X_takenAt_16 : decode prog_1_method_20_code 16 = .ok (.dup, 1) := by decide +kernel
theorem d_X_takenAt_17 : decode prog_1_method_20_code 17 = .ok (.ldc_w 267, 3) := by decide +kernel
theorem d_X_takenAt_20 : decode prog_1_method_20_code 20 = .ok (.invokespecial 247, 3) := by decide +kernel
theorem d_X_takenAt_23 : decode prog_1_method_20_code 23 = .ok (.athrow, 1) := by decide +kernel
theorem d_X_takenAt_24 : decode prog_1_method_20_code 24 = .ok (.aload_n 2, 1) := by decide +kernel
theorem d_X_takenAt_25 : decode prog_1_method_20_code 25 = .ok (.areturn, 1) := by decide +kernel
theorem d_X_checkCoefficient_0 : decode prog_1_method_21_code 0 = .ok (.iload_n 1, 1) := by decide +kernel
theorem d_X_checkCoefficient_1 : decode prog_1_method_21_code 1 = .ok (.ifCond .lt 14, 3) := by decide +kernel
theorem d_X_checkCoefficient_4 : decode prog_1_method_21_code 4 = .ok (.iload_n 1, 1) := by decide +kernel
theorem d_X_checkCoefficient_5 : decode prog_1_method_21_code 5 = .ok (.aload_n 0, 1) := by decide +kernel
theorem d_X_checkCoefficient_6 : decode prog_1_method_21_code 6 = .ok (.getfield 12, 3) := by decide +kernel
theorem d_X_checkCoefficient_9 : decode prog_1_method_21_code 9 = .ok (.getfield 78, 3) := by decide +kernel
theorem d_X_checkCoefficient_12 : decode prog_1_method_21_code 12 = .ok (.if_icmp .lt 14, 3) := by decide +kernel
theorem d_X_checkCoefficient_15 : decode prog_1_method_21_code 15 = .ok (.new 243, 3) := by decide +kernel
theorem d_X_checkCoefficient_18 : decode prog_1_method_21_code 18 = .ok (.dup, 1) := by decide +kernel
theorem d_X_checkCoefficient_19 : decode prog_1_method_21_code 19 = .ok (.ldc_w 269, 3) := by decide +kernel
theorem d_X_checkCoefficient_22 : decode prog_1_method_21_code 22 = .ok (.invokespecial 247, 3) := by decide +kernel
theorem d_X_checkCoefficient_25 : decode prog_1_method_21_code 25 = .ok (.athrow, 1) := by decide +kernel
theorem d_X_checkCoefficient_26 : decode prog_1_method_21_code 26 = .ok (.return_, 1) := by decide +kernel
theorem d_X_emptyCiphers_0 : decode prog_1_method_22_code 0 = .ok (.iconst 0, 1) := by decide +kernel
theorem d_X_emptyCiphers_1 : decode prog_1_method_22_code 1 = .ok (.istore_n 1, 1) := by decide +kernel
theorem d_X_emptyCiphers_2 : decode prog_1_method_22_code 2 = .ok (.iload_n 1, 1) := by decide +kernel
theorem d_X_emptyCiphers_3 : decode prog_1_method_22_code 3 = .ok (.bipush 16, 2) := by decide +kernel
theorem d_X_emptyCiphers_5 : decode prog_1_method_22_code 5 = .ok (.if_icmp .ge 19, 3) := by decide +kernel
theorem d_X_emptyCiphers_8 : decode prog_1_method_22_code 8 = .ok (.aload_n 0, 1) := by decide +kernel
theorem d_X_emptyCiphers_9 : decode prog_1_method_22_code 9 = .ok (.getfield 37, 3) := by decide +kernel
theorem d_X_emptyCiphers_12 : decode prog_1_method_22_code 12 = .ok (.iload_n 1, 1) := by decide +kernel
theorem d_X_emptyCiphers_13 : decode prog_1_method_22_code 13 = .ok (.aaload, 1) := by decide +kernel
theorem d_X_emptyCiphers_14 : decode prog_1_method_22_code 14 = .ok (.iconst 0, 1) := by decide +kernel
theorem d_X_emptyCiphers_15 : decode prog_1_method_22_code 15 = .ok (.putfield 197, 3) := by decide +kernel
theorem d_X_emptyCiphers_18 : decode prog_1_method_22_code 18 = .ok (.iinc 1 1, 3) := by decide +kernel
theorem d_X_emptyCiphers_21 : decode prog_1_method_22_code 21 = .ok (.goto (-19), 3) := by decide +kernel
theorem d_X_emptyCiphers_24 : decode prog_1_method_22_code 24 = .ok (.return_, 1) := by decide +kernel
theorem d_X_fullCiphers_0 : decode prog_1_method_23_code 0 = .ok (.iconst 0, 1) := by decide +kernel
theorem d_X_fullCiphers_1 : decode prog_1_method_23_code 1 = .ok (.istore_n 1, 1) := by decide +kernel
theorem d_X_fullCiphers_2 : decode prog_1_method_23_code 2 = .ok (.iconst 0, 1) := by decide +kernel
theorem d_X_fullCiphers_3 : decode prog_1_method_23_code 3 = .ok (.istore_n 2, 1) := by decide +kernel
theorem d_X_fullCiphers_4 : decode prog_1_method_23_code 4 = .ok (.iload_n 2, 1) := by decide +kernel
theorem d_X_fullCiphers_5 : decode prog_1_method_23_code 5 = .ok (.bipush 16, 2) := by decide +kernel
theorem d_X_fullCiphers_7 : decode prog_1_method_23_code 7 = .ok (.if_icmp .ge 24, 3) := by decide +kernel
theorem d_X_fullCiphers_10 : decode prog_1_method_23_code 10 = .ok (.aload_n 0, 1) := by decide +kernel
theorem d_X_fullCiphers_11 : decode prog_1_method_23_code 11 = .ok (.getfield 37, 3) := by decide +kernel
theorem d_X_fullCiphers_14 : decode prog_1_method_23_code 14 = .ok (.iload_n 2, 1) := by decide +kernel
theorem d_X_fullCiphers_15 : decode prog_1_method_23_code 15 = .ok (.aaload, 1) := by decide +kernel
theorem d_X_fullCiphers_16 : decode prog_1_method_23_code 16 = .ok (.getfield 197, 3) := by decide +kernel
theorem d_X_fullCiphers_19 : decode prog_1_method_23_code 19 = .ok (.ifCond .le 6, 3) := by decide +kernel
theorem d_X_fullCiphers_22 : decode prog_1_method_23_code 22 = .ok (.iinc 1 1, 3) := by decide +kernel
theorem d_X_fullCiphers_25 : decode prog_1_method_23_code 25 = .ok (.iinc 2 1, 3) := by decide +kernel
theorem d_X_fullCiphers_28 : decode prog_1_method_23_code 28 = .ok (.goto (-24), 3) := by decide +kernel
theorem d_X_fullCiphers_31 : decode prog_1_method_23_code 31 = .ok (.iload_n 1, 1) := by decide +kernel
theorem d_X_fullCiphers_32 : decode prog_1_method_23_code 32 = .ok (.ireturn, 1) := by decide +kernel
theorem d_X_combine_0 : decode prog_1_method_24_code 0 = .ok (.aload_n 2, 1) := by decide +kernel
theorem d_X_combine_1 : decode prog_1_method_24_code 1 = .ok (.getfield 197, 3) := by decide +kernel
theorem d_X_combine_4 : decode prog_1_method_24_code 4 = .ok (.aload_n 3, 1) := by decide +kernel
theorem d_X_combine_5 : decode prog_1_method_24_code 5 = .ok (.getfield 197, 3) := by decide +kernel
theorem d_X_combine_8 : decode prog_1_method_24_code 8 = .ok (.invokestatic 271, 3) := by decide +kernel
theorem d_X_combine_11 : decode prog_1_method_24_code 11 = .ok (.istore 6, 2) := by decide +kernel
theorem d_X_combine_13 : decode prog_1_method_24_code 13 = .ok (.iconst 0, 1) := by decide +kernel
theorem d_X_combine_14 : decode prog_1_method_24_code 14 = .ok (.istore 7, 2) := by decide +kernel
theorem d_X_combine_16 : decode prog_1_method_24_code 16 = .ok (.iload 7, 2) := by decide +kernel
theorem d_X_combine_18 : decode prog_1_method_24_code 18 = .ok (.iload 6, 2) := by decide +kernel
theorem d_X_combine_20 : decode prog_1_method_24_code 20 = .ok (.if_icmp .ge 83, 3) := by decide +kernel
theorem d_X_combine_23 : decode prog_1_method_24_code 23 = .ok (.aload_n 0, 1) := by decide +kernel
theorem d_X_combine_24 : decode prog_1_method_24_code 24 = .ok (.getfield 42, 3) := by decide +kernel
theorem d_X_combine_27 : decode prog_1_method_24_code 27 = .ok (.iload 7, 2) := by decide +kernel
theorem d_X_combine_29 : decode prog_1_method_24_code 29 = .ok (.aaload, 1) := by decide +kernel
theorem d_X_combine_30 : decode prog_1_method_24_code 30 = .ok (.lconst 0, 1) := by decide +kernel
theorem d_X_combine_31 : decode prog_1_method_24_code 31 = .ok (.invokestatic 72, 3) := by decide +kernel
theorem d_X_combine_34 : decode prog_1_method_24_code 34 = .ok (.iload 7, 2) := by decide +kernel
theorem d_X_combine_36 : decode prog_1_method_24_code 36 = .ok (.aload_n 2, 1) := by decide +kernel
theorem d_X_combine_37 : decode prog_1_method_24_code 37 = .ok (.getfield 197, 3) := by decide +kernel
theorem d_X_combine_40 : decode prog_1_method_24_code 40 = .ok (.if_icmp .ge 25, 3) := by decide +kernel
theorem d_X_combine_43 : decode prog_1_method_24_code 43 = .ok (.aload_n 0, 1) := by decide +kernel
theorem d_X_combine_44 : decode prog_1_method_24_code 44 = .ok (.getfield 12, 3) := by decide +kernel
theorem d_X_combine_47 : decode prog_1_method_24_code 47 = .ok (.aload_n 0, 1) := by decide +kernel
theorem d_X_combine_48 : decode prog_1_method_24_code 48 = .ok (.getfield 42, 3) := by decide +kernel
theorem d_X_combine_51 : decode prog_1_method_24_code 51 = .ok (.iload 7, 2) := by decide +kernel
theorem d_X_combine_53 : decode prog_1_method_24_code 53 = .ok (.aaload, 1) := by decide +kernel
theorem d_X_combine_54 : decode prog_1_method_24_code 54 = .ok (.aload_n 2, 1) := by decide +kernel
theorem d_X_combine_55 : decode prog_1_method_24_code 55 = .ok (.getfield 221, 3) := by decide +kernel
theorem d_X_combine_58 : decode prog_1_method_24_code 58 = .ok (.iload 7, 2) := by decide +kernel
theorem d_X_combine_60 : decode prog_1_method_24_code 60 = .ok (.aaload, 1) := by decide +kernel
theorem d_X_combine_61 : decode prog_1_method_24_code 61 = .ok (.lconst 1, 1) := by decide +kernel
theorem d_X_combine_62 : decode prog_1_method_24_code 62 = .ok (.invokevirtual 162, 3) := by decide +kernel
theorem d_X_combine_65 : decode prog_1_method_24_code 65 = .ok (.iload 7, 2) := by decide +kernel
theorem d_X_combine_67 : decode prog_1_method_24_code 67 = .ok (.aload_n 3, 1) := by decide +kernel
theorem d_X_combine_68 : decode prog_1_method_24_code 68 = .ok (.getfield 197, 3) := by decide +kernel
theorem d_X_combine_71 : decode prog_1_method_24_code 71 = .ok (.if_icmp .ge 26, 3) := by decide +kernel
theorem d_X_combine_74 : decode prog_1_method_24_code 74 = .ok (.aload_n 0, 1) := by decide +kernel
theorem d_X_combine_75 : decode prog_1_method_24_code 75 = .ok (.getfield 12, 3) := by decide +kernel
theorem d_X_combine_78 : decode prog_1_method_24_code 78 = .ok (.aload_n 0, 1) := by decide +kernel
theorem d_X_combine_79 : decode prog_1_method_24_code 79 = .ok (.getfield 42, 3) := by decide +kernel
theorem d_X_combine_82 : decode prog_1_method_24_code 82 = .ok (.iload 7, 2) := by decide +kernel
theorem d_X_combine_84 : decode prog_1_method_24_code 84 = .ok (.aaload, 1) := by decide +kernel
theorem d_X_combine_85 : decode prog_1_method_24_code 85 = .ok (.aload_n 3, 1) := by decide +kernel
theorem d_X_combine_86 : decode prog_1_method_24_code 86 = .ok (.getfield 221, 3) := by decide +kernel
theorem d_X_combine_89 : decode prog_1_method_24_code 89 = .ok (.iload 7, 2) := by decide +kernel
theorem d_X_combine_91 : decode prog_1_method_24_code 91 = .ok (.aaload, 1) := by decide +kernel
theorem d_X_combine_92 : decode prog_1_method_24_code 92 = .ok (.lload 4, 2) := by decide +kernel
theorem d_X_combine_94 : decode prog_1_method_24_code 94 = .ok (.invokevirtual 162, 3) := by decide +kernel
theorem d_X_combine_97 : decode prog_1_method_24_code 97 = .ok (.iinc 7 1, 3) := by decide +kernel
theorem d_X_combine_100 : decode prog_1_method_24_code 100 = .ok (.goto (-84), 3) := by decide +kernel
theorem d_X_combine_103 : decode prog_1_method_24_code 103 = .ok (.aload_n 0, 1) := by decide +kernel
theorem d_X_combine_104 : decode prog_1_method_24_code 104 = .ok (.aload_n 1, 1) := by decide +kernel
theorem d_X_combine_105 : decode prog_1_method_24_code 105 = .ok (.iload 6, 2) := by decide +kernel
theorem d_X_combine_107 : decode prog_1_method_24_code 107 = .ok (.invokevirtual 274, 3) := by decide +kernel
theorem d_X_combine_110 : decode prog_1_method_24_code 110 = .ok (.return_, 1) := by decide +kernel
theorem d_X_multiply_0 : decode prog_1_method_25_code 0 = .ok (.aload_n 0, 1) := by decide +kernel
theorem d_X_multiply_1 : decode prog_1_method_25_code 1 = .ok (.getfield 12, 3) := by decide +kernel
theorem d_X_multiply_4 : decode prog_1_method_25_code 4 = .ok (.aload_n 0, 1) := by decide +kernel
theorem d_X_multiply_5 : decode prog_1_method_25_code 5 = .ok (.getfield 45, 3) := by decide +kernel
theorem d_X_multiply_8 : decode prog_1_method_25_code 8 = .ok (.iconst 0, 1) := by decide +kernel
theorem d_X_multiply_9 : decode prog_1_method_25_code 9 = .ok (.aaload, 1) := by decide +kernel
theorem d_X_multiply_10 : decode prog_1_method_25_code 10 = .ok (.aload_n 2, 1) := by decide +kernel
theorem d_X_multiply_11 : decode prog_1_method_25_code 11 = .ok (.getfield 221, 3) := by decide +kernel
theorem d_X_multiply_14 : decode prog_1_method_25_code 14 = .ok (.iconst 0, 1) := by decide +kernel
theorem d_X_multiply_15 : decode prog_1_method_25_code 15 = .ok (.aaload, 1) := by decide +kernel
theorem d_X_multiply_16 : decode prog_1_method_25_code 16 = .ok (.invokevirtual 278, 3) := by decide +kernel
theorem d_X_multiply_19 : decode prog_1_method_25_code 19 = .ok (.aload_n 0, 1) := by decide +kernel
theorem d_X_multiply_20 : decode prog_1_method_25_code 20 = .ok (.getfield 12, 3) := by decide +kernel
theorem d_X_multiply_23 : decode prog_1_method_25_code 23 = .ok (.aload_n 0, 1) := by decide +kernel
theorem d_X_multiply_24 : decode prog_1_method_25_code 24 = .ok (.getfield 45, 3) := by decide +kernel
theorem d_X_multiply_27 : decode prog_1_method_25_code 27 = .ok (.iconst 1, 1) := by decide +kernel
theorem d_X_multiply_28 : decode prog_1_method_25_code 28 = .ok (.aaload, 1) := by decide +kernel
theorem d_X_multiply_29 : decode prog_1_method_25_code 29 = .ok (.aload_n 2, 1) := by decide +kernel
theorem d_X_multiply_30 : decode prog_1_method_25_code 30 = .ok (.getfield 221, 3) := by decide +kernel
theorem d_X_multiply_33 : decode prog_1_method_25_code 33 = .ok (.iconst 1, 1) := by decide +kernel
theorem d_X_multiply_34 : decode prog_1_method_25_code 34 = .ok (.aaload, 1) := by decide +kernel
theorem d_X_multiply_35 : decode prog_1_method_25_code 35 = .ok (.invokevirtual 278, 3) := by decide +kernel
theorem d_X_multiply_38 : decode prog_1_method_25_code 38 = .ok (.aload_n 0, 1) := by decide +kernel
theorem d_X_multiply_39 : decode prog_1_method_25_code 39 = .ok (.getfield 12, 3) := by decide +kernel
theorem d_X_multiply_42 : decode prog_1_method_25_code 42 = .ok (.aload_n 0, 1) := by decide +kernel
theorem d_X_multiply_43 : decode prog_1_method_25_code 43 = .ok (.getfield 45, 3) := by decide +kernel
theorem d_X_multiply_46 : decode prog_1_method_25_code 46 = .ok (.iconst 2, 1) := by decide +kernel
theorem d_X_multiply_47 : decode prog_1_method_25_code 47 = .ok (.aaload, 1) := by decide +kernel
theorem d_X_multiply_48 : decode prog_1_method_25_code 48 = .ok (.aload_n 3, 1) := by decide +kernel
theorem d_X_multiply_49 : decode prog_1_method_25_code 49 = .ok (.getfield 221, 3) := by decide +kernel
theorem d_X_multiply_52 : decode prog_1_method_25_code 52 = .ok (.iconst 0, 1) := by decide +kernel
theorem d_X_multiply_53 : decode prog_1_method_25_code 53 = .ok (.aaload, 1) := by decide +kernel
theorem d_X_multiply_54 : decode prog_1_method_25_code 54 = .ok (.invokevirtual 278, 3) := by decide +kernel
theorem d_X_multiply_57 : decode prog_1_method_25_code 57 = .ok (.aload_n 0, 1) := by decide +kernel
theorem d_X_multiply_58 : decode prog_1_method_25_code 58 = .ok (.getfield 12, 3) := by decide +kernel
theorem d_X_multiply_61 : decode prog_1_method_25_code 61 = .ok (.aload_n 0, 1) := by decide +kernel
theorem d_X_multiply_62 : decode prog_1_method_25_code 62 = .ok (.getfield 45, 3) := by decide +kernel
theorem d_X_multiply_65 : decode prog_1_method_25_code 65 = .ok (.iconst 3, 1) := by decide +kernel
theorem d_X_multiply_66 : decode prog_1_method_25_code 66 = .ok (.aaload, 1) := by decide +kernel
theorem d_X_multiply_67 : decode prog_1_method_25_code 67 = .ok (.aload_n 3, 1) := by decide +kernel
theorem d_X_multiply_68 : decode prog_1_method_25_code 68 = .ok (.getfield 221, 3) := by decide +kernel
theorem d_X_multiply_71 : decode prog_1_method_25_code 71 = .ok (.iconst 1, 1) := by decide +kernel
theorem d_X_multiply_72 : decode prog_1_method_25_code 72 = .ok (.aaload, 1) := by decide +kernel
theorem d_X_multiply_73 : decode prog_1_method_25_code 73 = .ok (.invokevirtual 278, 3) := by decide +kernel
theorem d_X_multiply_76 : decode prog_1_method_25_code 76 = .ok (.iconst 0, 1) := by decide +kernel
theorem d_X_multiply_77 : decode prog_1_method_25_code 77 = .ok (.istore 4, 2) := by decide +kernel
theorem d_X_multiply_79 : decode prog_1_method_25_code 79 = .ok (.iload 4, 2) := by decide +kernel
theorem d_X_multiply_81 : decode prog_1_method_25_code 81 = .ok (.iconst 3, 1) := by decide +kernel
theorem d_X_multiply_82 : decode prog_1_method_25_code 82 = .ok (.if_icmp .ge 20, 3) := by decide +kernel
theorem d_X_multiply_85 : decode prog_1_method_25_code 85 = .ok (.aload_n 0, 1) := by decide +kernel
theorem d_X_multiply_86 : decode prog_1_method_25_code 86 = .ok (.getfield 42, 3) := by decide +kernel
theorem d_X_multiply_89 : decode prog_1_method_25_code 89 = .ok (.iload 4, 2) := by decide +kernel
theorem d_X_multiply_91 : decode prog_1_method_25_code 91 = .ok (.aaload, 1) := by decide +kernel
theorem d_X_multiply_92 : decode prog_1_method_25_code 92 = .ok (.lconst 0, 1) := by decide +kernel
theorem d_X_multiply_93 : decode prog_1_method_25_code 93 = .ok (.invokestatic 72, 3) := by decide +kernel
theorem d_X_multiply_96 : decode prog_1_method_25_code 96 = .ok (.iinc 4 1, 3) := by decide +kernel
theorem d_X_multiply_99 : decode prog_1_method_25_code 99 = .ok (.goto (-20), 3) := by decide +kernel
theorem d_X_multiply_102 : decode prog_1_method_25_code 102 = .ok (.aload_n 0, 1) := by decide +kernel
theorem d_X_multiply_103 : decode prog_1_method_25_code 103 = .ok (.getfield 12, 3) := by decide +kernel
theorem d_X_multiply_106 : decode prog_1_method_25_code 106 = .ok (.aload_n 0, 1) := by decide +kernel
theorem d_X_multiply_107 : decode prog_1_method_25_code 107 = .ok (.getfield 42, 3) := by decide +kernel
theorem d_X_multiply_110 : decode prog_1_method_25_code 110 = .ok (.iconst 0, 1) := by decide +kernel
theorem d_X_multiply_111 : decode prog_1_method_25_code 111 = .ok (.aaload, 1) := by decide +kernel
theorem d_X_multiply_112 : decode prog_1_method_25_code 112 = .ok (.aload_n 0, 1) := by decide +kernel
theorem d_X_multiply_113 : decode prog_1_method_25_code 113 = .ok (.getfield 45, 3) := by decide +kernel
theorem d_X_multiply_116 : decode prog_1_method_25_code 116 = .ok (.iconst 0, 1) := by decide +kernel
theorem d_X_multiply_117 : decode prog_1_method_25_code 117 = .ok (.aaload, 1) := by decide +kernel
theorem d_X_multiply_118 : decode prog_1_method_25_code 118 = .ok (.aload_n 0, 1) := by decide +kernel
theorem d_X_multiply_119 : decode prog_1_method_25_code 119 = .ok (.getfield 45, 3) := by decide +kernel
theorem d_X_multiply_122 : decode prog_1_method_25_code 122 = .ok (.iconst 2, 1) := by decide +kernel
theorem d_X_multiply_123 : decode prog_1_method_25_code 123 = .ok (.aaload, 1) := by decide +kernel
theorem d_X_multiply_124 : decode prog_1_method_25_code 124 = .ok (.invokevirtual 154, 3) := by decide +kernel
theorem d_X_multiply_127 : decode prog_1_method_25_code 127 = .ok (.aload_n 0, 1) := by decide +kernel
theorem d_X_multiply_128 : decode prog_1_method_25_code 128 = .ok (.getfield 12, 3) := by decide +kernel
theorem d_X_multiply_131 : decode prog_1_method_25_code 131 = .ok (.aload_n 0, 1) := by decide +kernel
theorem d_X_multiply_132 : decode prog_1_method_25_code 132 = .ok (.getfield 42, 3) := by decide +kernel
theorem d_X_multiply_135 : decode prog_1_method_25_code 135 = .ok (.iconst 1, 1) := by decide +kernel
theorem d_X_multiply_136 : decode prog_1_method_25_code 136 = .ok (.aaload, 1) := by decide +kernel
theorem d_X_multiply_137 : decode prog_1_method_25_code 137 = .ok (.aload_n 0, 1) := by decide +kernel
theorem d_X_multiply_138 : decode prog_1_method_25_code 138 = .ok (.getfield 45, 3) := by decide +kernel
theorem d_X_multiply_141 : decode prog_1_method_25_code 141 = .ok (.iconst 0, 1) := by decide +kernel
theorem d_X_multiply_142 : decode prog_1_method_25_code 142 = .ok (.aaload, 1) := by decide +kernel
theorem d_X_multiply_143 : decode prog_1_method_25_code 143 = .ok (.aload_n 0, 1) := by decide +kernel
theorem d_X_multiply_144 : decode prog_1_method_25_code 144 = .ok (.getfield 45, 3) := by decide +kernel
theorem d_X_multiply_147 : decode prog_1_method_25_code 147 = .ok (.iconst 3, 1) := by decide +kernel
theorem d_X_multiply_148 : decode prog_1_method_25_code 148 = .ok (.aaload, 1) := by decide +kernel
theorem d_X_multiply_149 : decode prog_1_method_25_code 149 = .ok (.invokevirtual 154, 3) := by decide +kernel
theorem d_X_multiply_152 : decode prog_1_method_25_code 152 = .ok (.aload_n 0, 1) := by decide +kernel
theorem d_X_multiply_153 : decode prog_1_method_25_code 153 = .ok (.getfield 12, 3) := by decide +kernel
theorem d_X_multiply_156 : decode prog_1_method_25_code 156 = .ok (.aload_n 0, 1) := by decide +kernel
theorem d_X_multiply_157 : decode prog_1_method_25_code 157 = .ok (.getfield 42, 3) := by decide +kernel
theorem d_X_multiply_160 : decode prog_1_method_25_code 160 = .ok (.iconst 1, 1) := by decide +kernel
theorem d_X_multiply_161 : decode prog_1_method_25_code 161 = .ok (.aaload, 1) := by decide +kernel
theorem d_X_multiply_162 : decode prog_1_method_25_code 162 = .ok (.aload_n 0, 1) := by decide +kernel
theorem d_X_multiply_163 : decode prog_1_method_25_code 163 = .ok (.getfield 45, 3) := by decide +kernel
theorem d_X_multiply_166 : decode prog_1_method_25_code 166 = .ok (.iconst 1, 1) := by decide +kernel
theorem d_X_multiply_167 : decode prog_1_method_25_code 167 = .ok (.aaload, 1) := by decide +kernel
theorem d_X_multiply_168 : decode prog_1_method_25_code 168 = .ok (.aload_n 0, 1) := by decide +kernel
theorem d_X_multiply_169 : decode prog_1_method_25_code 169 = .ok (.getfield 45, 3) := by decide +kernel
theorem d_X_multiply_172 : decode prog_1_method_25_code 172 = .ok (.iconst 2, 1) := by decide +kernel
theorem d_X_multiply_173 : decode prog_1_method_25_code 173 = .ok (.aaload, 1) := by decide +kernel
theorem d_X_multiply_174 : decode prog_1_method_25_code 174 = .ok (.invokevirtual 154, 3) := by decide +kernel
theorem d_X_multiply_177 : decode prog_1_method_25_code 177 = .ok (.aload_n 0, 1) := by decide +kernel
theorem d_X_multiply_178 : decode prog_1_method_25_code 178 = .ok (.getfield 12, 3) := by decide +kernel
theorem d_X_multiply_181 : decode prog_1_method_25_code 181 = .ok (.aload_n 0, 1) := by decide +kernel
theorem d_X_multiply_182 : decode prog_1_method_25_code 182 = .ok (.getfield 42, 3) := by decide +kernel
theorem d_X_multiply_185 : decode prog_1_method_25_code 185 = .ok (.iconst 2, 1) := by decide +kernel
theorem d_X_multiply_186 : decode prog_1_method_25_code 186 = .ok (.aaload, 1) := by decide +kernel
theorem d_X_multiply_187 : decode prog_1_method_25_code 187 = .ok (.aload_n 0, 1) := by decide +kernel
theorem d_X_multiply_188 : decode prog_1_method_25_code 188 = .ok (.getfield 45, 3) := by decide +kernel
theorem d_X_multiply_191 : decode prog_1_method_25_code 191 = .ok (.iconst 1, 1) := by decide +kernel
theorem d_X_multiply_192 : decode prog_1_method_25_code 192 = .ok (.aaload, 1) := by decide +kernel
theorem d_X_multiply_193 : decode prog_1_method_25_code 193 = .ok (.aload_n 0, 1) := by decide +kernel
theorem d_X_multiply_194 : decode prog_1_method_25_code 194 = .ok (.getfield 45, 3) := by decide +kernel
theorem d_X_multiply_197 : decode prog_1_method_25_code 197 = .ok (.iconst 3, 1) := by decide +kernel
theorem d_X_multiply_198 : decode prog_1_method_25_code 198 = .ok (.aaload, 1) := by decide +kernel
theorem d_X_multiply_199 : decode prog_1_method_25_code 199 = .ok (.invokevirtual 154, 3) := by decide +kernel
theorem d_X_multiply_202 : decode prog_1_method_25_code 202 = .ok (.iconst 0, 1) := by decide +kernel
theorem d_X_multiply_203 : decode prog_1_method_25_code 203 = .ok (.istore 4, 2) := by decide +kernel
theorem d_X_multiply_205 : decode prog_1_method_25_code 205 = .ok (.iload 4, 2) := by decide +kernel
theorem d_X_multiply_207 : decode prog_1_method_25_code 207 = .ok (.iconst 3, 1) := by decide +kernel
theorem d_X_multiply_208 : decode prog_1_method_25_code 208 = .ok (.if_icmp .ge 57, 3) := by decide +kernel
theorem d_X_multiply_211 : decode prog_1_method_25_code 211 = .ok (.iconst 0, 1) := by decide +kernel
theorem d_X_multiply_212 : decode prog_1_method_25_code 212 = .ok (.istore 5, 2) := by decide +kernel
theorem d_X_multiply_214 : decode prog_1_method_25_code 214 = .ok (.iload 5, 2) := by decide +kernel
theorem d_X_multiply_216 : decode prog_1_method_25_code 216 = .ok (.aload_n 0, 1) := by decide +kernel
theorem d_X_multiply_217 : decode prog_1_method_25_code 217 = .ok (.getfield 12, 3) := by decide +kernel
theorem d_X_multiply_220 : decode prog_1_method_25_code 220 = .ok (.getfield 78, 3) := by decide +kernel
theorem d_X_multiply_223 : decode prog_1_method_25_code 223 = .ok (.if_icmp .ge 36, 3) := by decide +kernel
theorem d_X_multiply_226 : decode prog_1_method_25_code 226 = .ok (.aload_n 0, 1) := by decide +kernel
theorem d_X_multiply_227 : decode prog_1_method_25_code 227 = .ok (.getfield 42, 3) := by decide +kernel
theorem d_X_multiply_230 : decode prog_1_method_25_code 230 = .ok (.iload 4, 2) := by decide +kernel
theorem d_X_multiply_232 : decode prog_1_method_25_code 232 = .ok (.aaload, 1) := by decide +kernel
theorem d_X_multiply_233 : decode prog_1_method_25_code 233 = .ok (.iload 5, 2) := by decide +kernel
theorem d_X_multiply_235 : decode prog_1_method_25_code 235 = .ok (.aload_n 0, 1) := by decide +kernel
theorem d_X_multiply_236 : decode prog_1_method_25_code 236 = .ok (.getfield 12, 3) := by decide +kernel
theorem d_X_multiply_239 : decode prog_1_method_25_code 239 = .ok (.aload_n 0, 1) := by decide +kernel
theorem d_X_multiply_240 : decode prog_1_method_25_code 240 = .ok (.getfield 42, 3) := by decide +kernel
theorem d_X_multiply_243 : decode prog_1_method_25_code 243 = .ok (.iload 4, 2) := by decide +kernel
theorem d_X_multiply_245 : decode prog_1_method_25_code 245 = .ok (.aaload, 1) := by decide +kernel
theorem d_X_multiply_246 : decode prog_1_method_25_code 246 = .ok (.iload 5, 2) := by decide +kernel
theorem d_X_multiply_248 : decode prog_1_method_25_code 248 = .ok (.laload, 1) := by decide +kernel
theorem d_X_multiply_249 : decode prog_1_method_25_code 249 = .ok (.invokevirtual 180, 3) := by decide +kernel
theorem d_X_multiply_252 : decode prog_1_method_25_code 252 = .ok (.lastore, 1) := by decide +kernel
theorem d_X_multiply_253 : decode prog_1_method_25_code 253 = .ok (.iinc 5 1, 3) := by decide +kernel
theorem d_X_multiply_256 : decode prog_1_method_25_code 256 = .ok (.goto (-42), 3) := by decide +kernel
theorem d_X_multiply_259 : decode prog_1_method_25_code 259 = .ok (.iinc 4 1, 3) := by decide +kernel
theorem d_X_multiply_262 : decode prog_1_method_25_code 262 = .ok (.goto (-57), 3) := by decide +kernel
theorem d_X_multiply_265 : decode prog_1_method_25_code 265 = .ok (.aload_n 0, 1) := by decide +kernel
theorem d_X_multiply_266 : decode prog_1_method_25_code 266 = .ok (.aload_n 1, 1) := by decide +kernel
theorem d_X_multiply_267 : decode prog_1_method_25_code 267 = .ok (.iconst 3, 1) := by decide +kernel
theorem d_X_multiply_268 : decode prog_1_method_25_code 268 = .ok (.invokevirtual 274, 3) := by decide +kernel
theorem d_X_multiply_271 : decode prog_1_method_25_code 271 = .ok (.return_, 1) := by decide +kernel
theorem d_X_addPlain_0 : decode prog_1_method_26_code 0 = .ok (.iconst 0, 1) := by decide +kernel
theorem d_X_addPlain_1 : decode prog_1_method_26_code 1 = .ok (.istore 4, 2) := by decide +kernel
theorem d_X_addPlain_3 : decode prog_1_method_26_code 3 = .ok (.iload 4, 2) := by decide +kernel
theorem d_X_addPlain_5 : decode prog_1_method_26_code 5 = .ok (.aload_n 2, 1) := by decide +kernel
theorem d_X_addPlain_6 : decode prog_1_method_26_code 6 = .ok (.getfield 197, 3) := by decide +kernel
theorem d_X_addPlain_9 : decode prog_1_method_26_code 9 = .ok (.if_icmp .ge 30, 3) := by decide +kernel
theorem d_X_addPlain_12 : decode prog_1_method_26_code 12 = .ok (.aload_n 0, 1) := by decide +kernel
theorem d_X_addPlain_13 : decode prog_1_method_26_code 13 = .ok (.getfield 12, 3) := by decide +kernel
theorem d_X_addPlain_16 : decode prog_1_method_26_code 16 = .ok (.aload_n 0, 1) := by decide +kernel
theorem d_X_addPlain_17 : decode prog_1_method_26_code 17 = .ok (.getfield 42, 3) := by decide +kernel
theorem d_X_addPlain_20 : decode prog_1_method_26_code 20 = .ok (.iload 4, 2) := by decide +kernel
theorem d_X_addPlain_22 : decode prog_1_method_26_code 22 = .ok (.aaload, 1) := by decide +kernel
theorem d_X_addPlain_23 : decode prog_1_method_26_code 23 = .ok (.aload_n 2, 1) := by decide +kernel
theorem d_X_addPlain_24 : decode prog_1_method_26_code 24 = .ok (.getfield 221, 3) := by decide +kernel
theorem d_X_addPlain_27 : decode prog_1_method_26_code 27 = .ok (.iload 4, 2) := by decide +kernel
theorem d_X_addPlain_29 : decode prog_1_method_26_code 29 = .ok (.aaload, 1) := by decide +kernel
theorem d_X_addPlain_30 : decode prog_1_method_26_code 30 = .ok (.invokevirtual 222, 3) := by decide +kernel
theorem d_X_addPlain_33 : decode prog_1_method_26_code 33 = .ok (.iinc 4 1, 3) := by decide +kernel
theorem d_X_addPlain_36 : decode prog_1_method_26_code 36 = .ok (.goto (-33), 3) := by decide +kernel
theorem d_X_addPlain_39 : decode prog_1_method_26_code 39 = .ok (.aload_n 0, 1) := by decide +kernel
theorem d_X_addPlain_40 : decode prog_1_method_26_code 40 = .ok (.getfield 12, 3) := by decide +kernel
theorem d_X_addPlain_43 : decode prog_1_method_26_code 43 = .ok (.aload_n 0, 1) := by decide +kernel
theorem d_X_addPlain_44 : decode prog_1_method_26_code 44 = .ok (.getfield 42, 3) := by decide +kernel
theorem d_X_addPlain_47 : decode prog_1_method_26_code 47 = .ok (.iconst 0, 1) := by decide +kernel
theorem d_X_addPlain_48 : decode prog_1_method_26_code 48 = .ok (.aaload, 1) := by decide +kernel
theorem d_X_addPlain_49 : decode prog_1_method_26_code 49 = .ok (.aload_n 3, 1) := by decide +kernel
theorem d_X_addPlain_50 : decode prog_1_method_26_code 50 = .ok (.aload_n 0, 1) := by decide +kernel
theorem d_X_addPlain_51 : decode prog_1_method_26_code 51 = .ok (.getfield 12, 3) := by decide +kernel
theorem d_X_addPlain_54 : decode prog_1_method_26_code 54 = .ok (.invokevirtual 158, 3) := by decide +kernel
theorem d_X_addPlain_57 : decode prog_1_method_26_code 57 = .ok (.invokevirtual 162, 3) := by decide +kernel
theorem d_X_addPlain_60 : decode prog_1_method_26_code 60 = .ok (.aload_n 0, 1) := by decide +kernel
theorem d_X_addPlain_61 : decode prog_1_method_26_code 61 = .ok (.aload_n 1, 1) := by decide +kernel
theorem d_X_addPlain_62 : decode prog_1_method_26_code 62 = .ok (.aload_n 2, 1) := by decide +kernel
theorem d_X_addPlain_63 : decode prog_1_method_26_code 63 = .ok (.getfield 197, 3) := by decide +kernel
theorem d_X_addPlain_66 : decode prog_1_method_26_code 66 = .ok (.invokevirtual 274, 3) := by decide +kernel
theorem d_X_addPlain_69 : decode prog_1_method_26_code 69 = .ok (.return_, 1) := by decide +kernel
theorem d_X_multiplyByPlain_0 : decode prog_1_method_27_code 0 = .ok (.iconst 0, 1) := by decide +kernel
theorem d_X_multiplyByPlain_1 : decode prog_1_method_27_code 1 = .ok (.istore 4, 2) := by decide +kernel
theorem d_X_multiplyByPlain_3 : decode prog_1_method_27_code 3 = .ok (.iload 4, 2) := by decide +kernel
theorem d_X_multiplyByPlain_5 : decode prog_1_method_27_code 5 = .ok (.aload_n 2, 1) := by decide +kernel
theorem d_X_multiplyByPlain_6 : decode prog_1_method_27_code 6 = .ok (.getfield 197, 3) := by decide +kernel
theorem d_X_multiplyByPlain_9 : decode prog_1_method_27_code 9 = .ok (.if_icmp .ge 42, 3) := by decide +kernel
theorem d_X_multiplyByPlain_12 : decode prog_1_method_27_code 12 = .ok (.aload_n 0, 1) := by decide +kernel
theorem d_X_multiplyByPlain_13 : decode prog_1_method_27_code 13 = .ok (.getfield 42, 3) := by decide +kernel
theorem d_X_multiplyByPlain_16 : decode prog_1_method_27_code 16 = .ok (.iload 4, 2) := by decide +kernel
theorem d_X_multiplyByPlain_18 : decode prog_1_method_27_code 18 = .ok (.aaload, 1) := by decide +kernel
theorem d_X_multiplyByPlain_19 : decode prog_1_method_27_code 19 = .ok (.lconst 0, 1) := by decide +kernel
theorem d_X_multiplyByPlain_20 : decode prog_1_method_27_code 20 = .ok (.invokestatic 72, 3) := by decide +kernel
theorem d_X_multiplyByPlain_23 : decode prog_1_method_27_code 23 = .ok (.aload_n 0, 1) := by decide +kernel
theorem d_X_multiplyByPlain_24 : decode prog_1_method_27_code 24 = .ok (.getfield 12, 3) := by decide +kernel
theorem d_X_multiplyByPlain_27 : decode prog_1_method_27_code 27 = .ok (.aload_n 0, 1) := by decide +kernel
theorem d_X_multiplyByPlain_28 : decode prog_1_method_27_code 28 = .ok (.getfield 42, 3) := by decide +kernel
theorem d_X_multiplyByPlain_31 : decode prog_1_method_27_code 31 = .ok (.iload 4, 2) := by decide +kernel
theorem d_X_multiplyByPlain_33 : decode prog_1_method_27_code 33 = .ok (.aaload, 1) := by decide +kernel
theorem d_X_multiplyByPlain_34 : decode prog_1_method_27_code 34 = .ok (.aload_n 3, 1) := by decide +kernel
theorem d_X_multiplyByPlain_35 : decode prog_1_method_27_code 35 = .ok (.aload_n 2, 1) := by decide +kernel
theorem d_X_multiplyByPlain_36 : decode prog_1_method_27_code 36 = .ok (.getfield 221, 3) := by decide +kernel
theorem d_X_multiplyByPlain_39 : decode prog_1_method_27_code 39 = .ok (.iload 4, 2) := by decide +kernel
theorem d_X_multiplyByPlain_41 : decode prog_1_method_27_code 41 = .ok (.aaload, 1) := by decide +kernel
theorem d_X_multiplyByPlain_42 : decode prog_1_method_27_code 42 = .ok (.invokevirtual 154, 3) := by decide +kernel
theorem d_X_multiplyByPlain_45 : decode prog_1_method_27_code 45 = .ok (.iinc 4 1, 3) := by decide +kernel
theorem d_X_multiplyByPlain_48 : decode prog_1_method_27_code 48 = .ok (.goto (-45), 3) := by decide +kernel
theorem d_X_multiplyByPlain_51 : decode prog_1_method_27_code 51 = .ok (.aload_n 0, 1) := by decide +kernel
theorem d_X_multiplyByPlain_52 : decode prog_1_method_27_code 52 = .ok (.aload_n 1, 1) := by decide +kernel
theorem d_X_multiplyByPlain_53 : decode prog_1_method_27_code 53 = .ok (.aload_n 2, 1) := by decide +kernel
theorem d_X_multiplyByPlain_54 : decode prog_1_method_27_code 54 = .ok (.getfield 197, 3) := by decide +kernel
theorem d_X_multiplyByPlain_57 : decode prog_1_method_27_code 57 = .ok (.invokevirtual 274, 3) := by decide +kernel
theorem d_X_multiplyByPlain_60 : decode prog_1_method_27_code 60 = .ok (.return_, 1) := by decide +kernel
theorem d_X_applySwitch_0 : decode prog_1_method_28_code 0 = .ok (.aload_n 0, 1) := by decide +kernel
theorem d_X_applySwitch_1 : decode prog_1_method_28_code 1 = .ok (.getfield 45, 3) := by decide +kernel
theorem d_X_applySwitch_4 : decode prog_1_method_28_code 4 = .ok (.iconst 1, 1) := by decide +kernel
theorem d_X_applySwitch_5 : decode prog_1_method_28_code 5 = .ok (.aaload, 1) := by decide +kernel
theorem d_X_applySwitch_6 : decode prog_1_method_28_code 6 = .ok (.astore_n 3, 1) := by decide +kernel
theorem d_X_applySwitch_7 : decode prog_1_method_28_code 7 = .ok (.iconst 0, 1) := by decide +kernel
theorem d_X_applySwitch_8 : decode prog_1_method_28_code 8 = .ok (.istore 4, 2) := by decide +kernel
theorem d_X_applySwitch_10 : decode prog_1_method_28_code 10 = .ok (.iload 4, 2) := by decide +kernel
theorem d_X_applySwitch_12 : decode prog_1_method_28_code 12 = .ok (.bipush 6, 2) := by decide +kernel
theorem d_X_applySwitch_14 : decode prog_1_method_28_code 14 = .ok (.if_icmp .ge 89, 3) := by decide +kernel
theorem d_X_applySwitch_17 : decode prog_1_method_28_code 17 = .ok (.iconst 0, 1) := by decide +kernel
theorem d_X_applySwitch_18 : decode prog_1_method_28_code 18 = .ok (.istore 5, 2) := by decide +kernel
theorem d_X_applySwitch_20 : decode prog_1_method_28_code 20 = .ok (.iload 5, 2) := by decide +kernel
theorem d_X_applySwitch_22 : decode prog_1_method_28_code 22 = .ok (.aload_n 0, 1) := by decide +kernel
theorem d_X_applySwitch_23 : decode prog_1_method_28_code 23 = .ok (.getfield 12, 3) := by decide +kernel
theorem d_X_applySwitch_26 : decode prog_1_method_28_code 26 = .ok (.getfield 78, 3) := by decide +kernel
theorem d_X_applySwitch_29 : decode prog_1_method_28_code 29 = .ok (.if_icmp .ge 26, 3) := by decide +kernel
theorem d_X_applySwitch_32 : decode prog_1_method_28_code 32 = .ok (.aload_n 3, 1) := by decide +kernel
theorem d_X_applySwitch_33 : decode prog_1_method_28_code 33 = .ok (.iload 5, 2) := by decide +kernel
theorem d_X_applySwitch_35 : decode prog_1_method_28_code 35 = .ok (.aload_n 2, 1) := by decide +kernel
theorem d_X_applySwitch_36 : decode prog_1_method_28_code 36 = .ok (.iload 5, 2) := by decide +kernel
theorem d_X_applySwitch_38 : decode prog_1_method_28_code 38 = .ok (.laload, 1) := by decide +kernel
theorem d_X_applySwitch_39 : decode prog_1_method_28_code 39 = .ok (.iconst 5, 1) := by decide +kernel
theorem d_X_applySwitch_40 : decode prog_1_method_28_code 40 = .ok (.iload 4, 2) := by decide +kernel
theorem d_X_applySwitch_42 : decode prog_1_method_28_code 42 = .ok (.imul, 1) := by decide +kernel
theorem d_X_applySwitch_43 : decode prog_1_method_28_code 43 = .ok (.lshr, 1) := by decide +kernel
theorem d_X_applySwitch_44 : decode prog_1_method_28_code 44 = .ok (.ldc2_w 281, 3) := by decide +kernel
theorem d_X_applySwitch_47 : decode prog_1_method_28_code 47 = .ok (.land, 1) := by decide +kernel
theorem d_X_applySwitch_48 : decode prog_1_method_28_code 48 = .ok (.lastore, 1) := by decide +kernel
theorem d_X_applySwitch_49 : decode prog_1_method_28_code 49 = .ok (.iinc 5 1, 3) := by decide +kernel
theorem d_X_applySwitch_52 : decode prog_1_method_28_code 52 = .ok (.goto (-32), 3) := by decide +kernel
theorem d_X_applySwitch_55 : decode prog_1_method_28_code 55 = .ok (.aload_n 0, 1) := by decide +kernel
theorem d_X_applySwitch_56 : decode prog_1_method_28_code 56 = .ok (.getfield 12, 3) := by decide +kernel
theorem d_X_applySwitch_59 : decode prog_1_method_28_code 59 = .ok (.aload_n 0, 1) := by decide +kernel
theorem d_X_applySwitch_60 : decode prog_1_method_28_code 60 = .ok (.getfield 42, 3) := by decide +kernel
theorem d_X_applySwitch_63 : decode prog_1_method_28_code 63 = .ok (.iconst 0, 1) := by decide +kernel
theorem d_X_applySwitch_64 : decode prog_1_method_28_code 64 = .ok (.aaload, 1) := by decide +kernel
theorem d_X_applySwitch_65 : decode prog_1_method_28_code 65 = .ok (.aload_n 3, 1) := by decide +kernel
theorem d_X_applySwitch_66 : decode prog_1_method_28_code 66 = .ok (.aload_n 1, 1) := by decide +kernel
theorem d_X_applySwitch_67 : decode prog_1_method_28_code 67 = .ok (.getfield 283, 3) := by decide +kernel
theorem d_X_applySwitch_70 : decode prog_1_method_28_code 70 = .ok (.iload 4, 2) := by decide +kernel
theorem d_X_applySwitch_72 : decode prog_1_method_28_code 72 = .ok (.aaload, 1) := by decide +kernel
theorem d_X_applySwitch_73 : decode prog_1_method_28_code 73 = .ok (.invokevirtual 154, 3) := by decide +kernel
theorem d_X_applySwitch_76 : decode prog_1_method_28_code 76 = .ok (.aload_n 0, 1) := by decide +kernel
theorem d_X_applySwitch_77 : decode prog_1_method_28_code 77 = .ok (.getfield 12, 3) := by decide +kernel
theorem d_X_applySwitch_80 : decode prog_1_method_28_code 80 = .ok (.aload_n 0, 1) := by decide +kernel
theorem d_X_applySwitch_81 : decode prog_1_method_28_code 81 = .ok (.getfield 42, 3) := by decide +kernel
theorem d_X_applySwitch_84 : decode prog_1_method_28_code 84 = .ok (.iconst 1, 1) := by decide +kernel
theorem d_X_applySwitch_85 : decode prog_1_method_28_code 85 = .ok (.aaload, 1) := by decide +kernel
theorem d_X_applySwitch_86 : decode prog_1_method_28_code 86 = .ok (.aload_n 3, 1) := by decide +kernel
theorem d_X_applySwitch_87 : decode prog_1_method_28_code 87 = .ok (.aload_n 1, 1) := by decide +kernel
theorem d_X_applySwitch_88 : decode prog_1_method_28_code 88 = .ok (.getfield 288, 3) := by decide +kernel
theorem d_X_applySwitch_91 : decode prog_1_method_28_code 91 = .ok (.iload 4, 2) := by decide +kernel
theorem d_X_applySwitch_93 : decode prog_1_method_28_code 93 = .ok (.aaload, 1) := by decide +kernel
theorem d_X_applySwitch_94 : decode prog_1_method_28_code 94 = .ok (.invokevirtual 154, 3) := by decide +kernel
theorem d_X_applySwitch_97 : decode prog_1_method_28_code 97 = .ok (.iinc 4 1, 3) := by decide +kernel
theorem d_X_applySwitch_100 : decode prog_1_method_28_code 100 = .ok (.goto (-90), 3) := by decide +kernel
theorem d_X_applySwitch_103 : decode prog_1_method_28_code 103 = .ok (.return_, 1) := by decide +kernel
theorem d_X_storeSums_0 : decode prog_1_method_29_code 0 = .ok (.iconst 0, 1) := by decide +kernel
theorem d_X_storeSums_1 : decode prog_1_method_29_code 1 = .ok (.istore_n 3, 1) := by decide +kernel
theorem d_X_storeSums_2 : decode prog_1_method_29_code 2 = .ok (.iload_n 3, 1) := by decide +kernel
theorem d_X_storeSums_3 : decode prog_1_method_29_code 3 = .ok (.iload_n 2, 1) := by decide +kernel
theorem d_X_storeSums_4 : decode prog_1_method_29_code 4 = .ok (.if_icmp .ge 28, 3) := by decide +kernel
theorem d_X_storeSums_7 : decode prog_1_method_29_code 7 = .ok (.aload_n 0, 1) := by decide +kernel
theorem d_X_storeSums_8 : decode prog_1_method_29_code 8 = .ok (.getfield 12, 3) := by decide +kernel
theorem d_X_storeSums_11 : decode prog_1_method_29_code 11 = .ok (.aload_n 1, 1) := by decide +kernel
theorem d_X_storeSums_12 : decode prog_1_method_29_code 12 = .ok (.getfield 221, 3) := by decide +kernel
theorem d_X_storeSums_15 : decode prog_1_method_29_code 15 = .ok (.iload_n 3, 1) := by decide +kernel
theorem d_X_storeSums_16 : decode prog_1_method_29_code 16 = .ok (.aaload, 1) := by decide +kernel
theorem d_X_storeSums_17 : decode prog_1_method_29_code 17 = .ok (.aload_n 0, 1) := by decide +kernel
theorem d_X_storeSums_18 : decode prog_1_method_29_code 18 = .ok (.getfield 42, 3) := by decide +kernel
theorem d_X_storeSums_21 : decode prog_1_method_29_code 21 = .ok (.iload_n 3, 1) := by decide +kernel
theorem d_X_storeSums_22 : decode prog_1_method_29_code 22 = .ok (.aaload, 1) := by decide +kernel
theorem d_X_storeSums_23 : decode prog_1_method_29_code 23 = .ok (.invokevirtual 291, 3) := by decide +kernel
theorem d_X_storeSums_26 : decode prog_1_method_29_code 26 = .ok (.iinc 3 1, 3) := by decide +kernel
theorem d_X_storeSums_29 : decode prog_1_method_29_code 29 = .ok (.goto (-27), 3) := by decide +kernel
theorem d_X_storeSums_32 : decode prog_1_method_29_code 32 = .ok (.aload_n 1, 1) := by decide +kernel
theorem d_X_storeSums_33 : decode prog_1_method_29_code 33 = .ok (.iload_n 2, 1) := by decide +kernel
theorem d_X_storeSums_34 : decode prog_1_method_29_code 34 = .ok (.putfield 197, 3) := by decide +kernel
theorem d_X_storeSums_37 : decode prog_1_method_29_code 37 = .ok (.return_, 1) := by decide +kernel
theorem d_X_storeTwoParts_0 : decode prog_1_method_30_code 0 = .ok (.aload_n 0, 1) := by decide +kernel
theorem d_X_storeTwoParts_1 : decode prog_1_method_30_code 1 = .ok (.aload_n 1, 1) := by decide +kernel
theorem d_X_storeTwoParts_2 : decode prog_1_method_30_code 2 = .ok (.iconst 2, 1) := by decide +kernel
theorem d_X_storeTwoParts_3 : decode prog_1_method_30_code 3 = .ok (.invokevirtual 274, 3) := by decide +kernel
theorem d_X_storeTwoParts_6 : decode prog_1_method_30_code 6 = .ok (.aload_n 0, 1) := by decide +kernel
theorem d_X_storeTwoParts_7 : decode prog_1_method_30_code 7 = .ok (.aload_n 0, 1) := by decide +kernel
theorem d_X_storeTwoParts_8 : decode prog_1_method_30_code 8 = .ok (.aload_n 1, 1) := by decide +kernel
theorem d_X_storeTwoParts_9 : decode prog_1_method_30_code 9 = .ok (.invokevirtual 176, 3) := by decide +kernel
theorem d_X_storeTwoParts_12 : decode prog_1_method_30_code 12 = .ok (.invokevirtual 187, 3) := by decide +kernel
theorem d_X_storeTwoParts_15 : decode prog_1_method_30_code 15 = .ok (.invokestatic 191, 3) := by decide +kernel
theorem d_X_storeTwoParts_18 : decode prog_1_method_30_code 18 = .ok (.ireturn, 1) := by decide +kernel
theorem d_X_phaseOf_0 : decode prog_1_method_31_code 0 = .ok (.aload_n 0, 1) := by decide +kernel
theorem d_X_phaseOf_1 : decode prog_1_method_31_code 1 = .ok (.getfield 45, 3) := by decide +kernel
theorem d_X_phaseOf_4 : decode prog_1_method_31_code 4 = .ok (.iconst 0, 1) := by decide +kernel
theorem d_X_phaseOf_5 : decode prog_1_method_31_code 5 = .ok (.aaload, 1) := by decide +kernel
theorem d_X_phaseOf_6 : decode prog_1_method_31_code 6 = .ok (.astore_n 2, 1) := by decide +kernel
theorem d_X_phaseOf_7 : decode prog_1_method_31_code 7 = .ok (.aload_n 0, 1) := by decide +kernel
theorem d_X_phaseOf_8 : decode prog_1_method_31_code 8 = .ok (.getfield 26, 3) := by decide +kernel
theorem d_X_phaseOf_11 : decode prog_1_method_31_code 11 = .ok (.aload_n 0, 1) := by decide +kernel
theorem d_X_phaseOf_12 : decode prog_1_method_31_code 12 = .ok (.getfield 12, 3) := by decide +kernel
theorem d_X_phaseOf_15 : decode prog_1_method_31_code 15 = .ok (.aload_n 2, 1) := by decide +kernel
theorem d_X_phaseOf_16 : decode prog_1_method_31_code 16 = .ok (.aload_n 1, 1) := by decide +kernel
theorem d_X_phaseOf_17 : decode prog_1_method_31_code 17 = .ok (.invokevirtual 294, 3) := by decide +kernel
theorem d_X_phaseOf_20 : decode prog_1_method_31_code 20 = .ok (.aload_n 2, 1) := by decide +kernel
theorem d_X_phaseOf_21 : decode prog_1_method_31_code 21 = .ok (.areturn, 1) := by decide +kernel
theorem d_X_noiseIn_0 : decode prog_1_method_32_code 0 = .ok (.lconst 0, 1) := by decide +kernel
theorem d_X_noiseIn_1 : decode prog_1_method_32_code 1 = .ok (.lstore_n 2, 1) := by decide +kernel
theorem d_X_noiseIn_2 : decode prog_1_method_32_code 2 = .ok (.iconst 0, 1) := by decide +kernel
theorem d_X_noiseIn_3 : decode prog_1_method_32_code 3 = .ok (.istore 4, 2) := by decide +kernel
theorem d_X_noiseIn_5 : decode prog_1_method_32_code 5 = .ok (.iload 4, 2) := by decide +kernel
theorem d_X_noiseIn_7 : decode prog_1_method_32_code 7 = .ok (.aload_n 0, 1) := by decide +kernel
theorem d_X_noiseIn_8 : decode prog_1_method_32_code 8 = .ok (.getfield 12, 3) := by decide +kernel
theorem d_X_noiseIn_11 : decode prog_1_method_32_code 11 = .ok (.getfield 78, 3) := by decide +kernel
theorem d_X_noiseIn_14 : decode prog_1_method_32_code 14 = .ok (.if_icmp .ge 33, 3) := by decide +kernel
theorem d_X_noiseIn_17 : decode prog_1_method_32_code 17 = .ok (.lload_n 2, 1) := by decide +kernel
theorem d_X_noiseIn_18 : decode prog_1_method_32_code 18 = .ok (.aload_n 0, 1) := by decide +kernel
theorem d_X_noiseIn_19 : decode prog_1_method_32_code 19 = .ok (.getfield 12, 3) := by decide +kernel
theorem d_X_noiseIn_22 : decode prog_1_method_32_code 22 = .ok (.getfield 117, 3) := by decide +kernel
theorem d_X_noiseIn_25 : decode prog_1_method_32_code 25 = .ok (.i2l, 1) := by decide +kernel
theorem d_X_noiseIn_26 : decode prog_1_method_32_code 26 = .ok (.aload_n 1, 1) := by decide +kernel
theorem d_X_noiseIn_27 : decode prog_1_method_32_code 27 = .ok (.iload 4, 2) := by decide +kernel
theorem d_X_noiseIn_29 : decode prog_1_method_32_code 29 = .ok (.laload, 1) := by decide +kernel
theorem d_X_noiseIn_30 : decode prog_1_method_32_code 30 = .ok (.lmul, 1) := by decide +kernel
theorem d_X_noiseIn_31 : decode prog_1_method_32_code 31 = .ok (.invokestatic 298, 3) := by decide +kernel
theorem d_X_noiseIn_34 : decode prog_1_method_32_code 34 = .ok (.invokestatic 301, 3) := by decide +kernel
theorem d_X_noiseIn_37 : decode prog_1_method_32_code 37 = .ok (.invokestatic 304, 3) := by decide +kernel
theorem d_X_noiseIn_40 : decode prog_1_method_32_code 40 = .ok (.lstore_n 2, 1) := by decide +kernel
theorem d_X_noiseIn_41 : decode prog_1_method_32_code 41 = .ok (.iinc 4 1, 3) := by decide +kernel
theorem d_X_noiseIn_44 : decode prog_1_method_32_code 44 = .ok (.goto (-39), 3) := by decide +kernel
theorem d_X_noiseIn_47 : decode prog_1_method_32_code 47 = .ok (.lload_n 2, 1) := by decide +kernel
theorem d_X_noiseIn_48 : decode prog_1_method_32_code 48 = .ok (.lreturn, 1) := by decide +kernel
theorem d_X_budgetOf_0 : decode prog_1_method_33_code 0 = .ok (.bipush 27, 2) := by decide +kernel
theorem d_X_budgetOf_2 : decode prog_1_method_33_code 2 = .ok (.istore_n 2, 1) := by decide +kernel
theorem d_X_budgetOf_3 : decode prog_1_method_33_code 3 = .ok (.iload_n 2, 1) := by decide +kernel
theorem d_X_budgetOf_4 : decode prog_1_method_33_code 4 = .ok (.ifCond .le 21, 3) := by decide +kernel
theorem d_X_budgetOf_7 : decode prog_1_method_33_code 7 = .ok (.lload_n 0, 1) := by decide +kernel
theorem d_X_budgetOf_8 : decode prog_1_method_33_code 8 = .ok (.iload_n 2, 1) := by decide +kernel
theorem d_X_budgetOf_9 : decode prog_1_method_33_code 9 = .ok (.iconst 1, 1) := by decide +kernel
theorem d_X_budgetOf_10 : decode prog_1_method_33_code 10 = .ok (.iadd, 1) := by decide +kernel
theorem d_X_budgetOf_11 : decode prog_1_method_33_code 11 = .ok (.lshl, 1) := by decide +kernel
theorem d_X_budgetOf_12 : decode prog_1_method_33_code 12 = .ok (.ldc2_w 306, 3) := by decide +kernel
theorem d_X_budgetOf_15 : decode prog_1_method_33_code 15 = .ok (.lcmp, 1) := by decide +kernel
theorem d_X_budgetOf_16 : decode prog_1_method_33_code 16 = .ok (.ifCond .lt 9, 3) := by decide +kernel
theorem d_X_budgetOf_19 : decode prog_1_method_33_code 19 = .ok (.iinc 2 (-1), 3) := by decide +kernel
theorem d_X_budgetOf_22 : decode prog_1_method_33_code 22 = .ok (.goto (-19), 3) := by decide +kernel
theorem d_X_budgetOf_25 : decode prog_1_method_33_code 25 = .ok (.iload_n 2, 1) := by decide +kernel
theorem d_X_budgetOf_26 : decode prog_1_method_33_code 26 = .ok (.ireturn, 1) := by decide +kernel
theorem d_X_centred_0 : decode prog_1_method_34_code 0 = .ok (.lload_n 0, 1) := by decide +kernel
theorem d_X_centred_1 : decode prog_1_method_34_code 1 = .ok (.ldc2_w 306, 3) := by decide +kernel
theorem d_X_centred_4 : decode prog_1_method_34_code 4 = .ok (.invokestatic 184, 3) := by decide +kernel
theorem d_X_centred_7 : decode prog_1_method_34_code 7 = .ok (.lstore_n 2, 1) := by decide +kernel
theorem d_X_centred_8 : decode prog_1_method_34_code 8 = .ok (.lload_n 2, 1) := by decide +kernel
theorem d_X_centred_9 : decode prog_1_method_34_code 9 = .ok (.ldc2_w 308, 3) := by decide +kernel
theorem d_X_centred_12 : decode prog_1_method_34_code 12 = .ok (.lcmp, 1) := by decide +kernel
theorem d_X_centred_13 : decode prog_1_method_34_code 13 = .ok (.ifCond .le 11, 3) := by decide +kernel
theorem d_X_centred_16 : decode prog_1_method_34_code 16 = .ok (.lload_n 2, 1) := by decide +kernel
theorem d_X_centred_17 : decode prog_1_method_34_code 17 = .ok (.ldc2_w 306, 3) := by decide +kernel
theorem d_X_centred_20 : decode prog_1_method_34_code 20 = .ok (.lsub, 1) := by decide +kernel
theorem d_X_centred_21 : decode prog_1_method_34_code 21 = .ok (.goto 4, 3) := by decide +kernel
theorem d_X_centred_24 : decode prog_1_method_34_code 24 = .ok (.lload_n 2, 1) := by decide +kernel
theorem d_X_centred_25 : decode prog_1_method_34_code 25 = .ok (.lreturn, 1) := by decide +kernel

