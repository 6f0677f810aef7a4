theorem co_Math_floorMod_JJ : zCo M_Math_floorMod_JJ := Or.inl ⟨⟨List.mem_append_right _ (List.mem_of_getElem? (i := 239) (by decide +kernel)), by decide +kernel⟩, rfl⟩
theorem co_Math_max_II : zCo M_Math_max_II := Or.inl ⟨⟨List.mem_append_right _ (List.mem_of_getElem? (i := 393) (by decide +kernel)), by decide +kernel⟩, rfl⟩
theorem co_Math_floorMod_II : zCo M_Math_floorMod_II := Or.inl ⟨⟨List.mem_append_right _ (List.mem_of_getElem? (i := 429) (by decide +kernel)), by decide +kernel⟩, rfl⟩
theorem co_Math_abs : zCo M_Math_abs := Or.inl ⟨⟨List.mem_append_right _ (List.mem_of_getElem? (i := 517) (by decide +kernel)), by decide +kernel⟩, rfl⟩
theorem co_Math_max_JJ : zCo M_Math_max_JJ := Or.inl ⟨⟨List.mem_append_right _ (List.mem_of_getElem? (i := 520) (by decide +kernel)), by decide +kernel⟩, rfl⟩
theorem co_Math_floorDiv : zCo M_Math_floorDiv := Or.inl ⟨⟨List.mem_append_right _ (List.mem_of_getElem? (i := 542) (by decide +kernel)), by decide +kernel⟩, rfl⟩
theorem d_Math_floorMod_JJ_0 : decode prog_13_method_52_code 0 = .ok (.lload_n 0, 1) := by decide +kernel
theorem d_Math_floorMod_JJ_1 : decode prog_13_method_52_code 1 = .ok (.lload_n 2, 1) := by decide +kernel
theorem d_Math_floorMod_JJ_2 : decode prog_13_method_52_code 2 = .ok (.lrem, 1) := by decide +kernel
theorem d_Math_floorMod_JJ_3 : decode prog_13_method_52_code 3 = .ok (.lstore 4, 2) := by decide +kernel
theorem d_Math_floorMod_JJ_5 : decode prog_13_method_52_code 5 = .ok (.lload_n 0, 1) := by decide +kernel
theorem d_Math_floorMod_JJ_6 : decode prog_13_method_52_code 6 = .ok (.lload_n 2, 1) := by decide +kernel
theorem d_Math_floorMod_JJ_7 : decode prog_13_method_52_code 7 = .ok (.lxor, 1) := by decide +kernel
theorem d_Math_floorMod_JJ_8 : decode prog_13_method_52_code 8 = .ok (.lconst 0, 1) := by decide +kernel
theorem d_Math_floorMod_JJ_9 : decode prog_13_method_52_code 9 = .ok (.lcmp, 1) := by decide +kernel
theorem d_Math_floorMod_JJ_10 : decode prog_13_method_52_code 10 = .ok (.ifCond .ge 15, 3) := by decide +kernel
theorem d_Math_floorMod_JJ_13 : decode prog_13_method_52_code 13 = .ok (.lload 4, 2) := by decide +kernel
theorem d_Math_floorMod_JJ_15 : decode prog_13_method_52_code 15 = .ok (.lconst 0, 1) := by decide +kernel
theorem d_Math_floorMod_JJ_16 : decode prog_13_method_52_code 16 = .ok (.lcmp, 1) := by decide +kernel
theorem d_Math_floorMod_JJ_17 : decode prog_13_method_52_code 17 = .ok (.ifCond .eq 8, 3) := by decide +kernel
theorem d_Math_floorMod_JJ_20 : decode prog_13_method_52_code 20 = .ok (.lload 4, 2) := by decide +kernel
theorem d_Math_floorMod_JJ_22 : decode prog_13_method_52_code 22 = .ok (.lload_n 2, 1) := by decide +kernel
theorem d_Math_floorMod_JJ_23 : decode prog_13_method_52_code 23 = .ok (.ladd, 1) := by decide +kernel
theorem d_Math_floorMod_JJ_24 : decode prog_13_method_52_code 24 = .ok (.lreturn, 1) := by decide +kernel
theorem d_Math_floorMod_JJ_25 : decode prog_13_method_52_code 25 = .ok (.lload 4, 2) := by decide +kernel
theorem d_Math_floorMod_JJ_27 : decode prog_13_method_52_code 27 = .ok (.lreturn, 1) := by decide +kernel
theorem d_Math_max_II_0 : decode prog_13_method_65_code 0 = .ok (.iload_n 0, 1) := by decide +kernel
theorem d_Math_max_II_1 : decode prog_13_method_65_code 1 = .ok (.iload_n 1, 1) := by decide +kernel
theorem d_Math_max_II_2 : decode prog_13_method_65_code 2 = .ok (.if_icmp .lt 7, 3) := by decide +kernel
theorem d_Math_max_II_5 : decode prog_13_method_65_code 5 = .ok (.iload_n 0, 1) := by decide +kernel
theorem d_Math_max_II_6 : decode prog_13_method_65_code 6 = .ok (.goto 4, 3) := by decide +kernel
theorem d_Math_max_II_9 : decode prog_13_method_65_code 9 = .ok (.iload_n 1, 1) := by decide +kernel
theorem d_Math_max_II_10 : decode prog_13_method_65_code 10 = .ok (.ireturn, 1) := by decide +kernel
theorem d_Math_floorMod_II_0 : decode prog_13_method_50_code 0 = .ok (.iload_n 0, 1) := by decide +kernel
theorem d_Math_floorMod_II_1 : decode prog_13_method_50_code 1 = .ok (.iload_n 1, 1) := by decide +kernel
theorem d_Math_floorMod_II_2 : decode prog_13_method_50_code 2 = .ok (.irem, 1) := by decide +kernel
theorem d_Math_floorMod_II_3 : decode prog_13_method_50_code 3 = .ok (.istore_n 2, 1) := by decide +kernel
theorem d_Math_floorMod_II_4 : decode prog_13_method_50_code 4 = .ok (.iload_n 0, 1) := by decide +kernel
theorem d_Math_floorMod_II_5 : decode prog_13_method_50_code 5 = .ok (.iload_n 1, 1) := by decide +kernel
theorem d_Math_floorMod_II_6 : decode prog_13_method_50_code 6 = .ok (.ixor, 1) := by decide +kernel
theorem d_Math_floorMod_II_7 : decode prog_13_method_50_code 7 = .ok (.ifCond .ge 11, 3) := by decide +kernel
theorem d_Math_floorMod_II_10 : decode prog_13_method_50_code 10 = .ok (.iload_n 2, 1) := by decide +kernel
theorem d_Math_floorMod_II_11 : decode prog_13_method_50_code 11 = .ok (.ifCond .eq 7, 3) := by decide +kernel
theorem d_Math_floorMod_II_14 : decode prog_13_method_50_code 14 = .ok (.iload_n 2, 1) := by decide +kernel
theorem d_Math_floorMod_II_15 : decode prog_13_method_50_code 15 = .ok (.iload_n 1, 1) := by decide +kernel
theorem d_Math_floorMod_II_16 : decode prog_13_method_50_code 16 = .ok (.iadd, 1) := by decide +kernel
theorem d_Math_floorMod_II_17 : decode prog_13_method_50_code 17 = .ok (.ireturn, 1) := by decide +kernel
theorem d_Math_floorMod_II_18 : decode prog_13_method_50_code 18 = .ok (.iload_n 2, 1) := by decide +kernel
theorem d_Math_floorMod_II_19 : decode prog_13_method_50_code 19 = .ok (.ireturn, 1) := by decide +kernel
theorem d_Math_abs_0 : decode prog_13_method_61_code 0 = .ok (.lload_n 0, 1) := by decide +kernel
theorem d_Math_abs_1 : decode prog_13_method_61_code 1 = .ok (.lconst 0, 1) := by decide +kernel
theorem d_Math_abs_2 : decode prog_13_method_61_code 2 = .ok (.lcmp, 1) := by decide +kernel
theorem d_Math_abs_3 : decode prog_13_method_61_code 3 = .ok (.ifCond .ge 8, 3) := by decide +kernel
theorem d_Math_abs_6 : decode prog_13_method_61_code 6 = .ok (.lload_n 0, 1) := by decide +kernel
theorem d_Math_abs_7 : decode prog_13_method_61_code 7 = .ok (.lneg, 1) := by decide +kernel
theorem d_Math_abs_8 : decode prog_13_method_61_code 8 = .ok (.goto 4, 3) := by decide +kernel
theorem d_Math_abs_11 : decode prog_13_method_61_code 11 = .ok (.lload_n 0, 1) := by decide +kernel
theorem d_Math_abs_12 : decode prog_13_method_61_code 12 = .ok (.lreturn, 1) := by decide +kernel
theorem d_Math_max_JJ_0 : decode prog_13_method_66_code 0 = .ok (.lload_n 0, 1) := by decide +kernel
theorem d_Math_max_JJ_1 : decode prog_13_method_66_code 1 = .ok (.lload_n 2, 1) := by decide +kernel
theorem d_Math_max_JJ_2 : decode prog_13_method_66_code 2 = .ok (.lcmp, 1) := by decide +kernel
theorem d_Math_max_JJ_3 : decode prog_13_method_66_code 3 = .ok (.ifCond .lt 7, 3) := by decide +kernel
theorem d_Math_max_JJ_6 : decode prog_13_method_66_code 6 = .ok (.lload_n 0, 1) := by decide +kernel
theorem d_Math_max_JJ_7 : decode prog_13_method_66_code 7 = .ok (.goto 4, 3) := by decide +kernel
theorem d_Math_max_JJ_10 : decode prog_13_method_66_code 10 = .ok (.lload_n 2, 1) := by decide +kernel
theorem d_Math_max_JJ_11 : decode prog_13_method_66_code 11 = .ok (.lreturn, 1) := by decide +kernel
theorem d_Math_floorDiv_0 : decode prog_13_method_49_code 0 = .ok (.lload_n 0, 1) := by decide +kernel
theorem d_Math_floorDiv_1 : decode prog_13_method_49_code 1 = .ok (.lload_n 2, 1) := by decide +kernel
theorem d_Math_floorDiv_2 : decode prog_13_method_49_code 2 = .ok (.ldiv, 1) := by decide +kernel
theorem d_Math_floorDiv_3 : decode prog_13_method_49_code 3 = .ok (.lstore 4, 2) := by decide +kernel
theorem d_Math_floorDiv_5 : decode prog_13_method_49_code 5 = .ok (.lload_n 0, 1) := by decide +kernel
theorem d_Math_floorDiv_6 : decode prog_13_method_49_code 6 = .ok (.lload_n 2, 1) := by decide +kernel
theorem d_Math_floorDiv_7 : decode prog_13_method_49_code 7 = .ok (.lxor, 1) := by decide +kernel
theorem d_Math_floorDiv_8 : decode prog_13_method_49_code 8 = .ok (.lconst 0, 1) := by decide +kernel
theorem d_Math_floorDiv_9 : decode prog_13_method_49_code 9 = .ok (.lcmp, 1) := by decide +kernel
theorem d_Math_floorDiv_10 : decode prog_13_method_49_code 10 = .ok (.ifCond .ge 17, 3) := by decide +kernel
theorem d_Math_floorDiv_13 : decode prog_13_method_49_code 13 = .ok (.lload 4, 2) := by decide +kernel
theorem d_Math_floorDiv_15 : decode prog_13_method_49_code 15 = .ok (.lload_n 2, 1) := by decide +kernel
theorem d_Math_floorDiv_16 : decode prog_13_method_49_code 16 = .ok (.lmul, 1) := by decide +kernel
theorem d_Math_floorDiv_17 : decode prog_13_method_49_code 17 = .ok (.lload_n 0, 1) := by decide +kernel
theorem d_Math_floorDiv_18 : decode prog_13_method_49_code 18 = .ok (.lcmp, 1) := by decide +kernel
theorem d_Math_floorDiv_19 : decode prog_13_method_49_code 19 = .ok (.ifCond .eq 8, 3) := by decide +kernel
theorem d_Math_floorDiv_22 : decode prog_13_method_49_code 22 = .ok (.lload 4, 2) := by decide +kernel
theorem d_Math_floorDiv_24 : decode prog_13_method_49_code 24 = .ok (.lconst 1, 1) := by decide +kernel
theorem d_Math_floorDiv_25 : decode prog_13_method_49_code 25 = .ok (.lsub, 1) := by decide +kernel
theorem d_Math_floorDiv_26 : decode prog_13_method_49_code 26 = .ok (.lreturn, 1) := by decide +kernel
theorem d_Math_floorDiv_27 : decode prog_13_method_49_code 27 = .ok (.lload 4, 2) := by decide +kernel
theorem d_Math_floorDiv_29 : decode prog_13_method_49_code 29 = .ok (.lreturn, 1) := by decide +kernel

theorem k_Integer_265 : zin (.constant "java/lang/Integer" 265 (1431655765)) := ⟨List.mem_append_right _ (List.mem_of_getElem? (i := 229) (by decide +kernel)), by decide +kernel⟩
theorem k_Integer_266 : zin (.constant "java/lang/Integer" 266 (858993459)) := ⟨List.mem_append_right _ (List.mem_of_getElem? (i := 230) (by decide +kernel)), by decide +kernel⟩
theorem k_Integer_267 : zin (.constant "java/lang/Integer" 267 (252645135)) := ⟨List.mem_append_right _ (List.mem_of_getElem? (i := 231) (by decide +kernel)), by decide +kernel⟩
theorem co_Integer_bitCount : zCo M_Integer_bitCount := Or.inl ⟨⟨List.mem_append_right _ (List.mem_of_getElem? (i := 228) (by decide +kernel)), by decide +kernel⟩, rfl⟩
theorem d_Integer_bitCount_0 : decode prog_12_method_49_code 0 = .ok (.iload_n 0, 1) := by decide +kernel
theorem d_Integer_bitCount_1 : decode prog_12_method_49_code 1 = .ok (.iload_n 0, 1) := by decide +kernel
theorem d_Integer_bitCount_2 : decode prog_12_method_49_code 2 = .ok (.iconst 1, 1) := by decide +kernel
theorem d_Integer_bitCount_3 : decode prog_12_method_49_code 3 = .ok (.iushr, 1) := by decide +kernel
theorem d_Integer_bitCount_4 : decode prog_12_method_49_code 4 = .ok (.ldc_w 265, 3) := by decide +kernel
theorem d_Integer_bitCount_7 : decode prog_12_method_49_code 7 = .ok (.iand, 1) := by decide +kernel
theorem d_Integer_bitCount_8 : decode prog_12_method_49_code 8 = .ok (.isub, 1) := by decide +kernel
theorem d_Integer_bitCount_9 : decode prog_12_method_49_code 9 = .ok (.istore_n 0, 1) := by decide +kernel
theorem d_Integer_bitCount_10 : decode prog_12_method_49_code 10 = .ok (.iload_n 0, 1) := by decide +kernel
theorem d_Integer_bitCount_11 : decode prog_12_method_49_code 11 = .ok (.ldc_w 266, 3) := by decide +kernel
theorem d_Integer_bitCount_14 : decode prog_12_method_49_code 14 = .ok (.iand, 1) := by decide +kernel
theorem d_Integer_bitCount_15 : decode prog_12_method_49_code 15 = .ok (.iload_n 0, 1) := by decide +kernel
theorem d_Integer_bitCount_16 : decode prog_12_method_49_code 16 = .ok (.iconst 2, 1) := by decide +kernel
theorem d_Integer_bitCount_17 : decode prog_12_method_49_code 17 = .ok (.iushr, 1) := by decide +kernel
theorem d_Integer_bitCount_18 : decode prog_12_method_49_code 18 = .ok (.ldc_w 266, 3) := by decide +kernel
theorem d_Integer_bitCount_21 : decode prog_12_method_49_code 21 = .ok (.iand, 1) := by decide +kernel
theorem d_Integer_bitCount_22 : decode prog_12_method_49_code 22 = .ok (.iadd, 1) := by decide +kernel
theorem d_Integer_bitCount_23 : decode prog_12_method_49_code 23 = .ok (.istore_n 0, 1) := by decide +kernel
theorem d_Integer_bitCount_24 : decode prog_12_method_49_code 24 = .ok (.iload_n 0, 1) := by decide +kernel
theorem d_Integer_bitCount_25 : decode prog_12_method_49_code 25 = .ok (.iload_n 0, 1) := by decide +kernel
theorem d_Integer_bitCount_26 : decode prog_12_method_49_code 26 = .ok (.iconst 4, 1) := by decide +kernel
theorem d_Integer_bitCount_27 : decode prog_12_method_49_code 27 = .ok (.iushr, 1) := by decide +kernel
theorem d_Integer_bitCount_28 : decode prog_12_method_49_code 28 = .ok (.iadd, 1) := by decide +kernel
theorem d_Integer_bitCount_29 : decode prog_12_method_49_code 29 = .ok (.ldc_w 267, 3) := by decide +kernel
theorem d_Integer_bitCount_32 : decode prog_12_method_49_code 32 = .ok (.iand, 1) := by decide +kernel
theorem d_Integer_bitCount_33 : decode prog_12_method_49_code 33 = .ok (.istore_n 0, 1) := by decide +kernel
theorem d_Integer_bitCount_34 : decode prog_12_method_49_code 34 = .ok (.iload_n 0, 1) := by decide +kernel
theorem d_Integer_bitCount_35 : decode prog_12_method_49_code 35 = .ok (.iload_n 0, 1) := by decide +kernel
theorem d_Integer_bitCount_36 : decode prog_12_method_49_code 36 = .ok (.bipush 8, 2) := by decide +kernel
theorem d_Integer_bitCount_38 : decode prog_12_method_49_code 38 = .ok (.iushr, 1) := by decide +kernel
theorem d_Integer_bitCount_39 : decode prog_12_method_49_code 39 = .ok (.iadd, 1) := by decide +kernel
theorem d_Integer_bitCount_40 : decode prog_12_method_49_code 40 = .ok (.istore_n 0, 1) := by decide +kernel
theorem d_Integer_bitCount_41 : decode prog_12_method_49_code 41 = .ok (.iload_n 0, 1) := by decide +kernel
theorem d_Integer_bitCount_42 : decode prog_12_method_49_code 42 = .ok (.iload_n 0, 1) := by decide +kernel
theorem d_Integer_bitCount_43 : decode prog_12_method_49_code 43 = .ok (.bipush 16, 2) := by decide +kernel
theorem d_Integer_bitCount_45 : decode prog_12_method_49_code 45 = .ok (.iushr, 1) := by decide +kernel
theorem d_Integer_bitCount_46 : decode prog_12_method_49_code 46 = .ok (.iadd, 1) := by decide +kernel
theorem d_Integer_bitCount_47 : decode prog_12_method_49_code 47 = .ok (.istore_n 0, 1) := by decide +kernel
theorem d_Integer_bitCount_48 : decode prog_12_method_49_code 48 = .ok (.iload_n 0, 1) := by decide +kernel
theorem d_Integer_bitCount_49 : decode prog_12_method_49_code 49 = .ok (.bipush 63, 2) := by decide +kernel
theorem d_Integer_bitCount_51 : decode prog_12_method_49_code 51 = .ok (.iand, 1) := by decide +kernel
theorem d_Integer_bitCount_52 : decode prog_12_method_49_code 52 = .ok (.ireturn, 1) := by decide +kernel

theorem co_Arrays_fill : zCo M_Arrays_fill := Or.inl ⟨⟨List.mem_append_right _ (List.mem_of_getElem? (i := 207) (by decide +kernel)), by decide +kernel⟩, rfl⟩
theorem d_Arrays_fill_0 : decode prog_18_method_101_code 0 = .ok (.iconst 0, 1) := by decide +kernel
theorem d_Arrays_fill_1 : decode prog_18_method_101_code 1 = .ok (.istore_n 3, 1) := by decide +kernel
theorem d_Arrays_fill_2 : decode prog_18_method_101_code 2 = .ok (.aload_n 0, 1) := by decide +kernel
theorem d_Arrays_fill_3 : decode prog_18_method_101_code 3 = .ok (.arraylength, 1) := by decide +kernel
theorem d_Arrays_fill_4 : decode prog_18_method_101_code 4 = .ok (.istore 4, 2) := by decide +kernel
theorem d_Arrays_fill_6 : decode prog_18_method_101_code 6 = .ok (.iload_n 3, 1) := by decide +kernel
theorem d_Arrays_fill_7 : decode prog_18_method_101_code 7 = .ok (.iload 4, 2) := by decide +kernel
theorem d_Arrays_fill_9 : decode prog_18_method_101_code 9 = .ok (.if_icmp .ge 13, 3) := by decide +kernel
theorem d_Arrays_fill_12 : decode prog_18_method_101_code 12 = .ok (.aload_n 0, 1) := by decide +kernel
theorem d_Arrays_fill_13 : decode prog_18_method_101_code 13 = .ok (.iload_n 3, 1) := by decide +kernel
theorem d_Arrays_fill_14 : decode prog_18_method_101_code 14 = .ok (.lload_n 1, 1) := by decide +kernel
theorem d_Arrays_fill_15 : decode prog_18_method_101_code 15 = .ok (.lastore, 1) := by decide +kernel
theorem d_Arrays_fill_16 : decode prog_18_method_101_code 16 = .ok (.iinc 3 1, 3) := by decide +kernel
theorem d_Arrays_fill_19 : decode prog_18_method_101_code 19 = .ok (.goto (-13), 3) := by decide +kernel
theorem d_Arrays_fill_22 : decode prog_18_method_101_code 22 = .ok (.return_, 1) := by decide +kernel

theorem ff_Chance_9 : zFF "RingCipher$Chance" 9 cChance 0 := ⟨R_Chance, F_Chance, 1, t_Chance, rfl, by decide, i_Chance, t_Chance_ok, n_Chance, Or.inl ⟨List.mem_append_right _ (List.mem_of_getElem? (i := 76) (by decide +kernel)), by decide +kernel⟩⟩
theorem k_Chance_15 : zin (.constant "RingCipher$Chance" 15 (1664525)) := ⟨List.mem_append_right _ (List.mem_of_getElem? (i := 203) (by decide +kernel)), by decide +kernel⟩
theorem k_Chance_16 : zin (.constant "RingCipher$Chance" 16 (1013904223)) := ⟨List.mem_append_right _ (List.mem_of_getElem? (i := 204) (by decide +kernel)), by decide +kernel⟩
theorem k_Chance_27 : zin (.constantLong "RingCipher$Chance" 27 (Int64.ofInt 65536)) := ⟨List.mem_append_right _ (List.mem_of_getElem? (i := 220) (by decide +kernel)), by decide +kernel⟩
theorem k_Chance_29 : zin (.constantLong "RingCipher$Chance" 29 (Int64.ofInt 268435399)) := ⟨List.mem_append_right _ (List.mem_of_getElem? (i := 221) (by decide +kernel)), by decide +kernel⟩
theorem g_Chance_17 : zGV "RingCipher$Chance" 17 M_Chance_draw 0 := ⟨Or.inl ⟨List.mem_append_right _ (List.mem_of_getElem? (i := 199) (by decide +kernel)), by decide +kernel⟩, ⟨List.mem_append_right _ (List.mem_of_getElem? (i := 201) (by decide +kernel)), by decide +kernel⟩, ⟨List.mem_append_left _ (List.mem_of_getElem? (i := 5) (by decide +kernel)), by decide +kernel⟩, ⟨by decide +kernel, by decide +kernel⟩, by decide +kernel⟩
theorem g_Chance_21 : zGS "RingCipher$Chance" 21 M_Integer_bitCount 1 := ⟨Or.inl ⟨List.mem_append_right _ (List.mem_of_getElem? (i := 226) (by decide +kernel)), by decide +kernel⟩, ⟨List.mem_append_right _ (List.mem_of_getElem? (i := 227) (by decide +kernel)), by decide +kernel⟩, ⟨List.mem_append_right _ (List.mem_of_getElem? (i := 13) (by decide +kernel)), by decide +kernel⟩, ⟨by decide +kernel, by decide +kernel⟩, by decide +kernel⟩
theorem co_Chance_init : zCo M_Chance_init := Or.inl ⟨⟨List.mem_append_right _ (List.mem_of_getElem? (i := 74) (by decide +kernel)), by decide +kernel⟩, rfl⟩
theorem co_Chance_fillTernary : zCo M_Chance_fillTernary := Or.inl ⟨⟨List.mem_append_right _ (List.mem_of_getElem? (i := 198) (by decide +kernel)), by decide +kernel⟩, rfl⟩
theorem co_Chance_draw : zCo M_Chance_draw := Or.inl ⟨⟨List.mem_append_right _ (List.mem_of_getElem? (i := 202) (by decide +kernel)), by decide +kernel⟩, rfl⟩
theorem co_Chance_fillUniform : zCo M_Chance_fillUniform := Or.inl ⟨⟨List.mem_append_right _ (List.mem_of_getElem? (i := 219) (by decide +kernel)), by decide +kernel⟩, rfl⟩
theorem co_Chance_fillErrors : zCo M_Chance_fillErrors := Or.inl ⟨⟨List.mem_append_right _ (List.mem_of_getElem? (i := 225) (by decide +kernel)), by decide +kernel⟩, rfl⟩
theorem co_Chance_upperHalf : zCo M_Chance_upperHalf := Or.inl ⟨⟨List.mem_append_right _ (List.mem_of_getElem? (i := 263) (by decide +kernel)), by decide +kernel⟩, rfl⟩
theorem co_Chance_restart : zCo M_Chance_restart := Or.inl ⟨⟨List.mem_append_right _ (List.mem_of_getElem? (i := 345) (by decide +kernel)), by decide +kernel⟩, rfl⟩
theorem d_Chance_init_0 : decode prog_2_method_1_code 0 = .ok (.aload_n 0, 1) := by decide +kernel
theorem d_Chance_init_1 : decode prog_2_method_1_code 1 = .ok (.invokespecial 3, 3) := by decide +kernel
theorem d_Chance_init_4 : decode prog_2_method_1_code 4 = .ok (.return_, 1) := by decide +kernel
theorem d_Chance_restart_0 : decode prog_2_method_2_code 0 = .ok (.aload_n 0, 1) := by decide +kernel
theorem d_Chance_restart_1 : decode prog_2_method_2_code 1 = .ok (.iload_n 1, 1) := by decide +kernel
theorem d_Chance_restart_2 : decode prog_2_method_2_code 2 = .ok (.putfield 9, 3) := by decide +kernel
theorem d_Chance_restart_5 : decode prog_2_method_2_code 5 = .ok (.return_, 1) := by decide +kernel
theorem d_Chance_upperHalf_0 : decode prog_2_method_3_code 0 = .ok (.aload_n 0, 1) := by decide +kernel
theorem d_Chance_upperHalf_1 : decode prog_2_method_3_code 1 = .ok (.getfield 9, 3) := by decide +kernel
theorem d_Chance_upperHalf_4 : decode prog_2_method_3_code 4 = .ok (.bipush 16, 2) := by decide +kernel
theorem d_Chance_upperHalf_6 : decode prog_2_method_3_code 6 = .ok (.iushr, 1) := by decide +kernel
theorem d_Chance_upperHalf_7 : decode prog_2_method_3_code 7 = .ok (.ireturn, 1) := by decide +kernel
theorem d_Chance_draw_0 : decode prog_2_method_4_code 0 = .ok (.aload_n 0, 1) := by decide +kernel
theorem d_Chance_draw_1 : decode prog_2_method_4_code 1 = .ok (.ldc 15, 2) := by decide +kernel
theorem d_Chance_draw_3 : decode prog_2_method_4_code 3 = .ok (.aload_n 0, 1) := by decide +kernel
theorem d_Chance_draw_4 : decode prog_2_method_4_code 4 = .ok (.getfield 9, 3) := by decide +kernel
theorem d_Chance_draw_7 : decode prog_2_method_4_code 7 = .ok (.imul, 1) := by decide +kernel
theorem d_Chance_draw_8 : decode prog_2_method_4_code 8 = .ok (.ldc 16, 2) := by decide +kernel
theorem d_Chance_draw_10 : decode prog_2_method_4_code 10 = .ok (.iadd, 1) := by decide +kernel
theorem d_Chance_draw_11 : decode prog_2_method_4_code 11 = .ok (.putfield 9, 3) := by decide +kernel
theorem d_Chance_draw_14 : decode prog_2_method_4_code 14 = .ok (.aload_n 0, 1) := by decide +kernel
theorem d_Chance_draw_15 : decode prog_2_method_4_code 15 = .ok (.getfield 9, 3) := by decide +kernel
theorem d_Chance_draw_18 : decode prog_2_method_4_code 18 = .ok (.bipush 16, 2) := by decide +kernel
theorem d_Chance_draw_20 : decode prog_2_method_4_code 20 = .ok (.iushr, 1) := by decide +kernel
theorem d_Chance_draw_21 : decode prog_2_method_4_code 21 = .ok (.ireturn, 1) := by decide +kernel
theorem d_Chance_fillTernary_0 : decode prog_2_method_5_code 0 = .ok (.iconst 0, 1) := by decide +kernel
theorem d_Chance_fillTernary_1 : decode prog_2_method_5_code 1 = .ok (.istore_n 3, 1) := by decide +kernel
theorem d_Chance_fillTernary_2 : decode prog_2_method_5_code 2 = .ok (.iload_n 3, 1) := by decide +kernel
theorem d_Chance_fillTernary_3 : decode prog_2_method_5_code 3 = .ok (.iload_n 2, 1) := by decide +kernel
theorem d_Chance_fillTernary_4 : decode prog_2_method_5_code 4 = .ok (.if_icmp .ge 21, 3) := by decide +kernel
theorem d_Chance_fillTernary_7 : decode prog_2_method_5_code 7 = .ok (.aload_n 1, 1) := by decide +kernel
theorem d_Chance_fillTernary_8 : decode prog_2_method_5_code 8 = .ok (.iload_n 3, 1) := by decide +kernel
theorem d_Chance_fillTernary_9 : decode prog_2_method_5_code 9 = .ok (.aload_n 0, 1) := by decide +kernel
theorem d_Chance_fillTernary_10 : decode prog_2_method_5_code 10 = .ok (.invokevirtual 17, 3) := by decide +kernel
theorem d_Chance_fillTernary_13 : decode prog_2_method_5_code 13 = .ok (.iconst 3, 1) := by decide +kernel
theorem d_Chance_fillTernary_14 : decode prog_2_method_5_code 14 = .ok (.irem, 1) := by decide +kernel
theorem d_Chance_fillTernary_15 : decode prog_2_method_5_code 15 = .ok (.iconst 1, 1) := by decide +kernel
theorem d_Chance_fillTernary_16 : decode prog_2_method_5_code 16 = .ok (.isub, 1) := by decide +kernel
theorem d_Chance_fillTernary_17 : decode prog_2_method_5_code 17 = .ok (.i2l, 1) := by decide +kernel
theorem d_Chance_fillTernary_18 : decode prog_2_method_5_code 18 = .ok (.lastore, 1) := by decide +kernel
theorem d_Chance_fillTernary_19 : decode prog_2_method_5_code 19 = .ok (.iinc 3 1, 3) := by decide +kernel
theorem d_Chance_fillTernary_22 : decode prog_2_method_5_code 22 = .ok (.goto (-20), 3) := by decide +kernel
theorem d_Chance_fillTernary_25 : decode prog_2_method_5_code 25 = .ok (.return_, 1) := by decide +kernel
theorem d_Chance_fillErrors_0 : decode prog_2_method_6_code 0 = .ok (.iconst 0, 1) := by decide +kernel
theorem d_Chance_fillErrors_1 : decode prog_2_method_6_code 1 = .ok (.istore_n 3, 1) := by decide +kernel
theorem d_Chance_fillErrors_2 : decode prog_2_method_6_code 2 = .ok (.iload_n 3, 1) := by decide +kernel
theorem d_Chance_fillErrors_3 : decode prog_2_method_6_code 3 = .ok (.iload_n 2, 1) := by decide +kernel
theorem d_Chance_fillErrors_4 : decode prog_2_method_6_code 4 = .ok (.if_icmp .ge 36, 3) := by decide +kernel
theorem d_Chance_fillErrors_7 : decode prog_2_method_6_code 7 = .ok (.aload_n 0, 1) := by decide +kernel
theorem d_Chance_fillErrors_8 : decode prog_2_method_6_code 8 = .ok (.invokevirtual 17, 3) := by decide +kernel
theorem d_Chance_fillErrors_11 : decode prog_2_method_6_code 11 = .ok (.istore 4, 2) := by decide +kernel
theorem d_Chance_fillErrors_13 : decode prog_2_method_6_code 13 = .ok (.aload_n 1, 1) := by decide +kernel
theorem d_Chance_fillErrors_14 : decode prog_2_method_6_code 14 = .ok (.iload_n 3, 1) := by decide +kernel
theorem d_Chance_fillErrors_15 : decode prog_2_method_6_code 15 = .ok (.iload 4, 2) := by decide +kernel
theorem d_Chance_fillErrors_17 : decode prog_2_method_6_code 17 = .ok (.bipush 7, 2) := by decide +kernel
theorem d_Chance_fillErrors_19 : decode prog_2_method_6_code 19 = .ok (.iand, 1) := by decide +kernel
theorem d_Chance_fillErrors_20 : decode prog_2_method_6_code 20 = .ok (.invokestatic 21, 3) := by decide +kernel
theorem d_Chance_fillErrors_23 : decode prog_2_method_6_code 23 = .ok (.iload 4, 2) := by decide +kernel
theorem d_Chance_fillErrors_25 : decode prog_2_method_6_code 25 = .ok (.bipush 56, 2) := by decide +kernel
theorem d_Chance_fillErrors_27 : decode prog_2_method_6_code 27 = .ok (.iand, 1) := by decide +kernel
theorem d_Chance_fillErrors_28 : decode prog_2_method_6_code 28 = .ok (.invokestatic 21, 3) := by decide +kernel
theorem d_Chance_fillErrors_31 : decode prog_2_method_6_code 31 = .ok (.isub, 1) := by decide +kernel
theorem d_Chance_fillErrors_32 : decode prog_2_method_6_code 32 = .ok (.i2l, 1) := by decide +kernel
theorem d_Chance_fillErrors_33 : decode prog_2_method_6_code 33 = .ok (.lastore, 1) := by decide +kernel
theorem d_Chance_fillErrors_34 : decode prog_2_method_6_code 34 = .ok (.iinc 3 1, 3) := by decide +kernel
theorem d_Chance_fillErrors_37 : decode prog_2_method_6_code 37 = .ok (.goto (-35), 3) := by decide +kernel
theorem d_Chance_fillErrors_40 : decode prog_2_method_6_code 40 = .ok (.return_, 1) := by decide +kernel
theorem d_Chance_fillUniform_0 : decode prog_2_method_7_code 0 = .ok (.iconst 0, 1) := by decide +kernel
theorem d_Chance_fillUniform_1 : decode prog_2_method_7_code 1 = .ok (.istore_n 3, 1) := by decide +kernel
theorem d_Chance_fillUniform_2 : decode prog_2_method_7_code 2 = .ok (.iload_n 3, 1) := by decide +kernel
theorem d_Chance_fillUniform_3 : decode prog_2_method_7_code 3 = .ok (.iload_n 2, 1) := by decide +kernel
theorem d_Chance_fillUniform_4 : decode prog_2_method_7_code 4 = .ok (.if_icmp .ge 35, 3) := by decide +kernel
theorem d_Chance_fillUniform_7 : decode prog_2_method_7_code 7 = .ok (.aload_n 0, 1) := by decide +kernel
theorem d_Chance_fillUniform_8 : decode prog_2_method_7_code 8 = .ok (.invokevirtual 17, 3) := by decide +kernel
theorem d_Chance_fillUniform_11 : decode prog_2_method_7_code 11 = .ok (.i2l, 1) := by decide +kernel
theorem d_Chance_fillUniform_12 : decode prog_2_method_7_code 12 = .ok (.lstore 4, 2) := by decide +kernel
theorem d_Chance_fillUniform_14 : decode prog_2_method_7_code 14 = .ok (.aload_n 1, 1) := by decide +kernel
theorem d_Chance_fillUniform_15 : decode prog_2_method_7_code 15 = .ok (.iload_n 3, 1) := by decide +kernel
theorem d_Chance_fillUniform_16 : decode prog_2_method_7_code 16 = .ok (.ldc2_w 27, 3) := by decide +kernel
theorem d_Chance_fillUniform_19 : decode prog_2_method_7_code 19 = .ok (.lload 4, 2) := by decide +kernel
theorem d_Chance_fillUniform_21 : decode prog_2_method_7_code 21 = .ok (.lmul, 1) := by decide +kernel
theorem d_Chance_fillUniform_22 : decode prog_2_method_7_code 22 = .ok (.aload_n 0, 1) := by decide +kernel
theorem d_Chance_fillUniform_23 : decode prog_2_method_7_code 23 = .ok (.invokevirtual 17, 3) := by decide +kernel
theorem d_Chance_fillUniform_26 : decode prog_2_method_7_code 26 = .ok (.i2l, 1) := by decide +kernel
theorem d_Chance_fillUniform_27 : decode prog_2_method_7_code 27 = .ok (.ladd, 1) := by decide +kernel
theorem d_Chance_fillUniform_28 : decode prog_2_method_7_code 28 = .ok (.ldc2_w 29, 3) := by decide +kernel
theorem d_Chance_fillUniform_31 : decode prog_2_method_7_code 31 = .ok (.lrem, 1) := by decide +kernel
theorem d_Chance_fillUniform_32 : decode prog_2_method_7_code 32 = .ok (.lastore, 1) := by decide +kernel
theorem d_Chance_fillUniform_33 : decode prog_2_method_7_code 33 = .ok (.iinc 3 1, 3) := by decide +kernel
theorem d_Chance_fillUniform_36 : decode prog_2_method_7_code 36 = .ok (.goto (-34), 3) := by decide +kernel
theorem d_Chance_fillUniform_39 : decode prog_2_method_7_code 39 = .ok (.return_, 1) := by decide +kernel

theorem ff_Ring_19 : zFF "RingCipher$Ring" 19 cRing 0 := ⟨R_Ring, F_Ring, 5, t_Ring, rfl, by decide, i_Ring, t_Ring_ok, n_Ring, Or.inl ⟨List.mem_append_right _ (List.mem_of_getElem? (i := 48) (by decide +kernel)), by decide +kernel⟩⟩
theorem ff_Ring_27 : zFF "RingCipher$Ring" 27 cRing 1 := ⟨R_Ring, F_Ring, 5, t_Ring, rfl, by decide, i_Ring, t_Ring_ok, n_Ring, Or.inl ⟨List.mem_append_right _ (List.mem_of_getElem? (i := 50) (by decide +kernel)), by decide +kernel⟩⟩
theorem ff_Ring_33 : zFF "RingCipher$Ring" 33 cRing 2 := ⟨R_Ring, F_Ring, 5, t_Ring, rfl, by decide, i_Ring, t_Ring_ok, n_Ring, Or.inl ⟨List.mem_append_right _ (List.mem_of_getElem? (i := 53) (by decide +kernel)), by decide +kernel⟩⟩
theorem ff_Ring_40 : zFF "RingCipher$Ring" 40 cRing 3 := ⟨R_Ring, F_Ring, 5, t_Ring, rfl, by decide, i_Ring, t_Ring_ok, n_Ring, Or.inl ⟨List.mem_append_right _ (List.mem_of_getElem? (i := 55) (by decide +kernel)), by decide +kernel⟩⟩
theorem ff_Ring_9 : zFF "RingCipher$Ring" 9 cRing 4 := ⟨R_Ring, F_Ring, 5, t_Ring, rfl, by decide, i_Ring, t_Ring_ok, n_Ring, Or.inl ⟨List.mem_append_right _ (List.mem_of_getElem? (i := 57) (by decide +kernel)), by decide +kernel⟩⟩
theorem k_Ring_47 : zin (.constantLong "RingCipher$Ring" 47 (Int64.ofInt 268435399)) := ⟨List.mem_append_right _ (List.mem_of_getElem? (i := 389) (by decide +kernel)), by decide +kernel⟩
theorem k_Ring_58 : zin (.constantLong "RingCipher$Ring" 58 (Int64.ofInt 536870798)) := ⟨List.mem_append_right _ (List.mem_of_getElem? (i := 543) (by decide +kernel)), by decide +kernel⟩
theorem g_Ring_15 : zGV "RingCipher$Ring" 15 M_Ring_choose 1 := ⟨Or.inl ⟨List.mem_append_right _ (List.mem_of_getElem? (i := 32) (by decide +kernel)), by decide +kernel⟩, ⟨List.mem_append_right _ (List.mem_of_getElem? (i := 34) (by decide +kernel)), by decide +kernel⟩, ⟨List.mem_append_left _ (List.mem_of_getElem? (i := 0) (by decide +kernel)), by decide +kernel⟩, ⟨by decide +kernel, by decide +kernel⟩, by decide +kernel⟩
theorem g_Ring_36 : zGV "RingCipher$Ring" 36 M_Ring_leastRoot 0 := ⟨Or.inl ⟨List.mem_append_right _ (List.mem_of_getElem? (i := 40) (by decide +kernel)), by decide +kernel⟩, ⟨List.mem_append_right _ (List.mem_of_getElem? (i := 42) (by decide +kernel)), by decide +kernel⟩, ⟨List.mem_append_left _ (List.mem_of_getElem? (i := 1) (by decide +kernel)), by decide +kernel⟩, ⟨by decide +kernel, by decide +kernel⟩, by decide +kernel⟩
theorem g_Ring_43 : zGV "RingCipher$Ring" 43 M_Ring_powerModT 2 := ⟨Or.inl ⟨List.mem_append_right _ (List.mem_of_getElem? (i := 44) (by decide +kernel)), by decide +kernel⟩, ⟨List.mem_append_right _ (List.mem_of_getElem? (i := 46) (by decide +kernel)), by decide +kernel⟩, ⟨List.mem_append_left _ (List.mem_of_getElem? (i := 2) (by decide +kernel)), by decide +kernel⟩, ⟨by decide +kernel, by decide +kernel⟩, by decide +kernel⟩
theorem g_Ring_55 : zGS "RingCipher$Ring" 55 M_Math_floorMod_JJ 2 := ⟨Or.inl ⟨List.mem_append_right _ (List.mem_of_getElem? (i := 390) (by decide +kernel)), by decide +kernel⟩, ⟨List.mem_append_right _ (List.mem_of_getElem? (i := 238) (by decide +kernel)), by decide +kernel⟩, ⟨List.mem_append_right _ (List.mem_of_getElem? (i := 14) (by decide +kernel)), by decide +kernel⟩, ⟨by decide +kernel, by decide +kernel⟩, by decide +kernel⟩
theorem g_Ring_66 : zGS "RingCipher$Ring" 66 M_X_centred 1 := ⟨Or.inr ⟨"RingCipher", List.mem_append_right _ (List.mem_of_getElem? (i := 504) (by decide +kernel)), by decide +kernel⟩, ⟨List.mem_append_right _ (List.mem_of_getElem? (i := 505) (by decide +kernel)), by decide +kernel⟩, ⟨List.mem_append_right _ (List.mem_of_getElem? (i := 1) (by decide +kernel)), by decide +kernel⟩, ⟨by decide +kernel, by decide +kernel⟩, by decide +kernel⟩
theorem g_Ring_49 : zGS "RingCipher$Ring" 49 M_Math_floorDiv 2 := ⟨Or.inl ⟨List.mem_append_right _ (List.mem_of_getElem? (i := 540) (by decide +kernel)), by decide +kernel⟩, ⟨List.mem_append_right _ (List.mem_of_getElem? (i := 541) (by decide +kernel)), by decide +kernel⟩, ⟨List.mem_append_right _ (List.mem_of_getElem? (i := 14) (by decide +kernel)), by decide +kernel⟩, ⟨by decide +kernel, by decide +kernel⟩, by decide +kernel⟩
theorem co_Ring_init : zCo M_Ring_init := Or.inl ⟨⟨List.mem_append_right _ (List.mem_of_getElem? (i := 30) (by decide +kernel)), by decide +kernel⟩, rfl⟩
theorem co_Ring_choose : zCo M_Ring_choose := Or.inl ⟨⟨List.mem_append_right _ (List.mem_of_getElem? (i := 35) (by decide +kernel)), by decide +kernel⟩, rfl⟩
theorem co_Ring_leastRoot : zCo M_Ring_leastRoot := Or.inl ⟨⟨List.mem_append_right _ (List.mem_of_getElem? (i := 43) (by decide +kernel)), by decide +kernel⟩, rfl⟩
theorem co_Ring_powerModT : zCo M_Ring_powerModT := Or.inl ⟨⟨List.mem_append_right _ (List.mem_of_getElem? (i := 47) (by decide +kernel)), by decide +kernel⟩, rfl⟩
theorem co_Ring_addProduct : zCo M_Ring_addProduct := Or.inl ⟨⟨List.mem_append_right _ (List.mem_of_getElem? (i := 211) (by decide +kernel)), by decide +kernel⟩, rfl⟩
theorem co_Ring_addScaled : zCo M_Ring_addScaled := Or.inl ⟨⟨List.mem_append_right _ (List.mem_of_getElem? (i := 247) (by decide +kernel)), by decide +kernel⟩, rfl⟩
theorem co_Ring_substitute : zCo M_Ring_substitute := Or.inl ⟨⟨List.mem_append_right _ (List.mem_of_getElem? (i := 388) (by decide +kernel)), by decide +kernel⟩, rfl⟩
theorem co_Ring_evaluate : zCo M_Ring_evaluate := Or.inl ⟨⟨List.mem_append_right _ (List.mem_of_getElem? (i := 447) (by decide +kernel)), by decide +kernel⟩, rfl⟩
theorem co_Ring_interpolate : zCo M_Ring_interpolate := Or.inl ⟨⟨List.mem_append_right _ (List.mem_of_getElem? (i := 451) (by decide +kernel)), by decide +kernel⟩, rfl⟩
theorem co_Ring_scale : zCo M_Ring_scale := Or.inl ⟨⟨List.mem_append_right _ (List.mem_of_getElem? (i := 473) (by decide +kernel)), by decide +kernel⟩, rfl⟩
theorem co_Ring_reduce : zCo M_Ring_reduce := Or.inl ⟨⟨List.mem_append_right _ (List.mem_of_getElem? (i := 486) (by decide +kernel)), by decide +kernel⟩, rfl⟩
theorem co_Ring_copy : zCo M_Ring_copy := Or.inl ⟨⟨List.mem_append_right _ (List.mem_of_getElem? (i := 498) (by decide +kernel)), by decide +kernel⟩, rfl⟩
theorem co_Ring_centre : zCo M_Ring_centre := Or.inl ⟨⟨List.mem_append_right _ (List.mem_of_getElem? (i := 503) (by decide +kernel)), by decide +kernel⟩, rfl⟩
theorem co_Ring_timesTOverQ : zCo M_Ring_timesTOverQ := Or.inl ⟨⟨List.mem_append_right _ (List.mem_of_getElem? (i := 539) (by decide +kernel)), by decide +kernel⟩, rfl⟩
theorem d_Ring_init_0 : decode prog_5_method_1_code 0 = .ok (.aload_n 0, 1) := by decide +kernel
theorem d_Ring_init_1 : decode prog_5_method_1_code 1 = .ok (.invokespecial 3, 3) := by decide +kernel
theorem d_Ring_init_4 : decode prog_5_method_1_code 4 = .ok (.aload_n 0, 1) := by decide +kernel
theorem d_Ring_init_5 : decode prog_5_method_1_code 5 = .ok (.bipush 64, 2) := by decide +kernel
theorem d_Ring_init_7 : decode prog_5_method_1_code 7 = .ok (.newarray .long, 2) := by decide +kernel
theorem d_Ring_init_9 : decode prog_5_method_1_code 9 = .ok (.putfield 9, 3) := by decide +kernel
theorem d_Ring_init_12 : decode prog_5_method_1_code 12 = .ok (.aload_n 0, 1) := by decide +kernel
theorem d_Ring_init_13 : decode prog_5_method_1_code 13 = .ok (.iconst 0, 1) := by decide +kernel
theorem d_Ring_init_14 : decode prog_5_method_1_code 14 = .ok (.invokevirtual 15, 3) := by decide +kernel
theorem d_Ring_init_17 : decode prog_5_method_1_code 17 = .ok (.return_, 1) := by decide +kernel
theorem d_Ring_choose_0 : decode prog_5_method_2_code 0 = .ok (.aload_n 0, 1) := by decide +kernel
theorem d_Ring_choose_1 : decode prog_5_method_2_code 1 = .ok (.iload_n 1, 1) := by decide +kernel
theorem d_Ring_choose_2 : decode prog_5_method_2_code 2 = .ok (.putfield 19, 3) := by decide +kernel
theorem d_Ring_choose_5 : decode prog_5_method_2_code 5 = .ok (.aload_n 0, 1) := by decide +kernel
theorem d_Ring_choose_6 : decode prog_5_method_2_code 6 = .ok (.getstatic 23, 3) := by decide +kernel
theorem d_Ring_choose_9 : decode prog_5_method_2_code 9 = .ok (.iload_n 1, 1) := by decide +kernel
theorem d_Ring_choose_10 : decode prog_5_method_2_code 10 = .ok (.iaload, 1) := by decide +kernel
theorem d_Ring_choose_11 : decode prog_5_method_2_code 11 = .ok (.putfield 27, 3) := by decide +kernel
theorem d_Ring_choose_14 : decode prog_5_method_2_code 14 = .ok (.aload_n 0, 1) := by decide +kernel
theorem d_Ring_choose_15 : decode prog_5_method_2_code 15 = .ok (.getstatic 30, 3) := by decide +kernel
theorem d_Ring_choose_18 : decode prog_5_method_2_code 18 = .ok (.iload_n 1, 1) := by decide +kernel
theorem d_Ring_choose_19 : decode prog_5_method_2_code 19 = .ok (.iaload, 1) := by decide +kernel
theorem d_Ring_choose_20 : decode prog_5_method_2_code 20 = .ok (.putfield 33, 3) := by decide +kernel
theorem d_Ring_choose_23 : decode prog_5_method_2_code 23 = .ok (.aload_n 0, 1) := by decide +kernel
theorem d_Ring_choose_24 : decode prog_5_method_2_code 24 = .ok (.aload_n 0, 1) := by decide +kernel
theorem d_Ring_choose_25 : decode prog_5_method_2_code 25 = .ok (.invokevirtual 36, 3) := by decide +kernel
theorem d_Ring_choose_28 : decode prog_5_method_2_code 28 = .ok (.putfield 40, 3) := by decide +kernel
theorem d_Ring_choose_31 : decode prog_5_method_2_code 31 = .ok (.lconst 1, 1) := by decide +kernel
theorem d_Ring_choose_32 : decode prog_5_method_2_code 32 = .ok (.lstore_n 2, 1) := by decide +kernel
theorem d_Ring_choose_33 : decode prog_5_method_2_code 33 = .ok (.iconst 0, 1) := by decide +kernel
theorem d_Ring_choose_34 : decode prog_5_method_2_code 34 = .ok (.istore 4, 2) := by decide +kernel
theorem d_Ring_choose_36 : decode prog_5_method_2_code 36 = .ok (.iload 4, 2) := by decide +kernel
theorem d_Ring_choose_38 : decode prog_5_method_2_code 38 = .ok (.iconst 2, 1) := by decide +kernel
theorem d_Ring_choose_39 : decode prog_5_method_2_code 39 = .ok (.aload_n 0, 1) := by decide +kernel
theorem d_Ring_choose_40 : decode prog_5_method_2_code 40 = .ok (.getfield 27, 3) := by decide +kernel
theorem d_Ring_choose_43 : decode prog_5_method_2_code 43 = .ok (.imul, 1) := by decide +kernel
theorem d_Ring_choose_44 : decode prog_5_method_2_code 44 = .ok (.if_icmp .ge 31, 3) := by decide +kernel
theorem d_Ring_choose_47 : decode prog_5_method_2_code 47 = .ok (.aload_n 0, 1) := by decide +kernel
theorem d_Ring_choose_48 : decode prog_5_method_2_code 48 = .ok (.getfield 9, 3) := by decide +kernel
theorem d_Ring_choose_51 : decode prog_5_method_2_code 51 = .ok (.iload 4, 2) := by decide +kernel
theorem d_Ring_choose_53 : decode prog_5_method_2_code 53 = .ok (.lload_n 2, 1) := by decide +kernel
theorem d_Ring_choose_54 : decode prog_5_method_2_code 54 = .ok (.lastore, 1) := by decide +kernel
theorem d_Ring_choose_55 : decode prog_5_method_2_code 55 = .ok (.lload_n 2, 1) := by decide +kernel
theorem d_Ring_choose_56 : decode prog_5_method_2_code 56 = .ok (.aload_n 0, 1) := by decide +kernel
theorem d_Ring_choose_57 : decode prog_5_method_2_code 57 = .ok (.getfield 40, 3) := by decide +kernel
theorem d_Ring_choose_60 : decode prog_5_method_2_code 60 = .ok (.i2l, 1) := by decide +kernel
theorem d_Ring_choose_61 : decode prog_5_method_2_code 61 = .ok (.lmul, 1) := by decide +kernel
theorem d_Ring_choose_62 : decode prog_5_method_2_code 62 = .ok (.aload_n 0, 1) := by decide +kernel
theorem d_Ring_choose_63 : decode prog_5_method_2_code 63 = .ok (.getfield 33, 3) := by decide +kernel
theorem d_Ring_choose_66 : decode prog_5_method_2_code 66 = .ok (.i2l, 1) := by decide +kernel
theorem d_Ring_choose_67 : decode prog_5_method_2_code 67 = .ok (.lrem, 1) := by decide +kernel
theorem d_Ring_choose_68 : decode prog_5_method_2_code 68 = .ok (.lstore_n 2, 1) := by decide +kernel
theorem d_Ring_choose_69 : decode prog_5_method_2_code 69 = .ok (.iinc 4 1, 3) := by decide +kernel
theorem d_Ring_choose_72 : decode prog_5_method_2_code 72 = .ok (.goto (-36), 3) := by decide +kernel
theorem d_Ring_choose_75 : decode prog_5_method_2_code 75 = .ok (.return_, 1) := by decide +kernel
theorem d_Ring_leastRoot_0 : decode prog_5_method_3_code 0 = .ok (.iconst 2, 1) := by decide +kernel
theorem d_Ring_leastRoot_1 : decode prog_5_method_3_code 1 = .ok (.istore_n 1, 1) := by decide +kernel
theorem d_Ring_leastRoot_2 : decode prog_5_method_3_code 2 = .ok (.iload_n 1, 1) := by decide +kernel
theorem d_Ring_leastRoot_3 : decode prog_5_method_3_code 3 = .ok (.aload_n 0, 1) := by decide +kernel
theorem d_Ring_leastRoot_4 : decode prog_5_method_3_code 4 = .ok (.getfield 33, 3) := by decide +kernel
theorem d_Ring_leastRoot_7 : decode prog_5_method_3_code 7 = .ok (.if_icmp .ge 30, 3) := by decide +kernel
theorem d_Ring_leastRoot_10 : decode prog_5_method_3_code 10 = .ok (.aload_n 0, 1) := by decide +kernel
theorem d_Ring_leastRoot_11 : decode prog_5_method_3_code 11 = .ok (.iload_n 1, 1) := by decide +kernel
theorem d_Ring_leastRoot_12 : decode prog_5_method_3_code 12 = .ok (.i2l, 1) := by decide +kernel
theorem d_Ring_leastRoot_13 : decode prog_5_method_3_code 13 = .ok (.aload_n 0, 1) := by decide +kernel
theorem d_Ring_leastRoot_14 : decode prog_5_method_3_code 14 = .ok (.getfield 27, 3) := by decide +kernel
theorem d_Ring_leastRoot_17 : decode prog_5_method_3_code 17 = .ok (.invokevirtual 43, 3) := by decide +kernel
theorem d_Ring_leastRoot_20 : decode prog_5_method_3_code 20 = .ok (.aload_n 0, 1) := by decide +kernel
theorem d_Ring_leastRoot_21 : decode prog_5_method_3_code 21 = .ok (.getfield 33, 3) := by decide +kernel
theorem d_Ring_leastRoot_24 : decode prog_5_method_3_code 24 = .ok (.iconst 1, 1) := by decide +kernel
theorem d_Ring_leastRoot_25 : decode prog_5_method_3_code 25 = .ok (.isub, 1) := by decide +kernel
theorem d_Ring_leastRoot_26 : decode prog_5_method_3_code 26 = .ok (.i2l, 1) := by decide +kernel
theorem d_Ring_leastRoot_27 : decode prog_5_method_3_code 27 = .ok (.lcmp, 1) := by decide +kernel
theorem d_Ring_leastRoot_28 : decode prog_5_method_3_code 28 = .ok (.ifCond .eq 9, 3) := by decide +kernel
theorem d_Ring_leastRoot_31 : decode prog_5_method_3_code 31 = .ok (.iinc 1 1, 3) := by decide +kernel
theorem d_Ring_leastRoot_34 : decode prog_5_method_3_code 34 = .ok (.goto (-32), 3) := by decide +kernel
theorem d_Ring_leastRoot_37 : decode prog_5_method_3_code 37 = .ok (.iload_n 1, 1) := by decide +kernel
theorem d_Ring_leastRoot_38 : decode prog_5_method_3_code 38 = .ok (.ireturn, 1) := by decide +kernel
theorem d_Ring_powerModT_0 : decode prog_5_method_4_code 0 = .ok (.lconst 1, 1) := by decide +kernel
theorem d_Ring_powerModT_1 : decode prog_5_method_4_code 1 = .ok (.lstore 4, 2) := by decide +kernel
theorem d_Ring_powerModT_3 : decode prog_5_method_4_code 3 = .ok (.iconst 0, 1) := by decide +kernel
theorem d_Ring_powerModT_4 : decode prog_5_method_4_code 4 = .ok (.istore 6, 2) := by decide +kernel
theorem d_Ring_powerModT_6 : decode prog_5_method_4_code 6 = .ok (.iload 6, 2) := by decide +kernel
theorem d_Ring_powerModT_8 : decode prog_5_method_4_code 8 = .ok (.iload_n 3, 1) := by decide +kernel
theorem d_Ring_powerModT_9 : decode prog_5_method_4_code 9 = .ok (.if_icmp .ge 21, 3) := by decide +kernel
theorem d_Ring_powerModT_12 : decode prog_5_method_4_code 12 = .ok (.lload 4, 2) := by decide +kernel
theorem d_Ring_powerModT_14 : decode prog_5_method_4_code 14 = .ok (.lload_n 1, 1) := by decide +kernel
theorem d_Ring_powerModT_15 : decode prog_5_method_4_code 15 = .ok (.lmul, 1) := by decide +kernel
theorem d_Ring_powerModT_16 : decode prog_5_method_4_code 16 = .ok (.aload_n 0, 1) := by decide +kernel
theorem d_Ring_powerModT_17 : decode prog_5_method_4_code 17 = .ok (.getfield 33, 3) := by decide +kernel
theorem d_Ring_powerModT_20 : decode prog_5_method_4_code 20 = .ok (.i2l, 1) := by decide +kernel
theorem d_Ring_powerModT_21 : decode prog_5_method_4_code 21 = .ok (.lrem, 1) := by decide +kernel
theorem d_Ring_powerModT_22 : decode prog_5_method_4_code 22 = .ok (.lstore 4, 2) := by decide +kernel
theorem d_Ring_powerModT_24 : decode prog_5_method_4_code 24 = .ok (.iinc 6 1, 3) := by decide +kernel
theorem d_Ring_powerModT_27 : decode prog_5_method_4_code 27 = .ok (.goto (-21), 3) := by decide +kernel
theorem d_Ring_powerModT_30 : decode prog_5_method_4_code 30 = .ok (.lload 4, 2) := by decide +kernel
theorem d_Ring_powerModT_32 : decode prog_5_method_4_code 32 = .ok (.lreturn, 1) := by decide +kernel
theorem d_Ring_scale_0 : decode prog_5_method_5_code 0 = .ok (.ldc2_w 47, 3) := by decide +kernel
theorem d_Ring_scale_3 : decode prog_5_method_5_code 3 = .ok (.aload_n 0, 1) := by decide +kernel
theorem d_Ring_scale_4 : decode prog_5_method_5_code 4 = .ok (.getfield 33, 3) := by decide +kernel
theorem d_Ring_scale_7 : decode prog_5_method_5_code 7 = .ok (.i2l, 1) := by decide +kernel
theorem d_Ring_scale_8 : decode prog_5_method_5_code 8 = .ok (.ldiv, 1) := by decide +kernel
theorem d_Ring_scale_9 : decode prog_5_method_5_code 9 = .ok (.lreturn, 1) := by decide +kernel
theorem d_Ring_timesTOverQ_0 : decode prog_5_method_6_code 0 = .ok (.lload_n 1, 1) := by decide +kernel
theorem d_Ring_timesTOverQ_1 : decode prog_5_method_6_code 1 = .ok (.ldc2_w 47, 3) := by decide +kernel
theorem d_Ring_timesTOverQ_4 : decode prog_5_method_6_code 4 = .ok (.invokestatic 49, 3) := by decide +kernel
theorem d_Ring_timesTOverQ_7 : decode prog_5_method_6_code 7 = .ok (.lstore_n 3, 1) := by decide +kernel
theorem d_Ring_timesTOverQ_8 : decode prog_5_method_6_code 8 = .ok (.lload_n 1, 1) := by decide +kernel
theorem d_Ring_timesTOverQ_9 : decode prog_5_method_6_code 9 = .ok (.ldc2_w 47, 3) := by decide +kernel
theorem d_Ring_timesTOverQ_12 : decode prog_5_method_6_code 12 = .ok (.invokestatic 55, 3) := by decide +kernel
theorem d_Ring_timesTOverQ_15 : decode prog_5_method_6_code 15 = .ok (.lstore 5, 2) := by decide +kernel
theorem d_Ring_timesTOverQ_17 : decode prog_5_method_6_code 17 = .ok (.aload_n 0, 1) := by decide +kernel
theorem d_Ring_timesTOverQ_18 : decode prog_5_method_6_code 18 = .ok (.getfield 33, 3) := by decide +kernel
theorem d_Ring_timesTOverQ_21 : decode prog_5_method_6_code 21 = .ok (.i2l, 1) := by decide +kernel
theorem d_Ring_timesTOverQ_22 : decode prog_5_method_6_code 22 = .ok (.lload_n 3, 1) := by decide +kernel
theorem d_Ring_timesTOverQ_23 : decode prog_5_method_6_code 23 = .ok (.lmul, 1) := by decide +kernel
theorem d_Ring_timesTOverQ_24 : decode prog_5_method_6_code 24 = .ok (.iconst 2, 1) := by decide +kernel
theorem d_Ring_timesTOverQ_25 : decode prog_5_method_6_code 25 = .ok (.aload_n 0, 1) := by decide +kernel
theorem d_Ring_timesTOverQ_26 : decode prog_5_method_6_code 26 = .ok (.getfield 33, 3) := by decide +kernel
theorem d_Ring_timesTOverQ_29 : decode prog_5_method_6_code 29 = .ok (.imul, 1) := by decide +kernel
theorem d_Ring_timesTOverQ_30 : decode prog_5_method_6_code 30 = .ok (.i2l, 1) := by decide +kernel
theorem d_Ring_timesTOverQ_31 : decode prog_5_method_6_code 31 = .ok (.lload 5, 2) := by decide +kernel
theorem d_Ring_timesTOverQ_33 : decode prog_5_method_6_code 33 = .ok (.lmul, 1) := by decide +kernel
theorem d_Ring_timesTOverQ_34 : decode prog_5_method_6_code 34 = .ok (.ldc2_w 47, 3) := by decide +kernel
theorem d_Ring_timesTOverQ_37 : decode prog_5_method_6_code 37 = .ok (.ladd, 1) := by decide +kernel
theorem d_Ring_timesTOverQ_38 : decode prog_5_method_6_code 38 = .ok (.ldc2_w 58, 3) := by decide +kernel
theorem d_Ring_timesTOverQ_41 : decode prog_5_method_6_code 41 = .ok (.ldiv, 1) := by decide +kernel
theorem d_Ring_timesTOverQ_42 : decode prog_5_method_6_code 42 = .ok (.ladd, 1) := by decide +kernel
theorem d_Ring_timesTOverQ_43 : decode prog_5_method_6_code 43 = .ok (.lreturn, 1) := by decide +kernel
theorem d_Ring_evaluate_0 : decode prog_5_method_7_code 0 = .ok (.iconst 0, 1) := by decide +kernel
theorem d_Ring_evaluate_1 : decode prog_5_method_7_code 1 = .ok (.istore_n 3, 1) := by decide +kernel
theorem d_Ring_evaluate_2 : decode prog_5_method_7_code 2 = .ok (.iload_n 3, 1) := by decide +kernel
theorem d_Ring_evaluate_3 : decode prog_5_method_7_code 3 = .ok (.aload_n 0, 1) := by decide +kernel
theorem d_Ring_evaluate_4 : decode prog_5_method_7_code 4 = .ok (.getfield 27, 3) := by decide +kernel
theorem d_Ring_evaluate_7 : decode prog_5_method_7_code 7 = .ok (.if_icmp .ge 71, 3) := by decide +kernel
theorem d_Ring_evaluate_10 : decode prog_5_method_7_code 10 = .ok (.lconst 0, 1) := by decide +kernel
theorem d_Ring_evaluate_11 : decode prog_5_method_7_code 11 = .ok (.lstore 4, 2) := by decide +kernel
theorem d_Ring_evaluate_13 : decode prog_5_method_7_code 13 = .ok (.iconst 0, 1) := by decide +kernel
theorem d_Ring_evaluate_14 : decode prog_5_method_7_code 14 = .ok (.istore 6, 2) := by decide +kernel
theorem d_Ring_evaluate_16 : decode prog_5_method_7_code 16 = .ok (.iload 6, 2) := by decide +kernel
theorem d_Ring_evaluate_18 : decode prog_5_method_7_code 18 = .ok (.aload_n 0, 1) := by decide +kernel
theorem d_Ring_evaluate_19 : decode prog_5_method_7_code 19 = .ok (.getfield 27, 3) := by decide +kernel
theorem d_Ring_evaluate_22 : decode prog_5_method_7_code 22 = .ok (.if_icmp .ge 39, 3) := by decide +kernel
theorem d_Ring_evaluate_25 : decode prog_5_method_7_code 25 = .ok (.lload 4, 2) := by decide +kernel
theorem d_Ring_evaluate_27 : decode prog_5_method_7_code 27 = .ok (.aload_n 2, 1) := by decide +kernel
theorem d_Ring_evaluate_28 : decode prog_5_method_7_code 28 = .ok (.iload 6, 2) := by decide +kernel
theorem d_Ring_evaluate_30 : decode prog_5_method_7_code 30 = .ok (.laload, 1) := by decide +kernel
theorem d_Ring_evaluate_31 : decode prog_5_method_7_code 31 = .ok (.aload_n 0, 1) := by decide +kernel
theorem d_Ring_evaluate_32 : decode prog_5_method_7_code 32 = .ok (.getfield 9, 3) := by decide +kernel
theorem d_Ring_evaluate_35 : decode prog_5_method_7_code 35 = .ok (.iconst 2, 1) := by decide +kernel
theorem d_Ring_evaluate_36 : decode prog_5_method_7_code 36 = .ok (.iload_n 3, 1) := by decide +kernel
theorem d_Ring_evaluate_37 : decode prog_5_method_7_code 37 = .ok (.imul, 1) := by decide +kernel
theorem d_Ring_evaluate_38 : decode prog_5_method_7_code 38 = .ok (.iconst 1, 1) := by decide +kernel
theorem d_Ring_evaluate_39 : decode prog_5_method_7_code 39 = .ok (.iadd, 1) := by decide +kernel
theorem d_Ring_evaluate_40 : decode prog_5_method_7_code 40 = .ok (.iload 6, 2) := by decide +kernel
theorem d_Ring_evaluate_42 : decode prog_5_method_7_code 42 = .ok (.imul, 1) := by decide +kernel
theorem d_Ring_evaluate_43 : decode prog_5_method_7_code 43 = .ok (.iconst 2, 1) := by decide +kernel
theorem d_Ring_evaluate_44 : decode prog_5_method_7_code 44 = .ok (.aload_n 0, 1) := by decide +kernel
theorem d_Ring_evaluate_45 : decode prog_5_method_7_code 45 = .ok (.getfield 27, 3) := by decide +kernel
theorem d_Ring_evaluate_48 : decode prog_5_method_7_code 48 = .ok (.imul, 1) := by decide +kernel
theorem d_Ring_evaluate_49 : decode prog_5_method_7_code 49 = .ok (.irem, 1) := by decide +kernel
theorem d_Ring_evaluate_50 : decode prog_5_method_7_code 50 = .ok (.laload, 1) := by decide +kernel
theorem d_Ring_evaluate_51 : decode prog_5_method_7_code 51 = .ok (.lmul, 1) := by decide +kernel
theorem d_Ring_evaluate_52 : decode prog_5_method_7_code 52 = .ok (.ladd, 1) := by decide +kernel
theorem d_Ring_evaluate_53 : decode prog_5_method_7_code 53 = .ok (.lstore 4, 2) := by decide +kernel
theorem d_Ring_evaluate_55 : decode prog_5_method_7_code 55 = .ok (.iinc 6 1, 3) := by decide +kernel
theorem d_Ring_evaluate_58 : decode prog_5_method_7_code 58 = .ok (.goto (-42), 3) := by decide +kernel
theorem d_Ring_evaluate_61 : decode prog_5_method_7_code 61 = .ok (.aload_n 1, 1) := by decide +kernel
theorem d_Ring_evaluate_62 : decode prog_5_method_7_code 62 = .ok (.iload_n 3, 1) := by decide +kernel
theorem d_Ring_evaluate_63 : decode prog_5_method_7_code 63 = .ok (.lload 4, 2) := by decide +kernel
theorem d_Ring_evaluate_65 : decode prog_5_method_7_code 65 = .ok (.aload_n 0, 1) := by decide +kernel
theorem d_Ring_evaluate_66 : decode prog_5_method_7_code 66 = .ok (.getfield 33, 3) := by decide +kernel
theorem d_Ring_evaluate_69 : decode prog_5_method_7_code 69 = .ok (.i2l, 1) := by decide +kernel
theorem d_Ring_evaluate_70 : decode prog_5_method_7_code 70 = .ok (.lrem, 1) := by decide +kernel
theorem d_Ring_evaluate_71 : decode prog_5_method_7_code 71 = .ok (.lastore, 1) := by decide +kernel
theorem d_Ring_evaluate_72 : decode prog_5_method_7_code 72 = .ok (.iinc 3 1, 3) := by decide +kernel
theorem d_Ring_evaluate_75 : decode prog_5_method_7_code 75 = .ok (.goto (-73), 3) := by decide +kernel
theorem d_Ring_evaluate_78 : decode prog_5_method_7_code 78 = .ok (.return_, 1) := by decide +kernel
theorem d_Ring_interpolate_0 : decode prog_5_method_8_code 0 = .ok (.aload_n 0, 1) := by decide +kernel
theorem d_Ring_interpolate_1 : decode prog_5_method_8_code 1 = .ok (.aload_n 0, 1) := by decide +kernel
theorem d_Ring_interpolate_2 : decode prog_5_method_8_code 2 = .ok (.getfield 27, 3) := by decide +kernel
theorem d_Ring_interpolate_5 : decode prog_5_method_8_code 5 = .ok (.i2l, 1) := by decide +kernel
theorem d_Ring_interpolate_6 : decode prog_5_method_8_code 6 = .ok (.aload_n 0, 1) := by decide +kernel
theorem d_Ring_interpolate_7 : decode prog_5_method_8_code 7 = .ok (.getfield 33, 3) := by decide +kernel
theorem d_Ring_interpolate_10 : decode prog_5_method_8_code 10 = .ok (.iconst 2, 1) := by decide +kernel
theorem d_Ring_interpolate_11 : decode prog_5_method_8_code 11 = .ok (.isub, 1) := by decide +kernel
theorem d_Ring_interpolate_12 : decode prog_5_method_8_code 12 = .ok (.invokevirtual 43, 3) := by decide +kernel
theorem d_Ring_interpolate_15 : decode prog_5_method_8_code 15 = .ok (.lstore_n 3, 1) := by decide +kernel
theorem d_Ring_interpolate_16 : decode prog_5_method_8_code 16 = .ok (.iconst 0, 1) := by decide +kernel
theorem d_Ring_interpolate_17 : decode prog_5_method_8_code 17 = .ok (.istore 5, 2) := by decide +kernel
theorem d_Ring_interpolate_19 : decode prog_5_method_8_code 19 = .ok (.iload 5, 2) := by decide +kernel
theorem d_Ring_interpolate_21 : decode prog_5_method_8_code 21 = .ok (.aload_n 0, 1) := by decide +kernel
theorem d_Ring_interpolate_22 : decode prog_5_method_8_code 22 = .ok (.getfield 27, 3) := by decide +kernel
theorem d_Ring_interpolate_25 : decode prog_5_method_8_code 25 = .ok (.if_icmp .ge 90, 3) := by decide +kernel
theorem d_Ring_interpolate_28 : decode prog_5_method_8_code 28 = .ok (.lconst 0, 1) := by decide +kernel
theorem d_Ring_interpolate_29 : decode prog_5_method_8_code 29 = .ok (.lstore 6, 2) := by decide +kernel
theorem d_Ring_interpolate_31 : decode prog_5_method_8_code 31 = .ok (.iconst 0, 1) := by decide +kernel
theorem d_Ring_interpolate_32 : decode prog_5_method_8_code 32 = .ok (.istore 8, 2) := by decide +kernel
theorem d_Ring_interpolate_34 : decode prog_5_method_8_code 34 = .ok (.iload 8, 2) := by decide +kernel
theorem d_Ring_interpolate_36 : decode prog_5_method_8_code 36 = .ok (.aload_n 0, 1) := by decide +kernel
theorem d_Ring_interpolate_37 : decode prog_5_method_8_code 37 = .ok (.getfield 27, 3) := by decide +kernel
theorem d_Ring_interpolate_40 : decode prog_5_method_8_code 40 = .ok (.if_icmp .ge 49, 3) := by decide +kernel
theorem d_Ring_interpolate_43 : decode prog_5_method_8_code 43 = .ok (.lload 6, 2) := by decide +kernel
theorem d_Ring_interpolate_45 : decode prog_5_method_8_code 45 = .ok (.aload_n 2, 1) := by decide +kernel
theorem d_Ring_interpolate_46 : decode prog_5_method_8_code 46 = .ok (.iload 8, 2) := by decide +kernel
theorem d_Ring_interpolate_48 : decode prog_5_method_8_code 48 = .ok (.laload, 1) := by decide +kernel
theorem d_Ring_interpolate_49 : decode prog_5_method_8_code 49 = .ok (.aload_n 0, 1) := by decide +kernel
theorem d_Ring_interpolate_50 : decode prog_5_method_8_code 50 = .ok (.getfield 9, 3) := by decide +kernel
theorem d_Ring_interpolate_53 : decode prog_5_method_8_code 53 = .ok (.iconst 2, 1) := by decide +kernel
theorem d_Ring_interpolate_54 : decode prog_5_method_8_code 54 = .ok (.aload_n 0, 1) := by decide +kernel
theorem d_Ring_interpolate_55 : decode prog_5_method_8_code 55 = .ok (.getfield 27, 3) := by decide +kernel
theorem d_Ring_interpolate_58 : decode prog_5_method_8_code 58 = .ok (.imul, 1) := by decide +kernel
theorem d_Ring_interpolate_59 : decode prog_5_method_8_code 59 = .ok (.iconst 1, 1) := by decide +kernel
theorem d_Ring_interpolate_60 : decode prog_5_method_8_code 60 = .ok (.isub, 1) := by decide +kernel
theorem d_Ring_interpolate_61 : decode prog_5_method_8_code 61 = .ok (.iconst 2, 1) := by decide +kernel
theorem d_Ring_interpolate_62 : decode prog_5_method_8_code 62 = .ok (.iload 8, 2) := by decide +kernel
theorem d_Ring_interpolate_64 : decode prog_5_method_8_code 64 = .ok (.imul, 1) := by decide +kernel
theorem d_Ring_interpolate_65 : decode prog_5_method_8_code 65 = .ok (.iconst 1, 1) := by decide +kernel
theorem d_Ring_interpolate_66 : decode prog_5_method_8_code 66 = .ok (.iadd, 1) := by decide +kernel
theorem d_Ring_interpolate_67 : decode prog_5_method_8_code 67 = .ok (.imul, 1) := by decide +kernel
theorem d_Ring_interpolate_68 : decode prog_5_method_8_code 68 = .ok (.iload 5, 2) := by decide +kernel
theorem d_Ring_interpolate_70 : decode prog_5_method_8_code 70 = .ok (.imul, 1) := by decide +kernel
theorem d_Ring_interpolate_71 : decode prog_5_method_8_code 71 = .ok (.iconst 2, 1) := by decide +kernel
theorem d_Ring_interpolate_72 : decode prog_5_method_8_code 72 = .ok (.aload_n 0, 1) := by decide +kernel
theorem d_Ring_interpolate_73 : decode prog_5_method_8_code 73 = .ok (.getfield 27, 3) := by decide +kernel
theorem d_Ring_interpolate_76 : decode prog_5_method_8_code 76 = .ok (.imul, 1) := by decide +kernel
theorem d_Ring_interpolate_77 : decode prog_5_method_8_code 77 = .ok (.irem, 1) := by decide +kernel
theorem d_Ring_interpolate_78 : decode prog_5_method_8_code 78 = .ok (.laload, 1) := by decide +kernel
theorem d_Ring_interpolate_79 : decode prog_5_method_8_code 79 = .ok (.lmul, 1) := by decide +kernel
theorem d_Ring_interpolate_80 : decode prog_5_method_8_code 80 = .ok (.ladd, 1) := by decide +kernel
theorem d_Ring_interpolate_81 : decode prog_5_method_8_code 81 = .ok (.lstore 6, 2) := by decide +kernel
theorem d_Ring_interpolate_83 : decode prog_5_method_8_code 83 = .ok (.iinc 8 1, 3) := by decide +kernel
theorem d_Ring_interpolate_86 : decode prog_5_method_8_code 86 = .ok (.goto (-52), 3) := by decide +kernel
theorem d_Ring_interpolate_89 : decode prog_5_method_8_code 89 = .ok (.aload_n 1, 1) := by decide +kernel
theorem d_Ring_interpolate_90 : decode prog_5_method_8_code 90 = .ok (.iload 5, 2) := by decide +kernel
theorem d_Ring_interpolate_92 : decode prog_5_method_8_code 92 = .ok (.lload 6, 2) := by decide +kernel
theorem d_Ring_interpolate_94 : decode prog_5_method_8_code 94 = .ok (.aload_n 0, 1) := by decide +kernel
theorem d_Ring_interpolate_95 : decode prog_5_method_8_code 95 = .ok (.getfield 33, 3) := by decide +kernel
theorem d_Ring_interpolate_98 : decode prog_5_method_8_code 98 = .ok (.i2l, 1) := by decide +kernel
theorem d_Ring_interpolate_99 : decode prog_5_method_8_code 99 = .ok (.lrem, 1) := by decide +kernel
theorem d_Ring_interpolate_100 : decode prog_5_method_8_code 100 = .ok (.lload_n 3, 1) := by decide +kernel
theorem d_Ring_interpolate_101 : decode prog_5_method_8_code 101 = .ok (.lmul, 1) := by decide +kernel
theorem d_Ring_interpolate_102 : decode prog_5_method_8_code 102 = .ok (.aload_n 0, 1) := by decide +kernel
theorem d_Ring_interpolate_103 : decode prog_5_method_8_code 103 = .ok (.getfield 33, 3) := by decide +kernel
theorem d_Ring_interpolate_106 : decode prog_5_method_8_code 106 = .ok (.i2l, 1) := by decide +kernel
theorem d_Ring_interpolate_107 : decode prog_5_method_8_code 107 = .ok (.lrem, 1) := by decide +kernel
theorem d_Ring_interpolate_108 : decode prog_5_method_8_code 108 = .ok (.lastore, 1) := by decide +kernel
theorem d_Ring_interpolate_109 : decode prog_5_method_8_code 109 = .ok (.iinc 5 1, 3) := by decide +kernel
theorem d_Ring_interpolate_112 : decode prog_5_method_8_code 112 = .ok (.goto (-93), 3) := by decide +kernel
theorem d_Ring_interpolate_115 : decode prog_5_method_8_code 115 = .ok (.return_, 1) := by decide +kernel
theorem d_Ring_addProduct_0 : decode prog_5_method_9_code 0 = .ok (.iconst 0, 1) := by decide +kernel
theorem d_Ring_addProduct_1 : decode prog_5_method_9_code 1 = .ok (.istore 4, 2) := by decide +kernel
theorem d_Ring_addProduct_3 : decode prog_5_method_9_code 3 = .ok (.iload 4, 2) := by decide +kernel
theorem d_Ring_addProduct_5 : decode prog_5_method_9_code 5 = .ok (.aload_n 0, 1) := by decide +kernel
theorem d_Ring_addProduct_6 : decode prog_5_method_9_code 6 = .ok (.getfield 27, 3) := by decide +kernel
theorem d_Ring_addProduct_9 : decode prog_5_method_9_code 9 = .ok (.if_icmp .ge 99, 3) := by decide +kernel
theorem d_Ring_addProduct_12 : decode prog_5_method_9_code 12 = .ok (.aload_n 2, 1) := by decide +kernel
theorem d_Ring_addProduct_13 : decode prog_5_method_9_code 13 = .ok (.iload 4, 2) := by decide +kernel
theorem d_Ring_addProduct_15 : decode prog_5_method_9_code 15 = .ok (.laload, 1) := by decide +kernel
theorem d_Ring_addProduct_16 : decode prog_5_method_9_code 16 = .ok (.lstore 5, 2) := by decide +kernel
theorem d_Ring_addProduct_18 : decode prog_5_method_9_code 18 = .ok (.iconst 0, 1) := by decide +kernel
theorem d_Ring_addProduct_19 : decode prog_5_method_9_code 19 = .ok (.istore 7, 2) := by decide +kernel
theorem d_Ring_addProduct_21 : decode prog_5_method_9_code 21 = .ok (.iload 7, 2) := by decide +kernel
theorem d_Ring_addProduct_23 : decode prog_5_method_9_code 23 = .ok (.aload_n 0, 1) := by decide +kernel
theorem d_Ring_addProduct_24 : decode prog_5_method_9_code 24 = .ok (.getfield 27, 3) := by decide +kernel
theorem d_Ring_addProduct_27 : decode prog_5_method_9_code 27 = .ok (.iload 4, 2) := by decide +kernel
theorem d_Ring_addProduct_29 : decode prog_5_method_9_code 29 = .ok (.isub, 1) := by decide +kernel
theorem d_Ring_addProduct_30 : decode prog_5_method_9_code 30 = .ok (.if_icmp .ge 26, 3) := by decide +kernel
theorem d_Ring_addProduct_33 : decode prog_5_method_9_code 33 = .ok (.aload_n 1, 1) := by decide +kernel
theorem d_Ring_addProduct_34 : decode prog_5_method_9_code 34 = .ok (.iload 4, 2) := by decide +kernel
theorem d_Ring_addProduct_36 : decode prog_5_method_9_code 36 = .ok (.iload 7, 2) := by decide +kernel
theorem d_Ring_addProduct_38 : decode prog_5_method_9_code 38 = .ok (.iadd, 1) := by decide +kernel
theorem d_Ring_addProduct_39 : decode prog_5_method_9_code 39 = .ok (.dup2, 1) := by decide +kernel
theorem d_Ring_addProduct_40 : decode prog_5_method_9_code 40 = .ok (.laload, 1) := by decide +kernel
theorem d_Ring_addProduct_41 : decode prog_5_method_9_code 41 = .ok (.lload 5, 2) := by decide +kernel
theorem d_Ring_addProduct_43 : decode prog_5_method_9_code 43 = .ok (.aload_n 3, 1) := by decide +kernel
theorem d_Ring_addProduct_44 : decode prog_5_method_9_code 44 = .ok (.iload 7, 2) := by decide +kernel
theorem d_Ring_addProduct_46 : decode prog_5_method_9_code 46 = .ok (.laload, 1) := by decide +kernel
theorem d_Ring_addProduct_47 : decode prog_5_method_9_code 47 = .ok (.lmul, 1) := by decide +kernel
theorem d_Ring_addProduct_48 : decode prog_5_method_9_code 48 = .ok (.ladd, 1) := by decide +kernel
theorem d_Ring_addProduct_49 : decode prog_5_method_9_code 49 = .ok (.lastore, 1) := by decide +kernel
theorem d_Ring_addProduct_50 : decode prog_5_method_9_code 50 = .ok (.iinc 7 1, 3) := by decide +kernel
theorem d_Ring_addProduct_53 : decode prog_5_method_9_code 53 = .ok (.goto (-32), 3) := by decide +kernel
theorem d_Ring_addProduct_56 : decode prog_5_method_9_code 56 = .ok (.aload_n 0, 1) := by decide +kernel
theorem d_Ring_addProduct_57 : decode prog_5_method_9_code 57 = .ok (.getfield 27, 3) := by decide +kernel
theorem d_Ring_addProduct_60 : decode prog_5_method_9_code 60 = .ok (.iload 4, 2) := by decide +kernel
theorem d_Ring_addProduct_62 : decode prog_5_method_9_code 62 = .ok (.isub, 1) := by decide +kernel
theorem d_Ring_addProduct_63 : decode prog_5_method_9_code 63 = .ok (.istore 7, 2) := by decide +kernel
theorem d_Ring_addProduct_65 : decode prog_5_method_9_code 65 = .ok (.iload 7, 2) := by decide +kernel
theorem d_Ring_addProduct_67 : decode prog_5_method_9_code 67 = .ok (.aload_n 0, 1) := by decide +kernel
theorem d_Ring_addProduct_68 : decode prog_5_method_9_code 68 = .ok (.getfield 27, 3) := by decide +kernel
theorem d_Ring_addProduct_71 : decode prog_5_method_9_code 71 = .ok (.if_icmp .ge 31, 3) := by decide +kernel
theorem d_Ring_addProduct_74 : decode prog_5_method_9_code 74 = .ok (.aload_n 1, 1) := by decide +kernel
theorem d_Ring_addProduct_75 : decode prog_5_method_9_code 75 = .ok (.iload 4, 2) := by decide +kernel
theorem d_Ring_addProduct_77 : decode prog_5_method_9_code 77 = .ok (.iload 7, 2) := by decide +kernel
theorem d_Ring_addProduct_79 : decode prog_5_method_9_code 79 = .ok (.iadd, 1) := by decide +kernel
theorem d_Ring_addProduct_80 : decode prog_5_method_9_code 80 = .ok (.aload_n 0, 1) := by decide +kernel
theorem d_Ring_addProduct_81 : decode prog_5_method_9_code 81 = .ok (.getfield 27, 3) := by decide +kernel
theorem d_Ring_addProduct_84 : decode prog_5_method_9_code 84 = .ok (.isub, 1) := by decide +kernel
theorem d_Ring_addProduct_85 : decode prog_5_method_9_code 85 = .ok (.dup2, 1) := by decide +kernel
theorem d_Ring_addProduct_86 : decode prog_5_method_9_code 86 = .ok (.laload, 1) := by decide +kernel
theorem d_Ring_addProduct_87 : decode prog_5_method_9_code 87 = .ok (.lload 5, 2) := by decide +kernel
theorem d_Ring_addProduct_89 : decode prog_5_method_9_code 89 = .ok (.aload_n 3, 1) := by decide +kernel
theorem d_Ring_addProduct_90 : decode prog_5_method_9_code 90 = .ok (.iload 7, 2) := by decide +kernel
theorem d_Ring_addProduct_92 : decode prog_5_method_9_code 92 = .ok (.laload, 1) := by decide +kernel
theorem d_Ring_addProduct_93 : decode prog_5_method_9_code 93 = .ok (.lmul, 1) := by decide +kernel
theorem d_Ring_addProduct_94 : decode prog_5_method_9_code 94 = .ok (.lsub, 1) := by decide +kernel
theorem d_Ring_addProduct_95 : decode prog_5_method_9_code 95 = .ok (.lastore, 1) := by decide +kernel
theorem d_Ring_addProduct_96 : decode prog_5_method_9_code 96 = .ok (.iinc 7 1, 3) := by decide +kernel
theorem d_Ring_addProduct_99 : decode prog_5_method_9_code 99 = .ok (.goto (-34), 3) := by decide +kernel
theorem d_Ring_addProduct_102 : decode prog_5_method_9_code 102 = .ok (.iinc 4 1, 3) := by decide +kernel
theorem d_Ring_addProduct_105 : decode prog_5_method_9_code 105 = .ok (.goto (-102), 3) := by decide +kernel
theorem d_Ring_addProduct_108 : decode prog_5_method_9_code 108 = .ok (.return_, 1) := by decide +kernel
theorem d_Ring_addScaled_0 : decode prog_5_method_10_code 0 = .ok (.iconst 0, 1) := by decide +kernel
theorem d_Ring_addScaled_1 : decode prog_5_method_10_code 1 = .ok (.istore 5, 2) := by decide +kernel
theorem d_Ring_addScaled_3 : decode prog_5_method_10_code 3 = .ok (.iload 5, 2) := by decide +kernel
theorem d_Ring_addScaled_5 : decode prog_5_method_10_code 5 = .ok (.aload_n 0, 1) := by decide +kernel
theorem d_Ring_addScaled_6 : decode prog_5_method_10_code 6 = .ok (.getfield 27, 3) := by decide +kernel
theorem d_Ring_addScaled_9 : decode prog_5_method_10_code 9 = .ok (.if_icmp .ge 22, 3) := by decide +kernel
theorem d_Ring_addScaled_12 : decode prog_5_method_10_code 12 = .ok (.aload_n 1, 1) := by decide +kernel
theorem d_Ring_addScaled_13 : decode prog_5_method_10_code 13 = .ok (.iload 5, 2) := by decide +kernel
theorem d_Ring_addScaled_15 : decode prog_5_method_10_code 15 = .ok (.dup2, 1) := by decide +kernel
theorem d_Ring_addScaled_16 : decode prog_5_method_10_code 16 = .ok (.laload, 1) := by decide +kernel
theorem d_Ring_addScaled_17 : decode prog_5_method_10_code 17 = .ok (.lload_n 3, 1) := by decide +kernel
theorem d_Ring_addScaled_18 : decode prog_5_method_10_code 18 = .ok (.aload_n 2, 1) := by decide +kernel
theorem d_Ring_addScaled_19 : decode prog_5_method_10_code 19 = .ok (.iload 5, 2) := by decide +kernel
theorem d_Ring_addScaled_21 : decode prog_5_method_10_code 21 = .ok (.laload, 1) := by decide +kernel
theorem d_Ring_addScaled_22 : decode prog_5_method_10_code 22 = .ok (.lmul, 1) := by decide +kernel
theorem d_Ring_addScaled_23 : decode prog_5_method_10_code 23 = .ok (.ladd, 1) := by decide +kernel
theorem d_Ring_addScaled_24 : decode prog_5_method_10_code 24 = .ok (.lastore, 1) := by decide +kernel
theorem d_Ring_addScaled_25 : decode prog_5_method_10_code 25 = .ok (.iinc 5 1, 3) := by decide +kernel
theorem d_Ring_addScaled_28 : decode prog_5_method_10_code 28 = .ok (.goto (-25), 3) := by decide +kernel
theorem d_Ring_addScaled_31 : decode prog_5_method_10_code 31 = .ok (.return_, 1) := by decide +kernel
theorem d_Ring_copy_0 : decode prog_5_method_11_code 0 = .ok (.aload_n 2, 1) := by decide +kernel
theorem d_Ring_copy_1 : decode prog_5_method_11_code 1 = .ok (.iconst 0, 1) := by decide +kernel
theorem d_Ring_copy_2 : decode prog_5_method_11_code 2 = .ok (.aload_n 1, 1) := by decide +kernel
theorem d_Ring_copy_3 : decode prog_5_method_11_code 3 = .ok (.iconst 0, 1) := by decide +kernel
theorem d_Ring_copy_4 : decode prog_5_method_11_code 4 = .ok (.aload_n 0, 1) := by decide +kernel
theorem d_Ring_copy_5 : decode prog_5_method_11_code 5 = .ok (.getfield 27, 3) := by decide +kernel
theorem d_Ring_copy_8 : decode prog_5_method_11_code 8 = .ok (.invokestatic 60, 3) := by decide +kernel
theorem d_Ring_copy_11 : decode prog_5_method_11_code 11 = .ok (.return_, 1) := by decide +kernel
theorem d_Ring_reduce_0 : decode prog_5_method_12_code 0 = .ok (.iconst 0, 1) := by decide +kernel
theorem d_Ring_reduce_1 : decode prog_5_method_12_code 1 = .ok (.istore_n 3, 1) := by decide +kernel
theorem d_Ring_reduce_2 : decode prog_5_method_12_code 2 = .ok (.iload_n 3, 1) := by decide +kernel
theorem d_Ring_reduce_3 : decode prog_5_method_12_code 3 = .ok (.aload_n 0, 1) := by decide +kernel
theorem d_Ring_reduce_4 : decode prog_5_method_12_code 4 = .ok (.getfield 27, 3) := by decide +kernel
theorem d_Ring_reduce_7 : decode prog_5_method_12_code 7 = .ok (.if_icmp .ge 21, 3) := by decide +kernel
theorem d_Ring_reduce_10 : decode prog_5_method_12_code 10 = .ok (.aload_n 1, 1) := by decide +kernel
theorem d_Ring_reduce_11 : decode prog_5_method_12_code 11 = .ok (.iload_n 3, 1) := by decide +kernel
theorem d_Ring_reduce_12 : decode prog_5_method_12_code 12 = .ok (.aload_n 2, 1) := by decide +kernel
theorem d_Ring_reduce_13 : decode prog_5_method_12_code 13 = .ok (.iload_n 3, 1) := by decide +kernel
theorem d_Ring_reduce_14 : decode prog_5_method_12_code 14 = .ok (.laload, 1) := by decide +kernel
theorem d_Ring_reduce_15 : decode prog_5_method_12_code 15 = .ok (.ldc2_w 47, 3) := by decide +kernel
theorem d_Ring_reduce_18 : decode prog_5_method_12_code 18 = .ok (.invokestatic 55, 3) := by decide +kernel
theorem d_Ring_reduce_21 : decode prog_5_method_12_code 21 = .ok (.lastore, 1) := by decide +kernel
theorem d_Ring_reduce_22 : decode prog_5_method_12_code 22 = .ok (.iinc 3 1, 3) := by decide +kernel
theorem d_Ring_reduce_25 : decode prog_5_method_12_code 25 = .ok (.goto (-23), 3) := by decide +kernel
theorem d_Ring_reduce_28 : decode prog_5_method_12_code 28 = .ok (.return_, 1) := by decide +kernel
theorem d_Ring_centre_0 : decode prog_5_method_13_code 0 = .ok (.iconst 0, 1) := by decide +kernel
theorem d_Ring_centre_1 : decode prog_5_method_13_code 1 = .ok (.istore_n 3, 1) := by decide +kernel
theorem d_Ring_centre_2 : decode prog_5_method_13_code 2 = .ok (.iload_n 3, 1) := by decide +kernel
theorem d_Ring_centre_3 : decode prog_5_method_13_code 3 = .ok (.aload_n 0, 1) := by decide +kernel
theorem d_Ring_centre_4 : decode prog_5_method_13_code 4 = .ok (.getfield 27, 3) := by decide +kernel
theorem d_Ring_centre_7 : decode prog_5_method_13_code 7 = .ok (.if_icmp .ge 18, 3) := by decide +kernel
theorem d_Ring_centre_10 : decode prog_5_method_13_code 10 = .ok (.aload_n 1, 1) := by decide +kernel
theorem d_Ring_centre_11 : decode prog_5_method_13_code 11 = .ok (.iload_n 3, 1) := by decide +kernel
theorem d_Ring_centre_12 : decode prog_5_method_13_code 12 = .ok (.aload_n 2, 1) := by decide +kernel
theorem d_Ring_centre_13 : decode prog_5_method_13_code 13 = .ok (.iload_n 3, 1) := by decide +kernel
theorem d_Ring_centre_14 : decode prog_5_method_13_code 14 = .ok (.laload, 1) := by decide +kernel
theorem d_Ring_centre_15 : decode prog_5_method_13_code 15 = .ok (.invokestatic 66, 3) := by decide +kernel
theorem d_Ring_centre_18 : decode prog_5_method_13_code 18 = .ok (.lastore, 1) := by decide +kernel
theorem d_Ring_centre_19 : decode prog_5_method_13_code 19 = .ok (.iinc 3 1, 3) := by decide +kernel
theorem d_Ring_centre_22 : decode prog_5_method_13_code 22 = .ok (.goto (-20), 3) := by decide +kernel
theorem d_Ring_centre_25 : decode prog_5_method_13_code 25 = .ok (.return_, 1) := by decide +kernel
theorem d_Ring_substitute_0 : decode prog_5_method_14_code 0 = .ok (.iconst 0, 1) := by decide +kernel
theorem d_Ring_substitute_1 : decode prog_5_method_14_code 1 = .ok (.istore 4, 2) := by decide +kernel
theorem d_Ring_substitute_3 : decode prog_5_method_14_code 3 = .ok (.iload 4, 2) := by decide +kernel
theorem d_Ring_substitute_5 : decode prog_5_method_14_code 5 = .ok (.aload_n 0, 1) := by decide +kernel
theorem d_Ring_substitute_6 : decode prog_5_method_14_code 6 = .ok (.getfield 27, 3) := by decide +kernel
theorem d_Ring_substitute_9 : decode prog_5_method_14_code 9 = .ok (.if_icmp .ge 68, 3) := by decide +kernel
theorem d_Ring_substitute_12 : decode prog_5_method_14_code 12 = .ok (.iload_n 3, 1) := by decide +kernel
theorem d_Ring_substitute_13 : decode prog_5_method_14_code 13 = .ok (.iload 4, 2) := by decide +kernel
theorem d_Ring_substitute_15 : decode prog_5_method_14_code 15 = .ok (.imul, 1) := by decide +kernel
theorem d_Ring_substitute_16 : decode prog_5_method_14_code 16 = .ok (.iconst 2, 1) := by decide +kernel
theorem d_Ring_substitute_17 : decode prog_5_method_14_code 17 = .ok (.aload_n 0, 1) := by decide +kernel
theorem d_Ring_substitute_18 : decode prog_5_method_14_code 18 = .ok (.getfield 27, 3) := by decide +kernel
theorem d_Ring_substitute_21 : decode prog_5_method_14_code 21 = .ok (.imul, 1) := by decide +kernel
theorem d_Ring_substitute_22 : decode prog_5_method_14_code 22 = .ok (.irem, 1) := by decide +kernel
theorem d_Ring_substitute_23 : decode prog_5_method_14_code 23 = .ok (.istore 5, 2) := by decide +kernel
theorem d_Ring_substitute_25 : decode prog_5_method_14_code 25 = .ok (.iload 5, 2) := by decide +kernel
theorem d_Ring_substitute_27 : decode prog_5_method_14_code 27 = .ok (.aload_n 0, 1) := by decide +kernel
theorem d_Ring_substitute_28 : decode prog_5_method_14_code 28 = .ok (.getfield 27, 3) := by decide +kernel
theorem d_Ring_substitute_31 : decode prog_5_method_14_code 31 = .ok (.if_icmp .ge 20, 3) := by decide +kernel
theorem d_Ring_substitute_34 : decode prog_5_method_14_code 34 = .ok (.aload_n 1, 1) := by decide +kernel
theorem d_Ring_substitute_35 : decode prog_5_method_14_code 35 = .ok (.iload 5, 2) := by decide +kernel
theorem d_Ring_substitute_37 : decode prog_5_method_14_code 37 = .ok (.aload_n 2, 1) := by decide +kernel
theorem d_Ring_substitute_38 : decode prog_5_method_14_code 38 = .ok (.iload 4, 2) := by decide +kernel
theorem d_Ring_substitute_40 : decode prog_5_method_14_code 40 = .ok (.laload, 1) := by decide +kernel
theorem d_Ring_substitute_41 : decode prog_5_method_14_code 41 = .ok (.ldc2_w 47, 3) := by decide +kernel
theorem d_Ring_substitute_44 : decode prog_5_method_14_code 44 = .ok (.invokestatic 55, 3) := by decide +kernel
theorem d_Ring_substitute_47 : decode prog_5_method_14_code 47 = .ok (.lastore, 1) := by decide +kernel
theorem d_Ring_substitute_48 : decode prog_5_method_14_code 48 = .ok (.goto 23, 3) := by decide +kernel
theorem d_Ring_substitute_51 : decode prog_5_method_14_code 51 = .ok (.aload_n 1, 1) := by decide +kernel
theorem d_Ring_substitute_52 : decode prog_5_method_14_code 52 = .ok (.iload 5, 2) := by decide +kernel
theorem d_Ring_substitute_54 : decode prog_5_method_14_code 54 = .ok (.aload_n 0, 1) := by decide +kernel
theorem d_Ring_substitute_55 : decode prog_5_method_14_code 55 = .ok (.getfield 27, 3) := by decide +kernel
theorem d_Ring_substitute_58 : decode prog_5_method_14_code 58 = .ok (.isub, 1) := by decide +kernel
theorem d_Ring_substitute_59 : decode prog_5_method_14_code 59 = .ok (.aload_n 2, 1) := by decide +kernel
theorem d_Ring_substitute_60 : decode prog_5_method_14_code 60 = .ok (.iload 4, 2) := by decide +kernel
theorem d_Ring_substitute_62 : decode prog_5_method_14_code 62 = .ok (.laload, 1) := by decide +kernel
theorem d_Ring_substitute_63 : decode prog_5_method_14_code 63 = .ok (.lneg, 1) := by decide +kernel
theorem d_Ring_substitute_64 : decode prog_5_method_14_code 64 = .ok (.ldc2_w 47, 3) := by decide +kernel
theorem d_Ring_substitute_67 : decode prog_5_method_14_code 67 = .ok (.invokestatic 55, 3) := by decide +kernel
theorem d_Ring_substitute_70 : decode prog_5_method_14_code 70 = .ok (.lastore, 1) := by decide +kernel
theorem d_Ring_substitute_71 : decode prog_5_method_14_code 71 = .ok (.iinc 4 1, 3) := by decide +kernel
theorem d_Ring_substitute_74 : decode prog_5_method_14_code 74 = .ok (.goto (-71), 3) := by decide +kernel
theorem d_Ring_substitute_77 : decode prog_5_method_14_code 77 = .ok (.return_, 1) := by decide +kernel

