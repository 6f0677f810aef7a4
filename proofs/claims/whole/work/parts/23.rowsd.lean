theorem ff_Ref_69 : zFF "RingCipherModel" 69 cRef 0 := ⟨R_Ref, F_Ref, 24, t_Ref, rfl, by decide, i_Ref, t_Ref_ok, n_Ref, Or.inl ⟨List.mem_append_right _ (List.mem_of_getElem? (i := 631) (by decide +kernel)), by decide +kernel⟩⟩
theorem ff_Ref_104 : zFF "RingCipherModel" 104 cRef 1 := ⟨R_Ref, F_Ref, 24, t_Ref, rfl, by decide, i_Ref, t_Ref_ok, n_Ref, Or.inl ⟨List.mem_append_right _ (List.mem_of_getElem? (i := 632) (by decide +kernel)), by decide +kernel⟩⟩
theorem ff_Ref_7 : zFF "RingCipherModel" 7 cRef 2 := ⟨R_Ref, F_Ref, 24, t_Ref, rfl, by decide, i_Ref, t_Ref_ok, n_Ref, Or.inl ⟨List.mem_append_right _ (List.mem_of_getElem? (i := 633) (by decide +kernel)), by decide +kernel⟩⟩
theorem ff_Ref_13 : zFF "RingCipherModel" 13 cRef 3 := ⟨R_Ref, F_Ref, 24, t_Ref, rfl, by decide, i_Ref, t_Ref_ok, n_Ref, Or.inl ⟨List.mem_append_right _ (List.mem_of_getElem? (i := 634) (by decide +kernel)), by decide +kernel⟩⟩
theorem ff_Ref_111 : zFF "RingCipherModel" 111 cRef 4 := ⟨R_Ref, F_Ref, 24, t_Ref, rfl, by decide, i_Ref, t_Ref_ok, n_Ref, Or.inl ⟨List.mem_append_right _ (List.mem_of_getElem? (i := 635) (by decide +kernel)), by decide +kernel⟩⟩
theorem ff_Ref_81 : zFF "RingCipherModel" 81 cRef 5 := ⟨R_Ref, F_Ref, 24, t_Ref, rfl, by decide, i_Ref, t_Ref_ok, n_Ref, Or.inl ⟨List.mem_append_right _ (List.mem_of_getElem? (i := 636) (by decide +kernel)), by decide +kernel⟩⟩
theorem ff_Ref_107 : zFF "RingCipherModel" 107 cRef 6 := ⟨R_Ref, F_Ref, 24, t_Ref, rfl, by decide, i_Ref, t_Ref_ok, n_Ref, Or.inl ⟨List.mem_append_right _ (List.mem_of_getElem? (i := 637) (by decide +kernel)), by decide +kernel⟩⟩
theorem ff_Ref_16 : zFF "RingCipherModel" 16 cRef 7 := ⟨R_Ref, F_Ref, 24, t_Ref, rfl, by decide, i_Ref, t_Ref_ok, n_Ref, Or.inl ⟨List.mem_append_right _ (List.mem_of_getElem? (i := 638) (by decide +kernel)), by decide +kernel⟩⟩
theorem ff_Ref_20 : zFF "RingCipherModel" 20 cRef 8 := ⟨R_Ref, F_Ref, 24, t_Ref, rfl, by decide, i_Ref, t_Ref_ok, n_Ref, Or.inl ⟨List.mem_append_right _ (List.mem_of_getElem? (i := 639) (by decide +kernel)), by decide +kernel⟩⟩
theorem ff_Ref_23 : zFF "RingCipherModel" 23 cRef 9 := ⟨R_Ref, F_Ref, 24, t_Ref, rfl, by decide, i_Ref, t_Ref_ok, n_Ref, Or.inl ⟨List.mem_append_right _ (List.mem_of_getElem? (i := 640) (by decide +kernel)), by decide +kernel⟩⟩
theorem ff_Ref_26 : zFF "RingCipherModel" 26 cRef 10 := ⟨R_Ref, F_Ref, 24, t_Ref, rfl, by decide, i_Ref, t_Ref_ok, n_Ref, Or.inl ⟨List.mem_append_right _ (List.mem_of_getElem? (i := 641) (by decide +kernel)), by decide +kernel⟩⟩
theorem ff_Ref_29 : zFF "RingCipherModel" 29 cRef 11 := ⟨R_Ref, F_Ref, 24, t_Ref, rfl, by decide, i_Ref, t_Ref_ok, n_Ref, Or.inl ⟨List.mem_append_right _ (List.mem_of_getElem? (i := 642) (by decide +kernel)), by decide +kernel⟩⟩
theorem ff_Ref_32 : zFF "RingCipherModel" 32 cRef 12 := ⟨R_Ref, F_Ref, 24, t_Ref, rfl, by decide, i_Ref, t_Ref_ok, n_Ref, Or.inl ⟨List.mem_append_right _ (List.mem_of_getElem? (i := 643) (by decide +kernel)), by decide +kernel⟩⟩
theorem ff_Ref_36 : zFF "RingCipherModel" 36 cRef 13 := ⟨R_Ref, F_Ref, 24, t_Ref, rfl, by decide, i_Ref, t_Ref_ok, n_Ref, Or.inl ⟨List.mem_append_right _ (List.mem_of_getElem? (i := 644) (by decide +kernel)), by decide +kernel⟩⟩
theorem ff_Ref_39 : zFF "RingCipherModel" 39 cRef 14 := ⟨R_Ref, F_Ref, 24, t_Ref, rfl, by decide, i_Ref, t_Ref_ok, n_Ref, Or.inl ⟨List.mem_append_right _ (List.mem_of_getElem? (i := 645) (by decide +kernel)), by decide +kernel⟩⟩
theorem ff_Ref_42 : zFF "RingCipherModel" 42 cRef 15 := ⟨R_Ref, F_Ref, 24, t_Ref, rfl, by decide, i_Ref, t_Ref_ok, n_Ref, Or.inl ⟨List.mem_append_right _ (List.mem_of_getElem? (i := 646) (by decide +kernel)), by decide +kernel⟩⟩
theorem ff_Ref_45 : zFF "RingCipherModel" 45 cRef 16 := ⟨R_Ref, F_Ref, 24, t_Ref, rfl, by decide, i_Ref, t_Ref_ok, n_Ref, Or.inl ⟨List.mem_append_right _ (List.mem_of_getElem? (i := 647) (by decide +kernel)), by decide +kernel⟩⟩
theorem ff_Ref_48 : zFF "RingCipherModel" 48 cRef 17 := ⟨R_Ref, F_Ref, 24, t_Ref, rfl, by decide, i_Ref, t_Ref_ok, n_Ref, Or.inl ⟨List.mem_append_right _ (List.mem_of_getElem? (i := 648) (by decide +kernel)), by decide +kernel⟩⟩
theorem ff_Ref_51 : zFF "RingCipherModel" 51 cRef 18 := ⟨R_Ref, F_Ref, 24, t_Ref, rfl, by decide, i_Ref, t_Ref_ok, n_Ref, Or.inl ⟨List.mem_append_right _ (List.mem_of_getElem? (i := 649) (by decide +kernel)), by decide +kernel⟩⟩
theorem ff_Ref_54 : zFF "RingCipherModel" 54 cRef 19 := ⟨R_Ref, F_Ref, 24, t_Ref, rfl, by decide, i_Ref, t_Ref_ok, n_Ref, Or.inl ⟨List.mem_append_right _ (List.mem_of_getElem? (i := 650) (by decide +kernel)), by decide +kernel⟩⟩
theorem ff_Ref_57 : zFF "RingCipherModel" 57 cRef 20 := ⟨R_Ref, F_Ref, 24, t_Ref, rfl, by decide, i_Ref, t_Ref_ok, n_Ref, Or.inl ⟨List.mem_append_right _ (List.mem_of_getElem? (i := 651) (by decide +kernel)), by decide +kernel⟩⟩
theorem ff_Ref_60 : zFF "RingCipherModel" 60 cRef 21 := ⟨R_Ref, F_Ref, 24, t_Ref, rfl, by decide, i_Ref, t_Ref_ok, n_Ref, Or.inl ⟨List.mem_append_right _ (List.mem_of_getElem? (i := 652) (by decide +kernel)), by decide +kernel⟩⟩
theorem ff_Ref_63 : zFF "RingCipherModel" 63 cRef 22 := ⟨R_Ref, F_Ref, 24, t_Ref, rfl, by decide, i_Ref, t_Ref_ok, n_Ref, Or.inl ⟨List.mem_append_right _ (List.mem_of_getElem? (i := 653) (by decide +kernel)), by decide +kernel⟩⟩
theorem ff_Ref_66 : zFF "RingCipherModel" 66 cRef 23 := ⟨R_Ref, F_Ref, 24, t_Ref, rfl, by decide, i_Ref, t_Ref_ok, n_Ref, Or.inl ⟨List.mem_append_right _ (List.mem_of_getElem? (i := 654) (by decide +kernel)), by decide +kernel⟩⟩
theorem k_Ref_80 : zin (.constant "RingCipherModel" 80 (1664525)) := ⟨List.mem_append_right _ (List.mem_of_getElem? (i := 729) (by decide +kernel)), by decide +kernel⟩
theorem k_Ref_84 : zin (.constant "RingCipherModel" 84 (1013904223)) := ⟨List.mem_append_right _ (List.mem_of_getElem? (i := 730) (by decide +kernel)), by decide +kernel⟩
theorem k_Ref_89 : zin (.constantLong "RingCipherModel" 89 (Int64.ofInt 65536)) := ⟨List.mem_append_right _ (List.mem_of_getElem? (i := 735) (by decide +kernel)), by decide +kernel⟩
theorem k_Ref_72 : zin (.constantLong "RingCipherModel" 72 (Int64.ofInt 268435399)) := ⟨List.mem_append_right _ (List.mem_of_getElem? (i := 736) (by decide +kernel)), by decide +kernel⟩
theorem k_Ref_102 : zin (.constantLong "RingCipherModel" 102 (Int64.ofInt 32)) := ⟨List.mem_append_right _ (List.mem_of_getElem? (i := 756) (by decide +kernel)), by decide +kernel⟩
theorem k_Ref_78 : zin (.constantLong "RingCipherModel" 78 (Int64.ofInt 134217699)) := ⟨List.mem_append_right _ (List.mem_of_getElem? (i := 826) (by decide +kernel)), by decide +kernel⟩
theorem k_Ref_178 : zin (.constantLong "RingCipherModel" 178 (Int64.ofInt 536870798)) := ⟨List.mem_append_right _ (List.mem_of_getElem? (i := 840) (by decide +kernel)), by decide +kernel⟩
theorem k_Ref_190 : zin (.constantLong "RingCipherModel" 190 (Int64.ofInt 31)) := ⟨List.mem_append_right _ (List.mem_of_getElem? (i := 862) (by decide +kernel)), by decide +kernel⟩
theorem g_Ref_114 : zGV "RingCipherModel" 114 M_Ref_empty_ 0 := ⟨Or.inl ⟨List.mem_append_right _ (List.mem_of_getElem? (i := 713) (by decide +kernel)), by decide +kernel⟩, ⟨List.mem_append_right _ (List.mem_of_getElem? (i := 715) (by decide +kernel)), by decide +kernel⟩, ⟨List.mem_append_left _ (List.mem_of_getElem? (i := 43) (by decide +kernel)), by decide +kernel⟩, ⟨by decide +kernel, by decide +kernel⟩, by decide +kernel⟩
theorem g_Ref_117 : zGV "RingCipherModel" 117 M_Ref_ternary 1 := ⟨Or.inl ⟨List.mem_append_right _ (List.mem_of_getElem? (i := 721) (by decide +kernel)), by decide +kernel⟩, ⟨List.mem_append_right _ (List.mem_of_getElem? (i := 723) (by decide +kernel)), by decide +kernel⟩, ⟨List.mem_append_left _ (List.mem_of_getElem? (i := 44) (by decide +kernel)), by decide +kernel⟩, ⟨by decide +kernel, by decide +kernel⟩, by decide +kernel⟩
theorem g_Ref_85 : zGV "RingCipherModel" 85 M_Ref_draw 0 := ⟨Or.inl ⟨List.mem_append_right _ (List.mem_of_getElem? (i := 725) (by decide +kernel)), by decide +kernel⟩, ⟨List.mem_append_right _ (List.mem_of_getElem? (i := 727) (by decide +kernel)), by decide +kernel⟩, ⟨List.mem_append_left _ (List.mem_of_getElem? (i := 45) (by decide +kernel)), by decide +kernel⟩, ⟨by decide +kernel, by decide +kernel⟩, by decide +kernel⟩
theorem g_Ref_91 : zGV "RingCipherModel" 91 M_Ref_uniform 1 := ⟨Or.inl ⟨List.mem_append_right _ (List.mem_of_getElem? (i := 731) (by decide +kernel)), by decide +kernel⟩, ⟨List.mem_append_right _ (List.mem_of_getElem? (i := 733) (by decide +kernel)), by decide +kernel⟩, ⟨List.mem_append_left _ (List.mem_of_getElem? (i := 46) (by decide +kernel)), by decide +kernel⟩, ⟨by decide +kernel, by decide +kernel⟩, by decide +kernel⟩
theorem g_Ref_95 : zGV "RingCipherModel" 95 M_Ref_error 1 := ⟨Or.inl ⟨List.mem_append_right _ (List.mem_of_getElem? (i := 737) (by decide +kernel)), by decide +kernel⟩, ⟨List.mem_append_right _ (List.mem_of_getElem? (i := 739) (by decide +kernel)), by decide +kernel⟩, ⟨List.mem_append_left _ (List.mem_of_getElem? (i := 47) (by decide +kernel)), by decide +kernel⟩, ⟨by decide +kernel, by decide +kernel⟩, by decide +kernel⟩
theorem g_Ref_98 : zGV "RingCipherModel" 98 M_Ref_reduced 3 := ⟨Or.inl ⟨List.mem_append_right _ (List.mem_of_getElem? (i := 741) (by decide +kernel)), by decide +kernel⟩, ⟨List.mem_append_right _ (List.mem_of_getElem? (i := 743) (by decide +kernel)), by decide +kernel⟩, ⟨List.mem_append_left _ (List.mem_of_getElem? (i := 48) (by decide +kernel)), by decide +kernel⟩, ⟨by decide +kernel, by decide +kernel⟩, by decide +kernel⟩
theorem g_Ref_74 : zGS "RingCipherModel" 74 M_Ref_of 1 := ⟨Or.inl ⟨List.mem_append_right _ (List.mem_of_getElem? (i := 745) (by decide +kernel)), by decide +kernel⟩, ⟨List.mem_append_right _ (List.mem_of_getElem? (i := 746) (by decide +kernel)), by decide +kernel⟩, ⟨List.mem_append_right _ (List.mem_of_getElem? (i := 7) (by decide +kernel)), by decide +kernel⟩, ⟨by decide +kernel, by decide +kernel⟩, by decide +kernel⟩
theorem g_Ref_120 : zGV "RingCipherModel" 120 M_Ref_product 3 := ⟨Or.inl ⟨List.mem_append_right _ (List.mem_of_getElem? (i := 748) (by decide +kernel)), by decide +kernel⟩, ⟨List.mem_append_right _ (List.mem_of_getElem? (i := 750) (by decide +kernel)), by decide +kernel⟩, ⟨List.mem_append_left _ (List.mem_of_getElem? (i := 49) (by decide +kernel)), by decide +kernel⟩, ⟨by decide +kernel, by decide +kernel⟩, by decide +kernel⟩
theorem g_Ref_123 : zGV "RingCipherModel" 123 M_Ref_pairs 1 := ⟨Or.inl ⟨List.mem_append_right _ (List.mem_of_getElem? (i := 752) (by decide +kernel)), by decide +kernel⟩, ⟨List.mem_append_right _ (List.mem_of_getElem? (i := 754) (by decide +kernel)), by decide +kernel⟩, ⟨List.mem_append_left _ (List.mem_of_getElem? (i := 50) (by decide +kernel)), by decide +kernel⟩, ⟨by decide +kernel, by decide +kernel⟩, by decide +kernel⟩
theorem g_Ref_127 : zGV "RingCipherModel" 127 M_Ref_fail 1 := ⟨Or.inl ⟨List.mem_append_right _ (List.mem_of_getElem? (i := 761) (by decide +kernel)), by decide +kernel⟩, ⟨List.mem_append_right _ (List.mem_of_getElem? (i := 763) (by decide +kernel)), by decide +kernel⟩, ⟨List.mem_append_left _ (List.mem_of_getElem? (i := 51) (by decide +kernel)), by decide +kernel⟩, ⟨by decide +kernel, by decide +kernel⟩, by decide +kernel⟩
theorem g_Ref_131 : zGV "RingCipherModel" 131 M_Ref_find 1 := ⟨Or.inl ⟨List.mem_append_right _ (List.mem_of_getElem? (i := 765) (by decide +kernel)), by decide +kernel⟩, ⟨List.mem_append_right _ (List.mem_of_getElem? (i := 767) (by decide +kernel)), by decide +kernel⟩, ⟨List.mem_append_left _ (List.mem_of_getElem? (i := 52) (by decide +kernel)), by decide +kernel⟩, ⟨by decide +kernel, by decide +kernel⟩, by decide +kernel⟩
theorem g_Ref_134 : zGV "RingCipherModel" 134 M_Ref_turned 3 := ⟨Or.inl ⟨List.mem_append_right _ (List.mem_of_getElem? (i := 769) (by decide +kernel)), by decide +kernel⟩, ⟨List.mem_append_right _ (List.mem_of_getElem? (i := 771) (by decide +kernel)), by decide +kernel⟩, ⟨List.mem_append_left _ (List.mem_of_getElem? (i := 53) (by decide +kernel)), by decide +kernel⟩, ⟨by decide +kernel, by decide +kernel⟩, by decide +kernel⟩
theorem g_Ref_142 : zGS "RingCipherModel" 142 M_Ref_noPlain 1 := ⟨Or.inl ⟨List.mem_append_right _ (List.mem_of_getElem? (i := 777) (by decide +kernel)), by decide +kernel⟩, ⟨List.mem_append_right _ (List.mem_of_getElem? (i := 778) (by decide +kernel)), by decide +kernel⟩, ⟨List.mem_append_right _ (List.mem_of_getElem? (i := 7) (by decide +kernel)), by decide +kernel⟩, ⟨by decide +kernel, by decide +kernel⟩, by decide +kernel⟩
theorem g_Ref_149 : zGV "RingCipherModel" 149 M_Ref_root 0 := ⟨Or.inl ⟨List.mem_append_right _ (List.mem_of_getElem? (i := 788) (by decide +kernel)), by decide +kernel⟩, ⟨List.mem_append_right _ (List.mem_of_getElem? (i := 790) (by decide +kernel)), by decide +kernel⟩, ⟨List.mem_append_left _ (List.mem_of_getElem? (i := 54) (by decide +kernel)), by decide +kernel⟩, ⟨by decide +kernel, by decide +kernel⟩, by decide +kernel⟩
theorem g_Ref_145 : zGV "RingCipherModel" 145 M_Ref_power 2 := ⟨Or.inl ⟨List.mem_append_right _ (List.mem_of_getElem? (i := 792) (by decide +kernel)), by decide +kernel⟩, ⟨List.mem_append_right _ (List.mem_of_getElem? (i := 794) (by decide +kernel)), by decide +kernel⟩, ⟨List.mem_append_left _ (List.mem_of_getElem? (i := 55) (by decide +kernel)), by decide +kernel⟩, ⟨by decide +kernel, by decide +kernel⟩, by decide +kernel⟩
theorem g_Ref_138 : zGS "RingCipherModel" 138 M_Ref_noCipher 1 := ⟨Or.inl ⟨List.mem_append_right _ (List.mem_of_getElem? (i := 800) (by decide +kernel)), by decide +kernel⟩, ⟨List.mem_append_right _ (List.mem_of_getElem? (i := 801) (by decide +kernel)), by decide +kernel⟩, ⟨List.mem_append_right _ (List.mem_of_getElem? (i := 7) (by decide +kernel)), by decide +kernel⟩, ⟨by decide +kernel, by decide +kernel⟩, by decide +kernel⟩
theorem g_Ref_152 : zGV "RingCipherModel" 152 M_Ref_put 3 := ⟨Or.inl ⟨List.mem_append_right _ (List.mem_of_getElem? (i := 803) (by decide +kernel)), by decide +kernel⟩, ⟨List.mem_append_right _ (List.mem_of_getElem? (i := 805) (by decide +kernel)), by decide +kernel⟩, ⟨List.mem_append_left _ (List.mem_of_getElem? (i := 56) (by decide +kernel)), by decide +kernel⟩, ⟨by decide +kernel, by decide +kernel⟩, by decide +kernel⟩
theorem g_Ref_156 : zGV "RingCipherModel" 156 M_Ref_budget 1 := ⟨Or.inl ⟨List.mem_append_right _ (List.mem_of_getElem? (i := 807) (by decide +kernel)), by decide +kernel⟩, ⟨List.mem_append_right _ (List.mem_of_getElem? (i := 809) (by decide +kernel)), by decide +kernel⟩, ⟨List.mem_append_left _ (List.mem_of_getElem? (i := 57) (by decide +kernel)), by decide +kernel⟩, ⟨by decide +kernel, by decide +kernel⟩, by decide +kernel⟩
theorem g_Ref_174 : zGV "RingCipherModel" 174 M_Ref_noise 1 := ⟨Or.inl ⟨List.mem_append_right _ (List.mem_of_getElem? (i := 811) (by decide +kernel)), by decide +kernel⟩, ⟨List.mem_append_right _ (List.mem_of_getElem? (i := 813) (by decide +kernel)), by decide +kernel⟩, ⟨List.mem_append_left _ (List.mem_of_getElem? (i := 58) (by decide +kernel)), by decide +kernel⟩, ⟨by decide +kernel, by decide +kernel⟩, by decide +kernel⟩
theorem g_Ref_165 : zGV "RingCipherModel" 165 M_Ref_phase 1 := ⟨Or.inl ⟨List.mem_append_right _ (List.mem_of_getElem? (i := 815) (by decide +kernel)), by decide +kernel⟩, ⟨List.mem_append_right _ (List.mem_of_getElem? (i := 817) (by decide +kernel)), by decide +kernel⟩, ⟨List.mem_append_left _ (List.mem_of_getElem? (i := 59) (by decide +kernel)), by decide +kernel⟩, ⟨by decide +kernel, by decide +kernel⟩, by decide +kernel⟩
theorem g_Ref_159 : zGV "RingCipherModel" 159 M_Ref_take 3 := ⟨Or.inl ⟨List.mem_append_right _ (List.mem_of_getElem? (i := 819) (by decide +kernel)), by decide +kernel⟩, ⟨List.mem_append_right _ (List.mem_of_getElem? (i := 821) (by decide +kernel)), by decide +kernel⟩, ⟨List.mem_append_left _ (List.mem_of_getElem? (i := 60) (by decide +kernel)), by decide +kernel⟩, ⟨by decide +kernel, by decide +kernel⟩, by decide +kernel⟩
theorem g_Ref_162 : zGS "RingCipherModel" 162 M_Ref_centred 1 := ⟨Or.inl ⟨List.mem_append_right _ (List.mem_of_getElem? (i := 823) (by decide +kernel)), by decide +kernel⟩, ⟨List.mem_append_right _ (List.mem_of_getElem? (i := 824) (by decide +kernel)), by decide +kernel⟩, ⟨List.mem_append_right _ (List.mem_of_getElem? (i := 7) (by decide +kernel)), by decide +kernel⟩, ⟨by decide +kernel, by decide +kernel⟩, by decide +kernel⟩
theorem g_Ref_168 : zGS "RingCipherModel" 168 M_Math_max_JJ 2 := ⟨Or.inl ⟨List.mem_append_right _ (List.mem_of_getElem? (i := 827) (by decide +kernel)), by decide +kernel⟩, ⟨List.mem_append_right _ (List.mem_of_getElem? (i := 519) (by decide +kernel)), by decide +kernel⟩, ⟨List.mem_append_right _ (List.mem_of_getElem? (i := 14) (by decide +kernel)), by decide +kernel⟩, ⟨by decide +kernel, by decide +kernel⟩, by decide +kernel⟩
theorem g_Ref_180 : zGV "RingCipherModel" 180 M_Ref_empty_I 1 := ⟨Or.inl ⟨List.mem_append_right _ (List.mem_of_getElem? (i := 832) (by decide +kernel)), by decide +kernel⟩, ⟨List.mem_append_right _ (List.mem_of_getElem? (i := 834) (by decide +kernel)), by decide +kernel⟩, ⟨List.mem_append_left _ (List.mem_of_getElem? (i := 61) (by decide +kernel)), by decide +kernel⟩, ⟨by decide +kernel, by decide +kernel⟩, by decide +kernel⟩
theorem g_Ref_182 : zGV "RingCipherModel" 182 M_Ref_scaled 1 := ⟨Or.inl ⟨List.mem_append_right _ (List.mem_of_getElem? (i := 836) (by decide +kernel)), by decide +kernel⟩, ⟨List.mem_append_right _ (List.mem_of_getElem? (i := 838) (by decide +kernel)), by decide +kernel⟩, ⟨List.mem_append_left _ (List.mem_of_getElem? (i := 62) (by decide +kernel)), by decide +kernel⟩, ⟨by decide +kernel, by decide +kernel⟩, by decide +kernel⟩
theorem g_Ref_185 : zGS "RingCipherModel" 185 M_Math_max_II 2 := ⟨Or.inl ⟨List.mem_append_right _ (List.mem_of_getElem? (i := 845) (by decide +kernel)), by decide +kernel⟩, ⟨List.mem_append_right _ (List.mem_of_getElem? (i := 392) (by decide +kernel)), by decide +kernel⟩, ⟨List.mem_append_right _ (List.mem_of_getElem? (i := 14) (by decide +kernel)), by decide +kernel⟩, ⟨by decide +kernel, by decide +kernel⟩, by decide +kernel⟩
theorem g_Ref_187 : zGV "RingCipherModel" 187 M_Ref_centre 3 := ⟨Or.inl ⟨List.mem_append_right _ (List.mem_of_getElem? (i := 846) (by decide +kernel)), by decide +kernel⟩, ⟨List.mem_append_right _ (List.mem_of_getElem? (i := 848) (by decide +kernel)), by decide +kernel⟩, ⟨List.mem_append_left _ (List.mem_of_getElem? (i := 63) (by decide +kernel)), by decide +kernel⟩, ⟨by decide +kernel, by decide +kernel⟩, by decide +kernel⟩
theorem g_Ref_192 : zGV "RingCipherModel" 192 M_Ref_applied 1 := ⟨Or.inl ⟨List.mem_append_right _ (List.mem_of_getElem? (i := 858) (by decide +kernel)), by decide +kernel⟩, ⟨List.mem_append_right _ (List.mem_of_getElem? (i := 860) (by decide +kernel)), by decide +kernel⟩, ⟨List.mem_append_left _ (List.mem_of_getElem? (i := 64) (by decide +kernel)), by decide +kernel⟩, ⟨by decide +kernel, by decide +kernel⟩, by decide +kernel⟩
theorem g_Ref_195 : zGV "RingCipherModel" 195 M_Ref_reduce 1 := ⟨Or.inl ⟨List.mem_append_right _ (List.mem_of_getElem? (i := 867) (by decide +kernel)), by decide +kernel⟩, ⟨List.mem_append_right _ (List.mem_of_getElem? (i := 869) (by decide +kernel)), by decide +kernel⟩, ⟨List.mem_append_left _ (List.mem_of_getElem? (i := 65) (by decide +kernel)), by decide +kernel⟩, ⟨by decide +kernel, by decide +kernel⟩, by decide +kernel⟩
theorem co_Ref_init : zCo M_Ref_init := Or.inl ⟨⟨List.mem_append_right _ (List.mem_of_getElem? (i := 629) (by decide +kernel)), by decide +kernel⟩, rfl⟩
theorem co_Ref_thrown : zCo M_Ref_thrown := Or.inl ⟨⟨List.mem_append_right _ (List.mem_of_getElem? (i := 708) (by decide +kernel)), by decide +kernel⟩, rfl⟩
theorem co_Ref_begin : zCo M_Ref_begin := Or.inl ⟨⟨List.mem_append_right _ (List.mem_of_getElem? (i := 712) (by decide +kernel)), by decide +kernel⟩, rfl⟩
theorem co_Ref_empty_ : zCo M_Ref_empty_ := Or.inl ⟨⟨List.mem_append_right _ (List.mem_of_getElem? (i := 716) (by decide +kernel)), by decide +kernel⟩, rfl⟩
theorem co_Ref_keys : zCo M_Ref_keys := Or.inl ⟨⟨List.mem_append_right _ (List.mem_of_getElem? (i := 720) (by decide +kernel)), by decide +kernel⟩, rfl⟩
theorem co_Ref_ternary : zCo M_Ref_ternary := Or.inl ⟨⟨List.mem_append_right _ (List.mem_of_getElem? (i := 724) (by decide +kernel)), by decide +kernel⟩, rfl⟩
theorem co_Ref_draw : zCo M_Ref_draw := Or.inl ⟨⟨List.mem_append_right _ (List.mem_of_getElem? (i := 728) (by decide +kernel)), by decide +kernel⟩, rfl⟩
theorem co_Ref_uniform : zCo M_Ref_uniform := Or.inl ⟨⟨List.mem_append_right _ (List.mem_of_getElem? (i := 734) (by decide +kernel)), by decide +kernel⟩, rfl⟩
theorem co_Ref_error : zCo M_Ref_error := Or.inl ⟨⟨List.mem_append_right _ (List.mem_of_getElem? (i := 740) (by decide +kernel)), by decide +kernel⟩, rfl⟩
theorem co_Ref_reduced : zCo M_Ref_reduced := Or.inl ⟨⟨List.mem_append_right _ (List.mem_of_getElem? (i := 744) (by decide +kernel)), by decide +kernel⟩, rfl⟩
theorem co_Ref_of : zCo M_Ref_of := Or.inl ⟨⟨List.mem_append_right _ (List.mem_of_getElem? (i := 747) (by decide +kernel)), by decide +kernel⟩, rfl⟩
theorem co_Ref_product : zCo M_Ref_product := Or.inl ⟨⟨List.mem_append_right _ (List.mem_of_getElem? (i := 751) (by decide +kernel)), by decide +kernel⟩, rfl⟩
theorem co_Ref_pairs : zCo M_Ref_pairs := Or.inl ⟨⟨List.mem_append_right _ (List.mem_of_getElem? (i := 755) (by decide +kernel)), by decide +kernel⟩, rfl⟩
theorem co_Ref_turnKey : zCo M_Ref_turnKey := Or.inl ⟨⟨List.mem_append_right _ (List.mem_of_getElem? (i := 760) (by decide +kernel)), by decide +kernel⟩, rfl⟩
theorem co_Ref_fail : zCo M_Ref_fail := Or.inl ⟨⟨List.mem_append_right _ (List.mem_of_getElem? (i := 764) (by decide +kernel)), by decide +kernel⟩, rfl⟩
theorem co_Ref_find : zCo M_Ref_find := Or.inl ⟨⟨List.mem_append_right _ (List.mem_of_getElem? (i := 768) (by decide +kernel)), by decide +kernel⟩, rfl⟩
theorem co_Ref_turned : zCo M_Ref_turned := Or.inl ⟨⟨List.mem_append_right _ (List.mem_of_getElem? (i := 772) (by decide +kernel)), by decide +kernel⟩, rfl⟩
theorem co_Ref_set : zCo M_Ref_set := Or.inl ⟨⟨List.mem_append_right _ (List.mem_of_getElem? (i := 776) (by decide +kernel)), by decide +kernel⟩, rfl⟩
theorem co_Ref_noPlain : zCo M_Ref_noPlain := Or.inl ⟨⟨List.mem_append_right _ (List.mem_of_getElem? (i := 779) (by decide +kernel)), by decide +kernel⟩, rfl⟩
theorem co_Ref_get : zCo M_Ref_get := Or.inl ⟨⟨List.mem_append_right _ (List.mem_of_getElem? (i := 783) (by decide +kernel)), by decide +kernel⟩, rfl⟩
theorem co_Ref_batch : zCo M_Ref_batch := Or.inl ⟨⟨List.mem_append_right _ (List.mem_of_getElem? (i := 787) (by decide +kernel)), by decide +kernel⟩, rfl⟩
theorem co_Ref_root : zCo M_Ref_root := Or.inl ⟨⟨List.mem_append_right _ (List.mem_of_getElem? (i := 791) (by decide +kernel)), by decide +kernel⟩, rfl⟩
theorem co_Ref_power : zCo M_Ref_power := Or.inl ⟨⟨List.mem_append_right _ (List.mem_of_getElem? (i := 795) (by decide +kernel)), by decide +kernel⟩, rfl⟩
theorem co_Ref_seal : zCo M_Ref_seal := Or.inl ⟨⟨List.mem_append_right _ (List.mem_of_getElem? (i := 799) (by decide +kernel)), by decide +kernel⟩, rfl⟩
theorem co_Ref_noCipher : zCo M_Ref_noCipher := Or.inl ⟨⟨List.mem_append_right _ (List.mem_of_getElem? (i := 802) (by decide +kernel)), by decide +kernel⟩, rfl⟩
theorem co_Ref_put : zCo M_Ref_put := Or.inl ⟨⟨List.mem_append_right _ (List.mem_of_getElem? (i := 806) (by decide +kernel)), by decide +kernel⟩, rfl⟩
theorem co_Ref_budget : zCo M_Ref_budget := Or.inl ⟨⟨List.mem_append_right _ (List.mem_of_getElem? (i := 810) (by decide +kernel)), by decide +kernel⟩, rfl⟩
theorem co_Ref_noise : zCo M_Ref_noise := Or.inl ⟨⟨List.mem_append_right _ (List.mem_of_getElem? (i := 814) (by decide +kernel)), by decide +kernel⟩, rfl⟩
theorem co_Ref_phase : zCo M_Ref_phase := Or.inl ⟨⟨List.mem_append_right _ (List.mem_of_getElem? (i := 818) (by decide +kernel)), by decide +kernel⟩, rfl⟩
theorem co_Ref_take : zCo M_Ref_take := Or.inl ⟨⟨List.mem_append_right _ (List.mem_of_getElem? (i := 822) (by decide +kernel)), by decide +kernel⟩, rfl⟩
theorem co_Ref_centred : zCo M_Ref_centred := Or.inl ⟨⟨List.mem_append_right _ (List.mem_of_getElem? (i := 825) (by decide +kernel)), by decide +kernel⟩, rfl⟩
theorem co_Ref_open : zCo M_Ref_open := Or.inl ⟨⟨List.mem_append_right _ (List.mem_of_getElem? (i := 831) (by decide +kernel)), by decide +kernel⟩, rfl⟩
theorem co_Ref_empty_I : zCo M_Ref_empty_I := Or.inl ⟨⟨List.mem_append_right _ (List.mem_of_getElem? (i := 835) (by decide +kernel)), by decide +kernel⟩, rfl⟩
theorem co_Ref_scaled : zCo M_Ref_scaled := Or.inl ⟨⟨List.mem_append_right _ (List.mem_of_getElem? (i := 839) (by decide +kernel)), by decide +kernel⟩, rfl⟩
theorem co_Ref_join : zCo M_Ref_join := Or.inl ⟨⟨List.mem_append_right _ (List.mem_of_getElem? (i := 844) (by decide +kernel)), by decide +kernel⟩, rfl⟩
theorem co_Ref_centre : zCo M_Ref_centre := Or.inl ⟨⟨List.mem_append_right _ (List.mem_of_getElem? (i := 849) (by decide +kernel)), by decide +kernel⟩, rfl⟩
theorem co_Ref_plain : zCo M_Ref_plain := Or.inl ⟨⟨List.mem_append_right _ (List.mem_of_getElem? (i := 853) (by decide +kernel)), by decide +kernel⟩, rfl⟩
theorem co_Ref_shrink : zCo M_Ref_shrink := Or.inl ⟨⟨List.mem_append_right _ (List.mem_of_getElem? (i := 857) (by decide +kernel)), by decide +kernel⟩, rfl⟩
theorem co_Ref_applied : zCo M_Ref_applied := Or.inl ⟨⟨List.mem_append_right _ (List.mem_of_getElem? (i := 861) (by decide +kernel)), by decide +kernel⟩, rfl⟩
theorem co_Ref_turn : zCo M_Ref_turn := Or.inl ⟨⟨List.mem_append_right _ (List.mem_of_getElem? (i := 866) (by decide +kernel)), by decide +kernel⟩, rfl⟩
theorem co_Ref_reduce : zCo M_Ref_reduce := Or.inl ⟨⟨List.mem_append_right _ (List.mem_of_getElem? (i := 870) (by decide +kernel)), by decide +kernel⟩, rfl⟩
theorem co_Ref_part : zCo M_Ref_part := Or.inl ⟨⟨List.mem_append_right _ (List.mem_of_getElem? (i := 874) (by decide +kernel)), by decide +kernel⟩, rfl⟩
theorem co_Ref_about : zCo M_Ref_about := Or.inl ⟨⟨List.mem_append_right _ (List.mem_of_getElem? (i := 878) (by decide +kernel)), by decide +kernel⟩, rfl⟩
theorem co_Ref_drop : zCo M_Ref_drop := Or.inl ⟨⟨List.mem_append_right _ (List.mem_of_getElem? (i := 882) (by decide +kernel)), by decide +kernel⟩, rfl⟩
theorem co_Ref_count : zCo M_Ref_count := Or.inl ⟨⟨List.mem_append_right _ (List.mem_of_getElem? (i := 886) (by decide +kernel)), by decide +kernel⟩, rfl⟩
theorem d_Ref_init_0 : decode prog_8_method_1_code 0 = .ok (.aload_n 0, 1) := by decide +kernel
theorem d_Ref_init_1 : decode prog_8_method_1_code 1 = .ok (.invokespecial 1, 3) := by decide +kernel
theorem d_Ref_init_4 : decode prog_8_method_1_code 4 = .ok (.aload_n 0, 1) := by decide +kernel
theorem d_Ref_init_5 : decode prog_8_method_1_code 5 = .ok (.bipush 8, 2) := by decide +kernel
theorem d_Ref_init_7 : decode prog_8_method_1_code 7 = .ok (.putfield 7, 3) := by decide +kernel
theorem d_Ref_init_10 : decode prog_8_method_1_code 10 = .ok (.aload_n 0, 1) := by decide +kernel
theorem d_Ref_init_11 : decode prog_8_method_1_code 11 = .ok (.bipush 17, 2) := by decide +kernel
theorem d_Ref_init_13 : decode prog_8_method_1_code 13 = .ok (.putfield 13, 3) := by decide +kernel
theorem d_Ref_init_16 : decode prog_8_method_1_code 16 = .ok (.aload_n 0, 1) := by decide +kernel
theorem d_Ref_init_17 : decode prog_8_method_1_code 17 = .ok (.bipush 32, 2) := by decide +kernel
theorem d_Ref_init_19 : decode prog_8_method_1_code 19 = .ok (.newarray .long, 2) := by decide +kernel
theorem d_Ref_init_21 : decode prog_8_method_1_code 21 = .ok (.putfield 16, 3) := by decide +kernel
theorem d_Ref_init_24 : decode prog_8_method_1_code 24 = .ok (.aload_n 0, 1) := by decide +kernel
theorem d_Ref_init_25 : decode prog_8_method_1_code 25 = .ok (.bipush 32, 2) := by decide +kernel
theorem d_Ref_init_27 : decode prog_8_method_1_code 27 = .ok (.newarray .long, 2) := by decide +kernel
theorem d_Ref_init_29 : decode prog_8_method_1_code 29 = .ok (.putfield 20, 3) := by decide +kernel
theorem d_Ref_init_32 : decode prog_8_method_1_code 32 = .ok (.aload_n 0, 1) := by decide +kernel
theorem d_Ref_init_33 : decode prog_8_method_1_code 33 = .ok (.bipush 32, 2) := by decide +kernel
theorem d_Ref_init_35 : decode prog_8_method_1_code 35 = .ok (.newarray .long, 2) := by decide +kernel
theorem d_Ref_init_37 : decode prog_8_method_1_code 37 = .ok (.putfield 23, 3) := by decide +kernel
theorem d_Ref_init_40 : decode prog_8_method_1_code 40 = .ok (.aload_n 0, 1) := by decide +kernel
theorem d_Ref_init_41 : decode prog_8_method_1_code 41 = .ok (.sipush 960, 3) := by decide +kernel
theorem d_Ref_init_44 : decode prog_8_method_1_code 44 = .ok (.newarray .long, 2) := by decide +kernel
theorem d_Ref_init_46 : decode prog_8_method_1_code 46 = .ok (.putfield 26, 3) := by decide +kernel
theorem d_Ref_init_49 : decode prog_8_method_1_code 49 = .ok (.aload_n 0, 1) := by decide +kernel
theorem d_Ref_init_50 : decode prog_8_method_1_code 50 = .ok (.sipush 960, 3) := by decide +kernel
theorem d_Ref_init_53 : decode prog_8_method_1_code 53 = .ok (.newarray .long, 2) := by decide +kernel
theorem d_Ref_init_55 : decode prog_8_method_1_code 55 = .ok (.putfield 29, 3) := by decide +kernel
theorem d_Ref_init_58 : decode prog_8_method_1_code 58 = .ok (.aload_n 0, 1) := by decide +kernel
theorem d_Ref_init_59 : decode prog_8_method_1_code 59 = .ok (.iconst 5, 1) := by decide +kernel
theorem d_Ref_init_60 : decode prog_8_method_1_code 60 = .ok (.newarray .int, 2) := by decide +kernel
theorem d_Ref_init_62 : decode prog_8_method_1_code 62 = .ok (.putfield 32, 3) := by decide +kernel
theorem d_Ref_init_65 : decode prog_8_method_1_code 65 = .ok (.aload_n 0, 1) := by decide +kernel
theorem d_Ref_init_66 : decode prog_8_method_1_code 66 = .ok (.sipush 256, 3) := by decide +kernel
theorem d_Ref_init_69 : decode prog_8_method_1_code 69 = .ok (.newarray .int, 2) := by decide +kernel
theorem d_Ref_init_71 : decode prog_8_method_1_code 71 = .ok (.putfield 36, 3) := by decide +kernel
theorem d_Ref_init_74 : decode prog_8_method_1_code 74 = .ok (.aload_n 0, 1) := by decide +kernel
theorem d_Ref_init_75 : decode prog_8_method_1_code 75 = .ok (.bipush 16, 2) := by decide +kernel
theorem d_Ref_init_77 : decode prog_8_method_1_code 77 = .ok (.newarray .int, 2) := by decide +kernel
theorem d_Ref_init_79 : decode prog_8_method_1_code 79 = .ok (.putfield 39, 3) := by decide +kernel
theorem d_Ref_init_82 : decode prog_8_method_1_code 82 = .ok (.aload_n 0, 1) := by decide +kernel
theorem d_Ref_init_83 : decode prog_8_method_1_code 83 = .ok (.sipush 1536, 3) := by decide +kernel
theorem d_Ref_init_86 : decode prog_8_method_1_code 86 = .ok (.newarray .long, 2) := by decide +kernel
theorem d_Ref_init_88 : decode prog_8_method_1_code 88 = .ok (.putfield 42, 3) := by decide +kernel
theorem d_Ref_init_91 : decode prog_8_method_1_code 91 = .ok (.aload_n 0, 1) := by decide +kernel
theorem d_Ref_init_92 : decode prog_8_method_1_code 92 = .ok (.bipush 32, 2) := by decide +kernel
theorem d_Ref_init_94 : decode prog_8_method_1_code 94 = .ok (.newarray .long, 2) := by decide +kernel
theorem d_Ref_init_96 : decode prog_8_method_1_code 96 = .ok (.putfield 45, 3) := by decide +kernel
theorem d_Ref_init_99 : decode prog_8_method_1_code 99 = .ok (.aload_n 0, 1) := by decide +kernel
theorem d_Ref_init_100 : decode prog_8_method_1_code 100 = .ok (.bipush 32, 2) := by decide +kernel
theorem d_Ref_init_102 : decode prog_8_method_1_code 102 = .ok (.newarray .long, 2) := by decide +kernel
theorem d_Ref_init_104 : decode prog_8_method_1_code 104 = .ok (.putfield 48, 3) := by decide +kernel
theorem d_Ref_init_107 : decode prog_8_method_1_code 107 = .ok (.aload_n 0, 1) := by decide +kernel
theorem d_Ref_init_108 : decode prog_8_method_1_code 108 = .ok (.bipush 32, 2) := by decide +kernel
theorem d_Ref_init_110 : decode prog_8_method_1_code 110 = .ok (.newarray .long, 2) := by decide +kernel
theorem d_Ref_init_112 : decode prog_8_method_1_code 112 = .ok (.putfield 51, 3) := by decide +kernel
theorem d_Ref_init_115 : decode prog_8_method_1_code 115 = .ok (.aload_n 0, 1) := by decide +kernel
theorem d_Ref_init_116 : decode prog_8_method_1_code 116 = .ok (.bipush 32, 2) := by decide +kernel
theorem d_Ref_init_118 : decode prog_8_method_1_code 118 = .ok (.newarray .long, 2) := by decide +kernel
theorem d_Ref_init_120 : decode prog_8_method_1_code 120 = .ok (.putfield 54, 3) := by decide +kernel
theorem d_Ref_init_123 : decode prog_8_method_1_code 123 = .ok (.aload_n 0, 1) := by decide +kernel
theorem d_Ref_init_124 : decode prog_8_method_1_code 124 = .ok (.bipush 32, 2) := by decide +kernel
theorem d_Ref_init_126 : decode prog_8_method_1_code 126 = .ok (.newarray .long, 2) := by decide +kernel
theorem d_Ref_init_128 : decode prog_8_method_1_code 128 = .ok (.putfield 57, 3) := by decide +kernel
theorem d_Ref_init_131 : decode prog_8_method_1_code 131 = .ok (.aload_n 0, 1) := by decide +kernel
theorem d_Ref_init_132 : decode prog_8_method_1_code 132 = .ok (.bipush 96, 2) := by decide +kernel
theorem d_Ref_init_134 : decode prog_8_method_1_code 134 = .ok (.newarray .long, 2) := by decide +kernel
theorem d_Ref_init_136 : decode prog_8_method_1_code 136 = .ok (.putfield 60, 3) := by decide +kernel
theorem d_Ref_init_139 : decode prog_8_method_1_code 139 = .ok (.aload_n 0, 1) := by decide +kernel
theorem d_Ref_init_140 : decode prog_8_method_1_code 140 = .ok (.bipush 32, 2) := by decide +kernel
theorem d_Ref_init_142 : decode prog_8_method_1_code 142 = .ok (.newarray .long, 2) := by decide +kernel
theorem d_Ref_init_144 : decode prog_8_method_1_code 144 = .ok (.putfield 63, 3) := by decide +kernel
theorem d_Ref_init_147 : decode prog_8_method_1_code 147 = .ok (.aload_n 0, 1) := by decide +kernel
theorem d_Ref_init_148 : decode prog_8_method_1_code 148 = .ok (.bipush 32, 2) := by decide +kernel
theorem d_Ref_init_150 : decode prog_8_method_1_code 150 = .ok (.newarray .long, 2) := by decide +kernel
theorem d_Ref_init_152 : decode prog_8_method_1_code 152 = .ok (.putfield 66, 3) := by decide +kernel
theorem d_Ref_init_155 : decode prog_8_method_1_code 155 = .ok (.return_, 1) := by decide +kernel
theorem d_Ref_thrown_0 : decode prog_8_method_2_code 0 = .ok (.aload_n 0, 1) := by decide +kernel
theorem d_Ref_thrown_1 : decode prog_8_method_2_code 1 = .ok (.getfield 69, 3) := by decide +kernel
theorem d_Ref_thrown_4 : decode prog_8_method_2_code 4 = .ok (.ireturn, 1) := by decide +kernel
theorem d_Ref_fail_0 : decode prog_8_method_3_code 0 = .ok (.aload_n 0, 1) := by decide +kernel
theorem d_Ref_fail_1 : decode prog_8_method_3_code 1 = .ok (.iload_n 1, 1) := by decide +kernel
theorem d_Ref_fail_2 : decode prog_8_method_3_code 2 = .ok (.putfield 69, 3) := by decide +kernel
theorem d_Ref_fail_5 : decode prog_8_method_3_code 5 = .ok (.iconst 0, 1) := by decide +kernel
theorem d_Ref_fail_6 : decode prog_8_method_3_code 6 = .ok (.ireturn, 1) := by decide +kernel
theorem d_Ref_of_0 : decode prog_8_method_4_code 0 = .ok (.lload_n 0, 1) := by decide +kernel
theorem d_Ref_of_1 : decode prog_8_method_4_code 1 = .ok (.ldc2_w 72, 3) := by decide +kernel
theorem d_Ref_of_4 : decode prog_8_method_4_code 4 = .ok (.lrem, 1) := by decide +kernel
theorem d_Ref_of_5 : decode prog_8_method_4_code 5 = .ok (.lstore_n 2, 1) := by decide +kernel
theorem d_Ref_of_6 : decode prog_8_method_4_code 6 = .ok (.lload_n 2, 1) := by decide +kernel
theorem d_Ref_of_7 : decode prog_8_method_4_code 7 = .ok (.lconst 0, 1) := by decide +kernel
theorem d_Ref_of_8 : decode prog_8_method_4_code 8 = .ok (.lcmp, 1) := by decide +kernel
theorem d_Ref_of_9 : decode prog_8_method_4_code 9 = .ok (.ifCond .ge 11, 3) := by decide +kernel
theorem d_Ref_of_12 : decode prog_8_method_4_code 12 = .ok (.lload_n 2, 1) := by decide +kernel
theorem d_Ref_of_13 : decode prog_8_method_4_code 13 = .ok (.ldc2_w 72, 3) := by decide +kernel
theorem d_Ref_of_16 : decode prog_8_method_4_code 16 = .ok (.ladd, 1) := by decide +kernel
theorem d_Ref_of_17 : decode prog_8_method_4_code 17 = .ok (.goto 4, 3) := by decide +kernel
theorem d_Ref_of_20 : decode prog_8_method_4_code 20 = .ok (.lload_n 2, 1) := by decide +kernel
theorem d_Ref_of_21 : decode prog_8_method_4_code 21 = .ok (.lreturn, 1) := by decide +kernel
theorem d_Ref_centred_0 : decode prog_8_method_5_code 0 = .ok (.lload_n 0, 1) := by decide +kernel
theorem d_Ref_centred_1 : decode prog_8_method_5_code 1 = .ok (.invokestatic 74, 3) := by decide +kernel
theorem d_Ref_centred_4 : decode prog_8_method_5_code 4 = .ok (.lstore_n 2, 1) := by decide +kernel
theorem d_Ref_centred_5 : decode prog_8_method_5_code 5 = .ok (.lload_n 2, 1) := by decide +kernel
theorem d_Ref_centred_6 : decode prog_8_method_5_code 6 = .ok (.ldc2_w 78, 3) := by decide +kernel
theorem d_Ref_centred_9 : decode prog_8_method_5_code 9 = .ok (.lcmp, 1) := by decide +kernel
theorem d_Ref_centred_10 : decode prog_8_method_5_code 10 = .ok (.ifCond .le 11, 3) := by decide +kernel
theorem d_Ref_centred_13 : decode prog_8_method_5_code 13 = .ok (.lload_n 2, 1) := by decide +kernel
theorem d_Ref_centred_14 : decode prog_8_method_5_code 14 = .ok (.ldc2_w 72, 3) := by decide +kernel
theorem d_Ref_centred_17 : decode prog_8_method_5_code 17 = .ok (.lsub, 1) := by decide +kernel
theorem d_Ref_centred_18 : decode prog_8_method_5_code 18 = .ok (.goto 4, 3) := by decide +kernel
theorem d_Ref_centred_21 : decode prog_8_method_5_code 21 = .ok (.lload_n 2, 1) := by decide +kernel
theorem d_Ref_centred_22 : decode prog_8_method_5_code 22 = .ok (.lreturn, 1) := by decide +kernel
theorem d_Ref_product_0 : decode prog_8_method_6_code 0 = .ok (.iconst 0, 1) := by decide +kernel
theorem d_Ref_product_1 : decode prog_8_method_6_code 1 = .ok (.istore 4, 2) := by decide +kernel
theorem d_Ref_product_3 : decode prog_8_method_6_code 3 = .ok (.iload 4, 2) := by decide +kernel
theorem d_Ref_product_5 : decode prog_8_method_6_code 5 = .ok (.aload_n 0, 1) := by decide +kernel
theorem d_Ref_product_6 : decode prog_8_method_6_code 6 = .ok (.getfield 7, 3) := by decide +kernel
theorem d_Ref_product_9 : decode prog_8_method_6_code 9 = .ok (.if_icmp .ge 94, 3) := by decide +kernel
theorem d_Ref_product_12 : decode prog_8_method_6_code 12 = .ok (.lconst 0, 1) := by decide +kernel
theorem d_Ref_product_13 : decode prog_8_method_6_code 13 = .ok (.lstore 5, 2) := by decide +kernel
theorem d_Ref_product_15 : decode prog_8_method_6_code 15 = .ok (.iconst 0, 1) := by decide +kernel
theorem d_Ref_product_16 : decode prog_8_method_6_code 16 = .ok (.istore 7, 2) := by decide +kernel
theorem d_Ref_product_18 : decode prog_8_method_6_code 18 = .ok (.iload 7, 2) := by decide +kernel
theorem d_Ref_product_20 : decode prog_8_method_6_code 20 = .ok (.iload 4, 2) := by decide +kernel
theorem d_Ref_product_22 : decode prog_8_method_6_code 22 = .ok (.if_icmp .gt 26, 3) := by decide +kernel
theorem d_Ref_product_25 : decode prog_8_method_6_code 25 = .ok (.lload 5, 2) := by decide +kernel
theorem d_Ref_product_27 : decode prog_8_method_6_code 27 = .ok (.aload_n 1, 1) := by decide +kernel
theorem d_Ref_product_28 : decode prog_8_method_6_code 28 = .ok (.iload 7, 2) := by decide +kernel
theorem d_Ref_product_30 : decode prog_8_method_6_code 30 = .ok (.laload, 1) := by decide +kernel
theorem d_Ref_product_31 : decode prog_8_method_6_code 31 = .ok (.aload_n 2, 1) := by decide +kernel
theorem d_Ref_product_32 : decode prog_8_method_6_code 32 = .ok (.iload 4, 2) := by decide +kernel
theorem d_Ref_product_34 : decode prog_8_method_6_code 34 = .ok (.iload 7, 2) := by decide +kernel
theorem d_Ref_product_36 : decode prog_8_method_6_code 36 = .ok (.isub, 1) := by decide +kernel
theorem d_Ref_product_37 : decode prog_8_method_6_code 37 = .ok (.laload, 1) := by decide +kernel
theorem d_Ref_product_38 : decode prog_8_method_6_code 38 = .ok (.lmul, 1) := by decide +kernel
theorem d_Ref_product_39 : decode prog_8_method_6_code 39 = .ok (.ladd, 1) := by decide +kernel
theorem d_Ref_product_40 : decode prog_8_method_6_code 40 = .ok (.lstore 5, 2) := by decide +kernel
theorem d_Ref_product_42 : decode prog_8_method_6_code 42 = .ok (.iinc 7 1, 3) := by decide +kernel
theorem d_Ref_product_45 : decode prog_8_method_6_code 45 = .ok (.goto (-27), 3) := by decide +kernel
theorem d_Ref_product_48 : decode prog_8_method_6_code 48 = .ok (.iload 4, 2) := by decide +kernel
theorem d_Ref_product_50 : decode prog_8_method_6_code 50 = .ok (.iconst 1, 1) := by decide +kernel
theorem d_Ref_product_51 : decode prog_8_method_6_code 51 = .ok (.iadd, 1) := by decide +kernel
theorem d_Ref_product_52 : decode prog_8_method_6_code 52 = .ok (.istore 7, 2) := by decide +kernel
theorem d_Ref_product_54 : decode prog_8_method_6_code 54 = .ok (.iload 7, 2) := by decide +kernel
theorem d_Ref_product_56 : decode prog_8_method_6_code 56 = .ok (.aload_n 0, 1) := by decide +kernel
theorem d_Ref_product_57 : decode prog_8_method_6_code 57 = .ok (.getfield 7, 3) := by decide +kernel
theorem d_Ref_product_60 : decode prog_8_method_6_code 60 = .ok (.if_icmp .ge 31, 3) := by decide +kernel
theorem d_Ref_product_63 : decode prog_8_method_6_code 63 = .ok (.lload 5, 2) := by decide +kernel
theorem d_Ref_product_65 : decode prog_8_method_6_code 65 = .ok (.aload_n 1, 1) := by decide +kernel
theorem d_Ref_product_66 : decode prog_8_method_6_code 66 = .ok (.iload 7, 2) := by decide +kernel
theorem d_Ref_product_68 : decode prog_8_method_6_code 68 = .ok (.laload, 1) := by decide +kernel
theorem d_Ref_product_69 : decode prog_8_method_6_code 69 = .ok (.aload_n 2, 1) := by decide +kernel
theorem d_Ref_product_70 : decode prog_8_method_6_code 70 = .ok (.aload_n 0, 1) := by decide +kernel
theorem d_Ref_product_71 : decode prog_8_method_6_code 71 = .ok (.getfield 7, 3) := by decide +kernel
theorem d_Ref_product_74 : decode prog_8_method_6_code 74 = .ok (.iload 4, 2) := by decide +kernel
theorem d_Ref_product_76 : decode prog_8_method_6_code 76 = .ok (.iadd, 1) := by decide +kernel
theorem d_Ref_product_77 : decode prog_8_method_6_code 77 = .ok (.iload 7, 2) := by decide +kernel
theorem d_Ref_product_79 : decode prog_8_method_6_code 79 = .ok (.isub, 1) := by decide +kernel
theorem d_Ref_product_80 : decode prog_8_method_6_code 80 = .ok (.laload, 1) := by decide +kernel
theorem d_Ref_product_81 : decode prog_8_method_6_code 81 = .ok (.lmul, 1) := by decide +kernel
theorem d_Ref_product_82 : decode prog_8_method_6_code 82 = .ok (.lsub, 1) := by decide +kernel
theorem d_Ref_product_83 : decode prog_8_method_6_code 83 = .ok (.lstore 5, 2) := by decide +kernel
theorem d_Ref_product_85 : decode prog_8_method_6_code 85 = .ok (.iinc 7 1, 3) := by decide +kernel
theorem d_Ref_product_88 : decode prog_8_method_6_code 88 = .ok (.goto (-34), 3) := by decide +kernel
theorem d_Ref_product_91 : decode prog_8_method_6_code 91 = .ok (.aload_n 3, 1) := by decide +kernel
theorem d_Ref_product_92 : decode prog_8_method_6_code 92 = .ok (.iload 4, 2) := by decide +kernel
theorem d_Ref_product_94 : decode prog_8_method_6_code 94 = .ok (.lload 5, 2) := by decide +kernel
theorem d_Ref_product_96 : decode prog_8_method_6_code 96 = .ok (.lastore, 1) := by decide +kernel
theorem d_Ref_product_97 : decode prog_8_method_6_code 97 = .ok (.iinc 4 1, 3) := by decide +kernel
theorem d_Ref_product_100 : decode prog_8_method_6_code 100 = .ok (.goto (-97), 3) := by decide +kernel
theorem d_Ref_product_103 : decode prog_8_method_6_code 103 = .ok (.return_, 1) := by decide +kernel
theorem d_Ref_reduce_0 : decode prog_8_method_7_code 0 = .ok (.iconst 0, 1) := by decide +kernel
theorem d_Ref_reduce_1 : decode prog_8_method_7_code 1 = .ok (.istore_n 2, 1) := by decide +kernel
theorem d_Ref_reduce_2 : decode prog_8_method_7_code 2 = .ok (.iload_n 2, 1) := by decide +kernel
theorem d_Ref_reduce_3 : decode prog_8_method_7_code 3 = .ok (.aload_n 0, 1) := by decide +kernel
theorem d_Ref_reduce_4 : decode prog_8_method_7_code 4 = .ok (.getfield 7, 3) := by decide +kernel
theorem d_Ref_reduce_7 : decode prog_8_method_7_code 7 = .ok (.if_icmp .ge 18, 3) := by decide +kernel
theorem d_Ref_reduce_10 : decode prog_8_method_7_code 10 = .ok (.aload_n 1, 1) := by decide +kernel
theorem d_Ref_reduce_11 : decode prog_8_method_7_code 11 = .ok (.iload_n 2, 1) := by decide +kernel
theorem d_Ref_reduce_12 : decode prog_8_method_7_code 12 = .ok (.aload_n 1, 1) := by decide +kernel
theorem d_Ref_reduce_13 : decode prog_8_method_7_code 13 = .ok (.iload_n 2, 1) := by decide +kernel
theorem d_Ref_reduce_14 : decode prog_8_method_7_code 14 = .ok (.laload, 1) := by decide +kernel
theorem d_Ref_reduce_15 : decode prog_8_method_7_code 15 = .ok (.invokestatic 74, 3) := by decide +kernel
theorem d_Ref_reduce_18 : decode prog_8_method_7_code 18 = .ok (.lastore, 1) := by decide +kernel
theorem d_Ref_reduce_19 : decode prog_8_method_7_code 19 = .ok (.iinc 2 1, 3) := by decide +kernel
theorem d_Ref_reduce_22 : decode prog_8_method_7_code 22 = .ok (.goto (-20), 3) := by decide +kernel
theorem d_Ref_reduce_25 : decode prog_8_method_7_code 25 = .ok (.return_, 1) := by decide +kernel
theorem d_Ref_reduced_0 : decode prog_8_method_8_code 0 = .ok (.iconst 0, 1) := by decide +kernel
theorem d_Ref_reduced_1 : decode prog_8_method_8_code 1 = .ok (.istore 4, 2) := by decide +kernel
theorem d_Ref_reduced_3 : decode prog_8_method_8_code 3 = .ok (.iload 4, 2) := by decide +kernel
theorem d_Ref_reduced_5 : decode prog_8_method_8_code 5 = .ok (.aload_n 0, 1) := by decide +kernel
theorem d_Ref_reduced_6 : decode prog_8_method_8_code 6 = .ok (.getfield 7, 3) := by decide +kernel
theorem d_Ref_reduced_9 : decode prog_8_method_8_code 9 = .ok (.if_icmp .ge 102, 3) := by decide +kernel
theorem d_Ref_reduced_12 : decode prog_8_method_8_code 12 = .ok (.lconst 0, 1) := by decide +kernel
theorem d_Ref_reduced_13 : decode prog_8_method_8_code 13 = .ok (.lstore 5, 2) := by decide +kernel
theorem d_Ref_reduced_15 : decode prog_8_method_8_code 15 = .ok (.iconst 0, 1) := by decide +kernel
theorem d_Ref_reduced_16 : decode prog_8_method_8_code 16 = .ok (.istore 7, 2) := by decide +kernel
theorem d_Ref_reduced_18 : decode prog_8_method_8_code 18 = .ok (.iload 7, 2) := by decide +kernel
theorem d_Ref_reduced_20 : decode prog_8_method_8_code 20 = .ok (.aload_n 0, 1) := by decide +kernel
theorem d_Ref_reduced_21 : decode prog_8_method_8_code 21 = .ok (.getfield 7, 3) := by decide +kernel
theorem d_Ref_reduced_24 : decode prog_8_method_8_code 24 = .ok (.if_icmp .ge 72, 3) := by decide +kernel
theorem d_Ref_reduced_27 : decode prog_8_method_8_code 27 = .ok (.iload 4, 2) := by decide +kernel
theorem d_Ref_reduced_29 : decode prog_8_method_8_code 29 = .ok (.iload 7, 2) := by decide +kernel
theorem d_Ref_reduced_31 : decode prog_8_method_8_code 31 = .ok (.isub, 1) := by decide +kernel
theorem d_Ref_reduced_32 : decode prog_8_method_8_code 32 = .ok (.istore 8, 2) := by decide +kernel
theorem d_Ref_reduced_34 : decode prog_8_method_8_code 34 = .ok (.aload_n 1, 1) := by decide +kernel
theorem d_Ref_reduced_35 : decode prog_8_method_8_code 35 = .ok (.iload 7, 2) := by decide +kernel
theorem d_Ref_reduced_37 : decode prog_8_method_8_code 37 = .ok (.laload, 1) := by decide +kernel
theorem d_Ref_reduced_38 : decode prog_8_method_8_code 38 = .ok (.ldc2_w 72, 3) := by decide +kernel
theorem d_Ref_reduced_41 : decode prog_8_method_8_code 41 = .ok (.lrem, 1) := by decide +kernel
theorem d_Ref_reduced_42 : decode prog_8_method_8_code 42 = .ok (.aload_n 2, 1) := by decide +kernel
theorem d_Ref_reduced_43 : decode prog_8_method_8_code 43 = .ok (.iload 8, 2) := by decide +kernel
theorem d_Ref_reduced_45 : decode prog_8_method_8_code 45 = .ok (.ifCond .ge 13, 3) := by decide +kernel
theorem d_Ref_reduced_48 : decode prog_8_method_8_code 48 = .ok (.iload 8, 2) := by decide +kernel
theorem d_Ref_reduced_50 : decode prog_8_method_8_code 50 = .ok (.aload_n 0, 1) := by decide +kernel
theorem d_Ref_reduced_51 : decode prog_8_method_8_code 51 = .ok (.getfield 7, 3) := by decide +kernel
theorem d_Ref_reduced_54 : decode prog_8_method_8_code 54 = .ok (.iadd, 1) := by decide +kernel
theorem d_Ref_reduced_55 : decode prog_8_method_8_code 55 = .ok (.goto 5, 3) := by decide +kernel
theorem d_Ref_reduced_58 : decode prog_8_method_8_code 58 = .ok (.iload 8, 2) := by decide +kernel
theorem d_Ref_reduced_60 : decode prog_8_method_8_code 60 = .ok (.laload, 1) := by decide +kernel
theorem d_Ref_reduced_61 : decode prog_8_method_8_code 61 = .ok (.ldc2_w 72, 3) := by decide +kernel
theorem d_Ref_reduced_64 : decode prog_8_method_8_code 64 = .ok (.lrem, 1) := by decide +kernel
theorem d_Ref_reduced_65 : decode prog_8_method_8_code 65 = .ok (.lmul, 1) := by decide +kernel
theorem d_Ref_reduced_66 : decode prog_8_method_8_code 66 = .ok (.ldc2_w 72, 3) := by decide +kernel
theorem d_Ref_reduced_69 : decode prog_8_method_8_code 69 = .ok (.lrem, 1) := by decide +kernel
theorem d_Ref_reduced_70 : decode prog_8_method_8_code 70 = .ok (.lstore 9, 2) := by decide +kernel
theorem d_Ref_reduced_72 : decode prog_8_method_8_code 72 = .ok (.lload 5, 2) := by decide +kernel
theorem d_Ref_reduced_74 : decode prog_8_method_8_code 74 = .ok (.iload 8, 2) := by decide +kernel
theorem d_Ref_reduced_76 : decode prog_8_method_8_code 76 = .ok (.ifCond .ge 9, 3) := by decide +kernel
theorem d_Ref_reduced_79 : decode prog_8_method_8_code 79 = .ok (.lload 9, 2) := by decide +kernel
theorem d_Ref_reduced_81 : decode prog_8_method_8_code 81 = .ok (.lneg, 1) := by decide +kernel
theorem d_Ref_reduced_82 : decode prog_8_method_8_code 82 = .ok (.goto 5, 3) := by decide +kernel
theorem d_Ref_reduced_85 : decode prog_8_method_8_code 85 = .ok (.lload 9, 2) := by decide +kernel
theorem d_Ref_reduced_87 : decode prog_8_method_8_code 87 = .ok (.ladd, 1) := by decide +kernel
theorem d_Ref_reduced_88 : decode prog_8_method_8_code 88 = .ok (.lstore 5, 2) := by decide +kernel
theorem d_Ref_reduced_90 : decode prog_8_method_8_code 90 = .ok (.iinc 7 1, 3) := by decide +kernel
theorem d_Ref_reduced_93 : decode prog_8_method_8_code 93 = .ok (.goto (-75), 3) := by decide +kernel
theorem d_Ref_reduced_96 : decode prog_8_method_8_code 96 = .ok (.aload_n 3, 1) := by decide +kernel
theorem d_Ref_reduced_97 : decode prog_8_method_8_code 97 = .ok (.iload 4, 2) := by decide +kernel
theorem d_Ref_reduced_99 : decode prog_8_method_8_code 99 = .ok (.lload 5, 2) := by decide +kernel
theorem d_Ref_reduced_101 : decode prog_8_method_8_code 101 = .ok (.invokestatic 74, 3) := by decide +kernel
theorem d_Ref_reduced_104 : decode prog_8_method_8_code 104 = .ok (.lastore, 1) := by decide +kernel
theorem d_Ref_reduced_105 : decode prog_8_method_8_code 105 = .ok (.iinc 4 1, 3) := by decide +kernel
theorem d_Ref_reduced_108 : decode prog_8_method_8_code 108 = .ok (.goto (-105), 3) := by decide +kernel
theorem d_Ref_reduced_111 : decode prog_8_method_8_code 111 = .ok (.return_, 1) := by decide +kernel
theorem d_Ref_draw_0 : decode prog_8_method_9_code 0 = .ok (.aload_n 0, 1) := by decide +kernel
theorem d_Ref_draw_1 : decode prog_8_method_9_code 1 = .ok (.ldc 80, 2) := by decide +kernel
theorem d_Ref_draw_3 : decode prog_8_method_9_code 3 = .ok (.aload_n 0, 1) := by decide +kernel
theorem d_Ref_draw_4 : decode prog_8_method_9_code 4 = .ok (.getfield 81, 3) := by decide +kernel
theorem d_Ref_draw_7 : decode prog_8_method_9_code 7 = .ok (.imul, 1) := by decide +kernel
theorem d_Ref_draw_8 : decode prog_8_method_9_code 8 = .ok (.ldc 84, 2) := by decide +kernel
theorem d_Ref_draw_10 : decode prog_8_method_9_code 10 = .ok (.iadd, 1) := by decide +kernel
theorem d_Ref_draw_11 : decode prog_8_method_9_code 11 = .ok (.putfield 81, 3) := by decide +kernel
theorem d_Ref_draw_14 : decode prog_8_method_9_code 14 = .ok (.aload_n 0, 1) := by decide +kernel
theorem d_Ref_draw_15 : decode prog_8_method_9_code 15 = .ok (.getfield 81, 3) := by decide +kernel
theorem d_Ref_draw_18 : decode prog_8_method_9_code 18 = .ok (.bipush 16, 2) := by decide +kernel
theorem d_Ref_draw_20 : decode prog_8_method_9_code 20 = .ok (.iushr, 1) := by decide +kernel
theorem d_Ref_draw_21 : decode prog_8_method_9_code 21 = .ok (.ireturn, 1) := by decide +kernel
theorem d_Ref_ternary_0 : decode prog_8_method_10_code 0 = .ok (.iconst 0, 1) := by decide +kernel
theorem d_Ref_ternary_1 : decode prog_8_method_10_code 1 = .ok (.istore_n 2, 1) := by decide +kernel
theorem d_Ref_ternary_2 : decode prog_8_method_10_code 2 = .ok (.iload_n 2, 1) := by decide +kernel
theorem d_Ref_ternary_3 : decode prog_8_method_10_code 3 = .ok (.aload_n 0, 1) := by decide +kernel
theorem d_Ref_ternary_4 : decode prog_8_method_10_code 4 = .ok (.getfield 7, 3) := by decide +kernel
theorem d_Ref_ternary_7 : decode prog_8_method_10_code 7 = .ok (.if_icmp .ge 21, 3) := by decide +kernel
theorem d_Ref_ternary_10 : decode prog_8_method_10_code 10 = .ok (.aload_n 1, 1) := by decide +kernel
theorem d_Ref_ternary_11 : decode prog_8_method_10_code 11 = .ok (.iload_n 2, 1) := by decide +kernel
theorem d_Ref_ternary_12 : decode prog_8_method_10_code 12 = .ok (.aload_n 0, 1) := by decide +kernel
theorem d_Ref_ternary_13 : decode prog_8_method_10_code 13 = .ok (.invokevirtual 85, 3) := by decide +kernel
theorem d_Ref_ternary_16 : decode prog_8_method_10_code 16 = .ok (.iconst 3, 1) := by decide +kernel
theorem d_Ref_ternary_17 : decode prog_8_method_10_code 17 = .ok (.irem, 1) := by decide +kernel
theorem d_Ref_ternary_18 : decode prog_8_method_10_code 18 = .ok (.iconst 1, 1) := by decide +kernel
theorem d_Ref_ternary_19 : decode prog_8_method_10_code 19 = .ok (.isub, 1) := by decide +kernel
theorem d_Ref_ternary_20 : decode prog_8_method_10_code 20 = .ok (.i2l, 1) := by decide +kernel
theorem d_Ref_ternary_21 : decode prog_8_method_10_code 21 = .ok (.lastore, 1) := by decide +kernel
theorem d_Ref_ternary_22 : decode prog_8_method_10_code 22 = .ok (.iinc 2 1, 3) := by decide +kernel
theorem d_Ref_ternary_25 : decode prog_8_method_10_code 25 = .ok (.goto (-23), 3) := by decide +kernel
theorem d_Ref_ternary_28 : decode prog_8_method_10_code 28 = .ok (.return_, 1) := by decide +kernel
theorem d_Ref_error_0 : decode prog_8_method_11_code 0 = .ok (.iconst 0, 1) := by decide +kernel
theorem d_Ref_error_1 : decode prog_8_method_11_code 1 = .ok (.istore_n 2, 1) := by decide +kernel
theorem d_Ref_error_2 : decode prog_8_method_11_code 2 = .ok (.iload_n 2, 1) := by decide +kernel
theorem d_Ref_error_3 : decode prog_8_method_11_code 3 = .ok (.aload_n 0, 1) := by decide +kernel
theorem d_Ref_error_4 : decode prog_8_method_11_code 4 = .ok (.getfield 7, 3) := by decide +kernel
theorem d_Ref_error_7 : decode prog_8_method_11_code 7 = .ok (.if_icmp .ge 51, 3) := by decide +kernel
theorem d_Ref_error_10 : decode prog_8_method_11_code 10 = .ok (.aload_n 0, 1) := by decide +kernel
theorem d_Ref_error_11 : decode prog_8_method_11_code 11 = .ok (.invokevirtual 85, 3) := by decide +kernel
theorem d_Ref_error_14 : decode prog_8_method_11_code 14 = .ok (.istore_n 3, 1) := by decide +kernel
theorem d_Ref_error_15 : decode prog_8_method_11_code 15 = .ok (.aload_n 1, 1) := by decide +kernel
theorem d_Ref_error_16 : decode prog_8_method_11_code 16 = .ok (.iload_n 2, 1) := by decide +kernel
theorem d_Ref_error_17 : decode prog_8_method_11_code 17 = .ok (.iload_n 3, 1) := by decide +kernel
theorem d_Ref_error_18 : decode prog_8_method_11_code 18 = .ok (.iconst 1, 1) := by decide +kernel
theorem d_Ref_error_19 : decode prog_8_method_11_code 19 = .ok (.iand, 1) := by decide +kernel
theorem d_Ref_error_20 : decode prog_8_method_11_code 20 = .ok (.iload_n 3, 1) := by decide +kernel
theorem d_Ref_error_21 : decode prog_8_method_11_code 21 = .ok (.iconst 1, 1) := by decide +kernel
theorem d_Ref_error_22 : decode prog_8_method_11_code 22 = .ok (.ishr, 1) := by decide +kernel
theorem d_Ref_error_23 : decode prog_8_method_11_code 23 = .ok (.iconst 1, 1) := by decide +kernel
theorem d_Ref_error_24 : decode prog_8_method_11_code 24 = .ok (.iand, 1) := by decide +kernel
theorem d_Ref_error_25 : decode prog_8_method_11_code 25 = .ok (.iadd, 1) := by decide +kernel
theorem d_Ref_error_26 : decode prog_8_method_11_code 26 = .ok (.iload_n 3, 1) := by decide +kernel
theorem d_Ref_error_27 : decode prog_8_method_11_code 27 = .ok (.iconst 2, 1) := by decide +kernel
theorem d_Ref_error_28 : decode prog_8_method_11_code 28 = .ok (.ishr, 1) := by decide +kernel
theorem d_Ref_error_29 : decode prog_8_method_11_code 29 = .ok (.iconst 1, 1) := by decide +kernel
theorem d_Ref_error_30 : decode prog_8_method_11_code 30 = .ok (.iand, 1) := by decide +kernel
theorem d_Ref_error_31 : decode prog_8_method_11_code 31 = .ok (.iadd, 1) := by decide +kernel
theorem d_Ref_error_32 : decode prog_8_method_11_code 32 = .ok (.iload_n 3, 1) := by decide +kernel
theorem d_Ref_error_33 : decode prog_8_method_11_code 33 = .ok (.iconst 3, 1) := by decide +kernel
theorem d_Ref_error_34 : decode prog_8_method_11_code 34 = .ok (.ishr, 1) := by decide +kernel
theorem d_Ref_error_35 : decode prog_8_method_11_code 35 = .ok (.iconst 1, 1) := by decide +kernel
theorem d_Ref_error_36 : decode prog_8_method_11_code 36 = .ok (.iand, 1) := by decide +kernel
theorem d_Ref_error_37 : decode prog_8_method_11_code 37 = .ok (.isub, 1) := by decide +kernel
theorem d_Ref_error_38 : decode prog_8_method_11_code 38 = .ok (.iload_n 3, 1) := by decide +kernel
theorem d_Ref_error_39 : decode prog_8_method_11_code 39 = .ok (.iconst 4, 1) := by decide +kernel
theorem d_Ref_error_40 : decode prog_8_method_11_code 40 = .ok (.ishr, 1) := by decide +kernel
theorem d_Ref_error_41 : decode prog_8_method_11_code 41 = .ok (.iconst 1, 1) := by decide +kernel
theorem d_Ref_error_42 : decode prog_8_method_11_code 42 = .ok (.iand, 1) := by decide +kernel
theorem d_Ref_error_43 : decode prog_8_method_11_code 43 = .ok (.isub, 1) := by decide +kernel
theorem d_Ref_error_44 : decode prog_8_method_11_code 44 = .ok (.iload_n 3, 1) := by decide +kernel
theorem d_Ref_error_45 : decode prog_8_method_11_code 45 = .ok (.iconst 5, 1) := by decide +kernel
theorem d_Ref_error_46 : decode prog_8_method_11_code 46 = .ok (.ishr, 1) := by decide +kernel
theorem d_Ref_error_47 : decode prog_8_method_11_code 47 = .ok (.iconst 1, 1) := by decide +kernel
theorem d_Ref_error_48 : decode prog_8_method_11_code 48 = .ok (.iand, 1) := by decide +kernel
theorem d_Ref_error_49 : decode prog_8_method_11_code 49 = .ok (.isub, 1) := by decide +kernel
theorem d_Ref_error_50 : decode prog_8_method_11_code 50 = .ok (.i2l, 1) := by decide +kernel
theorem d_Ref_error_51 : decode prog_8_method_11_code 51 = .ok (.lastore, 1) := by decide +kernel
theorem d_Ref_error_52 : decode prog_8_method_11_code 52 = .ok (.iinc 2 1, 3) := by decide +kernel
theorem d_Ref_error_55 : decode prog_8_method_11_code 55 = .ok (.goto (-53), 3) := by decide +kernel
theorem d_Ref_error_58 : decode prog_8_method_11_code 58 = .ok (.return_, 1) := by decide +kernel
theorem d_Ref_uniform_0 : decode prog_8_method_12_code 0 = .ok (.iconst 0, 1) := by decide +kernel
theorem d_Ref_uniform_1 : decode prog_8_method_12_code 1 = .ok (.istore_n 2, 1) := by decide +kernel
theorem d_Ref_uniform_2 : decode prog_8_method_12_code 2 = .ok (.iload_n 2, 1) := by decide +kernel
theorem d_Ref_uniform_3 : decode prog_8_method_12_code 3 = .ok (.aload_n 0, 1) := by decide +kernel
theorem d_Ref_uniform_4 : decode prog_8_method_12_code 4 = .ok (.getfield 7, 3) := by decide +kernel
theorem d_Ref_uniform_7 : decode prog_8_method_12_code 7 = .ok (.if_icmp .ge 33, 3) := by decide +kernel
theorem d_Ref_uniform_10 : decode prog_8_method_12_code 10 = .ok (.aload_n 0, 1) := by decide +kernel
theorem d_Ref_uniform_11 : decode prog_8_method_12_code 11 = .ok (.invokevirtual 85, 3) := by decide +kernel
theorem d_Ref_uniform_14 : decode prog_8_method_12_code 14 = .ok (.i2l, 1) := by decide +kernel
theorem d_Ref_uniform_15 : decode prog_8_method_12_code 15 = .ok (.lstore_n 3, 1) := by decide +kernel
theorem d_Ref_uniform_16 : decode prog_8_method_12_code 16 = .ok (.aload_n 1, 1) := by decide +kernel
theorem d_Ref_uniform_17 : decode prog_8_method_12_code 17 = .ok (.iload_n 2, 1) := by decide +kernel
theorem d_Ref_uniform_18 : decode prog_8_method_12_code 18 = .ok (.ldc2_w 89, 3) := by decide +kernel
theorem d_Ref_uniform_21 : decode prog_8_method_12_code 21 = .ok (.lload_n 3, 1) := by decide +kernel
theorem d_Ref_uniform_22 : decode prog_8_method_12_code 22 = .ok (.lmul, 1) := by decide +kernel
theorem d_Ref_uniform_23 : decode prog_8_method_12_code 23 = .ok (.aload_n 0, 1) := by decide +kernel
theorem d_Ref_uniform_24 : decode prog_8_method_12_code 24 = .ok (.invokevirtual 85, 3) := by decide +kernel
theorem d_Ref_uniform_27 : decode prog_8_method_12_code 27 = .ok (.i2l, 1) := by decide +kernel
theorem d_Ref_uniform_28 : decode prog_8_method_12_code 28 = .ok (.ladd, 1) := by decide +kernel
theorem d_Ref_uniform_29 : decode prog_8_method_12_code 29 = .ok (.ldc2_w 72, 3) := by decide +kernel
theorem d_Ref_uniform_32 : decode prog_8_method_12_code 32 = .ok (.lrem, 1) := by decide +kernel
theorem d_Ref_uniform_33 : decode prog_8_method_12_code 33 = .ok (.lastore, 1) := by decide +kernel
theorem d_Ref_uniform_34 : decode prog_8_method_12_code 34 = .ok (.iinc 2 1, 3) := by decide +kernel
theorem d_Ref_uniform_37 : decode prog_8_method_12_code 37 = .ok (.goto (-35), 3) := by decide +kernel
theorem d_Ref_uniform_40 : decode prog_8_method_12_code 40 = .ok (.return_, 1) := by decide +kernel
theorem d_Ref_pairs_0 : decode prog_8_method_13_code 0 = .ok (.lconst 1, 1) := by decide +kernel
theorem d_Ref_pairs_1 : decode prog_8_method_13_code 1 = .ok (.lstore_n 2, 1) := by decide +kernel
theorem d_Ref_pairs_2 : decode prog_8_method_13_code 2 = .ok (.iconst 0, 1) := by decide +kernel
theorem d_Ref_pairs_3 : decode prog_8_method_13_code 3 = .ok (.istore 4, 2) := by decide +kernel
theorem d_Ref_pairs_5 : decode prog_8_method_13_code 5 = .ok (.iload 4, 2) := by decide +kernel
theorem d_Ref_pairs_7 : decode prog_8_method_13_code 7 = .ok (.bipush 6, 2) := by decide +kernel
theorem d_Ref_pairs_9 : decode prog_8_method_13_code 9 = .ok (.if_icmp .ge 148, 3) := by decide +kernel
theorem d_Ref_pairs_12 : decode prog_8_method_13_code 12 = .ok (.aload_n 0, 1) := by decide +kernel
theorem d_Ref_pairs_13 : decode prog_8_method_13_code 13 = .ok (.aload_n 0, 1) := by decide +kernel
theorem d_Ref_pairs_14 : decode prog_8_method_13_code 14 = .ok (.getfield 63, 3) := by decide +kernel
theorem d_Ref_pairs_17 : decode prog_8_method_13_code 17 = .ok (.invokevirtual 91, 3) := by decide +kernel
theorem d_Ref_pairs_20 : decode prog_8_method_13_code 20 = .ok (.aload_n 0, 1) := by decide +kernel
theorem d_Ref_pairs_21 : decode prog_8_method_13_code 21 = .ok (.aload_n 0, 1) := by decide +kernel
theorem d_Ref_pairs_22 : decode prog_8_method_13_code 22 = .ok (.getfield 66, 3) := by decide +kernel
theorem d_Ref_pairs_25 : decode prog_8_method_13_code 25 = .ok (.invokevirtual 95, 3) := by decide +kernel
theorem d_Ref_pairs_28 : decode prog_8_method_13_code 28 = .ok (.aload_n 0, 1) := by decide +kernel
theorem d_Ref_pairs_29 : decode prog_8_method_13_code 29 = .ok (.aload_n 0, 1) := by decide +kernel
theorem d_Ref_pairs_30 : decode prog_8_method_13_code 30 = .ok (.getfield 63, 3) := by decide +kernel
theorem d_Ref_pairs_33 : decode prog_8_method_13_code 33 = .ok (.aload_n 0, 1) := by decide +kernel
theorem d_Ref_pairs_34 : decode prog_8_method_13_code 34 = .ok (.getfield 16, 3) := by decide +kernel
theorem d_Ref_pairs_37 : decode prog_8_method_13_code 37 = .ok (.aload_n 0, 1) := by decide +kernel
theorem d_Ref_pairs_38 : decode prog_8_method_13_code 38 = .ok (.getfield 57, 3) := by decide +kernel
theorem d_Ref_pairs_41 : decode prog_8_method_13_code 41 = .ok (.invokevirtual 98, 3) := by decide +kernel
theorem d_Ref_pairs_44 : decode prog_8_method_13_code 44 = .ok (.iconst 0, 1) := by decide +kernel
theorem d_Ref_pairs_45 : decode prog_8_method_13_code 45 = .ok (.istore 5, 2) := by decide +kernel
theorem d_Ref_pairs_47 : decode prog_8_method_13_code 47 = .ok (.iload 5, 2) := by decide +kernel
theorem d_Ref_pairs_49 : decode prog_8_method_13_code 49 = .ok (.aload_n 0, 1) := by decide +kernel
theorem d_Ref_pairs_50 : decode prog_8_method_13_code 50 = .ok (.getfield 7, 3) := by decide +kernel
theorem d_Ref_pairs_53 : decode prog_8_method_13_code 53 = .ok (.if_icmp .ge 92, 3) := by decide +kernel
theorem d_Ref_pairs_56 : decode prog_8_method_13_code 56 = .ok (.aload_n 0, 1) := by decide +kernel
theorem d_Ref_pairs_57 : decode prog_8_method_13_code 57 = .ok (.getfield 26, 3) := by decide +kernel
theorem d_Ref_pairs_60 : decode prog_8_method_13_code 60 = .ok (.iload_n 1, 1) := by decide +kernel
theorem d_Ref_pairs_61 : decode prog_8_method_13_code 61 = .ok (.bipush 6, 2) := by decide +kernel
theorem d_Ref_pairs_63 : decode prog_8_method_13_code 63 = .ok (.imul, 1) := by decide +kernel
theorem d_Ref_pairs_64 : decode prog_8_method_13_code 64 = .ok (.iload 4, 2) := by decide +kernel
theorem d_Ref_pairs_66 : decode prog_8_method_13_code 66 = .ok (.iadd, 1) := by decide +kernel
theorem d_Ref_pairs_67 : decode prog_8_method_13_code 67 = .ok (.bipush 32, 2) := by decide +kernel
theorem d_Ref_pairs_69 : decode prog_8_method_13_code 69 = .ok (.imul, 1) := by decide +kernel
theorem d_Ref_pairs_70 : decode prog_8_method_13_code 70 = .ok (.iload 5, 2) := by decide +kernel
theorem d_Ref_pairs_72 : decode prog_8_method_13_code 72 = .ok (.iadd, 1) := by decide +kernel
theorem d_Ref_pairs_73 : decode prog_8_method_13_code 73 = .ok (.aload_n 0, 1) := by decide +kernel
theorem d_Ref_pairs_74 : decode prog_8_method_13_code 74 = .ok (.getfield 57, 3) := by decide +kernel
theorem d_Ref_pairs_77 : decode prog_8_method_13_code 77 = .ok (.iload 5, 2) := by decide +kernel
theorem d_Ref_pairs_79 : decode prog_8_method_13_code 79 = .ok (.laload, 1) := by decide +kernel
theorem d_Ref_pairs_80 : decode prog_8_method_13_code 80 = .ok (.aload_n 0, 1) := by decide +kernel
theorem d_Ref_pairs_81 : decode prog_8_method_13_code 81 = .ok (.getfield 66, 3) := by decide +kernel
theorem d_Ref_pairs_84 : decode prog_8_method_13_code 84 = .ok (.iload 5, 2) := by decide +kernel
theorem d_Ref_pairs_86 : decode prog_8_method_13_code 86 = .ok (.laload, 1) := by decide +kernel
theorem d_Ref_pairs_87 : decode prog_8_method_13_code 87 = .ok (.ladd, 1) := by decide +kernel
theorem d_Ref_pairs_88 : decode prog_8_method_13_code 88 = .ok (.lneg, 1) := by decide +kernel
theorem d_Ref_pairs_89 : decode prog_8_method_13_code 89 = .ok (.lload_n 2, 1) := by decide +kernel
theorem d_Ref_pairs_90 : decode prog_8_method_13_code 90 = .ok (.ldc2_w 72, 3) := by decide +kernel
theorem d_Ref_pairs_93 : decode prog_8_method_13_code 93 = .ok (.lrem, 1) := by decide +kernel
theorem d_Ref_pairs_94 : decode prog_8_method_13_code 94 = .ok (.aload_n 0, 1) := by decide +kernel
theorem d_Ref_pairs_95 : decode prog_8_method_13_code 95 = .ok (.getfield 54, 3) := by decide +kernel
theorem d_Ref_pairs_98 : decode prog_8_method_13_code 98 = .ok (.iload 5, 2) := by decide +kernel
theorem d_Ref_pairs_100 : decode prog_8_method_13_code 100 = .ok (.laload, 1) := by decide +kernel
theorem d_Ref_pairs_101 : decode prog_8_method_13_code 101 = .ok (.invokestatic 74, 3) := by decide +kernel
theorem d_Ref_pairs_104 : decode prog_8_method_13_code 104 = .ok (.lmul, 1) := by decide +kernel
theorem d_Ref_pairs_105 : decode prog_8_method_13_code 105 = .ok (.ldc2_w 72, 3) := by decide +kernel
theorem d_Ref_pairs_108 : decode prog_8_method_13_code 108 = .ok (.lrem, 1) := by decide +kernel
theorem d_Ref_pairs_109 : decode prog_8_method_13_code 109 = .ok (.ladd, 1) := by decide +kernel
theorem d_Ref_pairs_110 : decode prog_8_method_13_code 110 = .ok (.invokestatic 74, 3) := by decide +kernel
theorem d_Ref_pairs_113 : decode prog_8_method_13_code 113 = .ok (.lastore, 1) := by decide +kernel
theorem d_Ref_pairs_114 : decode prog_8_method_13_code 114 = .ok (.aload_n 0, 1) := by decide +kernel
theorem d_Ref_pairs_115 : decode prog_8_method_13_code 115 = .ok (.getfield 29, 3) := by decide +kernel
theorem d_Ref_pairs_118 : decode prog_8_method_13_code 118 = .ok (.iload_n 1, 1) := by decide +kernel
theorem d_Ref_pairs_119 : decode prog_8_method_13_code 119 = .ok (.bipush 6, 2) := by decide +kernel
theorem d_Ref_pairs_121 : decode prog_8_method_13_code 121 = .ok (.imul, 1) := by decide +kernel
theorem d_Ref_pairs_122 : decode prog_8_method_13_code 122 = .ok (.iload 4, 2) := by decide +kernel
theorem d_Ref_pairs_124 : decode prog_8_method_13_code 124 = .ok (.iadd, 1) := by decide +kernel
theorem d_Ref_pairs_125 : decode prog_8_method_13_code 125 = .ok (.bipush 32, 2) := by decide +kernel
theorem d_Ref_pairs_127 : decode prog_8_method_13_code 127 = .ok (.imul, 1) := by decide +kernel
theorem d_Ref_pairs_128 : decode prog_8_method_13_code 128 = .ok (.iload 5, 2) := by decide +kernel
theorem d_Ref_pairs_130 : decode prog_8_method_13_code 130 = .ok (.iadd, 1) := by decide +kernel
theorem d_Ref_pairs_131 : decode prog_8_method_13_code 131 = .ok (.aload_n 0, 1) := by decide +kernel
theorem d_Ref_pairs_132 : decode prog_8_method_13_code 132 = .ok (.getfield 63, 3) := by decide +kernel
theorem d_Ref_pairs_135 : decode prog_8_method_13_code 135 = .ok (.iload 5, 2) := by decide +kernel
theorem d_Ref_pairs_137 : decode prog_8_method_13_code 137 = .ok (.laload, 1) := by decide +kernel
theorem d_Ref_pairs_138 : decode prog_8_method_13_code 138 = .ok (.lastore, 1) := by decide +kernel
theorem d_Ref_pairs_139 : decode prog_8_method_13_code 139 = .ok (.iinc 5 1, 3) := by decide +kernel
theorem d_Ref_pairs_142 : decode prog_8_method_13_code 142 = .ok (.goto (-95), 3) := by decide +kernel
theorem d_Ref_pairs_145 : decode prog_8_method_13_code 145 = .ok (.lload_n 2, 1) := by decide +kernel
theorem d_Ref_pairs_146 : decode prog_8_method_13_code 146 = .ok (.ldc2_w 102, 3) := by decide +kernel
theorem d_Ref_pairs_149 : decode prog_8_method_13_code 149 = .ok (.lmul, 1) := by decide +kernel
theorem d_Ref_pairs_150 : decode prog_8_method_13_code 150 = .ok (.lstore_n 2, 1) := by decide +kernel
theorem d_Ref_pairs_151 : decode prog_8_method_13_code 151 = .ok (.iinc 4 1, 3) := by decide +kernel
theorem d_Ref_pairs_154 : decode prog_8_method_13_code 154 = .ok (.goto (-149), 3) := by decide +kernel
theorem d_Ref_pairs_157 : decode prog_8_method_13_code 157 = .ok (.return_, 1) := by decide +kernel
theorem d_Ref_empty__0 : decode prog_8_method_14_code 0 = .ok (.iconst 0, 1) := by decide +kernel
theorem d_Ref_empty__1 : decode prog_8_method_14_code 1 = .ok (.istore_n 1, 1) := by decide +kernel
theorem d_Ref_empty__2 : decode prog_8_method_14_code 2 = .ok (.iload_n 1, 1) := by decide +kernel
theorem d_Ref_empty__3 : decode prog_8_method_14_code 3 = .ok (.bipush 16, 2) := by decide +kernel
theorem d_Ref_empty__5 : decode prog_8_method_14_code 5 = .ok (.if_icmp .ge 16, 3) := by decide +kernel
theorem d_Ref_empty__8 : decode prog_8_method_14_code 8 = .ok (.aload_n 0, 1) := by decide +kernel
theorem d_Ref_empty__9 : decode prog_8_method_14_code 9 = .ok (.getfield 39, 3) := by decide +kernel
theorem d_Ref_empty__12 : decode prog_8_method_14_code 12 = .ok (.iload_n 1, 1) := by decide +kernel
theorem d_Ref_empty__13 : decode prog_8_method_14_code 13 = .ok (.iconst 0, 1) := by decide +kernel
theorem d_Ref_empty__14 : decode prog_8_method_14_code 14 = .ok (.iastore, 1) := by decide +kernel
theorem d_Ref_empty__15 : decode prog_8_method_14_code 15 = .ok (.iinc 1 1, 3) := by decide +kernel
theorem d_Ref_empty__18 : decode prog_8_method_14_code 18 = .ok (.goto (-16), 3) := by decide +kernel
theorem d_Ref_empty__21 : decode prog_8_method_14_code 21 = .ok (.return_, 1) := by decide +kernel
theorem d_Ref_begin_0 : decode prog_8_method_15_code 0 = .ok (.aload_n 0, 1) := by decide +kernel
theorem d_Ref_begin_1 : decode prog_8_method_15_code 1 = .ok (.iload_n 1, 1) := by decide +kernel
theorem d_Ref_begin_2 : decode prog_8_method_15_code 2 = .ok (.ifCond .lt 8, 3) := by decide +kernel
theorem d_Ref_begin_5 : decode prog_8_method_15_code 5 = .ok (.iload_n 1, 1) := by decide +kernel
theorem d_Ref_begin_6 : decode prog_8_method_15_code 6 = .ok (.iconst 2, 1) := by decide +kernel
theorem d_Ref_begin_7 : decode prog_8_method_15_code 7 = .ok (.if_icmp .le 7, 3) := by decide +kernel
theorem d_Ref_begin_10 : decode prog_8_method_15_code 10 = .ok (.iconst 1, 1) := by decide +kernel
theorem d_Ref_begin_11 : decode prog_8_method_15_code 11 = .ok (.goto 4, 3) := by decide +kernel
theorem d_Ref_begin_14 : decode prog_8_method_15_code 14 = .ok (.iconst 0, 1) := by decide +kernel
theorem d_Ref_begin_15 : decode prog_8_method_15_code 15 = .ok (.putfield 69, 3) := by decide +kernel
theorem d_Ref_begin_18 : decode prog_8_method_15_code 18 = .ok (.aload_n 0, 1) := by decide +kernel
theorem d_Ref_begin_19 : decode prog_8_method_15_code 19 = .ok (.getfield 69, 3) := by decide +kernel
theorem d_Ref_begin_22 : decode prog_8_method_15_code 22 = .ok (.ifCond .le 5, 3) := by decide +kernel
theorem d_Ref_begin_25 : decode prog_8_method_15_code 25 = .ok (.iconst 0, 1) := by decide +kernel
theorem d_Ref_begin_26 : decode prog_8_method_15_code 26 = .ok (.ireturn, 1) := by decide +kernel
theorem d_Ref_begin_27 : decode prog_8_method_15_code 27 = .ok (.aload_n 0, 1) := by decide +kernel
theorem d_Ref_begin_28 : decode prog_8_method_15_code 28 = .ok (.iload_n 1, 1) := by decide +kernel
theorem d_Ref_begin_29 : decode prog_8_method_15_code 29 = .ok (.putfield 104, 3) := by decide +kernel
theorem d_Ref_begin_32 : decode prog_8_method_15_code 32 = .ok (.aload_n 0, 1) := by decide +kernel
theorem d_Ref_begin_33 : decode prog_8_method_15_code 33 = .ok (.bipush 8, 2) := by decide +kernel
theorem d_Ref_begin_35 : decode prog_8_method_15_code 35 = .ok (.iload_n 1, 1) := by decide +kernel
theorem d_Ref_begin_36 : decode prog_8_method_15_code 36 = .ok (.ishl, 1) := by decide +kernel
theorem d_Ref_begin_37 : decode prog_8_method_15_code 37 = .ok (.putfield 7, 3) := by decide +kernel
theorem d_Ref_begin_40 : decode prog_8_method_15_code 40 = .ok (.aload_n 0, 1) := by decide +kernel
theorem d_Ref_begin_41 : decode prog_8_method_15_code 41 = .ok (.iload_n 1, 1) := by decide +kernel
theorem d_Ref_begin_42 : decode prog_8_method_15_code 42 = .ok (.ifCond .ne 8, 3) := by decide +kernel
theorem d_Ref_begin_45 : decode prog_8_method_15_code 45 = .ok (.bipush 17, 2) := by decide +kernel
theorem d_Ref_begin_47 : decode prog_8_method_15_code 47 = .ok (.goto 16, 3) := by decide +kernel
theorem d_Ref_begin_50 : decode prog_8_method_15_code 50 = .ok (.iload_n 1, 1) := by decide +kernel
theorem d_Ref_begin_51 : decode prog_8_method_15_code 51 = .ok (.iconst 1, 1) := by decide +kernel
theorem d_Ref_begin_52 : decode prog_8_method_15_code 52 = .ok (.if_icmp .ne 8, 3) := by decide +kernel
theorem d_Ref_begin_55 : decode prog_8_method_15_code 55 = .ok (.bipush 97, 2) := by decide +kernel
theorem d_Ref_begin_57 : decode prog_8_method_15_code 57 = .ok (.goto 6, 3) := by decide +kernel
theorem d_Ref_begin_60 : decode prog_8_method_15_code 60 = .ok (.sipush 193, 3) := by decide +kernel
theorem d_Ref_begin_63 : decode prog_8_method_15_code 63 = .ok (.putfield 13, 3) := by decide +kernel
theorem d_Ref_begin_66 : decode prog_8_method_15_code 66 = .ok (.aload_n 0, 1) := by decide +kernel
theorem d_Ref_begin_67 : decode prog_8_method_15_code 67 = .ok (.iload_n 2, 1) := by decide +kernel
theorem d_Ref_begin_68 : decode prog_8_method_15_code 68 = .ok (.putfield 81, 3) := by decide +kernel
theorem d_Ref_begin_71 : decode prog_8_method_15_code 71 = .ok (.aload_n 0, 1) := by decide +kernel
theorem d_Ref_begin_72 : decode prog_8_method_15_code 72 = .ok (.iconst 0, 1) := by decide +kernel
theorem d_Ref_begin_73 : decode prog_8_method_15_code 73 = .ok (.putfield 107, 3) := by decide +kernel
theorem d_Ref_begin_76 : decode prog_8_method_15_code 76 = .ok (.aload_n 0, 1) := by decide +kernel
theorem d_Ref_begin_77 : decode prog_8_method_15_code 77 = .ok (.iconst 0, 1) := by decide +kernel
theorem d_Ref_begin_78 : decode prog_8_method_15_code 78 = .ok (.putfield 111, 3) := by decide +kernel
theorem d_Ref_begin_81 : decode prog_8_method_15_code 81 = .ok (.aload_n 0, 1) := by decide +kernel
theorem d_Ref_begin_82 : decode prog_8_method_15_code 82 = .ok (.invokevirtual 114, 3) := by decide +kernel
theorem d_Ref_begin_85 : decode prog_8_method_15_code 85 = .ok (.iconst 0, 1) := by decide +kernel
theorem d_Ref_begin_86 : decode prog_8_method_15_code 86 = .ok (.istore_n 3, 1) := by decide +kernel
theorem d_Ref_begin_87 : decode prog_8_method_15_code 87 = .ok (.iload_n 3, 1) := by decide +kernel
theorem d_Ref_begin_88 : decode prog_8_method_15_code 88 = .ok (.sipush 256, 3) := by decide +kernel
theorem d_Ref_begin_91 : decode prog_8_method_15_code 91 = .ok (.if_icmp .ge 16, 3) := by decide +kernel
theorem d_Ref_begin_94 : decode prog_8_method_15_code 94 = .ok (.aload_n 0, 1) := by decide +kernel
theorem d_Ref_begin_95 : decode prog_8_method_15_code 95 = .ok (.getfield 36, 3) := by decide +kernel
theorem d_Ref_begin_98 : decode prog_8_method_15_code 98 = .ok (.iload_n 3, 1) := by decide +kernel
theorem d_Ref_begin_99 : decode prog_8_method_15_code 99 = .ok (.iconst 0, 1) := by decide +kernel
theorem d_Ref_begin_100 : decode prog_8_method_15_code 100 = .ok (.iastore, 1) := by decide +kernel
theorem d_Ref_begin_101 : decode prog_8_method_15_code 101 = .ok (.iinc 3 1, 3) := by decide +kernel
theorem d_Ref_begin_104 : decode prog_8_method_15_code 104 = .ok (.goto (-17), 3) := by decide +kernel
theorem d_Ref_begin_107 : decode prog_8_method_15_code 107 = .ok (.aload_n 0, 1) := by decide +kernel
theorem d_Ref_begin_108 : decode prog_8_method_15_code 108 = .ok (.getfield 7, 3) := by decide +kernel
theorem d_Ref_begin_111 : decode prog_8_method_15_code 111 = .ok (.ireturn, 1) := by decide +kernel
theorem d_Ref_keys_0 : decode prog_8_method_16_code 0 = .ok (.aload_n 0, 1) := by decide +kernel
theorem d_Ref_keys_1 : decode prog_8_method_16_code 1 = .ok (.iconst 0, 1) := by decide +kernel
theorem d_Ref_keys_2 : decode prog_8_method_16_code 2 = .ok (.putfield 69, 3) := by decide +kernel
theorem d_Ref_keys_5 : decode prog_8_method_16_code 5 = .ok (.aload_n 0, 1) := by decide +kernel
theorem d_Ref_keys_6 : decode prog_8_method_16_code 6 = .ok (.aload_n 0, 1) := by decide +kernel
theorem d_Ref_keys_7 : decode prog_8_method_16_code 7 = .ok (.getfield 16, 3) := by decide +kernel
theorem d_Ref_keys_10 : decode prog_8_method_16_code 10 = .ok (.invokevirtual 117, 3) := by decide +kernel
theorem d_Ref_keys_13 : decode prog_8_method_16_code 13 = .ok (.aload_n 0, 1) := by decide +kernel
theorem d_Ref_keys_14 : decode prog_8_method_16_code 14 = .ok (.aload_n 0, 1) := by decide +kernel
theorem d_Ref_keys_15 : decode prog_8_method_16_code 15 = .ok (.getfield 23, 3) := by decide +kernel
theorem d_Ref_keys_18 : decode prog_8_method_16_code 18 = .ok (.invokevirtual 91, 3) := by decide +kernel
theorem d_Ref_keys_21 : decode prog_8_method_16_code 21 = .ok (.aload_n 0, 1) := by decide +kernel
theorem d_Ref_keys_22 : decode prog_8_method_16_code 22 = .ok (.aload_n 0, 1) := by decide +kernel
theorem d_Ref_keys_23 : decode prog_8_method_16_code 23 = .ok (.getfield 66, 3) := by decide +kernel
theorem d_Ref_keys_26 : decode prog_8_method_16_code 26 = .ok (.invokevirtual 95, 3) := by decide +kernel
theorem d_Ref_keys_29 : decode prog_8_method_16_code 29 = .ok (.aload_n 0, 1) := by decide +kernel
theorem d_Ref_keys_30 : decode prog_8_method_16_code 30 = .ok (.aload_n 0, 1) := by decide +kernel
theorem d_Ref_keys_31 : decode prog_8_method_16_code 31 = .ok (.getfield 23, 3) := by decide +kernel
theorem d_Ref_keys_34 : decode prog_8_method_16_code 34 = .ok (.aload_n 0, 1) := by decide +kernel
theorem d_Ref_keys_35 : decode prog_8_method_16_code 35 = .ok (.getfield 16, 3) := by decide +kernel
theorem d_Ref_keys_38 : decode prog_8_method_16_code 38 = .ok (.aload_n 0, 1) := by decide +kernel
theorem d_Ref_keys_39 : decode prog_8_method_16_code 39 = .ok (.getfield 57, 3) := by decide +kernel
theorem d_Ref_keys_42 : decode prog_8_method_16_code 42 = .ok (.invokevirtual 98, 3) := by decide +kernel
theorem d_Ref_keys_45 : decode prog_8_method_16_code 45 = .ok (.iconst 0, 1) := by decide +kernel
theorem d_Ref_keys_46 : decode prog_8_method_16_code 46 = .ok (.istore_n 1, 1) := by decide +kernel
theorem d_Ref_keys_47 : decode prog_8_method_16_code 47 = .ok (.iload_n 1, 1) := by decide +kernel
theorem d_Ref_keys_48 : decode prog_8_method_16_code 48 = .ok (.aload_n 0, 1) := by decide +kernel
theorem d_Ref_keys_49 : decode prog_8_method_16_code 49 = .ok (.getfield 7, 3) := by decide +kernel
theorem d_Ref_keys_52 : decode prog_8_method_16_code 52 = .ok (.if_icmp .ge 32, 3) := by decide +kernel
theorem d_Ref_keys_55 : decode prog_8_method_16_code 55 = .ok (.aload_n 0, 1) := by decide +kernel
theorem d_Ref_keys_56 : decode prog_8_method_16_code 56 = .ok (.getfield 20, 3) := by decide +kernel
theorem d_Ref_keys_59 : decode prog_8_method_16_code 59 = .ok (.iload_n 1, 1) := by decide +kernel
theorem d_Ref_keys_60 : decode prog_8_method_16_code 60 = .ok (.aload_n 0, 1) := by decide +kernel
theorem d_Ref_keys_61 : decode prog_8_method_16_code 61 = .ok (.getfield 57, 3) := by decide +kernel
theorem d_Ref_keys_64 : decode prog_8_method_16_code 64 = .ok (.iload_n 1, 1) := by decide +kernel
theorem d_Ref_keys_65 : decode prog_8_method_16_code 65 = .ok (.laload, 1) := by decide +kernel
theorem d_Ref_keys_66 : decode prog_8_method_16_code 66 = .ok (.aload_n 0, 1) := by decide +kernel
theorem d_Ref_keys_67 : decode prog_8_method_16_code 67 = .ok (.getfield 66, 3) := by decide +kernel
theorem d_Ref_keys_70 : decode prog_8_method_16_code 70 = .ok (.iload_n 1, 1) := by decide +kernel
theorem d_Ref_keys_71 : decode prog_8_method_16_code 71 = .ok (.laload, 1) := by decide +kernel
theorem d_Ref_keys_72 : decode prog_8_method_16_code 72 = .ok (.ladd, 1) := by decide +kernel
theorem d_Ref_keys_73 : decode prog_8_method_16_code 73 = .ok (.lneg, 1) := by decide +kernel
theorem d_Ref_keys_74 : decode prog_8_method_16_code 74 = .ok (.invokestatic 74, 3) := by decide +kernel
theorem d_Ref_keys_77 : decode prog_8_method_16_code 77 = .ok (.lastore, 1) := by decide +kernel
theorem d_Ref_keys_78 : decode prog_8_method_16_code 78 = .ok (.iinc 1 1, 3) := by decide +kernel
theorem d_Ref_keys_81 : decode prog_8_method_16_code 81 = .ok (.goto (-34), 3) := by decide +kernel
theorem d_Ref_keys_84 : decode prog_8_method_16_code 84 = .ok (.aload_n 0, 1) := by decide +kernel
theorem d_Ref_keys_85 : decode prog_8_method_16_code 85 = .ok (.aload_n 0, 1) := by decide +kernel
theorem d_Ref_keys_86 : decode prog_8_method_16_code 86 = .ok (.getfield 16, 3) := by decide +kernel
theorem d_Ref_keys_89 : decode prog_8_method_16_code 89 = .ok (.aload_n 0, 1) := by decide +kernel
theorem d_Ref_keys_90 : decode prog_8_method_16_code 90 = .ok (.getfield 16, 3) := by decide +kernel
theorem d_Ref_keys_93 : decode prog_8_method_16_code 93 = .ok (.aload_n 0, 1) := by decide +kernel
theorem d_Ref_keys_94 : decode prog_8_method_16_code 94 = .ok (.getfield 54, 3) := by decide +kernel
theorem d_Ref_keys_97 : decode prog_8_method_16_code 97 = .ok (.invokevirtual 120, 3) := by decide +kernel
theorem d_Ref_keys_100 : decode prog_8_method_16_code 100 = .ok (.aload_n 0, 1) := by decide +kernel
theorem d_Ref_keys_101 : decode prog_8_method_16_code 101 = .ok (.iconst 0, 1) := by decide +kernel
theorem d_Ref_keys_102 : decode prog_8_method_16_code 102 = .ok (.invokevirtual 123, 3) := by decide +kernel
theorem d_Ref_keys_105 : decode prog_8_method_16_code 105 = .ok (.aload_n 0, 1) := by decide +kernel
theorem d_Ref_keys_106 : decode prog_8_method_16_code 106 = .ok (.iconst 1, 1) := by decide +kernel
theorem d_Ref_keys_107 : decode prog_8_method_16_code 107 = .ok (.putfield 107, 3) := by decide +kernel
theorem d_Ref_keys_110 : decode prog_8_method_16_code 110 = .ok (.aload_n 0, 1) := by decide +kernel
theorem d_Ref_keys_111 : decode prog_8_method_16_code 111 = .ok (.iconst 0, 1) := by decide +kernel
theorem d_Ref_keys_112 : decode prog_8_method_16_code 112 = .ok (.putfield 111, 3) := by decide +kernel
theorem d_Ref_keys_115 : decode prog_8_method_16_code 115 = .ok (.aload_n 0, 1) := by decide +kernel
theorem d_Ref_keys_116 : decode prog_8_method_16_code 116 = .ok (.invokevirtual 114, 3) := by decide +kernel
theorem d_Ref_keys_119 : decode prog_8_method_16_code 119 = .ok (.aload_n 0, 1) := by decide +kernel
theorem d_Ref_keys_120 : decode prog_8_method_16_code 120 = .ok (.getfield 7, 3) := by decide +kernel
theorem d_Ref_keys_123 : decode prog_8_method_16_code 123 = .ok (.ireturn, 1) := by decide +kernel
theorem d_Ref_find_0 : decode prog_8_method_17_code 0 = .ok (.iconst 1, 1) := by decide +kernel
theorem d_Ref_find_1 : decode prog_8_method_17_code 1 = .ok (.istore_n 2, 1) := by decide +kernel
theorem d_Ref_find_2 : decode prog_8_method_17_code 2 = .ok (.iload_n 2, 1) := by decide +kernel
theorem d_Ref_find_3 : decode prog_8_method_17_code 3 = .ok (.aload_n 0, 1) := by decide +kernel
theorem d_Ref_find_4 : decode prog_8_method_17_code 4 = .ok (.getfield 111, 3) := by decide +kernel
theorem d_Ref_find_7 : decode prog_8_method_17_code 7 = .ok (.if_icmp .gt 21, 3) := by decide +kernel
theorem d_Ref_find_10 : decode prog_8_method_17_code 10 = .ok (.aload_n 0, 1) := by decide +kernel
theorem d_Ref_find_11 : decode prog_8_method_17_code 11 = .ok (.getfield 32, 3) := by decide +kernel
theorem d_Ref_find_14 : decode prog_8_method_17_code 14 = .ok (.iload_n 2, 1) := by decide +kernel
theorem d_Ref_find_15 : decode prog_8_method_17_code 15 = .ok (.iaload, 1) := by decide +kernel
theorem d_Ref_find_16 : decode prog_8_method_17_code 16 = .ok (.iload_n 1, 1) := by decide +kernel
theorem d_Ref_find_17 : decode prog_8_method_17_code 17 = .ok (.if_icmp .ne 5, 3) := by decide +kernel
theorem d_Ref_find_20 : decode prog_8_method_17_code 20 = .ok (.iload_n 2, 1) := by decide +kernel
theorem d_Ref_find_21 : decode prog_8_method_17_code 21 = .ok (.ireturn, 1) := by decide +kernel
theorem d_Ref_find_22 : decode prog_8_method_17_code 22 = .ok (.iinc 2 1, 3) := by decide +kernel
theorem d_Ref_find_25 : decode prog_8_method_17_code 25 = .ok (.goto (-23), 3) := by decide +kernel
theorem d_Ref_find_28 : decode prog_8_method_17_code 28 = .ok (.iconst 0, 1) := by decide +kernel
theorem d_Ref_find_29 : decode prog_8_method_17_code 29 = .ok (.ireturn, 1) := by decide +kernel
theorem d_Ref_turned_0 : decode prog_8_method_18_code 0 = .ok (.iconst 0, 1) := by decide +kernel
theorem d_Ref_turned_1 : decode prog_8_method_18_code 1 = .ok (.istore 4, 2) := by decide +kernel
theorem d_Ref_turned_3 : decode prog_8_method_18_code 3 = .ok (.iload 4, 2) := by decide +kernel
theorem d_Ref_turned_5 : decode prog_8_method_18_code 5 = .ok (.aload_n 0, 1) := by decide +kernel
theorem d_Ref_turned_6 : decode prog_8_method_18_code 6 = .ok (.getfield 7, 3) := by decide +kernel
theorem d_Ref_turned_9 : decode prog_8_method_18_code 9 = .ok (.if_icmp .ge 56, 3) := by decide +kernel
theorem d_Ref_turned_12 : decode prog_8_method_18_code 12 = .ok (.iload 4, 2) := by decide +kernel
theorem d_Ref_turned_14 : decode prog_8_method_18_code 14 = .ok (.iload_n 2, 1) := by decide +kernel
theorem d_Ref_turned_15 : decode prog_8_method_18_code 15 = .ok (.imul, 1) := by decide +kernel
theorem d_Ref_turned_16 : decode prog_8_method_18_code 16 = .ok (.iconst 2, 1) := by decide +kernel
theorem d_Ref_turned_17 : decode prog_8_method_18_code 17 = .ok (.aload_n 0, 1) := by decide +kernel
theorem d_Ref_turned_18 : decode prog_8_method_18_code 18 = .ok (.getfield 7, 3) := by decide +kernel
theorem d_Ref_turned_21 : decode prog_8_method_18_code 21 = .ok (.imul, 1) := by decide +kernel
theorem d_Ref_turned_22 : decode prog_8_method_18_code 22 = .ok (.irem, 1) := by decide +kernel
theorem d_Ref_turned_23 : decode prog_8_method_18_code 23 = .ok (.istore 5, 2) := by decide +kernel
theorem d_Ref_turned_25 : decode prog_8_method_18_code 25 = .ok (.iload 5, 2) := by decide +kernel
theorem d_Ref_turned_27 : decode prog_8_method_18_code 27 = .ok (.aload_n 0, 1) := by decide +kernel
theorem d_Ref_turned_28 : decode prog_8_method_18_code 28 = .ok (.getfield 7, 3) := by decide +kernel
theorem d_Ref_turned_31 : decode prog_8_method_18_code 31 = .ok (.if_icmp .ge 14, 3) := by decide +kernel
theorem d_Ref_turned_34 : decode prog_8_method_18_code 34 = .ok (.aload_n 3, 1) := by decide +kernel
theorem d_Ref_turned_35 : decode prog_8_method_18_code 35 = .ok (.iload 5, 2) := by decide +kernel
theorem d_Ref_turned_37 : decode prog_8_method_18_code 37 = .ok (.aload_n 1, 1) := by decide +kernel
theorem d_Ref_turned_38 : decode prog_8_method_18_code 38 = .ok (.iload 4, 2) := by decide +kernel
theorem d_Ref_turned_40 : decode prog_8_method_18_code 40 = .ok (.laload, 1) := by decide +kernel
theorem d_Ref_turned_41 : decode prog_8_method_18_code 41 = .ok (.lastore, 1) := by decide +kernel
theorem d_Ref_turned_42 : decode prog_8_method_18_code 42 = .ok (.goto 17, 3) := by decide +kernel
theorem d_Ref_turned_45 : decode prog_8_method_18_code 45 = .ok (.aload_n 3, 1) := by decide +kernel
theorem d_Ref_turned_46 : decode prog_8_method_18_code 46 = .ok (.iload 5, 2) := by decide +kernel
theorem d_Ref_turned_48 : decode prog_8_method_18_code 48 = .ok (.aload_n 0, 1) := by decide +kernel
theorem d_Ref_turned_49 : decode prog_8_method_18_code 49 = .ok (.getfield 7, 3) := by decide +kernel
theorem d_Ref_turned_52 : decode prog_8_method_18_code 52 = .ok (.isub, 1) := by decide +kernel
theorem d_Ref_turned_53 : decode prog_8_method_18_code 53 = .ok (.aload_n 1, 1) := by decide +kernel
theorem d_Ref_turned_54 : decode prog_8_method_18_code 54 = .ok (.iload 4, 2) := by decide +kernel
theorem d_Ref_turned_56 : decode prog_8_method_18_code 56 = .ok (.laload, 1) := by decide +kernel
theorem d_Ref_turned_57 : decode prog_8_method_18_code 57 = .ok (.lneg, 1) := by decide +kernel
theorem d_Ref_turned_58 : decode prog_8_method_18_code 58 = .ok (.lastore, 1) := by decide +kernel
theorem d_Ref_turned_59 : decode prog_8_method_18_code 59 = .ok (.iinc 4 1, 3) := by decide +kernel
theorem d_Ref_turned_62 : decode prog_8_method_18_code 62 = .ok (.goto (-59), 3) := by decide +kernel
theorem d_Ref_turned_65 : decode prog_8_method_18_code 65 = .ok (.return_, 1) := by decide +kernel
theorem d_Ref_turnKey_0 : decode prog_8_method_19_code 0 = .ok (.aload_n 0, 1) := by decide +kernel
theorem d_Ref_turnKey_1 : decode prog_8_method_19_code 1 = .ok (.iconst 0, 1) := by decide +kernel
theorem d_Ref_turnKey_2 : decode prog_8_method_19_code 2 = .ok (.putfield 69, 3) := by decide +kernel
theorem d_Ref_turnKey_5 : decode prog_8_method_19_code 5 = .ok (.iload_n 1, 1) := by decide +kernel
theorem d_Ref_turnKey_6 : decode prog_8_method_19_code 6 = .ok (.iconst 3, 1) := by decide +kernel
theorem d_Ref_turnKey_7 : decode prog_8_method_19_code 7 = .ok (.if_icmp .lt 19, 3) := by decide +kernel
theorem d_Ref_turnKey_10 : decode prog_8_method_19_code 10 = .ok (.iload_n 1, 1) := by decide +kernel
theorem d_Ref_turnKey_11 : decode prog_8_method_19_code 11 = .ok (.iconst 2, 1) := by decide +kernel
theorem d_Ref_turnKey_12 : decode prog_8_method_19_code 12 = .ok (.aload_n 0, 1) := by decide +kernel
theorem d_Ref_turnKey_13 : decode prog_8_method_19_code 13 = .ok (.getfield 7, 3) := by decide +kernel
theorem d_Ref_turnKey_16 : decode prog_8_method_19_code 16 = .ok (.imul, 1) := by decide +kernel
theorem d_Ref_turnKey_17 : decode prog_8_method_19_code 17 = .ok (.if_icmp .ge 9, 3) := by decide +kernel
theorem d_Ref_turnKey_20 : decode prog_8_method_19_code 20 = .ok (.iload_n 1, 1) := by decide +kernel
theorem d_Ref_turnKey_21 : decode prog_8_method_19_code 21 = .ok (.iconst 2, 1) := by decide +kernel
theorem d_Ref_turnKey_22 : decode prog_8_method_19_code 22 = .ok (.irem, 1) := by decide +kernel
theorem d_Ref_turnKey_23 : decode prog_8_method_19_code 23 = .ok (.ifCond .ne 9, 3) := by decide +kernel
theorem d_Ref_turnKey_26 : decode prog_8_method_19_code 26 = .ok (.aload_n 0, 1) := by decide +kernel
theorem d_Ref_turnKey_27 : decode prog_8_method_19_code 27 = .ok (.iconst 1, 1) := by decide +kernel
theorem d_Ref_turnKey_28 : decode prog_8_method_19_code 28 = .ok (.invokevirtual 127, 3) := by decide +kernel
theorem d_Ref_turnKey_31 : decode prog_8_method_19_code 31 = .ok (.ireturn, 1) := by decide +kernel
theorem d_Ref_turnKey_32 : decode prog_8_method_19_code 32 = .ok (.aload_n 0, 1) := by decide +kernel
theorem d_Ref_turnKey_33 : decode prog_8_method_19_code 33 = .ok (.iload_n 1, 1) := by decide +kernel
theorem d_Ref_turnKey_34 : decode prog_8_method_19_code 34 = .ok (.invokevirtual 131, 3) := by decide +kernel
theorem d_Ref_turnKey_37 : decode prog_8_method_19_code 37 = .ok (.istore_n 2, 1) := by decide +kernel
theorem d_Ref_turnKey_38 : decode prog_8_method_19_code 38 = .ok (.aload_n 0, 1) := by decide +kernel
theorem d_Ref_turnKey_39 : decode prog_8_method_19_code 39 = .ok (.getfield 107, 3) := by decide +kernel
theorem d_Ref_turnKey_42 : decode prog_8_method_19_code 42 = .ok (.ifCond .eq 15, 3) := by decide +kernel
theorem d_Ref_turnKey_45 : decode prog_8_method_19_code 45 = .ok (.iload_n 2, 1) := by decide +kernel
theorem d_Ref_turnKey_46 : decode prog_8_method_19_code 46 = .ok (.ifCond .ne 17, 3) := by decide +kernel
theorem d_Ref_turnKey_49 : decode prog_8_method_19_code 49 = .ok (.aload_n 0, 1) := by decide +kernel
theorem d_Ref_turnKey_50 : decode prog_8_method_19_code 50 = .ok (.getfield 111, 3) := by decide +kernel
theorem d_Ref_turnKey_53 : decode prog_8_method_19_code 53 = .ok (.iconst 4, 1) := by decide +kernel
theorem d_Ref_turnKey_54 : decode prog_8_method_19_code 54 = .ok (.if_icmp .ne 9, 3) := by decide +kernel
theorem d_Ref_turnKey_57 : decode prog_8_method_19_code 57 = .ok (.aload_n 0, 1) := by decide +kernel
theorem d_Ref_turnKey_58 : decode prog_8_method_19_code 58 = .ok (.iconst 2, 1) := by decide +kernel
theorem d_Ref_turnKey_59 : decode prog_8_method_19_code 59 = .ok (.invokevirtual 127, 3) := by decide +kernel
theorem d_Ref_turnKey_62 : decode prog_8_method_19_code 62 = .ok (.ireturn, 1) := by decide +kernel
theorem d_Ref_turnKey_63 : decode prog_8_method_19_code 63 = .ok (.iload_n 2, 1) := by decide +kernel
theorem d_Ref_turnKey_64 : decode prog_8_method_19_code 64 = .ok (.ifCond .ne 25, 3) := by decide +kernel
theorem d_Ref_turnKey_67 : decode prog_8_method_19_code 67 = .ok (.aload_n 0, 1) := by decide +kernel
theorem d_Ref_turnKey_68 : decode prog_8_method_19_code 68 = .ok (.dup, 1) := by decide +kernel
theorem d_Ref_turnKey_69 : decode prog_8_method_19_code 69 = .ok (.getfield 111, 3) := by decide +kernel
theorem d_Ref_turnKey_72 : decode prog_8_method_19_code 72 = .ok (.iconst 1, 1) := by decide +kernel
theorem d_Ref_turnKey_73 : decode prog_8_method_19_code 73 = .ok (.iadd, 1) := by decide +kernel
theorem d_Ref_turnKey_74 : decode prog_8_method_19_code 74 = .ok (.putfield 111, 3) := by decide +kernel
theorem d_Ref_turnKey_77 : decode prog_8_method_19_code 77 = .ok (.aload_n 0, 1) := by decide +kernel
theorem d_Ref_turnKey_78 : decode prog_8_method_19_code 78 = .ok (.getfield 111, 3) := by decide +kernel
theorem d_Ref_turnKey_81 : decode prog_8_method_19_code 81 = .ok (.istore_n 2, 1) := by decide +kernel
theorem d_Ref_turnKey_82 : decode prog_8_method_19_code 82 = .ok (.aload_n 0, 1) := by decide +kernel
theorem d_Ref_turnKey_83 : decode prog_8_method_19_code 83 = .ok (.getfield 32, 3) := by decide +kernel
theorem d_Ref_turnKey_86 : decode prog_8_method_19_code 86 = .ok (.iload_n 2, 1) := by decide +kernel
theorem d_Ref_turnKey_87 : decode prog_8_method_19_code 87 = .ok (.iload_n 1, 1) := by decide +kernel
theorem d_Ref_turnKey_88 : decode prog_8_method_19_code 88 = .ok (.iastore, 1) := by decide +kernel
theorem d_Ref_turnKey_89 : decode prog_8_method_19_code 89 = .ok (.aload_n 0, 1) := by decide +kernel
theorem d_Ref_turnKey_90 : decode prog_8_method_19_code 90 = .ok (.aload_n 0, 1) := by decide +kernel
theorem d_Ref_turnKey_91 : decode prog_8_method_19_code 91 = .ok (.getfield 16, 3) := by decide +kernel
theorem d_Ref_turnKey_94 : decode prog_8_method_19_code 94 = .ok (.iload_n 1, 1) := by decide +kernel
theorem d_Ref_turnKey_95 : decode prog_8_method_19_code 95 = .ok (.aload_n 0, 1) := by decide +kernel
theorem d_Ref_turnKey_96 : decode prog_8_method_19_code 96 = .ok (.getfield 54, 3) := by decide +kernel
theorem d_Ref_turnKey_99 : decode prog_8_method_19_code 99 = .ok (.invokevirtual 134, 3) := by decide +kernel
theorem d_Ref_turnKey_102 : decode prog_8_method_19_code 102 = .ok (.aload_n 0, 1) := by decide +kernel
theorem d_Ref_turnKey_103 : decode prog_8_method_19_code 103 = .ok (.iload_n 2, 1) := by decide +kernel
theorem d_Ref_turnKey_104 : decode prog_8_method_19_code 104 = .ok (.invokevirtual 123, 3) := by decide +kernel
theorem d_Ref_turnKey_107 : decode prog_8_method_19_code 107 = .ok (.aload_n 0, 1) := by decide +kernel
theorem d_Ref_turnKey_108 : decode prog_8_method_19_code 108 = .ok (.getfield 111, 3) := by decide +kernel
theorem d_Ref_turnKey_111 : decode prog_8_method_19_code 111 = .ok (.ireturn, 1) := by decide +kernel
theorem d_Ref_noPlain_0 : decode prog_8_method_20_code 0 = .ok (.iload_n 0, 1) := by decide +kernel
theorem d_Ref_noPlain_1 : decode prog_8_method_20_code 1 = .ok (.ifCond .lt 9, 3) := by decide +kernel
theorem d_Ref_noPlain_4 : decode prog_8_method_20_code 4 = .ok (.iload_n 0, 1) := by decide +kernel
theorem d_Ref_noPlain_5 : decode prog_8_method_20_code 5 = .ok (.bipush 7, 2) := by decide +kernel
theorem d_Ref_noPlain_7 : decode prog_8_method_20_code 7 = .ok (.if_icmp .le 7, 3) := by decide +kernel
theorem d_Ref_noPlain_10 : decode prog_8_method_20_code 10 = .ok (.iconst 1, 1) := by decide +kernel
theorem d_Ref_noPlain_11 : decode prog_8_method_20_code 11 = .ok (.goto 4, 3) := by decide +kernel
theorem d_Ref_noPlain_14 : decode prog_8_method_20_code 14 = .ok (.iconst 0, 1) := by decide +kernel
theorem d_Ref_noPlain_15 : decode prog_8_method_20_code 15 = .ok (.ireturn, 1) := by decide +kernel
theorem d_Ref_noCipher_0 : decode prog_8_method_21_code 0 = .ok (.iload_n 0, 1) := by decide +kernel
theorem d_Ref_noCipher_1 : decode prog_8_method_21_code 1 = .ok (.ifCond .lt 9, 3) := by decide +kernel
theorem d_Ref_noCipher_4 : decode prog_8_method_21_code 4 = .ok (.iload_n 0, 1) := by decide +kernel
theorem d_Ref_noCipher_5 : decode prog_8_method_21_code 5 = .ok (.bipush 15, 2) := by decide +kernel
theorem d_Ref_noCipher_7 : decode prog_8_method_21_code 7 = .ok (.if_icmp .le 7, 3) := by decide +kernel
theorem d_Ref_noCipher_10 : decode prog_8_method_21_code 10 = .ok (.iconst 1, 1) := by decide +kernel
theorem d_Ref_noCipher_11 : decode prog_8_method_21_code 11 = .ok (.goto 4, 3) := by decide +kernel
theorem d_Ref_noCipher_14 : decode prog_8_method_21_code 14 = .ok (.iconst 0, 1) := by decide +kernel
theorem d_Ref_noCipher_15 : decode prog_8_method_21_code 15 = .ok (.ireturn, 1) := by decide +kernel
theorem d_Ref_empty_I_0 : decode prog_8_method_22_code 0 = .ok (.iload_n 1, 1) := by decide +kernel
theorem d_Ref_empty_I_1 : decode prog_8_method_22_code 1 = .ok (.invokestatic 138, 3) := by decide +kernel
theorem d_Ref_empty_I_4 : decode prog_8_method_22_code 4 = .ok (.ifCond .ne 12, 3) := by decide +kernel
theorem d_Ref_empty_I_7 : decode prog_8_method_22_code 7 = .ok (.aload_n 0, 1) := by decide +kernel
theorem d_Ref_empty_I_8 : decode prog_8_method_22_code 8 = .ok (.getfield 39, 3) := by decide +kernel
theorem d_Ref_empty_I_11 : decode prog_8_method_22_code 11 = .ok (.iload_n 1, 1) := by decide +kernel
theorem d_Ref_empty_I_12 : decode prog_8_method_22_code 12 = .ok (.iaload, 1) := by decide +kernel
theorem d_Ref_empty_I_13 : decode prog_8_method_22_code 13 = .ok (.ifCond .ne 7, 3) := by decide +kernel
theorem d_Ref_empty_I_16 : decode prog_8_method_22_code 16 = .ok (.iconst 1, 1) := by decide +kernel
theorem d_Ref_empty_I_17 : decode prog_8_method_22_code 17 = .ok (.goto 4, 3) := by decide +kernel
theorem d_Ref_empty_I_20 : decode prog_8_method_22_code 20 = .ok (.iconst 0, 1) := by decide +kernel
theorem d_Ref_empty_I_21 : decode prog_8_method_22_code 21 = .ok (.ireturn, 1) := by decide +kernel
theorem d_Ref_set_0 : decode prog_8_method_23_code 0 = .ok (.aload_n 0, 1) := by decide +kernel
theorem d_Ref_set_1 : decode prog_8_method_23_code 1 = .ok (.iload_n 1, 1) := by decide +kernel
theorem d_Ref_set_2 : decode prog_8_method_23_code 2 = .ok (.invokestatic 142, 3) := by decide +kernel
theorem d_Ref_set_5 : decode prog_8_method_23_code 5 = .ok (.ifCond .ne 15, 3) := by decide +kernel
theorem d_Ref_set_8 : decode prog_8_method_23_code 8 = .ok (.iload_n 2, 1) := by decide +kernel
theorem d_Ref_set_9 : decode prog_8_method_23_code 9 = .ok (.ifCond .lt 11, 3) := by decide +kernel
theorem d_Ref_set_12 : decode prog_8_method_23_code 12 = .ok (.iload_n 2, 1) := by decide +kernel
theorem d_Ref_set_13 : decode prog_8_method_23_code 13 = .ok (.aload_n 0, 1) := by decide +kernel
theorem d_Ref_set_14 : decode prog_8_method_23_code 14 = .ok (.getfield 7, 3) := by decide +kernel
theorem d_Ref_set_17 : decode prog_8_method_23_code 17 = .ok (.if_icmp .lt 7, 3) := by decide +kernel
theorem d_Ref_set_20 : decode prog_8_method_23_code 20 = .ok (.iconst 1, 1) := by decide +kernel
theorem d_Ref_set_21 : decode prog_8_method_23_code 21 = .ok (.goto 4, 3) := by decide +kernel
theorem d_Ref_set_24 : decode prog_8_method_23_code 24 = .ok (.iconst 0, 1) := by decide +kernel
theorem d_Ref_set_25 : decode prog_8_method_23_code 25 = .ok (.putfield 69, 3) := by decide +kernel
theorem d_Ref_set_28 : decode prog_8_method_23_code 28 = .ok (.aload_n 0, 1) := by decide +kernel
theorem d_Ref_set_29 : decode prog_8_method_23_code 29 = .ok (.getfield 69, 3) := by decide +kernel
theorem d_Ref_set_32 : decode prog_8_method_23_code 32 = .ok (.ifCond .le 5, 3) := by decide +kernel
theorem d_Ref_set_35 : decode prog_8_method_23_code 35 = .ok (.iconst 0, 1) := by decide +kernel
theorem d_Ref_set_36 : decode prog_8_method_23_code 36 = .ok (.ireturn, 1) := by decide +kernel
theorem d_Ref_set_37 : decode prog_8_method_23_code 37 = .ok (.aload_n 0, 1) := by decide +kernel
theorem d_Ref_set_38 : decode prog_8_method_23_code 38 = .ok (.getfield 36, 3) := by decide +kernel
theorem d_Ref_set_41 : decode prog_8_method_23_code 41 = .ok (.bipush 32, 2) := by decide +kernel
theorem d_Ref_set_43 : decode prog_8_method_23_code 43 = .ok (.iload_n 1, 1) := by decide +kernel
theorem d_Ref_set_44 : decode prog_8_method_23_code 44 = .ok (.imul, 1) := by decide +kernel
theorem d_Ref_set_45 : decode prog_8_method_23_code 45 = .ok (.iload_n 2, 1) := by decide +kernel
theorem d_Ref_set_46 : decode prog_8_method_23_code 46 = .ok (.iadd, 1) := by decide +kernel
theorem d_Ref_set_47 : decode prog_8_method_23_code 47 = .ok (.iaload, 1) := by decide +kernel
theorem d_Ref_set_48 : decode prog_8_method_23_code 48 = .ok (.istore 4, 2) := by decide +kernel
theorem d_Ref_set_50 : decode prog_8_method_23_code 50 = .ok (.iload_n 3, 1) := by decide +kernel
theorem d_Ref_set_51 : decode prog_8_method_23_code 51 = .ok (.aload_n 0, 1) := by decide +kernel
theorem d_Ref_set_52 : decode prog_8_method_23_code 52 = .ok (.getfield 13, 3) := by decide +kernel
theorem d_Ref_set_55 : decode prog_8_method_23_code 55 = .ok (.irem, 1) := by decide +kernel
theorem d_Ref_set_56 : decode prog_8_method_23_code 56 = .ok (.istore 5, 2) := by decide +kernel
theorem d_Ref_set_58 : decode prog_8_method_23_code 58 = .ok (.aload_n 0, 1) := by decide +kernel
theorem d_Ref_set_59 : decode prog_8_method_23_code 59 = .ok (.getfield 36, 3) := by decide +kernel
theorem d_Ref_set_62 : decode prog_8_method_23_code 62 = .ok (.bipush 32, 2) := by decide +kernel
theorem d_Ref_set_64 : decode prog_8_method_23_code 64 = .ok (.iload_n 1, 1) := by decide +kernel
theorem d_Ref_set_65 : decode prog_8_method_23_code 65 = .ok (.imul, 1) := by decide +kernel
theorem d_Ref_set_66 : decode prog_8_method_23_code 66 = .ok (.iload_n 2, 1) := by decide +kernel
theorem d_Ref_set_67 : decode prog_8_method_23_code 67 = .ok (.iadd, 1) := by decide +kernel
theorem d_Ref_set_68 : decode prog_8_method_23_code 68 = .ok (.iload 5, 2) := by decide +kernel
theorem d_Ref_set_70 : decode prog_8_method_23_code 70 = .ok (.ifCond .ge 13, 3) := by decide +kernel
theorem d_Ref_set_73 : decode prog_8_method_23_code 73 = .ok (.iload 5, 2) := by decide +kernel
theorem d_Ref_set_75 : decode prog_8_method_23_code 75 = .ok (.aload_n 0, 1) := by decide +kernel
theorem d_Ref_set_76 : decode prog_8_method_23_code 76 = .ok (.getfield 13, 3) := by decide +kernel
theorem d_Ref_set_79 : decode prog_8_method_23_code 79 = .ok (.iadd, 1) := by decide +kernel
theorem d_Ref_set_80 : decode prog_8_method_23_code 80 = .ok (.goto 5, 3) := by decide +kernel
theorem d_Ref_set_83 : decode prog_8_method_23_code 83 = .ok (.iload 5, 2) := by decide +kernel
theorem d_Ref_set_85 : decode prog_8_method_23_code 85 = .ok (.iastore, 1) := by decide +kernel
theorem d_Ref_set_86 : decode prog_8_method_23_code 86 = .ok (.iload 4, 2) := by decide +kernel
theorem d_Ref_set_88 : decode prog_8_method_23_code 88 = .ok (.ireturn, 1) := by decide +kernel
theorem d_Ref_get_0 : decode prog_8_method_24_code 0 = .ok (.aload_n 0, 1) := by decide +kernel
theorem d_Ref_get_1 : decode prog_8_method_24_code 1 = .ok (.iload_n 1, 1) := by decide +kernel
theorem d_Ref_get_2 : decode prog_8_method_24_code 2 = .ok (.invokestatic 142, 3) := by decide +kernel
theorem d_Ref_get_5 : decode prog_8_method_24_code 5 = .ok (.ifCond .ne 15, 3) := by decide +kernel
theorem d_Ref_get_8 : decode prog_8_method_24_code 8 = .ok (.iload_n 2, 1) := by decide +kernel
theorem d_Ref_get_9 : decode prog_8_method_24_code 9 = .ok (.ifCond .lt 11, 3) := by decide +kernel
theorem d_Ref_get_12 : decode prog_8_method_24_code 12 = .ok (.iload_n 2, 1) := by decide +kernel
theorem d_Ref_get_13 : decode prog_8_method_24_code 13 = .ok (.aload_n 0, 1) := by decide +kernel
theorem d_Ref_get_14 : decode prog_8_method_24_code 14 = .ok (.getfield 7, 3) := by decide +kernel
theorem d_Ref_get_17 : decode prog_8_method_24_code 17 = .ok (.if_icmp .lt 7, 3) := by decide +kernel
theorem d_Ref_get_20 : decode prog_8_method_24_code 20 = .ok (.iconst 1, 1) := by decide +kernel
theorem d_Ref_get_21 : decode prog_8_method_24_code 21 = .ok (.goto 4, 3) := by decide +kernel
theorem d_Ref_get_24 : decode prog_8_method_24_code 24 = .ok (.iconst 0, 1) := by decide +kernel
theorem d_Ref_get_25 : decode prog_8_method_24_code 25 = .ok (.putfield 69, 3) := by decide +kernel
theorem d_Ref_get_28 : decode prog_8_method_24_code 28 = .ok (.aload_n 0, 1) := by decide +kernel
theorem d_Ref_get_29 : decode prog_8_method_24_code 29 = .ok (.getfield 69, 3) := by decide +kernel
theorem d_Ref_get_32 : decode prog_8_method_24_code 32 = .ok (.ifCond .le 7, 3) := by decide +kernel
theorem d_Ref_get_35 : decode prog_8_method_24_code 35 = .ok (.iconst 0, 1) := by decide +kernel
theorem d_Ref_get_36 : decode prog_8_method_24_code 36 = .ok (.goto 14, 3) := by decide +kernel
theorem d_Ref_get_39 : decode prog_8_method_24_code 39 = .ok (.aload_n 0, 1) := by decide +kernel
theorem d_Ref_get_40 : decode prog_8_method_24_code 40 = .ok (.getfield 36, 3) := by decide +kernel
theorem d_Ref_get_43 : decode prog_8_method_24_code 43 = .ok (.bipush 32, 2) := by decide +kernel
theorem d_Ref_get_45 : decode prog_8_method_24_code 45 = .ok (.iload_n 1, 1) := by decide +kernel
theorem d_Ref_get_46 : decode prog_8_method_24_code 46 = .ok (.imul, 1) := by decide +kernel
theorem d_Ref_get_47 : decode prog_8_method_24_code 47 = .ok (.iload_n 2, 1) := by decide +kernel
theorem d_Ref_get_48 : decode prog_8_method_24_code 48 = .ok (.iadd, 1) := by decide +kernel
theorem d_Ref_get_49 : decode prog_8_method_24_code 49 = .ok (.iaload, 1) := by decide +kernel
theorem d_Ref_get_50 : decode prog_8_method_24_code 50 = .ok (.ireturn, 1) := by decide +kernel
theorem d_Ref_power_0 : decode prog_8_method_25_code 0 = .ok (.iconst 1, 1) := by decide +kernel
theorem d_Ref_power_1 : decode prog_8_method_25_code 1 = .ok (.istore_n 3, 1) := by decide +kernel
theorem d_Ref_power_2 : decode prog_8_method_25_code 2 = .ok (.iconst 0, 1) := by decide +kernel
theorem d_Ref_power_3 : decode prog_8_method_25_code 3 = .ok (.istore 4, 2) := by decide +kernel
theorem d_Ref_power_5 : decode prog_8_method_25_code 5 = .ok (.iload 4, 2) := by decide +kernel
theorem d_Ref_power_7 : decode prog_8_method_25_code 7 = .ok (.iload_n 2, 1) := by decide +kernel
theorem d_Ref_power_8 : decode prog_8_method_25_code 8 = .ok (.if_icmp .ge 18, 3) := by decide +kernel
theorem d_Ref_power_11 : decode prog_8_method_25_code 11 = .ok (.iload_n 3, 1) := by decide +kernel
theorem d_Ref_power_12 : decode prog_8_method_25_code 12 = .ok (.iload_n 1, 1) := by decide +kernel
theorem d_Ref_power_13 : decode prog_8_method_25_code 13 = .ok (.imul, 1) := by decide +kernel
theorem d_Ref_power_14 : decode prog_8_method_25_code 14 = .ok (.aload_n 0, 1) := by decide +kernel
theorem d_Ref_power_15 : decode prog_8_method_25_code 15 = .ok (.getfield 13, 3) := by decide +kernel
theorem d_Ref_power_18 : decode prog_8_method_25_code 18 = .ok (.irem, 1) := by decide +kernel
theorem d_Ref_power_19 : decode prog_8_method_25_code 19 = .ok (.istore_n 3, 1) := by decide +kernel
theorem d_Ref_power_20 : decode prog_8_method_25_code 20 = .ok (.iinc 4 1, 3) := by decide +kernel
theorem d_Ref_power_23 : decode prog_8_method_25_code 23 = .ok (.goto (-18), 3) := by decide +kernel
theorem d_Ref_power_26 : decode prog_8_method_25_code 26 = .ok (.iload_n 3, 1) := by decide +kernel
theorem d_Ref_power_27 : decode prog_8_method_25_code 27 = .ok (.ireturn, 1) := by decide +kernel
theorem d_Ref_root_0 : decode prog_8_method_26_code 0 = .ok (.iconst 2, 1) := by decide +kernel
theorem d_Ref_root_1 : decode prog_8_method_26_code 1 = .ok (.istore_n 1, 1) := by decide +kernel
theorem d_Ref_root_2 : decode prog_8_method_26_code 2 = .ok (.aload_n 0, 1) := by decide +kernel
theorem d_Ref_root_3 : decode prog_8_method_26_code 3 = .ok (.iload_n 1, 1) := by decide +kernel
theorem d_Ref_root_4 : decode prog_8_method_26_code 4 = .ok (.aload_n 0, 1) := by decide +kernel
theorem d_Ref_root_5 : decode prog_8_method_26_code 5 = .ok (.getfield 7, 3) := by decide +kernel
theorem d_Ref_root_8 : decode prog_8_method_26_code 8 = .ok (.invokevirtual 145, 3) := by decide +kernel
theorem d_Ref_root_11 : decode prog_8_method_26_code 11 = .ok (.aload_n 0, 1) := by decide +kernel
theorem d_Ref_root_12 : decode prog_8_method_26_code 12 = .ok (.getfield 13, 3) := by decide +kernel
theorem d_Ref_root_15 : decode prog_8_method_26_code 15 = .ok (.iconst 1, 1) := by decide +kernel
theorem d_Ref_root_16 : decode prog_8_method_26_code 16 = .ok (.isub, 1) := by decide +kernel
theorem d_Ref_root_17 : decode prog_8_method_26_code 17 = .ok (.if_icmp .eq 9, 3) := by decide +kernel
theorem d_Ref_root_20 : decode prog_8_method_26_code 20 = .ok (.iinc 1 1, 3) := by decide +kernel
theorem d_Ref_root_23 : decode prog_8_method_26_code 23 = .ok (.goto (-21), 3) := by decide +kernel
theorem d_Ref_root_26 : decode prog_8_method_26_code 26 = .ok (.iload_n 1, 1) := by decide +kernel
theorem d_Ref_root_27 : decode prog_8_method_26_code 27 = .ok (.ireturn, 1) := by decide +kernel
theorem d_Ref_batch_0 : decode prog_8_method_27_code 0 = .ok (.aload_n 0, 1) := by decide +kernel
theorem d_Ref_batch_1 : decode prog_8_method_27_code 1 = .ok (.iload_n 1, 1) := by decide +kernel
theorem d_Ref_batch_2 : decode prog_8_method_27_code 2 = .ok (.invokestatic 142, 3) := by decide +kernel
theorem d_Ref_batch_5 : decode prog_8_method_27_code 5 = .ok (.ifCond .eq 7, 3) := by decide +kernel
theorem d_Ref_batch_8 : decode prog_8_method_27_code 8 = .ok (.iconst 1, 1) := by decide +kernel
theorem d_Ref_batch_9 : decode prog_8_method_27_code 9 = .ok (.goto 4, 3) := by decide +kernel
theorem d_Ref_batch_12 : decode prog_8_method_27_code 12 = .ok (.iconst 0, 1) := by decide +kernel
theorem d_Ref_batch_13 : decode prog_8_method_27_code 13 = .ok (.putfield 69, 3) := by decide +kernel
theorem d_Ref_batch_16 : decode prog_8_method_27_code 16 = .ok (.aload_n 0, 1) := by decide +kernel
theorem d_Ref_batch_17 : decode prog_8_method_27_code 17 = .ok (.getfield 69, 3) := by decide +kernel
theorem d_Ref_batch_20 : decode prog_8_method_27_code 20 = .ok (.ifCond .le 5, 3) := by decide +kernel
theorem d_Ref_batch_23 : decode prog_8_method_27_code 23 = .ok (.iconst 0, 1) := by decide +kernel
theorem d_Ref_batch_24 : decode prog_8_method_27_code 24 = .ok (.ireturn, 1) := by decide +kernel
theorem d_Ref_batch_25 : decode prog_8_method_27_code 25 = .ok (.aload_n 0, 1) := by decide +kernel
theorem d_Ref_batch_26 : decode prog_8_method_27_code 26 = .ok (.invokevirtual 149, 3) := by decide +kernel
theorem d_Ref_batch_29 : decode prog_8_method_27_code 29 = .ok (.istore_n 3, 1) := by decide +kernel
theorem d_Ref_batch_30 : decode prog_8_method_27_code 30 = .ok (.iconst 1, 1) := by decide +kernel
theorem d_Ref_batch_31 : decode prog_8_method_27_code 31 = .ok (.istore 4, 2) := by decide +kernel
theorem d_Ref_batch_33 : decode prog_8_method_27_code 33 = .ok (.iload 4, 2) := by decide +kernel
theorem d_Ref_batch_35 : decode prog_8_method_27_code 35 = .ok (.aload_n 0, 1) := by decide +kernel
theorem d_Ref_batch_36 : decode prog_8_method_27_code 36 = .ok (.getfield 7, 3) := by decide +kernel
theorem d_Ref_batch_39 : decode prog_8_method_27_code 39 = .ok (.imul, 1) := by decide +kernel
theorem d_Ref_batch_40 : decode prog_8_method_27_code 40 = .ok (.aload_n 0, 1) := by decide +kernel
theorem d_Ref_batch_41 : decode prog_8_method_27_code 41 = .ok (.getfield 13, 3) := by decide +kernel
theorem d_Ref_batch_44 : decode prog_8_method_27_code 44 = .ok (.irem, 1) := by decide +kernel
theorem d_Ref_batch_45 : decode prog_8_method_27_code 45 = .ok (.iconst 1, 1) := by decide +kernel
theorem d_Ref_batch_46 : decode prog_8_method_27_code 46 = .ok (.if_icmp .eq 9, 3) := by decide +kernel
theorem d_Ref_batch_49 : decode prog_8_method_27_code 49 = .ok (.iinc 4 1, 3) := by decide +kernel
theorem d_Ref_batch_52 : decode prog_8_method_27_code 52 = .ok (.goto (-19), 3) := by decide +kernel
theorem d_Ref_batch_55 : decode prog_8_method_27_code 55 = .ok (.iconst 0, 1) := by decide +kernel
theorem d_Ref_batch_56 : decode prog_8_method_27_code 56 = .ok (.istore 5, 2) := by decide +kernel
theorem d_Ref_batch_58 : decode prog_8_method_27_code 58 = .ok (.iload 5, 2) := by decide +kernel
theorem d_Ref_batch_60 : decode prog_8_method_27_code 60 = .ok (.aload_n 0, 1) := by decide +kernel
theorem d_Ref_batch_61 : decode prog_8_method_27_code 61 = .ok (.getfield 7, 3) := by decide +kernel
theorem d_Ref_batch_64 : decode prog_8_method_27_code 64 = .ok (.if_icmp .ge 131, 3) := by decide +kernel
theorem d_Ref_batch_67 : decode prog_8_method_27_code 67 = .ok (.iconst 0, 1) := by decide +kernel
theorem d_Ref_batch_68 : decode prog_8_method_27_code 68 = .ok (.istore 6, 2) := by decide +kernel
theorem d_Ref_batch_70 : decode prog_8_method_27_code 70 = .ok (.iconst 0, 1) := by decide +kernel
theorem d_Ref_batch_71 : decode prog_8_method_27_code 71 = .ok (.istore 7, 2) := by decide +kernel
theorem d_Ref_batch_73 : decode prog_8_method_27_code 73 = .ok (.iload 7, 2) := by decide +kernel
theorem d_Ref_batch_75 : decode prog_8_method_27_code 75 = .ok (.aload_n 0, 1) := by decide +kernel
theorem d_Ref_batch_76 : decode prog_8_method_27_code 76 = .ok (.getfield 7, 3) := by decide +kernel
theorem d_Ref_batch_79 : decode prog_8_method_27_code 79 = .ok (.if_icmp .ge 82, 3) := by decide +kernel
theorem d_Ref_batch_82 : decode prog_8_method_27_code 82 = .ok (.iload_n 2, 1) := by decide +kernel
theorem d_Ref_batch_83 : decode prog_8_method_27_code 83 = .ok (.ifCond .eq 15, 3) := by decide +kernel
theorem d_Ref_batch_86 : decode prog_8_method_27_code 86 = .ok (.iconst 2, 1) := by decide +kernel
theorem d_Ref_batch_87 : decode prog_8_method_27_code 87 = .ok (.iload 5, 2) := by decide +kernel
theorem d_Ref_batch_89 : decode prog_8_method_27_code 89 = .ok (.imul, 1) := by decide +kernel
theorem d_Ref_batch_90 : decode prog_8_method_27_code 90 = .ok (.iconst 1, 1) := by decide +kernel
theorem d_Ref_batch_91 : decode prog_8_method_27_code 91 = .ok (.iadd, 1) := by decide +kernel
theorem d_Ref_batch_92 : decode prog_8_method_27_code 92 = .ok (.iload 7, 2) := by decide +kernel
theorem d_Ref_batch_94 : decode prog_8_method_27_code 94 = .ok (.imul, 1) := by decide +kernel
theorem d_Ref_batch_95 : decode prog_8_method_27_code 95 = .ok (.goto 21, 3) := by decide +kernel
theorem d_Ref_batch_98 : decode prog_8_method_27_code 98 = .ok (.iconst 2, 1) := by decide +kernel
theorem d_Ref_batch_99 : decode prog_8_method_27_code 99 = .ok (.iload 7, 2) := by decide +kernel
theorem d_Ref_batch_101 : decode prog_8_method_27_code 101 = .ok (.imul, 1) := by decide +kernel
theorem d_Ref_batch_102 : decode prog_8_method_27_code 102 = .ok (.iconst 1, 1) := by decide +kernel
theorem d_Ref_batch_103 : decode prog_8_method_27_code 103 = .ok (.iadd, 1) := by decide +kernel
theorem d_Ref_batch_104 : decode prog_8_method_27_code 104 = .ok (.iconst 2, 1) := by decide +kernel
theorem d_Ref_batch_105 : decode prog_8_method_27_code 105 = .ok (.aload_n 0, 1) := by decide +kernel
theorem d_Ref_batch_106 : decode prog_8_method_27_code 106 = .ok (.getfield 7, 3) := by decide +kernel
theorem d_Ref_batch_109 : decode prog_8_method_27_code 109 = .ok (.imul, 1) := by decide +kernel
theorem d_Ref_batch_110 : decode prog_8_method_27_code 110 = .ok (.iconst 1, 1) := by decide +kernel
theorem d_Ref_batch_111 : decode prog_8_method_27_code 111 = .ok (.isub, 1) := by decide +kernel
theorem d_Ref_batch_112 : decode prog_8_method_27_code 112 = .ok (.imul, 1) := by decide +kernel
theorem d_Ref_batch_113 : decode prog_8_method_27_code 113 = .ok (.iload 5, 2) := by decide +kernel
theorem d_Ref_batch_115 : decode prog_8_method_27_code 115 = .ok (.imul, 1) := by decide +kernel
theorem d_Ref_batch_116 : decode prog_8_method_27_code 116 = .ok (.istore 8, 2) := by decide +kernel
theorem d_Ref_batch_118 : decode prog_8_method_27_code 118 = .ok (.iload 6, 2) := by decide +kernel
theorem d_Ref_batch_120 : decode prog_8_method_27_code 120 = .ok (.aload_n 0, 1) := by decide +kernel
theorem d_Ref_batch_121 : decode prog_8_method_27_code 121 = .ok (.getfield 36, 3) := by decide +kernel
theorem d_Ref_batch_124 : decode prog_8_method_27_code 124 = .ok (.bipush 32, 2) := by decide +kernel
theorem d_Ref_batch_126 : decode prog_8_method_27_code 126 = .ok (.iload_n 1, 1) := by decide +kernel
theorem d_Ref_batch_127 : decode prog_8_method_27_code 127 = .ok (.imul, 1) := by decide +kernel
theorem d_Ref_batch_128 : decode prog_8_method_27_code 128 = .ok (.iload 7, 2) := by decide +kernel
theorem d_Ref_batch_130 : decode prog_8_method_27_code 130 = .ok (.iadd, 1) := by decide +kernel
theorem d_Ref_batch_131 : decode prog_8_method_27_code 131 = .ok (.iaload, 1) := by decide +kernel
theorem d_Ref_batch_132 : decode prog_8_method_27_code 132 = .ok (.aload_n 0, 1) := by decide +kernel
theorem d_Ref_batch_133 : decode prog_8_method_27_code 133 = .ok (.iload_n 3, 1) := by decide +kernel
theorem d_Ref_batch_134 : decode prog_8_method_27_code 134 = .ok (.iload 8, 2) := by decide +kernel
theorem d_Ref_batch_136 : decode prog_8_method_27_code 136 = .ok (.iconst 2, 1) := by decide +kernel
theorem d_Ref_batch_137 : decode prog_8_method_27_code 137 = .ok (.aload_n 0, 1) := by decide +kernel
theorem d_Ref_batch_138 : decode prog_8_method_27_code 138 = .ok (.getfield 7, 3) := by decide +kernel
theorem d_Ref_batch_141 : decode prog_8_method_27_code 141 = .ok (.imul, 1) := by decide +kernel
theorem d_Ref_batch_142 : decode prog_8_method_27_code 142 = .ok (.irem, 1) := by decide +kernel
theorem d_Ref_batch_143 : decode prog_8_method_27_code 143 = .ok (.invokevirtual 145, 3) := by decide +kernel
theorem d_Ref_batch_146 : decode prog_8_method_27_code 146 = .ok (.imul, 1) := by decide +kernel
theorem d_Ref_batch_147 : decode prog_8_method_27_code 147 = .ok (.iadd, 1) := by decide +kernel
theorem d_Ref_batch_148 : decode prog_8_method_27_code 148 = .ok (.aload_n 0, 1) := by decide +kernel
theorem d_Ref_batch_149 : decode prog_8_method_27_code 149 = .ok (.getfield 13, 3) := by decide +kernel
theorem d_Ref_batch_152 : decode prog_8_method_27_code 152 = .ok (.irem, 1) := by decide +kernel
theorem d_Ref_batch_153 : decode prog_8_method_27_code 153 = .ok (.istore 6, 2) := by decide +kernel
theorem d_Ref_batch_155 : decode prog_8_method_27_code 155 = .ok (.iinc 7 1, 3) := by decide +kernel
theorem d_Ref_batch_158 : decode prog_8_method_27_code 158 = .ok (.goto (-85), 3) := by decide +kernel
theorem d_Ref_batch_161 : decode prog_8_method_27_code 161 = .ok (.aload_n 0, 1) := by decide +kernel
theorem d_Ref_batch_162 : decode prog_8_method_27_code 162 = .ok (.getfield 63, 3) := by decide +kernel
theorem d_Ref_batch_165 : decode prog_8_method_27_code 165 = .ok (.iload 5, 2) := by decide +kernel
theorem d_Ref_batch_167 : decode prog_8_method_27_code 167 = .ok (.iload_n 2, 1) := by decide +kernel
theorem d_Ref_batch_168 : decode prog_8_method_27_code 168 = .ok (.ifCond .eq 9, 3) := by decide +kernel
theorem d_Ref_batch_171 : decode prog_8_method_27_code 171 = .ok (.iload 6, 2) := by decide +kernel
theorem d_Ref_batch_173 : decode prog_8_method_27_code 173 = .ok (.i2l, 1) := by decide +kernel
theorem d_Ref_batch_174 : decode prog_8_method_27_code 174 = .ok (.goto 14, 3) := by decide +kernel
theorem d_Ref_batch_177 : decode prog_8_method_27_code 177 = .ok (.iload 6, 2) := by decide +kernel
theorem d_Ref_batch_179 : decode prog_8_method_27_code 179 = .ok (.iload 4, 2) := by decide +kernel
theorem d_Ref_batch_181 : decode prog_8_method_27_code 181 = .ok (.imul, 1) := by decide +kernel
theorem d_Ref_batch_182 : decode prog_8_method_27_code 182 = .ok (.aload_n 0, 1) := by decide +kernel
theorem d_Ref_batch_183 : decode prog_8_method_27_code 183 = .ok (.getfield 13, 3) := by decide +kernel
theorem d_Ref_batch_186 : decode prog_8_method_27_code 186 = .ok (.irem, 1) := by decide +kernel
theorem d_Ref_batch_187 : decode prog_8_method_27_code 187 = .ok (.i2l, 1) := by decide +kernel
theorem d_Ref_batch_188 : decode prog_8_method_27_code 188 = .ok (.lastore, 1) := by decide +kernel
theorem d_Ref_batch_189 : decode prog_8_method_27_code 189 = .ok (.iinc 5 1, 3) := by decide +kernel
theorem d_Ref_batch_192 : decode prog_8_method_27_code 192 = .ok (.goto (-134), 3) := by decide +kernel
theorem d_Ref_batch_195 : decode prog_8_method_27_code 195 = .ok (.iconst 0, 1) := by decide +kernel
theorem d_Ref_batch_196 : decode prog_8_method_27_code 196 = .ok (.istore 5, 2) := by decide +kernel
theorem d_Ref_batch_198 : decode prog_8_method_27_code 198 = .ok (.iload 5, 2) := by decide +kernel
theorem d_Ref_batch_200 : decode prog_8_method_27_code 200 = .ok (.aload_n 0, 1) := by decide +kernel
theorem d_Ref_batch_201 : decode prog_8_method_27_code 201 = .ok (.getfield 7, 3) := by decide +kernel
theorem d_Ref_batch_204 : decode prog_8_method_27_code 204 = .ok (.if_icmp .ge 29, 3) := by decide +kernel
theorem d_Ref_batch_207 : decode prog_8_method_27_code 207 = .ok (.aload_n 0, 1) := by decide +kernel
theorem d_Ref_batch_208 : decode prog_8_method_27_code 208 = .ok (.getfield 36, 3) := by decide +kernel
theorem d_Ref_batch_211 : decode prog_8_method_27_code 211 = .ok (.bipush 32, 2) := by decide +kernel
theorem d_Ref_batch_213 : decode prog_8_method_27_code 213 = .ok (.iload_n 1, 1) := by decide +kernel
theorem d_Ref_batch_214 : decode prog_8_method_27_code 214 = .ok (.imul, 1) := by decide +kernel
theorem d_Ref_batch_215 : decode prog_8_method_27_code 215 = .ok (.iload 5, 2) := by decide +kernel
theorem d_Ref_batch_217 : decode prog_8_method_27_code 217 = .ok (.iadd, 1) := by decide +kernel
theorem d_Ref_batch_218 : decode prog_8_method_27_code 218 = .ok (.aload_n 0, 1) := by decide +kernel
theorem d_Ref_batch_219 : decode prog_8_method_27_code 219 = .ok (.getfield 63, 3) := by decide +kernel
theorem d_Ref_batch_222 : decode prog_8_method_27_code 222 = .ok (.iload 5, 2) := by decide +kernel
theorem d_Ref_batch_224 : decode prog_8_method_27_code 224 = .ok (.laload, 1) := by decide +kernel
theorem d_Ref_batch_225 : decode prog_8_method_27_code 225 = .ok (.l2i, 1) := by decide +kernel
theorem d_Ref_batch_226 : decode prog_8_method_27_code 226 = .ok (.iastore, 1) := by decide +kernel
theorem d_Ref_batch_227 : decode prog_8_method_27_code 227 = .ok (.iinc 5 1, 3) := by decide +kernel
theorem d_Ref_batch_230 : decode prog_8_method_27_code 230 = .ok (.goto (-32), 3) := by decide +kernel
theorem d_Ref_batch_233 : decode prog_8_method_27_code 233 = .ok (.aload_n 0, 1) := by decide +kernel
theorem d_Ref_batch_234 : decode prog_8_method_27_code 234 = .ok (.getfield 36, 3) := by decide +kernel
theorem d_Ref_batch_237 : decode prog_8_method_27_code 237 = .ok (.bipush 32, 2) := by decide +kernel
theorem d_Ref_batch_239 : decode prog_8_method_27_code 239 = .ok (.iload_n 1, 1) := by decide +kernel
theorem d_Ref_batch_240 : decode prog_8_method_27_code 240 = .ok (.imul, 1) := by decide +kernel
theorem d_Ref_batch_241 : decode prog_8_method_27_code 241 = .ok (.iaload, 1) := by decide +kernel
theorem d_Ref_batch_242 : decode prog_8_method_27_code 242 = .ok (.ireturn, 1) := by decide +kernel
theorem d_Ref_take_0 : decode prog_8_method_28_code 0 = .ok (.iconst 0, 1) := by decide +kernel
theorem d_Ref_take_1 : decode prog_8_method_28_code 1 = .ok (.istore 4, 2) := by decide +kernel
theorem d_Ref_take_3 : decode prog_8_method_28_code 3 = .ok (.iload 4, 2) := by decide +kernel
theorem d_Ref_take_5 : decode prog_8_method_28_code 5 = .ok (.aload_n 0, 1) := by decide +kernel
theorem d_Ref_take_6 : decode prog_8_method_28_code 6 = .ok (.getfield 7, 3) := by decide +kernel
theorem d_Ref_take_9 : decode prog_8_method_28_code 9 = .ok (.if_icmp .ge 43, 3) := by decide +kernel
theorem d_Ref_take_12 : decode prog_8_method_28_code 12 = .ok (.aload_n 3, 1) := by decide +kernel
theorem d_Ref_take_13 : decode prog_8_method_28_code 13 = .ok (.iload 4, 2) := by decide +kernel
theorem d_Ref_take_15 : decode prog_8_method_28_code 15 = .ok (.iload_n 2, 1) := by decide +kernel
theorem d_Ref_take_16 : decode prog_8_method_28_code 16 = .ok (.aload_n 0, 1) := by decide +kernel
theorem d_Ref_take_17 : decode prog_8_method_28_code 17 = .ok (.getfield 39, 3) := by decide +kernel
theorem d_Ref_take_20 : decode prog_8_method_28_code 20 = .ok (.iload_n 1, 1) := by decide +kernel
theorem d_Ref_take_21 : decode prog_8_method_28_code 21 = .ok (.iaload, 1) := by decide +kernel
theorem d_Ref_take_22 : decode prog_8_method_28_code 22 = .ok (.if_icmp .ge 22, 3) := by decide +kernel
theorem d_Ref_take_25 : decode prog_8_method_28_code 25 = .ok (.aload_n 0, 1) := by decide +kernel
theorem d_Ref_take_26 : decode prog_8_method_28_code 26 = .ok (.getfield 42, 3) := by decide +kernel
theorem d_Ref_take_29 : decode prog_8_method_28_code 29 = .ok (.iconst 3, 1) := by decide +kernel
theorem d_Ref_take_30 : decode prog_8_method_28_code 30 = .ok (.iload_n 1, 1) := by decide +kernel
theorem d_Ref_take_31 : decode prog_8_method_28_code 31 = .ok (.imul, 1) := by decide +kernel
theorem d_Ref_take_32 : decode prog_8_method_28_code 32 = .ok (.iload_n 2, 1) := by decide +kernel
theorem d_Ref_take_33 : decode prog_8_method_28_code 33 = .ok (.iadd, 1) := by decide +kernel
theorem d_Ref_take_34 : decode prog_8_method_28_code 34 = .ok (.bipush 32, 2) := by decide +kernel
theorem d_Ref_take_36 : decode prog_8_method_28_code 36 = .ok (.imul, 1) := by decide +kernel
theorem d_Ref_take_37 : decode prog_8_method_28_code 37 = .ok (.iload 4, 2) := by decide +kernel
theorem d_Ref_take_39 : decode prog_8_method_28_code 39 = .ok (.iadd, 1) := by decide +kernel
theorem d_Ref_take_40 : decode prog_8_method_28_code 40 = .ok (.laload, 1) := by decide +kernel
theorem d_Ref_take_41 : decode prog_8_method_28_code 41 = .ok (.goto 4, 3) := by decide +kernel
theorem d_Ref_take_44 : decode prog_8_method_28_code 44 = .ok (.lconst 0, 1) := by decide +kernel
theorem d_Ref_take_45 : decode prog_8_method_28_code 45 = .ok (.lastore, 1) := by decide +kernel
theorem d_Ref_take_46 : decode prog_8_method_28_code 46 = .ok (.iinc 4 1, 3) := by decide +kernel
theorem d_Ref_take_49 : decode prog_8_method_28_code 49 = .ok (.goto (-46), 3) := by decide +kernel
theorem d_Ref_take_52 : decode prog_8_method_28_code 52 = .ok (.return_, 1) := by decide +kernel
theorem d_Ref_put_0 : decode prog_8_method_29_code 0 = .ok (.iconst 0, 1) := by decide +kernel
theorem d_Ref_put_1 : decode prog_8_method_29_code 1 = .ok (.istore 4, 2) := by decide +kernel
theorem d_Ref_put_3 : decode prog_8_method_29_code 3 = .ok (.iload 4, 2) := by decide +kernel
theorem d_Ref_put_5 : decode prog_8_method_29_code 5 = .ok (.aload_n 0, 1) := by decide +kernel
theorem d_Ref_put_6 : decode prog_8_method_29_code 6 = .ok (.getfield 7, 3) := by decide +kernel
theorem d_Ref_put_9 : decode prog_8_method_29_code 9 = .ok (.if_icmp .ge 32, 3) := by decide +kernel
theorem d_Ref_put_12 : decode prog_8_method_29_code 12 = .ok (.aload_n 0, 1) := by decide +kernel
theorem d_Ref_put_13 : decode prog_8_method_29_code 13 = .ok (.getfield 42, 3) := by decide +kernel
theorem d_Ref_put_16 : decode prog_8_method_29_code 16 = .ok (.iconst 3, 1) := by decide +kernel
theorem d_Ref_put_17 : decode prog_8_method_29_code 17 = .ok (.iload_n 1, 1) := by decide +kernel
theorem d_Ref_put_18 : decode prog_8_method_29_code 18 = .ok (.imul, 1) := by decide +kernel
theorem d_Ref_put_19 : decode prog_8_method_29_code 19 = .ok (.iload_n 2, 1) := by decide +kernel
theorem d_Ref_put_20 : decode prog_8_method_29_code 20 = .ok (.iadd, 1) := by decide +kernel
theorem d_Ref_put_21 : decode prog_8_method_29_code 21 = .ok (.bipush 32, 2) := by decide +kernel
theorem d_Ref_put_23 : decode prog_8_method_29_code 23 = .ok (.imul, 1) := by decide +kernel
theorem d_Ref_put_24 : decode prog_8_method_29_code 24 = .ok (.iload 4, 2) := by decide +kernel
theorem d_Ref_put_26 : decode prog_8_method_29_code 26 = .ok (.iadd, 1) := by decide +kernel
theorem d_Ref_put_27 : decode prog_8_method_29_code 27 = .ok (.aload_n 3, 1) := by decide +kernel
theorem d_Ref_put_28 : decode prog_8_method_29_code 28 = .ok (.iload 4, 2) := by decide +kernel
theorem d_Ref_put_30 : decode prog_8_method_29_code 30 = .ok (.laload, 1) := by decide +kernel
theorem d_Ref_put_31 : decode prog_8_method_29_code 31 = .ok (.invokestatic 74, 3) := by decide +kernel
theorem d_Ref_put_34 : decode prog_8_method_29_code 34 = .ok (.lastore, 1) := by decide +kernel
theorem d_Ref_put_35 : decode prog_8_method_29_code 35 = .ok (.iinc 4 1, 3) := by decide +kernel
theorem d_Ref_put_38 : decode prog_8_method_29_code 38 = .ok (.goto (-35), 3) := by decide +kernel
theorem d_Ref_put_41 : decode prog_8_method_29_code 41 = .ok (.return_, 1) := by decide +kernel
theorem d_Ref_seal_0 : decode prog_8_method_30_code 0 = .ok (.aload_n 0, 1) := by decide +kernel
theorem d_Ref_seal_1 : decode prog_8_method_30_code 1 = .ok (.iload_n 1, 1) := by decide +kernel
theorem d_Ref_seal_2 : decode prog_8_method_30_code 2 = .ok (.invokestatic 138, 3) := by decide +kernel
theorem d_Ref_seal_5 : decode prog_8_method_30_code 5 = .ok (.ifCond .ne 10, 3) := by decide +kernel
theorem d_Ref_seal_8 : decode prog_8_method_30_code 8 = .ok (.iload_n 2, 1) := by decide +kernel
theorem d_Ref_seal_9 : decode prog_8_method_30_code 9 = .ok (.invokestatic 142, 3) := by decide +kernel
theorem d_Ref_seal_12 : decode prog_8_method_30_code 12 = .ok (.ifCond .eq 7, 3) := by decide +kernel
theorem d_Ref_seal_15 : decode prog_8_method_30_code 15 = .ok (.iconst 1, 1) := by decide +kernel
theorem d_Ref_seal_16 : decode prog_8_method_30_code 16 = .ok (.goto 15, 3) := by decide +kernel
theorem d_Ref_seal_19 : decode prog_8_method_30_code 19 = .ok (.aload_n 0, 1) := by decide +kernel
theorem d_Ref_seal_20 : decode prog_8_method_30_code 20 = .ok (.getfield 107, 3) := by decide +kernel
theorem d_Ref_seal_23 : decode prog_8_method_30_code 23 = .ok (.ifCond .ne 7, 3) := by decide +kernel
theorem d_Ref_seal_26 : decode prog_8_method_30_code 26 = .ok (.iconst 2, 1) := by decide +kernel
theorem d_Ref_seal_27 : decode prog_8_method_30_code 27 = .ok (.goto 4, 3) := by decide +kernel
theorem d_Ref_seal_30 : decode prog_8_method_30_code 30 = .ok (.iconst 0, 1) := by decide +kernel
theorem d_Ref_seal_31 : decode prog_8_method_30_code 31 = .ok (.putfield 69, 3) := by decide +kernel
theorem d_Ref_seal_34 : decode prog_8_method_30_code 34 = .ok (.aload_n 0, 1) := by decide +kernel
theorem d_Ref_seal_35 : decode prog_8_method_30_code 35 = .ok (.getfield 69, 3) := by decide +kernel
theorem d_Ref_seal_38 : decode prog_8_method_30_code 38 = .ok (.ifCond .le 5, 3) := by decide +kernel
theorem d_Ref_seal_41 : decode prog_8_method_30_code 41 = .ok (.iconst 0, 1) := by decide +kernel
theorem d_Ref_seal_42 : decode prog_8_method_30_code 42 = .ok (.ireturn, 1) := by decide +kernel
theorem d_Ref_seal_43 : decode prog_8_method_30_code 43 = .ok (.aload_n 0, 1) := by decide +kernel
theorem d_Ref_seal_44 : decode prog_8_method_30_code 44 = .ok (.aload_n 0, 1) := by decide +kernel
theorem d_Ref_seal_45 : decode prog_8_method_30_code 45 = .ok (.getfield 54, 3) := by decide +kernel
theorem d_Ref_seal_48 : decode prog_8_method_30_code 48 = .ok (.invokevirtual 117, 3) := by decide +kernel
theorem d_Ref_seal_51 : decode prog_8_method_30_code 51 = .ok (.aload_n 0, 1) := by decide +kernel
theorem d_Ref_seal_52 : decode prog_8_method_30_code 52 = .ok (.aload_n 0, 1) := by decide +kernel
theorem d_Ref_seal_53 : decode prog_8_method_30_code 53 = .ok (.getfield 63, 3) := by decide +kernel
theorem d_Ref_seal_56 : decode prog_8_method_30_code 56 = .ok (.invokevirtual 95, 3) := by decide +kernel
theorem d_Ref_seal_59 : decode prog_8_method_30_code 59 = .ok (.aload_n 0, 1) := by decide +kernel
theorem d_Ref_seal_60 : decode prog_8_method_30_code 60 = .ok (.aload_n 0, 1) := by decide +kernel
theorem d_Ref_seal_61 : decode prog_8_method_30_code 61 = .ok (.getfield 66, 3) := by decide +kernel
theorem d_Ref_seal_64 : decode prog_8_method_30_code 64 = .ok (.invokevirtual 95, 3) := by decide +kernel
theorem d_Ref_seal_67 : decode prog_8_method_30_code 67 = .ok (.aload_n 0, 1) := by decide +kernel
theorem d_Ref_seal_68 : decode prog_8_method_30_code 68 = .ok (.aload_n 0, 1) := by decide +kernel
theorem d_Ref_seal_69 : decode prog_8_method_30_code 69 = .ok (.getfield 20, 3) := by decide +kernel
theorem d_Ref_seal_72 : decode prog_8_method_30_code 72 = .ok (.aload_n 0, 1) := by decide +kernel
theorem d_Ref_seal_73 : decode prog_8_method_30_code 73 = .ok (.getfield 54, 3) := by decide +kernel
theorem d_Ref_seal_76 : decode prog_8_method_30_code 76 = .ok (.aload_n 0, 1) := by decide +kernel
theorem d_Ref_seal_77 : decode prog_8_method_30_code 77 = .ok (.getfield 45, 3) := by decide +kernel
theorem d_Ref_seal_80 : decode prog_8_method_30_code 80 = .ok (.invokevirtual 98, 3) := by decide +kernel
theorem d_Ref_seal_83 : decode prog_8_method_30_code 83 = .ok (.aload_n 0, 1) := by decide +kernel
theorem d_Ref_seal_84 : decode prog_8_method_30_code 84 = .ok (.aload_n 0, 1) := by decide +kernel
theorem d_Ref_seal_85 : decode prog_8_method_30_code 85 = .ok (.getfield 23, 3) := by decide +kernel
theorem d_Ref_seal_88 : decode prog_8_method_30_code 88 = .ok (.aload_n 0, 1) := by decide +kernel
theorem d_Ref_seal_89 : decode prog_8_method_30_code 89 = .ok (.getfield 54, 3) := by decide +kernel
theorem d_Ref_seal_92 : decode prog_8_method_30_code 92 = .ok (.aload_n 0, 1) := by decide +kernel
theorem d_Ref_seal_93 : decode prog_8_method_30_code 93 = .ok (.getfield 48, 3) := by decide +kernel
theorem d_Ref_seal_96 : decode prog_8_method_30_code 96 = .ok (.invokevirtual 98, 3) := by decide +kernel
theorem d_Ref_seal_99 : decode prog_8_method_30_code 99 = .ok (.iconst 0, 1) := by decide +kernel
theorem d_Ref_seal_100 : decode prog_8_method_30_code 100 = .ok (.istore_n 3, 1) := by decide +kernel
theorem d_Ref_seal_101 : decode prog_8_method_30_code 101 = .ok (.iload_n 3, 1) := by decide +kernel
theorem d_Ref_seal_102 : decode prog_8_method_30_code 102 = .ok (.aload_n 0, 1) := by decide +kernel
theorem d_Ref_seal_103 : decode prog_8_method_30_code 103 = .ok (.getfield 7, 3) := by decide +kernel
theorem d_Ref_seal_106 : decode prog_8_method_30_code 106 = .ok (.if_icmp .ge 62, 3) := by decide +kernel
theorem d_Ref_seal_109 : decode prog_8_method_30_code 109 = .ok (.aload_n 0, 1) := by decide +kernel
theorem d_Ref_seal_110 : decode prog_8_method_30_code 110 = .ok (.getfield 45, 3) := by decide +kernel
theorem d_Ref_seal_113 : decode prog_8_method_30_code 113 = .ok (.iload_n 3, 1) := by decide +kernel
theorem d_Ref_seal_114 : decode prog_8_method_30_code 114 = .ok (.dup2, 1) := by decide +kernel
theorem d_Ref_seal_115 : decode prog_8_method_30_code 115 = .ok (.laload, 1) := by decide +kernel
theorem d_Ref_seal_116 : decode prog_8_method_30_code 116 = .ok (.aload_n 0, 1) := by decide +kernel
theorem d_Ref_seal_117 : decode prog_8_method_30_code 117 = .ok (.getfield 63, 3) := by decide +kernel
theorem d_Ref_seal_120 : decode prog_8_method_30_code 120 = .ok (.iload_n 3, 1) := by decide +kernel
theorem d_Ref_seal_121 : decode prog_8_method_30_code 121 = .ok (.laload, 1) := by decide +kernel
theorem d_Ref_seal_122 : decode prog_8_method_30_code 122 = .ok (.ldc2_w 72, 3) := by decide +kernel
theorem d_Ref_seal_125 : decode prog_8_method_30_code 125 = .ok (.aload_n 0, 1) := by decide +kernel
theorem d_Ref_seal_126 : decode prog_8_method_30_code 126 = .ok (.getfield 13, 3) := by decide +kernel
theorem d_Ref_seal_129 : decode prog_8_method_30_code 129 = .ok (.i2l, 1) := by decide +kernel
theorem d_Ref_seal_130 : decode prog_8_method_30_code 130 = .ok (.ldiv, 1) := by decide +kernel
theorem d_Ref_seal_131 : decode prog_8_method_30_code 131 = .ok (.aload_n 0, 1) := by decide +kernel
theorem d_Ref_seal_132 : decode prog_8_method_30_code 132 = .ok (.getfield 36, 3) := by decide +kernel
theorem d_Ref_seal_135 : decode prog_8_method_30_code 135 = .ok (.bipush 32, 2) := by decide +kernel
theorem d_Ref_seal_137 : decode prog_8_method_30_code 137 = .ok (.iload_n 2, 1) := by decide +kernel
theorem d_Ref_seal_138 : decode prog_8_method_30_code 138 = .ok (.imul, 1) := by decide +kernel
theorem d_Ref_seal_139 : decode prog_8_method_30_code 139 = .ok (.iload_n 3, 1) := by decide +kernel
theorem d_Ref_seal_140 : decode prog_8_method_30_code 140 = .ok (.iadd, 1) := by decide +kernel
theorem d_Ref_seal_141 : decode prog_8_method_30_code 141 = .ok (.iaload, 1) := by decide +kernel
theorem d_Ref_seal_142 : decode prog_8_method_30_code 142 = .ok (.i2l, 1) := by decide +kernel
theorem d_Ref_seal_143 : decode prog_8_method_30_code 143 = .ok (.lmul, 1) := by decide +kernel
theorem d_Ref_seal_144 : decode prog_8_method_30_code 144 = .ok (.ladd, 1) := by decide +kernel
theorem d_Ref_seal_145 : decode prog_8_method_30_code 145 = .ok (.ladd, 1) := by decide +kernel
theorem d_Ref_seal_146 : decode prog_8_method_30_code 146 = .ok (.lastore, 1) := by decide +kernel
theorem d_Ref_seal_147 : decode prog_8_method_30_code 147 = .ok (.aload_n 0, 1) := by decide +kernel
theorem d_Ref_seal_148 : decode prog_8_method_30_code 148 = .ok (.getfield 48, 3) := by decide +kernel
theorem d_Ref_seal_151 : decode prog_8_method_30_code 151 = .ok (.iload_n 3, 1) := by decide +kernel
theorem d_Ref_seal_152 : decode prog_8_method_30_code 152 = .ok (.dup2, 1) := by decide +kernel
theorem d_Ref_seal_153 : decode prog_8_method_30_code 153 = .ok (.laload, 1) := by decide +kernel
theorem d_Ref_seal_154 : decode prog_8_method_30_code 154 = .ok (.aload_n 0, 1) := by decide +kernel
theorem d_Ref_seal_155 : decode prog_8_method_30_code 155 = .ok (.getfield 66, 3) := by decide +kernel
theorem d_Ref_seal_158 : decode prog_8_method_30_code 158 = .ok (.iload_n 3, 1) := by decide +kernel
theorem d_Ref_seal_159 : decode prog_8_method_30_code 159 = .ok (.laload, 1) := by decide +kernel
theorem d_Ref_seal_160 : decode prog_8_method_30_code 160 = .ok (.ladd, 1) := by decide +kernel
theorem d_Ref_seal_161 : decode prog_8_method_30_code 161 = .ok (.lastore, 1) := by decide +kernel
theorem d_Ref_seal_162 : decode prog_8_method_30_code 162 = .ok (.iinc 3 1, 3) := by decide +kernel
theorem d_Ref_seal_165 : decode prog_8_method_30_code 165 = .ok (.goto (-64), 3) := by decide +kernel
theorem d_Ref_seal_168 : decode prog_8_method_30_code 168 = .ok (.aload_n 0, 1) := by decide +kernel
theorem d_Ref_seal_169 : decode prog_8_method_30_code 169 = .ok (.getfield 39, 3) := by decide +kernel
theorem d_Ref_seal_172 : decode prog_8_method_30_code 172 = .ok (.iload_n 1, 1) := by decide +kernel
theorem d_Ref_seal_173 : decode prog_8_method_30_code 173 = .ok (.iconst 2, 1) := by decide +kernel
theorem d_Ref_seal_174 : decode prog_8_method_30_code 174 = .ok (.iastore, 1) := by decide +kernel
theorem d_Ref_seal_175 : decode prog_8_method_30_code 175 = .ok (.aload_n 0, 1) := by decide +kernel
theorem d_Ref_seal_176 : decode prog_8_method_30_code 176 = .ok (.iload_n 1, 1) := by decide +kernel
theorem d_Ref_seal_177 : decode prog_8_method_30_code 177 = .ok (.iconst 0, 1) := by decide +kernel
theorem d_Ref_seal_178 : decode prog_8_method_30_code 178 = .ok (.aload_n 0, 1) := by decide +kernel
theorem d_Ref_seal_179 : decode prog_8_method_30_code 179 = .ok (.getfield 45, 3) := by decide +kernel
theorem d_Ref_seal_182 : decode prog_8_method_30_code 182 = .ok (.invokevirtual 152, 3) := by decide +kernel
theorem d_Ref_seal_185 : decode prog_8_method_30_code 185 = .ok (.aload_n 0, 1) := by decide +kernel
theorem d_Ref_seal_186 : decode prog_8_method_30_code 186 = .ok (.iload_n 1, 1) := by decide +kernel
theorem d_Ref_seal_187 : decode prog_8_method_30_code 187 = .ok (.iconst 1, 1) := by decide +kernel
theorem d_Ref_seal_188 : decode prog_8_method_30_code 188 = .ok (.aload_n 0, 1) := by decide +kernel
theorem d_Ref_seal_189 : decode prog_8_method_30_code 189 = .ok (.getfield 48, 3) := by decide +kernel
theorem d_Ref_seal_192 : decode prog_8_method_30_code 192 = .ok (.invokevirtual 152, 3) := by decide +kernel
theorem d_Ref_seal_195 : decode prog_8_method_30_code 195 = .ok (.aload_n 0, 1) := by decide +kernel
theorem d_Ref_seal_196 : decode prog_8_method_30_code 196 = .ok (.iload_n 1, 1) := by decide +kernel
theorem d_Ref_seal_197 : decode prog_8_method_30_code 197 = .ok (.invokevirtual 156, 3) := by decide +kernel
theorem d_Ref_seal_200 : decode prog_8_method_30_code 200 = .ok (.ireturn, 1) := by decide +kernel
theorem d_Ref_phase_0 : decode prog_8_method_31_code 0 = .ok (.aload_n 0, 1) := by decide +kernel
theorem d_Ref_phase_1 : decode prog_8_method_31_code 1 = .ok (.iload_n 1, 1) := by decide +kernel
theorem d_Ref_phase_2 : decode prog_8_method_31_code 2 = .ok (.iconst 0, 1) := by decide +kernel
theorem d_Ref_phase_3 : decode prog_8_method_31_code 3 = .ok (.aload_n 0, 1) := by decide +kernel
theorem d_Ref_phase_4 : decode prog_8_method_31_code 4 = .ok (.getfield 51, 3) := by decide +kernel
theorem d_Ref_phase_7 : decode prog_8_method_31_code 7 = .ok (.invokevirtual 159, 3) := by decide +kernel
theorem d_Ref_phase_10 : decode prog_8_method_31_code 10 = .ok (.aload_n 0, 1) := by decide +kernel
theorem d_Ref_phase_11 : decode prog_8_method_31_code 11 = .ok (.iload_n 1, 1) := by decide +kernel
theorem d_Ref_phase_12 : decode prog_8_method_31_code 12 = .ok (.iconst 1, 1) := by decide +kernel
theorem d_Ref_phase_13 : decode prog_8_method_31_code 13 = .ok (.aload_n 0, 1) := by decide +kernel
theorem d_Ref_phase_14 : decode prog_8_method_31_code 14 = .ok (.getfield 45, 3) := by decide +kernel
theorem d_Ref_phase_17 : decode prog_8_method_31_code 17 = .ok (.invokevirtual 159, 3) := by decide +kernel
theorem d_Ref_phase_20 : decode prog_8_method_31_code 20 = .ok (.aload_n 0, 1) := by decide +kernel
theorem d_Ref_phase_21 : decode prog_8_method_31_code 21 = .ok (.aload_n 0, 1) := by decide +kernel
theorem d_Ref_phase_22 : decode prog_8_method_31_code 22 = .ok (.getfield 45, 3) := by decide +kernel
theorem d_Ref_phase_25 : decode prog_8_method_31_code 25 = .ok (.aload_n 0, 1) := by decide +kernel
theorem d_Ref_phase_26 : decode prog_8_method_31_code 26 = .ok (.getfield 16, 3) := by decide +kernel
theorem d_Ref_phase_29 : decode prog_8_method_31_code 29 = .ok (.aload_n 0, 1) := by decide +kernel
theorem d_Ref_phase_30 : decode prog_8_method_31_code 30 = .ok (.getfield 48, 3) := by decide +kernel
theorem d_Ref_phase_33 : decode prog_8_method_31_code 33 = .ok (.invokevirtual 98, 3) := by decide +kernel
theorem d_Ref_phase_36 : decode prog_8_method_31_code 36 = .ok (.iconst 0, 1) := by decide +kernel
theorem d_Ref_phase_37 : decode prog_8_method_31_code 37 = .ok (.istore_n 2, 1) := by decide +kernel
theorem d_Ref_phase_38 : decode prog_8_method_31_code 38 = .ok (.iload_n 2, 1) := by decide +kernel
theorem d_Ref_phase_39 : decode prog_8_method_31_code 39 = .ok (.aload_n 0, 1) := by decide +kernel
theorem d_Ref_phase_40 : decode prog_8_method_31_code 40 = .ok (.getfield 7, 3) := by decide +kernel
theorem d_Ref_phase_43 : decode prog_8_method_31_code 43 = .ok (.if_icmp .ge 24, 3) := by decide +kernel
theorem d_Ref_phase_46 : decode prog_8_method_31_code 46 = .ok (.aload_n 0, 1) := by decide +kernel
theorem d_Ref_phase_47 : decode prog_8_method_31_code 47 = .ok (.getfield 51, 3) := by decide +kernel
theorem d_Ref_phase_50 : decode prog_8_method_31_code 50 = .ok (.iload_n 2, 1) := by decide +kernel
theorem d_Ref_phase_51 : decode prog_8_method_31_code 51 = .ok (.dup2, 1) := by decide +kernel
theorem d_Ref_phase_52 : decode prog_8_method_31_code 52 = .ok (.laload, 1) := by decide +kernel
theorem d_Ref_phase_53 : decode prog_8_method_31_code 53 = .ok (.aload_n 0, 1) := by decide +kernel
theorem d_Ref_phase_54 : decode prog_8_method_31_code 54 = .ok (.getfield 48, 3) := by decide +kernel
theorem d_Ref_phase_57 : decode prog_8_method_31_code 57 = .ok (.iload_n 2, 1) := by decide +kernel
theorem d_Ref_phase_58 : decode prog_8_method_31_code 58 = .ok (.laload, 1) := by decide +kernel
theorem d_Ref_phase_59 : decode prog_8_method_31_code 59 = .ok (.ladd, 1) := by decide +kernel
theorem d_Ref_phase_60 : decode prog_8_method_31_code 60 = .ok (.lastore, 1) := by decide +kernel
theorem d_Ref_phase_61 : decode prog_8_method_31_code 61 = .ok (.iinc 2 1, 3) := by decide +kernel
theorem d_Ref_phase_64 : decode prog_8_method_31_code 64 = .ok (.goto (-26), 3) := by decide +kernel
theorem d_Ref_phase_67 : decode prog_8_method_31_code 67 = .ok (.aload_n 0, 1) := by decide +kernel
theorem d_Ref_phase_68 : decode prog_8_method_31_code 68 = .ok (.iload_n 1, 1) := by decide +kernel
theorem d_Ref_phase_69 : decode prog_8_method_31_code 69 = .ok (.iconst 2, 1) := by decide +kernel
theorem d_Ref_phase_70 : decode prog_8_method_31_code 70 = .ok (.aload_n 0, 1) := by decide +kernel
theorem d_Ref_phase_71 : decode prog_8_method_31_code 71 = .ok (.getfield 45, 3) := by decide +kernel
theorem d_Ref_phase_74 : decode prog_8_method_31_code 74 = .ok (.invokevirtual 159, 3) := by decide +kernel
theorem d_Ref_phase_77 : decode prog_8_method_31_code 77 = .ok (.aload_n 0, 1) := by decide +kernel
theorem d_Ref_phase_78 : decode prog_8_method_31_code 78 = .ok (.aload_n 0, 1) := by decide +kernel
theorem d_Ref_phase_79 : decode prog_8_method_31_code 79 = .ok (.getfield 45, 3) := by decide +kernel
theorem d_Ref_phase_82 : decode prog_8_method_31_code 82 = .ok (.aload_n 0, 1) := by decide +kernel
theorem d_Ref_phase_83 : decode prog_8_method_31_code 83 = .ok (.getfield 16, 3) := by decide +kernel
theorem d_Ref_phase_86 : decode prog_8_method_31_code 86 = .ok (.aload_n 0, 1) := by decide +kernel
theorem d_Ref_phase_87 : decode prog_8_method_31_code 87 = .ok (.getfield 48, 3) := by decide +kernel
theorem d_Ref_phase_90 : decode prog_8_method_31_code 90 = .ok (.invokevirtual 98, 3) := by decide +kernel
theorem d_Ref_phase_93 : decode prog_8_method_31_code 93 = .ok (.iconst 0, 1) := by decide +kernel
theorem d_Ref_phase_94 : decode prog_8_method_31_code 94 = .ok (.istore_n 2, 1) := by decide +kernel
theorem d_Ref_phase_95 : decode prog_8_method_31_code 95 = .ok (.iload_n 2, 1) := by decide +kernel
theorem d_Ref_phase_96 : decode prog_8_method_31_code 96 = .ok (.aload_n 0, 1) := by decide +kernel
theorem d_Ref_phase_97 : decode prog_8_method_31_code 97 = .ok (.getfield 7, 3) := by decide +kernel
theorem d_Ref_phase_100 : decode prog_8_method_31_code 100 = .ok (.if_icmp .ge 21, 3) := by decide +kernel
theorem d_Ref_phase_103 : decode prog_8_method_31_code 103 = .ok (.aload_n 0, 1) := by decide +kernel
theorem d_Ref_phase_104 : decode prog_8_method_31_code 104 = .ok (.getfield 45, 3) := by decide +kernel
theorem d_Ref_phase_107 : decode prog_8_method_31_code 107 = .ok (.iload_n 2, 1) := by decide +kernel
theorem d_Ref_phase_108 : decode prog_8_method_31_code 108 = .ok (.aload_n 0, 1) := by decide +kernel
theorem d_Ref_phase_109 : decode prog_8_method_31_code 109 = .ok (.getfield 48, 3) := by decide +kernel
theorem d_Ref_phase_112 : decode prog_8_method_31_code 112 = .ok (.iload_n 2, 1) := by decide +kernel
theorem d_Ref_phase_113 : decode prog_8_method_31_code 113 = .ok (.laload, 1) := by decide +kernel
theorem d_Ref_phase_114 : decode prog_8_method_31_code 114 = .ok (.lastore, 1) := by decide +kernel
theorem d_Ref_phase_115 : decode prog_8_method_31_code 115 = .ok (.iinc 2 1, 3) := by decide +kernel
theorem d_Ref_phase_118 : decode prog_8_method_31_code 118 = .ok (.goto (-23), 3) := by decide +kernel
theorem d_Ref_phase_121 : decode prog_8_method_31_code 121 = .ok (.aload_n 0, 1) := by decide +kernel
theorem d_Ref_phase_122 : decode prog_8_method_31_code 122 = .ok (.aload_n 0, 1) := by decide +kernel
theorem d_Ref_phase_123 : decode prog_8_method_31_code 123 = .ok (.getfield 45, 3) := by decide +kernel
theorem d_Ref_phase_126 : decode prog_8_method_31_code 126 = .ok (.aload_n 0, 1) := by decide +kernel
theorem d_Ref_phase_127 : decode prog_8_method_31_code 127 = .ok (.getfield 16, 3) := by decide +kernel
theorem d_Ref_phase_130 : decode prog_8_method_31_code 130 = .ok (.aload_n 0, 1) := by decide +kernel
theorem d_Ref_phase_131 : decode prog_8_method_31_code 131 = .ok (.getfield 48, 3) := by decide +kernel
theorem d_Ref_phase_134 : decode prog_8_method_31_code 134 = .ok (.invokevirtual 98, 3) := by decide +kernel
theorem d_Ref_phase_137 : decode prog_8_method_31_code 137 = .ok (.iconst 0, 1) := by decide +kernel
theorem d_Ref_phase_138 : decode prog_8_method_31_code 138 = .ok (.istore_n 2, 1) := by decide +kernel
theorem d_Ref_phase_139 : decode prog_8_method_31_code 139 = .ok (.iload_n 2, 1) := by decide +kernel
theorem d_Ref_phase_140 : decode prog_8_method_31_code 140 = .ok (.aload_n 0, 1) := by decide +kernel
theorem d_Ref_phase_141 : decode prog_8_method_31_code 141 = .ok (.getfield 7, 3) := by decide +kernel
theorem d_Ref_phase_144 : decode prog_8_method_31_code 144 = .ok (.if_icmp .ge 31, 3) := by decide +kernel
theorem d_Ref_phase_147 : decode prog_8_method_31_code 147 = .ok (.aload_n 0, 1) := by decide +kernel
theorem d_Ref_phase_148 : decode prog_8_method_31_code 148 = .ok (.getfield 51, 3) := by decide +kernel
theorem d_Ref_phase_151 : decode prog_8_method_31_code 151 = .ok (.iload_n 2, 1) := by decide +kernel
theorem d_Ref_phase_152 : decode prog_8_method_31_code 152 = .ok (.aload_n 0, 1) := by decide +kernel
theorem d_Ref_phase_153 : decode prog_8_method_31_code 153 = .ok (.getfield 51, 3) := by decide +kernel
theorem d_Ref_phase_156 : decode prog_8_method_31_code 156 = .ok (.iload_n 2, 1) := by decide +kernel
theorem d_Ref_phase_157 : decode prog_8_method_31_code 157 = .ok (.laload, 1) := by decide +kernel
theorem d_Ref_phase_158 : decode prog_8_method_31_code 158 = .ok (.aload_n 0, 1) := by decide +kernel
theorem d_Ref_phase_159 : decode prog_8_method_31_code 159 = .ok (.getfield 48, 3) := by decide +kernel
theorem d_Ref_phase_162 : decode prog_8_method_31_code 162 = .ok (.iload_n 2, 1) := by decide +kernel
theorem d_Ref_phase_163 : decode prog_8_method_31_code 163 = .ok (.laload, 1) := by decide +kernel
theorem d_Ref_phase_164 : decode prog_8_method_31_code 164 = .ok (.ladd, 1) := by decide +kernel
theorem d_Ref_phase_165 : decode prog_8_method_31_code 165 = .ok (.invokestatic 162, 3) := by decide +kernel
theorem d_Ref_phase_168 : decode prog_8_method_31_code 168 = .ok (.lastore, 1) := by decide +kernel
theorem d_Ref_phase_169 : decode prog_8_method_31_code 169 = .ok (.iinc 2 1, 3) := by decide +kernel
theorem d_Ref_phase_172 : decode prog_8_method_31_code 172 = .ok (.goto (-33), 3) := by decide +kernel
theorem d_Ref_phase_175 : decode prog_8_method_31_code 175 = .ok (.return_, 1) := by decide +kernel
theorem d_Ref_noise_0 : decode prog_8_method_32_code 0 = .ok (.aload_n 0, 1) := by decide +kernel
theorem d_Ref_noise_1 : decode prog_8_method_32_code 1 = .ok (.iload_n 1, 1) := by decide +kernel
theorem d_Ref_noise_2 : decode prog_8_method_32_code 2 = .ok (.invokevirtual 165, 3) := by decide +kernel
theorem d_Ref_noise_5 : decode prog_8_method_32_code 5 = .ok (.lconst 0, 1) := by decide +kernel
theorem d_Ref_noise_6 : decode prog_8_method_32_code 6 = .ok (.lstore_n 2, 1) := by decide +kernel
theorem d_Ref_noise_7 : decode prog_8_method_32_code 7 = .ok (.iconst 0, 1) := by decide +kernel
theorem d_Ref_noise_8 : decode prog_8_method_32_code 8 = .ok (.istore 4, 2) := by decide +kernel
theorem d_Ref_noise_10 : decode prog_8_method_32_code 10 = .ok (.iload 4, 2) := by decide +kernel
theorem d_Ref_noise_12 : decode prog_8_method_32_code 12 = .ok (.aload_n 0, 1) := by decide +kernel
theorem d_Ref_noise_13 : decode prog_8_method_32_code 13 = .ok (.getfield 7, 3) := by decide +kernel
theorem d_Ref_noise_16 : decode prog_8_method_32_code 16 = .ok (.if_icmp .ge 47, 3) := by decide +kernel
theorem d_Ref_noise_19 : decode prog_8_method_32_code 19 = .ok (.aload_n 0, 1) := by decide +kernel
theorem d_Ref_noise_20 : decode prog_8_method_32_code 20 = .ok (.getfield 13, 3) := by decide +kernel
theorem d_Ref_noise_23 : decode prog_8_method_32_code 23 = .ok (.i2l, 1) := by decide +kernel
theorem d_Ref_noise_24 : decode prog_8_method_32_code 24 = .ok (.aload_n 0, 1) := by decide +kernel
theorem d_Ref_noise_25 : decode prog_8_method_32_code 25 = .ok (.getfield 51, 3) := by decide +kernel
theorem d_Ref_noise_28 : decode prog_8_method_32_code 28 = .ok (.iload 4, 2) := by decide +kernel
theorem d_Ref_noise_30 : decode prog_8_method_32_code 30 = .ok (.laload, 1) := by decide +kernel
theorem d_Ref_noise_31 : decode prog_8_method_32_code 31 = .ok (.lmul, 1) := by decide +kernel
theorem d_Ref_noise_32 : decode prog_8_method_32_code 32 = .ok (.invokestatic 162, 3) := by decide +kernel
theorem d_Ref_noise_35 : decode prog_8_method_32_code 35 = .ok (.lstore 5, 2) := by decide +kernel
theorem d_Ref_noise_37 : decode prog_8_method_32_code 37 = .ok (.lload_n 2, 1) := by decide +kernel
theorem d_Ref_noise_38 : decode prog_8_method_32_code 38 = .ok (.lload 5, 2) := by decide +kernel
theorem d_Ref_noise_40 : decode prog_8_method_32_code 40 = .ok (.lconst 0, 1) := by decide +kernel
theorem d_Ref_noise_41 : decode prog_8_method_32_code 41 = .ok (.lcmp, 1) := by decide +kernel
theorem d_Ref_noise_42 : decode prog_8_method_32_code 42 = .ok (.ifCond .ge 9, 3) := by decide +kernel
theorem d_Ref_noise_45 : decode prog_8_method_32_code 45 = .ok (.lload 5, 2) := by decide +kernel
theorem d_Ref_noise_47 : decode prog_8_method_32_code 47 = .ok (.lneg, 1) := by decide +kernel
theorem d_Ref_noise_48 : decode prog_8_method_32_code 48 = .ok (.goto 5, 3) := by decide +kernel
theorem d_Ref_noise_51 : decode prog_8_method_32_code 51 = .ok (.lload 5, 2) := by decide +kernel
theorem d_Ref_noise_53 : decode prog_8_method_32_code 53 = .ok (.invokestatic 168, 3) := by decide +kernel
theorem d_Ref_noise_56 : decode prog_8_method_32_code 56 = .ok (.lstore_n 2, 1) := by decide +kernel
theorem d_Ref_noise_57 : decode prog_8_method_32_code 57 = .ok (.iinc 4 1, 3) := by decide +kernel
theorem d_Ref_noise_60 : decode prog_8_method_32_code 60 = .ok (.goto (-50), 3) := by decide +kernel
theorem d_Ref_noise_63 : decode prog_8_method_32_code 63 = .ok (.lload_n 2, 1) := by decide +kernel
theorem d_Ref_noise_64 : decode prog_8_method_32_code 64 = .ok (.lreturn, 1) := by decide +kernel
theorem d_Ref_budget_0 : decode prog_8_method_33_code 0 = .ok (.aload_n 0, 1) := by decide +kernel
theorem d_Ref_budget_1 : decode prog_8_method_33_code 1 = .ok (.iload_n 1, 1) := by decide +kernel
theorem d_Ref_budget_2 : decode prog_8_method_33_code 2 = .ok (.invokevirtual 174, 3) := by decide +kernel
theorem d_Ref_budget_5 : decode prog_8_method_33_code 5 = .ok (.lstore_n 2, 1) := by decide +kernel
theorem d_Ref_budget_6 : decode prog_8_method_33_code 6 = .ok (.bipush 27, 2) := by decide +kernel
theorem d_Ref_budget_8 : decode prog_8_method_33_code 8 = .ok (.istore 4, 2) := by decide +kernel
theorem d_Ref_budget_10 : decode prog_8_method_33_code 10 = .ok (.iload 4, 2) := by decide +kernel
theorem d_Ref_budget_12 : decode prog_8_method_33_code 12 = .ok (.ifCond .le 22, 3) := by decide +kernel
theorem d_Ref_budget_15 : decode prog_8_method_33_code 15 = .ok (.lload_n 2, 1) := by decide +kernel
theorem d_Ref_budget_16 : decode prog_8_method_33_code 16 = .ok (.iload 4, 2) := by decide +kernel
theorem d_Ref_budget_18 : decode prog_8_method_33_code 18 = .ok (.iconst 1, 1) := by decide +kernel
theorem d_Ref_budget_19 : decode prog_8_method_33_code 19 = .ok (.iadd, 1) := by decide +kernel
theorem d_Ref_budget_20 : decode prog_8_method_33_code 20 = .ok (.lshl, 1) := by decide +kernel
theorem d_Ref_budget_21 : decode prog_8_method_33_code 21 = .ok (.ldc2_w 72, 3) := by decide +kernel
theorem d_Ref_budget_24 : decode prog_8_method_33_code 24 = .ok (.lcmp, 1) := by decide +kernel
theorem d_Ref_budget_25 : decode prog_8_method_33_code 25 = .ok (.ifCond .lt 9, 3) := by decide +kernel
theorem d_Ref_budget_28 : decode prog_8_method_33_code 28 = .ok (.iinc 4 (-1), 3) := by decide +kernel
theorem d_Ref_budget_31 : decode prog_8_method_33_code 31 = .ok (.goto (-21), 3) := by decide +kernel
theorem d_Ref_budget_34 : decode prog_8_method_33_code 34 = .ok (.iload 4, 2) := by decide +kernel
theorem d_Ref_budget_36 : decode prog_8_method_33_code 36 = .ok (.ireturn, 1) := by decide +kernel
theorem d_Ref_scaled_0 : decode prog_8_method_34_code 0 = .ok (.lload_n 1, 1) := by decide +kernel
theorem d_Ref_scaled_1 : decode prog_8_method_34_code 1 = .ok (.ldc2_w 72, 3) := by decide +kernel
theorem d_Ref_scaled_4 : decode prog_8_method_34_code 4 = .ok (.lrem, 1) := by decide +kernel
theorem d_Ref_scaled_5 : decode prog_8_method_34_code 5 = .ok (.lstore_n 3, 1) := by decide +kernel
theorem d_Ref_scaled_6 : decode prog_8_method_34_code 6 = .ok (.lload_n 1, 1) := by decide +kernel
theorem d_Ref_scaled_7 : decode prog_8_method_34_code 7 = .ok (.ldc2_w 72, 3) := by decide +kernel
theorem d_Ref_scaled_10 : decode prog_8_method_34_code 10 = .ok (.ldiv, 1) := by decide +kernel
theorem d_Ref_scaled_11 : decode prog_8_method_34_code 11 = .ok (.lstore 5, 2) := by decide +kernel
theorem d_Ref_scaled_13 : decode prog_8_method_34_code 13 = .ok (.lload_n 3, 1) := by decide +kernel
theorem d_Ref_scaled_14 : decode prog_8_method_34_code 14 = .ok (.lconst 0, 1) := by decide +kernel
theorem d_Ref_scaled_15 : decode prog_8_method_34_code 15 = .ok (.lcmp, 1) := by decide +kernel
theorem d_Ref_scaled_16 : decode prog_8_method_34_code 16 = .ok (.ifCond .ge 15, 3) := by decide +kernel
theorem d_Ref_scaled_19 : decode prog_8_method_34_code 19 = .ok (.lload_n 3, 1) := by decide +kernel
theorem d_Ref_scaled_20 : decode prog_8_method_34_code 20 = .ok (.ldc2_w 72, 3) := by decide +kernel
theorem d_Ref_scaled_23 : decode prog_8_method_34_code 23 = .ok (.ladd, 1) := by decide +kernel
theorem d_Ref_scaled_24 : decode prog_8_method_34_code 24 = .ok (.lstore_n 3, 1) := by decide +kernel
theorem d_Ref_scaled_25 : decode prog_8_method_34_code 25 = .ok (.lload 5, 2) := by decide +kernel
theorem d_Ref_scaled_27 : decode prog_8_method_34_code 27 = .ok (.lconst 1, 1) := by decide +kernel
theorem d_Ref_scaled_28 : decode prog_8_method_34_code 28 = .ok (.lsub, 1) := by decide +kernel
theorem d_Ref_scaled_29 : decode prog_8_method_34_code 29 = .ok (.lstore 5, 2) := by decide +kernel
theorem d_Ref_scaled_31 : decode prog_8_method_34_code 31 = .ok (.aload_n 0, 1) := by decide +kernel
theorem d_Ref_scaled_32 : decode prog_8_method_34_code 32 = .ok (.getfield 13, 3) := by decide +kernel
theorem d_Ref_scaled_35 : decode prog_8_method_34_code 35 = .ok (.i2l, 1) := by decide +kernel
theorem d_Ref_scaled_36 : decode prog_8_method_34_code 36 = .ok (.lload 5, 2) := by decide +kernel
theorem d_Ref_scaled_38 : decode prog_8_method_34_code 38 = .ok (.lmul, 1) := by decide +kernel
theorem d_Ref_scaled_39 : decode prog_8_method_34_code 39 = .ok (.iconst 2, 1) := by decide +kernel
theorem d_Ref_scaled_40 : decode prog_8_method_34_code 40 = .ok (.aload_n 0, 1) := by decide +kernel
theorem d_Ref_scaled_41 : decode prog_8_method_34_code 41 = .ok (.getfield 13, 3) := by decide +kernel
theorem d_Ref_scaled_44 : decode prog_8_method_34_code 44 = .ok (.imul, 1) := by decide +kernel
theorem d_Ref_scaled_45 : decode prog_8_method_34_code 45 = .ok (.i2l, 1) := by decide +kernel
theorem d_Ref_scaled_46 : decode prog_8_method_34_code 46 = .ok (.lload_n 3, 1) := by decide +kernel
theorem d_Ref_scaled_47 : decode prog_8_method_34_code 47 = .ok (.lmul, 1) := by decide +kernel
theorem d_Ref_scaled_48 : decode prog_8_method_34_code 48 = .ok (.ldc2_w 72, 3) := by decide +kernel
theorem d_Ref_scaled_51 : decode prog_8_method_34_code 51 = .ok (.ladd, 1) := by decide +kernel
theorem d_Ref_scaled_52 : decode prog_8_method_34_code 52 = .ok (.ldc2_w 178, 3) := by decide +kernel
theorem d_Ref_scaled_55 : decode prog_8_method_34_code 55 = .ok (.ldiv, 1) := by decide +kernel
theorem d_Ref_scaled_56 : decode prog_8_method_34_code 56 = .ok (.ladd, 1) := by decide +kernel
theorem d_Ref_scaled_57 : decode prog_8_method_34_code 57 = .ok (.lreturn, 1) := by decide +kernel
theorem d_Ref_open_0 : decode prog_8_method_35_code 0 = .ok (.aload_n 0, 1) := by decide +kernel
theorem d_Ref_open_1 : decode prog_8_method_35_code 1 = .ok (.iload_n 1, 1) := by decide +kernel
theorem d_Ref_open_2 : decode prog_8_method_35_code 2 = .ok (.invokestatic 142, 3) := by decide +kernel
theorem d_Ref_open_5 : decode prog_8_method_35_code 5 = .ok (.ifCond .ne 11, 3) := by decide +kernel
theorem d_Ref_open_8 : decode prog_8_method_35_code 8 = .ok (.aload_n 0, 1) := by decide +kernel
theorem d_Ref_open_9 : decode prog_8_method_35_code 9 = .ok (.iload_n 2, 1) := by decide +kernel
theorem d_Ref_open_10 : decode prog_8_method_35_code 10 = .ok (.invokevirtual 180, 3) := by decide +kernel
theorem d_Ref_open_13 : decode prog_8_method_35_code 13 = .ok (.ifCond .eq 7, 3) := by decide +kernel
theorem d_Ref_open_16 : decode prog_8_method_35_code 16 = .ok (.iconst 1, 1) := by decide +kernel
theorem d_Ref_open_17 : decode prog_8_method_35_code 17 = .ok (.goto 4, 3) := by decide +kernel
theorem d_Ref_open_20 : decode prog_8_method_35_code 20 = .ok (.iconst 0, 1) := by decide +kernel
theorem d_Ref_open_21 : decode prog_8_method_35_code 21 = .ok (.putfield 69, 3) := by decide +kernel
theorem d_Ref_open_24 : decode prog_8_method_35_code 24 = .ok (.aload_n 0, 1) := by decide +kernel
theorem d_Ref_open_25 : decode prog_8_method_35_code 25 = .ok (.getfield 69, 3) := by decide +kernel
theorem d_Ref_open_28 : decode prog_8_method_35_code 28 = .ok (.ifCond .le 5, 3) := by decide +kernel
theorem d_Ref_open_31 : decode prog_8_method_35_code 31 = .ok (.iconst 0, 1) := by decide +kernel
theorem d_Ref_open_32 : decode prog_8_method_35_code 32 = .ok (.ireturn, 1) := by decide +kernel
theorem d_Ref_open_33 : decode prog_8_method_35_code 33 = .ok (.aload_n 0, 1) := by decide +kernel
theorem d_Ref_open_34 : decode prog_8_method_35_code 34 = .ok (.iload_n 2, 1) := by decide +kernel
theorem d_Ref_open_35 : decode prog_8_method_35_code 35 = .ok (.invokevirtual 156, 3) := by decide +kernel
theorem d_Ref_open_38 : decode prog_8_method_35_code 38 = .ok (.istore_n 3, 1) := by decide +kernel
theorem d_Ref_open_39 : decode prog_8_method_35_code 39 = .ok (.aload_n 0, 1) := by decide +kernel
theorem d_Ref_open_40 : decode prog_8_method_35_code 40 = .ok (.iload_n 2, 1) := by decide +kernel
theorem d_Ref_open_41 : decode prog_8_method_35_code 41 = .ok (.invokevirtual 165, 3) := by decide +kernel
theorem d_Ref_open_44 : decode prog_8_method_35_code 44 = .ok (.iconst 0, 1) := by decide +kernel
theorem d_Ref_open_45 : decode prog_8_method_35_code 45 = .ok (.istore 4, 2) := by decide +kernel
theorem d_Ref_open_47 : decode prog_8_method_35_code 47 = .ok (.iload 4, 2) := by decide +kernel
theorem d_Ref_open_49 : decode prog_8_method_35_code 49 = .ok (.aload_n 0, 1) := by decide +kernel
theorem d_Ref_open_50 : decode prog_8_method_35_code 50 = .ok (.getfield 7, 3) := by decide +kernel
theorem d_Ref_open_53 : decode prog_8_method_35_code 53 = .ok (.if_icmp .ge 61, 3) := by decide +kernel
theorem d_Ref_open_56 : decode prog_8_method_35_code 56 = .ok (.aload_n 0, 1) := by decide +kernel
theorem d_Ref_open_57 : decode prog_8_method_35_code 57 = .ok (.aload_n 0, 1) := by decide +kernel
theorem d_Ref_open_58 : decode prog_8_method_35_code 58 = .ok (.getfield 51, 3) := by decide +kernel
theorem d_Ref_open_61 : decode prog_8_method_35_code 61 = .ok (.iload 4, 2) := by decide +kernel
theorem d_Ref_open_63 : decode prog_8_method_35_code 63 = .ok (.laload, 1) := by decide +kernel
theorem d_Ref_open_64 : decode prog_8_method_35_code 64 = .ok (.invokevirtual 182, 3) := by decide +kernel
theorem d_Ref_open_67 : decode prog_8_method_35_code 67 = .ok (.aload_n 0, 1) := by decide +kernel
theorem d_Ref_open_68 : decode prog_8_method_35_code 68 = .ok (.getfield 13, 3) := by decide +kernel
theorem d_Ref_open_71 : decode prog_8_method_35_code 71 = .ok (.i2l, 1) := by decide +kernel
theorem d_Ref_open_72 : decode prog_8_method_35_code 72 = .ok (.lrem, 1) := by decide +kernel
theorem d_Ref_open_73 : decode prog_8_method_35_code 73 = .ok (.lstore 5, 2) := by decide +kernel
theorem d_Ref_open_75 : decode prog_8_method_35_code 75 = .ok (.aload_n 0, 1) := by decide +kernel
theorem d_Ref_open_76 : decode prog_8_method_35_code 76 = .ok (.getfield 36, 3) := by decide +kernel
theorem d_Ref_open_79 : decode prog_8_method_35_code 79 = .ok (.bipush 32, 2) := by decide +kernel
theorem d_Ref_open_81 : decode prog_8_method_35_code 81 = .ok (.iload_n 1, 1) := by decide +kernel
theorem d_Ref_open_82 : decode prog_8_method_35_code 82 = .ok (.imul, 1) := by decide +kernel
theorem d_Ref_open_83 : decode prog_8_method_35_code 83 = .ok (.iload 4, 2) := by decide +kernel
theorem d_Ref_open_85 : decode prog_8_method_35_code 85 = .ok (.iadd, 1) := by decide +kernel
theorem d_Ref_open_86 : decode prog_8_method_35_code 86 = .ok (.lload 5, 2) := by decide +kernel
theorem d_Ref_open_88 : decode prog_8_method_35_code 88 = .ok (.lconst 0, 1) := by decide +kernel
theorem d_Ref_open_89 : decode prog_8_method_35_code 89 = .ok (.lcmp, 1) := by decide +kernel
theorem d_Ref_open_90 : decode prog_8_method_35_code 90 = .ok (.ifCond .ge 14, 3) := by decide +kernel
theorem d_Ref_open_93 : decode prog_8_method_35_code 93 = .ok (.lload 5, 2) := by decide +kernel
theorem d_Ref_open_95 : decode prog_8_method_35_code 95 = .ok (.aload_n 0, 1) := by decide +kernel
theorem d_Ref_open_96 : decode prog_8_method_35_code 96 = .ok (.getfield 13, 3) := by decide +kernel
theorem d_Ref_open_99 : decode prog_8_method_35_code 99 = .ok (.i2l, 1) := by decide +kernel
theorem d_Ref_open_100 : decode prog_8_method_35_code 100 = .ok (.ladd, 1) := by decide +kernel
theorem d_Ref_open_101 : decode prog_8_method_35_code 101 = .ok (.goto 5, 3) := by decide +kernel
theorem d_Ref_open_104 : decode prog_8_method_35_code 104 = .ok (.lload 5, 2) := by decide +kernel
theorem d_Ref_open_106 : decode prog_8_method_35_code 106 = .ok (.l2i, 1) := by decide +kernel
theorem d_Ref_open_107 : decode prog_8_method_35_code 107 = .ok (.iastore, 1) := by decide +kernel
theorem d_Ref_open_108 : decode prog_8_method_35_code 108 = .ok (.iinc 4 1, 3) := by decide +kernel
theorem d_Ref_open_111 : decode prog_8_method_35_code 111 = .ok (.goto (-64), 3) := by decide +kernel
theorem d_Ref_open_114 : decode prog_8_method_35_code 114 = .ok (.iload_n 3, 1) := by decide +kernel
theorem d_Ref_open_115 : decode prog_8_method_35_code 115 = .ok (.ireturn, 1) := by decide +kernel
theorem d_Ref_centre_0 : decode prog_8_method_36_code 0 = .ok (.aload_n 0, 1) := by decide +kernel
theorem d_Ref_centre_1 : decode prog_8_method_36_code 1 = .ok (.iload_n 1, 1) := by decide +kernel
theorem d_Ref_centre_2 : decode prog_8_method_36_code 2 = .ok (.iload_n 2, 1) := by decide +kernel
theorem d_Ref_centre_3 : decode prog_8_method_36_code 3 = .ok (.aload_n 3, 1) := by decide +kernel
theorem d_Ref_centre_4 : decode prog_8_method_36_code 4 = .ok (.invokevirtual 159, 3) := by decide +kernel
theorem d_Ref_centre_7 : decode prog_8_method_36_code 7 = .ok (.iconst 0, 1) := by decide +kernel
theorem d_Ref_centre_8 : decode prog_8_method_36_code 8 = .ok (.istore 4, 2) := by decide +kernel
theorem d_Ref_centre_10 : decode prog_8_method_36_code 10 = .ok (.iload 4, 2) := by decide +kernel
theorem d_Ref_centre_12 : decode prog_8_method_36_code 12 = .ok (.aload_n 0, 1) := by decide +kernel
theorem d_Ref_centre_13 : decode prog_8_method_36_code 13 = .ok (.getfield 7, 3) := by decide +kernel
theorem d_Ref_centre_16 : decode prog_8_method_36_code 16 = .ok (.if_icmp .ge 20, 3) := by decide +kernel
theorem d_Ref_centre_19 : decode prog_8_method_36_code 19 = .ok (.aload_n 3, 1) := by decide +kernel
theorem d_Ref_centre_20 : decode prog_8_method_36_code 20 = .ok (.iload 4, 2) := by decide +kernel
theorem d_Ref_centre_22 : decode prog_8_method_36_code 22 = .ok (.aload_n 3, 1) := by decide +kernel
theorem d_Ref_centre_23 : decode prog_8_method_36_code 23 = .ok (.iload 4, 2) := by decide +kernel
theorem d_Ref_centre_25 : decode prog_8_method_36_code 25 = .ok (.laload, 1) := by decide +kernel
theorem d_Ref_centre_26 : decode prog_8_method_36_code 26 = .ok (.invokestatic 162, 3) := by decide +kernel
theorem d_Ref_centre_29 : decode prog_8_method_36_code 29 = .ok (.lastore, 1) := by decide +kernel
theorem d_Ref_centre_30 : decode prog_8_method_36_code 30 = .ok (.iinc 4 1, 3) := by decide +kernel
theorem d_Ref_centre_33 : decode prog_8_method_36_code 33 = .ok (.goto (-23), 3) := by decide +kernel
theorem d_Ref_centre_36 : decode prog_8_method_36_code 36 = .ok (.return_, 1) := by decide +kernel
theorem d_Ref_join_0 : decode prog_8_method_37_code 0 = .ok (.aload_n 0, 1) := by decide +kernel
theorem d_Ref_join_1 : decode prog_8_method_37_code 1 = .ok (.iload_n 1, 1) := by decide +kernel
theorem d_Ref_join_2 : decode prog_8_method_37_code 2 = .ok (.invokestatic 138, 3) := by decide +kernel
theorem d_Ref_join_5 : decode prog_8_method_37_code 5 = .ok (.ifCond .ne 20, 3) := by decide +kernel
theorem d_Ref_join_8 : decode prog_8_method_37_code 8 = .ok (.aload_n 0, 1) := by decide +kernel
theorem d_Ref_join_9 : decode prog_8_method_37_code 9 = .ok (.iload_n 3, 1) := by decide +kernel
theorem d_Ref_join_10 : decode prog_8_method_37_code 10 = .ok (.invokevirtual 180, 3) := by decide +kernel
theorem d_Ref_join_13 : decode prog_8_method_37_code 13 = .ok (.ifCond .ne 12, 3) := by decide +kernel
theorem d_Ref_join_16 : decode prog_8_method_37_code 16 = .ok (.aload_n 0, 1) := by decide +kernel
theorem d_Ref_join_17 : decode prog_8_method_37_code 17 = .ok (.iload 4, 2) := by decide +kernel
theorem d_Ref_join_19 : decode prog_8_method_37_code 19 = .ok (.invokevirtual 180, 3) := by decide +kernel
theorem d_Ref_join_22 : decode prog_8_method_37_code 22 = .ok (.ifCond .eq 7, 3) := by decide +kernel
theorem d_Ref_join_25 : decode prog_8_method_37_code 25 = .ok (.iconst 1, 1) := by decide +kernel
theorem d_Ref_join_26 : decode prog_8_method_37_code 26 = .ok (.goto 47, 3) := by decide +kernel
theorem d_Ref_join_29 : decode prog_8_method_37_code 29 = .ok (.iload_n 2, 1) := by decide +kernel
theorem d_Ref_join_30 : decode prog_8_method_37_code 30 = .ok (.ifCond .lt 8, 3) := by decide +kernel
theorem d_Ref_join_33 : decode prog_8_method_37_code 33 = .ok (.iload_n 2, 1) := by decide +kernel
theorem d_Ref_join_34 : decode prog_8_method_37_code 34 = .ok (.iconst 2, 1) := by decide +kernel
theorem d_Ref_join_35 : decode prog_8_method_37_code 35 = .ok (.if_icmp .le 7, 3) := by decide +kernel
theorem d_Ref_join_38 : decode prog_8_method_37_code 38 = .ok (.iconst 2, 1) := by decide +kernel
theorem d_Ref_join_39 : decode prog_8_method_37_code 39 = .ok (.goto 34, 3) := by decide +kernel
theorem d_Ref_join_42 : decode prog_8_method_37_code 42 = .ok (.iload_n 2, 1) := by decide +kernel
theorem d_Ref_join_43 : decode prog_8_method_37_code 43 = .ok (.iconst 2, 1) := by decide +kernel
theorem d_Ref_join_44 : decode prog_8_method_37_code 44 = .ok (.if_icmp .ne 28, 3) := by decide +kernel
theorem d_Ref_join_47 : decode prog_8_method_37_code 47 = .ok (.aload_n 0, 1) := by decide +kernel
theorem d_Ref_join_48 : decode prog_8_method_37_code 48 = .ok (.getfield 39, 3) := by decide +kernel
theorem d_Ref_join_51 : decode prog_8_method_37_code 51 = .ok (.iload_n 3, 1) := by decide +kernel
theorem d_Ref_join_52 : decode prog_8_method_37_code 52 = .ok (.iaload, 1) := by decide +kernel
theorem d_Ref_join_53 : decode prog_8_method_37_code 53 = .ok (.iconst 3, 1) := by decide +kernel
theorem d_Ref_join_54 : decode prog_8_method_37_code 54 = .ok (.if_icmp .eq 14, 3) := by decide +kernel
theorem d_Ref_join_57 : decode prog_8_method_37_code 57 = .ok (.aload_n 0, 1) := by decide +kernel
theorem d_Ref_join_58 : decode prog_8_method_37_code 58 = .ok (.getfield 39, 3) := by decide +kernel
theorem d_Ref_join_61 : decode prog_8_method_37_code 61 = .ok (.iload 4, 2) := by decide +kernel
theorem d_Ref_join_63 : decode prog_8_method_37_code 63 = .ok (.iaload, 1) := by decide +kernel
theorem d_Ref_join_64 : decode prog_8_method_37_code 64 = .ok (.iconst 3, 1) := by decide +kernel
theorem d_Ref_join_65 : decode prog_8_method_37_code 65 = .ok (.if_icmp .ne 7, 3) := by decide +kernel
theorem d_Ref_join_68 : decode prog_8_method_37_code 68 = .ok (.iconst 3, 1) := by decide +kernel
theorem d_Ref_join_69 : decode prog_8_method_37_code 69 = .ok (.goto 4, 3) := by decide +kernel
theorem d_Ref_join_72 : decode prog_8_method_37_code 72 = .ok (.iconst 0, 1) := by decide +kernel
theorem d_Ref_join_73 : decode prog_8_method_37_code 73 = .ok (.putfield 69, 3) := by decide +kernel
theorem d_Ref_join_76 : decode prog_8_method_37_code 76 = .ok (.aload_n 0, 1) := by decide +kernel
theorem d_Ref_join_77 : decode prog_8_method_37_code 77 = .ok (.getfield 69, 3) := by decide +kernel
theorem d_Ref_join_80 : decode prog_8_method_37_code 80 = .ok (.ifCond .le 5, 3) := by decide +kernel
theorem d_Ref_join_83 : decode prog_8_method_37_code 83 = .ok (.iconst 0, 1) := by decide +kernel
theorem d_Ref_join_84 : decode prog_8_method_37_code 84 = .ok (.ireturn, 1) := by decide +kernel
theorem d_Ref_join_85 : decode prog_8_method_37_code 85 = .ok (.iload_n 2, 1) := by decide +kernel
theorem d_Ref_join_86 : decode prog_8_method_37_code 86 = .ok (.iconst 2, 1) := by decide +kernel
theorem d_Ref_join_87 : decode prog_8_method_37_code 87 = .ok (.if_icmp .ne 7, 3) := by decide +kernel
theorem d_Ref_join_90 : decode prog_8_method_37_code 90 = .ok (.iconst 3, 1) := by decide +kernel
theorem d_Ref_join_91 : decode prog_8_method_37_code 91 = .ok (.goto 19, 3) := by decide +kernel
theorem d_Ref_join_94 : decode prog_8_method_37_code 94 = .ok (.aload_n 0, 1) := by decide +kernel
theorem d_Ref_join_95 : decode prog_8_method_37_code 95 = .ok (.getfield 39, 3) := by decide +kernel
theorem d_Ref_join_98 : decode prog_8_method_37_code 98 = .ok (.iload_n 3, 1) := by decide +kernel
theorem d_Ref_join_99 : decode prog_8_method_37_code 99 = .ok (.iaload, 1) := by decide +kernel
theorem d_Ref_join_100 : decode prog_8_method_37_code 100 = .ok (.aload_n 0, 1) := by decide +kernel
theorem d_Ref_join_101 : decode prog_8_method_37_code 101 = .ok (.getfield 39, 3) := by decide +kernel
theorem d_Ref_join_104 : decode prog_8_method_37_code 104 = .ok (.iload 4, 2) := by decide +kernel
theorem d_Ref_join_106 : decode prog_8_method_37_code 106 = .ok (.iaload, 1) := by decide +kernel
theorem d_Ref_join_107 : decode prog_8_method_37_code 107 = .ok (.invokestatic 185, 3) := by decide +kernel
theorem d_Ref_join_110 : decode prog_8_method_37_code 110 = .ok (.istore 5, 2) := by decide +kernel
theorem d_Ref_join_112 : decode prog_8_method_37_code 112 = .ok (.iconst 0, 1) := by decide +kernel
theorem d_Ref_join_113 : decode prog_8_method_37_code 113 = .ok (.istore 6, 2) := by decide +kernel
theorem d_Ref_join_115 : decode prog_8_method_37_code 115 = .ok (.iload 6, 2) := by decide +kernel
theorem d_Ref_join_117 : decode prog_8_method_37_code 117 = .ok (.iconst 3, 1) := by decide +kernel
theorem d_Ref_join_118 : decode prog_8_method_37_code 118 = .ok (.if_icmp .ge 314, 3) := by decide +kernel
theorem d_Ref_join_121 : decode prog_8_method_37_code 121 = .ok (.iconst 0, 1) := by decide +kernel
theorem d_Ref_join_122 : decode prog_8_method_37_code 122 = .ok (.istore 7, 2) := by decide +kernel
theorem d_Ref_join_124 : decode prog_8_method_37_code 124 = .ok (.iload 7, 2) := by decide +kernel
theorem d_Ref_join_126 : decode prog_8_method_37_code 126 = .ok (.aload_n 0, 1) := by decide +kernel
theorem d_Ref_join_127 : decode prog_8_method_37_code 127 = .ok (.getfield 7, 3) := by decide +kernel
theorem d_Ref_join_130 : decode prog_8_method_37_code 130 = .ok (.if_icmp .ge 17, 3) := by decide +kernel
theorem d_Ref_join_133 : decode prog_8_method_37_code 133 = .ok (.aload_n 0, 1) := by decide +kernel
theorem d_Ref_join_134 : decode prog_8_method_37_code 134 = .ok (.getfield 51, 3) := by decide +kernel
theorem d_Ref_join_137 : decode prog_8_method_37_code 137 = .ok (.iload 7, 2) := by decide +kernel
theorem d_Ref_join_139 : decode prog_8_method_37_code 139 = .ok (.lconst 0, 1) := by decide +kernel
theorem d_Ref_join_140 : decode prog_8_method_37_code 140 = .ok (.lastore, 1) := by decide +kernel
theorem d_Ref_join_141 : decode prog_8_method_37_code 141 = .ok (.iinc 7 1, 3) := by decide +kernel
theorem d_Ref_join_144 : decode prog_8_method_37_code 144 = .ok (.goto (-20), 3) := by decide +kernel
theorem d_Ref_join_147 : decode prog_8_method_37_code 147 = .ok (.iload_n 2, 1) := by decide +kernel
theorem d_Ref_join_148 : decode prog_8_method_37_code 148 = .ok (.iconst 2, 1) := by decide +kernel
theorem d_Ref_join_149 : decode prog_8_method_37_code 149 = .ok (.if_icmp .ge 91, 3) := by decide +kernel
theorem d_Ref_join_152 : decode prog_8_method_37_code 152 = .ok (.aload_n 0, 1) := by decide +kernel
theorem d_Ref_join_153 : decode prog_8_method_37_code 153 = .ok (.iload_n 3, 1) := by decide +kernel
theorem d_Ref_join_154 : decode prog_8_method_37_code 154 = .ok (.iload 6, 2) := by decide +kernel
theorem d_Ref_join_156 : decode prog_8_method_37_code 156 = .ok (.aload_n 0, 1) := by decide +kernel
theorem d_Ref_join_157 : decode prog_8_method_37_code 157 = .ok (.getfield 45, 3) := by decide +kernel
theorem d_Ref_join_160 : decode prog_8_method_37_code 160 = .ok (.invokevirtual 159, 3) := by decide +kernel
theorem d_Ref_join_163 : decode prog_8_method_37_code 163 = .ok (.aload_n 0, 1) := by decide +kernel
theorem d_Ref_join_164 : decode prog_8_method_37_code 164 = .ok (.iload 4, 2) := by decide +kernel
theorem d_Ref_join_166 : decode prog_8_method_37_code 166 = .ok (.iload 6, 2) := by decide +kernel
theorem d_Ref_join_168 : decode prog_8_method_37_code 168 = .ok (.aload_n 0, 1) := by decide +kernel
theorem d_Ref_join_169 : decode prog_8_method_37_code 169 = .ok (.getfield 48, 3) := by decide +kernel
theorem d_Ref_join_172 : decode prog_8_method_37_code 172 = .ok (.invokevirtual 159, 3) := by decide +kernel
theorem d_Ref_join_175 : decode prog_8_method_37_code 175 = .ok (.iconst 0, 1) := by decide +kernel
theorem d_Ref_join_176 : decode prog_8_method_37_code 176 = .ok (.istore 7, 2) := by decide +kernel
theorem d_Ref_join_178 : decode prog_8_method_37_code 178 = .ok (.iload 7, 2) := by decide +kernel
theorem d_Ref_join_180 : decode prog_8_method_37_code 180 = .ok (.aload_n 0, 1) := by decide +kernel
theorem d_Ref_join_181 : decode prog_8_method_37_code 181 = .ok (.getfield 7, 3) := by decide +kernel
theorem d_Ref_join_184 : decode prog_8_method_37_code 184 = .ok (.if_icmp .ge 53, 3) := by decide +kernel
theorem d_Ref_join_187 : decode prog_8_method_37_code 187 = .ok (.aload_n 0, 1) := by decide +kernel
theorem d_Ref_join_188 : decode prog_8_method_37_code 188 = .ok (.getfield 51, 3) := by decide +kernel
theorem d_Ref_join_191 : decode prog_8_method_37_code 191 = .ok (.iload 7, 2) := by decide +kernel
theorem d_Ref_join_193 : decode prog_8_method_37_code 193 = .ok (.iload_n 2, 1) := by decide +kernel
theorem d_Ref_join_194 : decode prog_8_method_37_code 194 = .ok (.ifCond .ne 21, 3) := by decide +kernel
theorem d_Ref_join_197 : decode prog_8_method_37_code 197 = .ok (.aload_n 0, 1) := by decide +kernel
theorem d_Ref_join_198 : decode prog_8_method_37_code 198 = .ok (.getfield 45, 3) := by decide +kernel
theorem d_Ref_join_201 : decode prog_8_method_37_code 201 = .ok (.iload 7, 2) := by decide +kernel
theorem d_Ref_join_203 : decode prog_8_method_37_code 203 = .ok (.laload, 1) := by decide +kernel
theorem d_Ref_join_204 : decode prog_8_method_37_code 204 = .ok (.aload_n 0, 1) := by decide +kernel
theorem d_Ref_join_205 : decode prog_8_method_37_code 205 = .ok (.getfield 48, 3) := by decide +kernel
theorem d_Ref_join_208 : decode prog_8_method_37_code 208 = .ok (.iload 7, 2) := by decide +kernel
theorem d_Ref_join_210 : decode prog_8_method_37_code 210 = .ok (.laload, 1) := by decide +kernel
theorem d_Ref_join_211 : decode prog_8_method_37_code 211 = .ok (.ladd, 1) := by decide +kernel
theorem d_Ref_join_212 : decode prog_8_method_37_code 212 = .ok (.goto 18, 3) := by decide +kernel
theorem d_Ref_join_215 : decode prog_8_method_37_code 215 = .ok (.aload_n 0, 1) := by decide +kernel
theorem d_Ref_join_216 : decode prog_8_method_37_code 216 = .ok (.getfield 45, 3) := by decide +kernel
theorem d_Ref_join_219 : decode prog_8_method_37_code 219 = .ok (.iload 7, 2) := by decide +kernel
theorem d_Ref_join_221 : decode prog_8_method_37_code 221 = .ok (.laload, 1) := by decide +kernel
theorem d_Ref_join_222 : decode prog_8_method_37_code 222 = .ok (.aload_n 0, 1) := by decide +kernel
theorem d_Ref_join_223 : decode prog_8_method_37_code 223 = .ok (.getfield 48, 3) := by decide +kernel
theorem d_Ref_join_226 : decode prog_8_method_37_code 226 = .ok (.iload 7, 2) := by decide +kernel
theorem d_Ref_join_228 : decode prog_8_method_37_code 228 = .ok (.laload, 1) := by decide +kernel
theorem d_Ref_join_229 : decode prog_8_method_37_code 229 = .ok (.lsub, 1) := by decide +kernel
theorem d_Ref_join_230 : decode prog_8_method_37_code 230 = .ok (.lastore, 1) := by decide +kernel
theorem d_Ref_join_231 : decode prog_8_method_37_code 231 = .ok (.iinc 7 1, 3) := by decide +kernel
theorem d_Ref_join_234 : decode prog_8_method_37_code 234 = .ok (.goto (-56), 3) := by decide +kernel
theorem d_Ref_join_237 : decode prog_8_method_37_code 237 = .ok (.goto 151, 3) := by decide +kernel
theorem d_Ref_join_240 : decode prog_8_method_37_code 240 = .ok (.iconst 0, 1) := by decide +kernel
theorem d_Ref_join_241 : decode prog_8_method_37_code 241 = .ok (.istore 7, 2) := by decide +kernel
theorem d_Ref_join_243 : decode prog_8_method_37_code 243 = .ok (.iload 7, 2) := by decide +kernel
theorem d_Ref_join_245 : decode prog_8_method_37_code 245 = .ok (.iconst 2, 1) := by decide +kernel
theorem d_Ref_join_246 : decode prog_8_method_37_code 246 = .ok (.if_icmp .ge 106, 3) := by decide +kernel
theorem d_Ref_join_249 : decode prog_8_method_37_code 249 = .ok (.iload 6, 2) := by decide +kernel
theorem d_Ref_join_251 : decode prog_8_method_37_code 251 = .ok (.iload 7, 2) := by decide +kernel
theorem d_Ref_join_253 : decode prog_8_method_37_code 253 = .ok (.isub, 1) := by decide +kernel
theorem d_Ref_join_254 : decode prog_8_method_37_code 254 = .ok (.ifCond .lt 92, 3) := by decide +kernel
theorem d_Ref_join_257 : decode prog_8_method_37_code 257 = .ok (.iload 6, 2) := by decide +kernel
theorem d_Ref_join_259 : decode prog_8_method_37_code 259 = .ok (.iload 7, 2) := by decide +kernel
theorem d_Ref_join_261 : decode prog_8_method_37_code 261 = .ok (.isub, 1) := by decide +kernel
theorem d_Ref_join_262 : decode prog_8_method_37_code 262 = .ok (.iconst 1, 1) := by decide +kernel
theorem d_Ref_join_263 : decode prog_8_method_37_code 263 = .ok (.if_icmp .le 6, 3) := by decide +kernel
theorem d_Ref_join_266 : decode prog_8_method_37_code 266 = .ok (.goto 80, 3) := by decide +kernel
theorem d_Ref_join_269 : decode prog_8_method_37_code 269 = .ok (.aload_n 0, 1) := by decide +kernel
theorem d_Ref_join_270 : decode prog_8_method_37_code 270 = .ok (.iload_n 3, 1) := by decide +kernel
theorem d_Ref_join_271 : decode prog_8_method_37_code 271 = .ok (.iload 7, 2) := by decide +kernel
theorem d_Ref_join_273 : decode prog_8_method_37_code 273 = .ok (.aload_n 0, 1) := by decide +kernel
theorem d_Ref_join_274 : decode prog_8_method_37_code 274 = .ok (.getfield 45, 3) := by decide +kernel
theorem d_Ref_join_277 : decode prog_8_method_37_code 277 = .ok (.invokevirtual 187, 3) := by decide +kernel
theorem d_Ref_join_280 : decode prog_8_method_37_code 280 = .ok (.aload_n 0, 1) := by decide +kernel
theorem d_Ref_join_281 : decode prog_8_method_37_code 281 = .ok (.iload 4, 2) := by decide +kernel
theorem d_Ref_join_283 : decode prog_8_method_37_code 283 = .ok (.iload 6, 2) := by decide +kernel
theorem d_Ref_join_285 : decode prog_8_method_37_code 285 = .ok (.iload 7, 2) := by decide +kernel
theorem d_Ref_join_287 : decode prog_8_method_37_code 287 = .ok (.isub, 1) := by decide +kernel
theorem d_Ref_join_288 : decode prog_8_method_37_code 288 = .ok (.aload_n 0, 1) := by decide +kernel
theorem d_Ref_join_289 : decode prog_8_method_37_code 289 = .ok (.getfield 48, 3) := by decide +kernel
theorem d_Ref_join_292 : decode prog_8_method_37_code 292 = .ok (.invokevirtual 187, 3) := by decide +kernel
theorem d_Ref_join_295 : decode prog_8_method_37_code 295 = .ok (.aload_n 0, 1) := by decide +kernel
theorem d_Ref_join_296 : decode prog_8_method_37_code 296 = .ok (.aload_n 0, 1) := by decide +kernel
theorem d_Ref_join_297 : decode prog_8_method_37_code 297 = .ok (.getfield 45, 3) := by decide +kernel
theorem d_Ref_join_300 : decode prog_8_method_37_code 300 = .ok (.aload_n 0, 1) := by decide +kernel
theorem d_Ref_join_301 : decode prog_8_method_37_code 301 = .ok (.getfield 48, 3) := by decide +kernel
theorem d_Ref_join_304 : decode prog_8_method_37_code 304 = .ok (.aload_n 0, 1) := by decide +kernel
theorem d_Ref_join_305 : decode prog_8_method_37_code 305 = .ok (.getfield 54, 3) := by decide +kernel
theorem d_Ref_join_308 : decode prog_8_method_37_code 308 = .ok (.invokevirtual 120, 3) := by decide +kernel
theorem d_Ref_join_311 : decode prog_8_method_37_code 311 = .ok (.iconst 0, 1) := by decide +kernel
theorem d_Ref_join_312 : decode prog_8_method_37_code 312 = .ok (.istore 8, 2) := by decide +kernel
theorem d_Ref_join_314 : decode prog_8_method_37_code 314 = .ok (.iload 8, 2) := by decide +kernel
theorem d_Ref_join_316 : decode prog_8_method_37_code 316 = .ok (.aload_n 0, 1) := by decide +kernel
theorem d_Ref_join_317 : decode prog_8_method_37_code 317 = .ok (.getfield 7, 3) := by decide +kernel
theorem d_Ref_join_320 : decode prog_8_method_37_code 320 = .ok (.if_icmp .ge 26, 3) := by decide +kernel
theorem d_Ref_join_323 : decode prog_8_method_37_code 323 = .ok (.aload_n 0, 1) := by decide +kernel
theorem d_Ref_join_324 : decode prog_8_method_37_code 324 = .ok (.getfield 51, 3) := by decide +kernel
theorem d_Ref_join_327 : decode prog_8_method_37_code 327 = .ok (.iload 8, 2) := by decide +kernel
theorem d_Ref_join_329 : decode prog_8_method_37_code 329 = .ok (.dup2, 1) := by decide +kernel
theorem d_Ref_join_330 : decode prog_8_method_37_code 330 = .ok (.laload, 1) := by decide +kernel
theorem d_Ref_join_331 : decode prog_8_method_37_code 331 = .ok (.aload_n 0, 1) := by decide +kernel
theorem d_Ref_join_332 : decode prog_8_method_37_code 332 = .ok (.getfield 54, 3) := by decide +kernel
theorem d_Ref_join_335 : decode prog_8_method_37_code 335 = .ok (.iload 8, 2) := by decide +kernel
theorem d_Ref_join_337 : decode prog_8_method_37_code 337 = .ok (.laload, 1) := by decide +kernel
theorem d_Ref_join_338 : decode prog_8_method_37_code 338 = .ok (.ladd, 1) := by decide +kernel
theorem d_Ref_join_339 : decode prog_8_method_37_code 339 = .ok (.lastore, 1) := by decide +kernel
theorem d_Ref_join_340 : decode prog_8_method_37_code 340 = .ok (.iinc 8 1, 3) := by decide +kernel
theorem d_Ref_join_343 : decode prog_8_method_37_code 343 = .ok (.goto (-29), 3) := by decide +kernel
theorem d_Ref_join_346 : decode prog_8_method_37_code 346 = .ok (.iinc 7 1, 3) := by decide +kernel
theorem d_Ref_join_349 : decode prog_8_method_37_code 349 = .ok (.goto (-106), 3) := by decide +kernel
theorem d_Ref_join_352 : decode prog_8_method_37_code 352 = .ok (.iconst 0, 1) := by decide +kernel
theorem d_Ref_join_353 : decode prog_8_method_37_code 353 = .ok (.istore 7, 2) := by decide +kernel
theorem d_Ref_join_355 : decode prog_8_method_37_code 355 = .ok (.iload 7, 2) := by decide +kernel
theorem d_Ref_join_357 : decode prog_8_method_37_code 357 = .ok (.aload_n 0, 1) := by decide +kernel
theorem d_Ref_join_358 : decode prog_8_method_37_code 358 = .ok (.getfield 7, 3) := by decide +kernel
theorem d_Ref_join_361 : decode prog_8_method_37_code 361 = .ok (.if_icmp .ge 27, 3) := by decide +kernel
theorem d_Ref_join_364 : decode prog_8_method_37_code 364 = .ok (.aload_n 0, 1) := by decide +kernel
theorem d_Ref_join_365 : decode prog_8_method_37_code 365 = .ok (.getfield 51, 3) := by decide +kernel
theorem d_Ref_join_368 : decode prog_8_method_37_code 368 = .ok (.iload 7, 2) := by decide +kernel
theorem d_Ref_join_370 : decode prog_8_method_37_code 370 = .ok (.aload_n 0, 1) := by decide +kernel
theorem d_Ref_join_371 : decode prog_8_method_37_code 371 = .ok (.aload_n 0, 1) := by decide +kernel
theorem d_Ref_join_372 : decode prog_8_method_37_code 372 = .ok (.getfield 51, 3) := by decide +kernel
theorem d_Ref_join_375 : decode prog_8_method_37_code 375 = .ok (.iload 7, 2) := by decide +kernel
theorem d_Ref_join_377 : decode prog_8_method_37_code 377 = .ok (.laload, 1) := by decide +kernel
theorem d_Ref_join_378 : decode prog_8_method_37_code 378 = .ok (.invokevirtual 182, 3) := by decide +kernel
theorem d_Ref_join_381 : decode prog_8_method_37_code 381 = .ok (.lastore, 1) := by decide +kernel
theorem d_Ref_join_382 : decode prog_8_method_37_code 382 = .ok (.iinc 7 1, 3) := by decide +kernel
theorem d_Ref_join_385 : decode prog_8_method_37_code 385 = .ok (.goto (-30), 3) := by decide +kernel
theorem d_Ref_join_388 : decode prog_8_method_37_code 388 = .ok (.iconst 0, 1) := by decide +kernel
theorem d_Ref_join_389 : decode prog_8_method_37_code 389 = .ok (.istore 7, 2) := by decide +kernel
theorem d_Ref_join_391 : decode prog_8_method_37_code 391 = .ok (.iload 7, 2) := by decide +kernel
theorem d_Ref_join_393 : decode prog_8_method_37_code 393 = .ok (.aload_n 0, 1) := by decide +kernel
theorem d_Ref_join_394 : decode prog_8_method_37_code 394 = .ok (.getfield 7, 3) := by decide +kernel
theorem d_Ref_join_397 : decode prog_8_method_37_code 397 = .ok (.if_icmp .ge 29, 3) := by decide +kernel
theorem d_Ref_join_400 : decode prog_8_method_37_code 400 = .ok (.aload_n 0, 1) := by decide +kernel
theorem d_Ref_join_401 : decode prog_8_method_37_code 401 = .ok (.getfield 60, 3) := by decide +kernel
theorem d_Ref_join_404 : decode prog_8_method_37_code 404 = .ok (.bipush 32, 2) := by decide +kernel
theorem d_Ref_join_406 : decode prog_8_method_37_code 406 = .ok (.iload 6, 2) := by decide +kernel
theorem d_Ref_join_408 : decode prog_8_method_37_code 408 = .ok (.imul, 1) := by decide +kernel
theorem d_Ref_join_409 : decode prog_8_method_37_code 409 = .ok (.iload 7, 2) := by decide +kernel
theorem d_Ref_join_411 : decode prog_8_method_37_code 411 = .ok (.iadd, 1) := by decide +kernel
theorem d_Ref_join_412 : decode prog_8_method_37_code 412 = .ok (.aload_n 0, 1) := by decide +kernel
theorem d_Ref_join_413 : decode prog_8_method_37_code 413 = .ok (.getfield 51, 3) := by decide +kernel
theorem d_Ref_join_416 : decode prog_8_method_37_code 416 = .ok (.iload 7, 2) := by decide +kernel
theorem d_Ref_join_418 : decode prog_8_method_37_code 418 = .ok (.laload, 1) := by decide +kernel
theorem d_Ref_join_419 : decode prog_8_method_37_code 419 = .ok (.lastore, 1) := by decide +kernel
theorem d_Ref_join_420 : decode prog_8_method_37_code 420 = .ok (.iinc 7 1, 3) := by decide +kernel
theorem d_Ref_join_423 : decode prog_8_method_37_code 423 = .ok (.goto (-32), 3) := by decide +kernel
theorem d_Ref_join_426 : decode prog_8_method_37_code 426 = .ok (.iinc 6 1, 3) := by decide +kernel
theorem d_Ref_join_429 : decode prog_8_method_37_code 429 = .ok (.goto (-314), 3) := by decide +kernel
theorem d_Ref_join_432 : decode prog_8_method_37_code 432 = .ok (.aload_n 0, 1) := by decide +kernel
theorem d_Ref_join_433 : decode prog_8_method_37_code 433 = .ok (.getfield 39, 3) := by decide +kernel
theorem d_Ref_join_436 : decode prog_8_method_37_code 436 = .ok (.iload_n 1, 1) := by decide +kernel
theorem d_Ref_join_437 : decode prog_8_method_37_code 437 = .ok (.iload 5, 2) := by decide +kernel
theorem d_Ref_join_439 : decode prog_8_method_37_code 439 = .ok (.iastore, 1) := by decide +kernel
theorem d_Ref_join_440 : decode prog_8_method_37_code 440 = .ok (.iconst 0, 1) := by decide +kernel
theorem d_Ref_join_441 : decode prog_8_method_37_code 441 = .ok (.istore 6, 2) := by decide +kernel
theorem d_Ref_join_443 : decode prog_8_method_37_code 443 = .ok (.iload 6, 2) := by decide +kernel
theorem d_Ref_join_445 : decode prog_8_method_37_code 445 = .ok (.iconst 3, 1) := by decide +kernel
theorem d_Ref_join_446 : decode prog_8_method_37_code 446 = .ok (.if_icmp .ge 58, 3) := by decide +kernel
theorem d_Ref_join_449 : decode prog_8_method_37_code 449 = .ok (.iconst 0, 1) := by decide +kernel
theorem d_Ref_join_450 : decode prog_8_method_37_code 450 = .ok (.istore 7, 2) := by decide +kernel
theorem d_Ref_join_452 : decode prog_8_method_37_code 452 = .ok (.iload 7, 2) := by decide +kernel
theorem d_Ref_join_454 : decode prog_8_method_37_code 454 = .ok (.aload_n 0, 1) := by decide +kernel
theorem d_Ref_join_455 : decode prog_8_method_37_code 455 = .ok (.getfield 7, 3) := by decide +kernel
theorem d_Ref_join_458 : decode prog_8_method_37_code 458 = .ok (.if_icmp .ge 29, 3) := by decide +kernel
theorem d_Ref_join_461 : decode prog_8_method_37_code 461 = .ok (.aload_n 0, 1) := by decide +kernel
theorem d_Ref_join_462 : decode prog_8_method_37_code 462 = .ok (.getfield 51, 3) := by decide +kernel
theorem d_Ref_join_465 : decode prog_8_method_37_code 465 = .ok (.iload 7, 2) := by decide +kernel
theorem d_Ref_join_467 : decode prog_8_method_37_code 467 = .ok (.aload_n 0, 1) := by decide +kernel
theorem d_Ref_join_468 : decode prog_8_method_37_code 468 = .ok (.getfield 60, 3) := by decide +kernel
theorem d_Ref_join_471 : decode prog_8_method_37_code 471 = .ok (.bipush 32, 2) := by decide +kernel
theorem d_Ref_join_473 : decode prog_8_method_37_code 473 = .ok (.iload 6, 2) := by decide +kernel
theorem d_Ref_join_475 : decode prog_8_method_37_code 475 = .ok (.imul, 1) := by decide +kernel
theorem d_Ref_join_476 : decode prog_8_method_37_code 476 = .ok (.iload 7, 2) := by decide +kernel
theorem d_Ref_join_478 : decode prog_8_method_37_code 478 = .ok (.iadd, 1) := by decide +kernel
theorem d_Ref_join_479 : decode prog_8_method_37_code 479 = .ok (.laload, 1) := by decide +kernel
theorem d_Ref_join_480 : decode prog_8_method_37_code 480 = .ok (.lastore, 1) := by decide +kernel
theorem d_Ref_join_481 : decode prog_8_method_37_code 481 = .ok (.iinc 7 1, 3) := by decide +kernel
theorem d_Ref_join_484 : decode prog_8_method_37_code 484 = .ok (.goto (-32), 3) := by decide +kernel
theorem d_Ref_join_487 : decode prog_8_method_37_code 487 = .ok (.aload_n 0, 1) := by decide +kernel
theorem d_Ref_join_488 : decode prog_8_method_37_code 488 = .ok (.iload_n 1, 1) := by decide +kernel
theorem d_Ref_join_489 : decode prog_8_method_37_code 489 = .ok (.iload 6, 2) := by decide +kernel
theorem d_Ref_join_491 : decode prog_8_method_37_code 491 = .ok (.aload_n 0, 1) := by decide +kernel
theorem d_Ref_join_492 : decode prog_8_method_37_code 492 = .ok (.getfield 51, 3) := by decide +kernel
theorem d_Ref_join_495 : decode prog_8_method_37_code 495 = .ok (.invokevirtual 152, 3) := by decide +kernel
theorem d_Ref_join_498 : decode prog_8_method_37_code 498 = .ok (.iinc 6 1, 3) := by decide +kernel
theorem d_Ref_join_501 : decode prog_8_method_37_code 501 = .ok (.goto (-58), 3) := by decide +kernel
theorem d_Ref_join_504 : decode prog_8_method_37_code 504 = .ok (.iload 5, 2) := by decide +kernel
theorem d_Ref_join_506 : decode prog_8_method_37_code 506 = .ok (.ireturn, 1) := by decide +kernel
theorem d_Ref_plain_0 : decode prog_8_method_38_code 0 = .ok (.aload_n 0, 1) := by decide +kernel
theorem d_Ref_plain_1 : decode prog_8_method_38_code 1 = .ok (.iload_n 1, 1) := by decide +kernel
theorem d_Ref_plain_2 : decode prog_8_method_38_code 2 = .ok (.invokestatic 138, 3) := by decide +kernel
theorem d_Ref_plain_5 : decode prog_8_method_38_code 5 = .ok (.ifCond .ne 19, 3) := by decide +kernel
theorem d_Ref_plain_8 : decode prog_8_method_38_code 8 = .ok (.aload_n 0, 1) := by decide +kernel
theorem d_Ref_plain_9 : decode prog_8_method_38_code 9 = .ok (.iload_n 3, 1) := by decide +kernel
theorem d_Ref_plain_10 : decode prog_8_method_38_code 10 = .ok (.invokevirtual 180, 3) := by decide +kernel
theorem d_Ref_plain_13 : decode prog_8_method_38_code 13 = .ok (.ifCond .ne 11, 3) := by decide +kernel
theorem d_Ref_plain_16 : decode prog_8_method_38_code 16 = .ok (.iload 4, 2) := by decide +kernel
theorem d_Ref_plain_18 : decode prog_8_method_38_code 18 = .ok (.invokestatic 142, 3) := by decide +kernel
theorem d_Ref_plain_21 : decode prog_8_method_38_code 21 = .ok (.ifCond .eq 7, 3) := by decide +kernel
theorem d_Ref_plain_24 : decode prog_8_method_38_code 24 = .ok (.iconst 1, 1) := by decide +kernel
theorem d_Ref_plain_25 : decode prog_8_method_38_code 25 = .ok (.goto 17, 3) := by decide +kernel
theorem d_Ref_plain_28 : decode prog_8_method_38_code 28 = .ok (.iload_n 2, 1) := by decide +kernel
theorem d_Ref_plain_29 : decode prog_8_method_38_code 29 = .ok (.ifCond .lt 8, 3) := by decide +kernel
theorem d_Ref_plain_32 : decode prog_8_method_38_code 32 = .ok (.iload_n 2, 1) := by decide +kernel
theorem d_Ref_plain_33 : decode prog_8_method_38_code 33 = .ok (.iconst 1, 1) := by decide +kernel
theorem d_Ref_plain_34 : decode prog_8_method_38_code 34 = .ok (.if_icmp .le 7, 3) := by decide +kernel
theorem d_Ref_plain_37 : decode prog_8_method_38_code 37 = .ok (.iconst 2, 1) := by decide +kernel
theorem d_Ref_plain_38 : decode prog_8_method_38_code 38 = .ok (.goto 4, 3) := by decide +kernel
theorem d_Ref_plain_41 : decode prog_8_method_38_code 41 = .ok (.iconst 0, 1) := by decide +kernel
theorem d_Ref_plain_42 : decode prog_8_method_38_code 42 = .ok (.putfield 69, 3) := by decide +kernel
theorem d_Ref_plain_45 : decode prog_8_method_38_code 45 = .ok (.aload_n 0, 1) := by decide +kernel
theorem d_Ref_plain_46 : decode prog_8_method_38_code 46 = .ok (.getfield 69, 3) := by decide +kernel
theorem d_Ref_plain_49 : decode prog_8_method_38_code 49 = .ok (.ifCond .le 5, 3) := by decide +kernel
theorem d_Ref_plain_52 : decode prog_8_method_38_code 52 = .ok (.iconst 0, 1) := by decide +kernel
theorem d_Ref_plain_53 : decode prog_8_method_38_code 53 = .ok (.ireturn, 1) := by decide +kernel
theorem d_Ref_plain_54 : decode prog_8_method_38_code 54 = .ok (.aload_n 0, 1) := by decide +kernel
theorem d_Ref_plain_55 : decode prog_8_method_38_code 55 = .ok (.getfield 39, 3) := by decide +kernel
theorem d_Ref_plain_58 : decode prog_8_method_38_code 58 = .ok (.iload_n 3, 1) := by decide +kernel
theorem d_Ref_plain_59 : decode prog_8_method_38_code 59 = .ok (.iaload, 1) := by decide +kernel
theorem d_Ref_plain_60 : decode prog_8_method_38_code 60 = .ok (.istore 5, 2) := by decide +kernel
theorem d_Ref_plain_62 : decode prog_8_method_38_code 62 = .ok (.iconst 0, 1) := by decide +kernel
theorem d_Ref_plain_63 : decode prog_8_method_38_code 63 = .ok (.istore 6, 2) := by decide +kernel
theorem d_Ref_plain_65 : decode prog_8_method_38_code 65 = .ok (.iload 6, 2) := by decide +kernel
theorem d_Ref_plain_67 : decode prog_8_method_38_code 67 = .ok (.iload 5, 2) := by decide +kernel
theorem d_Ref_plain_69 : decode prog_8_method_38_code 69 = .ok (.if_icmp .ge 180, 3) := by decide +kernel
theorem d_Ref_plain_72 : decode prog_8_method_38_code 72 = .ok (.aload_n 0, 1) := by decide +kernel
theorem d_Ref_plain_73 : decode prog_8_method_38_code 73 = .ok (.iload_n 3, 1) := by decide +kernel
theorem d_Ref_plain_74 : decode prog_8_method_38_code 74 = .ok (.iload 6, 2) := by decide +kernel
theorem d_Ref_plain_76 : decode prog_8_method_38_code 76 = .ok (.aload_n 0, 1) := by decide +kernel
theorem d_Ref_plain_77 : decode prog_8_method_38_code 77 = .ok (.getfield 45, 3) := by decide +kernel
theorem d_Ref_plain_80 : decode prog_8_method_38_code 80 = .ok (.invokevirtual 159, 3) := by decide +kernel
theorem d_Ref_plain_83 : decode prog_8_method_38_code 83 = .ok (.iconst 0, 1) := by decide +kernel
theorem d_Ref_plain_84 : decode prog_8_method_38_code 84 = .ok (.istore 7, 2) := by decide +kernel
theorem d_Ref_plain_86 : decode prog_8_method_38_code 86 = .ok (.iload 7, 2) := by decide +kernel
theorem d_Ref_plain_88 : decode prog_8_method_38_code 88 = .ok (.aload_n 0, 1) := by decide +kernel
theorem d_Ref_plain_89 : decode prog_8_method_38_code 89 = .ok (.getfield 7, 3) := by decide +kernel
theorem d_Ref_plain_92 : decode prog_8_method_38_code 92 = .ok (.if_icmp .ge 30, 3) := by decide +kernel
theorem d_Ref_plain_95 : decode prog_8_method_38_code 95 = .ok (.aload_n 0, 1) := by decide +kernel
theorem d_Ref_plain_96 : decode prog_8_method_38_code 96 = .ok (.getfield 48, 3) := by decide +kernel
theorem d_Ref_plain_99 : decode prog_8_method_38_code 99 = .ok (.iload 7, 2) := by decide +kernel
theorem d_Ref_plain_101 : decode prog_8_method_38_code 101 = .ok (.aload_n 0, 1) := by decide +kernel
theorem d_Ref_plain_102 : decode prog_8_method_38_code 102 = .ok (.getfield 36, 3) := by decide +kernel
theorem d_Ref_plain_105 : decode prog_8_method_38_code 105 = .ok (.bipush 32, 2) := by decide +kernel
theorem d_Ref_plain_107 : decode prog_8_method_38_code 107 = .ok (.iload 4, 2) := by decide +kernel
theorem d_Ref_plain_109 : decode prog_8_method_38_code 109 = .ok (.imul, 1) := by decide +kernel
theorem d_Ref_plain_110 : decode prog_8_method_38_code 110 = .ok (.iload 7, 2) := by decide +kernel
theorem d_Ref_plain_112 : decode prog_8_method_38_code 112 = .ok (.iadd, 1) := by decide +kernel
theorem d_Ref_plain_113 : decode prog_8_method_38_code 113 = .ok (.iaload, 1) := by decide +kernel
theorem d_Ref_plain_114 : decode prog_8_method_38_code 114 = .ok (.i2l, 1) := by decide +kernel
theorem d_Ref_plain_115 : decode prog_8_method_38_code 115 = .ok (.lastore, 1) := by decide +kernel
theorem d_Ref_plain_116 : decode prog_8_method_38_code 116 = .ok (.iinc 7 1, 3) := by decide +kernel
theorem d_Ref_plain_119 : decode prog_8_method_38_code 119 = .ok (.goto (-33), 3) := by decide +kernel
theorem d_Ref_plain_122 : decode prog_8_method_38_code 122 = .ok (.iload_n 2, 1) := by decide +kernel
theorem d_Ref_plain_123 : decode prog_8_method_38_code 123 = .ok (.iconst 1, 1) := by decide +kernel
theorem d_Ref_plain_124 : decode prog_8_method_38_code 124 = .ok (.if_icmp .ne 22, 3) := by decide +kernel
theorem d_Ref_plain_127 : decode prog_8_method_38_code 127 = .ok (.aload_n 0, 1) := by decide +kernel
theorem d_Ref_plain_128 : decode prog_8_method_38_code 128 = .ok (.aload_n 0, 1) := by decide +kernel
theorem d_Ref_plain_129 : decode prog_8_method_38_code 129 = .ok (.getfield 45, 3) := by decide +kernel
theorem d_Ref_plain_132 : decode prog_8_method_38_code 132 = .ok (.aload_n 0, 1) := by decide +kernel
theorem d_Ref_plain_133 : decode prog_8_method_38_code 133 = .ok (.getfield 48, 3) := by decide +kernel
theorem d_Ref_plain_136 : decode prog_8_method_38_code 136 = .ok (.aload_n 0, 1) := by decide +kernel
theorem d_Ref_plain_137 : decode prog_8_method_38_code 137 = .ok (.getfield 51, 3) := by decide +kernel
theorem d_Ref_plain_140 : decode prog_8_method_38_code 140 = .ok (.invokevirtual 98, 3) := by decide +kernel
theorem d_Ref_plain_143 : decode prog_8_method_38_code 143 = .ok (.goto 62, 3) := by decide +kernel
theorem d_Ref_plain_146 : decode prog_8_method_38_code 146 = .ok (.iconst 0, 1) := by decide +kernel
theorem d_Ref_plain_147 : decode prog_8_method_38_code 147 = .ok (.istore 7, 2) := by decide +kernel
theorem d_Ref_plain_149 : decode prog_8_method_38_code 149 = .ok (.iload 7, 2) := by decide +kernel
theorem d_Ref_plain_151 : decode prog_8_method_38_code 151 = .ok (.aload_n 0, 1) := by decide +kernel
theorem d_Ref_plain_152 : decode prog_8_method_38_code 152 = .ok (.getfield 7, 3) := by decide +kernel
theorem d_Ref_plain_155 : decode prog_8_method_38_code 155 = .ok (.if_icmp .ge 50, 3) := by decide +kernel
theorem d_Ref_plain_158 : decode prog_8_method_38_code 158 = .ok (.aload_n 0, 1) := by decide +kernel
theorem d_Ref_plain_159 : decode prog_8_method_38_code 159 = .ok (.getfield 51, 3) := by decide +kernel
theorem d_Ref_plain_162 : decode prog_8_method_38_code 162 = .ok (.iload 7, 2) := by decide +kernel
theorem d_Ref_plain_164 : decode prog_8_method_38_code 164 = .ok (.aload_n 0, 1) := by decide +kernel
theorem d_Ref_plain_165 : decode prog_8_method_38_code 165 = .ok (.getfield 45, 3) := by decide +kernel
theorem d_Ref_plain_168 : decode prog_8_method_38_code 168 = .ok (.iload 7, 2) := by decide +kernel
theorem d_Ref_plain_170 : decode prog_8_method_38_code 170 = .ok (.laload, 1) := by decide +kernel
theorem d_Ref_plain_171 : decode prog_8_method_38_code 171 = .ok (.iload 6, 2) := by decide +kernel
theorem d_Ref_plain_173 : decode prog_8_method_38_code 173 = .ok (.ifCond .ne 23, 3) := by decide +kernel
theorem d_Ref_plain_176 : decode prog_8_method_38_code 176 = .ok (.ldc2_w 72, 3) := by decide +kernel
theorem d_Ref_plain_179 : decode prog_8_method_38_code 179 = .ok (.aload_n 0, 1) := by decide +kernel
theorem d_Ref_plain_180 : decode prog_8_method_38_code 180 = .ok (.getfield 13, 3) := by decide +kernel
theorem d_Ref_plain_183 : decode prog_8_method_38_code 183 = .ok (.i2l, 1) := by decide +kernel
theorem d_Ref_plain_184 : decode prog_8_method_38_code 184 = .ok (.ldiv, 1) := by decide +kernel
theorem d_Ref_plain_185 : decode prog_8_method_38_code 185 = .ok (.aload_n 0, 1) := by decide +kernel
theorem d_Ref_plain_186 : decode prog_8_method_38_code 186 = .ok (.getfield 48, 3) := by decide +kernel
theorem d_Ref_plain_189 : decode prog_8_method_38_code 189 = .ok (.iload 7, 2) := by decide +kernel
theorem d_Ref_plain_191 : decode prog_8_method_38_code 191 = .ok (.laload, 1) := by decide +kernel
theorem d_Ref_plain_192 : decode prog_8_method_38_code 192 = .ok (.lmul, 1) := by decide +kernel
theorem d_Ref_plain_193 : decode prog_8_method_38_code 193 = .ok (.goto 4, 3) := by decide +kernel
theorem d_Ref_plain_196 : decode prog_8_method_38_code 196 = .ok (.lconst 0, 1) := by decide +kernel
theorem d_Ref_plain_197 : decode prog_8_method_38_code 197 = .ok (.ladd, 1) := by decide +kernel
theorem d_Ref_plain_198 : decode prog_8_method_38_code 198 = .ok (.lastore, 1) := by decide +kernel
theorem d_Ref_plain_199 : decode prog_8_method_38_code 199 = .ok (.iinc 7 1, 3) := by decide +kernel
theorem d_Ref_plain_202 : decode prog_8_method_38_code 202 = .ok (.goto (-53), 3) := by decide +kernel
theorem d_Ref_plain_205 : decode prog_8_method_38_code 205 = .ok (.iconst 0, 1) := by decide +kernel
theorem d_Ref_plain_206 : decode prog_8_method_38_code 206 = .ok (.istore 7, 2) := by decide +kernel
theorem d_Ref_plain_208 : decode prog_8_method_38_code 208 = .ok (.iload 7, 2) := by decide +kernel
theorem d_Ref_plain_210 : decode prog_8_method_38_code 210 = .ok (.aload_n 0, 1) := by decide +kernel
theorem d_Ref_plain_211 : decode prog_8_method_38_code 211 = .ok (.getfield 7, 3) := by decide +kernel
theorem d_Ref_plain_214 : decode prog_8_method_38_code 214 = .ok (.if_icmp .ge 29, 3) := by decide +kernel
theorem d_Ref_plain_217 : decode prog_8_method_38_code 217 = .ok (.aload_n 0, 1) := by decide +kernel
theorem d_Ref_plain_218 : decode prog_8_method_38_code 218 = .ok (.getfield 60, 3) := by decide +kernel
theorem d_Ref_plain_221 : decode prog_8_method_38_code 221 = .ok (.bipush 32, 2) := by decide +kernel
theorem d_Ref_plain_223 : decode prog_8_method_38_code 223 = .ok (.iload 6, 2) := by decide +kernel
theorem d_Ref_plain_225 : decode prog_8_method_38_code 225 = .ok (.imul, 1) := by decide +kernel
theorem d_Ref_plain_226 : decode prog_8_method_38_code 226 = .ok (.iload 7, 2) := by decide +kernel
theorem d_Ref_plain_228 : decode prog_8_method_38_code 228 = .ok (.iadd, 1) := by decide +kernel
theorem d_Ref_plain_229 : decode prog_8_method_38_code 229 = .ok (.aload_n 0, 1) := by decide +kernel
theorem d_Ref_plain_230 : decode prog_8_method_38_code 230 = .ok (.getfield 51, 3) := by decide +kernel
theorem d_Ref_plain_233 : decode prog_8_method_38_code 233 = .ok (.iload 7, 2) := by decide +kernel
theorem d_Ref_plain_235 : decode prog_8_method_38_code 235 = .ok (.laload, 1) := by decide +kernel
theorem d_Ref_plain_236 : decode prog_8_method_38_code 236 = .ok (.lastore, 1) := by decide +kernel
theorem d_Ref_plain_237 : decode prog_8_method_38_code 237 = .ok (.iinc 7 1, 3) := by decide +kernel
theorem d_Ref_plain_240 : decode prog_8_method_38_code 240 = .ok (.goto (-32), 3) := by decide +kernel
theorem d_Ref_plain_243 : decode prog_8_method_38_code 243 = .ok (.iinc 6 1, 3) := by decide +kernel
theorem d_Ref_plain_246 : decode prog_8_method_38_code 246 = .ok (.goto (-181), 3) := by decide +kernel
theorem d_Ref_plain_249 : decode prog_8_method_38_code 249 = .ok (.aload_n 0, 1) := by decide +kernel
theorem d_Ref_plain_250 : decode prog_8_method_38_code 250 = .ok (.getfield 39, 3) := by decide +kernel
theorem d_Ref_plain_253 : decode prog_8_method_38_code 253 = .ok (.iload_n 1, 1) := by decide +kernel
theorem d_Ref_plain_254 : decode prog_8_method_38_code 254 = .ok (.iload 5, 2) := by decide +kernel
theorem d_Ref_plain_256 : decode prog_8_method_38_code 256 = .ok (.iastore, 1) := by decide +kernel
theorem d_Ref_plain_257 : decode prog_8_method_38_code 257 = .ok (.iconst 0, 1) := by decide +kernel
theorem d_Ref_plain_258 : decode prog_8_method_38_code 258 = .ok (.istore 6, 2) := by decide +kernel
theorem d_Ref_plain_260 : decode prog_8_method_38_code 260 = .ok (.iload 6, 2) := by decide +kernel
theorem d_Ref_plain_262 : decode prog_8_method_38_code 262 = .ok (.iload 5, 2) := by decide +kernel
theorem d_Ref_plain_264 : decode prog_8_method_38_code 264 = .ok (.if_icmp .ge 58, 3) := by decide +kernel
theorem d_Ref_plain_267 : decode prog_8_method_38_code 267 = .ok (.iconst 0, 1) := by decide +kernel
theorem d_Ref_plain_268 : decode prog_8_method_38_code 268 = .ok (.istore 7, 2) := by decide +kernel
theorem d_Ref_plain_270 : decode prog_8_method_38_code 270 = .ok (.iload 7, 2) := by decide +kernel
theorem d_Ref_plain_272 : decode prog_8_method_38_code 272 = .ok (.aload_n 0, 1) := by decide +kernel
theorem d_Ref_plain_273 : decode prog_8_method_38_code 273 = .ok (.getfield 7, 3) := by decide +kernel
theorem d_Ref_plain_276 : decode prog_8_method_38_code 276 = .ok (.if_icmp .ge 29, 3) := by decide +kernel
theorem d_Ref_plain_279 : decode prog_8_method_38_code 279 = .ok (.aload_n 0, 1) := by decide +kernel
theorem d_Ref_plain_280 : decode prog_8_method_38_code 280 = .ok (.getfield 51, 3) := by decide +kernel
theorem d_Ref_plain_283 : decode prog_8_method_38_code 283 = .ok (.iload 7, 2) := by decide +kernel
theorem d_Ref_plain_285 : decode prog_8_method_38_code 285 = .ok (.aload_n 0, 1) := by decide +kernel
theorem d_Ref_plain_286 : decode prog_8_method_38_code 286 = .ok (.getfield 60, 3) := by decide +kernel
theorem d_Ref_plain_289 : decode prog_8_method_38_code 289 = .ok (.bipush 32, 2) := by decide +kernel
theorem d_Ref_plain_291 : decode prog_8_method_38_code 291 = .ok (.iload 6, 2) := by decide +kernel
theorem d_Ref_plain_293 : decode prog_8_method_38_code 293 = .ok (.imul, 1) := by decide +kernel
theorem d_Ref_plain_294 : decode prog_8_method_38_code 294 = .ok (.iload 7, 2) := by decide +kernel
theorem d_Ref_plain_296 : decode prog_8_method_38_code 296 = .ok (.iadd, 1) := by decide +kernel
theorem d_Ref_plain_297 : decode prog_8_method_38_code 297 = .ok (.laload, 1) := by decide +kernel
theorem d_Ref_plain_298 : decode prog_8_method_38_code 298 = .ok (.lastore, 1) := by decide +kernel
theorem d_Ref_plain_299 : decode prog_8_method_38_code 299 = .ok (.iinc 7 1, 3) := by decide +kernel
theorem d_Ref_plain_302 : decode prog_8_method_38_code 302 = .ok (.goto (-32), 3) := by decide +kernel
theorem d_Ref_plain_305 : decode prog_8_method_38_code 305 = .ok (.aload_n 0, 1) := by decide +kernel
theorem d_Ref_plain_306 : decode prog_8_method_38_code 306 = .ok (.iload_n 1, 1) := by decide +kernel
theorem d_Ref_plain_307 : decode prog_8_method_38_code 307 = .ok (.iload 6, 2) := by decide +kernel
theorem d_Ref_plain_309 : decode prog_8_method_38_code 309 = .ok (.aload_n 0, 1) := by decide +kernel
theorem d_Ref_plain_310 : decode prog_8_method_38_code 310 = .ok (.getfield 51, 3) := by decide +kernel
theorem d_Ref_plain_313 : decode prog_8_method_38_code 313 = .ok (.invokevirtual 152, 3) := by decide +kernel
theorem d_Ref_plain_316 : decode prog_8_method_38_code 316 = .ok (.iinc 6 1, 3) := by decide +kernel
theorem d_Ref_plain_319 : decode prog_8_method_38_code 319 = .ok (.goto (-59), 3) := by decide +kernel
theorem d_Ref_plain_322 : decode prog_8_method_38_code 322 = .ok (.iload 5, 2) := by decide +kernel
theorem d_Ref_plain_324 : decode prog_8_method_38_code 324 = .ok (.ireturn, 1) := by decide +kernel
theorem d_Ref_applied_0 : decode prog_8_method_39_code 0 = .ok (.iconst 0, 1) := by decide +kernel
theorem d_Ref_applied_1 : decode prog_8_method_39_code 1 = .ok (.istore_n 2, 1) := by decide +kernel
theorem d_Ref_applied_2 : decode prog_8_method_39_code 2 = .ok (.iload_n 2, 1) := by decide +kernel
theorem d_Ref_applied_3 : decode prog_8_method_39_code 3 = .ok (.aload_n 0, 1) := by decide +kernel
theorem d_Ref_applied_4 : decode prog_8_method_39_code 4 = .ok (.getfield 7, 3) := by decide +kernel
theorem d_Ref_applied_7 : decode prog_8_method_39_code 7 = .ok (.if_icmp .ge 23, 3) := by decide +kernel
theorem d_Ref_applied_10 : decode prog_8_method_39_code 10 = .ok (.aload_n 0, 1) := by decide +kernel
theorem d_Ref_applied_11 : decode prog_8_method_39_code 11 = .ok (.getfield 54, 3) := by decide +kernel
theorem d_Ref_applied_14 : decode prog_8_method_39_code 14 = .ok (.iload_n 2, 1) := by decide +kernel
theorem d_Ref_applied_15 : decode prog_8_method_39_code 15 = .ok (.lconst 0, 1) := by decide +kernel
theorem d_Ref_applied_16 : decode prog_8_method_39_code 16 = .ok (.lastore, 1) := by decide +kernel
theorem d_Ref_applied_17 : decode prog_8_method_39_code 17 = .ok (.aload_n 0, 1) := by decide +kernel
theorem d_Ref_applied_18 : decode prog_8_method_39_code 18 = .ok (.getfield 57, 3) := by decide +kernel
theorem d_Ref_applied_21 : decode prog_8_method_39_code 21 = .ok (.iload_n 2, 1) := by decide +kernel
theorem d_Ref_applied_22 : decode prog_8_method_39_code 22 = .ok (.lconst 0, 1) := by decide +kernel
theorem d_Ref_applied_23 : decode prog_8_method_39_code 23 = .ok (.lastore, 1) := by decide +kernel
theorem d_Ref_applied_24 : decode prog_8_method_39_code 24 = .ok (.iinc 2 1, 3) := by decide +kernel
theorem d_Ref_applied_27 : decode prog_8_method_39_code 27 = .ok (.goto (-25), 3) := by decide +kernel
theorem d_Ref_applied_30 : decode prog_8_method_39_code 30 = .ok (.iconst 0, 1) := by decide +kernel
theorem d_Ref_applied_31 : decode prog_8_method_39_code 31 = .ok (.istore_n 2, 1) := by decide +kernel
theorem d_Ref_applied_32 : decode prog_8_method_39_code 32 = .ok (.iload_n 2, 1) := by decide +kernel
theorem d_Ref_applied_33 : decode prog_8_method_39_code 33 = .ok (.bipush 6, 2) := by decide +kernel
theorem d_Ref_applied_35 : decode prog_8_method_39_code 35 = .ok (.if_icmp .ge 215, 3) := by decide +kernel
theorem d_Ref_applied_38 : decode prog_8_method_39_code 38 = .ok (.iconst 0, 1) := by decide +kernel
theorem d_Ref_applied_39 : decode prog_8_method_39_code 39 = .ok (.istore_n 3, 1) := by decide +kernel
theorem d_Ref_applied_40 : decode prog_8_method_39_code 40 = .ok (.iload_n 3, 1) := by decide +kernel
theorem d_Ref_applied_41 : decode prog_8_method_39_code 41 = .ok (.aload_n 0, 1) := by decide +kernel
theorem d_Ref_applied_42 : decode prog_8_method_39_code 42 = .ok (.getfield 7, 3) := by decide +kernel
theorem d_Ref_applied_45 : decode prog_8_method_39_code 45 = .ok (.if_icmp .ge 29, 3) := by decide +kernel
theorem d_Ref_applied_48 : decode prog_8_method_39_code 48 = .ok (.aload_n 0, 1) := by decide +kernel
theorem d_Ref_applied_49 : decode prog_8_method_39_code 49 = .ok (.getfield 63, 3) := by decide +kernel
theorem d_Ref_applied_52 : decode prog_8_method_39_code 52 = .ok (.iload_n 3, 1) := by decide +kernel
theorem d_Ref_applied_53 : decode prog_8_method_39_code 53 = .ok (.aload_n 0, 1) := by decide +kernel
theorem d_Ref_applied_54 : decode prog_8_method_39_code 54 = .ok (.getfield 45, 3) := by decide +kernel
theorem d_Ref_applied_57 : decode prog_8_method_39_code 57 = .ok (.iload_n 3, 1) := by decide +kernel
theorem d_Ref_applied_58 : decode prog_8_method_39_code 58 = .ok (.laload, 1) := by decide +kernel
theorem d_Ref_applied_59 : decode prog_8_method_39_code 59 = .ok (.iconst 5, 1) := by decide +kernel
theorem d_Ref_applied_60 : decode prog_8_method_39_code 60 = .ok (.iload_n 2, 1) := by decide +kernel
theorem d_Ref_applied_61 : decode prog_8_method_39_code 61 = .ok (.imul, 1) := by decide +kernel
theorem d_Ref_applied_62 : decode prog_8_method_39_code 62 = .ok (.lshr, 1) := by decide +kernel
theorem d_Ref_applied_63 : decode prog_8_method_39_code 63 = .ok (.ldc2_w 190, 3) := by decide +kernel
theorem d_Ref_applied_66 : decode prog_8_method_39_code 66 = .ok (.land, 1) := by decide +kernel
theorem d_Ref_applied_67 : decode prog_8_method_39_code 67 = .ok (.lastore, 1) := by decide +kernel
theorem d_Ref_applied_68 : decode prog_8_method_39_code 68 = .ok (.iinc 3 1, 3) := by decide +kernel
theorem d_Ref_applied_71 : decode prog_8_method_39_code 71 = .ok (.goto (-31), 3) := by decide +kernel
theorem d_Ref_applied_74 : decode prog_8_method_39_code 74 = .ok (.iconst 0, 1) := by decide +kernel
theorem d_Ref_applied_75 : decode prog_8_method_39_code 75 = .ok (.istore_n 3, 1) := by decide +kernel
theorem d_Ref_applied_76 : decode prog_8_method_39_code 76 = .ok (.iload_n 3, 1) := by decide +kernel
theorem d_Ref_applied_77 : decode prog_8_method_39_code 77 = .ok (.iconst 2, 1) := by decide +kernel
theorem d_Ref_applied_78 : decode prog_8_method_39_code 78 = .ok (.if_icmp .ge 166, 3) := by decide +kernel
theorem d_Ref_applied_81 : decode prog_8_method_39_code 81 = .ok (.iconst 0, 1) := by decide +kernel
theorem d_Ref_applied_82 : decode prog_8_method_39_code 82 = .ok (.istore 4, 2) := by decide +kernel
theorem d_Ref_applied_84 : decode prog_8_method_39_code 84 = .ok (.iload 4, 2) := by decide +kernel
theorem d_Ref_applied_86 : decode prog_8_method_39_code 86 = .ok (.aload_n 0, 1) := by decide +kernel
theorem d_Ref_applied_87 : decode prog_8_method_39_code 87 = .ok (.getfield 7, 3) := by decide +kernel
theorem d_Ref_applied_90 : decode prog_8_method_39_code 90 = .ok (.if_icmp .ge 57, 3) := by decide +kernel
theorem d_Ref_applied_93 : decode prog_8_method_39_code 93 = .ok (.aload_n 0, 1) := by decide +kernel
theorem d_Ref_applied_94 : decode prog_8_method_39_code 94 = .ok (.getfield 48, 3) := by decide +kernel
theorem d_Ref_applied_97 : decode prog_8_method_39_code 97 = .ok (.iload 4, 2) := by decide +kernel
theorem d_Ref_applied_99 : decode prog_8_method_39_code 99 = .ok (.iload_n 3, 1) := by decide +kernel
theorem d_Ref_applied_100 : decode prog_8_method_39_code 100 = .ok (.ifCond .ne 23, 3) := by decide +kernel
theorem d_Ref_applied_103 : decode prog_8_method_39_code 103 = .ok (.aload_n 0, 1) := by decide +kernel
theorem d_Ref_applied_104 : decode prog_8_method_39_code 104 = .ok (.getfield 26, 3) := by decide +kernel
theorem d_Ref_applied_107 : decode prog_8_method_39_code 107 = .ok (.iload_n 1, 1) := by decide +kernel
theorem d_Ref_applied_108 : decode prog_8_method_39_code 108 = .ok (.bipush 6, 2) := by decide +kernel
theorem d_Ref_applied_110 : decode prog_8_method_39_code 110 = .ok (.imul, 1) := by decide +kernel
theorem d_Ref_applied_111 : decode prog_8_method_39_code 111 = .ok (.iload_n 2, 1) := by decide +kernel
theorem d_Ref_applied_112 : decode prog_8_method_39_code 112 = .ok (.iadd, 1) := by decide +kernel
theorem d_Ref_applied_113 : decode prog_8_method_39_code 113 = .ok (.bipush 32, 2) := by decide +kernel
theorem d_Ref_applied_115 : decode prog_8_method_39_code 115 = .ok (.imul, 1) := by decide +kernel
theorem d_Ref_applied_116 : decode prog_8_method_39_code 116 = .ok (.iload 4, 2) := by decide +kernel
theorem d_Ref_applied_118 : decode prog_8_method_39_code 118 = .ok (.iadd, 1) := by decide +kernel
theorem d_Ref_applied_119 : decode prog_8_method_39_code 119 = .ok (.laload, 1) := by decide +kernel
theorem d_Ref_applied_120 : decode prog_8_method_39_code 120 = .ok (.goto 20, 3) := by decide +kernel
theorem d_Ref_applied_123 : decode prog_8_method_39_code 123 = .ok (.aload_n 0, 1) := by decide +kernel
theorem d_Ref_applied_124 : decode prog_8_method_39_code 124 = .ok (.getfield 29, 3) := by decide +kernel
theorem d_Ref_applied_127 : decode prog_8_method_39_code 127 = .ok (.iload_n 1, 1) := by decide +kernel
theorem d_Ref_applied_128 : decode prog_8_method_39_code 128 = .ok (.bipush 6, 2) := by decide +kernel
theorem d_Ref_applied_130 : decode prog_8_method_39_code 130 = .ok (.imul, 1) := by decide +kernel
theorem d_Ref_applied_131 : decode prog_8_method_39_code 131 = .ok (.iload_n 2, 1) := by decide +kernel
theorem d_Ref_applied_132 : decode prog_8_method_39_code 132 = .ok (.iadd, 1) := by decide +kernel
theorem d_Ref_applied_133 : decode prog_8_method_39_code 133 = .ok (.bipush 32, 2) := by decide +kernel
theorem d_Ref_applied_135 : decode prog_8_method_39_code 135 = .ok (.imul, 1) := by decide +kernel
theorem d_Ref_applied_136 : decode prog_8_method_39_code 136 = .ok (.iload 4, 2) := by decide +kernel
theorem d_Ref_applied_138 : decode prog_8_method_39_code 138 = .ok (.iadd, 1) := by decide +kernel
theorem d_Ref_applied_139 : decode prog_8_method_39_code 139 = .ok (.laload, 1) := by decide +kernel
theorem d_Ref_applied_140 : decode prog_8_method_39_code 140 = .ok (.lastore, 1) := by decide +kernel
theorem d_Ref_applied_141 : decode prog_8_method_39_code 141 = .ok (.iinc 4 1, 3) := by decide +kernel
theorem d_Ref_applied_144 : decode prog_8_method_39_code 144 = .ok (.goto (-60), 3) := by decide +kernel
theorem d_Ref_applied_147 : decode prog_8_method_39_code 147 = .ok (.aload_n 0, 1) := by decide +kernel
theorem d_Ref_applied_148 : decode prog_8_method_39_code 148 = .ok (.aload_n 0, 1) := by decide +kernel
theorem d_Ref_applied_149 : decode prog_8_method_39_code 149 = .ok (.getfield 48, 3) := by decide +kernel
theorem d_Ref_applied_152 : decode prog_8_method_39_code 152 = .ok (.aload_n 0, 1) := by decide +kernel
theorem d_Ref_applied_153 : decode prog_8_method_39_code 153 = .ok (.getfield 63, 3) := by decide +kernel
theorem d_Ref_applied_156 : decode prog_8_method_39_code 156 = .ok (.aload_n 0, 1) := by decide +kernel
theorem d_Ref_applied_157 : decode prog_8_method_39_code 157 = .ok (.getfield 66, 3) := by decide +kernel
theorem d_Ref_applied_160 : decode prog_8_method_39_code 160 = .ok (.invokevirtual 98, 3) := by decide +kernel
theorem d_Ref_applied_163 : decode prog_8_method_39_code 163 = .ok (.iconst 0, 1) := by decide +kernel
theorem d_Ref_applied_164 : decode prog_8_method_39_code 164 = .ok (.istore 4, 2) := by decide +kernel
theorem d_Ref_applied_166 : decode prog_8_method_39_code 166 = .ok (.iload 4, 2) := by decide +kernel
theorem d_Ref_applied_168 : decode prog_8_method_39_code 168 = .ok (.aload_n 0, 1) := by decide +kernel
theorem d_Ref_applied_169 : decode prog_8_method_39_code 169 = .ok (.getfield 7, 3) := by decide +kernel
theorem d_Ref_applied_172 : decode prog_8_method_39_code 172 = .ok (.if_icmp .ge 66, 3) := by decide +kernel
theorem d_Ref_applied_175 : decode prog_8_method_39_code 175 = .ok (.iload_n 3, 1) := by decide +kernel
theorem d_Ref_applied_176 : decode prog_8_method_39_code 176 = .ok (.ifCond .ne 31, 3) := by decide +kernel
theorem d_Ref_applied_179 : decode prog_8_method_39_code 179 = .ok (.aload_n 0, 1) := by decide +kernel
theorem d_Ref_applied_180 : decode prog_8_method_39_code 180 = .ok (.getfield 54, 3) := by decide +kernel
theorem d_Ref_applied_183 : decode prog_8_method_39_code 183 = .ok (.iload 4, 2) := by decide +kernel
theorem d_Ref_applied_185 : decode prog_8_method_39_code 185 = .ok (.aload_n 0, 1) := by decide +kernel
theorem d_Ref_applied_186 : decode prog_8_method_39_code 186 = .ok (.getfield 54, 3) := by decide +kernel
theorem d_Ref_applied_189 : decode prog_8_method_39_code 189 = .ok (.iload 4, 2) := by decide +kernel
theorem d_Ref_applied_191 : decode prog_8_method_39_code 191 = .ok (.laload, 1) := by decide +kernel
theorem d_Ref_applied_192 : decode prog_8_method_39_code 192 = .ok (.aload_n 0, 1) := by decide +kernel
theorem d_Ref_applied_193 : decode prog_8_method_39_code 193 = .ok (.getfield 66, 3) := by decide +kernel
theorem d_Ref_applied_196 : decode prog_8_method_39_code 196 = .ok (.iload 4, 2) := by decide +kernel
theorem d_Ref_applied_198 : decode prog_8_method_39_code 198 = .ok (.laload, 1) := by decide +kernel
theorem d_Ref_applied_199 : decode prog_8_method_39_code 199 = .ok (.ladd, 1) := by decide +kernel
theorem d_Ref_applied_200 : decode prog_8_method_39_code 200 = .ok (.invokestatic 74, 3) := by decide +kernel
theorem d_Ref_applied_203 : decode prog_8_method_39_code 203 = .ok (.lastore, 1) := by decide +kernel
theorem d_Ref_applied_204 : decode prog_8_method_39_code 204 = .ok (.goto 28, 3) := by decide +kernel
theorem d_Ref_applied_207 : decode prog_8_method_39_code 207 = .ok (.aload_n 0, 1) := by decide +kernel
theorem d_Ref_applied_208 : decode prog_8_method_39_code 208 = .ok (.getfield 57, 3) := by decide +kernel
theorem d_Ref_applied_211 : decode prog_8_method_39_code 211 = .ok (.iload 4, 2) := by decide +kernel
theorem d_Ref_applied_213 : decode prog_8_method_39_code 213 = .ok (.aload_n 0, 1) := by decide +kernel
theorem d_Ref_applied_214 : decode prog_8_method_39_code 214 = .ok (.getfield 57, 3) := by decide +kernel
theorem d_Ref_applied_217 : decode prog_8_method_39_code 217 = .ok (.iload 4, 2) := by decide +kernel
theorem d_Ref_applied_219 : decode prog_8_method_39_code 219 = .ok (.laload, 1) := by decide +kernel
theorem d_Ref_applied_220 : decode prog_8_method_39_code 220 = .ok (.aload_n 0, 1) := by decide +kernel
theorem d_Ref_applied_221 : decode prog_8_method_39_code 221 = .ok (.getfield 66, 3) := by decide +kernel
theorem d_Ref_applied_224 : decode prog_8_method_39_code 224 = .ok (.iload 4, 2) := by decide +kernel
theorem d_Ref_applied_226 : decode prog_8_method_39_code 226 = .ok (.laload, 1) := by decide +kernel
theorem d_Ref_applied_227 : decode prog_8_method_39_code 227 = .ok (.ladd, 1) := by decide +kernel
theorem d_Ref_applied_228 : decode prog_8_method_39_code 228 = .ok (.invokestatic 74, 3) := by decide +kernel
theorem d_Ref_applied_231 : decode prog_8_method_39_code 231 = .ok (.lastore, 1) := by decide +kernel
theorem d_Ref_applied_232 : decode prog_8_method_39_code 232 = .ok (.iinc 4 1, 3) := by decide +kernel
theorem d_Ref_applied_235 : decode prog_8_method_39_code 235 = .ok (.goto (-69), 3) := by decide +kernel
theorem d_Ref_applied_238 : decode prog_8_method_39_code 238 = .ok (.iinc 3 1, 3) := by decide +kernel
theorem d_Ref_applied_241 : decode prog_8_method_39_code 241 = .ok (.goto (-165), 3) := by decide +kernel
theorem d_Ref_applied_244 : decode prog_8_method_39_code 244 = .ok (.iinc 2 1, 3) := by decide +kernel
theorem d_Ref_applied_247 : decode prog_8_method_39_code 247 = .ok (.goto (-215), 3) := by decide +kernel
theorem d_Ref_applied_250 : decode prog_8_method_39_code 250 = .ok (.return_, 1) := by decide +kernel
theorem d_Ref_shrink_0 : decode prog_8_method_40_code 0 = .ok (.aload_n 0, 1) := by decide +kernel
theorem d_Ref_shrink_1 : decode prog_8_method_40_code 1 = .ok (.iload_n 1, 1) := by decide +kernel
theorem d_Ref_shrink_2 : decode prog_8_method_40_code 2 = .ok (.invokestatic 138, 3) := by decide +kernel
theorem d_Ref_shrink_5 : decode prog_8_method_40_code 5 = .ok (.ifCond .ne 11, 3) := by decide +kernel
theorem d_Ref_shrink_8 : decode prog_8_method_40_code 8 = .ok (.aload_n 0, 1) := by decide +kernel
theorem d_Ref_shrink_9 : decode prog_8_method_40_code 9 = .ok (.iload_n 2, 1) := by decide +kernel
theorem d_Ref_shrink_10 : decode prog_8_method_40_code 10 = .ok (.invokevirtual 180, 3) := by decide +kernel
theorem d_Ref_shrink_13 : decode prog_8_method_40_code 13 = .ok (.ifCond .eq 7, 3) := by decide +kernel
theorem d_Ref_shrink_16 : decode prog_8_method_40_code 16 = .ok (.iconst 1, 1) := by decide +kernel
theorem d_Ref_shrink_17 : decode prog_8_method_40_code 17 = .ok (.goto 18, 3) := by decide +kernel
theorem d_Ref_shrink_20 : decode prog_8_method_40_code 20 = .ok (.aload_n 0, 1) := by decide +kernel
theorem d_Ref_shrink_21 : decode prog_8_method_40_code 21 = .ok (.getfield 39, 3) := by decide +kernel
theorem d_Ref_shrink_24 : decode prog_8_method_40_code 24 = .ok (.iload_n 2, 1) := by decide +kernel
theorem d_Ref_shrink_25 : decode prog_8_method_40_code 25 = .ok (.iaload, 1) := by decide +kernel
theorem d_Ref_shrink_26 : decode prog_8_method_40_code 26 = .ok (.iconst 2, 1) := by decide +kernel
theorem d_Ref_shrink_27 : decode prog_8_method_40_code 27 = .ok (.if_icmp .ne 7, 3) := by decide +kernel
theorem d_Ref_shrink_30 : decode prog_8_method_40_code 30 = .ok (.iconst 2, 1) := by decide +kernel
theorem d_Ref_shrink_31 : decode prog_8_method_40_code 31 = .ok (.goto 4, 3) := by decide +kernel
theorem d_Ref_shrink_34 : decode prog_8_method_40_code 34 = .ok (.iconst 0, 1) := by decide +kernel
theorem d_Ref_shrink_35 : decode prog_8_method_40_code 35 = .ok (.putfield 69, 3) := by decide +kernel
theorem d_Ref_shrink_38 : decode prog_8_method_40_code 38 = .ok (.aload_n 0, 1) := by decide +kernel
theorem d_Ref_shrink_39 : decode prog_8_method_40_code 39 = .ok (.getfield 69, 3) := by decide +kernel
theorem d_Ref_shrink_42 : decode prog_8_method_40_code 42 = .ok (.ifCond .le 5, 3) := by decide +kernel
theorem d_Ref_shrink_45 : decode prog_8_method_40_code 45 = .ok (.iconst 0, 1) := by decide +kernel
theorem d_Ref_shrink_46 : decode prog_8_method_40_code 46 = .ok (.ireturn, 1) := by decide +kernel
theorem d_Ref_shrink_47 : decode prog_8_method_40_code 47 = .ok (.aload_n 0, 1) := by decide +kernel
theorem d_Ref_shrink_48 : decode prog_8_method_40_code 48 = .ok (.iload_n 2, 1) := by decide +kernel
theorem d_Ref_shrink_49 : decode prog_8_method_40_code 49 = .ok (.iconst 2, 1) := by decide +kernel
theorem d_Ref_shrink_50 : decode prog_8_method_40_code 50 = .ok (.aload_n 0, 1) := by decide +kernel
theorem d_Ref_shrink_51 : decode prog_8_method_40_code 51 = .ok (.getfield 45, 3) := by decide +kernel
theorem d_Ref_shrink_54 : decode prog_8_method_40_code 54 = .ok (.invokevirtual 159, 3) := by decide +kernel
theorem d_Ref_shrink_57 : decode prog_8_method_40_code 57 = .ok (.aload_n 0, 1) := by decide +kernel
theorem d_Ref_shrink_58 : decode prog_8_method_40_code 58 = .ok (.iconst 0, 1) := by decide +kernel
theorem d_Ref_shrink_59 : decode prog_8_method_40_code 59 = .ok (.invokevirtual 192, 3) := by decide +kernel
theorem d_Ref_shrink_62 : decode prog_8_method_40_code 62 = .ok (.aload_n 0, 1) := by decide +kernel
theorem d_Ref_shrink_63 : decode prog_8_method_40_code 63 = .ok (.iload_n 2, 1) := by decide +kernel
theorem d_Ref_shrink_64 : decode prog_8_method_40_code 64 = .ok (.iconst 0, 1) := by decide +kernel
theorem d_Ref_shrink_65 : decode prog_8_method_40_code 65 = .ok (.aload_n 0, 1) := by decide +kernel
theorem d_Ref_shrink_66 : decode prog_8_method_40_code 66 = .ok (.getfield 45, 3) := by decide +kernel
theorem d_Ref_shrink_69 : decode prog_8_method_40_code 69 = .ok (.invokevirtual 159, 3) := by decide +kernel
theorem d_Ref_shrink_72 : decode prog_8_method_40_code 72 = .ok (.aload_n 0, 1) := by decide +kernel
theorem d_Ref_shrink_73 : decode prog_8_method_40_code 73 = .ok (.iload_n 2, 1) := by decide +kernel
theorem d_Ref_shrink_74 : decode prog_8_method_40_code 74 = .ok (.iconst 1, 1) := by decide +kernel
theorem d_Ref_shrink_75 : decode prog_8_method_40_code 75 = .ok (.aload_n 0, 1) := by decide +kernel
theorem d_Ref_shrink_76 : decode prog_8_method_40_code 76 = .ok (.getfield 48, 3) := by decide +kernel
theorem d_Ref_shrink_79 : decode prog_8_method_40_code 79 = .ok (.invokevirtual 159, 3) := by decide +kernel
theorem d_Ref_shrink_82 : decode prog_8_method_40_code 82 = .ok (.iconst 0, 1) := by decide +kernel
theorem d_Ref_shrink_83 : decode prog_8_method_40_code 83 = .ok (.istore_n 3, 1) := by decide +kernel
theorem d_Ref_shrink_84 : decode prog_8_method_40_code 84 = .ok (.iload_n 3, 1) := by decide +kernel
theorem d_Ref_shrink_85 : decode prog_8_method_40_code 85 = .ok (.aload_n 0, 1) := by decide +kernel
theorem d_Ref_shrink_86 : decode prog_8_method_40_code 86 = .ok (.getfield 7, 3) := by decide +kernel
theorem d_Ref_shrink_89 : decode prog_8_method_40_code 89 = .ok (.if_icmp .ge 39, 3) := by decide +kernel
theorem d_Ref_shrink_92 : decode prog_8_method_40_code 92 = .ok (.aload_n 0, 1) := by decide +kernel
theorem d_Ref_shrink_93 : decode prog_8_method_40_code 93 = .ok (.getfield 45, 3) := by decide +kernel
theorem d_Ref_shrink_96 : decode prog_8_method_40_code 96 = .ok (.iload_n 3, 1) := by decide +kernel
theorem d_Ref_shrink_97 : decode prog_8_method_40_code 97 = .ok (.dup2, 1) := by decide +kernel
theorem d_Ref_shrink_98 : decode prog_8_method_40_code 98 = .ok (.laload, 1) := by decide +kernel
theorem d_Ref_shrink_99 : decode prog_8_method_40_code 99 = .ok (.aload_n 0, 1) := by decide +kernel
theorem d_Ref_shrink_100 : decode prog_8_method_40_code 100 = .ok (.getfield 54, 3) := by decide +kernel
theorem d_Ref_shrink_103 : decode prog_8_method_40_code 103 = .ok (.iload_n 3, 1) := by decide +kernel
theorem d_Ref_shrink_104 : decode prog_8_method_40_code 104 = .ok (.laload, 1) := by decide +kernel
theorem d_Ref_shrink_105 : decode prog_8_method_40_code 105 = .ok (.ladd, 1) := by decide +kernel
theorem d_Ref_shrink_106 : decode prog_8_method_40_code 106 = .ok (.lastore, 1) := by decide +kernel
theorem d_Ref_shrink_107 : decode prog_8_method_40_code 107 = .ok (.aload_n 0, 1) := by decide +kernel
theorem d_Ref_shrink_108 : decode prog_8_method_40_code 108 = .ok (.getfield 48, 3) := by decide +kernel
theorem d_Ref_shrink_111 : decode prog_8_method_40_code 111 = .ok (.iload_n 3, 1) := by decide +kernel
theorem d_Ref_shrink_112 : decode prog_8_method_40_code 112 = .ok (.dup2, 1) := by decide +kernel
theorem d_Ref_shrink_113 : decode prog_8_method_40_code 113 = .ok (.laload, 1) := by decide +kernel
theorem d_Ref_shrink_114 : decode prog_8_method_40_code 114 = .ok (.aload_n 0, 1) := by decide +kernel
theorem d_Ref_shrink_115 : decode prog_8_method_40_code 115 = .ok (.getfield 57, 3) := by decide +kernel
theorem d_Ref_shrink_118 : decode prog_8_method_40_code 118 = .ok (.iload_n 3, 1) := by decide +kernel
theorem d_Ref_shrink_119 : decode prog_8_method_40_code 119 = .ok (.laload, 1) := by decide +kernel
theorem d_Ref_shrink_120 : decode prog_8_method_40_code 120 = .ok (.ladd, 1) := by decide +kernel
theorem d_Ref_shrink_121 : decode prog_8_method_40_code 121 = .ok (.lastore, 1) := by decide +kernel
theorem d_Ref_shrink_122 : decode prog_8_method_40_code 122 = .ok (.iinc 3 1, 3) := by decide +kernel
theorem d_Ref_shrink_125 : decode prog_8_method_40_code 125 = .ok (.goto (-41), 3) := by decide +kernel
theorem d_Ref_shrink_128 : decode prog_8_method_40_code 128 = .ok (.aload_n 0, 1) := by decide +kernel
theorem d_Ref_shrink_129 : decode prog_8_method_40_code 129 = .ok (.getfield 39, 3) := by decide +kernel
theorem d_Ref_shrink_132 : decode prog_8_method_40_code 132 = .ok (.iload_n 1, 1) := by decide +kernel
theorem d_Ref_shrink_133 : decode prog_8_method_40_code 133 = .ok (.iconst 2, 1) := by decide +kernel
theorem d_Ref_shrink_134 : decode prog_8_method_40_code 134 = .ok (.iastore, 1) := by decide +kernel
theorem d_Ref_shrink_135 : decode prog_8_method_40_code 135 = .ok (.aload_n 0, 1) := by decide +kernel
theorem d_Ref_shrink_136 : decode prog_8_method_40_code 136 = .ok (.iload_n 1, 1) := by decide +kernel
theorem d_Ref_shrink_137 : decode prog_8_method_40_code 137 = .ok (.iconst 0, 1) := by decide +kernel
theorem d_Ref_shrink_138 : decode prog_8_method_40_code 138 = .ok (.aload_n 0, 1) := by decide +kernel
theorem d_Ref_shrink_139 : decode prog_8_method_40_code 139 = .ok (.getfield 45, 3) := by decide +kernel
theorem d_Ref_shrink_142 : decode prog_8_method_40_code 142 = .ok (.invokevirtual 152, 3) := by decide +kernel
theorem d_Ref_shrink_145 : decode prog_8_method_40_code 145 = .ok (.aload_n 0, 1) := by decide +kernel
theorem d_Ref_shrink_146 : decode prog_8_method_40_code 146 = .ok (.iload_n 1, 1) := by decide +kernel
theorem d_Ref_shrink_147 : decode prog_8_method_40_code 147 = .ok (.iconst 1, 1) := by decide +kernel
theorem d_Ref_shrink_148 : decode prog_8_method_40_code 148 = .ok (.aload_n 0, 1) := by decide +kernel
theorem d_Ref_shrink_149 : decode prog_8_method_40_code 149 = .ok (.getfield 48, 3) := by decide +kernel
theorem d_Ref_shrink_152 : decode prog_8_method_40_code 152 = .ok (.invokevirtual 152, 3) := by decide +kernel
theorem d_Ref_shrink_155 : decode prog_8_method_40_code 155 = .ok (.aload_n 0, 1) := by decide +kernel
theorem d_Ref_shrink_156 : decode prog_8_method_40_code 156 = .ok (.iload_n 1, 1) := by decide +kernel
theorem d_Ref_shrink_157 : decode prog_8_method_40_code 157 = .ok (.invokevirtual 156, 3) := by decide +kernel
theorem d_Ref_shrink_160 : decode prog_8_method_40_code 160 = .ok (.ireturn, 1) := by decide +kernel
theorem d_Ref_turn_0 : decode prog_8_method_41_code 0 = .ok (.aload_n 0, 1) := by decide +kernel
theorem d_Ref_turn_1 : decode prog_8_method_41_code 1 = .ok (.iload_n 1, 1) := by decide +kernel
theorem d_Ref_turn_2 : decode prog_8_method_41_code 2 = .ok (.invokestatic 138, 3) := by decide +kernel
theorem d_Ref_turn_5 : decode prog_8_method_41_code 5 = .ok (.ifCond .ne 11, 3) := by decide +kernel
theorem d_Ref_turn_8 : decode prog_8_method_41_code 8 = .ok (.aload_n 0, 1) := by decide +kernel
theorem d_Ref_turn_9 : decode prog_8_method_41_code 9 = .ok (.iload_n 2, 1) := by decide +kernel
theorem d_Ref_turn_10 : decode prog_8_method_41_code 10 = .ok (.invokevirtual 180, 3) := by decide +kernel
theorem d_Ref_turn_13 : decode prog_8_method_41_code 13 = .ok (.ifCond .eq 7, 3) := by decide +kernel
theorem d_Ref_turn_16 : decode prog_8_method_41_code 16 = .ok (.iconst 1, 1) := by decide +kernel
theorem d_Ref_turn_17 : decode prog_8_method_41_code 17 = .ok (.goto 26, 3) := by decide +kernel
theorem d_Ref_turn_20 : decode prog_8_method_41_code 20 = .ok (.aload_n 0, 1) := by decide +kernel
theorem d_Ref_turn_21 : decode prog_8_method_41_code 21 = .ok (.iload_n 3, 1) := by decide +kernel
theorem d_Ref_turn_22 : decode prog_8_method_41_code 22 = .ok (.invokevirtual 131, 3) := by decide +kernel
theorem d_Ref_turn_25 : decode prog_8_method_41_code 25 = .ok (.ifCond .eq 13, 3) := by decide +kernel
theorem d_Ref_turn_28 : decode prog_8_method_41_code 28 = .ok (.aload_n 0, 1) := by decide +kernel
theorem d_Ref_turn_29 : decode prog_8_method_41_code 29 = .ok (.getfield 39, 3) := by decide +kernel
theorem d_Ref_turn_32 : decode prog_8_method_41_code 32 = .ok (.iload_n 2, 1) := by decide +kernel
theorem d_Ref_turn_33 : decode prog_8_method_41_code 33 = .ok (.iaload, 1) := by decide +kernel
theorem d_Ref_turn_34 : decode prog_8_method_41_code 34 = .ok (.iconst 3, 1) := by decide +kernel
theorem d_Ref_turn_35 : decode prog_8_method_41_code 35 = .ok (.if_icmp .ne 7, 3) := by decide +kernel
theorem d_Ref_turn_38 : decode prog_8_method_41_code 38 = .ok (.iconst 2, 1) := by decide +kernel
theorem d_Ref_turn_39 : decode prog_8_method_41_code 39 = .ok (.goto 4, 3) := by decide +kernel
theorem d_Ref_turn_42 : decode prog_8_method_41_code 42 = .ok (.iconst 0, 1) := by decide +kernel
theorem d_Ref_turn_43 : decode prog_8_method_41_code 43 = .ok (.putfield 69, 3) := by decide +kernel
theorem d_Ref_turn_46 : decode prog_8_method_41_code 46 = .ok (.aload_n 0, 1) := by decide +kernel
theorem d_Ref_turn_47 : decode prog_8_method_41_code 47 = .ok (.getfield 69, 3) := by decide +kernel
theorem d_Ref_turn_50 : decode prog_8_method_41_code 50 = .ok (.ifCond .le 5, 3) := by decide +kernel
theorem d_Ref_turn_53 : decode prog_8_method_41_code 53 = .ok (.iconst 0, 1) := by decide +kernel
theorem d_Ref_turn_54 : decode prog_8_method_41_code 54 = .ok (.ireturn, 1) := by decide +kernel
theorem d_Ref_turn_55 : decode prog_8_method_41_code 55 = .ok (.aload_n 0, 1) := by decide +kernel
theorem d_Ref_turn_56 : decode prog_8_method_41_code 56 = .ok (.iload_n 2, 1) := by decide +kernel
theorem d_Ref_turn_57 : decode prog_8_method_41_code 57 = .ok (.iconst 1, 1) := by decide +kernel
theorem d_Ref_turn_58 : decode prog_8_method_41_code 58 = .ok (.aload_n 0, 1) := by decide +kernel
theorem d_Ref_turn_59 : decode prog_8_method_41_code 59 = .ok (.getfield 48, 3) := by decide +kernel
theorem d_Ref_turn_62 : decode prog_8_method_41_code 62 = .ok (.invokevirtual 159, 3) := by decide +kernel
theorem d_Ref_turn_65 : decode prog_8_method_41_code 65 = .ok (.aload_n 0, 1) := by decide +kernel
theorem d_Ref_turn_66 : decode prog_8_method_41_code 66 = .ok (.aload_n 0, 1) := by decide +kernel
theorem d_Ref_turn_67 : decode prog_8_method_41_code 67 = .ok (.getfield 48, 3) := by decide +kernel
theorem d_Ref_turn_70 : decode prog_8_method_41_code 70 = .ok (.iload_n 3, 1) := by decide +kernel
theorem d_Ref_turn_71 : decode prog_8_method_41_code 71 = .ok (.aload_n 0, 1) := by decide +kernel
theorem d_Ref_turn_72 : decode prog_8_method_41_code 72 = .ok (.getfield 45, 3) := by decide +kernel
theorem d_Ref_turn_75 : decode prog_8_method_41_code 75 = .ok (.invokevirtual 134, 3) := by decide +kernel
theorem d_Ref_turn_78 : decode prog_8_method_41_code 78 = .ok (.aload_n 0, 1) := by decide +kernel
theorem d_Ref_turn_79 : decode prog_8_method_41_code 79 = .ok (.aload_n 0, 1) := by decide +kernel
theorem d_Ref_turn_80 : decode prog_8_method_41_code 80 = .ok (.getfield 45, 3) := by decide +kernel
theorem d_Ref_turn_83 : decode prog_8_method_41_code 83 = .ok (.invokevirtual 195, 3) := by decide +kernel
theorem d_Ref_turn_86 : decode prog_8_method_41_code 86 = .ok (.aload_n 0, 1) := by decide +kernel
theorem d_Ref_turn_87 : decode prog_8_method_41_code 87 = .ok (.aload_n 0, 1) := by decide +kernel
theorem d_Ref_turn_88 : decode prog_8_method_41_code 88 = .ok (.iload_n 3, 1) := by decide +kernel
theorem d_Ref_turn_89 : decode prog_8_method_41_code 89 = .ok (.invokevirtual 131, 3) := by decide +kernel
theorem d_Ref_turn_92 : decode prog_8_method_41_code 92 = .ok (.invokevirtual 192, 3) := by decide +kernel
theorem d_Ref_turn_95 : decode prog_8_method_41_code 95 = .ok (.aload_n 0, 1) := by decide +kernel
theorem d_Ref_turn_96 : decode prog_8_method_41_code 96 = .ok (.iload_n 2, 1) := by decide +kernel
theorem d_Ref_turn_97 : decode prog_8_method_41_code 97 = .ok (.iconst 0, 1) := by decide +kernel
theorem d_Ref_turn_98 : decode prog_8_method_41_code 98 = .ok (.aload_n 0, 1) := by decide +kernel
theorem d_Ref_turn_99 : decode prog_8_method_41_code 99 = .ok (.getfield 48, 3) := by decide +kernel
theorem d_Ref_turn_102 : decode prog_8_method_41_code 102 = .ok (.invokevirtual 159, 3) := by decide +kernel
theorem d_Ref_turn_105 : decode prog_8_method_41_code 105 = .ok (.aload_n 0, 1) := by decide +kernel
theorem d_Ref_turn_106 : decode prog_8_method_41_code 106 = .ok (.aload_n 0, 1) := by decide +kernel
theorem d_Ref_turn_107 : decode prog_8_method_41_code 107 = .ok (.getfield 48, 3) := by decide +kernel
theorem d_Ref_turn_110 : decode prog_8_method_41_code 110 = .ok (.iload_n 3, 1) := by decide +kernel
theorem d_Ref_turn_111 : decode prog_8_method_41_code 111 = .ok (.aload_n 0, 1) := by decide +kernel
theorem d_Ref_turn_112 : decode prog_8_method_41_code 112 = .ok (.getfield 45, 3) := by decide +kernel
theorem d_Ref_turn_115 : decode prog_8_method_41_code 115 = .ok (.invokevirtual 134, 3) := by decide +kernel
theorem d_Ref_turn_118 : decode prog_8_method_41_code 118 = .ok (.iconst 0, 1) := by decide +kernel
theorem d_Ref_turn_119 : decode prog_8_method_41_code 119 = .ok (.istore 4, 2) := by decide +kernel
theorem d_Ref_turn_121 : decode prog_8_method_41_code 121 = .ok (.iload 4, 2) := by decide +kernel
theorem d_Ref_turn_123 : decode prog_8_method_41_code 123 = .ok (.aload_n 0, 1) := by decide +kernel
theorem d_Ref_turn_124 : decode prog_8_method_41_code 124 = .ok (.getfield 7, 3) := by decide +kernel
theorem d_Ref_turn_127 : decode prog_8_method_41_code 127 = .ok (.if_icmp .ge 26, 3) := by decide +kernel
theorem d_Ref_turn_130 : decode prog_8_method_41_code 130 = .ok (.aload_n 0, 1) := by decide +kernel
theorem d_Ref_turn_131 : decode prog_8_method_41_code 131 = .ok (.getfield 45, 3) := by decide +kernel
theorem d_Ref_turn_134 : decode prog_8_method_41_code 134 = .ok (.iload 4, 2) := by decide +kernel
theorem d_Ref_turn_136 : decode prog_8_method_41_code 136 = .ok (.dup2, 1) := by decide +kernel
theorem d_Ref_turn_137 : decode prog_8_method_41_code 137 = .ok (.laload, 1) := by decide +kernel
theorem d_Ref_turn_138 : decode prog_8_method_41_code 138 = .ok (.aload_n 0, 1) := by decide +kernel
theorem d_Ref_turn_139 : decode prog_8_method_41_code 139 = .ok (.getfield 54, 3) := by decide +kernel
theorem d_Ref_turn_142 : decode prog_8_method_41_code 142 = .ok (.iload 4, 2) := by decide +kernel
theorem d_Ref_turn_144 : decode prog_8_method_41_code 144 = .ok (.laload, 1) := by decide +kernel
theorem d_Ref_turn_145 : decode prog_8_method_41_code 145 = .ok (.ladd, 1) := by decide +kernel
theorem d_Ref_turn_146 : decode prog_8_method_41_code 146 = .ok (.lastore, 1) := by decide +kernel
theorem d_Ref_turn_147 : decode prog_8_method_41_code 147 = .ok (.iinc 4 1, 3) := by decide +kernel
theorem d_Ref_turn_150 : decode prog_8_method_41_code 150 = .ok (.goto (-29), 3) := by decide +kernel
theorem d_Ref_turn_153 : decode prog_8_method_41_code 153 = .ok (.aload_n 0, 1) := by decide +kernel
theorem d_Ref_turn_154 : decode prog_8_method_41_code 154 = .ok (.getfield 39, 3) := by decide +kernel
theorem d_Ref_turn_157 : decode prog_8_method_41_code 157 = .ok (.iload_n 1, 1) := by decide +kernel
theorem d_Ref_turn_158 : decode prog_8_method_41_code 158 = .ok (.iconst 2, 1) := by decide +kernel
theorem d_Ref_turn_159 : decode prog_8_method_41_code 159 = .ok (.iastore, 1) := by decide +kernel
theorem d_Ref_turn_160 : decode prog_8_method_41_code 160 = .ok (.aload_n 0, 1) := by decide +kernel
theorem d_Ref_turn_161 : decode prog_8_method_41_code 161 = .ok (.iload_n 1, 1) := by decide +kernel
theorem d_Ref_turn_162 : decode prog_8_method_41_code 162 = .ok (.iconst 0, 1) := by decide +kernel
theorem d_Ref_turn_163 : decode prog_8_method_41_code 163 = .ok (.aload_n 0, 1) := by decide +kernel
theorem d_Ref_turn_164 : decode prog_8_method_41_code 164 = .ok (.getfield 45, 3) := by decide +kernel
theorem d_Ref_turn_167 : decode prog_8_method_41_code 167 = .ok (.invokevirtual 152, 3) := by decide +kernel
theorem d_Ref_turn_170 : decode prog_8_method_41_code 170 = .ok (.aload_n 0, 1) := by decide +kernel
theorem d_Ref_turn_171 : decode prog_8_method_41_code 171 = .ok (.iload_n 1, 1) := by decide +kernel
theorem d_Ref_turn_172 : decode prog_8_method_41_code 172 = .ok (.iconst 1, 1) := by decide +kernel
theorem d_Ref_turn_173 : decode prog_8_method_41_code 173 = .ok (.aload_n 0, 1) := by decide +kernel
theorem d_Ref_turn_174 : decode prog_8_method_41_code 174 = .ok (.getfield 57, 3) := by decide +kernel
theorem d_Ref_turn_177 : decode prog_8_method_41_code 177 = .ok (.invokevirtual 152, 3) := by decide +kernel
theorem d_Ref_turn_180 : decode prog_8_method_41_code 180 = .ok (.aload_n 0, 1) := by decide +kernel
theorem d_Ref_turn_181 : decode prog_8_method_41_code 181 = .ok (.iload_n 1, 1) := by decide +kernel
theorem d_Ref_turn_182 : decode prog_8_method_41_code 182 = .ok (.invokevirtual 156, 3) := by decide +kernel
theorem d_Ref_turn_185 : decode prog_8_method_41_code 185 = .ok (.ireturn, 1) := by decide +kernel
theorem d_Ref_part_0 : decode prog_8_method_42_code 0 = .ok (.aload_n 0, 1) := by decide +kernel
theorem d_Ref_part_1 : decode prog_8_method_42_code 1 = .ok (.aload_n 0, 1) := by decide +kernel
theorem d_Ref_part_2 : decode prog_8_method_42_code 2 = .ok (.iload_n 1, 1) := by decide +kernel
theorem d_Ref_part_3 : decode prog_8_method_42_code 3 = .ok (.invokevirtual 180, 3) := by decide +kernel
theorem d_Ref_part_6 : decode prog_8_method_42_code 6 = .ok (.ifCond .ne 29, 3) := by decide +kernel
theorem d_Ref_part_9 : decode prog_8_method_42_code 9 = .ok (.iload_n 2, 1) := by decide +kernel
theorem d_Ref_part_10 : decode prog_8_method_42_code 10 = .ok (.ifCond .lt 25, 3) := by decide +kernel
theorem d_Ref_part_13 : decode prog_8_method_42_code 13 = .ok (.iload_n 2, 1) := by decide +kernel
theorem d_Ref_part_14 : decode prog_8_method_42_code 14 = .ok (.aload_n 0, 1) := by decide +kernel
theorem d_Ref_part_15 : decode prog_8_method_42_code 15 = .ok (.getfield 39, 3) := by decide +kernel
theorem d_Ref_part_18 : decode prog_8_method_42_code 18 = .ok (.iload_n 1, 1) := by decide +kernel
theorem d_Ref_part_19 : decode prog_8_method_42_code 19 = .ok (.iaload, 1) := by decide +kernel
theorem d_Ref_part_20 : decode prog_8_method_42_code 20 = .ok (.if_icmp .ge 15, 3) := by decide +kernel
theorem d_Ref_part_23 : decode prog_8_method_42_code 23 = .ok (.iload_n 3, 1) := by decide +kernel
theorem d_Ref_part_24 : decode prog_8_method_42_code 24 = .ok (.ifCond .lt 11, 3) := by decide +kernel
theorem d_Ref_part_27 : decode prog_8_method_42_code 27 = .ok (.iload_n 3, 1) := by decide +kernel
theorem d_Ref_part_28 : decode prog_8_method_42_code 28 = .ok (.aload_n 0, 1) := by decide +kernel
theorem d_Ref_part_29 : decode prog_8_method_42_code 29 = .ok (.getfield 7, 3) := by decide +kernel
theorem d_Ref_part_32 : decode prog_8_method_42_code 32 = .ok (.if_icmp .lt 7, 3) := by decide +kernel
theorem d_Ref_part_35 : decode prog_8_method_42_code 35 = .ok (.iconst 1, 1) := by decide +kernel
theorem d_Ref_part_36 : decode prog_8_method_42_code 36 = .ok (.goto 4, 3) := by decide +kernel
theorem d_Ref_part_39 : decode prog_8_method_42_code 39 = .ok (.iconst 0, 1) := by decide +kernel
theorem d_Ref_part_40 : decode prog_8_method_42_code 40 = .ok (.putfield 69, 3) := by decide +kernel
theorem d_Ref_part_43 : decode prog_8_method_42_code 43 = .ok (.aload_n 0, 1) := by decide +kernel
theorem d_Ref_part_44 : decode prog_8_method_42_code 44 = .ok (.getfield 69, 3) := by decide +kernel
theorem d_Ref_part_47 : decode prog_8_method_42_code 47 = .ok (.ifCond .le 7, 3) := by decide +kernel
theorem d_Ref_part_50 : decode prog_8_method_42_code 50 = .ok (.iconst 0, 1) := by decide +kernel
theorem d_Ref_part_51 : decode prog_8_method_42_code 51 = .ok (.goto 19, 3) := by decide +kernel
theorem d_Ref_part_54 : decode prog_8_method_42_code 54 = .ok (.aload_n 0, 1) := by decide +kernel
theorem d_Ref_part_55 : decode prog_8_method_42_code 55 = .ok (.getfield 42, 3) := by decide +kernel
theorem d_Ref_part_58 : decode prog_8_method_42_code 58 = .ok (.iconst 3, 1) := by decide +kernel
theorem d_Ref_part_59 : decode prog_8_method_42_code 59 = .ok (.iload_n 1, 1) := by decide +kernel
theorem d_Ref_part_60 : decode prog_8_method_42_code 60 = .ok (.imul, 1) := by decide +kernel
theorem d_Ref_part_61 : decode prog_8_method_42_code 61 = .ok (.iload_n 2, 1) := by decide +kernel
theorem d_Ref_part_62 : decode prog_8_method_42_code 62 = .ok (.iadd, 1) := by decide +kernel
theorem d_Ref_part_63 : decode prog_8_method_42_code 63 = .ok (.bipush 32, 2) := by decide +kernel
theorem d_Ref_part_65 : decode prog_8_method_42_code 65 = .ok (.imul, 1) := by decide +kernel
theorem d_Ref_part_66 : decode prog_8_method_42_code 66 = .ok (.iload_n 3, 1) := by decide +kernel
theorem d_Ref_part_67 : decode prog_8_method_42_code 67 = .ok (.iadd, 1) := by decide +kernel
theorem d_Ref_part_68 : decode prog_8_method_42_code 68 = .ok (.laload, 1) := by decide +kernel
theorem d_Ref_part_69 : decode prog_8_method_42_code 69 = .ok (.l2i, 1) := by decide +kernel
theorem d_Ref_part_70 : decode prog_8_method_42_code 70 = .ok (.ireturn, 1) := by decide +kernel
theorem d_Ref_about_0 : decode prog_8_method_43_code 0 = .ok (.aload_n 0, 1) := by decide +kernel
theorem d_Ref_about_1 : decode prog_8_method_43_code 1 = .ok (.aload_n 0, 1) := by decide +kernel
theorem d_Ref_about_2 : decode prog_8_method_43_code 2 = .ok (.iload_n 1, 1) := by decide +kernel
theorem d_Ref_about_3 : decode prog_8_method_43_code 3 = .ok (.invokevirtual 180, 3) := by decide +kernel
theorem d_Ref_about_6 : decode prog_8_method_43_code 6 = .ok (.ifCond .eq 7, 3) := by decide +kernel
theorem d_Ref_about_9 : decode prog_8_method_43_code 9 = .ok (.iconst 1, 1) := by decide +kernel
theorem d_Ref_about_10 : decode prog_8_method_43_code 10 = .ok (.goto 17, 3) := by decide +kernel
theorem d_Ref_about_13 : decode prog_8_method_43_code 13 = .ok (.iload_n 2, 1) := by decide +kernel
theorem d_Ref_about_14 : decode prog_8_method_43_code 14 = .ok (.ifCond .lt 8, 3) := by decide +kernel
theorem d_Ref_about_17 : decode prog_8_method_43_code 17 = .ok (.iload_n 2, 1) := by decide +kernel
theorem d_Ref_about_18 : decode prog_8_method_43_code 18 = .ok (.iconst 2, 1) := by decide +kernel
theorem d_Ref_about_19 : decode prog_8_method_43_code 19 = .ok (.if_icmp .le 7, 3) := by decide +kernel
theorem d_Ref_about_22 : decode prog_8_method_43_code 22 = .ok (.iconst 2, 1) := by decide +kernel
theorem d_Ref_about_23 : decode prog_8_method_43_code 23 = .ok (.goto 4, 3) := by decide +kernel
theorem d_Ref_about_26 : decode prog_8_method_43_code 26 = .ok (.iconst 0, 1) := by decide +kernel
theorem d_Ref_about_27 : decode prog_8_method_43_code 27 = .ok (.putfield 69, 3) := by decide +kernel
theorem d_Ref_about_30 : decode prog_8_method_43_code 30 = .ok (.aload_n 0, 1) := by decide +kernel
theorem d_Ref_about_31 : decode prog_8_method_43_code 31 = .ok (.getfield 69, 3) := by decide +kernel
theorem d_Ref_about_34 : decode prog_8_method_43_code 34 = .ok (.ifCond .le 5, 3) := by decide +kernel
theorem d_Ref_about_37 : decode prog_8_method_43_code 37 = .ok (.iconst 0, 1) := by decide +kernel
theorem d_Ref_about_38 : decode prog_8_method_43_code 38 = .ok (.ireturn, 1) := by decide +kernel
theorem d_Ref_about_39 : decode prog_8_method_43_code 39 = .ok (.iload_n 2, 1) := by decide +kernel
theorem d_Ref_about_40 : decode prog_8_method_43_code 40 = .ok (.ifCond .ne 12, 3) := by decide +kernel
theorem d_Ref_about_43 : decode prog_8_method_43_code 43 = .ok (.aload_n 0, 1) := by decide +kernel
theorem d_Ref_about_44 : decode prog_8_method_43_code 44 = .ok (.getfield 39, 3) := by decide +kernel
theorem d_Ref_about_47 : decode prog_8_method_43_code 47 = .ok (.iload_n 1, 1) := by decide +kernel
theorem d_Ref_about_48 : decode prog_8_method_43_code 48 = .ok (.iaload, 1) := by decide +kernel
theorem d_Ref_about_49 : decode prog_8_method_43_code 49 = .ok (.goto 22, 3) := by decide +kernel
theorem d_Ref_about_52 : decode prog_8_method_43_code 52 = .ok (.iload_n 2, 1) := by decide +kernel
theorem d_Ref_about_53 : decode prog_8_method_43_code 53 = .ok (.iconst 1, 1) := by decide +kernel
theorem d_Ref_about_54 : decode prog_8_method_43_code 54 = .ok (.if_icmp .ne 11, 3) := by decide +kernel
theorem d_Ref_about_57 : decode prog_8_method_43_code 57 = .ok (.aload_n 0, 1) := by decide +kernel
theorem d_Ref_about_58 : decode prog_8_method_43_code 58 = .ok (.iload_n 1, 1) := by decide +kernel
theorem d_Ref_about_59 : decode prog_8_method_43_code 59 = .ok (.invokevirtual 156, 3) := by decide +kernel
theorem d_Ref_about_62 : decode prog_8_method_43_code 62 = .ok (.goto 9, 3) := by decide +kernel
theorem d_Ref_about_65 : decode prog_8_method_43_code 65 = .ok (.aload_n 0, 1) := by decide +kernel
theorem d_Ref_about_66 : decode prog_8_method_43_code 66 = .ok (.iload_n 1, 1) := by decide +kernel
theorem d_Ref_about_67 : decode prog_8_method_43_code 67 = .ok (.invokevirtual 174, 3) := by decide +kernel
theorem d_Ref_about_70 : decode prog_8_method_43_code 70 = .ok (.l2i, 1) := by decide +kernel
theorem d_Ref_about_71 : decode prog_8_method_43_code 71 = .ok (.ireturn, 1) := by decide +kernel
theorem d_Ref_drop_0 : decode prog_8_method_44_code 0 = .ok (.aload_n 0, 1) := by decide +kernel
theorem d_Ref_drop_1 : decode prog_8_method_44_code 1 = .ok (.iload_n 1, 1) := by decide +kernel
theorem d_Ref_drop_2 : decode prog_8_method_44_code 2 = .ok (.invokestatic 138, 3) := by decide +kernel
theorem d_Ref_drop_5 : decode prog_8_method_44_code 5 = .ok (.ifCond .eq 7, 3) := by decide +kernel
theorem d_Ref_drop_8 : decode prog_8_method_44_code 8 = .ok (.iconst 1, 1) := by decide +kernel
theorem d_Ref_drop_9 : decode prog_8_method_44_code 9 = .ok (.goto 4, 3) := by decide +kernel
theorem d_Ref_drop_12 : decode prog_8_method_44_code 12 = .ok (.iconst 0, 1) := by decide +kernel
theorem d_Ref_drop_13 : decode prog_8_method_44_code 13 = .ok (.putfield 69, 3) := by decide +kernel
theorem d_Ref_drop_16 : decode prog_8_method_44_code 16 = .ok (.aload_n 0, 1) := by decide +kernel
theorem d_Ref_drop_17 : decode prog_8_method_44_code 17 = .ok (.getfield 69, 3) := by decide +kernel
theorem d_Ref_drop_20 : decode prog_8_method_44_code 20 = .ok (.ifCond .le 5, 3) := by decide +kernel
theorem d_Ref_drop_23 : decode prog_8_method_44_code 23 = .ok (.iconst 0, 1) := by decide +kernel
theorem d_Ref_drop_24 : decode prog_8_method_44_code 24 = .ok (.ireturn, 1) := by decide +kernel
theorem d_Ref_drop_25 : decode prog_8_method_44_code 25 = .ok (.aload_n 0, 1) := by decide +kernel
theorem d_Ref_drop_26 : decode prog_8_method_44_code 26 = .ok (.getfield 39, 3) := by decide +kernel
theorem d_Ref_drop_29 : decode prog_8_method_44_code 29 = .ok (.iload_n 1, 1) := by decide +kernel
theorem d_Ref_drop_30 : decode prog_8_method_44_code 30 = .ok (.iaload, 1) := by decide +kernel
theorem d_Ref_drop_31 : decode prog_8_method_44_code 31 = .ok (.istore_n 2, 1) := by decide +kernel
theorem d_Ref_drop_32 : decode prog_8_method_44_code 32 = .ok (.aload_n 0, 1) := by decide +kernel
theorem d_Ref_drop_33 : decode prog_8_method_44_code 33 = .ok (.getfield 39, 3) := by decide +kernel
theorem d_Ref_drop_36 : decode prog_8_method_44_code 36 = .ok (.iload_n 1, 1) := by decide +kernel
theorem d_Ref_drop_37 : decode prog_8_method_44_code 37 = .ok (.iconst 0, 1) := by decide +kernel
theorem d_Ref_drop_38 : decode prog_8_method_44_code 38 = .ok (.iastore, 1) := by decide +kernel
theorem d_Ref_drop_39 : decode prog_8_method_44_code 39 = .ok (.iload_n 2, 1) := by decide +kernel
theorem d_Ref_drop_40 : decode prog_8_method_44_code 40 = .ok (.ireturn, 1) := by decide +kernel
theorem d_Ref_count_0 : decode prog_8_method_45_code 0 = .ok (.aload_n 0, 1) := by decide +kernel
theorem d_Ref_count_1 : decode prog_8_method_45_code 1 = .ok (.iconst 0, 1) := by decide +kernel
theorem d_Ref_count_2 : decode prog_8_method_45_code 2 = .ok (.putfield 69, 3) := by decide +kernel
theorem d_Ref_count_5 : decode prog_8_method_45_code 5 = .ok (.iload_n 1, 1) := by decide +kernel
theorem d_Ref_count_6 : decode prog_8_method_45_code 6 = .ok (.tableswitch 122 0 7 #[46, 51, 56, 61, 66, 79, 84, 114], 46) := by decide +kernel
theorem d_Ref_count_52 : decode prog_8_method_45_code 52 = .ok (.aload_n 0, 1) := by decide +kernel
theorem d_Ref_count_53 : decode prog_8_method_45_code 53 = .ok (.getfield 104, 3) := by decide +kernel
theorem d_Ref_count_56 : decode prog_8_method_45_code 56 = .ok (.ireturn, 1) := by decide +kernel
theorem d_Ref_count_57 : decode prog_8_method_45_code 57 = .ok (.aload_n 0, 1) := by decide +kernel
theorem d_Ref_count_58 : decode prog_8_method_45_code 58 = .ok (.getfield 7, 3) := by decide +kernel
theorem d_Ref_count_61 : decode prog_8_method_45_code 61 = .ok (.ireturn, 1) := by decide +kernel
theorem d_Ref_count_62 : decode prog_8_method_45_code 62 = .ok (.aload_n 0, 1) := by decide +kernel
theorem d_Ref_count_63 : decode prog_8_method_45_code 63 = .ok (.getfield 13, 3) := by decide +kernel
theorem d_Ref_count_66 : decode prog_8_method_45_code 66 = .ok (.ireturn, 1) := by decide +kernel
theorem d_Ref_count_67 : decode prog_8_method_45_code 67 = .ok (.aload_n 0, 1) := by decide +kernel
theorem d_Ref_count_68 : decode prog_8_method_45_code 68 = .ok (.invokevirtual 149, 3) := by decide +kernel
theorem d_Ref_count_71 : decode prog_8_method_45_code 71 = .ok (.ireturn, 1) := by decide +kernel
theorem d_Ref_count_72 : decode prog_8_method_45_code 72 = .ok (.aload_n 0, 1) := by decide +kernel
theorem d_Ref_count_73 : decode prog_8_method_45_code 73 = .ok (.getfield 107, 3) := by decide +kernel
theorem d_Ref_count_76 : decode prog_8_method_45_code 76 = .ok (.ifCond .eq 7, 3) := by decide +kernel
theorem d_Ref_count_79 : decode prog_8_method_45_code 79 = .ok (.iconst 1, 1) := by decide +kernel
theorem d_Ref_count_80 : decode prog_8_method_45_code 80 = .ok (.goto 4, 3) := by decide +kernel
theorem d_Ref_count_83 : decode prog_8_method_45_code 83 = .ok (.iconst 0, 1) := by decide +kernel
theorem d_Ref_count_84 : decode prog_8_method_45_code 84 = .ok (.ireturn, 1) := by decide +kernel
theorem d_Ref_count_85 : decode prog_8_method_45_code 85 = .ok (.aload_n 0, 1) := by decide +kernel
theorem d_Ref_count_86 : decode prog_8_method_45_code 86 = .ok (.getfield 111, 3) := by decide +kernel
theorem d_Ref_count_89 : decode prog_8_method_45_code 89 = .ok (.ireturn, 1) := by decide +kernel
theorem d_Ref_count_90 : decode prog_8_method_45_code 90 = .ok (.iconst 0, 1) := by decide +kernel
theorem d_Ref_count_91 : decode prog_8_method_45_code 91 = .ok (.istore_n 2, 1) := by decide +kernel
theorem d_Ref_count_92 : decode prog_8_method_45_code 92 = .ok (.iconst 0, 1) := by decide +kernel
theorem d_Ref_count_93 : decode prog_8_method_45_code 93 = .ok (.istore_n 3, 1) := by decide +kernel
theorem d_Ref_count_94 : decode prog_8_method_45_code 94 = .ok (.iload_n 3, 1) := by decide +kernel
theorem d_Ref_count_95 : decode prog_8_method_45_code 95 = .ok (.bipush 16, 2) := by decide +kernel
theorem d_Ref_count_97 : decode prog_8_method_45_code 97 = .ok (.if_icmp .ge 21, 3) := by decide +kernel
theorem d_Ref_count_100 : decode prog_8_method_45_code 100 = .ok (.aload_n 0, 1) := by decide +kernel
theorem d_Ref_count_101 : decode prog_8_method_45_code 101 = .ok (.getfield 39, 3) := by decide +kernel
theorem d_Ref_count_104 : decode prog_8_method_45_code 104 = .ok (.iload_n 3, 1) := by decide +kernel
theorem d_Ref_count_105 : decode prog_8_method_45_code 105 = .ok (.iaload, 1) := by decide +kernel
theorem d_Ref_count_106 : decode prog_8_method_45_code 106 = .ok (.ifCond .le 6, 3) := by decide +kernel
theorem d_Ref_count_109 : decode prog_8_method_45_code 109 = .ok (.iinc 2 1, 3) := by decide +kernel
theorem d_Ref_count_112 : decode prog_8_method_45_code 112 = .ok (.iinc 3 1, 3) := by decide +kernel
theorem d_Ref_count_115 : decode prog_8_method_45_code 115 = .ok (.goto (-21), 3) := by decide +kernel
theorem d_Ref_count_118 : decode prog_8_method_45_code 118 = .ok (.iload_n 2, 1) := by decide +kernel
theorem d_Ref_count_119 : decode prog_8_method_45_code 119 = .ok (.ireturn, 1) := by decide +kernel
theorem d_Ref_count_120 : decode prog_8_method_45_code 120 = .ok (.aload_n 0, 1) := by decide +kernel
theorem d_Ref_count_121 : decode prog_8_method_45_code 121 = .ok (.getfield 81, 3) := by decide +kernel
theorem d_Ref_count_124 : decode prog_8_method_45_code 124 = .ok (.bipush 16, 2) := by decide +kernel
theorem d_Ref_count_126 : decode prog_8_method_45_code 126 = .ok (.iushr, 1) := by decide +kernel
theorem d_Ref_count_127 : decode prog_8_method_45_code 127 = .ok (.ireturn, 1) := by decide +kernel
theorem d_Ref_count_128 : decode prog_8_method_45_code 128 = .ok (.iconst (-1), 1) := by decide +kernel
theorem d_Ref_count_129 : decode prog_8_method_45_code 129 = .ok (.ireturn, 1) := by decide +kernel

