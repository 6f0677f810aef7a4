theorem g_Law_62 : zGI "RingCipherLaw" 62 M_X_init 0 := ⟨Or.inl ⟨List.mem_append_right _ (List.mem_of_getElem? (i := 20) (by decide +kernel)), by decide +kernel⟩, ⟨List.mem_append_right _ (List.mem_of_getElem? (i := 21) (by decide +kernel)), by decide +kernel⟩, rfl, rfl, ⟨List.mem_append_right _ (List.mem_of_getElem? (i := 22) (by decide +kernel)), by decide +kernel⟩, ⟨by decide +kernel, by decide +kernel⟩, by decide +kernel⟩
theorem g_Law_76 : zGV "RingCipherLaw" 76 M_X_keys 0 := ⟨Or.inl ⟨List.mem_append_right _ (List.mem_of_getElem? (i := 187) (by decide +kernel)), by decide +kernel⟩, ⟨List.mem_append_right _ (List.mem_of_getElem? (i := 188) (by decide +kernel)), by decide +kernel⟩, ⟨List.mem_append_right _ (List.mem_of_getElem? (i := 189) (by decide +kernel)), by decide +kernel⟩, ⟨by decide +kernel, by decide +kernel⟩, by decide +kernel⟩
theorem g_Law_123 : zGV "RingCipherLaw" 123 M_X_count 1 := ⟨Or.inl ⟨List.mem_append_right _ (List.mem_of_getElem? (i := 252) (by decide +kernel)), by decide +kernel⟩, ⟨List.mem_append_right _ (List.mem_of_getElem? (i := 253) (by decide +kernel)), by decide +kernel⟩, ⟨List.mem_append_right _ (List.mem_of_getElem? (i := 254) (by decide +kernel)), by decide +kernel⟩, ⟨by decide +kernel, by decide +kernel⟩, by decide +kernel⟩
theorem g_Law_66 : zGS "RingCipherLaw" 66 M_Law_begin 4 := ⟨Or.inl ⟨List.mem_append_right _ (List.mem_of_getElem? (i := 264) (by decide +kernel)), by decide +kernel⟩, ⟨List.mem_append_right _ (List.mem_of_getElem? (i := 265) (by decide +kernel)), by decide +kernel⟩, ⟨List.mem_append_right _ (List.mem_of_getElem? (i := 0) (by decide +kernel)), by decide +kernel⟩, ⟨by decide +kernel, by decide +kernel⟩, by decide +kernel⟩
theorem g_Law_7 : zGV "RingCipherLaw" 7 M_X_begin 2 := ⟨Or.inl ⟨List.mem_append_right _ (List.mem_of_getElem? (i := 268) (by decide +kernel)), by decide +kernel⟩, ⟨List.mem_append_right _ (List.mem_of_getElem? (i := 269) (by decide +kernel)), by decide +kernel⟩, ⟨List.mem_append_right _ (List.mem_of_getElem? (i := 270) (by decide +kernel)), by decide +kernel⟩, ⟨by decide +kernel, by decide +kernel⟩, by decide +kernel⟩
theorem g_Law_80 : zGS "RingCipherLaw" 80 M_Law_turnKey 3 := ⟨Or.inl ⟨List.mem_append_right _ (List.mem_of_getElem? (i := 351) (by decide +kernel)), by decide +kernel⟩, ⟨List.mem_append_right _ (List.mem_of_getElem? (i := 352) (by decide +kernel)), by decide +kernel⟩, ⟨List.mem_append_right _ (List.mem_of_getElem? (i := 0) (by decide +kernel)), by decide +kernel⟩, ⟨by decide +kernel, by decide +kernel⟩, by decide +kernel⟩
theorem g_Law_15 : zGV "RingCipherLaw" 15 M_X_turnKey 1 := ⟨Or.inl ⟨List.mem_append_right _ (List.mem_of_getElem? (i := 355) (by decide +kernel)), by decide +kernel⟩, ⟨List.mem_append_right _ (List.mem_of_getElem? (i := 356) (by decide +kernel)), by decide +kernel⟩, ⟨List.mem_append_right _ (List.mem_of_getElem? (i := 357) (by decide +kernel)), by decide +kernel⟩, ⟨by decide +kernel, by decide +kernel⟩, by decide +kernel⟩
theorem g_Law_84 : zGS "RingCipherLaw" 84 M_Law_set 5 := ⟨Or.inl ⟨List.mem_append_right _ (List.mem_of_getElem? (i := 394) (by decide +kernel)), by decide +kernel⟩, ⟨List.mem_append_right _ (List.mem_of_getElem? (i := 395) (by decide +kernel)), by decide +kernel⟩, ⟨List.mem_append_right _ (List.mem_of_getElem? (i := 0) (by decide +kernel)), by decide +kernel⟩, ⟨by decide +kernel, by decide +kernel⟩, by decide +kernel⟩
theorem g_Law_21 : zGV "RingCipherLaw" 21 M_X_set 3 := ⟨Or.inl ⟨List.mem_append_right _ (List.mem_of_getElem? (i := 398) (by decide +kernel)), by decide +kernel⟩, ⟨List.mem_append_right _ (List.mem_of_getElem? (i := 399) (by decide +kernel)), by decide +kernel⟩, ⟨List.mem_append_right _ (List.mem_of_getElem? (i := 400) (by decide +kernel)), by decide +kernel⟩, ⟨by decide +kernel, by decide +kernel⟩, by decide +kernel⟩
theorem g_Law_88 : zGS "RingCipherLaw" 88 M_Law_get 4 := ⟨Or.inl ⟨List.mem_append_right _ (List.mem_of_getElem? (i := 430) (by decide +kernel)), by decide +kernel⟩, ⟨List.mem_append_right _ (List.mem_of_getElem? (i := 431) (by decide +kernel)), by decide +kernel⟩, ⟨List.mem_append_right _ (List.mem_of_getElem? (i := 0) (by decide +kernel)), by decide +kernel⟩, ⟨by decide +kernel, by decide +kernel⟩, by decide +kernel⟩
theorem g_Law_27 : zGV "RingCipherLaw" 27 M_X_get 2 := ⟨Or.inl ⟨List.mem_append_right _ (List.mem_of_getElem? (i := 433) (by decide +kernel)), by decide +kernel⟩, ⟨List.mem_append_right _ (List.mem_of_getElem? (i := 434) (by decide +kernel)), by decide +kernel⟩, ⟨List.mem_append_right _ (List.mem_of_getElem? (i := 435) (by decide +kernel)), by decide +kernel⟩, ⟨by decide +kernel, by decide +kernel⟩, by decide +kernel⟩
theorem g_Law_91 : zGS "RingCipherLaw" 91 M_Law_batch 4 := ⟨Or.inl ⟨List.mem_append_right _ (List.mem_of_getElem? (i := 437) (by decide +kernel)), by decide +kernel⟩, ⟨List.mem_append_right _ (List.mem_of_getElem? (i := 438) (by decide +kernel)), by decide +kernel⟩, ⟨List.mem_append_right _ (List.mem_of_getElem? (i := 0) (by decide +kernel)), by decide +kernel⟩, ⟨by decide +kernel, by decide +kernel⟩, by decide +kernel⟩
theorem g_Law_30 : zGV "RingCipherLaw" 30 M_X_batch 2 := ⟨Or.inl ⟨List.mem_append_right _ (List.mem_of_getElem? (i := 440) (by decide +kernel)), by decide +kernel⟩, ⟨List.mem_append_right _ (List.mem_of_getElem? (i := 441) (by decide +kernel)), by decide +kernel⟩, ⟨List.mem_append_right _ (List.mem_of_getElem? (i := 442) (by decide +kernel)), by decide +kernel⟩, ⟨by decide +kernel, by decide +kernel⟩, by decide +kernel⟩
theorem g_Law_95 : zGS "RingCipherLaw" 95 M_Law_seal 4 := ⟨Or.inl ⟨List.mem_append_right _ (List.mem_of_getElem? (i := 455) (by decide +kernel)), by decide +kernel⟩, ⟨List.mem_append_right _ (List.mem_of_getElem? (i := 456) (by decide +kernel)), by decide +kernel⟩, ⟨List.mem_append_right _ (List.mem_of_getElem? (i := 0) (by decide +kernel)), by decide +kernel⟩, ⟨by decide +kernel, by decide +kernel⟩, by decide +kernel⟩
theorem g_Law_34 : zGV "RingCipherLaw" 34 M_X_seal 2 := ⟨Or.inl ⟨List.mem_append_right _ (List.mem_of_getElem? (i := 458) (by decide +kernel)), by decide +kernel⟩, ⟨List.mem_append_right _ (List.mem_of_getElem? (i := 459) (by decide +kernel)), by decide +kernel⟩, ⟨List.mem_append_right _ (List.mem_of_getElem? (i := 460) (by decide +kernel)), by decide +kernel⟩, ⟨by decide +kernel, by decide +kernel⟩, by decide +kernel⟩
theorem g_Law_98 : zGS "RingCipherLaw" 98 M_Law_open 4 := ⟨Or.inl ⟨List.mem_append_right _ (List.mem_of_getElem? (i := 524) (by decide +kernel)), by decide +kernel⟩, ⟨List.mem_append_right _ (List.mem_of_getElem? (i := 525) (by decide +kernel)), by decide +kernel⟩, ⟨List.mem_append_right _ (List.mem_of_getElem? (i := 0) (by decide +kernel)), by decide +kernel⟩, ⟨by decide +kernel, by decide +kernel⟩, by decide +kernel⟩
theorem g_Law_37 : zGV "RingCipherLaw" 37 M_X_open 2 := ⟨Or.inl ⟨List.mem_append_right _ (List.mem_of_getElem? (i := 527) (by decide +kernel)), by decide +kernel⟩, ⟨List.mem_append_right _ (List.mem_of_getElem? (i := 528) (by decide +kernel)), by decide +kernel⟩, ⟨List.mem_append_right _ (List.mem_of_getElem? (i := 529) (by decide +kernel)), by decide +kernel⟩, ⟨by decide +kernel, by decide +kernel⟩, by decide +kernel⟩
theorem g_Law_101 : zGS "RingCipherLaw" 101 M_Law_join 6 := ⟨Or.inl ⟨List.mem_append_right _ (List.mem_of_getElem? (i := 544) (by decide +kernel)), by decide +kernel⟩, ⟨List.mem_append_right _ (List.mem_of_getElem? (i := 545) (by decide +kernel)), by decide +kernel⟩, ⟨List.mem_append_right _ (List.mem_of_getElem? (i := 0) (by decide +kernel)), by decide +kernel⟩, ⟨by decide +kernel, by decide +kernel⟩, by decide +kernel⟩
theorem g_Law_40 : zGV "RingCipherLaw" 40 M_X_join 4 := ⟨Or.inl ⟨List.mem_append_right _ (List.mem_of_getElem? (i := 547) (by decide +kernel)), by decide +kernel⟩, ⟨List.mem_append_right _ (List.mem_of_getElem? (i := 548) (by decide +kernel)), by decide +kernel⟩, ⟨List.mem_append_right _ (List.mem_of_getElem? (i := 549) (by decide +kernel)), by decide +kernel⟩, ⟨by decide +kernel, by decide +kernel⟩, by decide +kernel⟩
theorem g_Law_105 : zGS "RingCipherLaw" 105 M_Law_plain 6 := ⟨Or.inl ⟨List.mem_append_right _ (List.mem_of_getElem? (i := 564) (by decide +kernel)), by decide +kernel⟩, ⟨List.mem_append_right _ (List.mem_of_getElem? (i := 565) (by decide +kernel)), by decide +kernel⟩, ⟨List.mem_append_right _ (List.mem_of_getElem? (i := 0) (by decide +kernel)), by decide +kernel⟩, ⟨by decide +kernel, by decide +kernel⟩, by decide +kernel⟩
theorem g_Law_44 : zGV "RingCipherLaw" 44 M_X_plain 4 := ⟨Or.inl ⟨List.mem_append_right _ (List.mem_of_getElem? (i := 567) (by decide +kernel)), by decide +kernel⟩, ⟨List.mem_append_right _ (List.mem_of_getElem? (i := 568) (by decide +kernel)), by decide +kernel⟩, ⟨List.mem_append_right _ (List.mem_of_getElem? (i := 569) (by decide +kernel)), by decide +kernel⟩, ⟨by decide +kernel, by decide +kernel⟩, by decide +kernel⟩
theorem g_Law_108 : zGS "RingCipherLaw" 108 M_Law_shrink 4 := ⟨Or.inl ⟨List.mem_append_right _ (List.mem_of_getElem? (i := 580) (by decide +kernel)), by decide +kernel⟩, ⟨List.mem_append_right _ (List.mem_of_getElem? (i := 581) (by decide +kernel)), by decide +kernel⟩, ⟨List.mem_append_right _ (List.mem_of_getElem? (i := 0) (by decide +kernel)), by decide +kernel⟩, ⟨by decide +kernel, by decide +kernel⟩, by decide +kernel⟩
theorem g_Law_47 : zGV "RingCipherLaw" 47 M_X_shrink 2 := ⟨Or.inl ⟨List.mem_append_right _ (List.mem_of_getElem? (i := 583) (by decide +kernel)), by decide +kernel⟩, ⟨List.mem_append_right _ (List.mem_of_getElem? (i := 584) (by decide +kernel)), by decide +kernel⟩, ⟨List.mem_append_right _ (List.mem_of_getElem? (i := 585) (by decide +kernel)), by decide +kernel⟩, ⟨by decide +kernel, by decide +kernel⟩, by decide +kernel⟩
theorem g_Law_111 : zGS "RingCipherLaw" 111 M_Law_turn 5 := ⟨Or.inl ⟨List.mem_append_right _ (List.mem_of_getElem? (i := 593) (by decide +kernel)), by decide +kernel⟩, ⟨List.mem_append_right _ (List.mem_of_getElem? (i := 594) (by decide +kernel)), by decide +kernel⟩, ⟨List.mem_append_right _ (List.mem_of_getElem? (i := 0) (by decide +kernel)), by decide +kernel⟩, ⟨by decide +kernel, by decide +kernel⟩, by decide +kernel⟩
theorem g_Law_50 : zGV "RingCipherLaw" 50 M_X_turn 3 := ⟨Or.inl ⟨List.mem_append_right _ (List.mem_of_getElem? (i := 596) (by decide +kernel)), by decide +kernel⟩, ⟨List.mem_append_right _ (List.mem_of_getElem? (i := 597) (by decide +kernel)), by decide +kernel⟩, ⟨List.mem_append_right _ (List.mem_of_getElem? (i := 598) (by decide +kernel)), by decide +kernel⟩, ⟨by decide +kernel, by decide +kernel⟩, by decide +kernel⟩
theorem g_Law_114 : zGS "RingCipherLaw" 114 M_Law_part 5 := ⟨Or.inl ⟨List.mem_append_right _ (List.mem_of_getElem? (i := 602) (by decide +kernel)), by decide +kernel⟩, ⟨List.mem_append_right _ (List.mem_of_getElem? (i := 603) (by decide +kernel)), by decide +kernel⟩, ⟨List.mem_append_right _ (List.mem_of_getElem? (i := 0) (by decide +kernel)), by decide +kernel⟩, ⟨by decide +kernel, by decide +kernel⟩, by decide +kernel⟩
theorem g_Law_53 : zGV "RingCipherLaw" 53 M_X_part 3 := ⟨Or.inl ⟨List.mem_append_right _ (List.mem_of_getElem? (i := 605) (by decide +kernel)), by decide +kernel⟩, ⟨List.mem_append_right _ (List.mem_of_getElem? (i := 606) (by decide +kernel)), by decide +kernel⟩, ⟨List.mem_append_right _ (List.mem_of_getElem? (i := 607) (by decide +kernel)), by decide +kernel⟩, ⟨by decide +kernel, by decide +kernel⟩, by decide +kernel⟩
theorem g_Law_117 : zGS "RingCipherLaw" 117 M_Law_about 4 := ⟨Or.inl ⟨List.mem_append_right _ (List.mem_of_getElem? (i := 610) (by decide +kernel)), by decide +kernel⟩, ⟨List.mem_append_right _ (List.mem_of_getElem? (i := 611) (by decide +kernel)), by decide +kernel⟩, ⟨List.mem_append_right _ (List.mem_of_getElem? (i := 0) (by decide +kernel)), by decide +kernel⟩, ⟨by decide +kernel, by decide +kernel⟩, by decide +kernel⟩
theorem g_Law_56 : zGV "RingCipherLaw" 56 M_X_about 2 := ⟨Or.inl ⟨List.mem_append_right _ (List.mem_of_getElem? (i := 613) (by decide +kernel)), by decide +kernel⟩, ⟨List.mem_append_right _ (List.mem_of_getElem? (i := 614) (by decide +kernel)), by decide +kernel⟩, ⟨List.mem_append_right _ (List.mem_of_getElem? (i := 615) (by decide +kernel)), by decide +kernel⟩, ⟨by decide +kernel, by decide +kernel⟩, by decide +kernel⟩
theorem g_Law_120 : zGS "RingCipherLaw" 120 M_Law_drop 3 := ⟨Or.inl ⟨List.mem_append_right _ (List.mem_of_getElem? (i := 618) (by decide +kernel)), by decide +kernel⟩, ⟨List.mem_append_right _ (List.mem_of_getElem? (i := 619) (by decide +kernel)), by decide +kernel⟩, ⟨List.mem_append_right _ (List.mem_of_getElem? (i := 0) (by decide +kernel)), by decide +kernel⟩, ⟨by decide +kernel, by decide +kernel⟩, by decide +kernel⟩
theorem g_Law_59 : zGV "RingCipherLaw" 59 M_X_drop 1 := ⟨Or.inl ⟨List.mem_append_right _ (List.mem_of_getElem? (i := 621) (by decide +kernel)), by decide +kernel⟩, ⟨List.mem_append_right _ (List.mem_of_getElem? (i := 622) (by decide +kernel)), by decide +kernel⟩, ⟨List.mem_append_right _ (List.mem_of_getElem? (i := 623) (by decide +kernel)), by decide +kernel⟩, ⟨by decide +kernel, by decide +kernel⟩, by decide +kernel⟩
theorem g_Law_65 : zGI "RingCipherLaw" 65 M_Ref_init 0 := ⟨Or.inl ⟨List.mem_append_right _ (List.mem_of_getElem? (i := 627) (by decide +kernel)), by decide +kernel⟩, ⟨List.mem_append_right _ (List.mem_of_getElem? (i := 628) (by decide +kernel)), by decide +kernel⟩, rfl, rfl, ⟨List.mem_append_right _ (List.mem_of_getElem? (i := 629) (by decide +kernel)), by decide +kernel⟩, ⟨by decide +kernel, by decide +kernel⟩, by decide +kernel⟩
theorem g_Law_72 : zGV "RingCipherLaw" 72 M_Ref_thrown 0 := ⟨Or.inl ⟨List.mem_append_right _ (List.mem_of_getElem? (i := 705) (by decide +kernel)), by decide +kernel⟩, ⟨List.mem_append_right _ (List.mem_of_getElem? (i := 706) (by decide +kernel)), by decide +kernel⟩, ⟨List.mem_append_right _ (List.mem_of_getElem? (i := 707) (by decide +kernel)), by decide +kernel⟩, ⟨by decide +kernel, by decide +kernel⟩, by decide +kernel⟩
theorem g_Law_71 : zGV "RingCipherLaw" 71 M_Ref_begin 2 := ⟨Or.inl ⟨List.mem_append_right _ (List.mem_of_getElem? (i := 709) (by decide +kernel)), by decide +kernel⟩, ⟨List.mem_append_right _ (List.mem_of_getElem? (i := 710) (by decide +kernel)), by decide +kernel⟩, ⟨List.mem_append_right _ (List.mem_of_getElem? (i := 711) (by decide +kernel)), by decide +kernel⟩, ⟨by decide +kernel, by decide +kernel⟩, by decide +kernel⟩
theorem g_Law_79 : zGV "RingCipherLaw" 79 M_Ref_keys 0 := ⟨Or.inl ⟨List.mem_append_right _ (List.mem_of_getElem? (i := 717) (by decide +kernel)), by decide +kernel⟩, ⟨List.mem_append_right _ (List.mem_of_getElem? (i := 718) (by decide +kernel)), by decide +kernel⟩, ⟨List.mem_append_right _ (List.mem_of_getElem? (i := 719) (by decide +kernel)), by decide +kernel⟩, ⟨by decide +kernel, by decide +kernel⟩, by decide +kernel⟩
theorem g_Law_83 : zGV "RingCipherLaw" 83 M_Ref_turnKey 1 := ⟨Or.inl ⟨List.mem_append_right _ (List.mem_of_getElem? (i := 757) (by decide +kernel)), by decide +kernel⟩, ⟨List.mem_append_right _ (List.mem_of_getElem? (i := 758) (by decide +kernel)), by decide +kernel⟩, ⟨List.mem_append_right _ (List.mem_of_getElem? (i := 759) (by decide +kernel)), by decide +kernel⟩, ⟨by decide +kernel, by decide +kernel⟩, by decide +kernel⟩
theorem g_Law_87 : zGV "RingCipherLaw" 87 M_Ref_set 3 := ⟨Or.inl ⟨List.mem_append_right _ (List.mem_of_getElem? (i := 773) (by decide +kernel)), by decide +kernel⟩, ⟨List.mem_append_right _ (List.mem_of_getElem? (i := 774) (by decide +kernel)), by decide +kernel⟩, ⟨List.mem_append_right _ (List.mem_of_getElem? (i := 775) (by decide +kernel)), by decide +kernel⟩, ⟨by decide +kernel, by decide +kernel⟩, by decide +kernel⟩
theorem g_Law_90 : zGV "RingCipherLaw" 90 M_Ref_get 2 := ⟨Or.inl ⟨List.mem_append_right _ (List.mem_of_getElem? (i := 780) (by decide +kernel)), by decide +kernel⟩, ⟨List.mem_append_right _ (List.mem_of_getElem? (i := 781) (by decide +kernel)), by decide +kernel⟩, ⟨List.mem_append_right _ (List.mem_of_getElem? (i := 782) (by decide +kernel)), by decide +kernel⟩, ⟨by decide +kernel, by decide +kernel⟩, by decide +kernel⟩
theorem g_Law_94 : zGV "RingCipherLaw" 94 M_Ref_batch 2 := ⟨Or.inl ⟨List.mem_append_right _ (List.mem_of_getElem? (i := 784) (by decide +kernel)), by decide +kernel⟩, ⟨List.mem_append_right _ (List.mem_of_getElem? (i := 785) (by decide +kernel)), by decide +kernel⟩, ⟨List.mem_append_right _ (List.mem_of_getElem? (i := 786) (by decide +kernel)), by decide +kernel⟩, ⟨by decide +kernel, by decide +kernel⟩, by decide +kernel⟩
theorem g_Law_97 : zGV "RingCipherLaw" 97 M_Ref_seal 2 := ⟨Or.inl ⟨List.mem_append_right _ (List.mem_of_getElem? (i := 796) (by decide +kernel)), by decide +kernel⟩, ⟨List.mem_append_right _ (List.mem_of_getElem? (i := 797) (by decide +kernel)), by decide +kernel⟩, ⟨List.mem_append_right _ (List.mem_of_getElem? (i := 798) (by decide +kernel)), by decide +kernel⟩, ⟨by decide +kernel, by decide +kernel⟩, by decide +kernel⟩
theorem g_Law_100 : zGV "RingCipherLaw" 100 M_Ref_open 2 := ⟨Or.inl ⟨List.mem_append_right _ (List.mem_of_getElem? (i := 828) (by decide +kernel)), by decide +kernel⟩, ⟨List.mem_append_right _ (List.mem_of_getElem? (i := 829) (by decide +kernel)), by decide +kernel⟩, ⟨List.mem_append_right _ (List.mem_of_getElem? (i := 830) (by decide +kernel)), by decide +kernel⟩, ⟨by decide +kernel, by decide +kernel⟩, by decide +kernel⟩
theorem g_Law_104 : zGV "RingCipherLaw" 104 M_Ref_join 4 := ⟨Or.inl ⟨List.mem_append_right _ (List.mem_of_getElem? (i := 841) (by decide +kernel)), by decide +kernel⟩, ⟨List.mem_append_right _ (List.mem_of_getElem? (i := 842) (by decide +kernel)), by decide +kernel⟩, ⟨List.mem_append_right _ (List.mem_of_getElem? (i := 843) (by decide +kernel)), by decide +kernel⟩, ⟨by decide +kernel, by decide +kernel⟩, by decide +kernel⟩
theorem g_Law_107 : zGV "RingCipherLaw" 107 M_Ref_plain 4 := ⟨Or.inl ⟨List.mem_append_right _ (List.mem_of_getElem? (i := 850) (by decide +kernel)), by decide +kernel⟩, ⟨List.mem_append_right _ (List.mem_of_getElem? (i := 851) (by decide +kernel)), by decide +kernel⟩, ⟨List.mem_append_right _ (List.mem_of_getElem? (i := 852) (by decide +kernel)), by decide +kernel⟩, ⟨by decide +kernel, by decide +kernel⟩, by decide +kernel⟩
theorem g_Law_110 : zGV "RingCipherLaw" 110 M_Ref_shrink 2 := ⟨Or.inl ⟨List.mem_append_right _ (List.mem_of_getElem? (i := 854) (by decide +kernel)), by decide +kernel⟩, ⟨List.mem_append_right _ (List.mem_of_getElem? (i := 855) (by decide +kernel)), by decide +kernel⟩, ⟨List.mem_append_right _ (List.mem_of_getElem? (i := 856) (by decide +kernel)), by decide +kernel⟩, ⟨by decide +kernel, by decide +kernel⟩, by decide +kernel⟩
theorem g_Law_113 : zGV "RingCipherLaw" 113 M_Ref_turn 3 := ⟨Or.inl ⟨List.mem_append_right _ (List.mem_of_getElem? (i := 863) (by decide +kernel)), by decide +kernel⟩, ⟨List.mem_append_right _ (List.mem_of_getElem? (i := 864) (by decide +kernel)), by decide +kernel⟩, ⟨List.mem_append_right _ (List.mem_of_getElem? (i := 865) (by decide +kernel)), by decide +kernel⟩, ⟨by decide +kernel, by decide +kernel⟩, by decide +kernel⟩
theorem g_Law_116 : zGV "RingCipherLaw" 116 M_Ref_part 3 := ⟨Or.inl ⟨List.mem_append_right _ (List.mem_of_getElem? (i := 871) (by decide +kernel)), by decide +kernel⟩, ⟨List.mem_append_right _ (List.mem_of_getElem? (i := 872) (by decide +kernel)), by decide +kernel⟩, ⟨List.mem_append_right _ (List.mem_of_getElem? (i := 873) (by decide +kernel)), by decide +kernel⟩, ⟨by decide +kernel, by decide +kernel⟩, by decide +kernel⟩
theorem g_Law_119 : zGV "RingCipherLaw" 119 M_Ref_about 2 := ⟨Or.inl ⟨List.mem_append_right _ (List.mem_of_getElem? (i := 875) (by decide +kernel)), by decide +kernel⟩, ⟨List.mem_append_right _ (List.mem_of_getElem? (i := 876) (by decide +kernel)), by decide +kernel⟩, ⟨List.mem_append_right _ (List.mem_of_getElem? (i := 877) (by decide +kernel)), by decide +kernel⟩, ⟨by decide +kernel, by decide +kernel⟩, by decide +kernel⟩
theorem g_Law_122 : zGV "RingCipherLaw" 122 M_Ref_drop 1 := ⟨Or.inl ⟨List.mem_append_right _ (List.mem_of_getElem? (i := 879) (by decide +kernel)), by decide +kernel⟩, ⟨List.mem_append_right _ (List.mem_of_getElem? (i := 880) (by decide +kernel)), by decide +kernel⟩, ⟨List.mem_append_right _ (List.mem_of_getElem? (i := 881) (by decide +kernel)), by decide +kernel⟩, ⟨by decide +kernel, by decide +kernel⟩, by decide +kernel⟩
theorem g_Law_126 : zGV "RingCipherLaw" 126 M_Ref_count 1 := ⟨Or.inl ⟨List.mem_append_right _ (List.mem_of_getElem? (i := 883) (by decide +kernel)), by decide +kernel⟩, ⟨List.mem_append_right _ (List.mem_of_getElem? (i := 884) (by decide +kernel)), by decide +kernel⟩, ⟨List.mem_append_right _ (List.mem_of_getElem? (i := 885) (by decide +kernel)), by decide +kernel⟩, ⟨by decide +kernel, by decide +kernel⟩, by decide +kernel⟩
theorem co_Law_begin : zCo M_Law_begin := Or.inr ⟨List.mem_append_right _ (List.mem_of_getElem? (i := 266) (by decide +kernel)), by decide +kernel⟩
theorem co_Law_turnKey : zCo M_Law_turnKey := Or.inr ⟨List.mem_append_right _ (List.mem_of_getElem? (i := 353) (by decide +kernel)), by decide +kernel⟩
theorem co_Law_set : zCo M_Law_set := Or.inr ⟨List.mem_append_right _ (List.mem_of_getElem? (i := 396) (by decide +kernel)), by decide +kernel⟩
theorem co_Law_get : zCo M_Law_get := Or.inr ⟨List.mem_append_right _ (List.mem_of_getElem? (i := 432) (by decide +kernel)), by decide +kernel⟩
theorem co_Law_batch : zCo M_Law_batch := Or.inr ⟨List.mem_append_right _ (List.mem_of_getElem? (i := 439) (by decide +kernel)), by decide +kernel⟩
theorem co_Law_seal : zCo M_Law_seal := Or.inr ⟨List.mem_append_right _ (List.mem_of_getElem? (i := 457) (by decide +kernel)), by decide +kernel⟩
theorem co_Law_open : zCo M_Law_open := Or.inr ⟨List.mem_append_right _ (List.mem_of_getElem? (i := 526) (by decide +kernel)), by decide +kernel⟩
theorem co_Law_join : zCo M_Law_join := Or.inr ⟨List.mem_append_right _ (List.mem_of_getElem? (i := 546) (by decide +kernel)), by decide +kernel⟩
theorem co_Law_plain : zCo M_Law_plain := Or.inr ⟨List.mem_append_right _ (List.mem_of_getElem? (i := 566) (by decide +kernel)), by decide +kernel⟩
theorem co_Law_shrink : zCo M_Law_shrink := Or.inr ⟨List.mem_append_right _ (List.mem_of_getElem? (i := 582) (by decide +kernel)), by decide +kernel⟩
theorem co_Law_turn : zCo M_Law_turn := Or.inr ⟨List.mem_append_right _ (List.mem_of_getElem? (i := 595) (by decide +kernel)), by decide +kernel⟩
theorem co_Law_part : zCo M_Law_part := Or.inr ⟨List.mem_append_right _ (List.mem_of_getElem? (i := 604) (by decide +kernel)), by decide +kernel⟩
theorem co_Law_about : zCo M_Law_about := Or.inr ⟨List.mem_append_right _ (List.mem_of_getElem? (i := 612) (by decide +kernel)), by decide +kernel⟩
theorem co_Law_drop : zCo M_Law_drop := Or.inr ⟨List.mem_append_right _ (List.mem_of_getElem? (i := 620) (by decide +kernel)), by decide +kernel⟩
theorem d_Law_begin_0 : decode method_3_code 0 = .ok (.aload_n 3, 1) := by decide +kernel
theorem d_Law_begin_1 : decode method_3_code 1 = .ok (.iconst 0, 1) := by decide +kernel
theorem d_Law_begin_2 : decode method_3_code 2 = .ok (.aload_n 0, 1) := by decide +kernel
theorem d_Law_begin_3 : decode method_3_code 3 = .ok (.iload_n 1, 1) := by decide +kernel
theorem d_Law_begin_4 : decode method_3_code 4 = .ok (.iload_n 2, 1) := by decide +kernel
theorem d_Law_begin_5 : decode method_3_code 5 = .ok (.invokevirtual 7, 3) := by decide +kernel
theorem d_Law_begin_8 : decode method_3_code 8 = .ok (.i2l, 1) := by decide +kernel
theorem d_Law_begin_9 : decode method_3_code 9 = .ok (.lastore, 1) := by decide +kernel
theorem d_Law_begin_10 : decode method_3_code 10 = .ok (.goto 7, 3) := by decide +kernel
theorem d_Law_begin_13 : decode method_3_code 13 = .ok (.astore 4, 2) := by decide +kernel
theorem d_Law_begin_15 : decode method_3_code 15 = .ok (.iconst 1, 1) := by decide +kernel
theorem d_Law_begin_16 : decode method_3_code 16 = .ok (.ireturn, 1) := by decide +kernel
theorem d_Law_begin_17 : decode method_3_code 17 = .ok (.iconst 0, 1) := by decide +kernel
theorem d_Law_begin_18 : decode method_3_code 18 = .ok (.ireturn, 1) := by decide +kernel
theorem d_Law_turnKey_0 : decode method_4_code 0 = .ok (.aload_n 2, 1) := by decide +kernel
theorem d_Law_turnKey_1 : decode method_4_code 1 = .ok (.iconst 0, 1) := by decide +kernel
theorem d_Law_turnKey_2 : decode method_4_code 2 = .ok (.aload_n 0, 1) := by decide +kernel
theorem d_Law_turnKey_3 : decode method_4_code 3 = .ok (.iload_n 1, 1) := by decide +kernel
theorem d_Law_turnKey_4 : decode method_4_code 4 = .ok (.invokevirtual 15, 3) := by decide +kernel
theorem d_Law_turnKey_7 : decode method_4_code 7 = .ok (.i2l, 1) := by decide +kernel
theorem d_Law_turnKey_8 : decode method_4_code 8 = .ok (.lastore, 1) := by decide +kernel
theorem d_Law_turnKey_9 : decode method_4_code 9 = .ok (.goto 9, 3) := by decide +kernel
theorem d_Law_turnKey_12 : decode method_4_code 12 = .ok (.astore_n 3, 1) := by decide +kernel
theorem d_Law_turnKey_13 : decode method_4_code 13 = .ok (.iconst 1, 1) := by decide +kernel
theorem d_Law_turnKey_14 : decode method_4_code 14 = .ok (.ireturn, 1) := by decide +kernel
theorem d_Law_turnKey_15 : decode method_4_code 15 = .ok (.astore_n 3, 1) := by decide +kernel
theorem d_Law_turnKey_16 : decode method_4_code 16 = .ok (.iconst 2, 1) := by decide +kernel
theorem d_Law_turnKey_17 : decode method_4_code 17 = .ok (.ireturn, 1) := by decide +kernel
theorem d_Law_turnKey_18 : decode method_4_code 18 = .ok (.iconst 0, 1) := by decide +kernel
theorem d_Law_turnKey_19 : decode method_4_code 19 = .ok (.ireturn, 1) := by decide +kernel
theorem d_Law_set_0 : decode method_5_code 0 = .ok (.aload 4, 2) := by decide +kernel
theorem d_Law_set_2 : decode method_5_code 2 = .ok (.iconst 0, 1) := by decide +kernel
theorem d_Law_set_3 : decode method_5_code 3 = .ok (.aload_n 0, 1) := by decide +kernel
theorem d_Law_set_4 : decode method_5_code 4 = .ok (.iload_n 1, 1) := by decide +kernel
theorem d_Law_set_5 : decode method_5_code 5 = .ok (.iload_n 2, 1) := by decide +kernel
theorem d_Law_set_6 : decode method_5_code 6 = .ok (.iload_n 3, 1) := by decide +kernel
theorem d_Law_set_7 : decode method_5_code 7 = .ok (.invokevirtual 21, 3) := by decide +kernel
theorem d_Law_set_10 : decode method_5_code 10 = .ok (.i2l, 1) := by decide +kernel
theorem d_Law_set_11 : decode method_5_code 11 = .ok (.lastore, 1) := by decide +kernel
theorem d_Law_set_12 : decode method_5_code 12 = .ok (.goto 7, 3) := by decide +kernel
theorem d_Law_set_15 : decode method_5_code 15 = .ok (.astore 5, 2) := by decide +kernel
theorem d_Law_set_17 : decode method_5_code 17 = .ok (.iconst 1, 1) := by decide +kernel
theorem d_Law_set_18 : decode method_5_code 18 = .ok (.ireturn, 1) := by decide +kernel
theorem d_Law_set_19 : decode method_5_code 19 = .ok (.iconst 0, 1) := by decide +kernel
theorem d_Law_set_20 : decode method_5_code 20 = .ok (.ireturn, 1) := by decide +kernel
theorem d_Law_get_0 : decode method_6_code 0 = .ok (.aload_n 3, 1) := by decide +kernel
theorem d_Law_get_1 : decode method_6_code 1 = .ok (.iconst 0, 1) := by decide +kernel
theorem d_Law_get_2 : decode method_6_code 2 = .ok (.aload_n 0, 1) := by decide +kernel
theorem d_Law_get_3 : decode method_6_code 3 = .ok (.iload_n 1, 1) := by decide +kernel
theorem d_Law_get_4 : decode method_6_code 4 = .ok (.iload_n 2, 1) := by decide +kernel
theorem d_Law_get_5 : decode method_6_code 5 = .ok (.invokevirtual 27, 3) := by decide +kernel
theorem d_Law_get_8 : decode method_6_code 8 = .ok (.i2l, 1) := by decide +kernel
theorem d_Law_get_9 : decode method_6_code 9 = .ok (.lastore, 1) := by decide +kernel
theorem d_Law_get_10 : decode method_6_code 10 = .ok (.goto 7, 3) := by decide +kernel
theorem d_Law_get_13 : decode method_6_code 13 = .ok (.astore 4, 2) := by decide +kernel
theorem d_Law_get_15 : decode method_6_code 15 = .ok (.iconst 1, 1) := by decide +kernel
theorem d_Law_get_16 : decode method_6_code 16 = .ok (.ireturn, 1) := by decide +kernel
theorem d_Law_get_17 : decode method_6_code 17 = .ok (.iconst 0, 1) := by decide +kernel
theorem d_Law_get_18 : decode method_6_code 18 = .ok (.ireturn, 1) := by decide +kernel
theorem d_Law_batch_0 : decode method_7_code 0 = .ok (.aload_n 3, 1) := by decide +kernel
theorem d_Law_batch_1 : decode method_7_code 1 = .ok (.iconst 0, 1) := by decide +kernel
theorem d_Law_batch_2 : decode method_7_code 2 = .ok (.aload_n 0, 1) := by decide +kernel
theorem d_Law_batch_3 : decode method_7_code 3 = .ok (.iload_n 1, 1) := by decide +kernel
theorem d_Law_batch_4 : decode method_7_code 4 = .ok (.iload_n 2, 1) := by decide +kernel
theorem d_Law_batch_5 : decode method_7_code 5 = .ok (.invokevirtual 30, 3) := by decide +kernel
theorem d_Law_batch_8 : decode method_7_code 8 = .ok (.i2l, 1) := by decide +kernel
theorem d_Law_batch_9 : decode method_7_code 9 = .ok (.lastore, 1) := by decide +kernel
theorem d_Law_batch_10 : decode method_7_code 10 = .ok (.goto 7, 3) := by decide +kernel
theorem d_Law_batch_13 : decode method_7_code 13 = .ok (.astore 4, 2) := by decide +kernel
theorem d_Law_batch_15 : decode method_7_code 15 = .ok (.iconst 1, 1) := by decide +kernel
theorem d_Law_batch_16 : decode method_7_code 16 = .ok (.ireturn, 1) := by decide +kernel
theorem d_Law_batch_17 : decode method_7_code 17 = .ok (.iconst 0, 1) := by decide +kernel
theorem d_Law_batch_18 : decode method_7_code 18 = .ok (.ireturn, 1) := by decide +kernel
theorem d_Law_seal_0 : decode method_8_code 0 = .ok (.aload_n 3, 1) := by decide +kernel
theorem d_Law_seal_1 : decode method_8_code 1 = .ok (.iconst 0, 1) := by decide +kernel
theorem d_Law_seal_2 : decode method_8_code 2 = .ok (.aload_n 0, 1) := by decide +kernel
theorem d_Law_seal_3 : decode method_8_code 3 = .ok (.iload_n 1, 1) := by decide +kernel
theorem d_Law_seal_4 : decode method_8_code 4 = .ok (.iload_n 2, 1) := by decide +kernel
theorem d_Law_seal_5 : decode method_8_code 5 = .ok (.invokevirtual 34, 3) := by decide +kernel
theorem d_Law_seal_8 : decode method_8_code 8 = .ok (.i2l, 1) := by decide +kernel
theorem d_Law_seal_9 : decode method_8_code 9 = .ok (.lastore, 1) := by decide +kernel
theorem d_Law_seal_10 : decode method_8_code 10 = .ok (.goto 11, 3) := by decide +kernel
theorem d_Law_seal_13 : decode method_8_code 13 = .ok (.astore 4, 2) := by decide +kernel
theorem d_Law_seal_15 : decode method_8_code 15 = .ok (.iconst 1, 1) := by decide +kernel
theorem d_Law_seal_16 : decode method_8_code 16 = .ok (.ireturn, 1) := by decide +kernel
theorem d_Law_seal_17 : decode method_8_code 17 = .ok (.astore 4, 2) := by decide +kernel
theorem d_Law_seal_19 : decode method_8_code 19 = .ok (.iconst 2, 1) := by decide +kernel
theorem d_Law_seal_20 : decode method_8_code 20 = .ok (.ireturn, 1) := by decide +kernel
theorem d_Law_seal_21 : decode method_8_code 21 = .ok (.iconst 0, 1) := by decide +kernel
theorem d_Law_seal_22 : decode method_8_code 22 = .ok (.ireturn, 1) := by decide +kernel
theorem d_Law_open_0 : decode method_9_code 0 = .ok (.aload_n 3, 1) := by decide +kernel
theorem d_Law_open_1 : decode method_9_code 1 = .ok (.iconst 0, 1) := by decide +kernel
theorem d_Law_open_2 : decode method_9_code 2 = .ok (.aload_n 0, 1) := by decide +kernel
theorem d_Law_open_3 : decode method_9_code 3 = .ok (.iload_n 1, 1) := by decide +kernel
theorem d_Law_open_4 : decode method_9_code 4 = .ok (.iload_n 2, 1) := by decide +kernel
theorem d_Law_open_5 : decode method_9_code 5 = .ok (.invokevirtual 37, 3) := by decide +kernel
theorem d_Law_open_8 : decode method_9_code 8 = .ok (.i2l, 1) := by decide +kernel
theorem d_Law_open_9 : decode method_9_code 9 = .ok (.lastore, 1) := by decide +kernel
theorem d_Law_open_10 : decode method_9_code 10 = .ok (.goto 7, 3) := by decide +kernel
theorem d_Law_open_13 : decode method_9_code 13 = .ok (.astore 4, 2) := by decide +kernel
theorem d_Law_open_15 : decode method_9_code 15 = .ok (.iconst 1, 1) := by decide +kernel
theorem d_Law_open_16 : decode method_9_code 16 = .ok (.ireturn, 1) := by decide +kernel
theorem d_Law_open_17 : decode method_9_code 17 = .ok (.iconst 0, 1) := by decide +kernel
theorem d_Law_open_18 : decode method_9_code 18 = .ok (.ireturn, 1) := by decide +kernel
theorem d_Law_join_0 : decode method_10_code 0 = .ok (.aload 5, 2) := by decide +kernel
theorem d_Law_join_2 : decode method_10_code 2 = .ok (.iconst 0, 1) := by decide +kernel
theorem d_Law_join_3 : decode method_10_code 3 = .ok (.aload_n 0, 1) := by decide +kernel
theorem d_Law_join_4 : decode method_10_code 4 = .ok (.iload_n 1, 1) := by decide +kernel
theorem d_Law_join_5 : decode method_10_code 5 = .ok (.iload_n 2, 1) := by decide +kernel
theorem d_Law_join_6 : decode method_10_code 6 = .ok (.iload_n 3, 1) := by decide +kernel
theorem d_Law_join_7 : decode method_10_code 7 = .ok (.iload 4, 2) := by decide +kernel
theorem d_Law_join_9 : decode method_10_code 9 = .ok (.invokevirtual 40, 3) := by decide +kernel
theorem d_Law_join_12 : decode method_10_code 12 = .ok (.i2l, 1) := by decide +kernel
theorem d_Law_join_13 : decode method_10_code 13 = .ok (.lastore, 1) := by decide +kernel
theorem d_Law_join_14 : decode method_10_code 14 = .ok (.goto 15, 3) := by decide +kernel
theorem d_Law_join_17 : decode method_10_code 17 = .ok (.astore 6, 2) := by decide +kernel
theorem d_Law_join_19 : decode method_10_code 19 = .ok (.iconst 1, 1) := by decide +kernel
theorem d_Law_join_20 : decode method_10_code 20 = .ok (.ireturn, 1) := by decide +kernel
theorem d_Law_join_21 : decode method_10_code 21 = .ok (.astore 6, 2) := by decide +kernel
theorem d_Law_join_23 : decode method_10_code 23 = .ok (.iconst 2, 1) := by decide +kernel
theorem d_Law_join_24 : decode method_10_code 24 = .ok (.ireturn, 1) := by decide +kernel
theorem d_Law_join_25 : decode method_10_code 25 = .ok (.astore 6, 2) := by decide +kernel
theorem d_Law_join_27 : decode method_10_code 27 = .ok (.iconst 3, 1) := by decide +kernel
theorem d_Law_join_28 : decode method_10_code 28 = .ok (.ireturn, 1) := by decide +kernel
theorem d_Law_join_29 : decode method_10_code 29 = .ok (.iconst 0, 1) := by decide +kernel
theorem d_Law_join_30 : decode method_10_code 30 = .ok (.ireturn, 1) := by decide +kernel
theorem d_Law_plain_0 : decode method_11_code 0 = .ok (.aload 5, 2) := by decide +kernel
theorem d_Law_plain_2 : decode method_11_code 2 = .ok (.iconst 0, 1) := by decide +kernel
theorem d_Law_plain_3 : decode method_11_code 3 = .ok (.aload_n 0, 1) := by decide +kernel
theorem d_Law_plain_4 : decode method_11_code 4 = .ok (.iload_n 1, 1) := by decide +kernel
theorem d_Law_plain_5 : decode method_11_code 5 = .ok (.iload_n 2, 1) := by decide +kernel
theorem d_Law_plain_6 : decode method_11_code 6 = .ok (.iload_n 3, 1) := by decide +kernel
theorem d_Law_plain_7 : decode method_11_code 7 = .ok (.iload 4, 2) := by decide +kernel
theorem d_Law_plain_9 : decode method_11_code 9 = .ok (.invokevirtual 44, 3) := by decide +kernel
theorem d_Law_plain_12 : decode method_11_code 12 = .ok (.i2l, 1) := by decide +kernel
theorem d_Law_plain_13 : decode method_11_code 13 = .ok (.lastore, 1) := by decide +kernel
theorem d_Law_plain_14 : decode method_11_code 14 = .ok (.goto 11, 3) := by decide +kernel
theorem d_Law_plain_17 : decode method_11_code 17 = .ok (.astore 6, 2) := by decide +kernel
theorem d_Law_plain_19 : decode method_11_code 19 = .ok (.iconst 1, 1) := by decide +kernel
theorem d_Law_plain_20 : decode method_11_code 20 = .ok (.ireturn, 1) := by decide +kernel
theorem d_Law_plain_21 : decode method_11_code 21 = .ok (.astore 6, 2) := by decide +kernel
theorem d_Law_plain_23 : decode method_11_code 23 = .ok (.iconst 2, 1) := by decide +kernel
theorem d_Law_plain_24 : decode method_11_code 24 = .ok (.ireturn, 1) := by decide +kernel
theorem d_Law_plain_25 : decode method_11_code 25 = .ok (.iconst 0, 1) := by decide +kernel
theorem d_Law_plain_26 : decode method_11_code 26 = .ok (.ireturn, 1) := by decide +kernel
theorem d_Law_shrink_0 : decode method_12_code 0 = .ok (.aload_n 3, 1) := by decide +kernel
theorem d_Law_shrink_1 : decode method_12_code 1 = .ok (.iconst 0, 1) := by decide +kernel
theorem d_Law_shrink_2 : decode method_12_code 2 = .ok (.aload_n 0, 1) := by decide +kernel
theorem d_Law_shrink_3 : decode method_12_code 3 = .ok (.iload_n 1, 1) := by decide +kernel
theorem d_Law_shrink_4 : decode method_12_code 4 = .ok (.iload_n 2, 1) := by decide +kernel
theorem d_Law_shrink_5 : decode method_12_code 5 = .ok (.invokevirtual 47, 3) := by decide +kernel
theorem d_Law_shrink_8 : decode method_12_code 8 = .ok (.i2l, 1) := by decide +kernel
theorem d_Law_shrink_9 : decode method_12_code 9 = .ok (.lastore, 1) := by decide +kernel
theorem d_Law_shrink_10 : decode method_12_code 10 = .ok (.goto 11, 3) := by decide +kernel
theorem d_Law_shrink_13 : decode method_12_code 13 = .ok (.astore 4, 2) := by decide +kernel
theorem d_Law_shrink_15 : decode method_12_code 15 = .ok (.iconst 1, 1) := by decide +kernel
theorem d_Law_shrink_16 : decode method_12_code 16 = .ok (.ireturn, 1) := by decide +kernel
theorem d_Law_shrink_17 : decode method_12_code 17 = .ok (.astore 4, 2) := by decide +kernel
theorem d_Law_shrink_19 : decode method_12_code 19 = .ok (.iconst 2, 1) := by decide +kernel
theorem d_Law_shrink_20 : decode method_12_code 20 = .ok (.ireturn, 1) := by decide +kernel
theorem d_Law_shrink_21 : decode method_12_code 21 = .ok (.iconst 0, 1) := by decide +kernel
theorem d_Law_shrink_22 : decode method_12_code 22 = .ok (.ireturn, 1) := by decide +kernel
theorem d_Law_turn_0 : decode method_13_code 0 = .ok (.aload 4, 2) := by decide +kernel
theorem d_Law_turn_2 : decode method_13_code 2 = .ok (.iconst 0, 1) := by decide +kernel
theorem d_Law_turn_3 : decode method_13_code 3 = .ok (.aload_n 0, 1) := by decide +kernel
theorem d_Law_turn_4 : decode method_13_code 4 = .ok (.iload_n 1, 1) := by decide +kernel
theorem d_Law_turn_5 : decode method_13_code 5 = .ok (.iload_n 2, 1) := by decide +kernel
theorem d_Law_turn_6 : decode method_13_code 6 = .ok (.iload_n 3, 1) := by decide +kernel
theorem d_Law_turn_7 : decode method_13_code 7 = .ok (.invokevirtual 50, 3) := by decide +kernel
theorem d_Law_turn_10 : decode method_13_code 10 = .ok (.i2l, 1) := by decide +kernel
theorem d_Law_turn_11 : decode method_13_code 11 = .ok (.lastore, 1) := by decide +kernel
theorem d_Law_turn_12 : decode method_13_code 12 = .ok (.goto 11, 3) := by decide +kernel
theorem d_Law_turn_15 : decode method_13_code 15 = .ok (.astore 5, 2) := by decide +kernel
theorem d_Law_turn_17 : decode method_13_code 17 = .ok (.iconst 1, 1) := by decide +kernel
theorem d_Law_turn_18 : decode method_13_code 18 = .ok (.ireturn, 1) := by decide +kernel
theorem d_Law_turn_19 : decode method_13_code 19 = .ok (.astore 5, 2) := by decide +kernel
theorem d_Law_turn_21 : decode method_13_code 21 = .ok (.iconst 2, 1) := by decide +kernel
theorem d_Law_turn_22 : decode method_13_code 22 = .ok (.ireturn, 1) := by decide +kernel
theorem d_Law_turn_23 : decode method_13_code 23 = .ok (.iconst 0, 1) := by decide +kernel
theorem d_Law_turn_24 : decode method_13_code 24 = .ok (.ireturn, 1) := by decide +kernel
theorem d_Law_part_0 : decode method_14_code 0 = .ok (.aload 4, 2) := by decide +kernel
theorem d_Law_part_2 : decode method_14_code 2 = .ok (.iconst 0, 1) := by decide +kernel
theorem d_Law_part_3 : decode method_14_code 3 = .ok (.aload_n 0, 1) := by decide +kernel
theorem d_Law_part_4 : decode method_14_code 4 = .ok (.iload_n 1, 1) := by decide +kernel
theorem d_Law_part_5 : decode method_14_code 5 = .ok (.iload_n 2, 1) := by decide +kernel
theorem d_Law_part_6 : decode method_14_code 6 = .ok (.iload_n 3, 1) := by decide +kernel
theorem d_Law_part_7 : decode method_14_code 7 = .ok (.invokevirtual 53, 3) := by decide +kernel
theorem d_Law_part_10 : decode method_14_code 10 = .ok (.i2l, 1) := by decide +kernel
theorem d_Law_part_11 : decode method_14_code 11 = .ok (.lastore, 1) := by decide +kernel
theorem d_Law_part_12 : decode method_14_code 12 = .ok (.goto 7, 3) := by decide +kernel
theorem d_Law_part_15 : decode method_14_code 15 = .ok (.astore 5, 2) := by decide +kernel
theorem d_Law_part_17 : decode method_14_code 17 = .ok (.iconst 1, 1) := by decide +kernel
theorem d_Law_part_18 : decode method_14_code 18 = .ok (.ireturn, 1) := by decide +kernel
theorem d_Law_part_19 : decode method_14_code 19 = .ok (.iconst 0, 1) := by decide +kernel
theorem d_Law_part_20 : decode method_14_code 20 = .ok (.ireturn, 1) := by decide +kernel
theorem d_Law_about_0 : decode method_15_code 0 = .ok (.aload_n 3, 1) := by decide +kernel
theorem d_Law_about_1 : decode method_15_code 1 = .ok (.iconst 0, 1) := by decide +kernel
theorem d_Law_about_2 : decode method_15_code 2 = .ok (.aload_n 0, 1) := by decide +kernel
theorem d_Law_about_3 : decode method_15_code 3 = .ok (.iload_n 1, 1) := by decide +kernel
theorem d_Law_about_4 : decode method_15_code 4 = .ok (.iload_n 2, 1) := by decide +kernel
theorem d_Law_about_5 : decode method_15_code 5 = .ok (.invokevirtual 56, 3) := by decide +kernel
theorem d_Law_about_8 : decode method_15_code 8 = .ok (.i2l, 1) := by decide +kernel
theorem d_Law_about_9 : decode method_15_code 9 = .ok (.lastore, 1) := by decide +kernel
theorem d_Law_about_10 : decode method_15_code 10 = .ok (.goto 11, 3) := by decide +kernel
theorem d_Law_about_13 : decode method_15_code 13 = .ok (.astore 4, 2) := by decide +kernel
theorem d_Law_about_15 : decode method_15_code 15 = .ok (.iconst 1, 1) := by decide +kernel
theorem d_Law_about_16 : decode method_15_code 16 = .ok (.ireturn, 1) := by decide +kernel
theorem d_Law_about_17 : decode method_15_code 17 = .ok (.astore 4, 2) := by decide +kernel
theorem d_Law_about_19 : decode method_15_code 19 = .ok (.iconst 2, 1) := by decide +kernel
theorem d_Law_about_20 : decode method_15_code 20 = .ok (.ireturn, 1) := by decide +kernel
theorem d_Law_about_21 : decode method_15_code 21 = .ok (.iconst 0, 1) := by decide +kernel
theorem d_Law_about_22 : decode method_15_code 22 = .ok (.ireturn, 1) := by decide +kernel
theorem d_Law_drop_0 : decode method_16_code 0 = .ok (.aload_n 2, 1) := by decide +kernel
theorem d_Law_drop_1 : decode method_16_code 1 = .ok (.iconst 0, 1) := by decide +kernel
theorem d_Law_drop_2 : decode method_16_code 2 = .ok (.aload_n 0, 1) := by decide +kernel
theorem d_Law_drop_3 : decode method_16_code 3 = .ok (.iload_n 1, 1) := by decide +kernel
theorem d_Law_drop_4 : decode method_16_code 4 = .ok (.invokevirtual 59, 3) := by decide +kernel
theorem d_Law_drop_7 : decode method_16_code 7 = .ok (.i2l, 1) := by decide +kernel
theorem d_Law_drop_8 : decode method_16_code 8 = .ok (.lastore, 1) := by decide +kernel
theorem d_Law_drop_9 : decode method_16_code 9 = .ok (.goto 6, 3) := by decide +kernel
theorem d_Law_drop_12 : decode method_16_code 12 = .ok (.astore_n 3, 1) := by decide +kernel
theorem d_Law_drop_13 : decode method_16_code 13 = .ok (.iconst 1, 1) := by decide +kernel
theorem d_Law_drop_14 : decode method_16_code 14 = .ok (.ireturn, 1) := by decide +kernel
theorem d_Law_drop_15 : decode method_16_code 15 = .ok (.iconst 0, 1) := by decide +kernel
theorem d_Law_drop_16 : decode method_16_code 16 = .ok (.ireturn, 1) := by decide +kernel

abbrev M_law : zM := (x, code, 7, ret, [])
theorem d_law_0 : decode code 0 = .ok (.new 8, 3) := by decide +kernel
theorem d_law_3 : decode code 3 = .ok (.dup, 1) := by decide +kernel
theorem d_law_4 : decode code 4 = .ok (.invokespecial 62, 3) := by decide +kernel
theorem d_law_7 : decode code 7 = .ok (.astore_n 1, 1) := by decide +kernel
theorem d_law_8 : decode code 8 = .ok (.new 63, 3) := by decide +kernel
theorem d_law_11 : decode code 11 = .ok (.dup, 1) := by decide +kernel
theorem d_law_12 : decode code 12 = .ok (.invokespecial 65, 3) := by decide +kernel
theorem d_law_15 : decode code 15 = .ok (.astore_n 2, 1) := by decide +kernel
theorem d_law_16 : decode code 16 = .ok (.iconst 1, 1) := by decide +kernel
theorem d_law_17 : decode code 17 = .ok (.newarray .long, 2) := by decide +kernel
theorem d_law_19 : decode code 19 = .ok (.astore_n 3, 1) := by decide +kernel
theorem d_law_20 : decode code 20 = .ok (.iconst 0, 1) := by decide +kernel
theorem d_law_21 : decode code 21 = .ok (.istore 4, 2) := by decide +kernel
theorem d_law_23 : decode code 23 = .ok (.iload 4, 2) := by decide +kernel
theorem d_law_25 : decode code 25 = .ok (.aload_n 0, 1) := by decide +kernel
theorem d_law_26 : decode code 26 = .ok (.arraylength, 1) := by decide +kernel
theorem d_law_27 : decode code 27 = .ok (.iconst 5, 1) := by decide +kernel
theorem d_law_28 : decode code 28 = .ok (.isub, 1) := by decide +kernel
theorem d_law_29 : decode code 29 = .ok (.if_icmp .gt 1159, 3) := by decide +kernel
theorem d_law_32 : decode code 32 = .ok (.aload_n 0, 1) := by decide +kernel
theorem d_law_33 : decode code 33 = .ok (.iload 4, 2) := by decide +kernel
theorem d_law_35 : decode code 35 = .ok (.iaload, 1) := by decide +kernel
theorem d_law_36 : decode code 36 = .ok (.bipush 15, 2) := by decide +kernel
theorem d_law_38 : decode code 38 = .ok (.iand, 1) := by decide +kernel
theorem d_law_39 : decode code 39 = .ok (.tableswitch 1143 0 15 #[77, 145, 158, 214, 294, 362, 446, 514, 582, 674, 766, 834, 914, 994, 1062, 1118], 77) := by decide +kernel
theorem d_law_116 : decode code 116 = .ok (.aload_n 1, 1) := by decide +kernel
theorem d_law_117 : decode code 117 = .ok (.aload_n 0, 1) := by decide +kernel
theorem d_law_118 : decode code 118 = .ok (.iload 4, 2) := by decide +kernel
theorem d_law_120 : decode code 120 = .ok (.iconst 1, 1) := by decide +kernel
theorem d_law_121 : decode code 121 = .ok (.iadd, 1) := by decide +kernel
theorem d_law_122 : decode code 122 = .ok (.iaload, 1) := by decide +kernel
theorem d_law_123 : decode code 123 = .ok (.aload_n 0, 1) := by decide +kernel
theorem d_law_124 : decode code 124 = .ok (.iload 4, 2) := by decide +kernel
theorem d_law_126 : decode code 126 = .ok (.iconst 2, 1) := by decide +kernel
theorem d_law_127 : decode code 127 = .ok (.iadd, 1) := by decide +kernel
theorem d_law_128 : decode code 128 = .ok (.iaload, 1) := by decide +kernel
theorem d_law_129 : decode code 129 = .ok (.aload_n 3, 1) := by decide +kernel
theorem d_law_130 : decode code 130 = .ok (.invokestatic 66, 3) := by decide +kernel
theorem d_law_133 : decode code 133 = .ok (.istore 5, 2) := by decide +kernel
theorem d_law_135 : decode code 135 = .ok (.aload_n 2, 1) := by decide +kernel
theorem d_law_136 : decode code 136 = .ok (.aload_n 0, 1) := by decide +kernel
theorem d_law_137 : decode code 137 = .ok (.iload 4, 2) := by decide +kernel
theorem d_law_139 : decode code 139 = .ok (.iconst 1, 1) := by decide +kernel
theorem d_law_140 : decode code 140 = .ok (.iadd, 1) := by decide +kernel
theorem d_law_141 : decode code 141 = .ok (.iaload, 1) := by decide +kernel
theorem d_law_142 : decode code 142 = .ok (.aload_n 0, 1) := by decide +kernel
theorem d_law_143 : decode code 143 = .ok (.iload 4, 2) := by decide +kernel
theorem d_law_145 : decode code 145 = .ok (.iconst 2, 1) := by decide +kernel
theorem d_law_146 : decode code 146 = .ok (.iadd, 1) := by decide +kernel
theorem d_law_147 : decode code 147 = .ok (.iaload, 1) := by decide +kernel
theorem d_law_148 : decode code 148 = .ok (.invokevirtual 71, 3) := by decide +kernel
theorem d_law_151 : decode code 151 = .ok (.istore 6, 2) := by decide +kernel
theorem d_law_153 : decode code 153 = .ok (.aload_n 2, 1) := by decide +kernel
theorem d_law_154 : decode code 154 = .ok (.invokevirtual 72, 3) := by decide +kernel
theorem d_law_157 : decode code 157 = .ok (.iload 5, 2) := by decide +kernel
theorem d_law_159 : decode code 159 = .ok (.if_icmp .eq 5, 3) := by decide +kernel
theorem d_law_162 : decode code 162 = .ok (.iconst 0, 1) := by decide +kernel
theorem d_law_163 : decode code 163 = .ok (.ireturn, 1) := by decide +kernel
theorem d_law_164 : decode code 164 = .ok (.iload 5, 2) := by decide +kernel
theorem d_law_166 : decode code 166 = .ok (.ifCond .ne 15, 3) := by decide +kernel
theorem d_law_169 : decode code 169 = .ok (.aload_n 3, 1) := by decide +kernel
theorem d_law_170 : decode code 170 = .ok (.iconst 0, 1) := by decide +kernel
theorem d_law_171 : decode code 171 = .ok (.laload, 1) := by decide +kernel
theorem d_law_172 : decode code 172 = .ok (.iload 6, 2) := by decide +kernel
theorem d_law_174 : decode code 174 = .ok (.i2l, 1) := by decide +kernel
theorem d_law_175 : decode code 175 = .ok (.lcmp, 1) := by decide +kernel
theorem d_law_176 : decode code 176 = .ok (.ifCond .eq 5, 3) := by decide +kernel
theorem d_law_179 : decode code 179 = .ok (.iconst 0, 1) := by decide +kernel
theorem d_law_180 : decode code 180 = .ok (.ireturn, 1) := by decide +kernel
theorem d_law_181 : decode code 181 = .ok (.goto 1001, 3) := by decide +kernel
theorem d_law_184 : decode code 184 = .ok (.aload_n 1, 1) := by decide +kernel
theorem d_law_185 : decode code 185 = .ok (.invokevirtual 76, 3) := by decide +kernel
theorem d_law_188 : decode code 188 = .ok (.aload_n 2, 1) := by decide +kernel
theorem d_law_189 : decode code 189 = .ok (.invokevirtual 79, 3) := by decide +kernel
theorem d_law_192 : decode code 192 = .ok (.if_icmp .eq 990, 3) := by decide +kernel
theorem d_law_195 : decode code 195 = .ok (.iconst 0, 1) := by decide +kernel
theorem d_law_196 : decode code 196 = .ok (.ireturn, 1) := by decide +kernel
theorem d_law_197 : decode code 197 = .ok (.aload_n 1, 1) := by decide +kernel
theorem d_law_198 : decode code 198 = .ok (.aload_n 0, 1) := by decide +kernel
theorem d_law_199 : decode code 199 = .ok (.iload 4, 2) := by decide +kernel
theorem d_law_201 : decode code 201 = .ok (.iconst 1, 1) := by decide +kernel
theorem d_law_202 : decode code 202 = .ok (.iadd, 1) := by decide +kernel
theorem d_law_203 : decode code 203 = .ok (.iaload, 1) := by decide +kernel
theorem d_law_204 : decode code 204 = .ok (.aload_n 3, 1) := by decide +kernel
theorem d_law_205 : decode code 205 = .ok (.invokestatic 80, 3) := by decide +kernel
theorem d_law_208 : decode code 208 = .ok (.istore 5, 2) := by decide +kernel
theorem d_law_210 : decode code 210 = .ok (.aload_n 2, 1) := by decide +kernel
theorem d_law_211 : decode code 211 = .ok (.aload_n 0, 1) := by decide +kernel
theorem d_law_212 : decode code 212 = .ok (.iload 4, 2) := by decide +kernel
theorem d_law_214 : decode code 214 = .ok (.iconst 1, 1) := by decide +kernel
theorem d_law_215 : decode code 215 = .ok (.iadd, 1) := by decide +kernel
theorem d_law_216 : decode code 216 = .ok (.iaload, 1) := by decide +kernel
theorem d_law_217 : decode code 217 = .ok (.invokevirtual 83, 3) := by decide +kernel
theorem d_law_220 : decode code 220 = .ok (.istore 6, 2) := by decide +kernel
theorem d_law_222 : decode code 222 = .ok (.aload_n 2, 1) := by decide +kernel
theorem d_law_223 : decode code 223 = .ok (.invokevirtual 72, 3) := by decide +kernel
theorem d_law_226 : decode code 226 = .ok (.iload 5, 2) := by decide +kernel
theorem d_law_228 : decode code 228 = .ok (.if_icmp .eq 5, 3) := by decide +kernel
theorem d_law_231 : decode code 231 = .ok (.iconst 0, 1) := by decide +kernel
theorem d_law_232 : decode code 232 = .ok (.ireturn, 1) := by decide +kernel
theorem d_law_233 : decode code 233 = .ok (.iload 5, 2) := by decide +kernel
theorem d_law_235 : decode code 235 = .ok (.ifCond .ne 15, 3) := by decide +kernel
theorem d_law_238 : decode code 238 = .ok (.aload_n 3, 1) := by decide +kernel
theorem d_law_239 : decode code 239 = .ok (.iconst 0, 1) := by decide +kernel
theorem d_law_240 : decode code 240 = .ok (.laload, 1) := by decide +kernel
theorem d_law_241 : decode code 241 = .ok (.iload 6, 2) := by decide +kernel
theorem d_law_243 : decode code 243 = .ok (.i2l, 1) := by decide +kernel
theorem d_law_244 : decode code 244 = .ok (.lcmp, 1) := by decide +kernel
theorem d_law_245 : decode code 245 = .ok (.ifCond .eq 5, 3) := by decide +kernel
theorem d_law_248 : decode code 248 = .ok (.iconst 0, 1) := by decide +kernel
theorem d_law_249 : decode code 249 = .ok (.ireturn, 1) := by decide +kernel
theorem d_law_250 : decode code 250 = .ok (.goto 932, 3) := by decide +kernel
theorem d_law_253 : decode code 253 = .ok (.aload_n 1, 1) := by decide +kernel
theorem d_law_254 : decode code 254 = .ok (.aload_n 0, 1) := by decide +kernel
theorem d_law_255 : decode code 255 = .ok (.iload 4, 2) := by decide +kernel
theorem d_law_257 : decode code 257 = .ok (.iconst 1, 1) := by decide +kernel
theorem d_law_258 : decode code 258 = .ok (.iadd, 1) := by decide +kernel
theorem d_law_259 : decode code 259 = .ok (.iaload, 1) := by decide +kernel
theorem d_law_260 : decode code 260 = .ok (.aload_n 0, 1) := by decide +kernel
theorem d_law_261 : decode code 261 = .ok (.iload 4, 2) := by decide +kernel
theorem d_law_263 : decode code 263 = .ok (.iconst 2, 1) := by decide +kernel
theorem d_law_264 : decode code 264 = .ok (.iadd, 1) := by decide +kernel
theorem d_law_265 : decode code 265 = .ok (.iaload, 1) := by decide +kernel
theorem d_law_266 : decode code 266 = .ok (.aload_n 0, 1) := by decide +kernel
theorem d_law_267 : decode code 267 = .ok (.iload 4, 2) := by decide +kernel
theorem d_law_269 : decode code 269 = .ok (.iconst 3, 1) := by decide +kernel
theorem d_law_270 : decode code 270 = .ok (.iadd, 1) := by decide +kernel
theorem d_law_271 : decode code 271 = .ok (.iaload, 1) := by decide +kernel
theorem d_law_272 : decode code 272 = .ok (.aload_n 3, 1) := by decide +kernel
theorem d_law_273 : decode code 273 = .ok (.invokestatic 84, 3) := by decide +kernel
theorem d_law_276 : decode code 276 = .ok (.istore 5, 2) := by decide +kernel
theorem d_law_278 : decode code 278 = .ok (.aload_n 2, 1) := by decide +kernel
theorem d_law_279 : decode code 279 = .ok (.aload_n 0, 1) := by decide +kernel
theorem d_law_280 : decode code 280 = .ok (.iload 4, 2) := by decide +kernel
theorem d_law_282 : decode code 282 = .ok (.iconst 1, 1) := by decide +kernel
theorem d_law_283 : decode code 283 = .ok (.iadd, 1) := by decide +kernel
theorem d_law_284 : decode code 284 = .ok (.iaload, 1) := by decide +kernel
theorem d_law_285 : decode code 285 = .ok (.aload_n 0, 1) := by decide +kernel
theorem d_law_286 : decode code 286 = .ok (.iload 4, 2) := by decide +kernel
theorem d_law_288 : decode code 288 = .ok (.iconst 2, 1) := by decide +kernel
theorem d_law_289 : decode code 289 = .ok (.iadd, 1) := by decide +kernel
theorem d_law_290 : decode code 290 = .ok (.iaload, 1) := by decide +kernel
theorem d_law_291 : decode code 291 = .ok (.aload_n 0, 1) := by decide +kernel
theorem d_law_292 : decode code 292 = .ok (.iload 4, 2) := by decide +kernel
theorem d_law_294 : decode code 294 = .ok (.iconst 3, 1) := by decide +kernel
theorem d_law_295 : decode code 295 = .ok (.iadd, 1) := by decide +kernel
theorem d_law_296 : decode code 296 = .ok (.iaload, 1) := by decide +kernel
theorem d_law_297 : decode code 297 = .ok (.invokevirtual 87, 3) := by decide +kernel
theorem d_law_300 : decode code 300 = .ok (.istore 6, 2) := by decide +kernel
theorem d_law_302 : decode code 302 = .ok (.aload_n 2, 1) := by decide +kernel
theorem d_law_303 : decode code 303 = .ok (.invokevirtual 72, 3) := by decide +kernel
theorem d_law_306 : decode code 306 = .ok (.iload 5, 2) := by decide +kernel
theorem d_law_308 : decode code 308 = .ok (.if_icmp .eq 5, 3) := by decide +kernel
theorem d_law_311 : decode code 311 = .ok (.iconst 0, 1) := by decide +kernel
theorem d_law_312 : decode code 312 = .ok (.ireturn, 1) := by decide +kernel
theorem d_law_313 : decode code 313 = .ok (.iload 5, 2) := by decide +kernel
theorem d_law_315 : decode code 315 = .ok (.ifCond .ne 15, 3) := by decide +kernel
theorem d_law_318 : decode code 318 = .ok (.aload_n 3, 1) := by decide +kernel
theorem d_law_319 : decode code 319 = .ok (.iconst 0, 1) := by decide +kernel
theorem d_law_320 : decode code 320 = .ok (.laload, 1) := by decide +kernel
theorem d_law_321 : decode code 321 = .ok (.iload 6, 2) := by decide +kernel
theorem d_law_323 : decode code 323 = .ok (.i2l, 1) := by decide +kernel
theorem d_law_324 : decode code 324 = .ok (.lcmp, 1) := by decide +kernel
theorem d_law_325 : decode code 325 = .ok (.ifCond .eq 5, 3) := by decide +kernel
theorem d_law_328 : decode code 328 = .ok (.iconst 0, 1) := by decide +kernel
theorem d_law_329 : decode code 329 = .ok (.ireturn, 1) := by decide +kernel
theorem d_law_330 : decode code 330 = .ok (.goto 852, 3) := by decide +kernel
theorem d_law_333 : decode code 333 = .ok (.aload_n 1, 1) := by decide +kernel
theorem d_law_334 : decode code 334 = .ok (.aload_n 0, 1) := by decide +kernel
theorem d_law_335 : decode code 335 = .ok (.iload 4, 2) := by decide +kernel
theorem d_law_337 : decode code 337 = .ok (.iconst 1, 1) := by decide +kernel
theorem d_law_338 : decode code 338 = .ok (.iadd, 1) := by decide +kernel
theorem d_law_339 : decode code 339 = .ok (.iaload, 1) := by decide +kernel
theorem d_law_340 : decode code 340 = .ok (.aload_n 0, 1) := by decide +kernel
theorem d_law_341 : decode code 341 = .ok (.iload 4, 2) := by decide +kernel
theorem d_law_343 : decode code 343 = .ok (.iconst 2, 1) := by decide +kernel
theorem d_law_344 : decode code 344 = .ok (.iadd, 1) := by decide +kernel
theorem d_law_345 : decode code 345 = .ok (.iaload, 1) := by decide +kernel
theorem d_law_346 : decode code 346 = .ok (.aload_n 3, 1) := by decide +kernel
theorem d_law_347 : decode code 347 = .ok (.invokestatic 88, 3) := by decide +kernel
theorem d_law_350 : decode code 350 = .ok (.istore 5, 2) := by decide +kernel
theorem d_law_352 : decode code 352 = .ok (.aload_n 2, 1) := by decide +kernel
theorem d_law_353 : decode code 353 = .ok (.aload_n 0, 1) := by decide +kernel
theorem d_law_354 : decode code 354 = .ok (.iload 4, 2) := by decide +kernel
theorem d_law_356 : decode code 356 = .ok (.iconst 1, 1) := by decide +kernel
theorem d_law_357 : decode code 357 = .ok (.iadd, 1) := by decide +kernel
theorem d_law_358 : decode code 358 = .ok (.iaload, 1) := by decide +kernel
theorem d_law_359 : decode code 359 = .ok (.aload_n 0, 1) := by decide +kernel
theorem d_law_360 : decode code 360 = .ok (.iload 4, 2) := by decide +kernel
theorem d_law_362 : decode code 362 = .ok (.iconst 2, 1) := by decide +kernel
theorem d_law_363 : decode code 363 = .ok (.iadd, 1) := by decide +kernel
theorem d_law_364 : decode code 364 = .ok (.iaload, 1) := by decide +kernel
theorem d_law_365 : decode code 365 = .ok (.invokevirtual 90, 3) := by decide +kernel
theorem d_law_368 : decode code 368 = .ok (.istore 6, 2) := by decide +kernel
theorem d_law_370 : decode code 370 = .ok (.aload_n 2, 1) := by decide +kernel
theorem d_law_371 : decode code 371 = .ok (.invokevirtual 72, 3) := by decide +kernel
theorem d_law_374 : decode code 374 = .ok (.iload 5, 2) := by decide +kernel
theorem d_law_376 : decode code 376 = .ok (.if_icmp .eq 5, 3) := by decide +kernel
theorem d_law_379 : decode code 379 = .ok (.iconst 0, 1) := by decide +kernel
theorem d_law_380 : decode code 380 = .ok (.ireturn, 1) := by decide +kernel
theorem d_law_381 : decode code 381 = .ok (.iload 5, 2) := by decide +kernel
theorem d_law_383 : decode code 383 = .ok (.ifCond .ne 15, 3) := by decide +kernel
theorem d_law_386 : decode code 386 = .ok (.aload_n 3, 1) := by decide +kernel
theorem d_law_387 : decode code 387 = .ok (.iconst 0, 1) := by decide +kernel
theorem d_law_388 : decode code 388 = .ok (.laload, 1) := by decide +kernel
theorem d_law_389 : decode code 389 = .ok (.iload 6, 2) := by decide +kernel
theorem d_law_391 : decode code 391 = .ok (.i2l, 1) := by decide +kernel
theorem d_law_392 : decode code 392 = .ok (.lcmp, 1) := by decide +kernel
theorem d_law_393 : decode code 393 = .ok (.ifCond .eq 5, 3) := by decide +kernel
theorem d_law_396 : decode code 396 = .ok (.iconst 0, 1) := by decide +kernel
theorem d_law_397 : decode code 397 = .ok (.ireturn, 1) := by decide +kernel
theorem d_law_398 : decode code 398 = .ok (.goto 784, 3) := by decide +kernel
theorem d_law_401 : decode code 401 = .ok (.aload_n 1, 1) := by decide +kernel
theorem d_law_402 : decode code 402 = .ok (.aload_n 0, 1) := by decide +kernel
theorem d_law_403 : decode code 403 = .ok (.iload 4, 2) := by decide +kernel
theorem d_law_405 : decode code 405 = .ok (.iconst 1, 1) := by decide +kernel
theorem d_law_406 : decode code 406 = .ok (.iadd, 1) := by decide +kernel
theorem d_law_407 : decode code 407 = .ok (.iaload, 1) := by decide +kernel
theorem d_law_408 : decode code 408 = .ok (.aload_n 0, 1) := by decide +kernel
theorem d_law_409 : decode code 409 = .ok (.iload 4, 2) := by decide +kernel
theorem d_law_411 : decode code 411 = .ok (.iconst 2, 1) := by decide +kernel
theorem d_law_412 : decode code 412 = .ok (.iadd, 1) := by decide +kernel
theorem d_law_413 : decode code 413 = .ok (.iaload, 1) := by decide +kernel
theorem d_law_414 : decode code 414 = .ok (.ifCond .eq 7, 3) := by decide +kernel
theorem d_law_417 : decode code 417 = .ok (.iconst 1, 1) := by decide +kernel
theorem d_law_418 : decode code 418 = .ok (.goto 4, 3) := by decide +kernel
theorem d_law_421 : decode code 421 = .ok (.iconst 0, 1) := by decide +kernel
theorem d_law_422 : decode code 422 = .ok (.aload_n 3, 1) := by decide +kernel
theorem d_law_423 : decode code 423 = .ok (.invokestatic 91, 3) := by decide +kernel
theorem d_law_426 : decode code 426 = .ok (.istore 5, 2) := by decide +kernel
theorem d_law_428 : decode code 428 = .ok (.aload_n 2, 1) := by decide +kernel
theorem d_law_429 : decode code 429 = .ok (.aload_n 0, 1) := by decide +kernel
theorem d_law_430 : decode code 430 = .ok (.iload 4, 2) := by decide +kernel
theorem d_law_432 : decode code 432 = .ok (.iconst 1, 1) := by decide +kernel
theorem d_law_433 : decode code 433 = .ok (.iadd, 1) := by decide +kernel
theorem d_law_434 : decode code 434 = .ok (.iaload, 1) := by decide +kernel
theorem d_law_435 : decode code 435 = .ok (.aload_n 0, 1) := by decide +kernel
theorem d_law_436 : decode code 436 = .ok (.iload 4, 2) := by decide +kernel
theorem d_law_438 : decode code 438 = .ok (.iconst 2, 1) := by decide +kernel
theorem d_law_439 : decode code 439 = .ok (.iadd, 1) := by decide +kernel
theorem d_law_440 : decode code 440 = .ok (.iaload, 1) := by decide +kernel
theorem d_law_441 : decode code 441 = .ok (.ifCond .eq 7, 3) := by decide +kernel
theorem d_law_444 : decode code 444 = .ok (.iconst 1, 1) := by decide +kernel
theorem d_law_445 : decode code 445 = .ok (.goto 4, 3) := by decide +kernel
theorem d_law_448 : decode code 448 = .ok (.iconst 0, 1) := by decide +kernel
theorem d_law_449 : decode code 449 = .ok (.invokevirtual 94, 3) := by decide +kernel
theorem d_law_452 : decode code 452 = .ok (.istore 6, 2) := by decide +kernel
theorem d_law_454 : decode code 454 = .ok (.aload_n 2, 1) := by decide +kernel
theorem d_law_455 : decode code 455 = .ok (.invokevirtual 72, 3) := by decide +kernel
theorem d_law_458 : decode code 458 = .ok (.iload 5, 2) := by decide +kernel
theorem d_law_460 : decode code 460 = .ok (.if_icmp .eq 5, 3) := by decide +kernel
theorem d_law_463 : decode code 463 = .ok (.iconst 0, 1) := by decide +kernel
theorem d_law_464 : decode code 464 = .ok (.ireturn, 1) := by decide +kernel
theorem d_law_465 : decode code 465 = .ok (.iload 5, 2) := by decide +kernel
theorem d_law_467 : decode code 467 = .ok (.ifCond .ne 15, 3) := by decide +kernel
theorem d_law_470 : decode code 470 = .ok (.aload_n 3, 1) := by decide +kernel
theorem d_law_471 : decode code 471 = .ok (.iconst 0, 1) := by decide +kernel
theorem d_law_472 : decode code 472 = .ok (.laload, 1) := by decide +kernel
theorem d_law_473 : decode code 473 = .ok (.iload 6, 2) := by decide +kernel
theorem d_law_475 : decode code 475 = .ok (.i2l, 1) := by decide +kernel
theorem d_law_476 : decode code 476 = .ok (.lcmp, 1) := by decide +kernel
theorem d_law_477 : decode code 477 = .ok (.ifCond .eq 5, 3) := by decide +kernel
theorem d_law_480 : decode code 480 = .ok (.iconst 0, 1) := by decide +kernel
theorem d_law_481 : decode code 481 = .ok (.ireturn, 1) := by decide +kernel
theorem d_law_482 : decode code 482 = .ok (.goto 700, 3) := by decide +kernel
theorem d_law_485 : decode code 485 = .ok (.aload_n 1, 1) := by decide +kernel
theorem d_law_486 : decode code 486 = .ok (.aload_n 0, 1) := by decide +kernel
theorem d_law_487 : decode code 487 = .ok (.iload 4, 2) := by decide +kernel
theorem d_law_489 : decode code 489 = .ok (.iconst 1, 1) := by decide +kernel
theorem d_law_490 : decode code 490 = .ok (.iadd, 1) := by decide +kernel
theorem d_law_491 : decode code 491 = .ok (.iaload, 1) := by decide +kernel
theorem d_law_492 : decode code 492 = .ok (.aload_n 0, 1) := by decide +kernel
theorem d_law_493 : decode code 493 = .ok (.iload 4, 2) := by decide +kernel
theorem d_law_495 : decode code 495 = .ok (.iconst 2, 1) := by decide +kernel
theorem d_law_496 : decode code 496 = .ok (.iadd, 1) := by decide +kernel
theorem d_law_497 : decode code 497 = .ok (.iaload, 1) := by decide +kernel
theorem d_law_498 : decode code 498 = .ok (.aload_n 3, 1) := by decide +kernel
theorem d_law_499 : decode code 499 = .ok (.invokestatic 95, 3) := by decide +kernel
theorem d_law_502 : decode code 502 = .ok (.istore 5, 2) := by decide +kernel
theorem d_law_504 : decode code 504 = .ok (.aload_n 2, 1) := by decide +kernel
theorem d_law_505 : decode code 505 = .ok (.aload_n 0, 1) := by decide +kernel
theorem d_law_506 : decode code 506 = .ok (.iload 4, 2) := by decide +kernel
theorem d_law_508 : decode code 508 = .ok (.iconst 1, 1) := by decide +kernel
theorem d_law_509 : decode code 509 = .ok (.iadd, 1) := by decide +kernel
theorem d_law_510 : decode code 510 = .ok (.iaload, 1) := by decide +kernel
theorem d_law_511 : decode code 511 = .ok (.aload_n 0, 1) := by decide +kernel
theorem d_law_512 : decode code 512 = .ok (.iload 4, 2) := by decide +kernel
theorem d_law_514 : decode code 514 = .ok (.iconst 2, 1) := by decide +kernel
theorem d_law_515 : decode code 515 = .ok (.iadd, 1) := by decide +kernel
theorem d_law_516 : decode code 516 = .ok (.iaload, 1) := by decide +kernel
theorem d_law_517 : decode code 517 = .ok (.invokevirtual 97, 3) := by decide +kernel
theorem d_law_520 : decode code 520 = .ok (.istore 6, 2) := by decide +kernel
theorem d_law_522 : decode code 522 = .ok (.aload_n 2, 1) := by decide +kernel
theorem d_law_523 : decode code 523 = .ok (.invokevirtual 72, 3) := by decide +kernel
theorem d_law_526 : decode code 526 = .ok (.iload 5, 2) := by decide +kernel
theorem d_law_528 : decode code 528 = .ok (.if_icmp .eq 5, 3) := by decide +kernel
theorem d_law_531 : decode code 531 = .ok (.iconst 0, 1) := by decide +kernel
theorem d_law_532 : decode code 532 = .ok (.ireturn, 1) := by decide +kernel
theorem d_law_533 : decode code 533 = .ok (.iload 5, 2) := by decide +kernel
theorem d_law_535 : decode code 535 = .ok (.ifCond .ne 15, 3) := by decide +kernel
theorem d_law_538 : decode code 538 = .ok (.aload_n 3, 1) := by decide +kernel
theorem d_law_539 : decode code 539 = .ok (.iconst 0, 1) := by decide +kernel
theorem d_law_540 : decode code 540 = .ok (.laload, 1) := by decide +kernel
theorem d_law_541 : decode code 541 = .ok (.iload 6, 2) := by decide +kernel
theorem d_law_543 : decode code 543 = .ok (.i2l, 1) := by decide +kernel
theorem d_law_544 : decode code 544 = .ok (.lcmp, 1) := by decide +kernel
theorem d_law_545 : decode code 545 = .ok (.ifCond .eq 5, 3) := by decide +kernel
theorem d_law_548 : decode code 548 = .ok (.iconst 0, 1) := by decide +kernel
theorem d_law_549 : decode code 549 = .ok (.ireturn, 1) := by decide +kernel
theorem d_law_550 : decode code 550 = .ok (.goto 632, 3) := by decide +kernel
theorem d_law_553 : decode code 553 = .ok (.aload_n 1, 1) := by decide +kernel
theorem d_law_554 : decode code 554 = .ok (.aload_n 0, 1) := by decide +kernel
theorem d_law_555 : decode code 555 = .ok (.iload 4, 2) := by decide +kernel
theorem d_law_557 : decode code 557 = .ok (.iconst 1, 1) := by decide +kernel
theorem d_law_558 : decode code 558 = .ok (.iadd, 1) := by decide +kernel
theorem d_law_559 : decode code 559 = .ok (.iaload, 1) := by decide +kernel
theorem d_law_560 : decode code 560 = .ok (.aload_n 0, 1) := by decide +kernel
theorem d_law_561 : decode code 561 = .ok (.iload 4, 2) := by decide +kernel
theorem d_law_563 : decode code 563 = .ok (.iconst 2, 1) := by decide +kernel
theorem d_law_564 : decode code 564 = .ok (.iadd, 1) := by decide +kernel
theorem d_law_565 : decode code 565 = .ok (.iaload, 1) := by decide +kernel
theorem d_law_566 : decode code 566 = .ok (.aload_n 3, 1) := by decide +kernel
theorem d_law_567 : decode code 567 = .ok (.invokestatic 98, 3) := by decide +kernel
theorem d_law_570 : decode code 570 = .ok (.istore 5, 2) := by decide +kernel
theorem d_law_572 : decode code 572 = .ok (.aload_n 2, 1) := by decide +kernel
theorem d_law_573 : decode code 573 = .ok (.aload_n 0, 1) := by decide +kernel
theorem d_law_574 : decode code 574 = .ok (.iload 4, 2) := by decide +kernel
theorem d_law_576 : decode code 576 = .ok (.iconst 1, 1) := by decide +kernel
theorem d_law_577 : decode code 577 = .ok (.iadd, 1) := by decide +kernel
theorem d_law_578 : decode code 578 = .ok (.iaload, 1) := by decide +kernel
theorem d_law_579 : decode code 579 = .ok (.aload_n 0, 1) := by decide +kernel
theorem d_law_580 : decode code 580 = .ok (.iload 4, 2) := by decide +kernel
theorem d_law_582 : decode code 582 = .ok (.iconst 2, 1) := by decide +kernel
theorem d_law_583 : decode code 583 = .ok (.iadd, 1) := by decide +kernel
theorem d_law_584 : decode code 584 = .ok (.iaload, 1) := by decide +kernel
theorem d_law_585 : decode code 585 = .ok (.invokevirtual 100, 3) := by decide +kernel
theorem d_law_588 : decode code 588 = .ok (.istore 6, 2) := by decide +kernel
theorem d_law_590 : decode code 590 = .ok (.aload_n 2, 1) := by decide +kernel
theorem d_law_591 : decode code 591 = .ok (.invokevirtual 72, 3) := by decide +kernel
theorem d_law_594 : decode code 594 = .ok (.iload 5, 2) := by decide +kernel
theorem d_law_596 : decode code 596 = .ok (.if_icmp .eq 5, 3) := by decide +kernel
theorem d_law_599 : decode code 599 = .ok (.iconst 0, 1) := by decide +kernel
theorem d_law_600 : decode code 600 = .ok (.ireturn, 1) := by decide +kernel
theorem d_law_601 : decode code 601 = .ok (.iload 5, 2) := by decide +kernel
theorem d_law_603 : decode code 603 = .ok (.ifCond .ne 15, 3) := by decide +kernel
theorem d_law_606 : decode code 606 = .ok (.aload_n 3, 1) := by decide +kernel
theorem d_law_607 : decode code 607 = .ok (.iconst 0, 1) := by decide +kernel
theorem d_law_608 : decode code 608 = .ok (.laload, 1) := by decide +kernel
theorem d_law_609 : decode code 609 = .ok (.iload 6, 2) := by decide +kernel
theorem d_law_611 : decode code 611 = .ok (.i2l, 1) := by decide +kernel
theorem d_law_612 : decode code 612 = .ok (.lcmp, 1) := by decide +kernel
theorem d_law_613 : decode code 613 = .ok (.ifCond .eq 5, 3) := by decide +kernel
theorem d_law_616 : decode code 616 = .ok (.iconst 0, 1) := by decide +kernel
theorem d_law_617 : decode code 617 = .ok (.ireturn, 1) := by decide +kernel
theorem d_law_618 : decode code 618 = .ok (.goto 564, 3) := by decide +kernel
theorem d_law_621 : decode code 621 = .ok (.aload_n 1, 1) := by decide +kernel
theorem d_law_622 : decode code 622 = .ok (.aload_n 0, 1) := by decide +kernel
theorem d_law_623 : decode code 623 = .ok (.iload 4, 2) := by decide +kernel
theorem d_law_625 : decode code 625 = .ok (.iconst 1, 1) := by decide +kernel
theorem d_law_626 : decode code 626 = .ok (.iadd, 1) := by decide +kernel
theorem d_law_627 : decode code 627 = .ok (.iaload, 1) := by decide +kernel
theorem d_law_628 : decode code 628 = .ok (.aload_n 0, 1) := by decide +kernel
theorem d_law_629 : decode code 629 = .ok (.iload 4, 2) := by decide +kernel
theorem d_law_631 : decode code 631 = .ok (.iconst 2, 1) := by decide +kernel
theorem d_law_632 : decode code 632 = .ok (.iadd, 1) := by decide +kernel
theorem d_law_633 : decode code 633 = .ok (.iaload, 1) := by decide +kernel
theorem d_law_634 : decode code 634 = .ok (.aload_n 0, 1) := by decide +kernel
theorem d_law_635 : decode code 635 = .ok (.iload 4, 2) := by decide +kernel
theorem d_law_637 : decode code 637 = .ok (.iconst 3, 1) := by decide +kernel
theorem d_law_638 : decode code 638 = .ok (.iadd, 1) := by decide +kernel
theorem d_law_639 : decode code 639 = .ok (.iaload, 1) := by decide +kernel
theorem d_law_640 : decode code 640 = .ok (.aload_n 0, 1) := by decide +kernel
theorem d_law_641 : decode code 641 = .ok (.iload 4, 2) := by decide +kernel
theorem d_law_643 : decode code 643 = .ok (.iconst 4, 1) := by decide +kernel
theorem d_law_644 : decode code 644 = .ok (.iadd, 1) := by decide +kernel
theorem d_law_645 : decode code 645 = .ok (.iaload, 1) := by decide +kernel
theorem d_law_646 : decode code 646 = .ok (.aload_n 3, 1) := by decide +kernel
theorem d_law_647 : decode code 647 = .ok (.invokestatic 101, 3) := by decide +kernel
theorem d_law_650 : decode code 650 = .ok (.istore 5, 2) := by decide +kernel
theorem d_law_652 : decode code 652 = .ok (.aload_n 2, 1) := by decide +kernel
theorem d_law_653 : decode code 653 = .ok (.aload_n 0, 1) := by decide +kernel
theorem d_law_654 : decode code 654 = .ok (.iload 4, 2) := by decide +kernel
theorem d_law_656 : decode code 656 = .ok (.iconst 1, 1) := by decide +kernel
theorem d_law_657 : decode code 657 = .ok (.iadd, 1) := by decide +kernel
theorem d_law_658 : decode code 658 = .ok (.iaload, 1) := by decide +kernel
theorem d_law_659 : decode code 659 = .ok (.aload_n 0, 1) := by decide +kernel
theorem d_law_660 : decode code 660 = .ok (.iload 4, 2) := by decide +kernel
theorem d_law_662 : decode code 662 = .ok (.iconst 2, 1) := by decide +kernel
theorem d_law_663 : decode code 663 = .ok (.iadd, 1) := by decide +kernel
theorem d_law_664 : decode code 664 = .ok (.iaload, 1) := by decide +kernel
theorem d_law_665 : decode code 665 = .ok (.aload_n 0, 1) := by decide +kernel
theorem d_law_666 : decode code 666 = .ok (.iload 4, 2) := by decide +kernel
theorem d_law_668 : decode code 668 = .ok (.iconst 3, 1) := by decide +kernel
theorem d_law_669 : decode code 669 = .ok (.iadd, 1) := by decide +kernel
theorem d_law_670 : decode code 670 = .ok (.iaload, 1) := by decide +kernel
theorem d_law_671 : decode code 671 = .ok (.aload_n 0, 1) := by decide +kernel
theorem d_law_672 : decode code 672 = .ok (.iload 4, 2) := by decide +kernel
theorem d_law_674 : decode code 674 = .ok (.iconst 4, 1) := by decide +kernel
theorem d_law_675 : decode code 675 = .ok (.iadd, 1) := by decide +kernel
theorem d_law_676 : decode code 676 = .ok (.iaload, 1) := by decide +kernel
theorem d_law_677 : decode code 677 = .ok (.invokevirtual 104, 3) := by decide +kernel
theorem d_law_680 : decode code 680 = .ok (.istore 6, 2) := by decide +kernel
theorem d_law_682 : decode code 682 = .ok (.aload_n 2, 1) := by decide +kernel
theorem d_law_683 : decode code 683 = .ok (.invokevirtual 72, 3) := by decide +kernel
theorem d_law_686 : decode code 686 = .ok (.iload 5, 2) := by decide +kernel
theorem d_law_688 : decode code 688 = .ok (.if_icmp .eq 5, 3) := by decide +kernel
theorem d_law_691 : decode code 691 = .ok (.iconst 0, 1) := by decide +kernel
theorem d_law_692 : decode code 692 = .ok (.ireturn, 1) := by decide +kernel
theorem d_law_693 : decode code 693 = .ok (.iload 5, 2) := by decide +kernel
theorem d_law_695 : decode code 695 = .ok (.ifCond .ne 15, 3) := by decide +kernel
theorem d_law_698 : decode code 698 = .ok (.aload_n 3, 1) := by decide +kernel
theorem d_law_699 : decode code 699 = .ok (.iconst 0, 1) := by decide +kernel
theorem d_law_700 : decode code 700 = .ok (.laload, 1) := by decide +kernel
theorem d_law_701 : decode code 701 = .ok (.iload 6, 2) := by decide +kernel
theorem d_law_703 : decode code 703 = .ok (.i2l, 1) := by decide +kernel
theorem d_law_704 : decode code 704 = .ok (.lcmp, 1) := by decide +kernel
theorem d_law_705 : decode code 705 = .ok (.ifCond .eq 5, 3) := by decide +kernel
theorem d_law_708 : decode code 708 = .ok (.iconst 0, 1) := by decide +kernel
theorem d_law_709 : decode code 709 = .ok (.ireturn, 1) := by decide +kernel
theorem d_law_710 : decode code 710 = .ok (.goto 472, 3) := by decide +kernel
theorem d_law_713 : decode code 713 = .ok (.aload_n 1, 1) := by decide +kernel
theorem d_law_714 : decode code 714 = .ok (.aload_n 0, 1) := by decide +kernel
theorem d_law_715 : decode code 715 = .ok (.iload 4, 2) := by decide +kernel
theorem d_law_717 : decode code 717 = .ok (.iconst 1, 1) := by decide +kernel
theorem d_law_718 : decode code 718 = .ok (.iadd, 1) := by decide +kernel
theorem d_law_719 : decode code 719 = .ok (.iaload, 1) := by decide +kernel
theorem d_law_720 : decode code 720 = .ok (.aload_n 0, 1) := by decide +kernel
theorem d_law_721 : decode code 721 = .ok (.iload 4, 2) := by decide +kernel
theorem d_law_723 : decode code 723 = .ok (.iconst 2, 1) := by decide +kernel
theorem d_law_724 : decode code 724 = .ok (.iadd, 1) := by decide +kernel
theorem d_law_725 : decode code 725 = .ok (.iaload, 1) := by decide +kernel
theorem d_law_726 : decode code 726 = .ok (.aload_n 0, 1) := by decide +kernel
theorem d_law_727 : decode code 727 = .ok (.iload 4, 2) := by decide +kernel
theorem d_law_729 : decode code 729 = .ok (.iconst 3, 1) := by decide +kernel
theorem d_law_730 : decode code 730 = .ok (.iadd, 1) := by decide +kernel
theorem d_law_731 : decode code 731 = .ok (.iaload, 1) := by decide +kernel
theorem d_law_732 : decode code 732 = .ok (.aload_n 0, 1) := by decide +kernel
theorem d_law_733 : decode code 733 = .ok (.iload 4, 2) := by decide +kernel
theorem d_law_735 : decode code 735 = .ok (.iconst 4, 1) := by decide +kernel
theorem d_law_736 : decode code 736 = .ok (.iadd, 1) := by decide +kernel
theorem d_law_737 : decode code 737 = .ok (.iaload, 1) := by decide +kernel
theorem d_law_738 : decode code 738 = .ok (.aload_n 3, 1) := by decide +kernel
theorem d_law_739 : decode code 739 = .ok (.invokestatic 105, 3) := by decide +kernel
theorem d_law_742 : decode code 742 = .ok (.istore 5, 2) := by decide +kernel
theorem d_law_744 : decode code 744 = .ok (.aload_n 2, 1) := by decide +kernel
theorem d_law_745 : decode code 745 = .ok (.aload_n 0, 1) := by decide +kernel
theorem d_law_746 : decode code 746 = .ok (.iload 4, 2) := by decide +kernel
theorem d_law_748 : decode code 748 = .ok (.iconst 1, 1) := by decide +kernel
theorem d_law_749 : decode code 749 = .ok (.iadd, 1) := by decide +kernel
theorem d_law_750 : decode code 750 = .ok (.iaload, 1) := by decide +kernel
theorem d_law_751 : decode code 751 = .ok (.aload_n 0, 1) := by decide +kernel
theorem d_law_752 : decode code 752 = .ok (.iload 4, 2) := by decide +kernel
theorem d_law_754 : decode code 754 = .ok (.iconst 2, 1) := by decide +kernel
theorem d_law_755 : decode code 755 = .ok (.iadd, 1) := by decide +kernel
theorem d_law_756 : decode code 756 = .ok (.iaload, 1) := by decide +kernel
theorem d_law_757 : decode code 757 = .ok (.aload_n 0, 1) := by decide +kernel
theorem d_law_758 : decode code 758 = .ok (.iload 4, 2) := by decide +kernel
theorem d_law_760 : decode code 760 = .ok (.iconst 3, 1) := by decide +kernel
theorem d_law_761 : decode code 761 = .ok (.iadd, 1) := by decide +kernel
theorem d_law_762 : decode code 762 = .ok (.iaload, 1) := by decide +kernel
theorem d_law_763 : decode code 763 = .ok (.aload_n 0, 1) := by decide +kernel
theorem d_law_764 : decode code 764 = .ok (.iload 4, 2) := by decide +kernel
theorem d_law_766 : decode code 766 = .ok (.iconst 4, 1) := by decide +kernel
theorem d_law_767 : decode code 767 = .ok (.iadd, 1) := by decide +kernel
theorem d_law_768 : decode code 768 = .ok (.iaload, 1) := by decide +kernel
theorem d_law_769 : decode code 769 = .ok (.invokevirtual 107, 3) := by decide +kernel
theorem d_law_772 : decode code 772 = .ok (.istore 6, 2) := by decide +kernel
theorem d_law_774 : decode code 774 = .ok (.aload_n 2, 1) := by decide +kernel
theorem d_law_775 : decode code 775 = .ok (.invokevirtual 72, 3) := by decide +kernel
theorem d_law_778 : decode code 778 = .ok (.iload 5, 2) := by decide +kernel
theorem d_law_780 : decode code 780 = .ok (.if_icmp .eq 5, 3) := by decide +kernel
theorem d_law_783 : decode code 783 = .ok (.iconst 0, 1) := by decide +kernel
theorem d_law_784 : decode code 784 = .ok (.ireturn, 1) := by decide +kernel
theorem d_law_785 : decode code 785 = .ok (.iload 5, 2) := by decide +kernel
theorem d_law_787 : decode code 787 = .ok (.ifCond .ne 15, 3) := by decide +kernel
theorem d_law_790 : decode code 790 = .ok (.aload_n 3, 1) := by decide +kernel
theorem d_law_791 : decode code 791 = .ok (.iconst 0, 1) := by decide +kernel
theorem d_law_792 : decode code 792 = .ok (.laload, 1) := by decide +kernel
theorem d_law_793 : decode code 793 = .ok (.iload 6, 2) := by decide +kernel
theorem d_law_795 : decode code 795 = .ok (.i2l, 1) := by decide +kernel
theorem d_law_796 : decode code 796 = .ok (.lcmp, 1) := by decide +kernel
theorem d_law_797 : decode code 797 = .ok (.ifCond .eq 5, 3) := by decide +kernel
theorem d_law_800 : decode code 800 = .ok (.iconst 0, 1) := by decide +kernel
theorem d_law_801 : decode code 801 = .ok (.ireturn, 1) := by decide +kernel
theorem d_law_802 : decode code 802 = .ok (.goto 380, 3) := by decide +kernel
theorem d_law_805 : decode code 805 = .ok (.aload_n 1, 1) := by decide +kernel
theorem d_law_806 : decode code 806 = .ok (.aload_n 0, 1) := by decide +kernel
theorem d_law_807 : decode code 807 = .ok (.iload 4, 2) := by decide +kernel
theorem d_law_809 : decode code 809 = .ok (.iconst 1, 1) := by decide +kernel
theorem d_law_810 : decode code 810 = .ok (.iadd, 1) := by decide +kernel
theorem d_law_811 : decode code 811 = .ok (.iaload, 1) := by decide +kernel
theorem d_law_812 : decode code 812 = .ok (.aload_n 0, 1) := by decide +kernel
theorem d_law_813 : decode code 813 = .ok (.iload 4, 2) := by decide +kernel
theorem d_law_815 : decode code 815 = .ok (.iconst 2, 1) := by decide +kernel
theorem d_law_816 : decode code 816 = .ok (.iadd, 1) := by decide +kernel
theorem d_law_817 : decode code 817 = .ok (.iaload, 1) := by decide +kernel
theorem d_law_818 : decode code 818 = .ok (.aload_n 3, 1) := by decide +kernel
theorem d_law_819 : decode code 819 = .ok (.invokestatic 108, 3) := by decide +kernel
theorem d_law_822 : decode code 822 = .ok (.istore 5, 2) := by decide +kernel
theorem d_law_824 : decode code 824 = .ok (.aload_n 2, 1) := by decide +kernel
theorem d_law_825 : decode code 825 = .ok (.aload_n 0, 1) := by decide +kernel
theorem d_law_826 : decode code 826 = .ok (.iload 4, 2) := by decide +kernel
theorem d_law_828 : decode code 828 = .ok (.iconst 1, 1) := by decide +kernel
theorem d_law_829 : decode code 829 = .ok (.iadd, 1) := by decide +kernel
theorem d_law_830 : decode code 830 = .ok (.iaload, 1) := by decide +kernel
theorem d_law_831 : decode code 831 = .ok (.aload_n 0, 1) := by decide +kernel
theorem d_law_832 : decode code 832 = .ok (.iload 4, 2) := by decide +kernel
theorem d_law_834 : decode code 834 = .ok (.iconst 2, 1) := by decide +kernel
theorem d_law_835 : decode code 835 = .ok (.iadd, 1) := by decide +kernel
theorem d_law_836 : decode code 836 = .ok (.iaload, 1) := by decide +kernel
theorem d_law_837 : decode code 837 = .ok (.invokevirtual 110, 3) := by decide +kernel
theorem d_law_840 : decode code 840 = .ok (.istore 6, 2) := by decide +kernel
theorem d_law_842 : decode code 842 = .ok (.aload_n 2, 1) := by decide +kernel
theorem d_law_843 : decode code 843 = .ok (.invokevirtual 72, 3) := by decide +kernel
theorem d_law_846 : decode code 846 = .ok (.iload 5, 2) := by decide +kernel
theorem d_law_848 : decode code 848 = .ok (.if_icmp .eq 5, 3) := by decide +kernel
theorem d_law_851 : decode code 851 = .ok (.iconst 0, 1) := by decide +kernel
theorem d_law_852 : decode code 852 = .ok (.ireturn, 1) := by decide +kernel
theorem d_law_853 : decode code 853 = .ok (.iload 5, 2) := by decide +kernel
theorem d_law_855 : decode code 855 = .ok (.ifCond .ne 15, 3) := by decide +kernel
theorem d_law_858 : decode code 858 = .ok (.aload_n 3, 1) := by decide +kernel
theorem d_law_859 : decode code 859 = .ok (.iconst 0, 1) := by decide +kernel
theorem d_law_860 : decode code 860 = .ok (.laload, 1) := by decide +kernel
theorem d_law_861 : decode code 861 = .ok (.iload 6, 2) := by decide +kernel
theorem d_law_863 : decode code 863 = .ok (.i2l, 1) := by decide +kernel
theorem d_law_864 : decode code 864 = .ok (.lcmp, 1) := by decide +kernel
theorem d_law_865 : decode code 865 = .ok (.ifCond .eq 5, 3) := by decide +kernel
theorem d_law_868 : decode code 868 = .ok (.iconst 0, 1) := by decide +kernel
theorem d_law_869 : decode code 869 = .ok (.ireturn, 1) := by decide +kernel
theorem d_law_870 : decode code 870 = .ok (.goto 312, 3) := by decide +kernel
theorem d_law_873 : decode code 873 = .ok (.aload_n 1, 1) := by decide +kernel
theorem d_law_874 : decode code 874 = .ok (.aload_n 0, 1) := by decide +kernel
theorem d_law_875 : decode code 875 = .ok (.iload 4, 2) := by decide +kernel
theorem d_law_877 : decode code 877 = .ok (.iconst 1, 1) := by decide +kernel
theorem d_law_878 : decode code 878 = .ok (.iadd, 1) := by decide +kernel
theorem d_law_879 : decode code 879 = .ok (.iaload, 1) := by decide +kernel
theorem d_law_880 : decode code 880 = .ok (.aload_n 0, 1) := by decide +kernel
theorem d_law_881 : decode code 881 = .ok (.iload 4, 2) := by decide +kernel
theorem d_law_883 : decode code 883 = .ok (.iconst 2, 1) := by decide +kernel
theorem d_law_884 : decode code 884 = .ok (.iadd, 1) := by decide +kernel
theorem d_law_885 : decode code 885 = .ok (.iaload, 1) := by decide +kernel
theorem d_law_886 : decode code 886 = .ok (.aload_n 0, 1) := by decide +kernel
theorem d_law_887 : decode code 887 = .ok (.iload 4, 2) := by decide +kernel
theorem d_law_889 : decode code 889 = .ok (.iconst 3, 1) := by decide +kernel
theorem d_law_890 : decode code 890 = .ok (.iadd, 1) := by decide +kernel
theorem d_law_891 : decode code 891 = .ok (.iaload, 1) := by decide +kernel
theorem d_law_892 : decode code 892 = .ok (.aload_n 3, 1) := by decide +kernel
theorem d_law_893 : decode code 893 = .ok (.invokestatic 111, 3) := by decide +kernel
theorem d_law_896 : decode code 896 = .ok (.istore 5, 2) := by decide +kernel
theorem d_law_898 : decode code 898 = .ok (.aload_n 2, 1) := by decide +kernel
theorem d_law_899 : decode code 899 = .ok (.aload_n 0, 1) := by decide +kernel
theorem d_law_900 : decode code 900 = .ok (.iload 4, 2) := by decide +kernel
theorem d_law_902 : decode code 902 = .ok (.iconst 1, 1) := by decide +kernel
theorem d_law_903 : decode code 903 = .ok (.iadd, 1) := by decide +kernel
theorem d_law_904 : decode code 904 = .ok (.iaload, 1) := by decide +kernel
theorem d_law_905 : decode code 905 = .ok (.aload_n 0, 1) := by decide +kernel
theorem d_law_906 : decode code 906 = .ok (.iload 4, 2) := by decide +kernel
theorem d_law_908 : decode code 908 = .ok (.iconst 2, 1) := by decide +kernel
theorem d_law_909 : decode code 909 = .ok (.iadd, 1) := by decide +kernel
theorem d_law_910 : decode code 910 = .ok (.iaload, 1) := by decide +kernel
theorem d_law_911 : decode code 911 = .ok (.aload_n 0, 1) := by decide +kernel
theorem d_law_912 : decode code 912 = .ok (.iload 4, 2) := by decide +kernel
theorem d_law_914 : decode code 914 = .ok (.iconst 3, 1) := by decide +kernel
theorem d_law_915 : decode code 915 = .ok (.iadd, 1) := by decide +kernel
theorem d_law_916 : decode code 916 = .ok (.iaload, 1) := by decide +kernel
theorem d_law_917 : decode code 917 = .ok (.invokevirtual 113, 3) := by decide +kernel
theorem d_law_920 : decode code 920 = .ok (.istore 6, 2) := by decide +kernel
theorem d_law_922 : decode code 922 = .ok (.aload_n 2, 1) := by decide +kernel
theorem d_law_923 : decode code 923 = .ok (.invokevirtual 72, 3) := by decide +kernel
theorem d_law_926 : decode code 926 = .ok (.iload 5, 2) := by decide +kernel
theorem d_law_928 : decode code 928 = .ok (.if_icmp .eq 5, 3) := by decide +kernel
theorem d_law_931 : decode code 931 = .ok (.iconst 0, 1) := by decide +kernel
theorem d_law_932 : decode code 932 = .ok (.ireturn, 1) := by decide +kernel
theorem d_law_933 : decode code 933 = .ok (.iload 5, 2) := by decide +kernel
theorem d_law_935 : decode code 935 = .ok (.ifCond .ne 15, 3) := by decide +kernel
theorem d_law_938 : decode code 938 = .ok (.aload_n 3, 1) := by decide +kernel
theorem d_law_939 : decode code 939 = .ok (.iconst 0, 1) := by decide +kernel
theorem d_law_940 : decode code 940 = .ok (.laload, 1) := by decide +kernel
theorem d_law_941 : decode code 941 = .ok (.iload 6, 2) := by decide +kernel
theorem d_law_943 : decode code 943 = .ok (.i2l, 1) := by decide +kernel
theorem d_law_944 : decode code 944 = .ok (.lcmp, 1) := by decide +kernel
theorem d_law_945 : decode code 945 = .ok (.ifCond .eq 5, 3) := by decide +kernel
theorem d_law_948 : decode code 948 = .ok (.iconst 0, 1) := by decide +kernel
theorem d_law_949 : decode code 949 = .ok (.ireturn, 1) := by decide +kernel
theorem d_law_950 : decode code 950 = .ok (.goto 232, 3) := by decide +kernel
theorem d_law_953 : decode code 953 = .ok (.aload_n 1, 1) := by decide +kernel
theorem d_law_954 : decode code 954 = .ok (.aload_n 0, 1) := by decide +kernel
theorem d_law_955 : decode code 955 = .ok (.iload 4, 2) := by decide +kernel
theorem d_law_957 : decode code 957 = .ok (.iconst 1, 1) := by decide +kernel
theorem d_law_958 : decode code 958 = .ok (.iadd, 1) := by decide +kernel
theorem d_law_959 : decode code 959 = .ok (.iaload, 1) := by decide +kernel
theorem d_law_960 : decode code 960 = .ok (.aload_n 0, 1) := by decide +kernel
theorem d_law_961 : decode code 961 = .ok (.iload 4, 2) := by decide +kernel
theorem d_law_963 : decode code 963 = .ok (.iconst 2, 1) := by decide +kernel
theorem d_law_964 : decode code 964 = .ok (.iadd, 1) := by decide +kernel
theorem d_law_965 : decode code 965 = .ok (.iaload, 1) := by decide +kernel
theorem d_law_966 : decode code 966 = .ok (.aload_n 0, 1) := by decide +kernel
theorem d_law_967 : decode code 967 = .ok (.iload 4, 2) := by decide +kernel
theorem d_law_969 : decode code 969 = .ok (.iconst 3, 1) := by decide +kernel
theorem d_law_970 : decode code 970 = .ok (.iadd, 1) := by decide +kernel
theorem d_law_971 : decode code 971 = .ok (.iaload, 1) := by decide +kernel
theorem d_law_972 : decode code 972 = .ok (.aload_n 3, 1) := by decide +kernel
theorem d_law_973 : decode code 973 = .ok (.invokestatic 114, 3) := by decide +kernel
theorem d_law_976 : decode code 976 = .ok (.istore 5, 2) := by decide +kernel
theorem d_law_978 : decode code 978 = .ok (.aload_n 2, 1) := by decide +kernel
theorem d_law_979 : decode code 979 = .ok (.aload_n 0, 1) := by decide +kernel
theorem d_law_980 : decode code 980 = .ok (.iload 4, 2) := by decide +kernel
theorem d_law_982 : decode code 982 = .ok (.iconst 1, 1) := by decide +kernel
theorem d_law_983 : decode code 983 = .ok (.iadd, 1) := by decide +kernel
theorem d_law_984 : decode code 984 = .ok (.iaload, 1) := by decide +kernel
theorem d_law_985 : decode code 985 = .ok (.aload_n 0, 1) := by decide +kernel
theorem d_law_986 : decode code 986 = .ok (.iload 4, 2) := by decide +kernel
theorem d_law_988 : decode code 988 = .ok (.iconst 2, 1) := by decide +kernel
theorem d_law_989 : decode code 989 = .ok (.iadd, 1) := by decide +kernel
theorem d_law_990 : decode code 990 = .ok (.iaload, 1) := by decide +kernel
theorem d_law_991 : decode code 991 = .ok (.aload_n 0, 1) := by decide +kernel
theorem d_law_992 : decode code 992 = .ok (.iload 4, 2) := by decide +kernel
theorem d_law_994 : decode code 994 = .ok (.iconst 3, 1) := by decide +kernel
theorem d_law_995 : decode code 995 = .ok (.iadd, 1) := by decide +kernel
theorem d_law_996 : decode code 996 = .ok (.iaload, 1) := by decide +kernel
theorem d_law_997 : decode code 997 = .ok (.invokevirtual 116, 3) := by decide +kernel
theorem d_law_1000 : decode code 1000 = .ok (.istore 6, 2) := by decide +kernel
theorem d_law_1002 : decode code 1002 = .ok (.aload_n 2, 1) := by decide +kernel
theorem d_law_1003 : decode code 1003 = .ok (.invokevirtual 72, 3) := by decide +kernel
theorem d_law_1006 : decode code 1006 = .ok (.iload 5, 2) := by decide +kernel
theorem d_law_1008 : decode code 1008 = .ok (.if_icmp .eq 5, 3) := by decide +kernel
theorem d_law_1011 : decode code 1011 = .ok (.iconst 0, 1) := by decide +kernel
theorem d_law_1012 : decode code 1012 = .ok (.ireturn, 1) := by decide +kernel
theorem d_law_1013 : decode code 1013 = .ok (.iload 5, 2) := by decide +kernel
theorem d_law_1015 : decode code 1015 = .ok (.ifCond .ne 15, 3) := by decide +kernel
theorem d_law_1018 : decode code 1018 = .ok (.aload_n 3, 1) := by decide +kernel
theorem d_law_1019 : decode code 1019 = .ok (.iconst 0, 1) := by decide +kernel
theorem d_law_1020 : decode code 1020 = .ok (.laload, 1) := by decide +kernel
theorem d_law_1021 : decode code 1021 = .ok (.iload 6, 2) := by decide +kernel
theorem d_law_1023 : decode code 1023 = .ok (.i2l, 1) := by decide +kernel
theorem d_law_1024 : decode code 1024 = .ok (.lcmp, 1) := by decide +kernel
theorem d_law_1025 : decode code 1025 = .ok (.ifCond .eq 5, 3) := by decide +kernel
theorem d_law_1028 : decode code 1028 = .ok (.iconst 0, 1) := by decide +kernel
theorem d_law_1029 : decode code 1029 = .ok (.ireturn, 1) := by decide +kernel
theorem d_law_1030 : decode code 1030 = .ok (.goto 152, 3) := by decide +kernel
theorem d_law_1033 : decode code 1033 = .ok (.aload_n 1, 1) := by decide +kernel
theorem d_law_1034 : decode code 1034 = .ok (.aload_n 0, 1) := by decide +kernel
theorem d_law_1035 : decode code 1035 = .ok (.iload 4, 2) := by decide +kernel
theorem d_law_1037 : decode code 1037 = .ok (.iconst 1, 1) := by decide +kernel
theorem d_law_1038 : decode code 1038 = .ok (.iadd, 1) := by decide +kernel
theorem d_law_1039 : decode code 1039 = .ok (.iaload, 1) := by decide +kernel
theorem d_law_1040 : decode code 1040 = .ok (.aload_n 0, 1) := by decide +kernel
theorem d_law_1041 : decode code 1041 = .ok (.iload 4, 2) := by decide +kernel
theorem d_law_1043 : decode code 1043 = .ok (.iconst 2, 1) := by decide +kernel
theorem d_law_1044 : decode code 1044 = .ok (.iadd, 1) := by decide +kernel
theorem d_law_1045 : decode code 1045 = .ok (.iaload, 1) := by decide +kernel
theorem d_law_1046 : decode code 1046 = .ok (.aload_n 3, 1) := by decide +kernel
theorem d_law_1047 : decode code 1047 = .ok (.invokestatic 117, 3) := by decide +kernel
theorem d_law_1050 : decode code 1050 = .ok (.istore 5, 2) := by decide +kernel
theorem d_law_1052 : decode code 1052 = .ok (.aload_n 2, 1) := by decide +kernel
theorem d_law_1053 : decode code 1053 = .ok (.aload_n 0, 1) := by decide +kernel
theorem d_law_1054 : decode code 1054 = .ok (.iload 4, 2) := by decide +kernel
theorem d_law_1056 : decode code 1056 = .ok (.iconst 1, 1) := by decide +kernel
theorem d_law_1057 : decode code 1057 = .ok (.iadd, 1) := by decide +kernel
theorem d_law_1058 : decode code 1058 = .ok (.iaload, 1) := by decide +kernel
theorem d_law_1059 : decode code 1059 = .ok (.aload_n 0, 1) := by decide +kernel
theorem d_law_1060 : decode code 1060 = .ok (.iload 4, 2) := by decide +kernel
theorem d_law_1062 : decode code 1062 = .ok (.iconst 2, 1) := by decide +kernel
theorem d_law_1063 : decode code 1063 = .ok (.iadd, 1) := by decide +kernel
theorem d_law_1064 : decode code 1064 = .ok (.iaload, 1) := by decide +kernel
theorem d_law_1065 : decode code 1065 = .ok (.invokevirtual 119, 3) := by decide +kernel
theorem d_law_1068 : decode code 1068 = .ok (.istore 6, 2) := by decide +kernel
theorem d_law_1070 : decode code 1070 = .ok (.aload_n 2, 1) := by decide +kernel
theorem d_law_1071 : decode code 1071 = .ok (.invokevirtual 72, 3) := by decide +kernel
theorem d_law_1074 : decode code 1074 = .ok (.iload 5, 2) := by decide +kernel
theorem d_law_1076 : decode code 1076 = .ok (.if_icmp .eq 5, 3) := by decide +kernel
theorem d_law_1079 : decode code 1079 = .ok (.iconst 0, 1) := by decide +kernel
theorem d_law_1080 : decode code 1080 = .ok (.ireturn, 1) := by decide +kernel
theorem d_law_1081 : decode code 1081 = .ok (.iload 5, 2) := by decide +kernel
theorem d_law_1083 : decode code 1083 = .ok (.ifCond .ne 15, 3) := by decide +kernel
theorem d_law_1086 : decode code 1086 = .ok (.aload_n 3, 1) := by decide +kernel
theorem d_law_1087 : decode code 1087 = .ok (.iconst 0, 1) := by decide +kernel
theorem d_law_1088 : decode code 1088 = .ok (.laload, 1) := by decide +kernel
theorem d_law_1089 : decode code 1089 = .ok (.iload 6, 2) := by decide +kernel
theorem d_law_1091 : decode code 1091 = .ok (.i2l, 1) := by decide +kernel
theorem d_law_1092 : decode code 1092 = .ok (.lcmp, 1) := by decide +kernel
theorem d_law_1093 : decode code 1093 = .ok (.ifCond .eq 5, 3) := by decide +kernel
theorem d_law_1096 : decode code 1096 = .ok (.iconst 0, 1) := by decide +kernel
theorem d_law_1097 : decode code 1097 = .ok (.ireturn, 1) := by decide +kernel
theorem d_law_1098 : decode code 1098 = .ok (.goto 84, 3) := by decide +kernel
theorem d_law_1101 : decode code 1101 = .ok (.aload_n 1, 1) := by decide +kernel
theorem d_law_1102 : decode code 1102 = .ok (.aload_n 0, 1) := by decide +kernel
theorem d_law_1103 : decode code 1103 = .ok (.iload 4, 2) := by decide +kernel
theorem d_law_1105 : decode code 1105 = .ok (.iconst 1, 1) := by decide +kernel
theorem d_law_1106 : decode code 1106 = .ok (.iadd, 1) := by decide +kernel
theorem d_law_1107 : decode code 1107 = .ok (.iaload, 1) := by decide +kernel
theorem d_law_1108 : decode code 1108 = .ok (.aload_n 3, 1) := by decide +kernel
theorem d_law_1109 : decode code 1109 = .ok (.invokestatic 120, 3) := by decide +kernel
theorem d_law_1112 : decode code 1112 = .ok (.istore 5, 2) := by decide +kernel
theorem d_law_1114 : decode code 1114 = .ok (.aload_n 2, 1) := by decide +kernel
theorem d_law_1115 : decode code 1115 = .ok (.aload_n 0, 1) := by decide +kernel
theorem d_law_1116 : decode code 1116 = .ok (.iload 4, 2) := by decide +kernel
theorem d_law_1118 : decode code 1118 = .ok (.iconst 1, 1) := by decide +kernel
theorem d_law_1119 : decode code 1119 = .ok (.iadd, 1) := by decide +kernel
theorem d_law_1120 : decode code 1120 = .ok (.iaload, 1) := by decide +kernel
theorem d_law_1121 : decode code 1121 = .ok (.invokevirtual 122, 3) := by decide +kernel
theorem d_law_1124 : decode code 1124 = .ok (.istore 6, 2) := by decide +kernel
theorem d_law_1126 : decode code 1126 = .ok (.aload_n 2, 1) := by decide +kernel
theorem d_law_1127 : decode code 1127 = .ok (.invokevirtual 72, 3) := by decide +kernel
theorem d_law_1130 : decode code 1130 = .ok (.iload 5, 2) := by decide +kernel
theorem d_law_1132 : decode code 1132 = .ok (.if_icmp .eq 5, 3) := by decide +kernel
theorem d_law_1135 : decode code 1135 = .ok (.iconst 0, 1) := by decide +kernel
theorem d_law_1136 : decode code 1136 = .ok (.ireturn, 1) := by decide +kernel
theorem d_law_1137 : decode code 1137 = .ok (.iload 5, 2) := by decide +kernel
theorem d_law_1139 : decode code 1139 = .ok (.ifCond .ne 15, 3) := by decide +kernel
theorem d_law_1142 : decode code 1142 = .ok (.aload_n 3, 1) := by decide +kernel
theorem d_law_1143 : decode code 1143 = .ok (.iconst 0, 1) := by decide +kernel
theorem d_law_1144 : decode code 1144 = .ok (.laload, 1) := by decide +kernel
theorem d_law_1145 : decode code 1145 = .ok (.iload 6, 2) := by decide +kernel
theorem d_law_1147 : decode code 1147 = .ok (.i2l, 1) := by decide +kernel
theorem d_law_1148 : decode code 1148 = .ok (.lcmp, 1) := by decide +kernel
theorem d_law_1149 : decode code 1149 = .ok (.ifCond .eq 5, 3) := by decide +kernel
theorem d_law_1152 : decode code 1152 = .ok (.iconst 0, 1) := by decide +kernel
theorem d_law_1153 : decode code 1153 = .ok (.ireturn, 1) := by decide +kernel
theorem d_law_1154 : decode code 1154 = .ok (.goto 28, 3) := by decide +kernel
theorem d_law_1157 : decode code 1157 = .ok (.aload_n 1, 1) := by decide +kernel
theorem d_law_1158 : decode code 1158 = .ok (.aload_n 0, 1) := by decide +kernel
theorem d_law_1159 : decode code 1159 = .ok (.iload 4, 2) := by decide +kernel
theorem d_law_1161 : decode code 1161 = .ok (.iconst 1, 1) := by decide +kernel
theorem d_law_1162 : decode code 1162 = .ok (.iadd, 1) := by decide +kernel
theorem d_law_1163 : decode code 1163 = .ok (.iaload, 1) := by decide +kernel
theorem d_law_1164 : decode code 1164 = .ok (.invokevirtual 123, 3) := by decide +kernel
theorem d_law_1167 : decode code 1167 = .ok (.aload_n 2, 1) := by decide +kernel
theorem d_law_1168 : decode code 1168 = .ok (.aload_n 0, 1) := by decide +kernel
theorem d_law_1169 : decode code 1169 = .ok (.iload 4, 2) := by decide +kernel
theorem d_law_1171 : decode code 1171 = .ok (.iconst 1, 1) := by decide +kernel
theorem d_law_1172 : decode code 1172 = .ok (.iadd, 1) := by decide +kernel
theorem d_law_1173 : decode code 1173 = .ok (.iaload, 1) := by decide +kernel
theorem d_law_1174 : decode code 1174 = .ok (.invokevirtual 126, 3) := by decide +kernel
theorem d_law_1177 : decode code 1177 = .ok (.if_icmp .eq 5, 3) := by decide +kernel
theorem d_law_1180 : decode code 1180 = .ok (.iconst 0, 1) := by decide +kernel
theorem d_law_1181 : decode code 1181 = .ok (.ireturn, 1) := by decide +kernel
theorem d_law_1182 : decode code 1182 = .ok (.iinc 4 5, 3) := by decide +kernel
theorem d_law_1185 : decode code 1185 = .ok (.goto (-1162), 3) := by decide +kernel
theorem d_law_1188 : decode code 1188 = .ok (.iconst 1, 1) := by decide +kernel
theorem d_law_1189 : decode code 1189 = .ok (.ireturn, 1) := by decide +kernel
