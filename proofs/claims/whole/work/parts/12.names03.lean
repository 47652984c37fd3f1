/-! names, printed by program: methods, their instructions, what they link -/
def M_Sa_small : a_M := (⟨"ModuleSigner$Sampler", "small", "(I[I)V"⟩, prog_7_method_4_code, 6, none, "ModuleSigner$Sampler", 6, 82, [])
theorem ok_Sa_small : a_Ok M_Sa_small := ⟨rfl, by decide +kernel, ⟨by decide, by decide⟩, List.mem_append_right _ (List.mem_of_getElem? (i := 6) (by decide +kernel)), Or.inl ⟨rfl, List.mem_append_right _ (List.mem_of_getElem? (i := 696) (by decide +kernel))⟩⟩
theorem d_Sa_small_0 : decode (a_cc M_Sa_small) 0 = .ok (.iconst 0, 1) := by decide +kernel
theorem d_Sa_small_1 : decode (a_cc M_Sa_small) 1 = .ok (.istore_n 3, 1) := by decide +kernel
theorem d_Sa_small_2 : decode (a_cc M_Sa_small) 2 = .ok (.iconst 0, 1) := by decide +kernel
theorem d_Sa_small_3 : decode (a_cc M_Sa_small) 3 = .ok (.istore 4, 2) := by decide +kernel
theorem d_Sa_small_5 : decode (a_cc M_Sa_small) 5 = .ok (.iload 4, 2) := by decide +kernel
theorem d_Sa_small_7 : decode (a_cc M_Sa_small) 7 = .ok (.sipush 481, 3) := by decide +kernel
theorem d_Sa_small_10 : decode (a_cc M_Sa_small) 10 = .ok (.if_icmp .ge 48, 3) := by decide +kernel
theorem d_Sa_small_13 : decode (a_cc M_Sa_small) 13 = .ok (.iload_n 3, 1) := by decide +kernel
theorem d_Sa_small_14 : decode (a_cc M_Sa_small) 14 = .ok (.sipush 256, 3) := by decide +kernel
theorem d_Sa_small_17 : decode (a_cc M_Sa_small) 17 = .ok (.if_icmp .ge 41, 3) := by decide +kernel
theorem d_Sa_small_20 : decode (a_cc M_Sa_small) 20 = .ok (.aload_n 0, 1) := by decide +kernel
theorem d_Sa_small_21 : decode (a_cc M_Sa_small) 21 = .ok (.getfield 12, 3) := by decide +kernel
theorem d_Sa_small_24 : decode (a_cc M_Sa_small) 24 = .ok (.invokevirtual 47, 3) := by decide +kernel
theorem d_Sa_small_27 : decode (a_cc M_Sa_small) 27 = .ok (.istore 5, 2) := by decide +kernel
theorem d_Sa_small_29 : decode (a_cc M_Sa_small) 29 = .ok (.aload_n 2, 1) := by decide +kernel
theorem d_Sa_small_30 : decode (a_cc M_Sa_small) 30 = .ok (.iload_n 3, 1) := by decide +kernel
theorem d_Sa_small_31 : decode (a_cc M_Sa_small) 31 = .ok (.iload 5, 2) := by decide +kernel
theorem d_Sa_small_33 : decode (a_cc M_Sa_small) 33 = .ok (.bipush 15, 2) := by decide +kernel
theorem d_Sa_small_35 : decode (a_cc M_Sa_small) 35 = .ok (.iand, 1) := by decide +kernel
theorem d_Sa_small_36 : decode (a_cc M_Sa_small) 36 = .ok (.iload_n 1, 1) := by decide +kernel
theorem d_Sa_small_37 : decode (a_cc M_Sa_small) 37 = .ok (.invokestatic 59, 3) := by decide +kernel
theorem d_Sa_small_40 : decode (a_cc M_Sa_small) 40 = .ok (.istore_n 3, 1) := by decide +kernel
theorem d_Sa_small_41 : decode (a_cc M_Sa_small) 41 = .ok (.aload_n 2, 1) := by decide +kernel
theorem d_Sa_small_42 : decode (a_cc M_Sa_small) 42 = .ok (.iload_n 3, 1) := by decide +kernel
theorem d_Sa_small_43 : decode (a_cc M_Sa_small) 43 = .ok (.iload 5, 2) := by decide +kernel
theorem d_Sa_small_45 : decode (a_cc M_Sa_small) 45 = .ok (.iconst 4, 1) := by decide +kernel
theorem d_Sa_small_46 : decode (a_cc M_Sa_small) 46 = .ok (.ishr, 1) := by decide +kernel
theorem d_Sa_small_47 : decode (a_cc M_Sa_small) 47 = .ok (.iload_n 1, 1) := by decide +kernel
theorem d_Sa_small_48 : decode (a_cc M_Sa_small) 48 = .ok (.invokestatic 59, 3) := by decide +kernel
theorem d_Sa_small_51 : decode (a_cc M_Sa_small) 51 = .ok (.istore_n 3, 1) := by decide +kernel
theorem d_Sa_small_52 : decode (a_cc M_Sa_small) 52 = .ok (.iinc 4 1, 3) := by decide +kernel
theorem d_Sa_small_55 : decode (a_cc M_Sa_small) 55 = .ok (.goto (-50), 3) := by decide +kernel
theorem d_Sa_small_58 : decode (a_cc M_Sa_small) 58 = .ok (.iload_n 3, 1) := by decide +kernel
theorem d_Sa_small_59 : decode (a_cc M_Sa_small) 59 = .ok (.sipush 256, 3) := by decide +kernel
theorem d_Sa_small_62 : decode (a_cc M_Sa_small) 62 = .ok (.if_icmp .ge 13, 3) := by decide +kernel
theorem d_Sa_small_65 : decode (a_cc M_Sa_small) 65 = .ok (.new 52, 3) := by decide +kernel
theorem d_Sa_small_68 : decode (a_cc M_Sa_small) 68 = .ok (.dup, 1) := by decide +kernel
theorem d_Sa_small_69 : decode (a_cc M_Sa_small) 69 = .ok (.ldc 63, 2) := by decide +kernel
theorem d_Sa_small_71 : decode (a_cc M_Sa_small) 71 = .ok (.invokespecial 56, 3) := by decide +kernel
theorem d_Sa_small_74 : decode (a_cc M_Sa_small) 74 = .ok (.athrow, 1) := by decide +kernel
theorem d_Sa_small_75 : decode (a_cc M_Sa_small) 75 = .ok (.return_, 1) := by decide +kernel
theorem cs_Sa_small_24 : a_CV M_Sa_small M_Sp_give 47 7 1 0 0 := ⟨⟨ok_Sp_give, by decide, by decide, by decide⟩, by decide, rfl, List.mem_append_right _ (List.mem_of_getElem? (i := 670) (by decide +kernel)), List.mem_append_right _ (List.mem_of_getElem? (i := 647) (by decide +kernel)), List.mem_append_right _ (List.mem_of_getElem? (i := 648) (by decide +kernel)), by decide +kernel⟩
theorem cs_Sa_small_37 : a_CS M_Sa_small M_Sa_addSmall 59 4 0 4 := ⟨⟨ok_Sa_addSmall, by decide, by decide, by decide⟩, List.mem_append_right _ (List.mem_of_getElem? (i := 697) (by decide +kernel)), List.mem_append_right _ (List.mem_of_getElem? (i := 698) (by decide +kernel)), by decide +kernel⟩
theorem cs_Sa_small_48 : a_CS M_Sa_small M_Sa_addSmall 59 4 0 4 := ⟨⟨ok_Sa_addSmall, by decide, by decide, by decide⟩, List.mem_append_right _ (List.mem_of_getElem? (i := 697) (by decide +kernel)), List.mem_append_right _ (List.mem_of_getElem? (i := 698) (by decide +kernel)), by decide +kernel⟩
theorem th_Sa_small_65 : a_Th M_Sa_small 65 4 0 := ⟨_, _, _, "too few small coefficients", d_Sa_small_65, d_Sa_small_68, d_Sa_small_69, d_Sa_small_71, d_Sa_small_74, List.mem_append_right _ (List.mem_of_getElem? (i := 704) (by decide +kernel)), by decide, List.mem_append_right _ (List.mem_of_getElem? (i := 672) (by decide +kernel)), List.mem_append_right _ (List.mem_of_getElem? (i := 682) (by decide +kernel)), rfl, by decide, by decide⟩
def M_KM_drawSecrets : a_M := (⟨"ModuleSigner$KeyMaker", "drawSecrets", "(LModuleSigner$Parameters;)V"⟩, prog_4_method_4_code, 3, none, "ModuleSigner$KeyMaker", 8, 115, [])
theorem ok_KM_drawSecrets : a_Ok M_KM_drawSecrets := ⟨rfl, by decide +kernel, ⟨by decide, by decide⟩, List.mem_append_right _ (List.mem_of_getElem? (i := 8) (by decide +kernel)), Or.inl ⟨rfl, List.mem_append_right _ (List.mem_of_getElem? (i := 654) (by decide +kernel))⟩⟩
theorem d_KM_drawSecrets_0 : decode (a_cc M_KM_drawSecrets) 0 = .ok (.aload_n 0, 1) := by decide +kernel
theorem d_KM_drawSecrets_1 : decode (a_cc M_KM_drawSecrets) 1 = .ok (.getfield 20, 3) := by decide +kernel
theorem d_KM_drawSecrets_4 : decode (a_cc M_KM_drawSecrets) 4 = .ok (.getfield 76, 3) := by decide +kernel
theorem d_KM_drawSecrets_7 : decode (a_cc M_KM_drawSecrets) 7 = .ok (.aload_n 0, 1) := by decide +kernel
theorem d_KM_drawSecrets_8 : decode (a_cc M_KM_drawSecrets) 8 = .ok (.getfield 16, 3) := by decide +kernel
theorem d_KM_drawSecrets_11 : decode (a_cc M_KM_drawSecrets) 11 = .ok (.aload_n 1, 1) := by decide +kernel
theorem d_KM_drawSecrets_12 : decode (a_cc M_KM_drawSecrets) 12 = .ok (.aload_n 0, 1) := by decide +kernel
theorem d_KM_drawSecrets_13 : decode (a_cc M_KM_drawSecrets) 13 = .ok (.getfield 20, 3) := by decide +kernel
theorem d_KM_drawSecrets_16 : decode (a_cc M_KM_drawSecrets) 16 = .ok (.getfield 80, 3) := by decide +kernel
theorem d_KM_drawSecrets_19 : decode (a_cc M_KM_drawSecrets) 19 = .ok (.invokevirtual 84, 3) := by decide +kernel
theorem d_KM_drawSecrets_22 : decode (a_cc M_KM_drawSecrets) 22 = .ok (.iconst 0, 1) := by decide +kernel
theorem d_KM_drawSecrets_23 : decode (a_cc M_KM_drawSecrets) 23 = .ok (.istore_n 2, 1) := by decide +kernel
theorem d_KM_drawSecrets_24 : decode (a_cc M_KM_drawSecrets) 24 = .ok (.iload_n 2, 1) := by decide +kernel
theorem d_KM_drawSecrets_25 : decode (a_cc M_KM_drawSecrets) 25 = .ok (.aload_n 1, 1) := by decide +kernel
theorem d_KM_drawSecrets_26 : decode (a_cc M_KM_drawSecrets) 26 = .ok (.getfield 66, 3) := by decide +kernel
theorem d_KM_drawSecrets_29 : decode (a_cc M_KM_drawSecrets) 29 = .ok (.if_icmp .ge 49, 3) := by decide +kernel
theorem d_KM_drawSecrets_32 : decode (a_cc M_KM_drawSecrets) 32 = .ok (.aload_n 0, 1) := by decide +kernel
theorem d_KM_drawSecrets_33 : decode (a_cc M_KM_drawSecrets) 33 = .ok (.getfield 20, 3) := by decide +kernel
theorem d_KM_drawSecrets_36 : decode (a_cc M_KM_drawSecrets) 36 = .ok (.getfield 76, 3) := by decide +kernel
theorem d_KM_drawSecrets_39 : decode (a_cc M_KM_drawSecrets) 39 = .ok (.aload_n 0, 1) := by decide +kernel
theorem d_KM_drawSecrets_40 : decode (a_cc M_KM_drawSecrets) 40 = .ok (.getfield 16, 3) := by decide +kernel
theorem d_KM_drawSecrets_43 : decode (a_cc M_KM_drawSecrets) 43 = .ok (.bipush 32, 2) := by decide +kernel
theorem d_KM_drawSecrets_45 : decode (a_cc M_KM_drawSecrets) 45 = .ok (.iload_n 2, 1) := by decide +kernel
theorem d_KM_drawSecrets_46 : decode (a_cc M_KM_drawSecrets) 46 = .ok (.invokevirtual 89, 3) := by decide +kernel
theorem d_KM_drawSecrets_49 : decode (a_cc M_KM_drawSecrets) 49 = .ok (.aload_n 0, 1) := by decide +kernel
theorem d_KM_drawSecrets_50 : decode (a_cc M_KM_drawSecrets) 50 = .ok (.getfield 20, 3) := by decide +kernel
theorem d_KM_drawSecrets_53 : decode (a_cc M_KM_drawSecrets) 53 = .ok (.getfield 76, 3) := by decide +kernel
theorem d_KM_drawSecrets_56 : decode (a_cc M_KM_drawSecrets) 56 = .ok (.aload_n 1, 1) := by decide +kernel
theorem d_KM_drawSecrets_57 : decode (a_cc M_KM_drawSecrets) 57 = .ok (.getfield 92, 3) := by decide +kernel
theorem d_KM_drawSecrets_60 : decode (a_cc M_KM_drawSecrets) 60 = .ok (.aload_n 0, 1) := by decide +kernel
theorem d_KM_drawSecrets_61 : decode (a_cc M_KM_drawSecrets) 61 = .ok (.getfield 20, 3) := by decide +kernel
theorem d_KM_drawSecrets_64 : decode (a_cc M_KM_drawSecrets) 64 = .ok (.getfield 95, 3) := by decide +kernel
theorem d_KM_drawSecrets_67 : decode (a_cc M_KM_drawSecrets) 67 = .ok (.iload_n 2, 1) := by decide +kernel
theorem d_KM_drawSecrets_68 : decode (a_cc M_KM_drawSecrets) 68 = .ok (.aaload, 1) := by decide +kernel
theorem d_KM_drawSecrets_69 : decode (a_cc M_KM_drawSecrets) 69 = .ok (.invokevirtual 98, 3) := by decide +kernel
theorem d_KM_drawSecrets_72 : decode (a_cc M_KM_drawSecrets) 72 = .ok (.iinc 2 1, 3) := by decide +kernel
theorem d_KM_drawSecrets_75 : decode (a_cc M_KM_drawSecrets) 75 = .ok (.goto (-51), 3) := by decide +kernel
theorem d_KM_drawSecrets_78 : decode (a_cc M_KM_drawSecrets) 78 = .ok (.iconst 0, 1) := by decide +kernel
theorem d_KM_drawSecrets_79 : decode (a_cc M_KM_drawSecrets) 79 = .ok (.istore_n 2, 1) := by decide +kernel
theorem d_KM_drawSecrets_80 : decode (a_cc M_KM_drawSecrets) 80 = .ok (.iload_n 2, 1) := by decide +kernel
theorem d_KM_drawSecrets_81 : decode (a_cc M_KM_drawSecrets) 81 = .ok (.aload_n 1, 1) := by decide +kernel
theorem d_KM_drawSecrets_82 : decode (a_cc M_KM_drawSecrets) 82 = .ok (.getfield 57, 3) := by decide +kernel
theorem d_KM_drawSecrets_85 : decode (a_cc M_KM_drawSecrets) 85 = .ok (.if_icmp .ge 54, 3) := by decide +kernel
theorem d_KM_drawSecrets_88 : decode (a_cc M_KM_drawSecrets) 88 = .ok (.aload_n 0, 1) := by decide +kernel
theorem d_KM_drawSecrets_89 : decode (a_cc M_KM_drawSecrets) 89 = .ok (.getfield 20, 3) := by decide +kernel
theorem d_KM_drawSecrets_92 : decode (a_cc M_KM_drawSecrets) 92 = .ok (.getfield 76, 3) := by decide +kernel
theorem d_KM_drawSecrets_95 : decode (a_cc M_KM_drawSecrets) 95 = .ok (.aload_n 0, 1) := by decide +kernel
theorem d_KM_drawSecrets_96 : decode (a_cc M_KM_drawSecrets) 96 = .ok (.getfield 16, 3) := by decide +kernel
theorem d_KM_drawSecrets_99 : decode (a_cc M_KM_drawSecrets) 99 = .ok (.bipush 32, 2) := by decide +kernel
theorem d_KM_drawSecrets_101 : decode (a_cc M_KM_drawSecrets) 101 = .ok (.aload_n 1, 1) := by decide +kernel
theorem d_KM_drawSecrets_102 : decode (a_cc M_KM_drawSecrets) 102 = .ok (.getfield 66, 3) := by decide +kernel
theorem d_KM_drawSecrets_105 : decode (a_cc M_KM_drawSecrets) 105 = .ok (.iload_n 2, 1) := by decide +kernel
theorem d_KM_drawSecrets_106 : decode (a_cc M_KM_drawSecrets) 106 = .ok (.iadd, 1) := by decide +kernel
theorem d_KM_drawSecrets_107 : decode (a_cc M_KM_drawSecrets) 107 = .ok (.invokevirtual 89, 3) := by decide +kernel
theorem d_KM_drawSecrets_110 : decode (a_cc M_KM_drawSecrets) 110 = .ok (.aload_n 0, 1) := by decide +kernel
theorem d_KM_drawSecrets_111 : decode (a_cc M_KM_drawSecrets) 111 = .ok (.getfield 20, 3) := by decide +kernel
theorem d_KM_drawSecrets_114 : decode (a_cc M_KM_drawSecrets) 114 = .ok (.getfield 76, 3) := by decide +kernel
theorem d_KM_drawSecrets_117 : decode (a_cc M_KM_drawSecrets) 117 = .ok (.aload_n 1, 1) := by decide +kernel
theorem d_KM_drawSecrets_118 : decode (a_cc M_KM_drawSecrets) 118 = .ok (.getfield 92, 3) := by decide +kernel
theorem d_KM_drawSecrets_121 : decode (a_cc M_KM_drawSecrets) 121 = .ok (.aload_n 0, 1) := by decide +kernel
theorem d_KM_drawSecrets_122 : decode (a_cc M_KM_drawSecrets) 122 = .ok (.getfield 20, 3) := by decide +kernel
theorem d_KM_drawSecrets_125 : decode (a_cc M_KM_drawSecrets) 125 = .ok (.getfield 102, 3) := by decide +kernel
theorem d_KM_drawSecrets_128 : decode (a_cc M_KM_drawSecrets) 128 = .ok (.iload_n 2, 1) := by decide +kernel
theorem d_KM_drawSecrets_129 : decode (a_cc M_KM_drawSecrets) 129 = .ok (.aaload, 1) := by decide +kernel
theorem d_KM_drawSecrets_130 : decode (a_cc M_KM_drawSecrets) 130 = .ok (.invokevirtual 98, 3) := by decide +kernel
theorem d_KM_drawSecrets_133 : decode (a_cc M_KM_drawSecrets) 133 = .ok (.iinc 2 1, 3) := by decide +kernel
theorem d_KM_drawSecrets_136 : decode (a_cc M_KM_drawSecrets) 136 = .ok (.goto (-56), 3) := by decide +kernel
theorem d_KM_drawSecrets_139 : decode (a_cc M_KM_drawSecrets) 139 = .ok (.return_, 1) := by decide +kernel
theorem fd_KM_76 : a_Fd "ModuleSigner$KeyMaker" 76 3 0 2 := ⟨by decide, by decide, rfl, List.mem_append_right _ (List.mem_of_getElem? (i := 224) (by decide +kernel))⟩
theorem fd_KM_80 : a_Fd "ModuleSigner$KeyMaker" 80 3 3 2 := ⟨by decide, by decide, rfl, List.mem_append_right _ (List.mem_of_getElem? (i := 236) (by decide +kernel))⟩
theorem cs_KM_drawSecrets_19 : a_CV M_KM_drawSecrets M_Sa_matrix 84 8 4 0 3 := ⟨⟨ok_Sa_matrix, by decide, by decide, by decide⟩, by decide, rfl, List.mem_append_right _ (List.mem_of_getElem? (i := 655) (by decide +kernel)), List.mem_append_right _ (List.mem_of_getElem? (i := 656) (by decide +kernel)), List.mem_append_right _ (List.mem_of_getElem? (i := 657) (by decide +kernel)), by decide +kernel⟩
theorem cs_KM_drawSecrets_46 : a_CV M_KM_drawSecrets M_Sa_takeNumbered 89 8 4 0 3 := ⟨⟨ok_Sa_takeNumbered, by decide, by decide, by decide⟩, by decide, rfl, List.mem_append_right _ (List.mem_of_getElem? (i := 688) (by decide +kernel)), List.mem_append_right _ (List.mem_of_getElem? (i := 689) (by decide +kernel)), List.mem_append_right _ (List.mem_of_getElem? (i := 690) (by decide +kernel)), by decide +kernel⟩
theorem fd_KM_92 : a_Fd "ModuleSigner$KeyMaker" 92 2 2 0 := ⟨by decide, by decide, rfl, List.mem_append_right _ (List.mem_of_getElem? (i := 94) (by decide +kernel))⟩
theorem fd_KM_95 : a_Fd "ModuleSigner$KeyMaker" 95 3 4 2 := ⟨by decide, by decide, rfl, List.mem_append_right _ (List.mem_of_getElem? (i := 240) (by decide +kernel))⟩
theorem cs_KM_drawSecrets_69 : a_CV M_KM_drawSecrets M_Sa_small 98 8 3 0 2 := ⟨⟨ok_Sa_small, by decide, by decide, by decide⟩, by decide, rfl, List.mem_append_right _ (List.mem_of_getElem? (i := 693) (by decide +kernel)), List.mem_append_right _ (List.mem_of_getElem? (i := 694) (by decide +kernel)), List.mem_append_right _ (List.mem_of_getElem? (i := 695) (by decide +kernel)), by decide +kernel⟩
theorem cs_KM_drawSecrets_107 : a_CV M_KM_drawSecrets M_Sa_takeNumbered 89 8 4 0 3 := ⟨⟨ok_Sa_takeNumbered, by decide, by decide, by decide⟩, by decide, rfl, List.mem_append_right _ (List.mem_of_getElem? (i := 688) (by decide +kernel)), List.mem_append_right _ (List.mem_of_getElem? (i := 689) (by decide +kernel)), List.mem_append_right _ (List.mem_of_getElem? (i := 690) (by decide +kernel)), by decide +kernel⟩
theorem fd_KM_102 : a_Fd "ModuleSigner$KeyMaker" 102 3 5 2 := ⟨by decide, by decide, rfl, List.mem_append_right _ (List.mem_of_getElem? (i := 243) (by decide +kernel))⟩
theorem cs_KM_drawSecrets_130 : a_CV M_KM_drawSecrets M_Sa_small 98 8 3 0 2 := ⟨⟨ok_Sa_small, by decide, by decide, by decide⟩, by decide, rfl, List.mem_append_right _ (List.mem_of_getElem? (i := 693) (by decide +kernel)), List.mem_append_right _ (List.mem_of_getElem? (i := 694) (by decide +kernel)), List.mem_append_right _ (List.mem_of_getElem? (i := 695) (by decide +kernel)), by decide +kernel⟩
def M_Ri_copyRow : a_M := (⟨"ModuleSigner$Ring", "copyRow", "([I[I)V"⟩, prog_6_method_10_code, 2, none, "ModuleSigner$Ring", 1, 18, [])
theorem ok_Ri_copyRow : a_Ok M_Ri_copyRow := ⟨rfl, by decide +kernel, ⟨by decide, by decide⟩, List.mem_append_right _ (List.mem_of_getElem? (i := 4) (by decide +kernel)), Or.inl ⟨rfl, List.mem_append_right _ (List.mem_of_getElem? (i := 711) (by decide +kernel))⟩⟩
theorem d_Ri_copyRow_0 : decode (a_cc M_Ri_copyRow) 0 = .ok (.aload_n 0, 1) := by decide +kernel
theorem d_Ri_copyRow_1 : decode (a_cc M_Ri_copyRow) 1 = .ok (.iconst 0, 1) := by decide +kernel
theorem d_Ri_copyRow_2 : decode (a_cc M_Ri_copyRow) 2 = .ok (.aload_n 1, 1) := by decide +kernel
theorem d_Ri_copyRow_3 : decode (a_cc M_Ri_copyRow) 3 = .ok (.iconst 0, 1) := by decide +kernel
theorem d_Ri_copyRow_4 : decode (a_cc M_Ri_copyRow) 4 = .ok (.sipush 256, 3) := by decide +kernel
theorem d_Ri_copyRow_7 : decode (a_cc M_Ri_copyRow) 7 = .ok (.invokestatic 38, 3) := by decide +kernel
theorem d_Ri_copyRow_10 : decode (a_cc M_Ri_copyRow) 10 = .ok (.return_, 1) := by decide +kernel
theorem ml_Ri_38 : Cond.methodLink "ModuleSigner$Ring" 38 arraycopyName ∈ lw_tbl := List.mem_append_right _ (List.mem_of_getElem? (i := 712) (by decide +kernel))
def M_Ri_plus : a_M := (⟨"ModuleSigner$Ring", "plus", "(II)I"⟩, prog_6_method_4_code, 3, some .int, "ModuleSigner$Ring", 0, 0, [])
theorem ok_Ri_plus : a_Ok M_Ri_plus := ⟨rfl, by decide +kernel, ⟨by decide, by decide⟩, List.mem_append_right _ (List.mem_of_getElem? (i := 4) (by decide +kernel)), Or.inl ⟨rfl, List.mem_append_right _ (List.mem_of_getElem? (i := 723) (by decide +kernel))⟩⟩
theorem d_Ri_plus_0 : decode (a_cc M_Ri_plus) 0 = .ok (.iload_n 0, 1) := by decide +kernel
theorem d_Ri_plus_1 : decode (a_cc M_Ri_plus) 1 = .ok (.iload_n 1, 1) := by decide +kernel
theorem d_Ri_plus_2 : decode (a_cc M_Ri_plus) 2 = .ok (.iadd, 1) := by decide +kernel
theorem d_Ri_plus_3 : decode (a_cc M_Ri_plus) 3 = .ok (.istore_n 2, 1) := by decide +kernel
theorem d_Ri_plus_4 : decode (a_cc M_Ri_plus) 4 = .ok (.iload_n 2, 1) := by decide +kernel
theorem d_Ri_plus_5 : decode (a_cc M_Ri_plus) 5 = .ok (.ldc 21, 2) := by decide +kernel
theorem d_Ri_plus_7 : decode (a_cc M_Ri_plus) 7 = .ok (.if_icmp .lt 10, 3) := by decide +kernel
theorem d_Ri_plus_10 : decode (a_cc M_Ri_plus) 10 = .ok (.iload_n 2, 1) := by decide +kernel
theorem d_Ri_plus_11 : decode (a_cc M_Ri_plus) 11 = .ok (.ldc 21, 2) := by decide +kernel
theorem d_Ri_plus_13 : decode (a_cc M_Ri_plus) 13 = .ok (.isub, 1) := by decide +kernel
theorem d_Ri_plus_14 : decode (a_cc M_Ri_plus) 14 = .ok (.goto 4, 3) := by decide +kernel
theorem d_Ri_plus_17 : decode (a_cc M_Ri_plus) 17 = .ok (.iload_n 2, 1) := by decide +kernel
theorem d_Ri_plus_18 : decode (a_cc M_Ri_plus) 18 = .ok (.ireturn, 1) := by decide +kernel
def M_Ri_split : a_M := (⟨"ModuleSigner$Ring", "split", "([IIIJ)V"⟩, prog_6_method_7_code, 7, none, "ModuleSigner$Ring", 1, 16, [])
theorem ok_Ri_split : a_Ok M_Ri_split := ⟨rfl, by decide +kernel, ⟨by decide, by decide⟩, List.mem_append_right _ (List.mem_of_getElem? (i := 4) (by decide +kernel)), Or.inl ⟨rfl, List.mem_append_right _ (List.mem_of_getElem? (i := 719) (by decide +kernel))⟩⟩
theorem d_Ri_split_0 : decode (a_cc M_Ri_split) 0 = .ok (.iload_n 1, 1) := by decide +kernel
theorem d_Ri_split_1 : decode (a_cc M_Ri_split) 1 = .ok (.istore 5, 2) := by decide +kernel
theorem d_Ri_split_3 : decode (a_cc M_Ri_split) 3 = .ok (.iload 5, 2) := by decide +kernel
theorem d_Ri_split_5 : decode (a_cc M_Ri_split) 5 = .ok (.iload_n 1, 1) := by decide +kernel
theorem d_Ri_split_6 : decode (a_cc M_Ri_split) 6 = .ok (.iload_n 2, 1) := by decide +kernel
theorem d_Ri_split_7 : decode (a_cc M_Ri_split) 7 = .ok (.iadd, 1) := by decide +kernel
theorem d_Ri_split_8 : decode (a_cc M_Ri_split) 8 = .ok (.if_icmp .ge 53, 3) := by decide +kernel
theorem d_Ri_split_11 : decode (a_cc M_Ri_split) 11 = .ok (.lload_n 3, 1) := by decide +kernel
theorem d_Ri_split_12 : decode (a_cc M_Ri_split) 12 = .ok (.aload_n 0, 1) := by decide +kernel
theorem d_Ri_split_13 : decode (a_cc M_Ri_split) 13 = .ok (.iload 5, 2) := by decide +kernel
theorem d_Ri_split_15 : decode (a_cc M_Ri_split) 15 = .ok (.iload_n 2, 1) := by decide +kernel
theorem d_Ri_split_16 : decode (a_cc M_Ri_split) 16 = .ok (.iadd, 1) := by decide +kernel
theorem d_Ri_split_17 : decode (a_cc M_Ri_split) 17 = .ok (.iaload, 1) := by decide +kernel
theorem d_Ri_split_18 : decode (a_cc M_Ri_split) 18 = .ok (.i2l, 1) := by decide +kernel
theorem d_Ri_split_19 : decode (a_cc M_Ri_split) 19 = .ok (.lmul, 1) := by decide +kernel
theorem d_Ri_split_20 : decode (a_cc M_Ri_split) 20 = .ok (.ldc2_w 19, 3) := by decide +kernel
theorem d_Ri_split_23 : decode (a_cc M_Ri_split) 23 = .ok (.lrem, 1) := by decide +kernel
theorem d_Ri_split_24 : decode (a_cc M_Ri_split) 24 = .ok (.l2i, 1) := by decide +kernel
theorem d_Ri_split_25 : decode (a_cc M_Ri_split) 25 = .ok (.istore 6, 2) := by decide +kernel
theorem d_Ri_split_27 : decode (a_cc M_Ri_split) 27 = .ok (.aload_n 0, 1) := by decide +kernel
theorem d_Ri_split_28 : decode (a_cc M_Ri_split) 28 = .ok (.iload 5, 2) := by decide +kernel
theorem d_Ri_split_30 : decode (a_cc M_Ri_split) 30 = .ok (.iload_n 2, 1) := by decide +kernel
theorem d_Ri_split_31 : decode (a_cc M_Ri_split) 31 = .ok (.iadd, 1) := by decide +kernel
theorem d_Ri_split_32 : decode (a_cc M_Ri_split) 32 = .ok (.aload_n 0, 1) := by decide +kernel
theorem d_Ri_split_33 : decode (a_cc M_Ri_split) 33 = .ok (.iload 5, 2) := by decide +kernel
theorem d_Ri_split_35 : decode (a_cc M_Ri_split) 35 = .ok (.iaload, 1) := by decide +kernel
theorem d_Ri_split_36 : decode (a_cc M_Ri_split) 36 = .ok (.iload 6, 2) := by decide +kernel
theorem d_Ri_split_38 : decode (a_cc M_Ri_split) 38 = .ok (.invokestatic 26, 3) := by decide +kernel
theorem d_Ri_split_41 : decode (a_cc M_Ri_split) 41 = .ok (.iastore, 1) := by decide +kernel
theorem d_Ri_split_42 : decode (a_cc M_Ri_split) 42 = .ok (.aload_n 0, 1) := by decide +kernel
theorem d_Ri_split_43 : decode (a_cc M_Ri_split) 43 = .ok (.iload 5, 2) := by decide +kernel
theorem d_Ri_split_45 : decode (a_cc M_Ri_split) 45 = .ok (.aload_n 0, 1) := by decide +kernel
theorem d_Ri_split_46 : decode (a_cc M_Ri_split) 46 = .ok (.iload 5, 2) := by decide +kernel
theorem d_Ri_split_48 : decode (a_cc M_Ri_split) 48 = .ok (.iaload, 1) := by decide +kernel
theorem d_Ri_split_49 : decode (a_cc M_Ri_split) 49 = .ok (.iload 6, 2) := by decide +kernel
theorem d_Ri_split_51 : decode (a_cc M_Ri_split) 51 = .ok (.invokestatic 30, 3) := by decide +kernel
theorem d_Ri_split_54 : decode (a_cc M_Ri_split) 54 = .ok (.iastore, 1) := by decide +kernel
theorem d_Ri_split_55 : decode (a_cc M_Ri_split) 55 = .ok (.iinc 5 1, 3) := by decide +kernel
theorem d_Ri_split_58 : decode (a_cc M_Ri_split) 58 = .ok (.goto (-55), 3) := by decide +kernel
theorem d_Ri_split_61 : decode (a_cc M_Ri_split) 61 = .ok (.return_, 1) := by decide +kernel
theorem cs_Ri_split_38 : a_CS M_Ri_split M_Ri_minus 26 2 2 2 := ⟨⟨ok_Ri_minus, by decide, by decide, by decide⟩, List.mem_append_right _ (List.mem_of_getElem? (i := 720) (by decide +kernel)), List.mem_append_right _ (List.mem_of_getElem? (i := 701) (by decide +kernel)), by decide +kernel⟩
theorem cs_Ri_split_51 : a_CS M_Ri_split M_Ri_plus 30 2 2 2 := ⟨⟨ok_Ri_plus, by decide, by decide, by decide⟩, List.mem_append_right _ (List.mem_of_getElem? (i := 721) (by decide +kernel)), List.mem_append_right _ (List.mem_of_getElem? (i := 722) (by decide +kernel)), by decide +kernel⟩
def M_Ri_forward : a_M := (⟨"ModuleSigner$Ring", "forward", "([I)V"⟩, prog_6_method_6_code, 5, none, "ModuleSigner$Ring", 2, 34, [])
theorem ok_Ri_forward : a_Ok M_Ri_forward := ⟨rfl, by decide +kernel, ⟨by decide, by decide⟩, List.mem_append_right _ (List.mem_of_getElem? (i := 4) (by decide +kernel)), Or.inl ⟨rfl, List.mem_append_right _ (List.mem_of_getElem? (i := 716) (by decide +kernel))⟩⟩
theorem d_Ri_forward_0 : decode (a_cc M_Ri_forward) 0 = .ok (.iconst 0, 1) := by decide +kernel
theorem d_Ri_forward_1 : decode (a_cc M_Ri_forward) 1 = .ok (.istore_n 2, 1) := by decide +kernel
theorem d_Ri_forward_2 : decode (a_cc M_Ri_forward) 2 = .ok (.sipush 128, 3) := by decide +kernel
theorem d_Ri_forward_5 : decode (a_cc M_Ri_forward) 5 = .ok (.istore_n 3, 1) := by decide +kernel
theorem d_Ri_forward_6 : decode (a_cc M_Ri_forward) 6 = .ok (.iload_n 3, 1) := by decide +kernel
theorem d_Ri_forward_7 : decode (a_cc M_Ri_forward) 7 = .ok (.ifCond .le 49, 3) := by decide +kernel
theorem d_Ri_forward_10 : decode (a_cc M_Ri_forward) 10 = .ok (.iconst 0, 1) := by decide +kernel
theorem d_Ri_forward_11 : decode (a_cc M_Ri_forward) 11 = .ok (.istore 4, 2) := by decide +kernel
theorem d_Ri_forward_13 : decode (a_cc M_Ri_forward) 13 = .ok (.iload 4, 2) := by decide +kernel
theorem d_Ri_forward_15 : decode (a_cc M_Ri_forward) 15 = .ok (.sipush 256, 3) := by decide +kernel
theorem d_Ri_forward_18 : decode (a_cc M_Ri_forward) 18 = .ok (.if_icmp .ge 31, 3) := by decide +kernel
theorem d_Ri_forward_21 : decode (a_cc M_Ri_forward) 21 = .ok (.iinc 2 1, 3) := by decide +kernel
theorem d_Ri_forward_24 : decode (a_cc M_Ri_forward) 24 = .ok (.aload_n 1, 1) := by decide +kernel
theorem d_Ri_forward_25 : decode (a_cc M_Ri_forward) 25 = .ok (.iload 4, 2) := by decide +kernel
theorem d_Ri_forward_27 : decode (a_cc M_Ri_forward) 27 = .ok (.iload_n 3, 1) := by decide +kernel
theorem d_Ri_forward_28 : decode (a_cc M_Ri_forward) 28 = .ok (.aload_n 0, 1) := by decide +kernel
theorem d_Ri_forward_29 : decode (a_cc M_Ri_forward) 29 = .ok (.getfield 9, 3) := by decide +kernel
theorem d_Ri_forward_32 : decode (a_cc M_Ri_forward) 32 = .ok (.iload_n 2, 1) := by decide +kernel
theorem d_Ri_forward_33 : decode (a_cc M_Ri_forward) 33 = .ok (.iaload, 1) := by decide +kernel
theorem d_Ri_forward_34 : decode (a_cc M_Ri_forward) 34 = .ok (.i2l, 1) := by decide +kernel
theorem d_Ri_forward_35 : decode (a_cc M_Ri_forward) 35 = .ok (.invokestatic 22, 3) := by decide +kernel
theorem d_Ri_forward_38 : decode (a_cc M_Ri_forward) 38 = .ok (.iload 4, 2) := by decide +kernel
theorem d_Ri_forward_40 : decode (a_cc M_Ri_forward) 40 = .ok (.iconst 2, 1) := by decide +kernel
theorem d_Ri_forward_41 : decode (a_cc M_Ri_forward) 41 = .ok (.iload_n 3, 1) := by decide +kernel
theorem d_Ri_forward_42 : decode (a_cc M_Ri_forward) 42 = .ok (.imul, 1) := by decide +kernel
theorem d_Ri_forward_43 : decode (a_cc M_Ri_forward) 43 = .ok (.iadd, 1) := by decide +kernel
theorem d_Ri_forward_44 : decode (a_cc M_Ri_forward) 44 = .ok (.istore 4, 2) := by decide +kernel
theorem d_Ri_forward_46 : decode (a_cc M_Ri_forward) 46 = .ok (.goto (-33), 3) := by decide +kernel
theorem d_Ri_forward_49 : decode (a_cc M_Ri_forward) 49 = .ok (.iload_n 3, 1) := by decide +kernel
theorem d_Ri_forward_50 : decode (a_cc M_Ri_forward) 50 = .ok (.iconst 1, 1) := by decide +kernel
theorem d_Ri_forward_51 : decode (a_cc M_Ri_forward) 51 = .ok (.ishr, 1) := by decide +kernel
theorem d_Ri_forward_52 : decode (a_cc M_Ri_forward) 52 = .ok (.istore_n 3, 1) := by decide +kernel
theorem d_Ri_forward_53 : decode (a_cc M_Ri_forward) 53 = .ok (.goto (-47), 3) := by decide +kernel
theorem d_Ri_forward_56 : decode (a_cc M_Ri_forward) 56 = .ok (.return_, 1) := by decide +kernel
theorem cs_Ri_forward_35 : a_CS M_Ri_forward M_Ri_split 22 5 0 4 := ⟨⟨ok_Ri_split, by decide, by decide, by decide⟩, List.mem_append_right _ (List.mem_of_getElem? (i := 717) (by decide +kernel)), List.mem_append_right _ (List.mem_of_getElem? (i := 718) (by decide +kernel)), by decide +kernel⟩
def M_Ri_multiplyRows : a_M := (⟨"ModuleSigner$Ring", "multiplyRows", "([[II[[II[I)V"⟩, prog_6_method_15_code, 9, none, "ModuleSigner$Ring", 0, 0, [])
theorem ok_Ri_multiplyRows : a_Ok M_Ri_multiplyRows := ⟨rfl, by decide +kernel, ⟨by decide, by decide⟩, List.mem_append_right _ (List.mem_of_getElem? (i := 4) (by decide +kernel)), Or.inl ⟨rfl, List.mem_append_right _ (List.mem_of_getElem? (i := 730) (by decide +kernel))⟩⟩
theorem d_Ri_multiplyRows_0 : decode (a_cc M_Ri_multiplyRows) 0 = .ok (.iconst 0, 1) := by decide +kernel
theorem d_Ri_multiplyRows_1 : decode (a_cc M_Ri_multiplyRows) 1 = .ok (.istore 5, 2) := by decide +kernel
theorem d_Ri_multiplyRows_3 : decode (a_cc M_Ri_multiplyRows) 3 = .ok (.iload 5, 2) := by decide +kernel
theorem d_Ri_multiplyRows_5 : decode (a_cc M_Ri_multiplyRows) 5 = .ok (.sipush 256, 3) := by decide +kernel
theorem d_Ri_multiplyRows_8 : decode (a_cc M_Ri_multiplyRows) 8 = .ok (.if_icmp .ge 63, 3) := by decide +kernel
theorem d_Ri_multiplyRows_11 : decode (a_cc M_Ri_multiplyRows) 11 = .ok (.lconst 0, 1) := by decide +kernel
theorem d_Ri_multiplyRows_12 : decode (a_cc M_Ri_multiplyRows) 12 = .ok (.lstore 6, 2) := by decide +kernel
theorem d_Ri_multiplyRows_14 : decode (a_cc M_Ri_multiplyRows) 14 = .ok (.iconst 0, 1) := by decide +kernel
theorem d_Ri_multiplyRows_15 : decode (a_cc M_Ri_multiplyRows) 15 = .ok (.istore 8, 2) := by decide +kernel
theorem d_Ri_multiplyRows_17 : decode (a_cc M_Ri_multiplyRows) 17 = .ok (.iload 8, 2) := by decide +kernel
theorem d_Ri_multiplyRows_19 : decode (a_cc M_Ri_multiplyRows) 19 = .ok (.iload_n 3, 1) := by decide +kernel
theorem d_Ri_multiplyRows_20 : decode (a_cc M_Ri_multiplyRows) 20 = .ok (.if_icmp .ge 33, 3) := by decide +kernel
theorem d_Ri_multiplyRows_23 : decode (a_cc M_Ri_multiplyRows) 23 = .ok (.lload 6, 2) := by decide +kernel
theorem d_Ri_multiplyRows_25 : decode (a_cc M_Ri_multiplyRows) 25 = .ok (.aload_n 0, 1) := by decide +kernel
theorem d_Ri_multiplyRows_26 : decode (a_cc M_Ri_multiplyRows) 26 = .ok (.iload_n 1, 1) := by decide +kernel
theorem d_Ri_multiplyRows_27 : decode (a_cc M_Ri_multiplyRows) 27 = .ok (.iload 8, 2) := by decide +kernel
theorem d_Ri_multiplyRows_29 : decode (a_cc M_Ri_multiplyRows) 29 = .ok (.iadd, 1) := by decide +kernel
theorem d_Ri_multiplyRows_30 : decode (a_cc M_Ri_multiplyRows) 30 = .ok (.aaload, 1) := by decide +kernel
theorem d_Ri_multiplyRows_31 : decode (a_cc M_Ri_multiplyRows) 31 = .ok (.iload 5, 2) := by decide +kernel
theorem d_Ri_multiplyRows_33 : decode (a_cc M_Ri_multiplyRows) 33 = .ok (.iaload, 1) := by decide +kernel
theorem d_Ri_multiplyRows_34 : decode (a_cc M_Ri_multiplyRows) 34 = .ok (.i2l, 1) := by decide +kernel
theorem d_Ri_multiplyRows_35 : decode (a_cc M_Ri_multiplyRows) 35 = .ok (.aload_n 2, 1) := by decide +kernel
theorem d_Ri_multiplyRows_36 : decode (a_cc M_Ri_multiplyRows) 36 = .ok (.iload 8, 2) := by decide +kernel
theorem d_Ri_multiplyRows_38 : decode (a_cc M_Ri_multiplyRows) 38 = .ok (.aaload, 1) := by decide +kernel
theorem d_Ri_multiplyRows_39 : decode (a_cc M_Ri_multiplyRows) 39 = .ok (.iload 5, 2) := by decide +kernel
theorem d_Ri_multiplyRows_41 : decode (a_cc M_Ri_multiplyRows) 41 = .ok (.iaload, 1) := by decide +kernel
theorem d_Ri_multiplyRows_42 : decode (a_cc M_Ri_multiplyRows) 42 = .ok (.i2l, 1) := by decide +kernel
theorem d_Ri_multiplyRows_43 : decode (a_cc M_Ri_multiplyRows) 43 = .ok (.lmul, 1) := by decide +kernel
theorem d_Ri_multiplyRows_44 : decode (a_cc M_Ri_multiplyRows) 44 = .ok (.ladd, 1) := by decide +kernel
theorem d_Ri_multiplyRows_45 : decode (a_cc M_Ri_multiplyRows) 45 = .ok (.lstore 6, 2) := by decide +kernel
theorem d_Ri_multiplyRows_47 : decode (a_cc M_Ri_multiplyRows) 47 = .ok (.iinc 8 1, 3) := by decide +kernel
theorem d_Ri_multiplyRows_50 : decode (a_cc M_Ri_multiplyRows) 50 = .ok (.goto (-33), 3) := by decide +kernel
theorem d_Ri_multiplyRows_53 : decode (a_cc M_Ri_multiplyRows) 53 = .ok (.aload 4, 2) := by decide +kernel
theorem d_Ri_multiplyRows_55 : decode (a_cc M_Ri_multiplyRows) 55 = .ok (.iload 5, 2) := by decide +kernel
theorem d_Ri_multiplyRows_57 : decode (a_cc M_Ri_multiplyRows) 57 = .ok (.lload 6, 2) := by decide +kernel
theorem d_Ri_multiplyRows_59 : decode (a_cc M_Ri_multiplyRows) 59 = .ok (.ldc2_w 19, 3) := by decide +kernel
theorem d_Ri_multiplyRows_62 : decode (a_cc M_Ri_multiplyRows) 62 = .ok (.lrem, 1) := by decide +kernel
theorem d_Ri_multiplyRows_63 : decode (a_cc M_Ri_multiplyRows) 63 = .ok (.l2i, 1) := by decide +kernel
theorem d_Ri_multiplyRows_64 : decode (a_cc M_Ri_multiplyRows) 64 = .ok (.iastore, 1) := by decide +kernel
theorem d_Ri_multiplyRows_65 : decode (a_cc M_Ri_multiplyRows) 65 = .ok (.iinc 5 1, 3) := by decide +kernel
theorem d_Ri_multiplyRows_68 : decode (a_cc M_Ri_multiplyRows) 68 = .ok (.goto (-65), 3) := by decide +kernel
theorem d_Ri_multiplyRows_71 : decode (a_cc M_Ri_multiplyRows) 71 = .ok (.return_, 1) := by decide +kernel
def M_Be_multiplyMatrix : a_M := (⟨"ModuleSigner$Bench", "multiplyMatrix", "(LModuleSigner$Parameters;)V"⟩, prog_2_method_2_code, 3, none, "ModuleSigner$Bench", 1, 20, [])
theorem ok_Be_multiplyMatrix : a_Ok M_Be_multiplyMatrix := ⟨rfl, by decide +kernel, ⟨by decide, by decide⟩, List.mem_append_right _ (List.mem_of_getElem? (i := 5) (by decide +kernel)), Or.inl ⟨rfl, List.mem_append_right _ (List.mem_of_getElem? (i := 727) (by decide +kernel))⟩⟩
theorem d_Be_multiplyMatrix_0 : decode (a_cc M_Be_multiplyMatrix) 0 = .ok (.iconst 0, 1) := by decide +kernel
theorem d_Be_multiplyMatrix_1 : decode (a_cc M_Be_multiplyMatrix) 1 = .ok (.istore_n 2, 1) := by decide +kernel
theorem d_Be_multiplyMatrix_2 : decode (a_cc M_Be_multiplyMatrix) 2 = .ok (.iload_n 2, 1) := by decide +kernel
theorem d_Be_multiplyMatrix_3 : decode (a_cc M_Be_multiplyMatrix) 3 = .ok (.aload_n 1, 1) := by decide +kernel
theorem d_Be_multiplyMatrix_4 : decode (a_cc M_Be_multiplyMatrix) 4 = .ok (.getfield 69, 3) := by decide +kernel
theorem d_Be_multiplyMatrix_7 : decode (a_cc M_Be_multiplyMatrix) 7 = .ok (.if_icmp .ge 36, 3) := by decide +kernel
theorem d_Be_multiplyMatrix_10 : decode (a_cc M_Be_multiplyMatrix) 10 = .ok (.aload_n 0, 1) := by decide +kernel
theorem d_Be_multiplyMatrix_11 : decode (a_cc M_Be_multiplyMatrix) 11 = .ok (.getfield 32, 3) := by decide +kernel
theorem d_Be_multiplyMatrix_14 : decode (a_cc M_Be_multiplyMatrix) 14 = .ok (.iload_n 2, 1) := by decide +kernel
theorem d_Be_multiplyMatrix_15 : decode (a_cc M_Be_multiplyMatrix) 15 = .ok (.aload_n 1, 1) := by decide +kernel
theorem d_Be_multiplyMatrix_16 : decode (a_cc M_Be_multiplyMatrix) 16 = .ok (.getfield 75, 3) := by decide +kernel
theorem d_Be_multiplyMatrix_19 : decode (a_cc M_Be_multiplyMatrix) 19 = .ok (.imul, 1) := by decide +kernel
theorem d_Be_multiplyMatrix_20 : decode (a_cc M_Be_multiplyMatrix) 20 = .ok (.aload_n 0, 1) := by decide +kernel
theorem d_Be_multiplyMatrix_21 : decode (a_cc M_Be_multiplyMatrix) 21 = .ok (.getfield 41, 3) := by decide +kernel
theorem d_Be_multiplyMatrix_24 : decode (a_cc M_Be_multiplyMatrix) 24 = .ok (.aload_n 1, 1) := by decide +kernel
theorem d_Be_multiplyMatrix_25 : decode (a_cc M_Be_multiplyMatrix) 25 = .ok (.getfield 75, 3) := by decide +kernel
theorem d_Be_multiplyMatrix_28 : decode (a_cc M_Be_multiplyMatrix) 28 = .ok (.aload_n 0, 1) := by decide +kernel
theorem d_Be_multiplyMatrix_29 : decode (a_cc M_Be_multiplyMatrix) 29 = .ok (.getfield 44, 3) := by decide +kernel
theorem d_Be_multiplyMatrix_32 : decode (a_cc M_Be_multiplyMatrix) 32 = .ok (.iload_n 2, 1) := by decide +kernel
theorem d_Be_multiplyMatrix_33 : decode (a_cc M_Be_multiplyMatrix) 33 = .ok (.aaload, 1) := by decide +kernel
theorem d_Be_multiplyMatrix_34 : decode (a_cc M_Be_multiplyMatrix) 34 = .ok (.invokestatic 78, 3) := by decide +kernel
theorem d_Be_multiplyMatrix_37 : decode (a_cc M_Be_multiplyMatrix) 37 = .ok (.iinc 2 1, 3) := by decide +kernel
theorem d_Be_multiplyMatrix_40 : decode (a_cc M_Be_multiplyMatrix) 40 = .ok (.goto (-38), 3) := by decide +kernel
theorem d_Be_multiplyMatrix_43 : decode (a_cc M_Be_multiplyMatrix) 43 = .ok (.return_, 1) := by decide +kernel
theorem fd_Be_69 : a_Fd "ModuleSigner$Bench" 69 2 0 0 := ⟨by decide, by decide, rfl, List.mem_append_right _ (List.mem_of_getElem? (i := 81) (by decide +kernel))⟩
theorem fd_Be_75 : a_Fd "ModuleSigner$Bench" 75 2 1 0 := ⟨by decide, by decide, rfl, List.mem_append_right _ (List.mem_of_getElem? (i := 87) (by decide +kernel))⟩
theorem cs_Be_multiplyMatrix_34 : a_CS M_Be_multiplyMatrix M_Ri_multiplyRows 78 5 0 5 := ⟨⟨ok_Ri_multiplyRows, by decide, by decide, by decide⟩, List.mem_append_right _ (List.mem_of_getElem? (i := 728) (by decide +kernel)), List.mem_append_right _ (List.mem_of_getElem? (i := 729) (by decide +kernel)), by decide +kernel⟩
def M_Ri_join : a_M := (⟨"ModuleSigner$Ring", "join", "([IIIJ)V"⟩, prog_6_method_9_code, 7, none, "ModuleSigner$Ring", 1, 18, [])
theorem ok_Ri_join : a_Ok M_Ri_join := ⟨rfl, by decide +kernel, ⟨by decide, by decide⟩, List.mem_append_right _ (List.mem_of_getElem? (i := 4) (by decide +kernel)), Or.inl ⟨rfl, List.mem_append_right _ (List.mem_of_getElem? (i := 737) (by decide +kernel))⟩⟩
theorem d_Ri_join_0 : decode (a_cc M_Ri_join) 0 = .ok (.iload_n 1, 1) := by decide +kernel
theorem d_Ri_join_1 : decode (a_cc M_Ri_join) 1 = .ok (.istore 5, 2) := by decide +kernel
theorem d_Ri_join_3 : decode (a_cc M_Ri_join) 3 = .ok (.iload 5, 2) := by decide +kernel
theorem d_Ri_join_5 : decode (a_cc M_Ri_join) 5 = .ok (.iload_n 1, 1) := by decide +kernel
theorem d_Ri_join_6 : decode (a_cc M_Ri_join) 6 = .ok (.iload_n 2, 1) := by decide +kernel
theorem d_Ri_join_7 : decode (a_cc M_Ri_join) 7 = .ok (.iadd, 1) := by decide +kernel
theorem d_Ri_join_8 : decode (a_cc M_Ri_join) 8 = .ok (.if_icmp .ge 55, 3) := by decide +kernel
theorem d_Ri_join_11 : decode (a_cc M_Ri_join) 11 = .ok (.aload_n 0, 1) := by decide +kernel
theorem d_Ri_join_12 : decode (a_cc M_Ri_join) 12 = .ok (.iload 5, 2) := by decide +kernel
theorem d_Ri_join_14 : decode (a_cc M_Ri_join) 14 = .ok (.iaload, 1) := by decide +kernel
theorem d_Ri_join_15 : decode (a_cc M_Ri_join) 15 = .ok (.istore 6, 2) := by decide +kernel
theorem d_Ri_join_17 : decode (a_cc M_Ri_join) 17 = .ok (.aload_n 0, 1) := by decide +kernel
theorem d_Ri_join_18 : decode (a_cc M_Ri_join) 18 = .ok (.iload 5, 2) := by decide +kernel
theorem d_Ri_join_20 : decode (a_cc M_Ri_join) 20 = .ok (.iload 6, 2) := by decide +kernel
theorem d_Ri_join_22 : decode (a_cc M_Ri_join) 22 = .ok (.aload_n 0, 1) := by decide +kernel
theorem d_Ri_join_23 : decode (a_cc M_Ri_join) 23 = .ok (.iload 5, 2) := by decide +kernel
theorem d_Ri_join_25 : decode (a_cc M_Ri_join) 25 = .ok (.iload_n 2, 1) := by decide +kernel
theorem d_Ri_join_26 : decode (a_cc M_Ri_join) 26 = .ok (.iadd, 1) := by decide +kernel
theorem d_Ri_join_27 : decode (a_cc M_Ri_join) 27 = .ok (.iaload, 1) := by decide +kernel
theorem d_Ri_join_28 : decode (a_cc M_Ri_join) 28 = .ok (.invokestatic 30, 3) := by decide +kernel
theorem d_Ri_join_31 : decode (a_cc M_Ri_join) 31 = .ok (.iastore, 1) := by decide +kernel
theorem d_Ri_join_32 : decode (a_cc M_Ri_join) 32 = .ok (.aload_n 0, 1) := by decide +kernel
theorem d_Ri_join_33 : decode (a_cc M_Ri_join) 33 = .ok (.iload 5, 2) := by decide +kernel
theorem d_Ri_join_35 : decode (a_cc M_Ri_join) 35 = .ok (.iload_n 2, 1) := by decide +kernel
theorem d_Ri_join_36 : decode (a_cc M_Ri_join) 36 = .ok (.iadd, 1) := by decide +kernel
theorem d_Ri_join_37 : decode (a_cc M_Ri_join) 37 = .ok (.lload_n 3, 1) := by decide +kernel
theorem d_Ri_join_38 : decode (a_cc M_Ri_join) 38 = .ok (.aload_n 0, 1) := by decide +kernel
theorem d_Ri_join_39 : decode (a_cc M_Ri_join) 39 = .ok (.iload 5, 2) := by decide +kernel
theorem d_Ri_join_41 : decode (a_cc M_Ri_join) 41 = .ok (.iload_n 2, 1) := by decide +kernel
theorem d_Ri_join_42 : decode (a_cc M_Ri_join) 42 = .ok (.iadd, 1) := by decide +kernel
theorem d_Ri_join_43 : decode (a_cc M_Ri_join) 43 = .ok (.iaload, 1) := by decide +kernel
theorem d_Ri_join_44 : decode (a_cc M_Ri_join) 44 = .ok (.iload 6, 2) := by decide +kernel
theorem d_Ri_join_46 : decode (a_cc M_Ri_join) 46 = .ok (.invokestatic 26, 3) := by decide +kernel
theorem d_Ri_join_49 : decode (a_cc M_Ri_join) 49 = .ok (.i2l, 1) := by decide +kernel
theorem d_Ri_join_50 : decode (a_cc M_Ri_join) 50 = .ok (.lmul, 1) := by decide +kernel
theorem d_Ri_join_51 : decode (a_cc M_Ri_join) 51 = .ok (.ldc2_w 19, 3) := by decide +kernel
theorem d_Ri_join_54 : decode (a_cc M_Ri_join) 54 = .ok (.lrem, 1) := by decide +kernel
theorem d_Ri_join_55 : decode (a_cc M_Ri_join) 55 = .ok (.l2i, 1) := by decide +kernel
theorem d_Ri_join_56 : decode (a_cc M_Ri_join) 56 = .ok (.iastore, 1) := by decide +kernel
theorem d_Ri_join_57 : decode (a_cc M_Ri_join) 57 = .ok (.iinc 5 1, 3) := by decide +kernel
theorem d_Ri_join_60 : decode (a_cc M_Ri_join) 60 = .ok (.goto (-57), 3) := by decide +kernel
theorem d_Ri_join_63 : decode (a_cc M_Ri_join) 63 = .ok (.return_, 1) := by decide +kernel
theorem cs_Ri_join_28 : a_CS M_Ri_join M_Ri_plus 30 2 2 2 := ⟨⟨ok_Ri_plus, by decide, by decide, by decide⟩, List.mem_append_right _ (List.mem_of_getElem? (i := 721) (by decide +kernel)), List.mem_append_right _ (List.mem_of_getElem? (i := 722) (by decide +kernel)), by decide +kernel⟩
theorem cs_Ri_join_46 : a_CS M_Ri_join M_Ri_minus 26 2 4 2 := ⟨⟨ok_Ri_minus, by decide, by decide, by decide⟩, List.mem_append_right _ (List.mem_of_getElem? (i := 720) (by decide +kernel)), List.mem_append_right _ (List.mem_of_getElem? (i := 701) (by decide +kernel)), by decide +kernel⟩
def M_Ri_back : a_M := (⟨"ModuleSigner$Ring", "back", "([I)V"⟩, prog_6_method_8_code, 5, none, "ModuleSigner$Ring", 2, 36, [])
theorem ok_Ri_back : a_Ok M_Ri_back := ⟨rfl, by decide +kernel, ⟨by decide, by decide⟩, List.mem_append_right _ (List.mem_of_getElem? (i := 4) (by decide +kernel)), Or.inl ⟨rfl, List.mem_append_right _ (List.mem_of_getElem? (i := 734) (by decide +kernel))⟩⟩
theorem d_Ri_back_0 : decode (a_cc M_Ri_back) 0 = .ok (.sipush 256, 3) := by decide +kernel
theorem d_Ri_back_3 : decode (a_cc M_Ri_back) 3 = .ok (.istore_n 2, 1) := by decide +kernel
theorem d_Ri_back_4 : decode (a_cc M_Ri_back) 4 = .ok (.iconst 1, 1) := by decide +kernel
theorem d_Ri_back_5 : decode (a_cc M_Ri_back) 5 = .ok (.istore_n 3, 1) := by decide +kernel
theorem d_Ri_back_6 : decode (a_cc M_Ri_back) 6 = .ok (.iload_n 3, 1) := by decide +kernel
theorem d_Ri_back_7 : decode (a_cc M_Ri_back) 7 = .ok (.sipush 256, 3) := by decide +kernel
theorem d_Ri_back_10 : decode (a_cc M_Ri_back) 10 = .ok (.if_icmp .ge 49, 3) := by decide +kernel
theorem d_Ri_back_13 : decode (a_cc M_Ri_back) 13 = .ok (.iconst 0, 1) := by decide +kernel
theorem d_Ri_back_14 : decode (a_cc M_Ri_back) 14 = .ok (.istore 4, 2) := by decide +kernel
theorem d_Ri_back_16 : decode (a_cc M_Ri_back) 16 = .ok (.iload 4, 2) := by decide +kernel
theorem d_Ri_back_18 : decode (a_cc M_Ri_back) 18 = .ok (.sipush 256, 3) := by decide +kernel
theorem d_Ri_back_21 : decode (a_cc M_Ri_back) 21 = .ok (.if_icmp .ge 31, 3) := by decide +kernel
theorem d_Ri_back_24 : decode (a_cc M_Ri_back) 24 = .ok (.iinc 2 (-1), 3) := by decide +kernel
theorem d_Ri_back_27 : decode (a_cc M_Ri_back) 27 = .ok (.aload_n 1, 1) := by decide +kernel
theorem d_Ri_back_28 : decode (a_cc M_Ri_back) 28 = .ok (.iload 4, 2) := by decide +kernel
theorem d_Ri_back_30 : decode (a_cc M_Ri_back) 30 = .ok (.iload_n 3, 1) := by decide +kernel
theorem d_Ri_back_31 : decode (a_cc M_Ri_back) 31 = .ok (.aload_n 0, 1) := by decide +kernel
theorem d_Ri_back_32 : decode (a_cc M_Ri_back) 32 = .ok (.getfield 9, 3) := by decide +kernel
theorem d_Ri_back_35 : decode (a_cc M_Ri_back) 35 = .ok (.iload_n 2, 1) := by decide +kernel
theorem d_Ri_back_36 : decode (a_cc M_Ri_back) 36 = .ok (.iaload, 1) := by decide +kernel
theorem d_Ri_back_37 : decode (a_cc M_Ri_back) 37 = .ok (.i2l, 1) := by decide +kernel
theorem d_Ri_back_38 : decode (a_cc M_Ri_back) 38 = .ok (.invokestatic 33, 3) := by decide +kernel
theorem d_Ri_back_41 : decode (a_cc M_Ri_back) 41 = .ok (.iload 4, 2) := by decide +kernel
theorem d_Ri_back_43 : decode (a_cc M_Ri_back) 43 = .ok (.iconst 2, 1) := by decide +kernel
theorem d_Ri_back_44 : decode (a_cc M_Ri_back) 44 = .ok (.iload_n 3, 1) := by decide +kernel
theorem d_Ri_back_45 : decode (a_cc M_Ri_back) 45 = .ok (.imul, 1) := by decide +kernel
theorem d_Ri_back_46 : decode (a_cc M_Ri_back) 46 = .ok (.iadd, 1) := by decide +kernel
theorem d_Ri_back_47 : decode (a_cc M_Ri_back) 47 = .ok (.istore 4, 2) := by decide +kernel
theorem d_Ri_back_49 : decode (a_cc M_Ri_back) 49 = .ok (.goto (-33), 3) := by decide +kernel
theorem d_Ri_back_52 : decode (a_cc M_Ri_back) 52 = .ok (.iload_n 3, 1) := by decide +kernel
theorem d_Ri_back_53 : decode (a_cc M_Ri_back) 53 = .ok (.iconst 1, 1) := by decide +kernel
theorem d_Ri_back_54 : decode (a_cc M_Ri_back) 54 = .ok (.ishl, 1) := by decide +kernel
theorem d_Ri_back_55 : decode (a_cc M_Ri_back) 55 = .ok (.istore_n 3, 1) := by decide +kernel
theorem d_Ri_back_56 : decode (a_cc M_Ri_back) 56 = .ok (.goto (-50), 3) := by decide +kernel
theorem d_Ri_back_59 : decode (a_cc M_Ri_back) 59 = .ok (.iconst 0, 1) := by decide +kernel
theorem d_Ri_back_60 : decode (a_cc M_Ri_back) 60 = .ok (.istore_n 3, 1) := by decide +kernel
theorem d_Ri_back_61 : decode (a_cc M_Ri_back) 61 = .ok (.iload_n 3, 1) := by decide +kernel
theorem d_Ri_back_62 : decode (a_cc M_Ri_back) 62 = .ok (.sipush 256, 3) := by decide +kernel
theorem d_Ri_back_65 : decode (a_cc M_Ri_back) 65 = .ok (.if_icmp .ge 25, 3) := by decide +kernel
theorem d_Ri_back_68 : decode (a_cc M_Ri_back) 68 = .ok (.aload_n 1, 1) := by decide +kernel
theorem d_Ri_back_69 : decode (a_cc M_Ri_back) 69 = .ok (.iload_n 3, 1) := by decide +kernel
theorem d_Ri_back_70 : decode (a_cc M_Ri_back) 70 = .ok (.ldc2_w 36, 3) := by decide +kernel
theorem d_Ri_back_73 : decode (a_cc M_Ri_back) 73 = .ok (.aload_n 1, 1) := by decide +kernel
theorem d_Ri_back_74 : decode (a_cc M_Ri_back) 74 = .ok (.iload_n 3, 1) := by decide +kernel
theorem d_Ri_back_75 : decode (a_cc M_Ri_back) 75 = .ok (.iaload, 1) := by decide +kernel
theorem d_Ri_back_76 : decode (a_cc M_Ri_back) 76 = .ok (.i2l, 1) := by decide +kernel
theorem d_Ri_back_77 : decode (a_cc M_Ri_back) 77 = .ok (.lmul, 1) := by decide +kernel
theorem d_Ri_back_78 : decode (a_cc M_Ri_back) 78 = .ok (.ldc2_w 19, 3) := by decide +kernel
theorem d_Ri_back_81 : decode (a_cc M_Ri_back) 81 = .ok (.lrem, 1) := by decide +kernel
theorem d_Ri_back_82 : decode (a_cc M_Ri_back) 82 = .ok (.l2i, 1) := by decide +kernel
theorem d_Ri_back_83 : decode (a_cc M_Ri_back) 83 = .ok (.iastore, 1) := by decide +kernel
theorem d_Ri_back_84 : decode (a_cc M_Ri_back) 84 = .ok (.iinc 3 1, 3) := by decide +kernel
theorem d_Ri_back_87 : decode (a_cc M_Ri_back) 87 = .ok (.goto (-26), 3) := by decide +kernel
theorem d_Ri_back_90 : decode (a_cc M_Ri_back) 90 = .ok (.return_, 1) := by decide +kernel
theorem cs_Ri_back_38 : a_CS M_Ri_back M_Ri_join 33 5 0 4 := ⟨⟨ok_Ri_join, by decide, by decide, by decide⟩, List.mem_append_right _ (List.mem_of_getElem? (i := 735) (by decide +kernel)), List.mem_append_right _ (List.mem_of_getElem? (i := 736) (by decide +kernel)), by decide +kernel⟩
theorem lc_Ri_36 : Cond.constantLong "ModuleSigner$Ring" 36 (Int64.ofInt (8347681)) ∈ lw_tbl := List.mem_append_right _ (List.mem_of_getElem? (i := 738) (by decide +kernel))
def M_Ri_addTo : a_M := (⟨"ModuleSigner$Ring", "addTo", "([I[I)V"⟩, prog_6_method_11_code, 3, none, "ModuleSigner$Ring", 1, 16, [])
theorem ok_Ri_addTo : a_Ok M_Ri_addTo := ⟨rfl, by decide +kernel, ⟨by decide, by decide⟩, List.mem_append_right _ (List.mem_of_getElem? (i := 4) (by decide +kernel)), Or.inl ⟨rfl, List.mem_append_right _ (List.mem_of_getElem? (i := 741) (by decide +kernel))⟩⟩
theorem d_Ri_addTo_0 : decode (a_cc M_Ri_addTo) 0 = .ok (.iconst 0, 1) := by decide +kernel
theorem d_Ri_addTo_1 : decode (a_cc M_Ri_addTo) 1 = .ok (.istore_n 2, 1) := by decide +kernel
theorem d_Ri_addTo_2 : decode (a_cc M_Ri_addTo) 2 = .ok (.iload_n 2, 1) := by decide +kernel
theorem d_Ri_addTo_3 : decode (a_cc M_Ri_addTo) 3 = .ok (.sipush 256, 3) := by decide +kernel
theorem d_Ri_addTo_6 : decode (a_cc M_Ri_addTo) 6 = .ok (.if_icmp .ge 21, 3) := by decide +kernel
theorem d_Ri_addTo_9 : decode (a_cc M_Ri_addTo) 9 = .ok (.aload_n 0, 1) := by decide +kernel
theorem d_Ri_addTo_10 : decode (a_cc M_Ri_addTo) 10 = .ok (.iload_n 2, 1) := by decide +kernel
theorem d_Ri_addTo_11 : decode (a_cc M_Ri_addTo) 11 = .ok (.aload_n 0, 1) := by decide +kernel
theorem d_Ri_addTo_12 : decode (a_cc M_Ri_addTo) 12 = .ok (.iload_n 2, 1) := by decide +kernel
theorem d_Ri_addTo_13 : decode (a_cc M_Ri_addTo) 13 = .ok (.iaload, 1) := by decide +kernel
theorem d_Ri_addTo_14 : decode (a_cc M_Ri_addTo) 14 = .ok (.aload_n 1, 1) := by decide +kernel
theorem d_Ri_addTo_15 : decode (a_cc M_Ri_addTo) 15 = .ok (.iload_n 2, 1) := by decide +kernel
theorem d_Ri_addTo_16 : decode (a_cc M_Ri_addTo) 16 = .ok (.iaload, 1) := by decide +kernel
theorem d_Ri_addTo_17 : decode (a_cc M_Ri_addTo) 17 = .ok (.invokestatic 30, 3) := by decide +kernel
theorem d_Ri_addTo_20 : decode (a_cc M_Ri_addTo) 20 = .ok (.iastore, 1) := by decide +kernel
theorem d_Ri_addTo_21 : decode (a_cc M_Ri_addTo) 21 = .ok (.iinc 2 1, 3) := by decide +kernel
theorem d_Ri_addTo_24 : decode (a_cc M_Ri_addTo) 24 = .ok (.goto (-22), 3) := by decide +kernel
theorem d_Ri_addTo_27 : decode (a_cc M_Ri_addTo) 27 = .ok (.return_, 1) := by decide +kernel
theorem cs_Ri_addTo_17 : a_CS M_Ri_addTo M_Ri_plus 30 2 2 2 := ⟨⟨ok_Ri_plus, by decide, by decide, by decide⟩, List.mem_append_right _ (List.mem_of_getElem? (i := 721) (by decide +kernel)), List.mem_append_right _ (List.mem_of_getElem? (i := 722) (by decide +kernel)), by decide +kernel⟩
def M_KM_computeImages : a_M := (⟨"ModuleSigner$KeyMaker", "computeImages", "(LModuleSigner$Parameters;)V"⟩, prog_4_method_5_code, 3, none, "ModuleSigner$KeyMaker", 3, 52, [])
theorem ok_KM_computeImages : a_Ok M_KM_computeImages := ⟨rfl, by decide +kernel, ⟨by decide, by decide⟩, List.mem_append_right _ (List.mem_of_getElem? (i := 8) (by decide +kernel)), Or.inl ⟨rfl, List.mem_append_right _ (List.mem_of_getElem? (i := 708) (by decide +kernel))⟩⟩
theorem d_KM_computeImages_0 : decode (a_cc M_KM_computeImages) 0 = .ok (.iconst 0, 1) := by decide +kernel
theorem d_KM_computeImages_1 : decode (a_cc M_KM_computeImages) 1 = .ok (.istore_n 2, 1) := by decide +kernel
theorem d_KM_computeImages_2 : decode (a_cc M_KM_computeImages) 2 = .ok (.iload_n 2, 1) := by decide +kernel
theorem d_KM_computeImages_3 : decode (a_cc M_KM_computeImages) 3 = .ok (.aload_n 1, 1) := by decide +kernel
theorem d_KM_computeImages_4 : decode (a_cc M_KM_computeImages) 4 = .ok (.getfield 66, 3) := by decide +kernel
theorem d_KM_computeImages_7 : decode (a_cc M_KM_computeImages) 7 = .ok (.if_icmp .ge 49, 3) := by decide +kernel
theorem d_KM_computeImages_10 : decode (a_cc M_KM_computeImages) 10 = .ok (.aload_n 0, 1) := by decide +kernel
theorem d_KM_computeImages_11 : decode (a_cc M_KM_computeImages) 11 = .ok (.getfield 20, 3) := by decide +kernel
theorem d_KM_computeImages_14 : decode (a_cc M_KM_computeImages) 14 = .ok (.getfield 95, 3) := by decide +kernel
theorem d_KM_computeImages_17 : decode (a_cc M_KM_computeImages) 17 = .ok (.iload_n 2, 1) := by decide +kernel
theorem d_KM_computeImages_18 : decode (a_cc M_KM_computeImages) 18 = .ok (.aaload, 1) := by decide +kernel
theorem d_KM_computeImages_19 : decode (a_cc M_KM_computeImages) 19 = .ok (.aload_n 0, 1) := by decide +kernel
theorem d_KM_computeImages_20 : decode (a_cc M_KM_computeImages) 20 = .ok (.getfield 20, 3) := by decide +kernel
theorem d_KM_computeImages_23 : decode (a_cc M_KM_computeImages) 23 = .ok (.getfield 105, 3) := by decide +kernel
theorem d_KM_computeImages_26 : decode (a_cc M_KM_computeImages) 26 = .ok (.iload_n 2, 1) := by decide +kernel
theorem d_KM_computeImages_27 : decode (a_cc M_KM_computeImages) 27 = .ok (.aaload, 1) := by decide +kernel
theorem d_KM_computeImages_28 : decode (a_cc M_KM_computeImages) 28 = .ok (.invokestatic 108, 3) := by decide +kernel
theorem d_KM_computeImages_31 : decode (a_cc M_KM_computeImages) 31 = .ok (.aload_n 0, 1) := by decide +kernel
theorem d_KM_computeImages_32 : decode (a_cc M_KM_computeImages) 32 = .ok (.getfield 20, 3) := by decide +kernel
theorem d_KM_computeImages_35 : decode (a_cc M_KM_computeImages) 35 = .ok (.getfield 114, 3) := by decide +kernel
theorem d_KM_computeImages_38 : decode (a_cc M_KM_computeImages) 38 = .ok (.aload_n 0, 1) := by decide +kernel
theorem d_KM_computeImages_39 : decode (a_cc M_KM_computeImages) 39 = .ok (.getfield 20, 3) := by decide +kernel
theorem d_KM_computeImages_42 : decode (a_cc M_KM_computeImages) 42 = .ok (.getfield 105, 3) := by decide +kernel
theorem d_KM_computeImages_45 : decode (a_cc M_KM_computeImages) 45 = .ok (.iload_n 2, 1) := by decide +kernel
theorem d_KM_computeImages_46 : decode (a_cc M_KM_computeImages) 46 = .ok (.aaload, 1) := by decide +kernel
theorem d_KM_computeImages_47 : decode (a_cc M_KM_computeImages) 47 = .ok (.invokevirtual 118, 3) := by decide +kernel
theorem d_KM_computeImages_50 : decode (a_cc M_KM_computeImages) 50 = .ok (.iinc 2 1, 3) := by decide +kernel
theorem d_KM_computeImages_53 : decode (a_cc M_KM_computeImages) 53 = .ok (.goto (-51), 3) := by decide +kernel
theorem d_KM_computeImages_56 : decode (a_cc M_KM_computeImages) 56 = .ok (.aload_n 0, 1) := by decide +kernel
theorem d_KM_computeImages_57 : decode (a_cc M_KM_computeImages) 57 = .ok (.getfield 20, 3) := by decide +kernel
theorem d_KM_computeImages_60 : decode (a_cc M_KM_computeImages) 60 = .ok (.aload_n 1, 1) := by decide +kernel
theorem d_KM_computeImages_61 : decode (a_cc M_KM_computeImages) 61 = .ok (.invokevirtual 122, 3) := by decide +kernel
theorem d_KM_computeImages_64 : decode (a_cc M_KM_computeImages) 64 = .ok (.iconst 0, 1) := by decide +kernel
theorem d_KM_computeImages_65 : decode (a_cc M_KM_computeImages) 65 = .ok (.istore_n 2, 1) := by decide +kernel
theorem d_KM_computeImages_66 : decode (a_cc M_KM_computeImages) 66 = .ok (.iload_n 2, 1) := by decide +kernel
theorem d_KM_computeImages_67 : decode (a_cc M_KM_computeImages) 67 = .ok (.aload_n 1, 1) := by decide +kernel
theorem d_KM_computeImages_68 : decode (a_cc M_KM_computeImages) 68 = .ok (.getfield 57, 3) := by decide +kernel
theorem d_KM_computeImages_71 : decode (a_cc M_KM_computeImages) 71 = .ok (.if_icmp .ge 49, 3) := by decide +kernel
theorem d_KM_computeImages_74 : decode (a_cc M_KM_computeImages) 74 = .ok (.aload_n 0, 1) := by decide +kernel
theorem d_KM_computeImages_75 : decode (a_cc M_KM_computeImages) 75 = .ok (.getfield 20, 3) := by decide +kernel
theorem d_KM_computeImages_78 : decode (a_cc M_KM_computeImages) 78 = .ok (.getfield 114, 3) := by decide +kernel
theorem d_KM_computeImages_81 : decode (a_cc M_KM_computeImages) 81 = .ok (.aload_n 0, 1) := by decide +kernel
theorem d_KM_computeImages_82 : decode (a_cc M_KM_computeImages) 82 = .ok (.getfield 20, 3) := by decide +kernel
theorem d_KM_computeImages_85 : decode (a_cc M_KM_computeImages) 85 = .ok (.getfield 125, 3) := by decide +kernel
theorem d_KM_computeImages_88 : decode (a_cc M_KM_computeImages) 88 = .ok (.iload_n 2, 1) := by decide +kernel
theorem d_KM_computeImages_89 : decode (a_cc M_KM_computeImages) 89 = .ok (.aaload, 1) := by decide +kernel
theorem d_KM_computeImages_90 : decode (a_cc M_KM_computeImages) 90 = .ok (.invokevirtual 128, 3) := by decide +kernel
theorem d_KM_computeImages_93 : decode (a_cc M_KM_computeImages) 93 = .ok (.aload_n 0, 1) := by decide +kernel
theorem d_KM_computeImages_94 : decode (a_cc M_KM_computeImages) 94 = .ok (.getfield 20, 3) := by decide +kernel
theorem d_KM_computeImages_97 : decode (a_cc M_KM_computeImages) 97 = .ok (.getfield 125, 3) := by decide +kernel
theorem d_KM_computeImages_100 : decode (a_cc M_KM_computeImages) 100 = .ok (.iload_n 2, 1) := by decide +kernel
theorem d_KM_computeImages_101 : decode (a_cc M_KM_computeImages) 101 = .ok (.aaload, 1) := by decide +kernel
theorem d_KM_computeImages_102 : decode (a_cc M_KM_computeImages) 102 = .ok (.aload_n 0, 1) := by decide +kernel
theorem d_KM_computeImages_103 : decode (a_cc M_KM_computeImages) 103 = .ok (.getfield 20, 3) := by decide +kernel
theorem d_KM_computeImages_106 : decode (a_cc M_KM_computeImages) 106 = .ok (.getfield 102, 3) := by decide +kernel
theorem d_KM_computeImages_109 : decode (a_cc M_KM_computeImages) 109 = .ok (.iload_n 2, 1) := by decide +kernel
theorem d_KM_computeImages_110 : decode (a_cc M_KM_computeImages) 110 = .ok (.aaload, 1) := by decide +kernel
theorem d_KM_computeImages_111 : decode (a_cc M_KM_computeImages) 111 = .ok (.invokestatic 131, 3) := by decide +kernel
theorem d_KM_computeImages_114 : decode (a_cc M_KM_computeImages) 114 = .ok (.iinc 2 1, 3) := by decide +kernel
theorem d_KM_computeImages_117 : decode (a_cc M_KM_computeImages) 117 = .ok (.goto (-51), 3) := by decide +kernel
theorem d_KM_computeImages_120 : decode (a_cc M_KM_computeImages) 120 = .ok (.return_, 1) := by decide +kernel
theorem fd_KM_105 : a_Fd "ModuleSigner$KeyMaker" 105 3 6 2 := ⟨by decide, by decide, rfl, List.mem_append_right _ (List.mem_of_getElem? (i := 245) (by decide +kernel))⟩
theorem cs_KM_computeImages_28 : a_CS M_KM_computeImages M_Ri_copyRow 108 2 0 2 := ⟨⟨ok_Ri_copyRow, by decide, by decide, by decide⟩, List.mem_append_right _ (List.mem_of_getElem? (i := 709) (by decide +kernel)), List.mem_append_right _ (List.mem_of_getElem? (i := 710) (by decide +kernel)), by decide +kernel⟩
theorem fd_KM_114 : a_Fd "ModuleSigner$KeyMaker" 114 3 2 2 := ⟨by decide, by decide, rfl, List.mem_append_right _ (List.mem_of_getElem? (i := 232) (by decide +kernel))⟩
theorem cs_KM_computeImages_47 : a_CV M_KM_computeImages M_Ri_forward 118 9 2 0 1 := ⟨⟨ok_Ri_forward, by decide, by decide, by decide⟩, by decide, rfl, List.mem_append_right _ (List.mem_of_getElem? (i := 713) (by decide +kernel)), List.mem_append_right _ (List.mem_of_getElem? (i := 714) (by decide +kernel)), List.mem_append_right _ (List.mem_of_getElem? (i := 715) (by decide +kernel)), by decide +kernel⟩
theorem cs_KM_computeImages_61 : a_CV M_KM_computeImages M_Be_multiplyMatrix 122 3 2 0 1 := ⟨⟨ok_Be_multiplyMatrix, by decide, by decide, by decide⟩, by decide, rfl, List.mem_append_right _ (List.mem_of_getElem? (i := 724) (by decide +kernel)), List.mem_append_right _ (List.mem_of_getElem? (i := 725) (by decide +kernel)), List.mem_append_right _ (List.mem_of_getElem? (i := 726) (by decide +kernel)), by decide +kernel⟩
theorem fd_KM_125 : a_Fd "ModuleSigner$KeyMaker" 125 3 7 2 := ⟨by decide, by decide, rfl, List.mem_append_right _ (List.mem_of_getElem? (i := 249) (by decide +kernel))⟩
theorem cs_KM_computeImages_90 : a_CV M_KM_computeImages M_Ri_back 128 9 2 0 1 := ⟨⟨ok_Ri_back, by decide, by decide, by decide⟩, by decide, rfl, List.mem_append_right _ (List.mem_of_getElem? (i := 731) (by decide +kernel)), List.mem_append_right _ (List.mem_of_getElem? (i := 732) (by decide +kernel)), List.mem_append_right _ (List.mem_of_getElem? (i := 733) (by decide +kernel)), by decide +kernel⟩
theorem cs_KM_computeImages_111 : a_CS M_KM_computeImages M_Ri_addTo 131 2 0 2 := ⟨⟨ok_Ri_addTo, by decide, by decide, by decide⟩, List.mem_append_right _ (List.mem_of_getElem? (i := 739) (by decide +kernel)), List.mem_append_right _ (List.mem_of_getElem? (i := 740) (by decide +kernel)), by decide +kernel⟩
def M_KM_addSeed : a_M := (⟨"ModuleSigner$KeyMaker", "addSeed", "(LModuleSigner$Bytes;I)V"⟩, prog_4_method_8_code, 4, none, "ModuleSigner$KeyMaker", 1, 14, [])
theorem ok_KM_addSeed : a_Ok M_KM_addSeed := ⟨rfl, by decide +kernel, ⟨by decide, by decide⟩, List.mem_append_right _ (List.mem_of_getElem? (i := 8) (by decide +kernel)), Or.inl ⟨rfl, List.mem_append_right _ (List.mem_of_getElem? (i := 750) (by decide +kernel))⟩⟩
theorem d_KM_addSeed_0 : decode (a_cc M_KM_addSeed) 0 = .ok (.iconst 0, 1) := by decide +kernel
theorem d_KM_addSeed_1 : decode (a_cc M_KM_addSeed) 1 = .ok (.istore_n 3, 1) := by decide +kernel
theorem d_KM_addSeed_2 : decode (a_cc M_KM_addSeed) 2 = .ok (.iload_n 3, 1) := by decide +kernel
theorem d_KM_addSeed_3 : decode (a_cc M_KM_addSeed) 3 = .ok (.bipush 32, 2) := by decide +kernel
theorem d_KM_addSeed_5 : decode (a_cc M_KM_addSeed) 5 = .ok (.if_icmp .ge 23, 3) := by decide +kernel
theorem d_KM_addSeed_8 : decode (a_cc M_KM_addSeed) 8 = .ok (.aload_n 1, 1) := by decide +kernel
theorem d_KM_addSeed_9 : decode (a_cc M_KM_addSeed) 9 = .ok (.aload_n 0, 1) := by decide +kernel
theorem d_KM_addSeed_10 : decode (a_cc M_KM_addSeed) 10 = .ok (.getfield 16, 3) := by decide +kernel
theorem d_KM_addSeed_13 : decode (a_cc M_KM_addSeed) 13 = .ok (.iload_n 2, 1) := by decide +kernel
theorem d_KM_addSeed_14 : decode (a_cc M_KM_addSeed) 14 = .ok (.iload_n 3, 1) := by decide +kernel
theorem d_KM_addSeed_15 : decode (a_cc M_KM_addSeed) 15 = .ok (.iadd, 1) := by decide +kernel
theorem d_KM_addSeed_16 : decode (a_cc M_KM_addSeed) 16 = .ok (.invokevirtual 169, 3) := by decide +kernel
theorem d_KM_addSeed_19 : decode (a_cc M_KM_addSeed) 19 = .ok (.invokevirtual 172, 3) := by decide +kernel
theorem d_KM_addSeed_22 : decode (a_cc M_KM_addSeed) 22 = .ok (.iinc 3 1, 3) := by decide +kernel
theorem d_KM_addSeed_25 : decode (a_cc M_KM_addSeed) 25 = .ok (.goto (-23), 3) := by decide +kernel
theorem d_KM_addSeed_28 : decode (a_cc M_KM_addSeed) 28 = .ok (.return_, 1) := by decide +kernel
theorem cs_KM_addSeed_16 : a_CV M_KM_addSeed M_By_at 169 1 2 1 1 := ⟨⟨ok_By_at, by decide, by decide, by decide⟩, by decide, rfl, List.mem_append_right _ (List.mem_of_getElem? (i := 751) (by decide +kernel)), List.mem_append_right _ (List.mem_of_getElem? (i := 537) (by decide +kernel)), List.mem_append_right _ (List.mem_of_getElem? (i := 538) (by decide +kernel)), by decide +kernel⟩
theorem cs_KM_addSeed_19 : a_CV M_KM_addSeed M_By_add 172 1 2 0 1 := ⟨⟨ok_By_add, by decide, by decide, by decide⟩, by decide, rfl, List.mem_append_right _ (List.mem_of_getElem? (i := 752) (by decide +kernel)), List.mem_append_right _ (List.mem_of_getElem? (i := 456) (by decide +kernel)), List.mem_append_right _ (List.mem_of_getElem? (i := 457) (by decide +kernel)), by decide +kernel⟩
def M_KM_top : a_M := (⟨"ModuleSigner$KeyMaker", "top", "(I)I"⟩, prog_4_method_10_code, 1, some .int, "ModuleSigner$KeyMaker", 0, 0, [])
theorem ok_KM_top : a_Ok M_KM_top := ⟨rfl, by decide +kernel, ⟨by decide, by decide⟩, List.mem_append_right _ (List.mem_of_getElem? (i := 8) (by decide +kernel)), Or.inl ⟨rfl, List.mem_append_right _ (List.mem_of_getElem? (i := 755) (by decide +kernel))⟩⟩
theorem d_KM_top_0 : decode (a_cc M_KM_top) 0 = .ok (.iload_n 0, 1) := by decide +kernel
theorem d_KM_top_1 : decode (a_cc M_KM_top) 1 = .ok (.sipush 4096, 3) := by decide +kernel
theorem d_KM_top_4 : decode (a_cc M_KM_top) 4 = .ok (.iadd, 1) := by decide +kernel
theorem d_KM_top_5 : decode (a_cc M_KM_top) 5 = .ok (.iconst 1, 1) := by decide +kernel
theorem d_KM_top_6 : decode (a_cc M_KM_top) 6 = .ok (.isub, 1) := by decide +kernel
theorem d_KM_top_7 : decode (a_cc M_KM_top) 7 = .ok (.bipush 13, 2) := by decide +kernel
theorem d_KM_top_9 : decode (a_cc M_KM_top) 9 = .ok (.ishr, 1) := by decide +kernel
theorem d_KM_top_10 : decode (a_cc M_KM_top) 10 = .ok (.ireturn, 1) := by decide +kernel
def M_By_addBits : a_M := (⟨"ModuleSigner$Bytes", "addBits", "([II)V"⟩, prog_3_method_10_code, 6, none, "ModuleSigner$Bytes", 1, 13, [])
theorem ok_By_addBits : a_Ok M_By_addBits := ⟨rfl, by decide +kernel, ⟨by decide, by decide⟩, List.mem_append_right _ (List.mem_of_getElem? (i := 2) (by decide +kernel)), Or.inl ⟨rfl, List.mem_append_right _ (List.mem_of_getElem? (i := 759) (by decide +kernel))⟩⟩
theorem d_By_addBits_0 : decode (a_cc M_By_addBits) 0 = .ok (.iconst 0, 1) := by decide +kernel
theorem d_By_addBits_1 : decode (a_cc M_By_addBits) 1 = .ok (.istore_n 3, 1) := by decide +kernel
theorem d_By_addBits_2 : decode (a_cc M_By_addBits) 2 = .ok (.iconst 0, 1) := by decide +kernel
theorem d_By_addBits_3 : decode (a_cc M_By_addBits) 3 = .ok (.istore 4, 2) := by decide +kernel
theorem d_By_addBits_5 : decode (a_cc M_By_addBits) 5 = .ok (.iconst 0, 1) := by decide +kernel
theorem d_By_addBits_6 : decode (a_cc M_By_addBits) 6 = .ok (.istore 5, 2) := by decide +kernel
theorem d_By_addBits_8 : decode (a_cc M_By_addBits) 8 = .ok (.iload 5, 2) := by decide +kernel
theorem d_By_addBits_10 : decode (a_cc M_By_addBits) 10 = .ok (.sipush 256, 3) := by decide +kernel
theorem d_By_addBits_13 : decode (a_cc M_By_addBits) 13 = .ok (.if_icmp .ge 48, 3) := by decide +kernel
theorem d_By_addBits_16 : decode (a_cc M_By_addBits) 16 = .ok (.iload_n 3, 1) := by decide +kernel
theorem d_By_addBits_17 : decode (a_cc M_By_addBits) 17 = .ok (.aload_n 1, 1) := by decide +kernel
theorem d_By_addBits_18 : decode (a_cc M_By_addBits) 18 = .ok (.iload 5, 2) := by decide +kernel
theorem d_By_addBits_20 : decode (a_cc M_By_addBits) 20 = .ok (.iaload, 1) := by decide +kernel
theorem d_By_addBits_21 : decode (a_cc M_By_addBits) 21 = .ok (.iload 4, 2) := by decide +kernel
theorem d_By_addBits_23 : decode (a_cc M_By_addBits) 23 = .ok (.ishl, 1) := by decide +kernel
theorem d_By_addBits_24 : decode (a_cc M_By_addBits) 24 = .ok (.ior, 1) := by decide +kernel
theorem d_By_addBits_25 : decode (a_cc M_By_addBits) 25 = .ok (.istore_n 3, 1) := by decide +kernel
theorem d_By_addBits_26 : decode (a_cc M_By_addBits) 26 = .ok (.iload 4, 2) := by decide +kernel
theorem d_By_addBits_28 : decode (a_cc M_By_addBits) 28 = .ok (.iload_n 2, 1) := by decide +kernel
theorem d_By_addBits_29 : decode (a_cc M_By_addBits) 29 = .ok (.iadd, 1) := by decide +kernel
theorem d_By_addBits_30 : decode (a_cc M_By_addBits) 30 = .ok (.istore 4, 2) := by decide +kernel
theorem d_By_addBits_32 : decode (a_cc M_By_addBits) 32 = .ok (.iload 4, 2) := by decide +kernel
theorem d_By_addBits_34 : decode (a_cc M_By_addBits) 34 = .ok (.bipush 8, 2) := by decide +kernel
theorem d_By_addBits_36 : decode (a_cc M_By_addBits) 36 = .ok (.if_icmp .lt 19, 3) := by decide +kernel
theorem d_By_addBits_39 : decode (a_cc M_By_addBits) 39 = .ok (.aload_n 0, 1) := by decide +kernel
theorem d_By_addBits_40 : decode (a_cc M_By_addBits) 40 = .ok (.iload_n 3, 1) := by decide +kernel
theorem d_By_addBits_41 : decode (a_cc M_By_addBits) 41 = .ok (.invokevirtual 17, 3) := by decide +kernel
theorem d_By_addBits_44 : decode (a_cc M_By_addBits) 44 = .ok (.iload_n 3, 1) := by decide +kernel
theorem d_By_addBits_45 : decode (a_cc M_By_addBits) 45 = .ok (.bipush 8, 2) := by decide +kernel
theorem d_By_addBits_47 : decode (a_cc M_By_addBits) 47 = .ok (.iushr, 1) := by decide +kernel
theorem d_By_addBits_48 : decode (a_cc M_By_addBits) 48 = .ok (.istore_n 3, 1) := by decide +kernel
theorem d_By_addBits_49 : decode (a_cc M_By_addBits) 49 = .ok (.iinc 4 (-8), 3) := by decide +kernel
theorem d_By_addBits_52 : decode (a_cc M_By_addBits) 52 = .ok (.goto (-20), 3) := by decide +kernel
theorem d_By_addBits_55 : decode (a_cc M_By_addBits) 55 = .ok (.iinc 5 1, 3) := by decide +kernel
theorem d_By_addBits_58 : decode (a_cc M_By_addBits) 58 = .ok (.goto (-50), 3) := by decide +kernel
theorem d_By_addBits_61 : decode (a_cc M_By_addBits) 61 = .ok (.return_, 1) := by decide +kernel
theorem cs_By_addBits_41 : a_CV M_By_addBits M_By_add 17 1 2 0 1 := ⟨⟨ok_By_add, by decide, by decide, by decide⟩, by decide, rfl, List.mem_append_right _ (List.mem_of_getElem? (i := 455) (by decide +kernel)), List.mem_append_right _ (List.mem_of_getElem? (i := 456) (by decide +kernel)), List.mem_append_right _ (List.mem_of_getElem? (i := 457) (by decide +kernel)), by decide +kernel⟩
def M_KM_writePublic : a_M := (⟨"ModuleSigner$KeyMaker", "writePublic", "(LModuleSigner$Bytes;LModuleSigner$Parameters;)V"⟩, prog_4_method_6_code, 5, none, "ModuleSigner$KeyMaker", 2, 30, [])
theorem ok_KM_writePublic : a_Ok M_KM_writePublic := ⟨rfl, by decide +kernel, ⟨by decide, by decide⟩, List.mem_append_right _ (List.mem_of_getElem? (i := 8) (by decide +kernel)), Or.inl ⟨rfl, List.mem_append_right _ (List.mem_of_getElem? (i := 745) (by decide +kernel))⟩⟩
theorem d_KM_writePublic_0 : decode (a_cc M_KM_writePublic) 0 = .ok (.aload_n 1, 1) := by decide +kernel
theorem d_KM_writePublic_1 : decode (a_cc M_KM_writePublic) 1 = .ok (.invokevirtual 134, 3) := by decide +kernel
theorem d_KM_writePublic_4 : decode (a_cc M_KM_writePublic) 4 = .ok (.aload_n 0, 1) := by decide +kernel
theorem d_KM_writePublic_5 : decode (a_cc M_KM_writePublic) 5 = .ok (.aload_n 1, 1) := by decide +kernel
theorem d_KM_writePublic_6 : decode (a_cc M_KM_writePublic) 6 = .ok (.iconst 0, 1) := by decide +kernel
theorem d_KM_writePublic_7 : decode (a_cc M_KM_writePublic) 7 = .ok (.invokevirtual 137, 3) := by decide +kernel
theorem d_KM_writePublic_10 : decode (a_cc M_KM_writePublic) 10 = .ok (.iconst 0, 1) := by decide +kernel
theorem d_KM_writePublic_11 : decode (a_cc M_KM_writePublic) 11 = .ok (.istore_n 3, 1) := by decide +kernel
theorem d_KM_writePublic_12 : decode (a_cc M_KM_writePublic) 12 = .ok (.iload_n 3, 1) := by decide +kernel
theorem d_KM_writePublic_13 : decode (a_cc M_KM_writePublic) 13 = .ok (.aload_n 2, 1) := by decide +kernel
theorem d_KM_writePublic_14 : decode (a_cc M_KM_writePublic) 14 = .ok (.getfield 57, 3) := by decide +kernel
theorem d_KM_writePublic_17 : decode (a_cc M_KM_writePublic) 17 = .ok (.if_icmp .ge 64, 3) := by decide +kernel
theorem d_KM_writePublic_20 : decode (a_cc M_KM_writePublic) 20 = .ok (.iconst 0, 1) := by decide +kernel
theorem d_KM_writePublic_21 : decode (a_cc M_KM_writePublic) 21 = .ok (.istore 4, 2) := by decide +kernel
theorem d_KM_writePublic_23 : decode (a_cc M_KM_writePublic) 23 = .ok (.iload 4, 2) := by decide +kernel
theorem d_KM_writePublic_25 : decode (a_cc M_KM_writePublic) 25 = .ok (.sipush 256, 3) := by decide +kernel
theorem d_KM_writePublic_28 : decode (a_cc M_KM_writePublic) 28 = .ok (.if_icmp .ge 34, 3) := by decide +kernel
theorem d_KM_writePublic_31 : decode (a_cc M_KM_writePublic) 31 = .ok (.aload_n 0, 1) := by decide +kernel
theorem d_KM_writePublic_32 : decode (a_cc M_KM_writePublic) 32 = .ok (.getfield 20, 3) := by decide +kernel
theorem d_KM_writePublic_35 : decode (a_cc M_KM_writePublic) 35 = .ok (.getfield 140, 3) := by decide +kernel
theorem d_KM_writePublic_38 : decode (a_cc M_KM_writePublic) 38 = .ok (.iload 4, 2) := by decide +kernel
theorem d_KM_writePublic_40 : decode (a_cc M_KM_writePublic) 40 = .ok (.aload_n 0, 1) := by decide +kernel
theorem d_KM_writePublic_41 : decode (a_cc M_KM_writePublic) 41 = .ok (.getfield 20, 3) := by decide +kernel
theorem d_KM_writePublic_44 : decode (a_cc M_KM_writePublic) 44 = .ok (.getfield 125, 3) := by decide +kernel
theorem d_KM_writePublic_47 : decode (a_cc M_KM_writePublic) 47 = .ok (.iload_n 3, 1) := by decide +kernel
theorem d_KM_writePublic_48 : decode (a_cc M_KM_writePublic) 48 = .ok (.aaload, 1) := by decide +kernel
theorem d_KM_writePublic_49 : decode (a_cc M_KM_writePublic) 49 = .ok (.iload 4, 2) := by decide +kernel
theorem d_KM_writePublic_51 : decode (a_cc M_KM_writePublic) 51 = .ok (.iaload, 1) := by decide +kernel
theorem d_KM_writePublic_52 : decode (a_cc M_KM_writePublic) 52 = .ok (.invokestatic 144, 3) := by decide +kernel
theorem d_KM_writePublic_55 : decode (a_cc M_KM_writePublic) 55 = .ok (.iastore, 1) := by decide +kernel
theorem d_KM_writePublic_56 : decode (a_cc M_KM_writePublic) 56 = .ok (.iinc 4 1, 3) := by decide +kernel
theorem d_KM_writePublic_59 : decode (a_cc M_KM_writePublic) 59 = .ok (.goto (-36), 3) := by decide +kernel
theorem d_KM_writePublic_62 : decode (a_cc M_KM_writePublic) 62 = .ok (.aload_n 1, 1) := by decide +kernel
theorem d_KM_writePublic_63 : decode (a_cc M_KM_writePublic) 63 = .ok (.aload_n 0, 1) := by decide +kernel
theorem d_KM_writePublic_64 : decode (a_cc M_KM_writePublic) 64 = .ok (.getfield 20, 3) := by decide +kernel
theorem d_KM_writePublic_67 : decode (a_cc M_KM_writePublic) 67 = .ok (.getfield 140, 3) := by decide +kernel
theorem d_KM_writePublic_70 : decode (a_cc M_KM_writePublic) 70 = .ok (.bipush 10, 2) := by decide +kernel
theorem d_KM_writePublic_72 : decode (a_cc M_KM_writePublic) 72 = .ok (.invokevirtual 148, 3) := by decide +kernel
theorem d_KM_writePublic_75 : decode (a_cc M_KM_writePublic) 75 = .ok (.iinc 3 1, 3) := by decide +kernel
theorem d_KM_writePublic_78 : decode (a_cc M_KM_writePublic) 78 = .ok (.goto (-66), 3) := by decide +kernel
theorem d_KM_writePublic_81 : decode (a_cc M_KM_writePublic) 81 = .ok (.return_, 1) := by decide +kernel
theorem cs_KM_writePublic_1 : a_CV M_KM_writePublic M_By_clear 134 1 1 0 0 := ⟨⟨ok_By_clear, by decide, by decide, by decide⟩, by decide, rfl, List.mem_append_right _ (List.mem_of_getElem? (i := 746) (by decide +kernel)), List.mem_append_right _ (List.mem_of_getElem? (i := 502) (by decide +kernel)), List.mem_append_right _ (List.mem_of_getElem? (i := 503) (by decide +kernel)), by decide +kernel⟩
theorem cs_KM_writePublic_7 : a_CV M_KM_writePublic M_KM_addSeed 137 4 3 0 2 := ⟨⟨ok_KM_addSeed, by decide, by decide, by decide⟩, by decide, rfl, List.mem_append_right _ (List.mem_of_getElem? (i := 747) (by decide +kernel)), List.mem_append_right _ (List.mem_of_getElem? (i := 749) (by decide +kernel)), List.mem_append_left _ (List.mem_of_getElem? (i := 10) (by decide +kernel)), by decide +kernel⟩
theorem fd_KM_140 : a_Fd "ModuleSigner$KeyMaker" 140 3 9 2 := ⟨by decide, by decide, rfl, List.mem_append_right _ (List.mem_of_getElem? (i := 255) (by decide +kernel))⟩
theorem cs_KM_writePublic_52 : a_CS M_KM_writePublic M_KM_top 144 1 2 1 := ⟨⟨ok_KM_top, by decide, by decide, by decide⟩, List.mem_append_right _ (List.mem_of_getElem? (i := 753) (by decide +kernel)), List.mem_append_right _ (List.mem_of_getElem? (i := 754) (by decide +kernel)), by decide +kernel⟩
theorem cs_KM_writePublic_72 : a_CV M_KM_writePublic M_By_addBits 148 1 3 0 2 := ⟨⟨ok_By_addBits, by decide, by decide, by decide⟩, by decide, rfl, List.mem_append_right _ (List.mem_of_getElem? (i := 756) (by decide +kernel)), List.mem_append_right _ (List.mem_of_getElem? (i := 757) (by decide +kernel)), List.mem_append_right _ (List.mem_of_getElem? (i := 758) (by decide +kernel)), by decide +kernel⟩
def M_By_addAll : a_M := (⟨"ModuleSigner$Bytes", "addAll", "(LModuleSigner$Bytes;)V"⟩, prog_3_method_6_code, 3, none, "ModuleSigner$Bytes", 1, 14, [])
theorem ok_By_addAll : a_Ok M_By_addAll := ⟨rfl, by decide +kernel, ⟨by decide, by decide⟩, List.mem_append_right _ (List.mem_of_getElem? (i := 2) (by decide +kernel)), Or.inl ⟨rfl, List.mem_append_right _ (List.mem_of_getElem? (i := 767) (by decide +kernel))⟩⟩
theorem d_By_addAll_0 : decode (a_cc M_By_addAll) 0 = .ok (.iconst 0, 1) := by decide +kernel
theorem d_By_addAll_1 : decode (a_cc M_By_addAll) 1 = .ok (.istore_n 2, 1) := by decide +kernel
theorem d_By_addAll_2 : decode (a_cc M_By_addAll) 2 = .ok (.iload_n 2, 1) := by decide +kernel
theorem d_By_addAll_3 : decode (a_cc M_By_addAll) 3 = .ok (.aload_n 1, 1) := by decide +kernel
theorem d_By_addAll_4 : decode (a_cc M_By_addAll) 4 = .ok (.getfield 13, 3) := by decide +kernel
theorem d_By_addAll_7 : decode (a_cc M_By_addAll) 7 = .ok (.if_icmp .ge 18, 3) := by decide +kernel
theorem d_By_addAll_10 : decode (a_cc M_By_addAll) 10 = .ok (.aload_n 0, 1) := by decide +kernel
theorem d_By_addAll_11 : decode (a_cc M_By_addAll) 11 = .ok (.aload_n 1, 1) := by decide +kernel
theorem d_By_addAll_12 : decode (a_cc M_By_addAll) 12 = .ok (.iload_n 2, 1) := by decide +kernel
theorem d_By_addAll_13 : decode (a_cc M_By_addAll) 13 = .ok (.invokevirtual 21, 3) := by decide +kernel
theorem d_By_addAll_16 : decode (a_cc M_By_addAll) 16 = .ok (.invokevirtual 17, 3) := by decide +kernel
theorem d_By_addAll_19 : decode (a_cc M_By_addAll) 19 = .ok (.iinc 2 1, 3) := by decide +kernel
theorem d_By_addAll_22 : decode (a_cc M_By_addAll) 22 = .ok (.goto (-20), 3) := by decide +kernel
theorem d_By_addAll_25 : decode (a_cc M_By_addAll) 25 = .ok (.return_, 1) := by decide +kernel
theorem cs_By_addAll_13 : a_CV M_By_addAll M_By_at 21 1 2 1 1 := ⟨⟨ok_By_at, by decide, by decide, by decide⟩, by decide, rfl, List.mem_append_right _ (List.mem_of_getElem? (i := 565) (by decide +kernel)), List.mem_append_right _ (List.mem_of_getElem? (i := 537) (by decide +kernel)), List.mem_append_right _ (List.mem_of_getElem? (i := 538) (by decide +kernel)), by decide +kernel⟩
theorem cs_By_addAll_16 : a_CV M_By_addAll M_By_add 17 1 2 0 1 := ⟨⟨ok_By_add, by decide, by decide, by decide⟩, by decide, rfl, List.mem_append_right _ (List.mem_of_getElem? (i := 455) (by decide +kernel)), List.mem_append_right _ (List.mem_of_getElem? (i := 456) (by decide +kernel)), List.mem_append_right _ (List.mem_of_getElem? (i := 457) (by decide +kernel)), by decide +kernel⟩
def M_Ri_mirror : a_M := (⟨"ModuleSigner$Ring", "mirror", "([II)V"⟩, prog_6_method_13_code, 3, none, "ModuleSigner$Ring", 1, 16, [])
theorem ok_Ri_mirror : a_Ok M_Ri_mirror := ⟨rfl, by decide +kernel, ⟨by decide, by decide⟩, List.mem_append_right _ (List.mem_of_getElem? (i := 4) (by decide +kernel)), Or.inl ⟨rfl, List.mem_append_right _ (List.mem_of_getElem? (i := 773) (by decide +kernel))⟩⟩
theorem d_Ri_mirror_0 : decode (a_cc M_Ri_mirror) 0 = .ok (.iconst 0, 1) := by decide +kernel
theorem d_Ri_mirror_1 : decode (a_cc M_Ri_mirror) 1 = .ok (.istore_n 2, 1) := by decide +kernel
theorem d_Ri_mirror_2 : decode (a_cc M_Ri_mirror) 2 = .ok (.iload_n 2, 1) := by decide +kernel
theorem d_Ri_mirror_3 : decode (a_cc M_Ri_mirror) 3 = .ok (.sipush 256, 3) := by decide +kernel
theorem d_Ri_mirror_6 : decode (a_cc M_Ri_mirror) 6 = .ok (.if_icmp .ge 19, 3) := by decide +kernel
theorem d_Ri_mirror_9 : decode (a_cc M_Ri_mirror) 9 = .ok (.aload_n 0, 1) := by decide +kernel
theorem d_Ri_mirror_10 : decode (a_cc M_Ri_mirror) 10 = .ok (.iload_n 2, 1) := by decide +kernel
theorem d_Ri_mirror_11 : decode (a_cc M_Ri_mirror) 11 = .ok (.iload_n 1, 1) := by decide +kernel
theorem d_Ri_mirror_12 : decode (a_cc M_Ri_mirror) 12 = .ok (.aload_n 0, 1) := by decide +kernel
theorem d_Ri_mirror_13 : decode (a_cc M_Ri_mirror) 13 = .ok (.iload_n 2, 1) := by decide +kernel
theorem d_Ri_mirror_14 : decode (a_cc M_Ri_mirror) 14 = .ok (.iaload, 1) := by decide +kernel
theorem d_Ri_mirror_15 : decode (a_cc M_Ri_mirror) 15 = .ok (.invokestatic 26, 3) := by decide +kernel
theorem d_Ri_mirror_18 : decode (a_cc M_Ri_mirror) 18 = .ok (.iastore, 1) := by decide +kernel
theorem d_Ri_mirror_19 : decode (a_cc M_Ri_mirror) 19 = .ok (.iinc 2 1, 3) := by decide +kernel
theorem d_Ri_mirror_22 : decode (a_cc M_Ri_mirror) 22 = .ok (.goto (-20), 3) := by decide +kernel
theorem d_Ri_mirror_25 : decode (a_cc M_Ri_mirror) 25 = .ok (.return_, 1) := by decide +kernel
theorem cs_Ri_mirror_15 : a_CS M_Ri_mirror M_Ri_minus 26 2 2 2 := ⟨⟨ok_Ri_minus, by decide, by decide, by decide⟩, List.mem_append_right _ (List.mem_of_getElem? (i := 720) (by decide +kernel)), List.mem_append_right _ (List.mem_of_getElem? (i := 701) (by decide +kernel)), by decide +kernel⟩
def M_KM_addMirrored : a_M := (⟨"ModuleSigner$KeyMaker", "addMirrored", "(LModuleSigner$Bytes;[III)V"⟩, prog_4_method_9_code, 4, none, "ModuleSigner$KeyMaker", 2, 30, [])
theorem ok_KM_addMirrored : a_Ok M_KM_addMirrored := ⟨rfl, by decide +kernel, ⟨by decide, by decide⟩, List.mem_append_right _ (List.mem_of_getElem? (i := 8) (by decide +kernel)), Or.inl ⟨rfl, List.mem_append_right _ (List.mem_of_getElem? (i := 770) (by decide +kernel))⟩⟩
theorem d_KM_addMirrored_0 : decode (a_cc M_KM_addMirrored) 0 = .ok (.aload_n 1, 1) := by decide +kernel
theorem d_KM_addMirrored_1 : decode (a_cc M_KM_addMirrored) 1 = .ok (.iload_n 2, 1) := by decide +kernel
theorem d_KM_addMirrored_2 : decode (a_cc M_KM_addMirrored) 2 = .ok (.invokestatic 175, 3) := by decide +kernel
theorem d_KM_addMirrored_5 : decode (a_cc M_KM_addMirrored) 5 = .ok (.aload_n 0, 1) := by decide +kernel
theorem d_KM_addMirrored_6 : decode (a_cc M_KM_addMirrored) 6 = .ok (.aload_n 1, 1) := by decide +kernel
theorem d_KM_addMirrored_7 : decode (a_cc M_KM_addMirrored) 7 = .ok (.iload_n 3, 1) := by decide +kernel
theorem d_KM_addMirrored_8 : decode (a_cc M_KM_addMirrored) 8 = .ok (.invokevirtual 148, 3) := by decide +kernel
theorem d_KM_addMirrored_11 : decode (a_cc M_KM_addMirrored) 11 = .ok (.return_, 1) := by decide +kernel
theorem cs_KM_addMirrored_2 : a_CS M_KM_addMirrored M_Ri_mirror 175 2 0 2 := ⟨⟨ok_Ri_mirror, by decide, by decide, by decide⟩, List.mem_append_right _ (List.mem_of_getElem? (i := 771) (by decide +kernel)), List.mem_append_right _ (List.mem_of_getElem? (i := 772) (by decide +kernel)), by decide +kernel⟩
theorem cs_KM_addMirrored_8 : a_CV M_KM_addMirrored M_By_addBits 148 1 3 0 2 := ⟨⟨ok_By_addBits, by decide, by decide, by decide⟩, by decide, rfl, List.mem_append_right _ (List.mem_of_getElem? (i := 756) (by decide +kernel)), List.mem_append_right _ (List.mem_of_getElem? (i := 757) (by decide +kernel)), List.mem_append_right _ (List.mem_of_getElem? (i := 758) (by decide +kernel)), by decide +kernel⟩
def M_KM_writeSecret : a_M := (⟨"ModuleSigner$KeyMaker", "writeSecret", "(LModuleSigner$Bytes;LModuleSigner$Bytes;LModuleSigner$Parameters;)V"⟩, prog_4_method_7_code, 8, none, "ModuleSigner$KeyMaker", 3, 50, [])
theorem ok_KM_writeSecret : a_Ok M_KM_writeSecret := ⟨rfl, by decide +kernel, ⟨by decide, by decide⟩, List.mem_append_right _ (List.mem_of_getElem? (i := 8) (by decide +kernel)), Or.inl ⟨rfl, List.mem_append_right _ (List.mem_of_getElem? (i := 763) (by decide +kernel))⟩⟩
theorem d_KM_writeSecret_0 : decode (a_cc M_KM_writeSecret) 0 = .ok (.aload_n 1, 1) := by decide +kernel
theorem d_KM_writeSecret_1 : decode (a_cc M_KM_writeSecret) 1 = .ok (.invokevirtual 134, 3) := by decide +kernel
theorem d_KM_writeSecret_4 : decode (a_cc M_KM_writeSecret) 4 = .ok (.aload_n 0, 1) := by decide +kernel
theorem d_KM_writeSecret_5 : decode (a_cc M_KM_writeSecret) 5 = .ok (.aload_n 1, 1) := by decide +kernel
theorem d_KM_writeSecret_6 : decode (a_cc M_KM_writeSecret) 6 = .ok (.iconst 0, 1) := by decide +kernel
theorem d_KM_writeSecret_7 : decode (a_cc M_KM_writeSecret) 7 = .ok (.invokevirtual 137, 3) := by decide +kernel
theorem d_KM_writeSecret_10 : decode (a_cc M_KM_writeSecret) 10 = .ok (.aload_n 0, 1) := by decide +kernel
theorem d_KM_writeSecret_11 : decode (a_cc M_KM_writeSecret) 11 = .ok (.aload_n 1, 1) := by decide +kernel
theorem d_KM_writeSecret_12 : decode (a_cc M_KM_writeSecret) 12 = .ok (.bipush 96, 2) := by decide +kernel
theorem d_KM_writeSecret_14 : decode (a_cc M_KM_writeSecret) 14 = .ok (.invokevirtual 137, 3) := by decide +kernel
theorem d_KM_writeSecret_17 : decode (a_cc M_KM_writeSecret) 17 = .ok (.aload_n 0, 1) := by decide +kernel
theorem d_KM_writeSecret_18 : decode (a_cc M_KM_writeSecret) 18 = .ok (.getfield 20, 3) := by decide +kernel
theorem d_KM_writeSecret_21 : decode (a_cc M_KM_writeSecret) 21 = .ok (.getfield 42, 3) := by decide +kernel
theorem d_KM_writeSecret_24 : decode (a_cc M_KM_writeSecret) 24 = .ok (.invokevirtual 48, 3) := by decide +kernel
theorem d_KM_writeSecret_27 : decode (a_cc M_KM_writeSecret) 27 = .ok (.aload_n 0, 1) := by decide +kernel
theorem d_KM_writeSecret_28 : decode (a_cc M_KM_writeSecret) 28 = .ok (.getfield 20, 3) := by decide +kernel
theorem d_KM_writeSecret_31 : decode (a_cc M_KM_writeSecret) 31 = .ok (.getfield 42, 3) := by decide +kernel
theorem d_KM_writeSecret_34 : decode (a_cc M_KM_writeSecret) 34 = .ok (.aload_n 2, 1) := by decide +kernel
theorem d_KM_writeSecret_35 : decode (a_cc M_KM_writeSecret) 35 = .ok (.iconst 0, 1) := by decide +kernel
theorem d_KM_writeSecret_36 : decode (a_cc M_KM_writeSecret) 36 = .ok (.aload_n 2, 1) := by decide +kernel
theorem d_KM_writeSecret_37 : decode (a_cc M_KM_writeSecret) 37 = .ok (.getfield 152, 3) := by decide +kernel
theorem d_KM_writeSecret_40 : decode (a_cc M_KM_writeSecret) 40 = .ok (.invokevirtual 53, 3) := by decide +kernel
theorem d_KM_writeSecret_43 : decode (a_cc M_KM_writeSecret) 43 = .ok (.aload_n 0, 1) := by decide +kernel
theorem d_KM_writeSecret_44 : decode (a_cc M_KM_writeSecret) 44 = .ok (.getfield 20, 3) := by decide +kernel
theorem d_KM_writeSecret_47 : decode (a_cc M_KM_writeSecret) 47 = .ok (.getfield 42, 3) := by decide +kernel
theorem d_KM_writeSecret_50 : decode (a_cc M_KM_writeSecret) 50 = .ok (.invokevirtual 69, 3) := by decide +kernel
theorem d_KM_writeSecret_53 : decode (a_cc M_KM_writeSecret) 53 = .ok (.aload_n 0, 1) := by decide +kernel
theorem d_KM_writeSecret_54 : decode (a_cc M_KM_writeSecret) 54 = .ok (.getfield 20, 3) := by decide +kernel
theorem d_KM_writeSecret_57 : decode (a_cc M_KM_writeSecret) 57 = .ok (.getfield 42, 3) := by decide +kernel
theorem d_KM_writeSecret_60 : decode (a_cc M_KM_writeSecret) 60 = .ok (.aload_n 0, 1) := by decide +kernel
theorem d_KM_writeSecret_61 : decode (a_cc M_KM_writeSecret) 61 = .ok (.getfield 20, 3) := by decide +kernel
theorem d_KM_writeSecret_64 : decode (a_cc M_KM_writeSecret) 64 = .ok (.getfield 155, 3) := by decide +kernel
theorem d_KM_writeSecret_67 : decode (a_cc M_KM_writeSecret) 67 = .ok (.bipush 64, 2) := by decide +kernel
theorem d_KM_writeSecret_69 : decode (a_cc M_KM_writeSecret) 69 = .ok (.invokevirtual 72, 3) := by decide +kernel
theorem d_KM_writeSecret_72 : decode (a_cc M_KM_writeSecret) 72 = .ok (.aload_n 1, 1) := by decide +kernel
theorem d_KM_writeSecret_73 : decode (a_cc M_KM_writeSecret) 73 = .ok (.aload_n 0, 1) := by decide +kernel
theorem d_KM_writeSecret_74 : decode (a_cc M_KM_writeSecret) 74 = .ok (.getfield 20, 3) := by decide +kernel
theorem d_KM_writeSecret_77 : decode (a_cc M_KM_writeSecret) 77 = .ok (.getfield 155, 3) := by decide +kernel
theorem d_KM_writeSecret_80 : decode (a_cc M_KM_writeSecret) 80 = .ok (.invokevirtual 158, 3) := by decide +kernel
theorem d_KM_writeSecret_83 : decode (a_cc M_KM_writeSecret) 83 = .ok (.iconst 0, 1) := by decide +kernel
theorem d_KM_writeSecret_84 : decode (a_cc M_KM_writeSecret) 84 = .ok (.istore 4, 2) := by decide +kernel
theorem d_KM_writeSecret_86 : decode (a_cc M_KM_writeSecret) 86 = .ok (.iload 4, 2) := by decide +kernel
theorem d_KM_writeSecret_88 : decode (a_cc M_KM_writeSecret) 88 = .ok (.aload_n 3, 1) := by decide +kernel
theorem d_KM_writeSecret_89 : decode (a_cc M_KM_writeSecret) 89 = .ok (.getfield 66, 3) := by decide +kernel
theorem d_KM_writeSecret_92 : decode (a_cc M_KM_writeSecret) 92 = .ok (.if_icmp .ge 31, 3) := by decide +kernel
theorem d_KM_writeSecret_95 : decode (a_cc M_KM_writeSecret) 95 = .ok (.aload_n 1, 1) := by decide +kernel
theorem d_KM_writeSecret_96 : decode (a_cc M_KM_writeSecret) 96 = .ok (.aload_n 0, 1) := by decide +kernel
theorem d_KM_writeSecret_97 : decode (a_cc M_KM_writeSecret) 97 = .ok (.getfield 20, 3) := by decide +kernel
theorem d_KM_writeSecret_100 : decode (a_cc M_KM_writeSecret) 100 = .ok (.getfield 95, 3) := by decide +kernel
theorem d_KM_writeSecret_103 : decode (a_cc M_KM_writeSecret) 103 = .ok (.iload 4, 2) := by decide +kernel
theorem d_KM_writeSecret_105 : decode (a_cc M_KM_writeSecret) 105 = .ok (.aaload, 1) := by decide +kernel
theorem d_KM_writeSecret_106 : decode (a_cc M_KM_writeSecret) 106 = .ok (.aload_n 3, 1) := by decide +kernel
theorem d_KM_writeSecret_107 : decode (a_cc M_KM_writeSecret) 107 = .ok (.getfield 92, 3) := by decide +kernel
theorem d_KM_writeSecret_110 : decode (a_cc M_KM_writeSecret) 110 = .ok (.aload_n 3, 1) := by decide +kernel
theorem d_KM_writeSecret_111 : decode (a_cc M_KM_writeSecret) 111 = .ok (.getfield 162, 3) := by decide +kernel
theorem d_KM_writeSecret_114 : decode (a_cc M_KM_writeSecret) 114 = .ok (.invokestatic 165, 3) := by decide +kernel
theorem d_KM_writeSecret_117 : decode (a_cc M_KM_writeSecret) 117 = .ok (.iinc 4 1, 3) := by decide +kernel
theorem d_KM_writeSecret_120 : decode (a_cc M_KM_writeSecret) 120 = .ok (.goto (-34), 3) := by decide +kernel
theorem d_KM_writeSecret_123 : decode (a_cc M_KM_writeSecret) 123 = .ok (.iconst 0, 1) := by decide +kernel
theorem d_KM_writeSecret_124 : decode (a_cc M_KM_writeSecret) 124 = .ok (.istore 4, 2) := by decide +kernel
theorem d_KM_writeSecret_126 : decode (a_cc M_KM_writeSecret) 126 = .ok (.iload 4, 2) := by decide +kernel
theorem d_KM_writeSecret_128 : decode (a_cc M_KM_writeSecret) 128 = .ok (.aload_n 3, 1) := by decide +kernel
theorem d_KM_writeSecret_129 : decode (a_cc M_KM_writeSecret) 129 = .ok (.getfield 57, 3) := by decide +kernel
theorem d_KM_writeSecret_132 : decode (a_cc M_KM_writeSecret) 132 = .ok (.if_icmp .ge 31, 3) := by decide +kernel
theorem d_KM_writeSecret_135 : decode (a_cc M_KM_writeSecret) 135 = .ok (.aload_n 1, 1) := by decide +kernel
theorem d_KM_writeSecret_136 : decode (a_cc M_KM_writeSecret) 136 = .ok (.aload_n 0, 1) := by decide +kernel
theorem d_KM_writeSecret_137 : decode (a_cc M_KM_writeSecret) 137 = .ok (.getfield 20, 3) := by decide +kernel
theorem d_KM_writeSecret_140 : decode (a_cc M_KM_writeSecret) 140 = .ok (.getfield 102, 3) := by decide +kernel
theorem d_KM_writeSecret_143 : decode (a_cc M_KM_writeSecret) 143 = .ok (.iload 4, 2) := by decide +kernel
theorem d_KM_writeSecret_145 : decode (a_cc M_KM_writeSecret) 145 = .ok (.aaload, 1) := by decide +kernel
theorem d_KM_writeSecret_146 : decode (a_cc M_KM_writeSecret) 146 = .ok (.aload_n 3, 1) := by decide +kernel
theorem d_KM_writeSecret_147 : decode (a_cc M_KM_writeSecret) 147 = .ok (.getfield 92, 3) := by decide +kernel
theorem d_KM_writeSecret_150 : decode (a_cc M_KM_writeSecret) 150 = .ok (.aload_n 3, 1) := by decide +kernel
theorem d_KM_writeSecret_151 : decode (a_cc M_KM_writeSecret) 151 = .ok (.getfield 162, 3) := by decide +kernel
theorem d_KM_writeSecret_154 : decode (a_cc M_KM_writeSecret) 154 = .ok (.invokestatic 165, 3) := by decide +kernel
theorem d_KM_writeSecret_157 : decode (a_cc M_KM_writeSecret) 157 = .ok (.iinc 4 1, 3) := by decide +kernel
theorem d_KM_writeSecret_160 : decode (a_cc M_KM_writeSecret) 160 = .ok (.goto (-34), 3) := by decide +kernel
theorem d_KM_writeSecret_163 : decode (a_cc M_KM_writeSecret) 163 = .ok (.iconst 0, 1) := by decide +kernel
theorem d_KM_writeSecret_164 : decode (a_cc M_KM_writeSecret) 164 = .ok (.istore 4, 2) := by decide +kernel
theorem d_KM_writeSecret_166 : decode (a_cc M_KM_writeSecret) 166 = .ok (.iload 4, 2) := by decide +kernel
theorem d_KM_writeSecret_168 : decode (a_cc M_KM_writeSecret) 168 = .ok (.aload_n 3, 1) := by decide +kernel
theorem d_KM_writeSecret_169 : decode (a_cc M_KM_writeSecret) 169 = .ok (.getfield 57, 3) := by decide +kernel
theorem d_KM_writeSecret_172 : decode (a_cc M_KM_writeSecret) 172 = .ok (.if_icmp .ge 83, 3) := by decide +kernel
theorem d_KM_writeSecret_175 : decode (a_cc M_KM_writeSecret) 175 = .ok (.iconst 0, 1) := by decide +kernel
theorem d_KM_writeSecret_176 : decode (a_cc M_KM_writeSecret) 176 = .ok (.istore 5, 2) := by decide +kernel
theorem d_KM_writeSecret_178 : decode (a_cc M_KM_writeSecret) 178 = .ok (.iload 5, 2) := by decide +kernel
theorem d_KM_writeSecret_180 : decode (a_cc M_KM_writeSecret) 180 = .ok (.sipush 256, 3) := by decide +kernel
theorem d_KM_writeSecret_183 : decode (a_cc M_KM_writeSecret) 183 = .ok (.if_icmp .ge 53, 3) := by decide +kernel
theorem d_KM_writeSecret_186 : decode (a_cc M_KM_writeSecret) 186 = .ok (.aload_n 0, 1) := by decide +kernel
theorem d_KM_writeSecret_187 : decode (a_cc M_KM_writeSecret) 187 = .ok (.getfield 20, 3) := by decide +kernel
theorem d_KM_writeSecret_190 : decode (a_cc M_KM_writeSecret) 190 = .ok (.getfield 125, 3) := by decide +kernel
theorem d_KM_writeSecret_193 : decode (a_cc M_KM_writeSecret) 193 = .ok (.iload 4, 2) := by decide +kernel
theorem d_KM_writeSecret_195 : decode (a_cc M_KM_writeSecret) 195 = .ok (.aaload, 1) := by decide +kernel
theorem d_KM_writeSecret_196 : decode (a_cc M_KM_writeSecret) 196 = .ok (.iload 5, 2) := by decide +kernel
theorem d_KM_writeSecret_198 : decode (a_cc M_KM_writeSecret) 198 = .ok (.iaload, 1) := by decide +kernel
theorem d_KM_writeSecret_199 : decode (a_cc M_KM_writeSecret) 199 = .ok (.istore 6, 2) := by decide +kernel
theorem d_KM_writeSecret_201 : decode (a_cc M_KM_writeSecret) 201 = .ok (.iload 6, 2) := by decide +kernel
theorem d_KM_writeSecret_203 : decode (a_cc M_KM_writeSecret) 203 = .ok (.iload 6, 2) := by decide +kernel
theorem d_KM_writeSecret_205 : decode (a_cc M_KM_writeSecret) 205 = .ok (.invokestatic 144, 3) := by decide +kernel
theorem d_KM_writeSecret_208 : decode (a_cc M_KM_writeSecret) 208 = .ok (.bipush 13, 2) := by decide +kernel
theorem d_KM_writeSecret_210 : decode (a_cc M_KM_writeSecret) 210 = .ok (.ishl, 1) := by decide +kernel
theorem d_KM_writeSecret_211 : decode (a_cc M_KM_writeSecret) 211 = .ok (.isub, 1) := by decide +kernel
theorem d_KM_writeSecret_212 : decode (a_cc M_KM_writeSecret) 212 = .ok (.istore 7, 2) := by decide +kernel
theorem d_KM_writeSecret_214 : decode (a_cc M_KM_writeSecret) 214 = .ok (.aload_n 0, 1) := by decide +kernel
theorem d_KM_writeSecret_215 : decode (a_cc M_KM_writeSecret) 215 = .ok (.getfield 20, 3) := by decide +kernel
theorem d_KM_writeSecret_218 : decode (a_cc M_KM_writeSecret) 218 = .ok (.getfield 140, 3) := by decide +kernel
theorem d_KM_writeSecret_221 : decode (a_cc M_KM_writeSecret) 221 = .ok (.iload 5, 2) := by decide +kernel
theorem d_KM_writeSecret_223 : decode (a_cc M_KM_writeSecret) 223 = .ok (.sipush 4096, 3) := by decide +kernel
theorem d_KM_writeSecret_226 : decode (a_cc M_KM_writeSecret) 226 = .ok (.iload 7, 2) := by decide +kernel
theorem d_KM_writeSecret_228 : decode (a_cc M_KM_writeSecret) 228 = .ok (.isub, 1) := by decide +kernel
theorem d_KM_writeSecret_229 : decode (a_cc M_KM_writeSecret) 229 = .ok (.iastore, 1) := by decide +kernel
theorem d_KM_writeSecret_230 : decode (a_cc M_KM_writeSecret) 230 = .ok (.iinc 5 1, 3) := by decide +kernel
theorem d_KM_writeSecret_233 : decode (a_cc M_KM_writeSecret) 233 = .ok (.goto (-55), 3) := by decide +kernel
theorem d_KM_writeSecret_236 : decode (a_cc M_KM_writeSecret) 236 = .ok (.aload_n 1, 1) := by decide +kernel
theorem d_KM_writeSecret_237 : decode (a_cc M_KM_writeSecret) 237 = .ok (.aload_n 0, 1) := by decide +kernel
theorem d_KM_writeSecret_238 : decode (a_cc M_KM_writeSecret) 238 = .ok (.getfield 20, 3) := by decide +kernel
theorem d_KM_writeSecret_241 : decode (a_cc M_KM_writeSecret) 241 = .ok (.getfield 140, 3) := by decide +kernel
theorem d_KM_writeSecret_244 : decode (a_cc M_KM_writeSecret) 244 = .ok (.bipush 13, 2) := by decide +kernel
theorem d_KM_writeSecret_246 : decode (a_cc M_KM_writeSecret) 246 = .ok (.invokevirtual 148, 3) := by decide +kernel
theorem d_KM_writeSecret_249 : decode (a_cc M_KM_writeSecret) 249 = .ok (.iinc 4 1, 3) := by decide +kernel
theorem d_KM_writeSecret_252 : decode (a_cc M_KM_writeSecret) 252 = .ok (.goto (-86), 3) := by decide +kernel
theorem d_KM_writeSecret_255 : decode (a_cc M_KM_writeSecret) 255 = .ok (.return_, 1) := by decide +kernel
theorem cs_KM_writeSecret_1 : a_CV M_KM_writeSecret M_By_clear 134 1 1 0 0 := ⟨⟨ok_By_clear, by decide, by decide, by decide⟩, by decide, rfl, List.mem_append_right _ (List.mem_of_getElem? (i := 746) (by decide +kernel)), List.mem_append_right _ (List.mem_of_getElem? (i := 502) (by decide +kernel)), List.mem_append_right _ (List.mem_of_getElem? (i := 503) (by decide +kernel)), by decide +kernel⟩
theorem cs_KM_writeSecret_7 : a_CV M_KM_writeSecret M_KM_addSeed 137 4 3 0 2 := ⟨⟨ok_KM_addSeed, by decide, by decide, by decide⟩, by decide, rfl, List.mem_append_right _ (List.mem_of_getElem? (i := 747) (by decide +kernel)), List.mem_append_right _ (List.mem_of_getElem? (i := 749) (by decide +kernel)), List.mem_append_left _ (List.mem_of_getElem? (i := 10) (by decide +kernel)), by decide +kernel⟩
theorem cs_KM_writeSecret_14 : a_CV M_KM_writeSecret M_KM_addSeed 137 4 3 0 2 := ⟨⟨ok_KM_addSeed, by decide, by decide, by decide⟩, by decide, rfl, List.mem_append_right _ (List.mem_of_getElem? (i := 747) (by decide +kernel)), List.mem_append_right _ (List.mem_of_getElem? (i := 749) (by decide +kernel)), List.mem_append_left _ (List.mem_of_getElem? (i := 10) (by decide +kernel)), by decide +kernel⟩
theorem cs_KM_writeSecret_24 : a_CV M_KM_writeSecret M_Sp_start256 48 7 1 0 0 := ⟨⟨ok_Sp_start256, by decide, by decide, by decide⟩, by decide, rfl, List.mem_append_right _ (List.mem_of_getElem? (i := 603) (by decide +kernel)), List.mem_append_right _ (List.mem_of_getElem? (i := 604) (by decide +kernel)), List.mem_append_right _ (List.mem_of_getElem? (i := 605) (by decide +kernel)), by decide +kernel⟩
theorem fd_KM_152 : a_Fd "ModuleSigner$KeyMaker" 152 1 1 0 := ⟨by decide, by decide, rfl, List.mem_append_right _ (List.mem_of_getElem? (i := 44) (by decide +kernel))⟩
theorem cs_KM_writeSecret_40 : a_CV M_KM_writeSecret M_Sp_takePart 53 7 4 0 3 := ⟨⟨ok_Sp_takePart, by decide, by decide, by decide⟩, by decide, rfl, List.mem_append_right _ (List.mem_of_getElem? (i := 611) (by decide +kernel)), List.mem_append_right _ (List.mem_of_getElem? (i := 612) (by decide +kernel)), List.mem_append_right _ (List.mem_of_getElem? (i := 613) (by decide +kernel)), by decide +kernel⟩
theorem cs_KM_writeSecret_50 : a_CV M_KM_writeSecret M_Sp_turn 69 7 1 0 0 := ⟨⟨ok_Sp_turn, by decide, by decide, by decide⟩, by decide, rfl, List.mem_append_right _ (List.mem_of_getElem? (i := 637) (by decide +kernel)), List.mem_append_right _ (List.mem_of_getElem? (i := 638) (by decide +kernel)), List.mem_append_right _ (List.mem_of_getElem? (i := 639) (by decide +kernel)), by decide +kernel⟩
theorem fd_KM_155 : a_Fd "ModuleSigner$KeyMaker" 155 3 10 2 := ⟨by decide, by decide, rfl, List.mem_append_right _ (List.mem_of_getElem? (i := 260) (by decide +kernel))⟩
theorem cs_KM_writeSecret_69 : a_CV M_KM_writeSecret M_Sp_giveTo 72 7 3 0 2 := ⟨⟨ok_Sp_giveTo, by decide, by decide, by decide⟩, by decide, rfl, List.mem_append_right _ (List.mem_of_getElem? (i := 641) (by decide +kernel)), List.mem_append_right _ (List.mem_of_getElem? (i := 642) (by decide +kernel)), List.mem_append_right _ (List.mem_of_getElem? (i := 643) (by decide +kernel)), by decide +kernel⟩
theorem cs_KM_writeSecret_80 : a_CV M_KM_writeSecret M_By_addAll 158 1 2 0 1 := ⟨⟨ok_By_addAll, by decide, by decide, by decide⟩, by decide, rfl, List.mem_append_right _ (List.mem_of_getElem? (i := 764) (by decide +kernel)), List.mem_append_right _ (List.mem_of_getElem? (i := 765) (by decide +kernel)), List.mem_append_right _ (List.mem_of_getElem? (i := 766) (by decide +kernel)), by decide +kernel⟩
theorem fd_KM_162 : a_Fd "ModuleSigner$KeyMaker" 162 2 10 0 := ⟨by decide, by decide, rfl, List.mem_append_right _ (List.mem_of_getElem? (i := 115) (by decide +kernel))⟩
theorem cs_KM_writeSecret_114 : a_CS M_KM_writeSecret M_KM_addMirrored 165 4 0 4 := ⟨⟨ok_KM_addMirrored, by decide, by decide, by decide⟩, List.mem_append_right _ (List.mem_of_getElem? (i := 768) (by decide +kernel)), List.mem_append_right _ (List.mem_of_getElem? (i := 769) (by decide +kernel)), by decide +kernel⟩
theorem cs_KM_writeSecret_154 : a_CS M_KM_writeSecret M_KM_addMirrored 165 4 0 4 := ⟨⟨ok_KM_addMirrored, by decide, by decide, by decide⟩, List.mem_append_right _ (List.mem_of_getElem? (i := 768) (by decide +kernel)), List.mem_append_right _ (List.mem_of_getElem? (i := 769) (by decide +kernel)), by decide +kernel⟩
theorem cs_KM_writeSecret_205 : a_CS M_KM_writeSecret M_KM_top 144 1 1 1 := ⟨⟨ok_KM_top, by decide, by decide, by decide⟩, List.mem_append_right _ (List.mem_of_getElem? (i := 753) (by decide +kernel)), List.mem_append_right _ (List.mem_of_getElem? (i := 754) (by decide +kernel)), by decide +kernel⟩
theorem cs_KM_writeSecret_246 : a_CV M_KM_writeSecret M_By_addBits 148 1 3 0 2 := ⟨⟨ok_By_addBits, by decide, by decide, by decide⟩, by decide, rfl, List.mem_append_right _ (List.mem_of_getElem? (i := 756) (by decide +kernel)), List.mem_append_right _ (List.mem_of_getElem? (i := 757) (by decide +kernel)), List.mem_append_right _ (List.mem_of_getElem? (i := 758) (by decide +kernel)), by decide +kernel⟩
def M_KM_make : a_M := (⟨"ModuleSigner$KeyMaker", "make", "([LModuleSigner$Bytes;LModuleSigner$Parameters;)V"⟩, prog_4_method_2_code, 3, none, "ModuleSigner$KeyMaker", 9, 129, [])
theorem ok_KM_make : a_Ok M_KM_make := ⟨rfl, by decide +kernel, ⟨by decide, by decide⟩, List.mem_append_right _ (List.mem_of_getElem? (i := 8) (by decide +kernel)), Or.inl ⟨rfl, List.mem_append_right _ (List.mem_of_getElem? (i := 598) (by decide +kernel))⟩⟩
theorem d_KM_make_0 : decode (a_cc M_KM_make) 0 = .ok (.aload_n 0, 1) := by decide +kernel
theorem d_KM_make_1 : decode (a_cc M_KM_make) 1 = .ok (.aload_n 1, 1) := by decide +kernel
theorem d_KM_make_2 : decode (a_cc M_KM_make) 2 = .ok (.iconst 0, 1) := by decide +kernel
theorem d_KM_make_3 : decode (a_cc M_KM_make) 3 = .ok (.aaload, 1) := by decide +kernel
theorem d_KM_make_4 : decode (a_cc M_KM_make) 4 = .ok (.aload_n 2, 1) := by decide +kernel
theorem d_KM_make_5 : decode (a_cc M_KM_make) 5 = .ok (.invokevirtual 24, 3) := by decide +kernel
theorem d_KM_make_8 : decode (a_cc M_KM_make) 8 = .ok (.aload_n 0, 1) := by decide +kernel
theorem d_KM_make_9 : decode (a_cc M_KM_make) 9 = .ok (.aload_n 2, 1) := by decide +kernel
theorem d_KM_make_10 : decode (a_cc M_KM_make) 10 = .ok (.invokevirtual 28, 3) := by decide +kernel
theorem d_KM_make_13 : decode (a_cc M_KM_make) 13 = .ok (.aload_n 0, 1) := by decide +kernel
theorem d_KM_make_14 : decode (a_cc M_KM_make) 14 = .ok (.aload_n 2, 1) := by decide +kernel
theorem d_KM_make_15 : decode (a_cc M_KM_make) 15 = .ok (.invokevirtual 32, 3) := by decide +kernel
theorem d_KM_make_18 : decode (a_cc M_KM_make) 18 = .ok (.aload_n 0, 1) := by decide +kernel
theorem d_KM_make_19 : decode (a_cc M_KM_make) 19 = .ok (.aload_n 1, 1) := by decide +kernel
theorem d_KM_make_20 : decode (a_cc M_KM_make) 20 = .ok (.iconst 1, 1) := by decide +kernel
theorem d_KM_make_21 : decode (a_cc M_KM_make) 21 = .ok (.aaload, 1) := by decide +kernel
theorem d_KM_make_22 : decode (a_cc M_KM_make) 22 = .ok (.aload_n 2, 1) := by decide +kernel
theorem d_KM_make_23 : decode (a_cc M_KM_make) 23 = .ok (.invokevirtual 35, 3) := by decide +kernel
theorem d_KM_make_26 : decode (a_cc M_KM_make) 26 = .ok (.aload_n 0, 1) := by decide +kernel
theorem d_KM_make_27 : decode (a_cc M_KM_make) 27 = .ok (.aload_n 1, 1) := by decide +kernel
theorem d_KM_make_28 : decode (a_cc M_KM_make) 28 = .ok (.iconst 2, 1) := by decide +kernel
theorem d_KM_make_29 : decode (a_cc M_KM_make) 29 = .ok (.aaload, 1) := by decide +kernel
theorem d_KM_make_30 : decode (a_cc M_KM_make) 30 = .ok (.aload_n 1, 1) := by decide +kernel
theorem d_KM_make_31 : decode (a_cc M_KM_make) 31 = .ok (.iconst 1, 1) := by decide +kernel
theorem d_KM_make_32 : decode (a_cc M_KM_make) 32 = .ok (.aaload, 1) := by decide +kernel
theorem d_KM_make_33 : decode (a_cc M_KM_make) 33 = .ok (.aload_n 2, 1) := by decide +kernel
theorem d_KM_make_34 : decode (a_cc M_KM_make) 34 = .ok (.invokevirtual 38, 3) := by decide +kernel
theorem d_KM_make_37 : decode (a_cc M_KM_make) 37 = .ok (.return_, 1) := by decide +kernel
theorem cs_KM_make_5 : a_CV M_KM_make M_KM_drawSeeds 24 4 3 0 2 := ⟨⟨ok_KM_drawSeeds, by decide, by decide, by decide⟩, by decide, rfl, List.mem_append_right _ (List.mem_of_getElem? (i := 599) (by decide +kernel)), List.mem_append_right _ (List.mem_of_getElem? (i := 601) (by decide +kernel)), List.mem_append_left _ (List.mem_of_getElem? (i := 2) (by decide +kernel)), by decide +kernel⟩
theorem cs_KM_make_10 : a_CV M_KM_make M_KM_drawSecrets 28 4 2 0 1 := ⟨⟨ok_KM_drawSecrets, by decide, by decide, by decide⟩, by decide, rfl, List.mem_append_right _ (List.mem_of_getElem? (i := 651) (by decide +kernel)), List.mem_append_right _ (List.mem_of_getElem? (i := 653) (by decide +kernel)), List.mem_append_left _ (List.mem_of_getElem? (i := 6) (by decide +kernel)), by decide +kernel⟩
theorem cs_KM_make_15 : a_CV M_KM_make M_KM_computeImages 32 4 2 0 1 := ⟨⟨ok_KM_computeImages, by decide, by decide, by decide⟩, by decide, rfl, List.mem_append_right _ (List.mem_of_getElem? (i := 705) (by decide +kernel)), List.mem_append_right _ (List.mem_of_getElem? (i := 707) (by decide +kernel)), List.mem_append_left _ (List.mem_of_getElem? (i := 8) (by decide +kernel)), by decide +kernel⟩
theorem cs_KM_make_23 : a_CV M_KM_make M_KM_writePublic 35 4 3 0 2 := ⟨⟨ok_KM_writePublic, by decide, by decide, by decide⟩, by decide, rfl, List.mem_append_right _ (List.mem_of_getElem? (i := 742) (by decide +kernel)), List.mem_append_right _ (List.mem_of_getElem? (i := 744) (by decide +kernel)), List.mem_append_left _ (List.mem_of_getElem? (i := 9) (by decide +kernel)), by decide +kernel⟩
theorem cs_KM_make_34 : a_CV M_KM_make M_KM_writeSecret 38 4 4 0 3 := ⟨⟨ok_KM_writeSecret, by decide, by decide, by decide⟩, by decide, rfl, List.mem_append_right _ (List.mem_of_getElem? (i := 760) (by decide +kernel)), List.mem_append_right _ (List.mem_of_getElem? (i := 762) (by decide +kernel)), List.mem_append_left _ (List.mem_of_getElem? (i := 11) (by decide +kernel)), by decide +kernel⟩
def M_MS_dsaKeys : a_M := (⟨"ModuleSigner", "dsaKeys", "(I)I"⟩, prog_1_method_10_code, 2, some .int, "ModuleSigner", 10, 143, [])
theorem ok_MS_dsaKeys : a_Ok M_MS_dsaKeys := ⟨rfl, by decide +kernel, ⟨by decide, by decide⟩, List.mem_append_right _ (List.mem_of_getElem? (i := 1) (by decide +kernel)), Or.inl ⟨rfl, List.mem_append_right _ (List.mem_of_getElem? (i := 574) (by decide +kernel))⟩⟩
theorem d_MS_dsaKeys_0 : decode (a_cc M_MS_dsaKeys) 0 = .ok (.iload_n 1, 1) := by decide +kernel
theorem d_MS_dsaKeys_1 : decode (a_cc M_MS_dsaKeys) 1 = .ok (.invokestatic 108, 3) := by decide +kernel
theorem d_MS_dsaKeys_4 : decode (a_cc M_MS_dsaKeys) 4 = .ok (.aload_n 0, 1) := by decide +kernel
theorem d_MS_dsaKeys_5 : decode (a_cc M_MS_dsaKeys) 5 = .ok (.getfield 11, 3) := by decide +kernel
theorem d_MS_dsaKeys_8 : decode (a_cc M_MS_dsaKeys) 8 = .ok (.iconst 0, 1) := by decide +kernel
theorem d_MS_dsaKeys_9 : decode (a_cc M_MS_dsaKeys) 9 = .ok (.aaload, 1) := by decide +kernel
theorem d_MS_dsaKeys_10 : decode (a_cc M_MS_dsaKeys) 10 = .ok (.getfield 55, 3) := by decide +kernel
theorem d_MS_dsaKeys_13 : decode (a_cc M_MS_dsaKeys) 13 = .ok (.bipush 32, 2) := by decide +kernel
theorem d_MS_dsaKeys_15 : decode (a_cc M_MS_dsaKeys) 15 = .ok (.if_icmp .eq 13, 3) := by decide +kernel
theorem d_MS_dsaKeys_18 : decode (a_cc M_MS_dsaKeys) 18 = .ok (.new 111, 3) := by decide +kernel
theorem d_MS_dsaKeys_21 : decode (a_cc M_MS_dsaKeys) 21 = .ok (.dup, 1) := by decide +kernel
theorem d_MS_dsaKeys_22 : decode (a_cc M_MS_dsaKeys) 22 = .ok (.ldc 113, 2) := by decide +kernel
theorem d_MS_dsaKeys_24 : decode (a_cc M_MS_dsaKeys) 24 = .ok (.invokespecial 115, 3) := by decide +kernel
theorem d_MS_dsaKeys_27 : decode (a_cc M_MS_dsaKeys) 27 = .ok (.athrow, 1) := by decide +kernel
theorem d_MS_dsaKeys_28 : decode (a_cc M_MS_dsaKeys) 28 = .ok (.aload_n 0, 1) := by decide +kernel
theorem d_MS_dsaKeys_29 : decode (a_cc M_MS_dsaKeys) 29 = .ok (.getfield 37, 3) := by decide +kernel
theorem d_MS_dsaKeys_32 : decode (a_cc M_MS_dsaKeys) 32 = .ok (.aload_n 0, 1) := by decide +kernel
theorem d_MS_dsaKeys_33 : decode (a_cc M_MS_dsaKeys) 33 = .ok (.getfield 11, 3) := by decide +kernel
theorem d_MS_dsaKeys_36 : decode (a_cc M_MS_dsaKeys) 36 = .ok (.aload_n 0, 1) := by decide +kernel
theorem d_MS_dsaKeys_37 : decode (a_cc M_MS_dsaKeys) 37 = .ok (.getfield 24, 3) := by decide +kernel
theorem d_MS_dsaKeys_40 : decode (a_cc M_MS_dsaKeys) 40 = .ok (.iload_n 1, 1) := by decide +kernel
theorem d_MS_dsaKeys_41 : decode (a_cc M_MS_dsaKeys) 41 = .ok (.aaload, 1) := by decide +kernel
theorem d_MS_dsaKeys_42 : decode (a_cc M_MS_dsaKeys) 42 = .ok (.invokevirtual 116, 3) := by decide +kernel
theorem d_MS_dsaKeys_45 : decode (a_cc M_MS_dsaKeys) 45 = .ok (.aload_n 0, 1) := by decide +kernel
theorem d_MS_dsaKeys_46 : decode (a_cc M_MS_dsaKeys) 46 = .ok (.getfield 11, 3) := by decide +kernel
theorem d_MS_dsaKeys_49 : decode (a_cc M_MS_dsaKeys) 49 = .ok (.iconst 2, 1) := by decide +kernel
theorem d_MS_dsaKeys_50 : decode (a_cc M_MS_dsaKeys) 50 = .ok (.aaload, 1) := by decide +kernel
theorem d_MS_dsaKeys_51 : decode (a_cc M_MS_dsaKeys) 51 = .ok (.getfield 55, 3) := by decide +kernel
theorem d_MS_dsaKeys_54 : decode (a_cc M_MS_dsaKeys) 54 = .ok (.ireturn, 1) := by decide +kernel
theorem cs_MS_dsaKeys_1 : a_CS M_MS_dsaKeys M_MS_needSet 108 1 0 1 := ⟨⟨ok_MS_needSet, by decide, by decide, by decide⟩, List.mem_append_right _ (List.mem_of_getElem? (i := 575) (by decide +kernel)), List.mem_append_right _ (List.mem_of_getElem? (i := 576) (by decide +kernel)), by decide +kernel⟩
theorem th_MS_dsaKeys_18 : a_Th M_MS_dsaKeys 18 2 0 := ⟨_, _, _, "RANDOM has not 32 bytes", d_MS_dsaKeys_18, d_MS_dsaKeys_21, d_MS_dsaKeys_22, d_MS_dsaKeys_24, d_MS_dsaKeys_27, List.mem_append_right _ (List.mem_of_getElem? (i := 588) (by decide +kernel)), by decide, List.mem_append_right _ (List.mem_of_getElem? (i := 579) (by decide +kernel)), List.mem_append_right _ (List.mem_of_getElem? (i := 589) (by decide +kernel)), rfl, by decide, by decide⟩
theorem cs_MS_dsaKeys_42 : a_CV M_MS_dsaKeys M_KM_make 116 4 3 0 2 := ⟨⟨ok_KM_make, by decide, by decide, by decide⟩, by decide, rfl, List.mem_append_right _ (List.mem_of_getElem? (i := 595) (by decide +kernel)), List.mem_append_right _ (List.mem_of_getElem? (i := 596) (by decide +kernel)), List.mem_append_right _ (List.mem_of_getElem? (i := 597) (by decide +kernel)), by decide +kernel⟩
def M_La_dsaKeys : a_M := (⟨"ModuleSignerLaw", "dsaKeys", "(LModuleSigner;I[J)I"⟩, method_11_code, 4, some .int, "ModuleSignerLaw", 11, 158, [(0, 9, 12, 19), (0, 9, 15, 46), (0, 9, 18, 48)])
theorem ok_La_dsaKeys : a_Ok M_La_dsaKeys := ⟨rfl, by decide +kernel, ⟨by decide, by decide⟩, List.mem_append_right _ (List.mem_of_getElem? (i := 0) (by decide +kernel)), Or.inr (List.mem_append_right _ (List.mem_of_getElem? (i := 568) (by decide +kernel)))⟩
theorem d_La_dsaKeys_0 : decode (a_cc M_La_dsaKeys) 0 = .ok (.aload_n 2, 1) := by decide +kernel
theorem d_La_dsaKeys_1 : decode (a_cc M_La_dsaKeys) 1 = .ok (.iconst 0, 1) := by decide +kernel
theorem d_La_dsaKeys_2 : decode (a_cc M_La_dsaKeys) 2 = .ok (.aload_n 0, 1) := by decide +kernel
theorem d_La_dsaKeys_3 : decode (a_cc M_La_dsaKeys) 3 = .ok (.iload_n 1, 1) := by decide +kernel
theorem d_La_dsaKeys_4 : decode (a_cc M_La_dsaKeys) 4 = .ok (.invokevirtual 43, 3) := by decide +kernel
theorem d_La_dsaKeys_7 : decode (a_cc M_La_dsaKeys) 7 = .ok (.i2l, 1) := by decide +kernel
theorem d_La_dsaKeys_8 : decode (a_cc M_La_dsaKeys) 8 = .ok (.lastore, 1) := by decide +kernel
theorem d_La_dsaKeys_9 : decode (a_cc M_La_dsaKeys) 9 = .ok (.goto 12, 3) := by decide +kernel
theorem d_La_dsaKeys_12 : decode (a_cc M_La_dsaKeys) 12 = .ok (.astore_n 3, 1) := by decide +kernel
theorem d_La_dsaKeys_13 : decode (a_cc M_La_dsaKeys) 13 = .ok (.iconst 1, 1) := by decide +kernel
theorem d_La_dsaKeys_14 : decode (a_cc M_La_dsaKeys) 14 = .ok (.ireturn, 1) := by decide +kernel
theorem d_La_dsaKeys_15 : decode (a_cc M_La_dsaKeys) 15 = .ok (.astore_n 3, 1) := by decide +kernel
theorem d_La_dsaKeys_16 : decode (a_cc M_La_dsaKeys) 16 = .ok (.iconst 2, 1) := by decide +kernel
theorem d_La_dsaKeys_17 : decode (a_cc M_La_dsaKeys) 17 = .ok (.ireturn, 1) := by decide +kernel
theorem d_La_dsaKeys_18 : decode (a_cc M_La_dsaKeys) 18 = .ok (.astore_n 3, 1) := by decide +kernel
theorem d_La_dsaKeys_19 : decode (a_cc M_La_dsaKeys) 19 = .ok (.iconst 3, 1) := by decide +kernel
theorem d_La_dsaKeys_20 : decode (a_cc M_La_dsaKeys) 20 = .ok (.ireturn, 1) := by decide +kernel
theorem d_La_dsaKeys_21 : decode (a_cc M_La_dsaKeys) 21 = .ok (.iconst 0, 1) := by decide +kernel
theorem d_La_dsaKeys_22 : decode (a_cc M_La_dsaKeys) 22 = .ok (.ireturn, 1) := by decide +kernel
theorem cs_La_dsaKeys_4 : a_CV M_La_dsaKeys M_MS_dsaKeys 43 0 2 2 1 := ⟨⟨ok_MS_dsaKeys, by decide, by decide, by decide⟩, by decide, rfl, List.mem_append_right _ (List.mem_of_getElem? (i := 571) (by decide +kernel)), List.mem_append_right _ (List.mem_of_getElem? (i := 572) (by decide +kernel)), List.mem_append_right _ (List.mem_of_getElem? (i := 573) (by decide +kernel)), by decide +kernel⟩
def M_Mo_dsa : a_M := (⟨"ModuleSignerModel", "dsa", "(I)V"⟩, prog_12_method_43_code, 3, none, "ModuleSignerModel", 0, 0, [])
theorem ok_Mo_dsa : a_Ok M_Mo_dsa := ⟨rfl, by decide +kernel, ⟨by decide, by decide⟩, List.mem_append_right _ (List.mem_of_getElem? (i := 11) (by decide +kernel)), Or.inl ⟨rfl, List.mem_append_right _ (List.mem_of_getElem? (i := 1286) (by decide +kernel))⟩⟩
theorem d_Mo_dsa_0 : decode (a_cc M_Mo_dsa) 0 = .ok (.aload_n 0, 1) := by decide +kernel
theorem d_Mo_dsa_1 : decode (a_cc M_Mo_dsa) 1 = .ok (.iload_n 1, 1) := by decide +kernel
theorem d_Mo_dsa_2 : decode (a_cc M_Mo_dsa) 2 = .ok (.ifCond .ne 7, 3) := by decide +kernel
theorem d_Mo_dsa_5 : decode (a_cc M_Mo_dsa) 5 = .ok (.iconst 4, 1) := by decide +kernel
theorem d_Mo_dsa_6 : decode (a_cc M_Mo_dsa) 6 = .ok (.goto 15, 3) := by decide +kernel
theorem d_Mo_dsa_9 : decode (a_cc M_Mo_dsa) 9 = .ok (.iload_n 1, 1) := by decide +kernel
theorem d_Mo_dsa_10 : decode (a_cc M_Mo_dsa) 10 = .ok (.iconst 1, 1) := by decide +kernel
theorem d_Mo_dsa_11 : decode (a_cc M_Mo_dsa) 11 = .ok (.if_icmp .ne 8, 3) := by decide +kernel
theorem d_Mo_dsa_14 : decode (a_cc M_Mo_dsa) 14 = .ok (.bipush 6, 2) := by decide +kernel
theorem d_Mo_dsa_16 : decode (a_cc M_Mo_dsa) 16 = .ok (.goto 5, 3) := by decide +kernel
theorem d_Mo_dsa_19 : decode (a_cc M_Mo_dsa) 19 = .ok (.bipush 8, 2) := by decide +kernel
theorem d_Mo_dsa_21 : decode (a_cc M_Mo_dsa) 21 = .ok (.putfield 223, 3) := by decide +kernel
theorem d_Mo_dsa_24 : decode (a_cc M_Mo_dsa) 24 = .ok (.aload_n 0, 1) := by decide +kernel
theorem d_Mo_dsa_25 : decode (a_cc M_Mo_dsa) 25 = .ok (.iload_n 1, 1) := by decide +kernel
theorem d_Mo_dsa_26 : decode (a_cc M_Mo_dsa) 26 = .ok (.ifCond .ne 7, 3) := by decide +kernel
theorem d_Mo_dsa_29 : decode (a_cc M_Mo_dsa) 29 = .ok (.iconst 4, 1) := by decide +kernel
theorem d_Mo_dsa_30 : decode (a_cc M_Mo_dsa) 30 = .ok (.goto 14, 3) := by decide +kernel
theorem d_Mo_dsa_33 : decode (a_cc M_Mo_dsa) 33 = .ok (.iload_n 1, 1) := by decide +kernel
theorem d_Mo_dsa_34 : decode (a_cc M_Mo_dsa) 34 = .ok (.iconst 1, 1) := by decide +kernel
theorem d_Mo_dsa_35 : decode (a_cc M_Mo_dsa) 35 = .ok (.if_icmp .ne 7, 3) := by decide +kernel
theorem d_Mo_dsa_38 : decode (a_cc M_Mo_dsa) 38 = .ok (.iconst 5, 1) := by decide +kernel
theorem d_Mo_dsa_39 : decode (a_cc M_Mo_dsa) 39 = .ok (.goto 5, 3) := by decide +kernel
theorem d_Mo_dsa_42 : decode (a_cc M_Mo_dsa) 42 = .ok (.bipush 7, 2) := by decide +kernel
theorem d_Mo_dsa_44 : decode (a_cc M_Mo_dsa) 44 = .ok (.putfield 226, 3) := by decide +kernel
theorem d_Mo_dsa_47 : decode (a_cc M_Mo_dsa) 47 = .ok (.aload_n 0, 1) := by decide +kernel
theorem d_Mo_dsa_48 : decode (a_cc M_Mo_dsa) 48 = .ok (.iload_n 1, 1) := by decide +kernel
theorem d_Mo_dsa_49 : decode (a_cc M_Mo_dsa) 49 = .ok (.iconst 1, 1) := by decide +kernel
theorem d_Mo_dsa_50 : decode (a_cc M_Mo_dsa) 50 = .ok (.if_icmp .ne 7, 3) := by decide +kernel
theorem d_Mo_dsa_53 : decode (a_cc M_Mo_dsa) 53 = .ok (.iconst 4, 1) := by decide +kernel
theorem d_Mo_dsa_54 : decode (a_cc M_Mo_dsa) 54 = .ok (.goto 4, 3) := by decide +kernel
theorem d_Mo_dsa_57 : decode (a_cc M_Mo_dsa) 57 = .ok (.iconst 2, 1) := by decide +kernel
theorem d_Mo_dsa_58 : decode (a_cc M_Mo_dsa) 58 = .ok (.putfield 229, 3) := by decide +kernel
theorem d_Mo_dsa_61 : decode (a_cc M_Mo_dsa) 61 = .ok (.aload_n 0, 1) := by decide +kernel
theorem d_Mo_dsa_62 : decode (a_cc M_Mo_dsa) 62 = .ok (.iload_n 1, 1) := by decide +kernel
theorem d_Mo_dsa_63 : decode (a_cc M_Mo_dsa) 63 = .ok (.ifCond .ne 8, 3) := by decide +kernel
theorem d_Mo_dsa_66 : decode (a_cc M_Mo_dsa) 66 = .ok (.bipush 39, 2) := by decide +kernel
theorem d_Mo_dsa_68 : decode (a_cc M_Mo_dsa) 68 = .ok (.goto 15, 3) := by decide +kernel
theorem d_Mo_dsa_71 : decode (a_cc M_Mo_dsa) 71 = .ok (.iload_n 1, 1) := by decide +kernel
theorem d_Mo_dsa_72 : decode (a_cc M_Mo_dsa) 72 = .ok (.iconst 1, 1) := by decide +kernel
theorem d_Mo_dsa_73 : decode (a_cc M_Mo_dsa) 73 = .ok (.if_icmp .ne 8, 3) := by decide +kernel
theorem d_Mo_dsa_76 : decode (a_cc M_Mo_dsa) 76 = .ok (.bipush 49, 2) := by decide +kernel
theorem d_Mo_dsa_78 : decode (a_cc M_Mo_dsa) 78 = .ok (.goto 5, 3) := by decide +kernel
theorem d_Mo_dsa_81 : decode (a_cc M_Mo_dsa) 81 = .ok (.bipush 60, 2) := by decide +kernel
theorem d_Mo_dsa_83 : decode (a_cc M_Mo_dsa) 83 = .ok (.putfield 232, 3) := by decide +kernel
theorem d_Mo_dsa_86 : decode (a_cc M_Mo_dsa) 86 = .ok (.aload_n 0, 1) := by decide +kernel
theorem d_Mo_dsa_87 : decode (a_cc M_Mo_dsa) 87 = .ok (.iload_n 1, 1) := by decide +kernel
theorem d_Mo_dsa_88 : decode (a_cc M_Mo_dsa) 88 = .ok (.ifCond .ne 8, 3) := by decide +kernel
theorem d_Mo_dsa_91 : decode (a_cc M_Mo_dsa) 91 = .ok (.ldc 235, 2) := by decide +kernel
theorem d_Mo_dsa_93 : decode (a_cc M_Mo_dsa) 93 = .ok (.goto 5, 3) := by decide +kernel
theorem d_Mo_dsa_96 : decode (a_cc M_Mo_dsa) 96 = .ok (.ldc 236, 2) := by decide +kernel
theorem d_Mo_dsa_98 : decode (a_cc M_Mo_dsa) 98 = .ok (.putfield 237, 3) := by decide +kernel
theorem d_Mo_dsa_101 : decode (a_cc M_Mo_dsa) 101 = .ok (.aload_n 0, 1) := by decide +kernel
theorem d_Mo_dsa_102 : decode (a_cc M_Mo_dsa) 102 = .ok (.iload_n 1, 1) := by decide +kernel
theorem d_Mo_dsa_103 : decode (a_cc M_Mo_dsa) 103 = .ok (.ifCond .ne 8, 3) := by decide +kernel
theorem d_Mo_dsa_106 : decode (a_cc M_Mo_dsa) 106 = .ok (.ldc 240, 2) := by decide +kernel
theorem d_Mo_dsa_108 : decode (a_cc M_Mo_dsa) 108 = .ok (.goto 5, 3) := by decide +kernel
theorem d_Mo_dsa_111 : decode (a_cc M_Mo_dsa) 111 = .ok (.ldc 241, 2) := by decide +kernel
theorem d_Mo_dsa_113 : decode (a_cc M_Mo_dsa) 113 = .ok (.putfield 242, 3) := by decide +kernel
theorem d_Mo_dsa_116 : decode (a_cc M_Mo_dsa) 116 = .ok (.aload_n 0, 1) := by decide +kernel
theorem d_Mo_dsa_117 : decode (a_cc M_Mo_dsa) 117 = .ok (.iload_n 1, 1) := by decide +kernel
theorem d_Mo_dsa_118 : decode (a_cc M_Mo_dsa) 118 = .ok (.ifCond .ne 8, 3) := by decide +kernel
theorem d_Mo_dsa_121 : decode (a_cc M_Mo_dsa) 121 = .ok (.bipush 80, 2) := by decide +kernel
theorem d_Mo_dsa_123 : decode (a_cc M_Mo_dsa) 123 = .ok (.goto 15, 3) := by decide +kernel
theorem d_Mo_dsa_126 : decode (a_cc M_Mo_dsa) 126 = .ok (.iload_n 1, 1) := by decide +kernel
theorem d_Mo_dsa_127 : decode (a_cc M_Mo_dsa) 127 = .ok (.iconst 1, 1) := by decide +kernel
theorem d_Mo_dsa_128 : decode (a_cc M_Mo_dsa) 128 = .ok (.if_icmp .ne 8, 3) := by decide +kernel
theorem d_Mo_dsa_131 : decode (a_cc M_Mo_dsa) 131 = .ok (.bipush 55, 2) := by decide +kernel
theorem d_Mo_dsa_133 : decode (a_cc M_Mo_dsa) 133 = .ok (.goto 5, 3) := by decide +kernel
theorem d_Mo_dsa_136 : decode (a_cc M_Mo_dsa) 136 = .ok (.bipush 75, 2) := by decide +kernel
theorem d_Mo_dsa_138 : decode (a_cc M_Mo_dsa) 138 = .ok (.putfield 245, 3) := by decide +kernel
theorem d_Mo_dsa_141 : decode (a_cc M_Mo_dsa) 141 = .ok (.aload_n 0, 1) := by decide +kernel
theorem d_Mo_dsa_142 : decode (a_cc M_Mo_dsa) 142 = .ok (.bipush 32, 2) := by decide +kernel
theorem d_Mo_dsa_144 : decode (a_cc M_Mo_dsa) 144 = .ok (.bipush 16, 2) := by decide +kernel
theorem d_Mo_dsa_146 : decode (a_cc M_Mo_dsa) 146 = .ok (.iload_n 1, 1) := by decide +kernel
theorem d_Mo_dsa_147 : decode (a_cc M_Mo_dsa) 147 = .ok (.imul, 1) := by decide +kernel
theorem d_Mo_dsa_148 : decode (a_cc M_Mo_dsa) 148 = .ok (.iadd, 1) := by decide +kernel
theorem d_Mo_dsa_149 : decode (a_cc M_Mo_dsa) 149 = .ok (.putfield 248, 3) := by decide +kernel
theorem d_Mo_dsa_152 : decode (a_cc M_Mo_dsa) 152 = .ok (.aload_n 0, 1) := by decide +kernel
theorem d_Mo_dsa_153 : decode (a_cc M_Mo_dsa) 153 = .ok (.iload_n 1, 1) := by decide +kernel
theorem d_Mo_dsa_154 : decode (a_cc M_Mo_dsa) 154 = .ok (.ifCond .ne 8, 3) := by decide +kernel
theorem d_Mo_dsa_157 : decode (a_cc M_Mo_dsa) 157 = .ok (.bipush 18, 2) := by decide +kernel
theorem d_Mo_dsa_159 : decode (a_cc M_Mo_dsa) 159 = .ok (.goto 5, 3) := by decide +kernel
theorem d_Mo_dsa_162 : decode (a_cc M_Mo_dsa) 162 = .ok (.bipush 20, 2) := by decide +kernel
theorem d_Mo_dsa_164 : decode (a_cc M_Mo_dsa) 164 = .ok (.putfield 251, 3) := by decide +kernel
theorem d_Mo_dsa_167 : decode (a_cc M_Mo_dsa) 167 = .ok (.aload_n 0, 1) := by decide +kernel
theorem d_Mo_dsa_168 : decode (a_cc M_Mo_dsa) 168 = .ok (.getfield 71, 3) := by decide +kernel
theorem d_Mo_dsa_171 : decode (a_cc M_Mo_dsa) 171 = .ok (.iconst 0, 1) := by decide +kernel
theorem d_Mo_dsa_172 : decode (a_cc M_Mo_dsa) 172 = .ok (.iconst 1, 1) := by decide +kernel
theorem d_Mo_dsa_173 : decode (a_cc M_Mo_dsa) 173 = .ok (.iastore, 1) := by decide +kernel
theorem d_Mo_dsa_174 : decode (a_cc M_Mo_dsa) 174 = .ok (.iconst 1, 1) := by decide +kernel
theorem d_Mo_dsa_175 : decode (a_cc M_Mo_dsa) 175 = .ok (.istore_n 2, 1) := by decide +kernel
theorem d_Mo_dsa_176 : decode (a_cc M_Mo_dsa) 176 = .ok (.iload_n 2, 1) := by decide +kernel
theorem d_Mo_dsa_177 : decode (a_cc M_Mo_dsa) 177 = .ok (.sipush 512, 3) := by decide +kernel
theorem d_Mo_dsa_180 : decode (a_cc M_Mo_dsa) 180 = .ok (.if_icmp .ge 33, 3) := by decide +kernel
theorem d_Mo_dsa_183 : decode (a_cc M_Mo_dsa) 183 = .ok (.aload_n 0, 1) := by decide +kernel
theorem d_Mo_dsa_184 : decode (a_cc M_Mo_dsa) 184 = .ok (.getfield 71, 3) := by decide +kernel
theorem d_Mo_dsa_187 : decode (a_cc M_Mo_dsa) 187 = .ok (.iload_n 2, 1) := by decide +kernel
theorem d_Mo_dsa_188 : decode (a_cc M_Mo_dsa) 188 = .ok (.aload_n 0, 1) := by decide +kernel
theorem d_Mo_dsa_189 : decode (a_cc M_Mo_dsa) 189 = .ok (.getfield 71, 3) := by decide +kernel
theorem d_Mo_dsa_192 : decode (a_cc M_Mo_dsa) 192 = .ok (.iload_n 2, 1) := by decide +kernel
theorem d_Mo_dsa_193 : decode (a_cc M_Mo_dsa) 193 = .ok (.iconst 1, 1) := by decide +kernel
theorem d_Mo_dsa_194 : decode (a_cc M_Mo_dsa) 194 = .ok (.isub, 1) := by decide +kernel
theorem d_Mo_dsa_195 : decode (a_cc M_Mo_dsa) 195 = .ok (.iaload, 1) := by decide +kernel
theorem d_Mo_dsa_196 : decode (a_cc M_Mo_dsa) 196 = .ok (.i2l, 1) := by decide +kernel
theorem d_Mo_dsa_197 : decode (a_cc M_Mo_dsa) 197 = .ok (.ldc2_w 254, 3) := by decide +kernel
theorem d_Mo_dsa_200 : decode (a_cc M_Mo_dsa) 200 = .ok (.lmul, 1) := by decide +kernel
theorem d_Mo_dsa_201 : decode (a_cc M_Mo_dsa) 201 = .ok (.ldc2_w 256, 3) := by decide +kernel
theorem d_Mo_dsa_204 : decode (a_cc M_Mo_dsa) 204 = .ok (.lrem, 1) := by decide +kernel
theorem d_Mo_dsa_205 : decode (a_cc M_Mo_dsa) 205 = .ok (.l2i, 1) := by decide +kernel
theorem d_Mo_dsa_206 : decode (a_cc M_Mo_dsa) 206 = .ok (.iastore, 1) := by decide +kernel
theorem d_Mo_dsa_207 : decode (a_cc M_Mo_dsa) 207 = .ok (.iinc 2 1, 3) := by decide +kernel
theorem d_Mo_dsa_210 : decode (a_cc M_Mo_dsa) 210 = .ok (.goto (-34), 3) := by decide +kernel
theorem d_Mo_dsa_213 : decode (a_cc M_Mo_dsa) 213 = .ok (.return_, 1) := by decide +kernel
theorem fd_Mo_223 : a_Fd "ModuleSignerModel" 223 10 26 0 := ⟨by decide, by decide, rfl, List.mem_append_right _ (List.mem_of_getElem? (i := 1124) (by decide +kernel))⟩
theorem fd_Mo_226 : a_Fd "ModuleSignerModel" 226 10 32 0 := ⟨by decide, by decide, rfl, List.mem_append_right _ (List.mem_of_getElem? (i := 1130) (by decide +kernel))⟩
theorem fd_Mo_229 : a_Fd "ModuleSignerModel" 229 10 33 0 := ⟨by decide, by decide, rfl, List.mem_append_right _ (List.mem_of_getElem? (i := 1131) (by decide +kernel))⟩
theorem fd_Mo_232 : a_Fd "ModuleSignerModel" 232 10 34 0 := ⟨by decide, by decide, rfl, List.mem_append_right _ (List.mem_of_getElem? (i := 1132) (by decide +kernel))⟩
theorem lc_Mo_235 : Cond.constant "ModuleSignerModel" 235 (Int32.ofInt (131072)) ∈ lw_tbl := List.mem_append_right _ (List.mem_of_getElem? (i := 1287) (by decide +kernel))
theorem lc_Mo_236 : Cond.constant "ModuleSignerModel" 236 (Int32.ofInt (524288)) ∈ lw_tbl := List.mem_append_right _ (List.mem_of_getElem? (i := 1288) (by decide +kernel))
theorem fd_Mo_237 : a_Fd "ModuleSignerModel" 237 10 35 0 := ⟨by decide, by decide, rfl, List.mem_append_right _ (List.mem_of_getElem? (i := 1133) (by decide +kernel))⟩
theorem lc_Mo_240 : Cond.constant "ModuleSignerModel" 240 (Int32.ofInt (95232)) ∈ lw_tbl := List.mem_append_right _ (List.mem_of_getElem? (i := 1289) (by decide +kernel))
theorem lc_Mo_241 : Cond.constant "ModuleSignerModel" 241 (Int32.ofInt (261888)) ∈ lw_tbl := List.mem_append_right _ (List.mem_of_getElem? (i := 1290) (by decide +kernel))
theorem fd_Mo_242 : a_Fd "ModuleSignerModel" 242 10 36 0 := ⟨by decide, by decide, rfl, List.mem_append_right _ (List.mem_of_getElem? (i := 1134) (by decide +kernel))⟩
theorem fd_Mo_245 : a_Fd "ModuleSignerModel" 245 10 37 0 := ⟨by decide, by decide, rfl, List.mem_append_right _ (List.mem_of_getElem? (i := 1135) (by decide +kernel))⟩
theorem fd_Mo_248 : a_Fd "ModuleSignerModel" 248 10 38 0 := ⟨by decide, by decide, rfl, List.mem_append_right _ (List.mem_of_getElem? (i := 1136) (by decide +kernel))⟩
theorem fd_Mo_251 : a_Fd "ModuleSignerModel" 251 10 39 0 := ⟨by decide, by decide, rfl, List.mem_append_right _ (List.mem_of_getElem? (i := 1137) (by decide +kernel))⟩
theorem lc_Mo_254 : Cond.constantLong "ModuleSignerModel" 254 (Int64.ofInt (1753)) ∈ lw_tbl := List.mem_append_right _ (List.mem_of_getElem? (i := 1291) (by decide +kernel))
theorem lc_Mo_256 : Cond.constantLong "ModuleSignerModel" 256 (Int64.ofInt (8380417)) ∈ lw_tbl := List.mem_append_right _ (List.mem_of_getElem? (i := 1292) (by decide +kernel))
def M_Mo_put3 : a_M := (⟨"ModuleSignerModel", "put", "([BII)V"⟩, prog_12_method_28_code, 5, none, "ModuleSignerModel", 3, 66, [])
theorem ok_Mo_put3 : a_Ok M_Mo_put3 := ⟨rfl, by decide +kernel, ⟨by decide, by decide⟩, List.mem_append_right _ (List.mem_of_getElem? (i := 11) (by decide +kernel)), Or.inl ⟨rfl, List.mem_append_right _ (List.mem_of_getElem? (i := 1296) (by decide +kernel))⟩⟩
theorem d_Mo_put3_0 : decode (a_cc M_Mo_put3) 0 = .ok (.iconst 0, 1) := by decide +kernel
theorem d_Mo_put3_1 : decode (a_cc M_Mo_put3) 1 = .ok (.istore 4, 2) := by decide +kernel
theorem d_Mo_put3_3 : decode (a_cc M_Mo_put3) 3 = .ok (.iload 4, 2) := by decide +kernel
theorem d_Mo_put3_5 : decode (a_cc M_Mo_put3) 5 = .ok (.iload_n 3, 1) := by decide +kernel
theorem d_Mo_put3_6 : decode (a_cc M_Mo_put3) 6 = .ok (.if_icmp .ge 19, 3) := by decide +kernel
theorem d_Mo_put3_9 : decode (a_cc M_Mo_put3) 9 = .ok (.aload_n 0, 1) := by decide +kernel
theorem d_Mo_put3_10 : decode (a_cc M_Mo_put3) 10 = .ok (.aload_n 1, 1) := by decide +kernel
theorem d_Mo_put3_11 : decode (a_cc M_Mo_put3) 11 = .ok (.iload_n 2, 1) := by decide +kernel
theorem d_Mo_put3_12 : decode (a_cc M_Mo_put3) 12 = .ok (.iload 4, 2) := by decide +kernel
theorem d_Mo_put3_14 : decode (a_cc M_Mo_put3) 14 = .ok (.iadd, 1) := by decide +kernel
theorem d_Mo_put3_15 : decode (a_cc M_Mo_put3) 15 = .ok (.baload, 1) := by decide +kernel
theorem d_Mo_put3_16 : decode (a_cc M_Mo_put3) 16 = .ok (.invokevirtual 153, 3) := by decide +kernel
theorem d_Mo_put3_19 : decode (a_cc M_Mo_put3) 19 = .ok (.iinc 4 1, 3) := by decide +kernel
theorem d_Mo_put3_22 : decode (a_cc M_Mo_put3) 22 = .ok (.goto (-19), 3) := by decide +kernel
theorem d_Mo_put3_25 : decode (a_cc M_Mo_put3) 25 = .ok (.return_, 1) := by decide +kernel
theorem cs_Mo_put3_16 : a_CV M_Mo_put3 M_Mo_put1 153 10 2 0 1 := ⟨⟨ok_Mo_put1, by decide, by decide, by decide⟩, by decide, rfl, List.mem_append_right _ (List.mem_of_getElem? (i := 1058) (by decide +kernel)), List.mem_append_right _ (List.mem_of_getElem? (i := 1060) (by decide +kernel)), List.mem_append_left _ (List.mem_of_getElem? (i := 34) (by decide +kernel)), by decide +kernel⟩
def M_Mo_squeeze : a_M := (⟨"ModuleSignerModel", "squeeze", "()I"⟩, prog_12_method_36_code, 2, some .int, "ModuleSignerModel", 2, 35, [])
theorem ok_Mo_squeeze : a_Ok M_Mo_squeeze := ⟨rfl, by decide +kernel, ⟨by decide, by decide⟩, List.mem_append_right _ (List.mem_of_getElem? (i := 11) (by decide +kernel)), Or.inl ⟨rfl, List.mem_append_right _ (List.mem_of_getElem? (i := 1304) (by decide +kernel))⟩⟩
theorem d_Mo_squeeze_0 : decode (a_cc M_Mo_squeeze) 0 = .ok (.aload_n 0, 1) := by decide +kernel
theorem d_Mo_squeeze_1 : decode (a_cc M_Mo_squeeze) 1 = .ok (.getfield 162, 3) := by decide +kernel
theorem d_Mo_squeeze_4 : decode (a_cc M_Mo_squeeze) 4 = .ok (.aload_n 0, 1) := by decide +kernel
theorem d_Mo_squeeze_5 : decode (a_cc M_Mo_squeeze) 5 = .ok (.getfield 175, 3) := by decide +kernel
theorem d_Mo_squeeze_8 : decode (a_cc M_Mo_squeeze) 8 = .ok (.if_icmp .ne 12, 3) := by decide +kernel
theorem d_Mo_squeeze_11 : decode (a_cc M_Mo_squeeze) 11 = .ok (.aload_n 0, 1) := by decide +kernel
theorem d_Mo_squeeze_12 : decode (a_cc M_Mo_squeeze) 12 = .ok (.invokevirtual 188, 3) := by decide +kernel
theorem d_Mo_squeeze_15 : decode (a_cc M_Mo_squeeze) 15 = .ok (.aload_n 0, 1) := by decide +kernel
theorem d_Mo_squeeze_16 : decode (a_cc M_Mo_squeeze) 16 = .ok (.iconst 0, 1) := by decide +kernel
theorem d_Mo_squeeze_17 : decode (a_cc M_Mo_squeeze) 17 = .ok (.putfield 162, 3) := by decide +kernel
theorem d_Mo_squeeze_20 : decode (a_cc M_Mo_squeeze) 20 = .ok (.aload_n 0, 1) := by decide +kernel
theorem d_Mo_squeeze_21 : decode (a_cc M_Mo_squeeze) 21 = .ok (.getfield 47, 3) := by decide +kernel
theorem d_Mo_squeeze_24 : decode (a_cc M_Mo_squeeze) 24 = .ok (.aload_n 0, 1) := by decide +kernel
theorem d_Mo_squeeze_25 : decode (a_cc M_Mo_squeeze) 25 = .ok (.getfield 162, 3) := by decide +kernel
theorem d_Mo_squeeze_28 : decode (a_cc M_Mo_squeeze) 28 = .ok (.bipush 8, 2) := by decide +kernel
theorem d_Mo_squeeze_30 : decode (a_cc M_Mo_squeeze) 30 = .ok (.idiv, 1) := by decide +kernel
theorem d_Mo_squeeze_31 : decode (a_cc M_Mo_squeeze) 31 = .ok (.laload, 1) := by decide +kernel
theorem d_Mo_squeeze_32 : decode (a_cc M_Mo_squeeze) 32 = .ok (.bipush 8, 2) := by decide +kernel
theorem d_Mo_squeeze_34 : decode (a_cc M_Mo_squeeze) 34 = .ok (.aload_n 0, 1) := by decide +kernel
theorem d_Mo_squeeze_35 : decode (a_cc M_Mo_squeeze) 35 = .ok (.getfield 162, 3) := by decide +kernel
theorem d_Mo_squeeze_38 : decode (a_cc M_Mo_squeeze) 38 = .ok (.bipush 8, 2) := by decide +kernel
theorem d_Mo_squeeze_40 : decode (a_cc M_Mo_squeeze) 40 = .ok (.irem, 1) := by decide +kernel
theorem d_Mo_squeeze_41 : decode (a_cc M_Mo_squeeze) 41 = .ok (.imul, 1) := by decide +kernel
theorem d_Mo_squeeze_42 : decode (a_cc M_Mo_squeeze) 42 = .ok (.lushr, 1) := by decide +kernel
theorem d_Mo_squeeze_43 : decode (a_cc M_Mo_squeeze) 43 = .ok (.l2i, 1) := by decide +kernel
theorem d_Mo_squeeze_44 : decode (a_cc M_Mo_squeeze) 44 = .ok (.sipush 255, 3) := by decide +kernel
theorem d_Mo_squeeze_47 : decode (a_cc M_Mo_squeeze) 47 = .ok (.iand, 1) := by decide +kernel
theorem d_Mo_squeeze_48 : decode (a_cc M_Mo_squeeze) 48 = .ok (.istore_n 1, 1) := by decide +kernel
theorem d_Mo_squeeze_49 : decode (a_cc M_Mo_squeeze) 49 = .ok (.aload_n 0, 1) := by decide +kernel
theorem d_Mo_squeeze_50 : decode (a_cc M_Mo_squeeze) 50 = .ok (.dup, 1) := by decide +kernel
theorem d_Mo_squeeze_51 : decode (a_cc M_Mo_squeeze) 51 = .ok (.getfield 162, 3) := by decide +kernel
theorem d_Mo_squeeze_54 : decode (a_cc M_Mo_squeeze) 54 = .ok (.iconst 1, 1) := by decide +kernel
theorem d_Mo_squeeze_55 : decode (a_cc M_Mo_squeeze) 55 = .ok (.iadd, 1) := by decide +kernel
theorem d_Mo_squeeze_56 : decode (a_cc M_Mo_squeeze) 56 = .ok (.putfield 162, 3) := by decide +kernel
theorem d_Mo_squeeze_59 : decode (a_cc M_Mo_squeeze) 59 = .ok (.iload_n 1, 1) := by decide +kernel
theorem d_Mo_squeeze_60 : decode (a_cc M_Mo_squeeze) 60 = .ok (.ireturn, 1) := by decide +kernel
theorem cs_Mo_squeeze_12 : a_CV M_Mo_squeeze M_Mo_permute 188 10 1 0 0 := ⟨⟨ok_Mo_permute, by decide, by decide, by decide⟩, by decide, rfl, List.mem_append_right _ (List.mem_of_getElem? (i := 1071) (by decide +kernel)), List.mem_append_right _ (List.mem_of_getElem? (i := 1073) (by decide +kernel)), List.mem_append_left _ (List.mem_of_getElem? (i := 37) (by decide +kernel)), by decide +kernel⟩
def M_Mo_give : a_M := (⟨"ModuleSignerModel", "give", "([BII)V"⟩, prog_12_method_37_code, 5, none, "ModuleSignerModel", 4, 81, [])
theorem ok_Mo_give : a_Ok M_Mo_give := ⟨rfl, by decide +kernel, ⟨by decide, by decide⟩, List.mem_append_right _ (List.mem_of_getElem? (i := 11) (by decide +kernel)), Or.inl ⟨rfl, List.mem_append_right _ (List.mem_of_getElem? (i := 1300) (by decide +kernel))⟩⟩
theorem d_Mo_give_0 : decode (a_cc M_Mo_give) 0 = .ok (.aload_n 0, 1) := by decide +kernel
theorem d_Mo_give_1 : decode (a_cc M_Mo_give) 1 = .ok (.invokevirtual 156, 3) := by decide +kernel
theorem d_Mo_give_4 : decode (a_cc M_Mo_give) 4 = .ok (.iconst 0, 1) := by decide +kernel
theorem d_Mo_give_5 : decode (a_cc M_Mo_give) 5 = .ok (.istore 4, 2) := by decide +kernel
theorem d_Mo_give_7 : decode (a_cc M_Mo_give) 7 = .ok (.iload 4, 2) := by decide +kernel
theorem d_Mo_give_9 : decode (a_cc M_Mo_give) 9 = .ok (.iload_n 3, 1) := by decide +kernel
theorem d_Mo_give_10 : decode (a_cc M_Mo_give) 10 = .ok (.if_icmp .ge 92, 3) := by decide +kernel
theorem d_Mo_give_13 : decode (a_cc M_Mo_give) 13 = .ok (.aload_n 0, 1) := by decide +kernel
theorem d_Mo_give_14 : decode (a_cc M_Mo_give) 14 = .ok (.invokevirtual 180, 3) := by decide +kernel
theorem d_Mo_give_17 : decode (a_cc M_Mo_give) 17 = .ok (.ifCond .eq 17, 3) := by decide +kernel
theorem d_Mo_give_20 : decode (a_cc M_Mo_give) 20 = .ok (.aload_n 1, 1) := by decide +kernel
theorem d_Mo_give_21 : decode (a_cc M_Mo_give) 21 = .ok (.iload_n 2, 1) := by decide +kernel
theorem d_Mo_give_22 : decode (a_cc M_Mo_give) 22 = .ok (.iload 4, 2) := by decide +kernel
theorem d_Mo_give_24 : decode (a_cc M_Mo_give) 24 = .ok (.iadd, 1) := by decide +kernel
theorem d_Mo_give_25 : decode (a_cc M_Mo_give) 25 = .ok (.aload_n 0, 1) := by decide +kernel
theorem d_Mo_give_26 : decode (a_cc M_Mo_give) 26 = .ok (.invokevirtual 212, 3) := by decide +kernel
theorem d_Mo_give_29 : decode (a_cc M_Mo_give) 29 = .ok (.i2b, 1) := by decide +kernel
theorem d_Mo_give_30 : decode (a_cc M_Mo_give) 30 = .ok (.bastore, 1) := by decide +kernel
theorem d_Mo_give_31 : decode (a_cc M_Mo_give) 31 = .ok (.goto 65, 3) := by decide +kernel
theorem d_Mo_give_34 : decode (a_cc M_Mo_give) 34 = .ok (.aload_n 1, 1) := by decide +kernel
theorem d_Mo_give_35 : decode (a_cc M_Mo_give) 35 = .ok (.iload_n 2, 1) := by decide +kernel
theorem d_Mo_give_36 : decode (a_cc M_Mo_give) 36 = .ok (.iload 4, 2) := by decide +kernel
theorem d_Mo_give_38 : decode (a_cc M_Mo_give) 38 = .ok (.iadd, 1) := by decide +kernel
theorem d_Mo_give_39 : decode (a_cc M_Mo_give) 39 = .ok (.aload_n 0, 1) := by decide +kernel
theorem d_Mo_give_40 : decode (a_cc M_Mo_give) 40 = .ok (.getfield 175, 3) := by decide +kernel
theorem d_Mo_give_43 : decode (a_cc M_Mo_give) 43 = .ok (.bipush 64, 2) := by decide +kernel
theorem d_Mo_give_45 : decode (a_cc M_Mo_give) 45 = .ok (.if_icmp .ne 26, 3) := by decide +kernel
theorem d_Mo_give_48 : decode (a_cc M_Mo_give) 48 = .ok (.aload_n 0, 1) := by decide +kernel
theorem d_Mo_give_49 : decode (a_cc M_Mo_give) 49 = .ok (.getfield 47, 3) := by decide +kernel
theorem d_Mo_give_52 : decode (a_cc M_Mo_give) 52 = .ok (.iload 4, 2) := by decide +kernel
theorem d_Mo_give_54 : decode (a_cc M_Mo_give) 54 = .ok (.iconst 4, 1) := by decide +kernel
theorem d_Mo_give_55 : decode (a_cc M_Mo_give) 55 = .ok (.idiv, 1) := by decide +kernel
theorem d_Mo_give_56 : decode (a_cc M_Mo_give) 56 = .ok (.laload, 1) := by decide +kernel
theorem d_Mo_give_57 : decode (a_cc M_Mo_give) 57 = .ok (.bipush 24, 2) := by decide +kernel
theorem d_Mo_give_59 : decode (a_cc M_Mo_give) 59 = .ok (.bipush 8, 2) := by decide +kernel
theorem d_Mo_give_61 : decode (a_cc M_Mo_give) 61 = .ok (.iload 4, 2) := by decide +kernel
theorem d_Mo_give_63 : decode (a_cc M_Mo_give) 63 = .ok (.iconst 4, 1) := by decide +kernel
theorem d_Mo_give_64 : decode (a_cc M_Mo_give) 64 = .ok (.irem, 1) := by decide +kernel
theorem d_Mo_give_65 : decode (a_cc M_Mo_give) 65 = .ok (.imul, 1) := by decide +kernel
theorem d_Mo_give_66 : decode (a_cc M_Mo_give) 66 = .ok (.isub, 1) := by decide +kernel
theorem d_Mo_give_67 : decode (a_cc M_Mo_give) 67 = .ok (.lushr, 1) := by decide +kernel
theorem d_Mo_give_68 : decode (a_cc M_Mo_give) 68 = .ok (.goto 25, 3) := by decide +kernel
theorem d_Mo_give_71 : decode (a_cc M_Mo_give) 71 = .ok (.aload_n 0, 1) := by decide +kernel
theorem d_Mo_give_72 : decode (a_cc M_Mo_give) 72 = .ok (.getfield 47, 3) := by decide +kernel
theorem d_Mo_give_75 : decode (a_cc M_Mo_give) 75 = .ok (.iload 4, 2) := by decide +kernel
theorem d_Mo_give_77 : decode (a_cc M_Mo_give) 77 = .ok (.bipush 8, 2) := by decide +kernel
theorem d_Mo_give_79 : decode (a_cc M_Mo_give) 79 = .ok (.idiv, 1) := by decide +kernel
theorem d_Mo_give_80 : decode (a_cc M_Mo_give) 80 = .ok (.laload, 1) := by decide +kernel
theorem d_Mo_give_81 : decode (a_cc M_Mo_give) 81 = .ok (.bipush 56, 2) := by decide +kernel
theorem d_Mo_give_83 : decode (a_cc M_Mo_give) 83 = .ok (.bipush 8, 2) := by decide +kernel
theorem d_Mo_give_85 : decode (a_cc M_Mo_give) 85 = .ok (.iload 4, 2) := by decide +kernel
theorem d_Mo_give_87 : decode (a_cc M_Mo_give) 87 = .ok (.bipush 8, 2) := by decide +kernel
theorem d_Mo_give_89 : decode (a_cc M_Mo_give) 89 = .ok (.irem, 1) := by decide +kernel
theorem d_Mo_give_90 : decode (a_cc M_Mo_give) 90 = .ok (.imul, 1) := by decide +kernel
theorem d_Mo_give_91 : decode (a_cc M_Mo_give) 91 = .ok (.isub, 1) := by decide +kernel
theorem d_Mo_give_92 : decode (a_cc M_Mo_give) 92 = .ok (.lushr, 1) := by decide +kernel
theorem d_Mo_give_93 : decode (a_cc M_Mo_give) 93 = .ok (.l2i, 1) := by decide +kernel
theorem d_Mo_give_94 : decode (a_cc M_Mo_give) 94 = .ok (.i2b, 1) := by decide +kernel
theorem d_Mo_give_95 : decode (a_cc M_Mo_give) 95 = .ok (.bastore, 1) := by decide +kernel
theorem d_Mo_give_96 : decode (a_cc M_Mo_give) 96 = .ok (.iinc 4 1, 3) := by decide +kernel
theorem d_Mo_give_99 : decode (a_cc M_Mo_give) 99 = .ok (.goto (-92), 3) := by decide +kernel
theorem d_Mo_give_102 : decode (a_cc M_Mo_give) 102 = .ok (.return_, 1) := by decide +kernel
theorem cs_Mo_give_1 : a_CV M_Mo_give M_Mo_finish 156 10 1 0 0 := ⟨⟨ok_Mo_finish, by decide, by decide, by decide⟩, by decide, rfl, List.mem_append_right _ (List.mem_of_getElem? (i := 1093) (by decide +kernel)), List.mem_append_right _ (List.mem_of_getElem? (i := 1095) (by decide +kernel)), List.mem_append_left _ (List.mem_of_getElem? (i := 40) (by decide +kernel)), by decide +kernel⟩
theorem cs_Mo_give_14 : a_CV M_Mo_give M_Mo_sponge 180 10 1 0 0 := ⟨⟨ok_Mo_sponge, by decide, by decide, by decide⟩, by decide, rfl, List.mem_append_right _ (List.mem_of_getElem? (i := 1062) (by decide +kernel)), List.mem_append_right _ (List.mem_of_getElem? (i := 1064) (by decide +kernel)), List.mem_append_left _ (List.mem_of_getElem? (i := 35) (by decide +kernel)), by decide +kernel⟩
theorem cs_Mo_give_26 : a_CV M_Mo_give M_Mo_squeeze 212 10 1 2 0 := ⟨⟨ok_Mo_squeeze, by decide, by decide, by decide⟩, by decide, rfl, List.mem_append_right _ (List.mem_of_getElem? (i := 1301) (by decide +kernel)), List.mem_append_right _ (List.mem_of_getElem? (i := 1303) (by decide +kernel)), List.mem_append_left _ (List.mem_of_getElem? (i := 46) (by decide +kernel)), by decide +kernel⟩
def M_Mo_small : a_M := (⟨"ModuleSignerModel", "small", "(I)I"⟩, prog_12_method_50_code, 2, some .int, "ModuleSignerModel", 0, 0, [])
theorem ok_Mo_small : a_Ok M_Mo_small := ⟨rfl, by decide +kernel, ⟨by decide, by decide⟩, List.mem_append_right _ (List.mem_of_getElem? (i := 11) (by decide +kernel)), Or.inl ⟨rfl, List.mem_append_right _ (List.mem_of_getElem? (i := 1312) (by decide +kernel))⟩⟩
theorem d_Mo_small_0 : decode (a_cc M_Mo_small) 0 = .ok (.aload_n 0, 1) := by decide +kernel
theorem d_Mo_small_1 : decode (a_cc M_Mo_small) 1 = .ok (.getfield 229, 3) := by decide +kernel
theorem d_Mo_small_4 : decode (a_cc M_Mo_small) 4 = .ok (.iconst 2, 1) := by decide +kernel
theorem d_Mo_small_5 : decode (a_cc M_Mo_small) 5 = .ok (.if_icmp .ne 22, 3) := by decide +kernel
theorem d_Mo_small_8 : decode (a_cc M_Mo_small) 8 = .ok (.iload_n 1, 1) := by decide +kernel
theorem d_Mo_small_9 : decode (a_cc M_Mo_small) 9 = .ok (.bipush 15, 2) := by decide +kernel
theorem d_Mo_small_11 : decode (a_cc M_Mo_small) 11 = .ok (.if_icmp .ge 11, 3) := by decide +kernel
theorem d_Mo_small_14 : decode (a_cc M_Mo_small) 14 = .ok (.iconst 2, 1) := by decide +kernel
theorem d_Mo_small_15 : decode (a_cc M_Mo_small) 15 = .ok (.iload_n 1, 1) := by decide +kernel
theorem d_Mo_small_16 : decode (a_cc M_Mo_small) 16 = .ok (.iconst 5, 1) := by decide +kernel
theorem d_Mo_small_17 : decode (a_cc M_Mo_small) 17 = .ok (.irem, 1) := by decide +kernel
theorem d_Mo_small_18 : decode (a_cc M_Mo_small) 18 = .ok (.isub, 1) := by decide +kernel
theorem d_Mo_small_19 : decode (a_cc M_Mo_small) 19 = .ok (.goto 22, 3) := by decide +kernel
theorem d_Mo_small_22 : decode (a_cc M_Mo_small) 22 = .ok (.bipush 9, 2) := by decide +kernel
theorem d_Mo_small_24 : decode (a_cc M_Mo_small) 24 = .ok (.goto 17, 3) := by decide +kernel
theorem d_Mo_small_27 : decode (a_cc M_Mo_small) 27 = .ok (.iload_n 1, 1) := by decide +kernel
theorem d_Mo_small_28 : decode (a_cc M_Mo_small) 28 = .ok (.bipush 9, 2) := by decide +kernel
theorem d_Mo_small_30 : decode (a_cc M_Mo_small) 30 = .ok (.if_icmp .ge 9, 3) := by decide +kernel
theorem d_Mo_small_33 : decode (a_cc M_Mo_small) 33 = .ok (.iconst 4, 1) := by decide +kernel
theorem d_Mo_small_34 : decode (a_cc M_Mo_small) 34 = .ok (.iload_n 1, 1) := by decide +kernel
theorem d_Mo_small_35 : decode (a_cc M_Mo_small) 35 = .ok (.isub, 1) := by decide +kernel
theorem d_Mo_small_36 : decode (a_cc M_Mo_small) 36 = .ok (.goto 5, 3) := by decide +kernel
theorem d_Mo_small_39 : decode (a_cc M_Mo_small) 39 = .ok (.bipush 9, 2) := by decide +kernel
theorem d_Mo_small_41 : decode (a_cc M_Mo_small) 41 = .ok (.ireturn, 1) := by decide +kernel
def M_Mo_sampleSmall : a_M := (⟨"ModuleSignerModel", "sampleSmall", "([I[BII)Z"⟩, prog_12_method_51_code, 8, some .boolean, "ModuleSignerModel", 4, 82, [])
theorem ok_Mo_sampleSmall : a_Ok M_Mo_sampleSmall := ⟨rfl, by decide +kernel, ⟨by decide, by decide⟩, List.mem_append_right _ (List.mem_of_getElem? (i := 11) (by decide +kernel)), Or.inl ⟨rfl, List.mem_append_right _ (List.mem_of_getElem? (i := 1308) (by decide +kernel))⟩⟩
theorem d_Mo_sampleSmall_0 : decode (a_cc M_Mo_sampleSmall) 0 = .ok (.aload_n 0, 1) := by decide +kernel
theorem d_Mo_sampleSmall_1 : decode (a_cc M_Mo_sampleSmall) 1 = .ok (.bipush 12, 2) := by decide +kernel
theorem d_Mo_sampleSmall_3 : decode (a_cc M_Mo_sampleSmall) 3 = .ok (.invokevirtual 148, 3) := by decide +kernel
theorem d_Mo_sampleSmall_6 : decode (a_cc M_Mo_sampleSmall) 6 = .ok (.aload_n 0, 1) := by decide +kernel
theorem d_Mo_sampleSmall_7 : decode (a_cc M_Mo_sampleSmall) 7 = .ok (.aload_n 2, 1) := by decide +kernel
theorem d_Mo_sampleSmall_8 : decode (a_cc M_Mo_sampleSmall) 8 = .ok (.iload_n 3, 1) := by decide +kernel
theorem d_Mo_sampleSmall_9 : decode (a_cc M_Mo_sampleSmall) 9 = .ok (.bipush 64, 2) := by decide +kernel
theorem d_Mo_sampleSmall_11 : decode (a_cc M_Mo_sampleSmall) 11 = .ok (.invokevirtual 268, 3) := by decide +kernel
theorem d_Mo_sampleSmall_14 : decode (a_cc M_Mo_sampleSmall) 14 = .ok (.aload_n 0, 1) := by decide +kernel
theorem d_Mo_sampleSmall_15 : decode (a_cc M_Mo_sampleSmall) 15 = .ok (.iload 4, 2) := by decide +kernel
theorem d_Mo_sampleSmall_17 : decode (a_cc M_Mo_sampleSmall) 17 = .ok (.invokevirtual 153, 3) := by decide +kernel
theorem d_Mo_sampleSmall_20 : decode (a_cc M_Mo_sampleSmall) 20 = .ok (.aload_n 0, 1) := by decide +kernel
theorem d_Mo_sampleSmall_21 : decode (a_cc M_Mo_sampleSmall) 21 = .ok (.iload 4, 2) := by decide +kernel
theorem d_Mo_sampleSmall_23 : decode (a_cc M_Mo_sampleSmall) 23 = .ok (.bipush 8, 2) := by decide +kernel
theorem d_Mo_sampleSmall_25 : decode (a_cc M_Mo_sampleSmall) 25 = .ok (.ishr, 1) := by decide +kernel
theorem d_Mo_sampleSmall_26 : decode (a_cc M_Mo_sampleSmall) 26 = .ok (.invokevirtual 153, 3) := by decide +kernel
theorem d_Mo_sampleSmall_29 : decode (a_cc M_Mo_sampleSmall) 29 = .ok (.aload_n 0, 1) := by decide +kernel
theorem d_Mo_sampleSmall_30 : decode (a_cc M_Mo_sampleSmall) 30 = .ok (.invokevirtual 156, 3) := by decide +kernel
theorem d_Mo_sampleSmall_33 : decode (a_cc M_Mo_sampleSmall) 33 = .ok (.iconst 0, 1) := by decide +kernel
theorem d_Mo_sampleSmall_34 : decode (a_cc M_Mo_sampleSmall) 34 = .ok (.istore 5, 2) := by decide +kernel
theorem d_Mo_sampleSmall_36 : decode (a_cc M_Mo_sampleSmall) 36 = .ok (.iconst 0, 1) := by decide +kernel
theorem d_Mo_sampleSmall_37 : decode (a_cc M_Mo_sampleSmall) 37 = .ok (.istore 6, 2) := by decide +kernel
theorem d_Mo_sampleSmall_39 : decode (a_cc M_Mo_sampleSmall) 39 = .ok (.iload 6, 2) := by decide +kernel
theorem d_Mo_sampleSmall_41 : decode (a_cc M_Mo_sampleSmall) 41 = .ok (.sipush 481, 3) := by decide +kernel
theorem d_Mo_sampleSmall_44 : decode (a_cc M_Mo_sampleSmall) 44 = .ok (.if_icmp .ge 89, 3) := by decide +kernel
theorem d_Mo_sampleSmall_47 : decode (a_cc M_Mo_sampleSmall) 47 = .ok (.iload 5, 2) := by decide +kernel
theorem d_Mo_sampleSmall_49 : decode (a_cc M_Mo_sampleSmall) 49 = .ok (.sipush 256, 3) := by decide +kernel
theorem d_Mo_sampleSmall_52 : decode (a_cc M_Mo_sampleSmall) 52 = .ok (.if_icmp .ge 81, 3) := by decide +kernel
theorem d_Mo_sampleSmall_55 : decode (a_cc M_Mo_sampleSmall) 55 = .ok (.aload_n 0, 1) := by decide +kernel
theorem d_Mo_sampleSmall_56 : decode (a_cc M_Mo_sampleSmall) 56 = .ok (.invokevirtual 212, 3) := by decide +kernel
theorem d_Mo_sampleSmall_59 : decode (a_cc M_Mo_sampleSmall) 59 = .ok (.istore 7, 2) := by decide +kernel
theorem d_Mo_sampleSmall_61 : decode (a_cc M_Mo_sampleSmall) 61 = .ok (.aload_n 0, 1) := by decide +kernel
theorem d_Mo_sampleSmall_62 : decode (a_cc M_Mo_sampleSmall) 62 = .ok (.iload 7, 2) := by decide +kernel
theorem d_Mo_sampleSmall_64 : decode (a_cc M_Mo_sampleSmall) 64 = .ok (.bipush 15, 2) := by decide +kernel
theorem d_Mo_sampleSmall_66 : decode (a_cc M_Mo_sampleSmall) 66 = .ok (.iand, 1) := by decide +kernel
theorem d_Mo_sampleSmall_67 : decode (a_cc M_Mo_sampleSmall) 67 = .ok (.invokevirtual 272, 3) := by decide +kernel
theorem d_Mo_sampleSmall_70 : decode (a_cc M_Mo_sampleSmall) 70 = .ok (.bipush 9, 2) := by decide +kernel
theorem d_Mo_sampleSmall_72 : decode (a_cc M_Mo_sampleSmall) 72 = .ok (.if_icmp .ge 19, 3) := by decide +kernel
theorem d_Mo_sampleSmall_75 : decode (a_cc M_Mo_sampleSmall) 75 = .ok (.aload_n 1, 1) := by decide +kernel
theorem d_Mo_sampleSmall_76 : decode (a_cc M_Mo_sampleSmall) 76 = .ok (.iload 5, 2) := by decide +kernel
theorem d_Mo_sampleSmall_78 : decode (a_cc M_Mo_sampleSmall) 78 = .ok (.aload_n 0, 1) := by decide +kernel
theorem d_Mo_sampleSmall_79 : decode (a_cc M_Mo_sampleSmall) 79 = .ok (.iload 7, 2) := by decide +kernel
theorem d_Mo_sampleSmall_81 : decode (a_cc M_Mo_sampleSmall) 81 = .ok (.bipush 15, 2) := by decide +kernel
theorem d_Mo_sampleSmall_83 : decode (a_cc M_Mo_sampleSmall) 83 = .ok (.iand, 1) := by decide +kernel
theorem d_Mo_sampleSmall_84 : decode (a_cc M_Mo_sampleSmall) 84 = .ok (.invokevirtual 272, 3) := by decide +kernel
theorem d_Mo_sampleSmall_87 : decode (a_cc M_Mo_sampleSmall) 87 = .ok (.iastore, 1) := by decide +kernel
theorem d_Mo_sampleSmall_88 : decode (a_cc M_Mo_sampleSmall) 88 = .ok (.iinc 5 1, 3) := by decide +kernel
theorem d_Mo_sampleSmall_91 : decode (a_cc M_Mo_sampleSmall) 91 = .ok (.iload 5, 2) := by decide +kernel
theorem d_Mo_sampleSmall_93 : decode (a_cc M_Mo_sampleSmall) 93 = .ok (.sipush 256, 3) := by decide +kernel
theorem d_Mo_sampleSmall_96 : decode (a_cc M_Mo_sampleSmall) 96 = .ok (.if_icmp .ge 31, 3) := by decide +kernel
theorem d_Mo_sampleSmall_99 : decode (a_cc M_Mo_sampleSmall) 99 = .ok (.aload_n 0, 1) := by decide +kernel
theorem d_Mo_sampleSmall_100 : decode (a_cc M_Mo_sampleSmall) 100 = .ok (.iload 7, 2) := by decide +kernel
theorem d_Mo_sampleSmall_102 : decode (a_cc M_Mo_sampleSmall) 102 = .ok (.iconst 4, 1) := by decide +kernel
theorem d_Mo_sampleSmall_103 : decode (a_cc M_Mo_sampleSmall) 103 = .ok (.ishr, 1) := by decide +kernel
theorem d_Mo_sampleSmall_104 : decode (a_cc M_Mo_sampleSmall) 104 = .ok (.invokevirtual 272, 3) := by decide +kernel
theorem d_Mo_sampleSmall_107 : decode (a_cc M_Mo_sampleSmall) 107 = .ok (.bipush 9, 2) := by decide +kernel
theorem d_Mo_sampleSmall_109 : decode (a_cc M_Mo_sampleSmall) 109 = .ok (.if_icmp .ge 18, 3) := by decide +kernel
theorem d_Mo_sampleSmall_112 : decode (a_cc M_Mo_sampleSmall) 112 = .ok (.aload_n 1, 1) := by decide +kernel
theorem d_Mo_sampleSmall_113 : decode (a_cc M_Mo_sampleSmall) 113 = .ok (.iload 5, 2) := by decide +kernel
theorem d_Mo_sampleSmall_115 : decode (a_cc M_Mo_sampleSmall) 115 = .ok (.aload_n 0, 1) := by decide +kernel
theorem d_Mo_sampleSmall_116 : decode (a_cc M_Mo_sampleSmall) 116 = .ok (.iload 7, 2) := by decide +kernel
theorem d_Mo_sampleSmall_118 : decode (a_cc M_Mo_sampleSmall) 118 = .ok (.iconst 4, 1) := by decide +kernel
theorem d_Mo_sampleSmall_119 : decode (a_cc M_Mo_sampleSmall) 119 = .ok (.ishr, 1) := by decide +kernel
theorem d_Mo_sampleSmall_120 : decode (a_cc M_Mo_sampleSmall) 120 = .ok (.invokevirtual 272, 3) := by decide +kernel
theorem d_Mo_sampleSmall_123 : decode (a_cc M_Mo_sampleSmall) 123 = .ok (.iastore, 1) := by decide +kernel
theorem d_Mo_sampleSmall_124 : decode (a_cc M_Mo_sampleSmall) 124 = .ok (.iinc 5 1, 3) := by decide +kernel
theorem d_Mo_sampleSmall_127 : decode (a_cc M_Mo_sampleSmall) 127 = .ok (.iinc 6 1, 3) := by decide +kernel
theorem d_Mo_sampleSmall_130 : decode (a_cc M_Mo_sampleSmall) 130 = .ok (.goto (-91), 3) := by decide +kernel
theorem d_Mo_sampleSmall_133 : decode (a_cc M_Mo_sampleSmall) 133 = .ok (.iload 5, 2) := by decide +kernel
theorem d_Mo_sampleSmall_135 : decode (a_cc M_Mo_sampleSmall) 135 = .ok (.sipush 256, 3) := by decide +kernel
theorem d_Mo_sampleSmall_138 : decode (a_cc M_Mo_sampleSmall) 138 = .ok (.if_icmp .ne 7, 3) := by decide +kernel
theorem d_Mo_sampleSmall_141 : decode (a_cc M_Mo_sampleSmall) 141 = .ok (.iconst 1, 1) := by decide +kernel
theorem d_Mo_sampleSmall_142 : decode (a_cc M_Mo_sampleSmall) 142 = .ok (.goto 4, 3) := by decide +kernel
theorem d_Mo_sampleSmall_145 : decode (a_cc M_Mo_sampleSmall) 145 = .ok (.iconst 0, 1) := by decide +kernel
theorem d_Mo_sampleSmall_146 : decode (a_cc M_Mo_sampleSmall) 146 = .ok (.ireturn, 1) := by decide +kernel
theorem cs_Mo_sampleSmall_3 : a_CV M_Mo_sampleSmall M_Mo_begin 148 10 2 0 1 := ⟨⟨ok_Mo_begin, by decide, by decide, by decide⟩, by decide, rfl, List.mem_append_right _ (List.mem_of_getElem? (i := 1046) (by decide +kernel)), List.mem_append_right _ (List.mem_of_getElem? (i := 1048) (by decide +kernel)), List.mem_append_left _ (List.mem_of_getElem? (i := 33) (by decide +kernel)), by decide +kernel⟩
theorem cs_Mo_sampleSmall_11 : a_CV M_Mo_sampleSmall M_Mo_put3 268 10 4 0 3 := ⟨⟨ok_Mo_put3, by decide, by decide, by decide⟩, by decide, rfl, List.mem_append_right _ (List.mem_of_getElem? (i := 1293) (by decide +kernel)), List.mem_append_right _ (List.mem_of_getElem? (i := 1295) (by decide +kernel)), List.mem_append_left _ (List.mem_of_getElem? (i := 44) (by decide +kernel)), by decide +kernel⟩
theorem cs_Mo_sampleSmall_17 : a_CV M_Mo_sampleSmall M_Mo_put1 153 10 2 0 1 := ⟨⟨ok_Mo_put1, by decide, by decide, by decide⟩, by decide, rfl, List.mem_append_right _ (List.mem_of_getElem? (i := 1058) (by decide +kernel)), List.mem_append_right _ (List.mem_of_getElem? (i := 1060) (by decide +kernel)), List.mem_append_left _ (List.mem_of_getElem? (i := 34) (by decide +kernel)), by decide +kernel⟩
theorem cs_Mo_sampleSmall_26 : a_CV M_Mo_sampleSmall M_Mo_put1 153 10 2 0 1 := ⟨⟨ok_Mo_put1, by decide, by decide, by decide⟩, by decide, rfl, List.mem_append_right _ (List.mem_of_getElem? (i := 1058) (by decide +kernel)), List.mem_append_right _ (List.mem_of_getElem? (i := 1060) (by decide +kernel)), List.mem_append_left _ (List.mem_of_getElem? (i := 34) (by decide +kernel)), by decide +kernel⟩
theorem cs_Mo_sampleSmall_30 : a_CV M_Mo_sampleSmall M_Mo_finish 156 10 1 0 0 := ⟨⟨ok_Mo_finish, by decide, by decide, by decide⟩, by decide, rfl, List.mem_append_right _ (List.mem_of_getElem? (i := 1093) (by decide +kernel)), List.mem_append_right _ (List.mem_of_getElem? (i := 1095) (by decide +kernel)), List.mem_append_left _ (List.mem_of_getElem? (i := 40) (by decide +kernel)), by decide +kernel⟩
theorem cs_Mo_sampleSmall_56 : a_CV M_Mo_sampleSmall M_Mo_squeeze 212 10 1 0 0 := ⟨⟨ok_Mo_squeeze, by decide, by decide, by decide⟩, by decide, rfl, List.mem_append_right _ (List.mem_of_getElem? (i := 1301) (by decide +kernel)), List.mem_append_right _ (List.mem_of_getElem? (i := 1303) (by decide +kernel)), List.mem_append_left _ (List.mem_of_getElem? (i := 46) (by decide +kernel)), by decide +kernel⟩
theorem cs_Mo_sampleSmall_67 : a_CV M_Mo_sampleSmall M_Mo_small 272 10 2 0 1 := ⟨⟨ok_Mo_small, by decide, by decide, by decide⟩, by decide, rfl, List.mem_append_right _ (List.mem_of_getElem? (i := 1309) (by decide +kernel)), List.mem_append_right _ (List.mem_of_getElem? (i := 1311) (by decide +kernel)), List.mem_append_left _ (List.mem_of_getElem? (i := 48) (by decide +kernel)), by decide +kernel⟩
theorem cs_Mo_sampleSmall_84 : a_CV M_Mo_sampleSmall M_Mo_small 272 10 2 2 1 := ⟨⟨ok_Mo_small, by decide, by decide, by decide⟩, by decide, rfl, List.mem_append_right _ (List.mem_of_getElem? (i := 1309) (by decide +kernel)), List.mem_append_right _ (List.mem_of_getElem? (i := 1311) (by decide +kernel)), List.mem_append_left _ (List.mem_of_getElem? (i := 48) (by decide +kernel)), by decide +kernel⟩
theorem cs_Mo_sampleSmall_104 : a_CV M_Mo_sampleSmall M_Mo_small 272 10 2 0 1 := ⟨⟨ok_Mo_small, by decide, by decide, by decide⟩, by decide, rfl, List.mem_append_right _ (List.mem_of_getElem? (i := 1309) (by decide +kernel)), List.mem_append_right _ (List.mem_of_getElem? (i := 1311) (by decide +kernel)), List.mem_append_left _ (List.mem_of_getElem? (i := 48) (by decide +kernel)), by decide +kernel⟩
theorem cs_Mo_sampleSmall_120 : a_CV M_Mo_sampleSmall M_Mo_small 272 10 2 2 1 := ⟨⟨ok_Mo_small, by decide, by decide, by decide⟩, by decide, rfl, List.mem_append_right _ (List.mem_of_getElem? (i := 1309) (by decide +kernel)), List.mem_append_right _ (List.mem_of_getElem? (i := 1311) (by decide +kernel)), List.mem_append_left _ (List.mem_of_getElem? (i := 48) (by decide +kernel)), by decide +kernel⟩
def M_Mo_putBits : a_M := (⟨"ModuleSignerModel", "putBits", "([BIII)V"⟩, prog_12_method_41_code, 7, none, "ModuleSignerModel", 0, 0, [])
theorem ok_Mo_putBits : a_Ok M_Mo_putBits := ⟨rfl, by decide +kernel, ⟨by decide, by decide⟩, List.mem_append_right _ (List.mem_of_getElem? (i := 11) (by decide +kernel)), Or.inl ⟨rfl, List.mem_append_right _ (List.mem_of_getElem? (i := 1320) (by decide +kernel))⟩⟩
theorem d_Mo_putBits_0 : decode (a_cc M_Mo_putBits) 0 = .ok (.iconst 0, 1) := by decide +kernel
theorem d_Mo_putBits_1 : decode (a_cc M_Mo_putBits) 1 = .ok (.istore 5, 2) := by decide +kernel
theorem d_Mo_putBits_3 : decode (a_cc M_Mo_putBits) 3 = .ok (.iload 5, 2) := by decide +kernel
theorem d_Mo_putBits_5 : decode (a_cc M_Mo_putBits) 5 = .ok (.iload 4, 2) := by decide +kernel
theorem d_Mo_putBits_7 : decode (a_cc M_Mo_putBits) 7 = .ok (.if_icmp .ge 62, 3) := by decide +kernel
theorem d_Mo_putBits_10 : decode (a_cc M_Mo_putBits) 10 = .ok (.aload_n 0, 1) := by decide +kernel
theorem d_Mo_putBits_11 : decode (a_cc M_Mo_putBits) 11 = .ok (.getfield 216, 3) := by decide +kernel
theorem d_Mo_putBits_14 : decode (a_cc M_Mo_putBits) 14 = .ok (.iload 5, 2) := by decide +kernel
theorem d_Mo_putBits_16 : decode (a_cc M_Mo_putBits) 16 = .ok (.iadd, 1) := by decide +kernel
theorem d_Mo_putBits_17 : decode (a_cc M_Mo_putBits) 17 = .ok (.istore 6, 2) := by decide +kernel
theorem d_Mo_putBits_19 : decode (a_cc M_Mo_putBits) 19 = .ok (.iload 6, 2) := by decide +kernel
theorem d_Mo_putBits_21 : decode (a_cc M_Mo_putBits) 21 = .ok (.bipush 8, 2) := by decide +kernel
theorem d_Mo_putBits_23 : decode (a_cc M_Mo_putBits) 23 = .ok (.irem, 1) := by decide +kernel
theorem d_Mo_putBits_24 : decode (a_cc M_Mo_putBits) 24 = .ok (.ifCond .ne 13, 3) := by decide +kernel
theorem d_Mo_putBits_27 : decode (a_cc M_Mo_putBits) 27 = .ok (.aload_n 1, 1) := by decide +kernel
theorem d_Mo_putBits_28 : decode (a_cc M_Mo_putBits) 28 = .ok (.iload_n 2, 1) := by decide +kernel
theorem d_Mo_putBits_29 : decode (a_cc M_Mo_putBits) 29 = .ok (.iload 6, 2) := by decide +kernel
theorem d_Mo_putBits_31 : decode (a_cc M_Mo_putBits) 31 = .ok (.bipush 8, 2) := by decide +kernel
theorem d_Mo_putBits_33 : decode (a_cc M_Mo_putBits) 33 = .ok (.idiv, 1) := by decide +kernel
theorem d_Mo_putBits_34 : decode (a_cc M_Mo_putBits) 34 = .ok (.iadd, 1) := by decide +kernel
theorem d_Mo_putBits_35 : decode (a_cc M_Mo_putBits) 35 = .ok (.iconst 0, 1) := by decide +kernel
theorem d_Mo_putBits_36 : decode (a_cc M_Mo_putBits) 36 = .ok (.bastore, 1) := by decide +kernel
theorem d_Mo_putBits_37 : decode (a_cc M_Mo_putBits) 37 = .ok (.aload_n 1, 1) := by decide +kernel
theorem d_Mo_putBits_38 : decode (a_cc M_Mo_putBits) 38 = .ok (.iload_n 2, 1) := by decide +kernel
theorem d_Mo_putBits_39 : decode (a_cc M_Mo_putBits) 39 = .ok (.iload 6, 2) := by decide +kernel
theorem d_Mo_putBits_41 : decode (a_cc M_Mo_putBits) 41 = .ok (.bipush 8, 2) := by decide +kernel
theorem d_Mo_putBits_43 : decode (a_cc M_Mo_putBits) 43 = .ok (.idiv, 1) := by decide +kernel
theorem d_Mo_putBits_44 : decode (a_cc M_Mo_putBits) 44 = .ok (.iadd, 1) := by decide +kernel
theorem d_Mo_putBits_45 : decode (a_cc M_Mo_putBits) 45 = .ok (.dup2, 1) := by decide +kernel
theorem d_Mo_putBits_46 : decode (a_cc M_Mo_putBits) 46 = .ok (.baload, 1) := by decide +kernel
theorem d_Mo_putBits_47 : decode (a_cc M_Mo_putBits) 47 = .ok (.iload_n 3, 1) := by decide +kernel
theorem d_Mo_putBits_48 : decode (a_cc M_Mo_putBits) 48 = .ok (.iload 5, 2) := by decide +kernel
theorem d_Mo_putBits_50 : decode (a_cc M_Mo_putBits) 50 = .ok (.ishr, 1) := by decide +kernel
theorem d_Mo_putBits_51 : decode (a_cc M_Mo_putBits) 51 = .ok (.iconst 1, 1) := by decide +kernel
theorem d_Mo_putBits_52 : decode (a_cc M_Mo_putBits) 52 = .ok (.iand, 1) := by decide +kernel
theorem d_Mo_putBits_53 : decode (a_cc M_Mo_putBits) 53 = .ok (.iload 6, 2) := by decide +kernel
theorem d_Mo_putBits_55 : decode (a_cc M_Mo_putBits) 55 = .ok (.bipush 8, 2) := by decide +kernel
theorem d_Mo_putBits_57 : decode (a_cc M_Mo_putBits) 57 = .ok (.irem, 1) := by decide +kernel
theorem d_Mo_putBits_58 : decode (a_cc M_Mo_putBits) 58 = .ok (.ishl, 1) := by decide +kernel
theorem d_Mo_putBits_59 : decode (a_cc M_Mo_putBits) 59 = .ok (.i2b, 1) := by decide +kernel
theorem d_Mo_putBits_60 : decode (a_cc M_Mo_putBits) 60 = .ok (.ior, 1) := by decide +kernel
theorem d_Mo_putBits_61 : decode (a_cc M_Mo_putBits) 61 = .ok (.i2b, 1) := by decide +kernel
theorem d_Mo_putBits_62 : decode (a_cc M_Mo_putBits) 62 = .ok (.bastore, 1) := by decide +kernel
theorem d_Mo_putBits_63 : decode (a_cc M_Mo_putBits) 63 = .ok (.iinc 5 1, 3) := by decide +kernel
theorem d_Mo_putBits_66 : decode (a_cc M_Mo_putBits) 66 = .ok (.goto (-63), 3) := by decide +kernel
theorem d_Mo_putBits_69 : decode (a_cc M_Mo_putBits) 69 = .ok (.aload_n 0, 1) := by decide +kernel
theorem d_Mo_putBits_70 : decode (a_cc M_Mo_putBits) 70 = .ok (.dup, 1) := by decide +kernel
theorem d_Mo_putBits_71 : decode (a_cc M_Mo_putBits) 71 = .ok (.getfield 216, 3) := by decide +kernel
theorem d_Mo_putBits_74 : decode (a_cc M_Mo_putBits) 74 = .ok (.iload 4, 2) := by decide +kernel
theorem d_Mo_putBits_76 : decode (a_cc M_Mo_putBits) 76 = .ok (.iadd, 1) := by decide +kernel
theorem d_Mo_putBits_77 : decode (a_cc M_Mo_putBits) 77 = .ok (.putfield 216, 3) := by decide +kernel
theorem d_Mo_putBits_80 : decode (a_cc M_Mo_putBits) 80 = .ok (.return_, 1) := by decide +kernel
theorem fd_Mo_216 : a_Fd "ModuleSignerModel" 216 10 23 0 := ⟨by decide, by decide, rfl, List.mem_append_right _ (List.mem_of_getElem? (i := 1121) (by decide +kernel))⟩
def M_Mo_pack : a_M := (⟨"ModuleSignerModel", "pack", "([BI[III)V"⟩, prog_12_method_55_code, 7, none, "ModuleSignerModel", 1, 18, [])
theorem ok_Mo_pack : a_Ok M_Mo_pack := ⟨rfl, by decide +kernel, ⟨by decide, by decide⟩, List.mem_append_right _ (List.mem_of_getElem? (i := 11) (by decide +kernel)), Or.inl ⟨rfl, List.mem_append_right _ (List.mem_of_getElem? (i := 1316) (by decide +kernel))⟩⟩
theorem d_Mo_pack_0 : decode (a_cc M_Mo_pack) 0 = .ok (.iconst 0, 1) := by decide +kernel
theorem d_Mo_pack_1 : decode (a_cc M_Mo_pack) 1 = .ok (.istore 6, 2) := by decide +kernel
theorem d_Mo_pack_3 : decode (a_cc M_Mo_pack) 3 = .ok (.iload 6, 2) := by decide +kernel
theorem d_Mo_pack_5 : decode (a_cc M_Mo_pack) 5 = .ok (.sipush 256, 3) := by decide +kernel
theorem d_Mo_pack_8 : decode (a_cc M_Mo_pack) 8 = .ok (.if_icmp .ge 24, 3) := by decide +kernel
theorem d_Mo_pack_11 : decode (a_cc M_Mo_pack) 11 = .ok (.aload_n 0, 1) := by decide +kernel
theorem d_Mo_pack_12 : decode (a_cc M_Mo_pack) 12 = .ok (.aload_n 1, 1) := by decide +kernel
theorem d_Mo_pack_13 : decode (a_cc M_Mo_pack) 13 = .ok (.iload_n 2, 1) := by decide +kernel
theorem d_Mo_pack_14 : decode (a_cc M_Mo_pack) 14 = .ok (.iload 4, 2) := by decide +kernel
theorem d_Mo_pack_16 : decode (a_cc M_Mo_pack) 16 = .ok (.aload_n 3, 1) := by decide +kernel
theorem d_Mo_pack_17 : decode (a_cc M_Mo_pack) 17 = .ok (.iload 6, 2) := by decide +kernel
theorem d_Mo_pack_19 : decode (a_cc M_Mo_pack) 19 = .ok (.iaload, 1) := by decide +kernel
theorem d_Mo_pack_20 : decode (a_cc M_Mo_pack) 20 = .ok (.isub, 1) := by decide +kernel
theorem d_Mo_pack_21 : decode (a_cc M_Mo_pack) 21 = .ok (.iload 5, 2) := by decide +kernel
theorem d_Mo_pack_23 : decode (a_cc M_Mo_pack) 23 = .ok (.invokevirtual 280, 3) := by decide +kernel
theorem d_Mo_pack_26 : decode (a_cc M_Mo_pack) 26 = .ok (.iinc 6 1, 3) := by decide +kernel
theorem d_Mo_pack_29 : decode (a_cc M_Mo_pack) 29 = .ok (.goto (-26), 3) := by decide +kernel
theorem d_Mo_pack_32 : decode (a_cc M_Mo_pack) 32 = .ok (.return_, 1) := by decide +kernel
theorem cs_Mo_pack_23 : a_CV M_Mo_pack M_Mo_putBits 280 10 5 0 4 := ⟨⟨ok_Mo_putBits, by decide, by decide, by decide⟩, by decide, rfl, List.mem_append_right _ (List.mem_of_getElem? (i := 1317) (by decide +kernel)), List.mem_append_right _ (List.mem_of_getElem? (i := 1319) (by decide +kernel)), List.mem_append_left _ (List.mem_of_getElem? (i := 50) (by decide +kernel)), by decide +kernel⟩
def M_Mo_positive : a_M := (⟨"ModuleSignerModel", "positive", "([I)V"⟩, prog_12_method_58_code, 2, none, "ModuleSignerModel", 0, 0, [])
theorem ok_Mo_positive : a_Ok M_Mo_positive := ⟨rfl, by decide +kernel, ⟨by decide, by decide⟩, List.mem_append_right _ (List.mem_of_getElem? (i := 11) (by decide +kernel)), Or.inl ⟨rfl, List.mem_append_right _ (List.mem_of_getElem? (i := 1323) (by decide +kernel))⟩⟩
theorem d_Mo_positive_0 : decode (a_cc M_Mo_positive) 0 = .ok (.iconst 0, 1) := by decide +kernel
theorem d_Mo_positive_1 : decode (a_cc M_Mo_positive) 1 = .ok (.istore_n 1, 1) := by decide +kernel
theorem d_Mo_positive_2 : decode (a_cc M_Mo_positive) 2 = .ok (.iload_n 1, 1) := by decide +kernel
theorem d_Mo_positive_3 : decode (a_cc M_Mo_positive) 3 = .ok (.sipush 256, 3) := by decide +kernel
theorem d_Mo_positive_6 : decode (a_cc M_Mo_positive) 6 = .ok (.if_icmp .ge 23, 3) := by decide +kernel
theorem d_Mo_positive_9 : decode (a_cc M_Mo_positive) 9 = .ok (.aload_n 0, 1) := by decide +kernel
theorem d_Mo_positive_10 : decode (a_cc M_Mo_positive) 10 = .ok (.iload_n 1, 1) := by decide +kernel
theorem d_Mo_positive_11 : decode (a_cc M_Mo_positive) 11 = .ok (.aload_n 0, 1) := by decide +kernel
theorem d_Mo_positive_12 : decode (a_cc M_Mo_positive) 12 = .ok (.iload_n 1, 1) := by decide +kernel
theorem d_Mo_positive_13 : decode (a_cc M_Mo_positive) 13 = .ok (.iaload, 1) := by decide +kernel
theorem d_Mo_positive_14 : decode (a_cc M_Mo_positive) 14 = .ok (.ldc_w 264, 3) := by decide +kernel
theorem d_Mo_positive_17 : decode (a_cc M_Mo_positive) 17 = .ok (.iadd, 1) := by decide +kernel
theorem d_Mo_positive_18 : decode (a_cc M_Mo_positive) 18 = .ok (.ldc_w 264, 3) := by decide +kernel
theorem d_Mo_positive_21 : decode (a_cc M_Mo_positive) 21 = .ok (.irem, 1) := by decide +kernel
theorem d_Mo_positive_22 : decode (a_cc M_Mo_positive) 22 = .ok (.iastore, 1) := by decide +kernel
theorem d_Mo_positive_23 : decode (a_cc M_Mo_positive) 23 = .ok (.iinc 1 1, 3) := by decide +kernel
theorem d_Mo_positive_26 : decode (a_cc M_Mo_positive) 26 = .ok (.goto (-24), 3) := by decide +kernel
theorem d_Mo_positive_29 : decode (a_cc M_Mo_positive) 29 = .ok (.return_, 1) := by decide +kernel
theorem lc_Mo_264 : Cond.constant "ModuleSignerModel" 264 (Int32.ofInt (8380417)) ∈ lw_tbl := List.mem_append_right _ (List.mem_of_getElem? (i := 1324) (by decide +kernel))
def M_Mo_turned : a_M := (⟨"ModuleSignerModel", "turned", "(II)I"⟩, prog_12_method_39_code, 4, some .int, "ModuleSignerModel", 0, 0, [])
theorem ok_Mo_turned : a_Ok M_Mo_turned := ⟨rfl, by decide +kernel, ⟨by decide, by decide⟩, List.mem_append_right _ (List.mem_of_getElem? (i := 11) (by decide +kernel)), Or.inl ⟨rfl, List.mem_append_right _ (List.mem_of_getElem? (i := 1331) (by decide +kernel))⟩⟩
theorem d_Mo_turned_0 : decode (a_cc M_Mo_turned) 0 = .ok (.iconst 0, 1) := by decide +kernel
theorem d_Mo_turned_1 : decode (a_cc M_Mo_turned) 1 = .ok (.istore_n 2, 1) := by decide +kernel
theorem d_Mo_turned_2 : decode (a_cc M_Mo_turned) 2 = .ok (.iconst 0, 1) := by decide +kernel
theorem d_Mo_turned_3 : decode (a_cc M_Mo_turned) 3 = .ok (.istore_n 3, 1) := by decide +kernel
theorem d_Mo_turned_4 : decode (a_cc M_Mo_turned) 4 = .ok (.iload_n 3, 1) := by decide +kernel
theorem d_Mo_turned_5 : decode (a_cc M_Mo_turned) 5 = .ok (.iload_n 1, 1) := by decide +kernel
theorem d_Mo_turned_6 : decode (a_cc M_Mo_turned) 6 = .ok (.if_icmp .ge 28, 3) := by decide +kernel
theorem d_Mo_turned_9 : decode (a_cc M_Mo_turned) 9 = .ok (.iload_n 0, 1) := by decide +kernel
theorem d_Mo_turned_10 : decode (a_cc M_Mo_turned) 10 = .ok (.iload_n 3, 1) := by decide +kernel
theorem d_Mo_turned_11 : decode (a_cc M_Mo_turned) 11 = .ok (.ishr, 1) := by decide +kernel
theorem d_Mo_turned_12 : decode (a_cc M_Mo_turned) 12 = .ok (.iconst 1, 1) := by decide +kernel
theorem d_Mo_turned_13 : decode (a_cc M_Mo_turned) 13 = .ok (.iand, 1) := by decide +kernel
theorem d_Mo_turned_14 : decode (a_cc M_Mo_turned) 14 = .ok (.iconst 1, 1) := by decide +kernel
theorem d_Mo_turned_15 : decode (a_cc M_Mo_turned) 15 = .ok (.if_icmp .ne 13, 3) := by decide +kernel
theorem d_Mo_turned_18 : decode (a_cc M_Mo_turned) 18 = .ok (.iload_n 2, 1) := by decide +kernel
theorem d_Mo_turned_19 : decode (a_cc M_Mo_turned) 19 = .ok (.iconst 1, 1) := by decide +kernel
theorem d_Mo_turned_20 : decode (a_cc M_Mo_turned) 20 = .ok (.iload_n 1, 1) := by decide +kernel
theorem d_Mo_turned_21 : decode (a_cc M_Mo_turned) 21 = .ok (.iconst 1, 1) := by decide +kernel
theorem d_Mo_turned_22 : decode (a_cc M_Mo_turned) 22 = .ok (.isub, 1) := by decide +kernel
theorem d_Mo_turned_23 : decode (a_cc M_Mo_turned) 23 = .ok (.iload_n 3, 1) := by decide +kernel
theorem d_Mo_turned_24 : decode (a_cc M_Mo_turned) 24 = .ok (.isub, 1) := by decide +kernel
theorem d_Mo_turned_25 : decode (a_cc M_Mo_turned) 25 = .ok (.ishl, 1) := by decide +kernel
theorem d_Mo_turned_26 : decode (a_cc M_Mo_turned) 26 = .ok (.ior, 1) := by decide +kernel
theorem d_Mo_turned_27 : decode (a_cc M_Mo_turned) 27 = .ok (.istore_n 2, 1) := by decide +kernel
theorem d_Mo_turned_28 : decode (a_cc M_Mo_turned) 28 = .ok (.iinc 3 1, 3) := by decide +kernel
theorem d_Mo_turned_31 : decode (a_cc M_Mo_turned) 31 = .ok (.goto (-27), 3) := by decide +kernel
theorem d_Mo_turned_34 : decode (a_cc M_Mo_turned) 34 = .ok (.iload_n 2, 1) := by decide +kernel
theorem d_Mo_turned_35 : decode (a_cc M_Mo_turned) 35 = .ok (.ireturn, 1) := by decide +kernel
def M_Mo_evaluate : a_M := (⟨"ModuleSignerModel", "evaluate", "([I)V"⟩, prog_12_method_44_code, 7, none, "ModuleSignerModel", 1, 16, [])
theorem ok_Mo_evaluate : a_Ok M_Mo_evaluate := ⟨rfl, by decide +kernel, ⟨by decide, by decide⟩, List.mem_append_right _ (List.mem_of_getElem? (i := 11) (by decide +kernel)), Or.inl ⟨rfl, List.mem_append_right _ (List.mem_of_getElem? (i := 1328) (by decide +kernel))⟩⟩
theorem d_Mo_evaluate_0 : decode (a_cc M_Mo_evaluate) 0 = .ok (.iconst 0, 1) := by decide +kernel
theorem d_Mo_evaluate_1 : decode (a_cc M_Mo_evaluate) 1 = .ok (.istore_n 2, 1) := by decide +kernel
theorem d_Mo_evaluate_2 : decode (a_cc M_Mo_evaluate) 2 = .ok (.iload_n 2, 1) := by decide +kernel
theorem d_Mo_evaluate_3 : decode (a_cc M_Mo_evaluate) 3 = .ok (.sipush 256, 3) := by decide +kernel
theorem d_Mo_evaluate_6 : decode (a_cc M_Mo_evaluate) 6 = .ok (.if_icmp .ge 77, 3) := by decide +kernel
theorem d_Mo_evaluate_9 : decode (a_cc M_Mo_evaluate) 9 = .ok (.iconst 2, 1) := by decide +kernel
theorem d_Mo_evaluate_10 : decode (a_cc M_Mo_evaluate) 10 = .ok (.iload_n 2, 1) := by decide +kernel
theorem d_Mo_evaluate_11 : decode (a_cc M_Mo_evaluate) 11 = .ok (.bipush 8, 2) := by decide +kernel
theorem d_Mo_evaluate_13 : decode (a_cc M_Mo_evaluate) 13 = .ok (.invokestatic 258, 3) := by decide +kernel
theorem d_Mo_evaluate_16 : decode (a_cc M_Mo_evaluate) 16 = .ok (.imul, 1) := by decide +kernel
theorem d_Mo_evaluate_17 : decode (a_cc M_Mo_evaluate) 17 = .ok (.iconst 1, 1) := by decide +kernel
theorem d_Mo_evaluate_18 : decode (a_cc M_Mo_evaluate) 18 = .ok (.iadd, 1) := by decide +kernel
theorem d_Mo_evaluate_19 : decode (a_cc M_Mo_evaluate) 19 = .ok (.istore_n 3, 1) := by decide +kernel
theorem d_Mo_evaluate_20 : decode (a_cc M_Mo_evaluate) 20 = .ok (.lconst 0, 1) := by decide +kernel
theorem d_Mo_evaluate_21 : decode (a_cc M_Mo_evaluate) 21 = .ok (.lstore 4, 2) := by decide +kernel
theorem d_Mo_evaluate_23 : decode (a_cc M_Mo_evaluate) 23 = .ok (.iconst 0, 1) := by decide +kernel
theorem d_Mo_evaluate_24 : decode (a_cc M_Mo_evaluate) 24 = .ok (.istore 6, 2) := by decide +kernel
theorem d_Mo_evaluate_26 : decode (a_cc M_Mo_evaluate) 26 = .ok (.iload 6, 2) := by decide +kernel
theorem d_Mo_evaluate_28 : decode (a_cc M_Mo_evaluate) 28 = .ok (.sipush 256, 3) := by decide +kernel
theorem d_Mo_evaluate_31 : decode (a_cc M_Mo_evaluate) 31 = .ok (.if_icmp .ge 34, 3) := by decide +kernel
theorem d_Mo_evaluate_34 : decode (a_cc M_Mo_evaluate) 34 = .ok (.lload 4, 2) := by decide +kernel
theorem d_Mo_evaluate_36 : decode (a_cc M_Mo_evaluate) 36 = .ok (.aload_n 1, 1) := by decide +kernel
theorem d_Mo_evaluate_37 : decode (a_cc M_Mo_evaluate) 37 = .ok (.iload 6, 2) := by decide +kernel
theorem d_Mo_evaluate_39 : decode (a_cc M_Mo_evaluate) 39 = .ok (.iaload, 1) := by decide +kernel
theorem d_Mo_evaluate_40 : decode (a_cc M_Mo_evaluate) 40 = .ok (.i2l, 1) := by decide +kernel
theorem d_Mo_evaluate_41 : decode (a_cc M_Mo_evaluate) 41 = .ok (.aload_n 0, 1) := by decide +kernel
theorem d_Mo_evaluate_42 : decode (a_cc M_Mo_evaluate) 42 = .ok (.getfield 71, 3) := by decide +kernel
theorem d_Mo_evaluate_45 : decode (a_cc M_Mo_evaluate) 45 = .ok (.iload_n 3, 1) := by decide +kernel
theorem d_Mo_evaluate_46 : decode (a_cc M_Mo_evaluate) 46 = .ok (.iload 6, 2) := by decide +kernel
theorem d_Mo_evaluate_48 : decode (a_cc M_Mo_evaluate) 48 = .ok (.imul, 1) := by decide +kernel
theorem d_Mo_evaluate_49 : decode (a_cc M_Mo_evaluate) 49 = .ok (.sipush 511, 3) := by decide +kernel
theorem d_Mo_evaluate_52 : decode (a_cc M_Mo_evaluate) 52 = .ok (.iand, 1) := by decide +kernel
theorem d_Mo_evaluate_53 : decode (a_cc M_Mo_evaluate) 53 = .ok (.iaload, 1) := by decide +kernel
theorem d_Mo_evaluate_54 : decode (a_cc M_Mo_evaluate) 54 = .ok (.i2l, 1) := by decide +kernel
theorem d_Mo_evaluate_55 : decode (a_cc M_Mo_evaluate) 55 = .ok (.lmul, 1) := by decide +kernel
theorem d_Mo_evaluate_56 : decode (a_cc M_Mo_evaluate) 56 = .ok (.ladd, 1) := by decide +kernel
theorem d_Mo_evaluate_57 : decode (a_cc M_Mo_evaluate) 57 = .ok (.lstore 4, 2) := by decide +kernel
theorem d_Mo_evaluate_59 : decode (a_cc M_Mo_evaluate) 59 = .ok (.iinc 6 1, 3) := by decide +kernel
theorem d_Mo_evaluate_62 : decode (a_cc M_Mo_evaluate) 62 = .ok (.goto (-36), 3) := by decide +kernel
theorem d_Mo_evaluate_65 : decode (a_cc M_Mo_evaluate) 65 = .ok (.aload_n 0, 1) := by decide +kernel
theorem d_Mo_evaluate_66 : decode (a_cc M_Mo_evaluate) 66 = .ok (.getfield 65, 3) := by decide +kernel
theorem d_Mo_evaluate_69 : decode (a_cc M_Mo_evaluate) 69 = .ok (.iload_n 2, 1) := by decide +kernel
theorem d_Mo_evaluate_70 : decode (a_cc M_Mo_evaluate) 70 = .ok (.lload 4, 2) := by decide +kernel
theorem d_Mo_evaluate_72 : decode (a_cc M_Mo_evaluate) 72 = .ok (.ldc2_w 256, 3) := by decide +kernel
theorem d_Mo_evaluate_75 : decode (a_cc M_Mo_evaluate) 75 = .ok (.lrem, 1) := by decide +kernel
theorem d_Mo_evaluate_76 : decode (a_cc M_Mo_evaluate) 76 = .ok (.lastore, 1) := by decide +kernel
theorem d_Mo_evaluate_77 : decode (a_cc M_Mo_evaluate) 77 = .ok (.iinc 2 1, 3) := by decide +kernel
theorem d_Mo_evaluate_80 : decode (a_cc M_Mo_evaluate) 80 = .ok (.goto (-78), 3) := by decide +kernel
theorem d_Mo_evaluate_83 : decode (a_cc M_Mo_evaluate) 83 = .ok (.iconst 0, 1) := by decide +kernel
theorem d_Mo_evaluate_84 : decode (a_cc M_Mo_evaluate) 84 = .ok (.istore_n 2, 1) := by decide +kernel
theorem d_Mo_evaluate_85 : decode (a_cc M_Mo_evaluate) 85 = .ok (.iload_n 2, 1) := by decide +kernel
theorem d_Mo_evaluate_86 : decode (a_cc M_Mo_evaluate) 86 = .ok (.sipush 256, 3) := by decide +kernel
theorem d_Mo_evaluate_89 : decode (a_cc M_Mo_evaluate) 89 = .ok (.if_icmp .ge 19, 3) := by decide +kernel
theorem d_Mo_evaluate_92 : decode (a_cc M_Mo_evaluate) 92 = .ok (.aload_n 1, 1) := by decide +kernel
theorem d_Mo_evaluate_93 : decode (a_cc M_Mo_evaluate) 93 = .ok (.iload_n 2, 1) := by decide +kernel
theorem d_Mo_evaluate_94 : decode (a_cc M_Mo_evaluate) 94 = .ok (.aload_n 0, 1) := by decide +kernel
theorem d_Mo_evaluate_95 : decode (a_cc M_Mo_evaluate) 95 = .ok (.getfield 65, 3) := by decide +kernel
theorem d_Mo_evaluate_98 : decode (a_cc M_Mo_evaluate) 98 = .ok (.iload_n 2, 1) := by decide +kernel
theorem d_Mo_evaluate_99 : decode (a_cc M_Mo_evaluate) 99 = .ok (.laload, 1) := by decide +kernel
theorem d_Mo_evaluate_100 : decode (a_cc M_Mo_evaluate) 100 = .ok (.l2i, 1) := by decide +kernel
theorem d_Mo_evaluate_101 : decode (a_cc M_Mo_evaluate) 101 = .ok (.iastore, 1) := by decide +kernel
theorem d_Mo_evaluate_102 : decode (a_cc M_Mo_evaluate) 102 = .ok (.iinc 2 1, 3) := by decide +kernel
theorem d_Mo_evaluate_105 : decode (a_cc M_Mo_evaluate) 105 = .ok (.goto (-20), 3) := by decide +kernel
theorem d_Mo_evaluate_108 : decode (a_cc M_Mo_evaluate) 108 = .ok (.return_, 1) := by decide +kernel
theorem cs_Mo_evaluate_13 : a_CS M_Mo_evaluate M_Mo_turned 258 2 1 2 := ⟨⟨ok_Mo_turned, by decide, by decide, by decide⟩, List.mem_append_right _ (List.mem_of_getElem? (i := 1329) (by decide +kernel)), List.mem_append_right _ (List.mem_of_getElem? (i := 1330) (by decide +kernel)), by decide +kernel⟩
def M_Mo_clear : a_M := (⟨"ModuleSignerModel", "clear", "([I)V"⟩, prog_12_method_38_code, 2, none, "ModuleSignerModel", 0, 0, [])
theorem ok_Mo_clear : a_Ok M_Mo_clear := ⟨rfl, by decide +kernel, ⟨by decide, by decide⟩, List.mem_append_right _ (List.mem_of_getElem? (i := 11) (by decide +kernel)), Or.inl ⟨rfl, List.mem_append_right _ (List.mem_of_getElem? (i := 1334) (by decide +kernel))⟩⟩
theorem d_Mo_clear_0 : decode (a_cc M_Mo_clear) 0 = .ok (.iconst 0, 1) := by decide +kernel
theorem d_Mo_clear_1 : decode (a_cc M_Mo_clear) 1 = .ok (.istore_n 1, 1) := by decide +kernel
theorem d_Mo_clear_2 : decode (a_cc M_Mo_clear) 2 = .ok (.iload_n 1, 1) := by decide +kernel
theorem d_Mo_clear_3 : decode (a_cc M_Mo_clear) 3 = .ok (.sipush 256, 3) := by decide +kernel
theorem d_Mo_clear_6 : decode (a_cc M_Mo_clear) 6 = .ok (.if_icmp .ge 13, 3) := by decide +kernel
theorem d_Mo_clear_9 : decode (a_cc M_Mo_clear) 9 = .ok (.aload_n 0, 1) := by decide +kernel
theorem d_Mo_clear_10 : decode (a_cc M_Mo_clear) 10 = .ok (.iload_n 1, 1) := by decide +kernel
theorem d_Mo_clear_11 : decode (a_cc M_Mo_clear) 11 = .ok (.iconst 0, 1) := by decide +kernel
theorem d_Mo_clear_12 : decode (a_cc M_Mo_clear) 12 = .ok (.iastore, 1) := by decide +kernel
theorem d_Mo_clear_13 : decode (a_cc M_Mo_clear) 13 = .ok (.iinc 1 1, 3) := by decide +kernel
theorem d_Mo_clear_16 : decode (a_cc M_Mo_clear) 16 = .ok (.goto (-14), 3) := by decide +kernel
theorem d_Mo_clear_19 : decode (a_cc M_Mo_clear) 19 = .ok (.return_, 1) := by decide +kernel
