/-! names, printed by program: methods, their instructions, what they link -/
def M_MS_dsaVerify : a_M := (⟨"ModuleSigner", "dsaVerify", "(II)Z"⟩, prog_1_method_12_code, 3, some .boolean, "ModuleSigner", 10, 146, [])
theorem ok_MS_dsaVerify : a_Ok M_MS_dsaVerify := ⟨rfl, by decide +kernel, ⟨by decide, by decide⟩, List.mem_append_right _ (List.mem_of_getElem? (i := 1) (by decide +kernel)), Or.inl ⟨rfl, List.mem_append_right _ (List.mem_of_getElem? (i := 945) (by decide +kernel))⟩⟩
theorem d_MS_dsaVerify_0 : decode (a_cc M_MS_dsaVerify) 0 = .ok (.iload_n 1, 1) := by decide +kernel
theorem d_MS_dsaVerify_1 : decode (a_cc M_MS_dsaVerify) 1 = .ok (.invokestatic 108, 3) := by decide +kernel
theorem d_MS_dsaVerify_4 : decode (a_cc M_MS_dsaVerify) 4 = .ok (.iload_n 2, 1) := by decide +kernel
theorem d_MS_dsaVerify_5 : decode (a_cc M_MS_dsaVerify) 5 = .ok (.invokestatic 120, 3) := by decide +kernel
theorem d_MS_dsaVerify_8 : decode (a_cc M_MS_dsaVerify) 8 = .ok (.aload_n 0, 1) := by decide +kernel
theorem d_MS_dsaVerify_9 : decode (a_cc M_MS_dsaVerify) 9 = .ok (.iload_n 2, 1) := by decide +kernel
theorem d_MS_dsaVerify_10 : decode (a_cc M_MS_dsaVerify) 10 = .ok (.invokevirtual 123, 3) := by decide +kernel
theorem d_MS_dsaVerify_13 : decode (a_cc M_MS_dsaVerify) 13 = .ok (.aload_n 0, 1) := by decide +kernel
theorem d_MS_dsaVerify_14 : decode (a_cc M_MS_dsaVerify) 14 = .ok (.getfield 11, 3) := by decide +kernel
theorem d_MS_dsaVerify_17 : decode (a_cc M_MS_dsaVerify) 17 = .ok (.iconst 1, 1) := by decide +kernel
theorem d_MS_dsaVerify_18 : decode (a_cc M_MS_dsaVerify) 18 = .ok (.aaload, 1) := by decide +kernel
theorem d_MS_dsaVerify_19 : decode (a_cc M_MS_dsaVerify) 19 = .ok (.getfield 55, 3) := by decide +kernel
theorem d_MS_dsaVerify_22 : decode (a_cc M_MS_dsaVerify) 22 = .ok (.aload_n 0, 1) := by decide +kernel
theorem d_MS_dsaVerify_23 : decode (a_cc M_MS_dsaVerify) 23 = .ok (.getfield 24, 3) := by decide +kernel
theorem d_MS_dsaVerify_26 : decode (a_cc M_MS_dsaVerify) 26 = .ok (.iload_n 1, 1) := by decide +kernel
theorem d_MS_dsaVerify_27 : decode (a_cc M_MS_dsaVerify) 27 = .ok (.aaload, 1) := by decide +kernel
theorem d_MS_dsaVerify_28 : decode (a_cc M_MS_dsaVerify) 28 = .ok (.getfield 140, 3) := by decide +kernel
theorem d_MS_dsaVerify_31 : decode (a_cc M_MS_dsaVerify) 31 = .ok (.if_icmp .eq 13, 3) := by decide +kernel
theorem d_MS_dsaVerify_34 : decode (a_cc M_MS_dsaVerify) 34 = .ok (.new 131, 3) := by decide +kernel
theorem d_MS_dsaVerify_37 : decode (a_cc M_MS_dsaVerify) 37 = .ok (.dup, 1) := by decide +kernel
theorem d_MS_dsaVerify_38 : decode (a_cc M_MS_dsaVerify) 38 = .ok (.ldc 143, 2) := by decide +kernel
theorem d_MS_dsaVerify_40 : decode (a_cc M_MS_dsaVerify) 40 = .ok (.invokespecial 135, 3) := by decide +kernel
theorem d_MS_dsaVerify_43 : decode (a_cc M_MS_dsaVerify) 43 = .ok (.athrow, 1) := by decide +kernel
theorem d_MS_dsaVerify_44 : decode (a_cc M_MS_dsaVerify) 44 = .ok (.aload_n 0, 1) := by decide +kernel
theorem d_MS_dsaVerify_45 : decode (a_cc M_MS_dsaVerify) 45 = .ok (.getfield 51, 3) := by decide +kernel
theorem d_MS_dsaVerify_48 : decode (a_cc M_MS_dsaVerify) 48 = .ok (.aload_n 0, 1) := by decide +kernel
theorem d_MS_dsaVerify_49 : decode (a_cc M_MS_dsaVerify) 49 = .ok (.getfield 11, 3) := by decide +kernel
theorem d_MS_dsaVerify_52 : decode (a_cc M_MS_dsaVerify) 52 = .ok (.aload_n 0, 1) := by decide +kernel
theorem d_MS_dsaVerify_53 : decode (a_cc M_MS_dsaVerify) 53 = .ok (.getfield 24, 3) := by decide +kernel
theorem d_MS_dsaVerify_56 : decode (a_cc M_MS_dsaVerify) 56 = .ok (.iload_n 1, 1) := by decide +kernel
theorem d_MS_dsaVerify_57 : decode (a_cc M_MS_dsaVerify) 57 = .ok (.aaload, 1) := by decide +kernel
theorem d_MS_dsaVerify_58 : decode (a_cc M_MS_dsaVerify) 58 = .ok (.iload_n 2, 1) := by decide +kernel
theorem d_MS_dsaVerify_59 : decode (a_cc M_MS_dsaVerify) 59 = .ok (.invokevirtual 145, 3) := by decide +kernel
theorem d_MS_dsaVerify_62 : decode (a_cc M_MS_dsaVerify) 62 = .ok (.ireturn, 1) := by decide +kernel
theorem cs_MS_dsaVerify_1 : a_CS M_MS_dsaVerify M_MS_needSet 108 1 0 1 := ⟨⟨ok_MS_needSet, by decide, by decide, by decide⟩, List.mem_append_right _ (List.mem_of_getElem? (i := 575) (by decide +kernel)), List.mem_append_right _ (List.mem_of_getElem? (i := 576) (by decide +kernel)), by decide +kernel⟩
theorem cs_MS_dsaVerify_5 : a_CS M_MS_dsaVerify M_MS_needHow 120 1 0 1 := ⟨⟨ok_MS_needHow, by decide, by decide, by decide⟩, List.mem_append_right _ (List.mem_of_getElem? (i := 782) (by decide +kernel)), List.mem_append_right _ (List.mem_of_getElem? (i := 783) (by decide +kernel)), by decide +kernel⟩
theorem cs_MS_dsaVerify_10 : a_CV M_MS_dsaVerify M_MS_needContext 123 0 2 0 1 := ⟨⟨ok_MS_needContext, by decide, by decide, by decide⟩, by decide, rfl, List.mem_append_right _ (List.mem_of_getElem? (i := 786) (by decide +kernel)), List.mem_append_right _ (List.mem_of_getElem? (i := 788) (by decide +kernel)), List.mem_append_left _ (List.mem_of_getElem? (i := 12) (by decide +kernel)), by decide +kernel⟩
theorem fd_MS_140 : a_Fd "ModuleSigner" 140 2 13 0 := ⟨by decide, by decide, rfl, List.mem_append_right _ (List.mem_of_getElem? (i := 124) (by decide +kernel))⟩
theorem th_MS_dsaVerify_34 : a_Th M_MS_dsaVerify 34 3 0 := ⟨_, _, _, "PUBLIC is no key of this set", d_MS_dsaVerify_34, d_MS_dsaVerify_37, d_MS_dsaVerify_38, d_MS_dsaVerify_40, d_MS_dsaVerify_43, List.mem_append_right _ (List.mem_of_getElem? (i := 946) (by decide +kernel)), by decide, List.mem_append_right _ (List.mem_of_getElem? (i := 792) (by decide +kernel)), List.mem_append_right _ (List.mem_of_getElem? (i := 802) (by decide +kernel)), rfl, by decide, by decide⟩
theorem cs_MS_dsaVerify_59 : a_CV M_MS_dsaVerify M_Ve_verify 145 6 4 0 3 := ⟨⟨ok_Ve_verify, by decide, by decide, by decide⟩, by decide, rfl, List.mem_append_right _ (List.mem_of_getElem? (i := 947) (by decide +kernel)), List.mem_append_right _ (List.mem_of_getElem? (i := 948) (by decide +kernel)), List.mem_append_right _ (List.mem_of_getElem? (i := 949) (by decide +kernel)), by decide +kernel⟩
def M_La_dsaVerify : a_M := (⟨"ModuleSignerLaw", "dsaVerify", "(LModuleSigner;II[J)I"⟩, method_13_code, 5, some .int, "ModuleSignerLaw", 11, 162, [(0, 17, 20, 19), (0, 17, 24, 46), (0, 17, 28, 53), (0, 17, 32, 48)])
theorem ok_La_dsaVerify : a_Ok M_La_dsaVerify := ⟨rfl, by decide +kernel, ⟨by decide, by decide⟩, List.mem_append_right _ (List.mem_of_getElem? (i := 0) (by decide +kernel)), Or.inr (List.mem_append_right _ (List.mem_of_getElem? (i := 941) (by decide +kernel)))⟩
theorem d_La_dsaVerify_0 : decode (a_cc M_La_dsaVerify) 0 = .ok (.aload_n 3, 1) := by decide +kernel
theorem d_La_dsaVerify_1 : decode (a_cc M_La_dsaVerify) 1 = .ok (.iconst 0, 1) := by decide +kernel
theorem d_La_dsaVerify_2 : decode (a_cc M_La_dsaVerify) 2 = .ok (.aload_n 0, 1) := by decide +kernel
theorem d_La_dsaVerify_3 : decode (a_cc M_La_dsaVerify) 3 = .ok (.iload_n 1, 1) := by decide +kernel
theorem d_La_dsaVerify_4 : decode (a_cc M_La_dsaVerify) 4 = .ok (.iload_n 2, 1) := by decide +kernel
theorem d_La_dsaVerify_5 : decode (a_cc M_La_dsaVerify) 5 = .ok (.invokevirtual 55, 3) := by decide +kernel
theorem d_La_dsaVerify_8 : decode (a_cc M_La_dsaVerify) 8 = .ok (.ifCond .eq 7, 3) := by decide +kernel
theorem d_La_dsaVerify_11 : decode (a_cc M_La_dsaVerify) 11 = .ok (.lconst 1, 1) := by decide +kernel
theorem d_La_dsaVerify_12 : decode (a_cc M_La_dsaVerify) 12 = .ok (.goto 4, 3) := by decide +kernel
theorem d_La_dsaVerify_15 : decode (a_cc M_La_dsaVerify) 15 = .ok (.lconst 0, 1) := by decide +kernel
theorem d_La_dsaVerify_16 : decode (a_cc M_La_dsaVerify) 16 = .ok (.lastore, 1) := by decide +kernel
theorem d_La_dsaVerify_17 : decode (a_cc M_La_dsaVerify) 17 = .ok (.goto 19, 3) := by decide +kernel
theorem d_La_dsaVerify_20 : decode (a_cc M_La_dsaVerify) 20 = .ok (.astore 4, 2) := by decide +kernel
theorem d_La_dsaVerify_22 : decode (a_cc M_La_dsaVerify) 22 = .ok (.iconst 1, 1) := by decide +kernel
theorem d_La_dsaVerify_23 : decode (a_cc M_La_dsaVerify) 23 = .ok (.ireturn, 1) := by decide +kernel
theorem d_La_dsaVerify_24 : decode (a_cc M_La_dsaVerify) 24 = .ok (.astore 4, 2) := by decide +kernel
theorem d_La_dsaVerify_26 : decode (a_cc M_La_dsaVerify) 26 = .ok (.iconst 2, 1) := by decide +kernel
theorem d_La_dsaVerify_27 : decode (a_cc M_La_dsaVerify) 27 = .ok (.ireturn, 1) := by decide +kernel
theorem d_La_dsaVerify_28 : decode (a_cc M_La_dsaVerify) 28 = .ok (.astore 4, 2) := by decide +kernel
theorem d_La_dsaVerify_30 : decode (a_cc M_La_dsaVerify) 30 = .ok (.iconst 3, 1) := by decide +kernel
theorem d_La_dsaVerify_31 : decode (a_cc M_La_dsaVerify) 31 = .ok (.ireturn, 1) := by decide +kernel
theorem d_La_dsaVerify_32 : decode (a_cc M_La_dsaVerify) 32 = .ok (.astore 4, 2) := by decide +kernel
theorem d_La_dsaVerify_34 : decode (a_cc M_La_dsaVerify) 34 = .ok (.iconst 4, 1) := by decide +kernel
theorem d_La_dsaVerify_35 : decode (a_cc M_La_dsaVerify) 35 = .ok (.ireturn, 1) := by decide +kernel
theorem d_La_dsaVerify_36 : decode (a_cc M_La_dsaVerify) 36 = .ok (.iconst 0, 1) := by decide +kernel
theorem d_La_dsaVerify_37 : decode (a_cc M_La_dsaVerify) 37 = .ok (.ireturn, 1) := by decide +kernel
theorem cs_La_dsaVerify_5 : a_CV M_La_dsaVerify M_MS_dsaVerify 55 0 3 2 2 := ⟨⟨ok_MS_dsaVerify, by decide, by decide, by decide⟩, by decide, rfl, List.mem_append_right _ (List.mem_of_getElem? (i := 942) (by decide +kernel)), List.mem_append_right _ (List.mem_of_getElem? (i := 943) (by decide +kernel)), List.mem_append_right _ (List.mem_of_getElem? (i := 944) (by decide +kernel)), by decide +kernel⟩
def M_Mo_hints : a_M := (⟨"ModuleSignerModel", "hints", "([BI)Z"⟩, prog_12_method_67_code, 7, some .boolean, "ModuleSignerModel", 0, 0, [])
theorem ok_Mo_hints : a_Ok M_Mo_hints := ⟨rfl, by decide +kernel, ⟨by decide, by decide⟩, List.mem_append_right _ (List.mem_of_getElem? (i := 11) (by decide +kernel)), Or.inl ⟨rfl, List.mem_append_right _ (List.mem_of_getElem? (i := 1422) (by decide +kernel))⟩⟩
theorem d_Mo_hints_0 : decode (a_cc M_Mo_hints) 0 = .ok (.iconst 0, 1) := by decide +kernel
theorem d_Mo_hints_1 : decode (a_cc M_Mo_hints) 1 = .ok (.istore_n 3, 1) := by decide +kernel
theorem d_Mo_hints_2 : decode (a_cc M_Mo_hints) 2 = .ok (.iconst 0, 1) := by decide +kernel
theorem d_Mo_hints_3 : decode (a_cc M_Mo_hints) 3 = .ok (.istore 4, 2) := by decide +kernel
theorem d_Mo_hints_5 : decode (a_cc M_Mo_hints) 5 = .ok (.iload 4, 2) := by decide +kernel
theorem d_Mo_hints_7 : decode (a_cc M_Mo_hints) 7 = .ok (.aload_n 0, 1) := by decide +kernel
theorem d_Mo_hints_8 : decode (a_cc M_Mo_hints) 8 = .ok (.getfield 223, 3) := by decide +kernel
theorem d_Mo_hints_11 : decode (a_cc M_Mo_hints) 11 = .ok (.if_icmp .ge 142, 3) := by decide +kernel
theorem d_Mo_hints_14 : decode (a_cc M_Mo_hints) 14 = .ok (.iconst 0, 1) := by decide +kernel
theorem d_Mo_hints_15 : decode (a_cc M_Mo_hints) 15 = .ok (.istore 5, 2) := by decide +kernel
theorem d_Mo_hints_17 : decode (a_cc M_Mo_hints) 17 = .ok (.iload 5, 2) := by decide +kernel
theorem d_Mo_hints_19 : decode (a_cc M_Mo_hints) 19 = .ok (.sipush 256, 3) := by decide +kernel
theorem d_Mo_hints_22 : decode (a_cc M_Mo_hints) 22 = .ok (.if_icmp .ge 20, 3) := by decide +kernel
theorem d_Mo_hints_25 : decode (a_cc M_Mo_hints) 25 = .ok (.aload_n 0, 1) := by decide +kernel
theorem d_Mo_hints_26 : decode (a_cc M_Mo_hints) 26 = .ok (.getfield 81, 3) := by decide +kernel
theorem d_Mo_hints_29 : decode (a_cc M_Mo_hints) 29 = .ok (.iload 4, 2) := by decide +kernel
theorem d_Mo_hints_31 : decode (a_cc M_Mo_hints) 31 = .ok (.aaload, 1) := by decide +kernel
theorem d_Mo_hints_32 : decode (a_cc M_Mo_hints) 32 = .ok (.iload 5, 2) := by decide +kernel
theorem d_Mo_hints_34 : decode (a_cc M_Mo_hints) 34 = .ok (.iconst 0, 1) := by decide +kernel
theorem d_Mo_hints_35 : decode (a_cc M_Mo_hints) 35 = .ok (.bastore, 1) := by decide +kernel
theorem d_Mo_hints_36 : decode (a_cc M_Mo_hints) 36 = .ok (.iinc 5 1, 3) := by decide +kernel
theorem d_Mo_hints_39 : decode (a_cc M_Mo_hints) 39 = .ok (.goto (-22), 3) := by decide +kernel
theorem d_Mo_hints_42 : decode (a_cc M_Mo_hints) 42 = .ok (.aload_n 1, 1) := by decide +kernel
theorem d_Mo_hints_43 : decode (a_cc M_Mo_hints) 43 = .ok (.iload_n 2, 1) := by decide +kernel
theorem d_Mo_hints_44 : decode (a_cc M_Mo_hints) 44 = .ok (.aload_n 0, 1) := by decide +kernel
theorem d_Mo_hints_45 : decode (a_cc M_Mo_hints) 45 = .ok (.getfield 245, 3) := by decide +kernel
theorem d_Mo_hints_48 : decode (a_cc M_Mo_hints) 48 = .ok (.iadd, 1) := by decide +kernel
theorem d_Mo_hints_49 : decode (a_cc M_Mo_hints) 49 = .ok (.iload 4, 2) := by decide +kernel
theorem d_Mo_hints_51 : decode (a_cc M_Mo_hints) 51 = .ok (.iadd, 1) := by decide +kernel
theorem d_Mo_hints_52 : decode (a_cc M_Mo_hints) 52 = .ok (.baload, 1) := by decide +kernel
theorem d_Mo_hints_53 : decode (a_cc M_Mo_hints) 53 = .ok (.sipush 255, 3) := by decide +kernel
theorem d_Mo_hints_56 : decode (a_cc M_Mo_hints) 56 = .ok (.iand, 1) := by decide +kernel
theorem d_Mo_hints_57 : decode (a_cc M_Mo_hints) 57 = .ok (.istore 5, 2) := by decide +kernel
theorem d_Mo_hints_59 : decode (a_cc M_Mo_hints) 59 = .ok (.iload 5, 2) := by decide +kernel
theorem d_Mo_hints_61 : decode (a_cc M_Mo_hints) 61 = .ok (.iload_n 3, 1) := by decide +kernel
theorem d_Mo_hints_62 : decode (a_cc M_Mo_hints) 62 = .ok (.if_icmp .lt 12, 3) := by decide +kernel
theorem d_Mo_hints_65 : decode (a_cc M_Mo_hints) 65 = .ok (.iload 5, 2) := by decide +kernel
theorem d_Mo_hints_67 : decode (a_cc M_Mo_hints) 67 = .ok (.aload_n 0, 1) := by decide +kernel
theorem d_Mo_hints_68 : decode (a_cc M_Mo_hints) 68 = .ok (.getfield 245, 3) := by decide +kernel
theorem d_Mo_hints_71 : decode (a_cc M_Mo_hints) 71 = .ok (.if_icmp .le 5, 3) := by decide +kernel
theorem d_Mo_hints_74 : decode (a_cc M_Mo_hints) 74 = .ok (.iconst 0, 1) := by decide +kernel
theorem d_Mo_hints_75 : decode (a_cc M_Mo_hints) 75 = .ok (.ireturn, 1) := by decide +kernel
theorem d_Mo_hints_76 : decode (a_cc M_Mo_hints) 76 = .ok (.iload_n 3, 1) := by decide +kernel
theorem d_Mo_hints_77 : decode (a_cc M_Mo_hints) 77 = .ok (.istore 6, 2) := by decide +kernel
theorem d_Mo_hints_79 : decode (a_cc M_Mo_hints) 79 = .ok (.iload 6, 2) := by decide +kernel
theorem d_Mo_hints_81 : decode (a_cc M_Mo_hints) 81 = .ok (.iload 5, 2) := by decide +kernel
theorem d_Mo_hints_83 : decode (a_cc M_Mo_hints) 83 = .ok (.if_icmp .ge 61, 3) := by decide +kernel
theorem d_Mo_hints_86 : decode (a_cc M_Mo_hints) 86 = .ok (.iload 6, 2) := by decide +kernel
theorem d_Mo_hints_88 : decode (a_cc M_Mo_hints) 88 = .ok (.iload_n 3, 1) := by decide +kernel
theorem d_Mo_hints_89 : decode (a_cc M_Mo_hints) 89 = .ok (.if_icmp .le 30, 3) := by decide +kernel
theorem d_Mo_hints_92 : decode (a_cc M_Mo_hints) 92 = .ok (.aload_n 1, 1) := by decide +kernel
theorem d_Mo_hints_93 : decode (a_cc M_Mo_hints) 93 = .ok (.iload_n 2, 1) := by decide +kernel
theorem d_Mo_hints_94 : decode (a_cc M_Mo_hints) 94 = .ok (.iload 6, 2) := by decide +kernel
theorem d_Mo_hints_96 : decode (a_cc M_Mo_hints) 96 = .ok (.iadd, 1) := by decide +kernel
theorem d_Mo_hints_97 : decode (a_cc M_Mo_hints) 97 = .ok (.baload, 1) := by decide +kernel
theorem d_Mo_hints_98 : decode (a_cc M_Mo_hints) 98 = .ok (.sipush 255, 3) := by decide +kernel
theorem d_Mo_hints_101 : decode (a_cc M_Mo_hints) 101 = .ok (.iand, 1) := by decide +kernel
theorem d_Mo_hints_102 : decode (a_cc M_Mo_hints) 102 = .ok (.aload_n 1, 1) := by decide +kernel
theorem d_Mo_hints_103 : decode (a_cc M_Mo_hints) 103 = .ok (.iload_n 2, 1) := by decide +kernel
theorem d_Mo_hints_104 : decode (a_cc M_Mo_hints) 104 = .ok (.iload 6, 2) := by decide +kernel
theorem d_Mo_hints_106 : decode (a_cc M_Mo_hints) 106 = .ok (.iadd, 1) := by decide +kernel
theorem d_Mo_hints_107 : decode (a_cc M_Mo_hints) 107 = .ok (.iconst 1, 1) := by decide +kernel
theorem d_Mo_hints_108 : decode (a_cc M_Mo_hints) 108 = .ok (.isub, 1) := by decide +kernel
theorem d_Mo_hints_109 : decode (a_cc M_Mo_hints) 109 = .ok (.baload, 1) := by decide +kernel
theorem d_Mo_hints_110 : decode (a_cc M_Mo_hints) 110 = .ok (.sipush 255, 3) := by decide +kernel
theorem d_Mo_hints_113 : decode (a_cc M_Mo_hints) 113 = .ok (.iand, 1) := by decide +kernel
theorem d_Mo_hints_114 : decode (a_cc M_Mo_hints) 114 = .ok (.if_icmp .gt 5, 3) := by decide +kernel
theorem d_Mo_hints_117 : decode (a_cc M_Mo_hints) 117 = .ok (.iconst 0, 1) := by decide +kernel
theorem d_Mo_hints_118 : decode (a_cc M_Mo_hints) 118 = .ok (.ireturn, 1) := by decide +kernel
theorem d_Mo_hints_119 : decode (a_cc M_Mo_hints) 119 = .ok (.aload_n 0, 1) := by decide +kernel
theorem d_Mo_hints_120 : decode (a_cc M_Mo_hints) 120 = .ok (.getfield 81, 3) := by decide +kernel
theorem d_Mo_hints_123 : decode (a_cc M_Mo_hints) 123 = .ok (.iload 4, 2) := by decide +kernel
theorem d_Mo_hints_125 : decode (a_cc M_Mo_hints) 125 = .ok (.aaload, 1) := by decide +kernel
theorem d_Mo_hints_126 : decode (a_cc M_Mo_hints) 126 = .ok (.aload_n 1, 1) := by decide +kernel
theorem d_Mo_hints_127 : decode (a_cc M_Mo_hints) 127 = .ok (.iload_n 2, 1) := by decide +kernel
theorem d_Mo_hints_128 : decode (a_cc M_Mo_hints) 128 = .ok (.iload 6, 2) := by decide +kernel
theorem d_Mo_hints_130 : decode (a_cc M_Mo_hints) 130 = .ok (.iadd, 1) := by decide +kernel
theorem d_Mo_hints_131 : decode (a_cc M_Mo_hints) 131 = .ok (.baload, 1) := by decide +kernel
theorem d_Mo_hints_132 : decode (a_cc M_Mo_hints) 132 = .ok (.sipush 255, 3) := by decide +kernel
theorem d_Mo_hints_135 : decode (a_cc M_Mo_hints) 135 = .ok (.iand, 1) := by decide +kernel
theorem d_Mo_hints_136 : decode (a_cc M_Mo_hints) 136 = .ok (.iconst 1, 1) := by decide +kernel
theorem d_Mo_hints_137 : decode (a_cc M_Mo_hints) 137 = .ok (.bastore, 1) := by decide +kernel
theorem d_Mo_hints_138 : decode (a_cc M_Mo_hints) 138 = .ok (.iinc 6 1, 3) := by decide +kernel
theorem d_Mo_hints_141 : decode (a_cc M_Mo_hints) 141 = .ok (.goto (-62), 3) := by decide +kernel
theorem d_Mo_hints_144 : decode (a_cc M_Mo_hints) 144 = .ok (.iload 5, 2) := by decide +kernel
theorem d_Mo_hints_146 : decode (a_cc M_Mo_hints) 146 = .ok (.istore_n 3, 1) := by decide +kernel
theorem d_Mo_hints_147 : decode (a_cc M_Mo_hints) 147 = .ok (.iinc 4 1, 3) := by decide +kernel
theorem d_Mo_hints_150 : decode (a_cc M_Mo_hints) 150 = .ok (.goto (-145), 3) := by decide +kernel
theorem d_Mo_hints_153 : decode (a_cc M_Mo_hints) 153 = .ok (.iload_n 3, 1) := by decide +kernel
theorem d_Mo_hints_154 : decode (a_cc M_Mo_hints) 154 = .ok (.istore 4, 2) := by decide +kernel
theorem d_Mo_hints_156 : decode (a_cc M_Mo_hints) 156 = .ok (.iload 4, 2) := by decide +kernel
theorem d_Mo_hints_158 : decode (a_cc M_Mo_hints) 158 = .ok (.aload_n 0, 1) := by decide +kernel
theorem d_Mo_hints_159 : decode (a_cc M_Mo_hints) 159 = .ok (.getfield 245, 3) := by decide +kernel
theorem d_Mo_hints_162 : decode (a_cc M_Mo_hints) 162 = .ok (.if_icmp .ge 20, 3) := by decide +kernel
theorem d_Mo_hints_165 : decode (a_cc M_Mo_hints) 165 = .ok (.aload_n 1, 1) := by decide +kernel
theorem d_Mo_hints_166 : decode (a_cc M_Mo_hints) 166 = .ok (.iload_n 2, 1) := by decide +kernel
theorem d_Mo_hints_167 : decode (a_cc M_Mo_hints) 167 = .ok (.iload 4, 2) := by decide +kernel
theorem d_Mo_hints_169 : decode (a_cc M_Mo_hints) 169 = .ok (.iadd, 1) := by decide +kernel
theorem d_Mo_hints_170 : decode (a_cc M_Mo_hints) 170 = .ok (.baload, 1) := by decide +kernel
theorem d_Mo_hints_171 : decode (a_cc M_Mo_hints) 171 = .ok (.ifCond .eq 5, 3) := by decide +kernel
theorem d_Mo_hints_174 : decode (a_cc M_Mo_hints) 174 = .ok (.iconst 0, 1) := by decide +kernel
theorem d_Mo_hints_175 : decode (a_cc M_Mo_hints) 175 = .ok (.ireturn, 1) := by decide +kernel
theorem d_Mo_hints_176 : decode (a_cc M_Mo_hints) 176 = .ok (.iinc 4 1, 3) := by decide +kernel
theorem d_Mo_hints_179 : decode (a_cc M_Mo_hints) 179 = .ok (.goto (-23), 3) := by decide +kernel
theorem d_Mo_hints_182 : decode (a_cc M_Mo_hints) 182 = .ok (.iconst 1, 1) := by decide +kernel
theorem d_Mo_hints_183 : decode (a_cc M_Mo_hints) 183 = .ok (.ireturn, 1) := by decide +kernel
def M_Mo_alike : a_M := (⟨"ModuleSignerModel", "alike", "([BI[BII)Z"⟩, prog_12_method_15_code, 7, some .boolean, "ModuleSignerModel", 0, 0, [])
theorem ok_Mo_alike : a_Ok M_Mo_alike := ⟨rfl, by decide +kernel, ⟨by decide, by decide⟩, List.mem_append_right _ (List.mem_of_getElem? (i := 11) (by decide +kernel)), Or.inl ⟨rfl, List.mem_append_right _ (List.mem_of_getElem? (i := 1426) (by decide +kernel))⟩⟩
theorem d_Mo_alike_0 : decode (a_cc M_Mo_alike) 0 = .ok (.iconst 1, 1) := by decide +kernel
theorem d_Mo_alike_1 : decode (a_cc M_Mo_alike) 1 = .ok (.istore 5, 2) := by decide +kernel
theorem d_Mo_alike_3 : decode (a_cc M_Mo_alike) 3 = .ok (.iconst 0, 1) := by decide +kernel
theorem d_Mo_alike_4 : decode (a_cc M_Mo_alike) 4 = .ok (.istore 6, 2) := by decide +kernel
theorem d_Mo_alike_6 : decode (a_cc M_Mo_alike) 6 = .ok (.iload 6, 2) := by decide +kernel
theorem d_Mo_alike_8 : decode (a_cc M_Mo_alike) 8 = .ok (.iload 4, 2) := by decide +kernel
theorem d_Mo_alike_10 : decode (a_cc M_Mo_alike) 10 = .ok (.if_icmp .ge 27, 3) := by decide +kernel
theorem d_Mo_alike_13 : decode (a_cc M_Mo_alike) 13 = .ok (.aload_n 0, 1) := by decide +kernel
theorem d_Mo_alike_14 : decode (a_cc M_Mo_alike) 14 = .ok (.iload_n 1, 1) := by decide +kernel
theorem d_Mo_alike_15 : decode (a_cc M_Mo_alike) 15 = .ok (.iload 6, 2) := by decide +kernel
theorem d_Mo_alike_17 : decode (a_cc M_Mo_alike) 17 = .ok (.iadd, 1) := by decide +kernel
theorem d_Mo_alike_18 : decode (a_cc M_Mo_alike) 18 = .ok (.baload, 1) := by decide +kernel
theorem d_Mo_alike_19 : decode (a_cc M_Mo_alike) 19 = .ok (.aload_n 2, 1) := by decide +kernel
theorem d_Mo_alike_20 : decode (a_cc M_Mo_alike) 20 = .ok (.iload_n 3, 1) := by decide +kernel
theorem d_Mo_alike_21 : decode (a_cc M_Mo_alike) 21 = .ok (.iload 6, 2) := by decide +kernel
theorem d_Mo_alike_23 : decode (a_cc M_Mo_alike) 23 = .ok (.iadd, 1) := by decide +kernel
theorem d_Mo_alike_24 : decode (a_cc M_Mo_alike) 24 = .ok (.baload, 1) := by decide +kernel
theorem d_Mo_alike_25 : decode (a_cc M_Mo_alike) 25 = .ok (.if_icmp .eq 6, 3) := by decide +kernel
theorem d_Mo_alike_28 : decode (a_cc M_Mo_alike) 28 = .ok (.iconst 0, 1) := by decide +kernel
theorem d_Mo_alike_29 : decode (a_cc M_Mo_alike) 29 = .ok (.istore 5, 2) := by decide +kernel
theorem d_Mo_alike_31 : decode (a_cc M_Mo_alike) 31 = .ok (.iinc 6 1, 3) := by decide +kernel
theorem d_Mo_alike_34 : decode (a_cc M_Mo_alike) 34 = .ok (.goto (-28), 3) := by decide +kernel
theorem d_Mo_alike_37 : decode (a_cc M_Mo_alike) 37 = .ok (.iload 5, 2) := by decide +kernel
theorem d_Mo_alike_39 : decode (a_cc M_Mo_alike) 39 = .ok (.ireturn, 1) := by decide +kernel
def M_Mo_dsaVerify : a_M := (⟨"ModuleSignerModel", "dsaVerify", "(II)Z"⟩, prog_12_method_68_code, 9, some .boolean, "ModuleSignerModel", 7, 125, [])
theorem ok_Mo_dsaVerify : a_Ok M_Mo_dsaVerify := ⟨rfl, by decide +kernel, ⟨by decide, by decide⟩, List.mem_append_right _ (List.mem_of_getElem? (i := 11) (by decide +kernel)), Or.inl ⟨rfl, List.mem_append_right _ (List.mem_of_getElem? (i := 1418) (by decide +kernel))⟩⟩
theorem d_Mo_dsaVerify_0 : decode (a_cc M_Mo_dsaVerify) 0 = .ok (.aload_n 0, 1) := by decide +kernel
theorem d_Mo_dsaVerify_1 : decode (a_cc M_Mo_dsaVerify) 1 = .ok (.iload_n 1, 1) := by decide +kernel
theorem d_Mo_dsaVerify_2 : decode (a_cc M_Mo_dsaVerify) 2 = .ok (.iconst 0, 1) := by decide +kernel
theorem d_Mo_dsaVerify_3 : decode (a_cc M_Mo_dsaVerify) 3 = .ok (.iconst 2, 1) := by decide +kernel
theorem d_Mo_dsaVerify_4 : decode (a_cc M_Mo_dsaVerify) 4 = .ok (.invokestatic 120, 3) := by decide +kernel
theorem d_Mo_dsaVerify_7 : decode (a_cc M_Mo_dsaVerify) 7 = .ok (.ifCond .eq 16, 3) := by decide +kernel
theorem d_Mo_dsaVerify_10 : decode (a_cc M_Mo_dsaVerify) 10 = .ok (.iload_n 2, 1) := by decide +kernel
theorem d_Mo_dsaVerify_11 : decode (a_cc M_Mo_dsaVerify) 11 = .ok (.iconst (-1), 1) := by decide +kernel
theorem d_Mo_dsaVerify_12 : decode (a_cc M_Mo_dsaVerify) 12 = .ok (.iconst 0, 1) := by decide +kernel
theorem d_Mo_dsaVerify_13 : decode (a_cc M_Mo_dsaVerify) 13 = .ok (.invokestatic 120, 3) := by decide +kernel
theorem d_Mo_dsaVerify_16 : decode (a_cc M_Mo_dsaVerify) 16 = .ok (.ifCond .eq 7, 3) := by decide +kernel
theorem d_Mo_dsaVerify_19 : decode (a_cc M_Mo_dsaVerify) 19 = .ok (.iconst 1, 1) := by decide +kernel
theorem d_Mo_dsaVerify_20 : decode (a_cc M_Mo_dsaVerify) 20 = .ok (.goto 4, 3) := by decide +kernel
theorem d_Mo_dsaVerify_23 : decode (a_cc M_Mo_dsaVerify) 23 = .ok (.iconst 0, 1) := by decide +kernel
theorem d_Mo_dsaVerify_24 : decode (a_cc M_Mo_dsaVerify) 24 = .ok (.iconst 1, 1) := by decide +kernel
theorem d_Mo_dsaVerify_25 : decode (a_cc M_Mo_dsaVerify) 25 = .ok (.invokevirtual 112, 3) := by decide +kernel
theorem d_Mo_dsaVerify_28 : decode (a_cc M_Mo_dsaVerify) 28 = .ok (.ifCond .ne 5, 3) := by decide +kernel
theorem d_Mo_dsaVerify_31 : decode (a_cc M_Mo_dsaVerify) 31 = .ok (.iconst 0, 1) := by decide +kernel
theorem d_Mo_dsaVerify_32 : decode (a_cc M_Mo_dsaVerify) 32 = .ok (.ireturn, 1) := by decide +kernel
theorem d_Mo_dsaVerify_33 : decode (a_cc M_Mo_dsaVerify) 33 = .ok (.aload_n 0, 1) := by decide +kernel
theorem d_Mo_dsaVerify_34 : decode (a_cc M_Mo_dsaVerify) 34 = .ok (.iload_n 1, 1) := by decide +kernel
theorem d_Mo_dsaVerify_35 : decode (a_cc M_Mo_dsaVerify) 35 = .ok (.invokevirtual 287, 3) := by decide +kernel
theorem d_Mo_dsaVerify_38 : decode (a_cc M_Mo_dsaVerify) 38 = .ok (.aload_n 0, 1) := by decide +kernel
theorem d_Mo_dsaVerify_39 : decode (a_cc M_Mo_dsaVerify) 39 = .ok (.aload_n 0, 1) := by decide +kernel
theorem d_Mo_dsaVerify_40 : decode (a_cc M_Mo_dsaVerify) 40 = .ok (.iload_n 2, 1) := by decide +kernel
theorem d_Mo_dsaVerify_41 : decode (a_cc M_Mo_dsaVerify) 41 = .ok (.invokevirtual 331, 3) := by decide +kernel
theorem d_Mo_dsaVerify_44 : decode (a_cc M_Mo_dsaVerify) 44 = .ok (.iconst 2, 1) := by decide +kernel
theorem d_Mo_dsaVerify_45 : decode (a_cc M_Mo_dsaVerify) 45 = .ok (.invokevirtual 112, 3) := by decide +kernel
theorem d_Mo_dsaVerify_48 : decode (a_cc M_Mo_dsaVerify) 48 = .ok (.ifCond .eq 36, 3) := by decide +kernel
theorem d_Mo_dsaVerify_51 : decode (a_cc M_Mo_dsaVerify) 51 = .ok (.aload_n 0, 1) := by decide +kernel
theorem d_Mo_dsaVerify_52 : decode (a_cc M_Mo_dsaVerify) 52 = .ok (.aload_n 0, 1) := by decide +kernel
theorem d_Mo_dsaVerify_53 : decode (a_cc M_Mo_dsaVerify) 53 = .ok (.getfield 18, 3) := by decide +kernel
theorem d_Mo_dsaVerify_56 : decode (a_cc M_Mo_dsaVerify) 56 = .ok (.iconst 1, 1) := by decide +kernel
theorem d_Mo_dsaVerify_57 : decode (a_cc M_Mo_dsaVerify) 57 = .ok (.iaload, 1) := by decide +kernel
theorem d_Mo_dsaVerify_58 : decode (a_cc M_Mo_dsaVerify) 58 = .ok (.bipush 32, 2) := by decide +kernel
theorem d_Mo_dsaVerify_60 : decode (a_cc M_Mo_dsaVerify) 60 = .ok (.sipush 320, 3) := by decide +kernel
theorem d_Mo_dsaVerify_63 : decode (a_cc M_Mo_dsaVerify) 63 = .ok (.aload_n 0, 1) := by decide +kernel
theorem d_Mo_dsaVerify_64 : decode (a_cc M_Mo_dsaVerify) 64 = .ok (.getfield 223, 3) := by decide +kernel
theorem d_Mo_dsaVerify_67 : decode (a_cc M_Mo_dsaVerify) 67 = .ok (.imul, 1) := by decide +kernel
theorem d_Mo_dsaVerify_68 : decode (a_cc M_Mo_dsaVerify) 68 = .ok (.iadd, 1) := by decide +kernel
theorem d_Mo_dsaVerify_69 : decode (a_cc M_Mo_dsaVerify) 69 = .ok (.if_icmp .ne 7, 3) := by decide +kernel
theorem d_Mo_dsaVerify_72 : decode (a_cc M_Mo_dsaVerify) 72 = .ok (.iconst 1, 1) := by decide +kernel
theorem d_Mo_dsaVerify_73 : decode (a_cc M_Mo_dsaVerify) 73 = .ok (.goto 4, 3) := by decide +kernel
theorem d_Mo_dsaVerify_76 : decode (a_cc M_Mo_dsaVerify) 76 = .ok (.iconst 0, 1) := by decide +kernel
theorem d_Mo_dsaVerify_77 : decode (a_cc M_Mo_dsaVerify) 77 = .ok (.iconst 3, 1) := by decide +kernel
theorem d_Mo_dsaVerify_78 : decode (a_cc M_Mo_dsaVerify) 78 = .ok (.invokevirtual 112, 3) := by decide +kernel
theorem d_Mo_dsaVerify_81 : decode (a_cc M_Mo_dsaVerify) 81 = .ok (.ifCond .ne 5, 3) := by decide +kernel
theorem d_Mo_dsaVerify_84 : decode (a_cc M_Mo_dsaVerify) 84 = .ok (.iconst 0, 1) := by decide +kernel
theorem d_Mo_dsaVerify_85 : decode (a_cc M_Mo_dsaVerify) 85 = .ok (.ireturn, 1) := by decide +kernel
theorem d_Mo_dsaVerify_86 : decode (a_cc M_Mo_dsaVerify) 86 = .ok (.aload_n 0, 1) := by decide +kernel
theorem d_Mo_dsaVerify_87 : decode (a_cc M_Mo_dsaVerify) 87 = .ok (.getfield 248, 3) := by decide +kernel
theorem d_Mo_dsaVerify_90 : decode (a_cc M_Mo_dsaVerify) 90 = .ok (.bipush 32, 2) := by decide +kernel
theorem d_Mo_dsaVerify_92 : decode (a_cc M_Mo_dsaVerify) 92 = .ok (.aload_n 0, 1) := by decide +kernel
theorem d_Mo_dsaVerify_93 : decode (a_cc M_Mo_dsaVerify) 93 = .ok (.getfield 226, 3) := by decide +kernel
theorem d_Mo_dsaVerify_96 : decode (a_cc M_Mo_dsaVerify) 96 = .ok (.imul, 1) := by decide +kernel
theorem d_Mo_dsaVerify_97 : decode (a_cc M_Mo_dsaVerify) 97 = .ok (.aload_n 0, 1) := by decide +kernel
theorem d_Mo_dsaVerify_98 : decode (a_cc M_Mo_dsaVerify) 98 = .ok (.getfield 251, 3) := by decide +kernel
theorem d_Mo_dsaVerify_101 : decode (a_cc M_Mo_dsaVerify) 101 = .ok (.imul, 1) := by decide +kernel
theorem d_Mo_dsaVerify_102 : decode (a_cc M_Mo_dsaVerify) 102 = .ok (.iadd, 1) := by decide +kernel
theorem d_Mo_dsaVerify_103 : decode (a_cc M_Mo_dsaVerify) 103 = .ok (.istore_n 3, 1) := by decide +kernel
theorem d_Mo_dsaVerify_104 : decode (a_cc M_Mo_dsaVerify) 104 = .ok (.aload_n 0, 1) := by decide +kernel
theorem d_Mo_dsaVerify_105 : decode (a_cc M_Mo_dsaVerify) 105 = .ok (.getfield 18, 3) := by decide +kernel
theorem d_Mo_dsaVerify_108 : decode (a_cc M_Mo_dsaVerify) 108 = .ok (.iconst 5, 1) := by decide +kernel
theorem d_Mo_dsaVerify_109 : decode (a_cc M_Mo_dsaVerify) 109 = .ok (.iaload, 1) := by decide +kernel
theorem d_Mo_dsaVerify_110 : decode (a_cc M_Mo_dsaVerify) 110 = .ok (.iload_n 3, 1) := by decide +kernel
theorem d_Mo_dsaVerify_111 : decode (a_cc M_Mo_dsaVerify) 111 = .ok (.aload_n 0, 1) := by decide +kernel
theorem d_Mo_dsaVerify_112 : decode (a_cc M_Mo_dsaVerify) 112 = .ok (.getfield 245, 3) := by decide +kernel
theorem d_Mo_dsaVerify_115 : decode (a_cc M_Mo_dsaVerify) 115 = .ok (.iadd, 1) := by decide +kernel
theorem d_Mo_dsaVerify_116 : decode (a_cc M_Mo_dsaVerify) 116 = .ok (.aload_n 0, 1) := by decide +kernel
theorem d_Mo_dsaVerify_117 : decode (a_cc M_Mo_dsaVerify) 117 = .ok (.getfield 223, 3) := by decide +kernel
theorem d_Mo_dsaVerify_120 : decode (a_cc M_Mo_dsaVerify) 120 = .ok (.iadd, 1) := by decide +kernel
theorem d_Mo_dsaVerify_121 : decode (a_cc M_Mo_dsaVerify) 121 = .ok (.if_icmp .ne 17, 3) := by decide +kernel
theorem d_Mo_dsaVerify_124 : decode (a_cc M_Mo_dsaVerify) 124 = .ok (.aload_n 0, 1) := by decide +kernel
theorem d_Mo_dsaVerify_125 : decode (a_cc M_Mo_dsaVerify) 125 = .ok (.aload_n 0, 1) := by decide +kernel
theorem d_Mo_dsaVerify_126 : decode (a_cc M_Mo_dsaVerify) 126 = .ok (.getfield 15, 3) := by decide +kernel
theorem d_Mo_dsaVerify_129 : decode (a_cc M_Mo_dsaVerify) 129 = .ok (.iconst 5, 1) := by decide +kernel
theorem d_Mo_dsaVerify_130 : decode (a_cc M_Mo_dsaVerify) 130 = .ok (.aaload, 1) := by decide +kernel
theorem d_Mo_dsaVerify_131 : decode (a_cc M_Mo_dsaVerify) 131 = .ok (.iload_n 3, 1) := by decide +kernel
theorem d_Mo_dsaVerify_132 : decode (a_cc M_Mo_dsaVerify) 132 = .ok (.invokevirtual 360, 3) := by decide +kernel
theorem d_Mo_dsaVerify_135 : decode (a_cc M_Mo_dsaVerify) 135 = .ok (.ifCond .ne 5, 3) := by decide +kernel
theorem d_Mo_dsaVerify_138 : decode (a_cc M_Mo_dsaVerify) 138 = .ok (.iconst 0, 1) := by decide +kernel
theorem d_Mo_dsaVerify_139 : decode (a_cc M_Mo_dsaVerify) 139 = .ok (.ireturn, 1) := by decide +kernel
theorem d_Mo_dsaVerify_140 : decode (a_cc M_Mo_dsaVerify) 140 = .ok (.aload_n 0, 1) := by decide +kernel
theorem d_Mo_dsaVerify_141 : decode (a_cc M_Mo_dsaVerify) 141 = .ok (.iconst 0, 1) := by decide +kernel
theorem d_Mo_dsaVerify_142 : decode (a_cc M_Mo_dsaVerify) 142 = .ok (.putfield 216, 3) := by decide +kernel
theorem d_Mo_dsaVerify_145 : decode (a_cc M_Mo_dsaVerify) 145 = .ok (.iconst 0, 1) := by decide +kernel
theorem d_Mo_dsaVerify_146 : decode (a_cc M_Mo_dsaVerify) 146 = .ok (.istore 4, 2) := by decide +kernel
theorem d_Mo_dsaVerify_148 : decode (a_cc M_Mo_dsaVerify) 148 = .ok (.iload 4, 2) := by decide +kernel
theorem d_Mo_dsaVerify_150 : decode (a_cc M_Mo_dsaVerify) 150 = .ok (.aload_n 0, 1) := by decide +kernel
theorem d_Mo_dsaVerify_151 : decode (a_cc M_Mo_dsaVerify) 151 = .ok (.getfield 226, 3) := by decide +kernel
theorem d_Mo_dsaVerify_154 : decode (a_cc M_Mo_dsaVerify) 154 = .ok (.if_icmp .ge 111, 3) := by decide +kernel
theorem d_Mo_dsaVerify_157 : decode (a_cc M_Mo_dsaVerify) 157 = .ok (.aload_n 0, 1) := by decide +kernel
theorem d_Mo_dsaVerify_158 : decode (a_cc M_Mo_dsaVerify) 158 = .ok (.aload_n 0, 1) := by decide +kernel
theorem d_Mo_dsaVerify_159 : decode (a_cc M_Mo_dsaVerify) 159 = .ok (.getfield 15, 3) := by decide +kernel
theorem d_Mo_dsaVerify_162 : decode (a_cc M_Mo_dsaVerify) 162 = .ok (.iconst 5, 1) := by decide +kernel
theorem d_Mo_dsaVerify_163 : decode (a_cc M_Mo_dsaVerify) 163 = .ok (.aaload, 1) := by decide +kernel
theorem d_Mo_dsaVerify_164 : decode (a_cc M_Mo_dsaVerify) 164 = .ok (.aload_n 0, 1) := by decide +kernel
theorem d_Mo_dsaVerify_165 : decode (a_cc M_Mo_dsaVerify) 165 = .ok (.getfield 248, 3) := by decide +kernel
theorem d_Mo_dsaVerify_168 : decode (a_cc M_Mo_dsaVerify) 168 = .ok (.aload_n 0, 1) := by decide +kernel
theorem d_Mo_dsaVerify_169 : decode (a_cc M_Mo_dsaVerify) 169 = .ok (.getfield 76, 3) := by decide +kernel
theorem d_Mo_dsaVerify_172 : decode (a_cc M_Mo_dsaVerify) 172 = .ok (.iload 4, 2) := by decide +kernel
theorem d_Mo_dsaVerify_174 : decode (a_cc M_Mo_dsaVerify) 174 = .ok (.aaload, 1) := by decide +kernel
theorem d_Mo_dsaVerify_175 : decode (a_cc M_Mo_dsaVerify) 175 = .ok (.aload_n 0, 1) := by decide +kernel
theorem d_Mo_dsaVerify_176 : decode (a_cc M_Mo_dsaVerify) 176 = .ok (.getfield 237, 3) := by decide +kernel
theorem d_Mo_dsaVerify_179 : decode (a_cc M_Mo_dsaVerify) 179 = .ok (.aload_n 0, 1) := by decide +kernel
theorem d_Mo_dsaVerify_180 : decode (a_cc M_Mo_dsaVerify) 180 = .ok (.getfield 251, 3) := by decide +kernel
theorem d_Mo_dsaVerify_183 : decode (a_cc M_Mo_dsaVerify) 183 = .ok (.invokevirtual 337, 3) := by decide +kernel
theorem d_Mo_dsaVerify_186 : decode (a_cc M_Mo_dsaVerify) 186 = .ok (.iconst 0, 1) := by decide +kernel
theorem d_Mo_dsaVerify_187 : decode (a_cc M_Mo_dsaVerify) 187 = .ok (.istore 5, 2) := by decide +kernel
theorem d_Mo_dsaVerify_189 : decode (a_cc M_Mo_dsaVerify) 189 = .ok (.iload 5, 2) := by decide +kernel
theorem d_Mo_dsaVerify_191 : decode (a_cc M_Mo_dsaVerify) 191 = .ok (.sipush 256, 3) := by decide +kernel
theorem d_Mo_dsaVerify_194 : decode (a_cc M_Mo_dsaVerify) 194 = .ok (.if_icmp .ge 65, 3) := by decide +kernel
theorem d_Mo_dsaVerify_197 : decode (a_cc M_Mo_dsaVerify) 197 = .ok (.aload_n 0, 1) := by decide +kernel
theorem d_Mo_dsaVerify_198 : decode (a_cc M_Mo_dsaVerify) 198 = .ok (.getfield 76, 3) := by decide +kernel
theorem d_Mo_dsaVerify_201 : decode (a_cc M_Mo_dsaVerify) 201 = .ok (.iload 4, 2) := by decide +kernel
theorem d_Mo_dsaVerify_203 : decode (a_cc M_Mo_dsaVerify) 203 = .ok (.aaload, 1) := by decide +kernel
theorem d_Mo_dsaVerify_204 : decode (a_cc M_Mo_dsaVerify) 204 = .ok (.iload 5, 2) := by decide +kernel
theorem d_Mo_dsaVerify_206 : decode (a_cc M_Mo_dsaVerify) 206 = .ok (.iaload, 1) := by decide +kernel
theorem d_Mo_dsaVerify_207 : decode (a_cc M_Mo_dsaVerify) 207 = .ok (.aload_n 0, 1) := by decide +kernel
theorem d_Mo_dsaVerify_208 : decode (a_cc M_Mo_dsaVerify) 208 = .ok (.getfield 237, 3) := by decide +kernel
theorem d_Mo_dsaVerify_211 : decode (a_cc M_Mo_dsaVerify) 211 = .ok (.aload_n 0, 1) := by decide +kernel
theorem d_Mo_dsaVerify_212 : decode (a_cc M_Mo_dsaVerify) 212 = .ok (.getfield 232, 3) := by decide +kernel
theorem d_Mo_dsaVerify_215 : decode (a_cc M_Mo_dsaVerify) 215 = .ok (.aload_n 0, 1) := by decide +kernel
theorem d_Mo_dsaVerify_216 : decode (a_cc M_Mo_dsaVerify) 216 = .ok (.getfield 229, 3) := by decide +kernel
theorem d_Mo_dsaVerify_219 : decode (a_cc M_Mo_dsaVerify) 219 = .ok (.imul, 1) := by decide +kernel
theorem d_Mo_dsaVerify_220 : decode (a_cc M_Mo_dsaVerify) 220 = .ok (.isub, 1) := by decide +kernel
theorem d_Mo_dsaVerify_221 : decode (a_cc M_Mo_dsaVerify) 221 = .ok (.if_icmp .ge 30, 3) := by decide +kernel
theorem d_Mo_dsaVerify_224 : decode (a_cc M_Mo_dsaVerify) 224 = .ok (.aload_n 0, 1) := by decide +kernel
theorem d_Mo_dsaVerify_225 : decode (a_cc M_Mo_dsaVerify) 225 = .ok (.getfield 76, 3) := by decide +kernel
theorem d_Mo_dsaVerify_228 : decode (a_cc M_Mo_dsaVerify) 228 = .ok (.iload 4, 2) := by decide +kernel
theorem d_Mo_dsaVerify_230 : decode (a_cc M_Mo_dsaVerify) 230 = .ok (.aaload, 1) := by decide +kernel
theorem d_Mo_dsaVerify_231 : decode (a_cc M_Mo_dsaVerify) 231 = .ok (.iload 5, 2) := by decide +kernel
theorem d_Mo_dsaVerify_233 : decode (a_cc M_Mo_dsaVerify) 233 = .ok (.iaload, 1) := by decide +kernel
theorem d_Mo_dsaVerify_234 : decode (a_cc M_Mo_dsaVerify) 234 = .ok (.aload_n 0, 1) := by decide +kernel
theorem d_Mo_dsaVerify_235 : decode (a_cc M_Mo_dsaVerify) 235 = .ok (.getfield 232, 3) := by decide +kernel
theorem d_Mo_dsaVerify_238 : decode (a_cc M_Mo_dsaVerify) 238 = .ok (.aload_n 0, 1) := by decide +kernel
theorem d_Mo_dsaVerify_239 : decode (a_cc M_Mo_dsaVerify) 239 = .ok (.getfield 229, 3) := by decide +kernel
theorem d_Mo_dsaVerify_242 : decode (a_cc M_Mo_dsaVerify) 242 = .ok (.imul, 1) := by decide +kernel
theorem d_Mo_dsaVerify_243 : decode (a_cc M_Mo_dsaVerify) 243 = .ok (.aload_n 0, 1) := by decide +kernel
theorem d_Mo_dsaVerify_244 : decode (a_cc M_Mo_dsaVerify) 244 = .ok (.getfield 237, 3) := by decide +kernel
theorem d_Mo_dsaVerify_247 : decode (a_cc M_Mo_dsaVerify) 247 = .ok (.isub, 1) := by decide +kernel
theorem d_Mo_dsaVerify_248 : decode (a_cc M_Mo_dsaVerify) 248 = .ok (.if_icmp .gt 5, 3) := by decide +kernel
theorem d_Mo_dsaVerify_251 : decode (a_cc M_Mo_dsaVerify) 251 = .ok (.iconst 0, 1) := by decide +kernel
theorem d_Mo_dsaVerify_252 : decode (a_cc M_Mo_dsaVerify) 252 = .ok (.ireturn, 1) := by decide +kernel
theorem d_Mo_dsaVerify_253 : decode (a_cc M_Mo_dsaVerify) 253 = .ok (.iinc 5 1, 3) := by decide +kernel
theorem d_Mo_dsaVerify_256 : decode (a_cc M_Mo_dsaVerify) 256 = .ok (.goto (-67), 3) := by decide +kernel
theorem d_Mo_dsaVerify_259 : decode (a_cc M_Mo_dsaVerify) 259 = .ok (.iinc 4 1, 3) := by decide +kernel
theorem d_Mo_dsaVerify_262 : decode (a_cc M_Mo_dsaVerify) 262 = .ok (.goto (-114), 3) := by decide +kernel
theorem d_Mo_dsaVerify_265 : decode (a_cc M_Mo_dsaVerify) 265 = .ok (.aload_n 0, 1) := by decide +kernel
theorem d_Mo_dsaVerify_266 : decode (a_cc M_Mo_dsaVerify) 266 = .ok (.bipush 12, 2) := by decide +kernel
theorem d_Mo_dsaVerify_268 : decode (a_cc M_Mo_dsaVerify) 268 = .ok (.invokevirtual 148, 3) := by decide +kernel
theorem d_Mo_dsaVerify_271 : decode (a_cc M_Mo_dsaVerify) 271 = .ok (.aload_n 0, 1) := by decide +kernel
theorem d_Mo_dsaVerify_272 : decode (a_cc M_Mo_dsaVerify) 272 = .ok (.aload_n 0, 1) := by decide +kernel
theorem d_Mo_dsaVerify_273 : decode (a_cc M_Mo_dsaVerify) 273 = .ok (.getfield 15, 3) := by decide +kernel
theorem d_Mo_dsaVerify_276 : decode (a_cc M_Mo_dsaVerify) 276 = .ok (.iconst 1, 1) := by decide +kernel
theorem d_Mo_dsaVerify_277 : decode (a_cc M_Mo_dsaVerify) 277 = .ok (.aaload, 1) := by decide +kernel
theorem d_Mo_dsaVerify_278 : decode (a_cc M_Mo_dsaVerify) 278 = .ok (.iconst 0, 1) := by decide +kernel
theorem d_Mo_dsaVerify_279 : decode (a_cc M_Mo_dsaVerify) 279 = .ok (.aload_n 0, 1) := by decide +kernel
theorem d_Mo_dsaVerify_280 : decode (a_cc M_Mo_dsaVerify) 280 = .ok (.getfield 18, 3) := by decide +kernel
theorem d_Mo_dsaVerify_283 : decode (a_cc M_Mo_dsaVerify) 283 = .ok (.iconst 1, 1) := by decide +kernel
theorem d_Mo_dsaVerify_284 : decode (a_cc M_Mo_dsaVerify) 284 = .ok (.iaload, 1) := by decide +kernel
theorem d_Mo_dsaVerify_285 : decode (a_cc M_Mo_dsaVerify) 285 = .ok (.invokevirtual 268, 3) := by decide +kernel
theorem d_Mo_dsaVerify_288 : decode (a_cc M_Mo_dsaVerify) 288 = .ok (.aload_n 0, 1) := by decide +kernel
theorem d_Mo_dsaVerify_289 : decode (a_cc M_Mo_dsaVerify) 289 = .ok (.aload_n 0, 1) := by decide +kernel
theorem d_Mo_dsaVerify_290 : decode (a_cc M_Mo_dsaVerify) 290 = .ok (.getfield 96, 3) := by decide +kernel
theorem d_Mo_dsaVerify_293 : decode (a_cc M_Mo_dsaVerify) 293 = .ok (.iconst 0, 1) := by decide +kernel
theorem d_Mo_dsaVerify_294 : decode (a_cc M_Mo_dsaVerify) 294 = .ok (.bipush 64, 2) := by decide +kernel
theorem d_Mo_dsaVerify_296 : decode (a_cc M_Mo_dsaVerify) 296 = .ok (.invokevirtual 290, 3) := by decide +kernel
theorem d_Mo_dsaVerify_299 : decode (a_cc M_Mo_dsaVerify) 299 = .ok (.aload_n 0, 1) := by decide +kernel
theorem d_Mo_dsaVerify_300 : decode (a_cc M_Mo_dsaVerify) 300 = .ok (.aload_n 0, 1) := by decide +kernel
theorem d_Mo_dsaVerify_301 : decode (a_cc M_Mo_dsaVerify) 301 = .ok (.getfield 96, 3) := by decide +kernel
theorem d_Mo_dsaVerify_304 : decode (a_cc M_Mo_dsaVerify) 304 = .ok (.iconst 0, 1) := by decide +kernel
theorem d_Mo_dsaVerify_305 : decode (a_cc M_Mo_dsaVerify) 305 = .ok (.iload_n 2, 1) := by decide +kernel
theorem d_Mo_dsaVerify_306 : decode (a_cc M_Mo_dsaVerify) 306 = .ok (.invokevirtual 334, 3) := by decide +kernel
theorem d_Mo_dsaVerify_309 : decode (a_cc M_Mo_dsaVerify) 309 = .ok (.aload_n 0, 1) := by decide +kernel
theorem d_Mo_dsaVerify_310 : decode (a_cc M_Mo_dsaVerify) 310 = .ok (.aload_n 0, 1) := by decide +kernel
theorem d_Mo_dsaVerify_311 : decode (a_cc M_Mo_dsaVerify) 311 = .ok (.aload_n 0, 1) := by decide +kernel
theorem d_Mo_dsaVerify_312 : decode (a_cc M_Mo_dsaVerify) 312 = .ok (.getfield 76, 3) := by decide +kernel
theorem d_Mo_dsaVerify_315 : decode (a_cc M_Mo_dsaVerify) 315 = .ok (.bipush 46, 2) := by decide +kernel
theorem d_Mo_dsaVerify_317 : decode (a_cc M_Mo_dsaVerify) 317 = .ok (.aaload, 1) := by decide +kernel
theorem d_Mo_dsaVerify_318 : decode (a_cc M_Mo_dsaVerify) 318 = .ok (.aload_n 0, 1) := by decide +kernel
theorem d_Mo_dsaVerify_319 : decode (a_cc M_Mo_dsaVerify) 319 = .ok (.getfield 15, 3) := by decide +kernel
theorem d_Mo_dsaVerify_322 : decode (a_cc M_Mo_dsaVerify) 322 = .ok (.iconst 5, 1) := by decide +kernel
theorem d_Mo_dsaVerify_323 : decode (a_cc M_Mo_dsaVerify) 323 = .ok (.aaload, 1) := by decide +kernel
theorem d_Mo_dsaVerify_324 : decode (a_cc M_Mo_dsaVerify) 324 = .ok (.iconst 0, 1) := by decide +kernel
theorem d_Mo_dsaVerify_325 : decode (a_cc M_Mo_dsaVerify) 325 = .ok (.invokevirtual 350, 3) := by decide +kernel
theorem d_Mo_dsaVerify_328 : decode (a_cc M_Mo_dsaVerify) 328 = .ok (.iconst 4, 1) := by decide +kernel
theorem d_Mo_dsaVerify_329 : decode (a_cc M_Mo_dsaVerify) 329 = .ok (.invokevirtual 112, 3) := by decide +kernel
theorem d_Mo_dsaVerify_332 : decode (a_cc M_Mo_dsaVerify) 332 = .ok (.ifCond .ne 5, 3) := by decide +kernel
theorem d_Mo_dsaVerify_335 : decode (a_cc M_Mo_dsaVerify) 335 = .ok (.iconst 0, 1) := by decide +kernel
theorem d_Mo_dsaVerify_336 : decode (a_cc M_Mo_dsaVerify) 336 = .ok (.ireturn, 1) := by decide +kernel
theorem d_Mo_dsaVerify_337 : decode (a_cc M_Mo_dsaVerify) 337 = .ok (.aload_n 0, 1) := by decide +kernel
theorem d_Mo_dsaVerify_338 : decode (a_cc M_Mo_dsaVerify) 338 = .ok (.getfield 76, 3) := by decide +kernel
theorem d_Mo_dsaVerify_341 : decode (a_cc M_Mo_dsaVerify) 341 = .ok (.bipush 46, 2) := by decide +kernel
theorem d_Mo_dsaVerify_343 : decode (a_cc M_Mo_dsaVerify) 343 = .ok (.aaload, 1) := by decide +kernel
theorem d_Mo_dsaVerify_344 : decode (a_cc M_Mo_dsaVerify) 344 = .ok (.invokestatic 301, 3) := by decide +kernel
theorem d_Mo_dsaVerify_347 : decode (a_cc M_Mo_dsaVerify) 347 = .ok (.aload_n 0, 1) := by decide +kernel
theorem d_Mo_dsaVerify_348 : decode (a_cc M_Mo_dsaVerify) 348 = .ok (.aload_n 0, 1) := by decide +kernel
theorem d_Mo_dsaVerify_349 : decode (a_cc M_Mo_dsaVerify) 349 = .ok (.getfield 76, 3) := by decide +kernel
theorem d_Mo_dsaVerify_352 : decode (a_cc M_Mo_dsaVerify) 352 = .ok (.bipush 46, 2) := by decide +kernel
theorem d_Mo_dsaVerify_354 : decode (a_cc M_Mo_dsaVerify) 354 = .ok (.aaload, 1) := by decide +kernel
theorem d_Mo_dsaVerify_355 : decode (a_cc M_Mo_dsaVerify) 355 = .ok (.invokevirtual 304, 3) := by decide +kernel
theorem d_Mo_dsaVerify_358 : decode (a_cc M_Mo_dsaVerify) 358 = .ok (.iconst 0, 1) := by decide +kernel
theorem d_Mo_dsaVerify_359 : decode (a_cc M_Mo_dsaVerify) 359 = .ok (.istore 4, 2) := by decide +kernel
theorem d_Mo_dsaVerify_361 : decode (a_cc M_Mo_dsaVerify) 361 = .ok (.iload 4, 2) := by decide +kernel
theorem d_Mo_dsaVerify_363 : decode (a_cc M_Mo_dsaVerify) 363 = .ok (.aload_n 0, 1) := by decide +kernel
theorem d_Mo_dsaVerify_364 : decode (a_cc M_Mo_dsaVerify) 364 = .ok (.getfield 226, 3) := by decide +kernel
theorem d_Mo_dsaVerify_367 : decode (a_cc M_Mo_dsaVerify) 367 = .ok (.if_icmp .ge 30, 3) := by decide +kernel
theorem d_Mo_dsaVerify_370 : decode (a_cc M_Mo_dsaVerify) 370 = .ok (.aload_n 0, 1) := by decide +kernel
theorem d_Mo_dsaVerify_371 : decode (a_cc M_Mo_dsaVerify) 371 = .ok (.getfield 76, 3) := by decide +kernel
theorem d_Mo_dsaVerify_374 : decode (a_cc M_Mo_dsaVerify) 374 = .ok (.iload 4, 2) := by decide +kernel
theorem d_Mo_dsaVerify_376 : decode (a_cc M_Mo_dsaVerify) 376 = .ok (.aaload, 1) := by decide +kernel
theorem d_Mo_dsaVerify_377 : decode (a_cc M_Mo_dsaVerify) 377 = .ok (.invokestatic 301, 3) := by decide +kernel
theorem d_Mo_dsaVerify_380 : decode (a_cc M_Mo_dsaVerify) 380 = .ok (.aload_n 0, 1) := by decide +kernel
theorem d_Mo_dsaVerify_381 : decode (a_cc M_Mo_dsaVerify) 381 = .ok (.aload_n 0, 1) := by decide +kernel
theorem d_Mo_dsaVerify_382 : decode (a_cc M_Mo_dsaVerify) 382 = .ok (.getfield 76, 3) := by decide +kernel
theorem d_Mo_dsaVerify_385 : decode (a_cc M_Mo_dsaVerify) 385 = .ok (.iload 4, 2) := by decide +kernel
theorem d_Mo_dsaVerify_387 : decode (a_cc M_Mo_dsaVerify) 387 = .ok (.aaload, 1) := by decide +kernel
theorem d_Mo_dsaVerify_388 : decode (a_cc M_Mo_dsaVerify) 388 = .ok (.invokevirtual 304, 3) := by decide +kernel
theorem d_Mo_dsaVerify_391 : decode (a_cc M_Mo_dsaVerify) 391 = .ok (.iinc 4 1, 3) := by decide +kernel
theorem d_Mo_dsaVerify_394 : decode (a_cc M_Mo_dsaVerify) 394 = .ok (.goto (-33), 3) := by decide +kernel
theorem d_Mo_dsaVerify_397 : decode (a_cc M_Mo_dsaVerify) 397 = .ok (.aload_n 0, 1) := by decide +kernel
theorem d_Mo_dsaVerify_398 : decode (a_cc M_Mo_dsaVerify) 398 = .ok (.iconst 0, 1) := by decide +kernel
theorem d_Mo_dsaVerify_399 : decode (a_cc M_Mo_dsaVerify) 399 = .ok (.putfield 216, 3) := by decide +kernel
theorem d_Mo_dsaVerify_402 : decode (a_cc M_Mo_dsaVerify) 402 = .ok (.iconst 0, 1) := by decide +kernel
theorem d_Mo_dsaVerify_403 : decode (a_cc M_Mo_dsaVerify) 403 = .ok (.istore 4, 2) := by decide +kernel
theorem d_Mo_dsaVerify_405 : decode (a_cc M_Mo_dsaVerify) 405 = .ok (.iload 4, 2) := by decide +kernel
theorem d_Mo_dsaVerify_407 : decode (a_cc M_Mo_dsaVerify) 407 = .ok (.aload_n 0, 1) := by decide +kernel
theorem d_Mo_dsaVerify_408 : decode (a_cc M_Mo_dsaVerify) 408 = .ok (.getfield 223, 3) := by decide +kernel
theorem d_Mo_dsaVerify_411 : decode (a_cc M_Mo_dsaVerify) 411 = .ok (.if_icmp .ge 321, 3) := by decide +kernel
theorem d_Mo_dsaVerify_414 : decode (a_cc M_Mo_dsaVerify) 414 = .ok (.iconst 0, 1) := by decide +kernel
theorem d_Mo_dsaVerify_415 : decode (a_cc M_Mo_dsaVerify) 415 = .ok (.istore 5, 2) := by decide +kernel
theorem d_Mo_dsaVerify_417 : decode (a_cc M_Mo_dsaVerify) 417 = .ok (.iload 5, 2) := by decide +kernel
theorem d_Mo_dsaVerify_419 : decode (a_cc M_Mo_dsaVerify) 419 = .ok (.sipush 256, 3) := by decide +kernel
theorem d_Mo_dsaVerify_422 : decode (a_cc M_Mo_dsaVerify) 422 = .ok (.if_icmp .ge 51, 3) := by decide +kernel
theorem d_Mo_dsaVerify_425 : decode (a_cc M_Mo_dsaVerify) 425 = .ok (.aload_n 0, 1) := by decide +kernel
theorem d_Mo_dsaVerify_426 : decode (a_cc M_Mo_dsaVerify) 426 = .ok (.getfield 76, 3) := by decide +kernel
theorem d_Mo_dsaVerify_429 : decode (a_cc M_Mo_dsaVerify) 429 = .ok (.bipush 45, 2) := by decide +kernel
theorem d_Mo_dsaVerify_431 : decode (a_cc M_Mo_dsaVerify) 431 = .ok (.aaload, 1) := by decide +kernel
theorem d_Mo_dsaVerify_432 : decode (a_cc M_Mo_dsaVerify) 432 = .ok (.iload 5, 2) := by decide +kernel
theorem d_Mo_dsaVerify_434 : decode (a_cc M_Mo_dsaVerify) 434 = .ok (.ldc2_w 256, 3) := by decide +kernel
theorem d_Mo_dsaVerify_437 : decode (a_cc M_Mo_dsaVerify) 437 = .ok (.aload_n 0, 1) := by decide +kernel
theorem d_Mo_dsaVerify_438 : decode (a_cc M_Mo_dsaVerify) 438 = .ok (.aload_n 0, 1) := by decide +kernel
theorem d_Mo_dsaVerify_439 : decode (a_cc M_Mo_dsaVerify) 439 = .ok (.getfield 15, 3) := by decide +kernel
theorem d_Mo_dsaVerify_442 : decode (a_cc M_Mo_dsaVerify) 442 = .ok (.iconst 1, 1) := by decide +kernel
theorem d_Mo_dsaVerify_443 : decode (a_cc M_Mo_dsaVerify) 443 = .ok (.aaload, 1) := by decide +kernel
theorem d_Mo_dsaVerify_444 : decode (a_cc M_Mo_dsaVerify) 444 = .ok (.bipush 32, 2) := by decide +kernel
theorem d_Mo_dsaVerify_446 : decode (a_cc M_Mo_dsaVerify) 446 = .ok (.bipush 10, 2) := by decide +kernel
theorem d_Mo_dsaVerify_448 : decode (a_cc M_Mo_dsaVerify) 448 = .ok (.invokevirtual 284, 3) := by decide +kernel
theorem d_Mo_dsaVerify_451 : decode (a_cc M_Mo_dsaVerify) 451 = .ok (.i2l, 1) := by decide +kernel
theorem d_Mo_dsaVerify_452 : decode (a_cc M_Mo_dsaVerify) 452 = .ok (.ldc2_w 364, 3) := by decide +kernel
theorem d_Mo_dsaVerify_455 : decode (a_cc M_Mo_dsaVerify) 455 = .ok (.lmul, 1) := by decide +kernel
theorem d_Mo_dsaVerify_456 : decode (a_cc M_Mo_dsaVerify) 456 = .ok (.ldc2_w 256, 3) := by decide +kernel
theorem d_Mo_dsaVerify_459 : decode (a_cc M_Mo_dsaVerify) 459 = .ok (.lrem, 1) := by decide +kernel
theorem d_Mo_dsaVerify_460 : decode (a_cc M_Mo_dsaVerify) 460 = .ok (.lsub, 1) := by decide +kernel
theorem d_Mo_dsaVerify_461 : decode (a_cc M_Mo_dsaVerify) 461 = .ok (.l2i, 1) := by decide +kernel
theorem d_Mo_dsaVerify_462 : decode (a_cc M_Mo_dsaVerify) 462 = .ok (.ldc_w 264, 3) := by decide +kernel
theorem d_Mo_dsaVerify_465 : decode (a_cc M_Mo_dsaVerify) 465 = .ok (.irem, 1) := by decide +kernel
theorem d_Mo_dsaVerify_466 : decode (a_cc M_Mo_dsaVerify) 466 = .ok (.iastore, 1) := by decide +kernel
theorem d_Mo_dsaVerify_467 : decode (a_cc M_Mo_dsaVerify) 467 = .ok (.iinc 5 1, 3) := by decide +kernel
theorem d_Mo_dsaVerify_470 : decode (a_cc M_Mo_dsaVerify) 470 = .ok (.goto (-53), 3) := by decide +kernel
theorem d_Mo_dsaVerify_473 : decode (a_cc M_Mo_dsaVerify) 473 = .ok (.aload_n 0, 1) := by decide +kernel
theorem d_Mo_dsaVerify_474 : decode (a_cc M_Mo_dsaVerify) 474 = .ok (.aload_n 0, 1) := by decide +kernel
theorem d_Mo_dsaVerify_475 : decode (a_cc M_Mo_dsaVerify) 475 = .ok (.getfield 76, 3) := by decide +kernel
theorem d_Mo_dsaVerify_478 : decode (a_cc M_Mo_dsaVerify) 478 = .ok (.bipush 45, 2) := by decide +kernel
theorem d_Mo_dsaVerify_480 : decode (a_cc M_Mo_dsaVerify) 480 = .ok (.aaload, 1) := by decide +kernel
theorem d_Mo_dsaVerify_481 : decode (a_cc M_Mo_dsaVerify) 481 = .ok (.invokevirtual 304, 3) := by decide +kernel
theorem d_Mo_dsaVerify_484 : decode (a_cc M_Mo_dsaVerify) 484 = .ok (.aload_n 0, 1) := by decide +kernel
theorem d_Mo_dsaVerify_485 : decode (a_cc M_Mo_dsaVerify) 485 = .ok (.getfield 76, 3) := by decide +kernel
theorem d_Mo_dsaVerify_488 : decode (a_cc M_Mo_dsaVerify) 488 = .ok (.bipush 30, 2) := by decide +kernel
theorem d_Mo_dsaVerify_490 : decode (a_cc M_Mo_dsaVerify) 490 = .ok (.iload 4, 2) := by decide +kernel
theorem d_Mo_dsaVerify_492 : decode (a_cc M_Mo_dsaVerify) 492 = .ok (.iadd, 1) := by decide +kernel
theorem d_Mo_dsaVerify_493 : decode (a_cc M_Mo_dsaVerify) 493 = .ok (.aaload, 1) := by decide +kernel
theorem d_Mo_dsaVerify_494 : decode (a_cc M_Mo_dsaVerify) 494 = .ok (.invokestatic 275, 3) := by decide +kernel
theorem d_Mo_dsaVerify_497 : decode (a_cc M_Mo_dsaVerify) 497 = .ok (.aload_n 0, 1) := by decide +kernel
theorem d_Mo_dsaVerify_498 : decode (a_cc M_Mo_dsaVerify) 498 = .ok (.getfield 76, 3) := by decide +kernel
theorem d_Mo_dsaVerify_501 : decode (a_cc M_Mo_dsaVerify) 501 = .ok (.bipush 30, 2) := by decide +kernel
theorem d_Mo_dsaVerify_503 : decode (a_cc M_Mo_dsaVerify) 503 = .ok (.iload 4, 2) := by decide +kernel
theorem d_Mo_dsaVerify_505 : decode (a_cc M_Mo_dsaVerify) 505 = .ok (.iadd, 1) := by decide +kernel
theorem d_Mo_dsaVerify_506 : decode (a_cc M_Mo_dsaVerify) 506 = .ok (.aaload, 1) := by decide +kernel
theorem d_Mo_dsaVerify_507 : decode (a_cc M_Mo_dsaVerify) 507 = .ok (.aload_n 0, 1) := by decide +kernel
theorem d_Mo_dsaVerify_508 : decode (a_cc M_Mo_dsaVerify) 508 = .ok (.getfield 76, 3) := by decide +kernel
theorem d_Mo_dsaVerify_511 : decode (a_cc M_Mo_dsaVerify) 511 = .ok (.bipush 45, 2) := by decide +kernel
theorem d_Mo_dsaVerify_513 : decode (a_cc M_Mo_dsaVerify) 513 = .ok (.aaload, 1) := by decide +kernel
theorem d_Mo_dsaVerify_514 : decode (a_cc M_Mo_dsaVerify) 514 = .ok (.aload_n 0, 1) := by decide +kernel
theorem d_Mo_dsaVerify_515 : decode (a_cc M_Mo_dsaVerify) 515 = .ok (.getfield 76, 3) := by decide +kernel
theorem d_Mo_dsaVerify_518 : decode (a_cc M_Mo_dsaVerify) 518 = .ok (.bipush 46, 2) := by decide +kernel
theorem d_Mo_dsaVerify_520 : decode (a_cc M_Mo_dsaVerify) 520 = .ok (.aaload, 1) := by decide +kernel
theorem d_Mo_dsaVerify_521 : decode (a_cc M_Mo_dsaVerify) 521 = .ok (.invokestatic 311, 3) := by decide +kernel
theorem d_Mo_dsaVerify_524 : decode (a_cc M_Mo_dsaVerify) 524 = .ok (.iconst 0, 1) := by decide +kernel
theorem d_Mo_dsaVerify_525 : decode (a_cc M_Mo_dsaVerify) 525 = .ok (.istore 5, 2) := by decide +kernel
theorem d_Mo_dsaVerify_527 : decode (a_cc M_Mo_dsaVerify) 527 = .ok (.iload 5, 2) := by decide +kernel
theorem d_Mo_dsaVerify_529 : decode (a_cc M_Mo_dsaVerify) 529 = .ok (.aload_n 0, 1) := by decide +kernel
theorem d_Mo_dsaVerify_530 : decode (a_cc M_Mo_dsaVerify) 530 = .ok (.getfield 226, 3) := by decide +kernel
theorem d_Mo_dsaVerify_533 : decode (a_cc M_Mo_dsaVerify) 533 = .ok (.if_icmp .ge 68, 3) := by decide +kernel
theorem d_Mo_dsaVerify_536 : decode (a_cc M_Mo_dsaVerify) 536 = .ok (.aload_n 0, 1) := by decide +kernel
theorem d_Mo_dsaVerify_537 : decode (a_cc M_Mo_dsaVerify) 537 = .ok (.aload_n 0, 1) := by decide +kernel
theorem d_Mo_dsaVerify_538 : decode (a_cc M_Mo_dsaVerify) 538 = .ok (.aload_n 0, 1) := by decide +kernel
theorem d_Mo_dsaVerify_539 : decode (a_cc M_Mo_dsaVerify) 539 = .ok (.getfield 76, 3) := by decide +kernel
theorem d_Mo_dsaVerify_542 : decode (a_cc M_Mo_dsaVerify) 542 = .ok (.bipush 47, 2) := by decide +kernel
theorem d_Mo_dsaVerify_544 : decode (a_cc M_Mo_dsaVerify) 544 = .ok (.aaload, 1) := by decide +kernel
theorem d_Mo_dsaVerify_545 : decode (a_cc M_Mo_dsaVerify) 545 = .ok (.aload_n 0, 1) := by decide +kernel
theorem d_Mo_dsaVerify_546 : decode (a_cc M_Mo_dsaVerify) 546 = .ok (.getfield 15, 3) := by decide +kernel
theorem d_Mo_dsaVerify_549 : decode (a_cc M_Mo_dsaVerify) 549 = .ok (.iconst 1, 1) := by decide +kernel
theorem d_Mo_dsaVerify_550 : decode (a_cc M_Mo_dsaVerify) 550 = .ok (.aaload, 1) := by decide +kernel
theorem d_Mo_dsaVerify_551 : decode (a_cc M_Mo_dsaVerify) 551 = .ok (.iconst 0, 1) := by decide +kernel
theorem d_Mo_dsaVerify_552 : decode (a_cc M_Mo_dsaVerify) 552 = .ok (.iload 5, 2) := by decide +kernel
theorem d_Mo_dsaVerify_554 : decode (a_cc M_Mo_dsaVerify) 554 = .ok (.iload 4, 2) := by decide +kernel
theorem d_Mo_dsaVerify_556 : decode (a_cc M_Mo_dsaVerify) 556 = .ok (.invokevirtual 307, 3) := by decide +kernel
theorem d_Mo_dsaVerify_559 : decode (a_cc M_Mo_dsaVerify) 559 = .ok (.iconst 4, 1) := by decide +kernel
theorem d_Mo_dsaVerify_560 : decode (a_cc M_Mo_dsaVerify) 560 = .ok (.invokevirtual 112, 3) := by decide +kernel
theorem d_Mo_dsaVerify_563 : decode (a_cc M_Mo_dsaVerify) 563 = .ok (.ifCond .ne 5, 3) := by decide +kernel
theorem d_Mo_dsaVerify_566 : decode (a_cc M_Mo_dsaVerify) 566 = .ok (.iconst 0, 1) := by decide +kernel
theorem d_Mo_dsaVerify_567 : decode (a_cc M_Mo_dsaVerify) 567 = .ok (.ireturn, 1) := by decide +kernel
theorem d_Mo_dsaVerify_568 : decode (a_cc M_Mo_dsaVerify) 568 = .ok (.aload_n 0, 1) := by decide +kernel
theorem d_Mo_dsaVerify_569 : decode (a_cc M_Mo_dsaVerify) 569 = .ok (.getfield 76, 3) := by decide +kernel
theorem d_Mo_dsaVerify_572 : decode (a_cc M_Mo_dsaVerify) 572 = .ok (.bipush 30, 2) := by decide +kernel
theorem d_Mo_dsaVerify_574 : decode (a_cc M_Mo_dsaVerify) 574 = .ok (.iload 4, 2) := by decide +kernel
theorem d_Mo_dsaVerify_576 : decode (a_cc M_Mo_dsaVerify) 576 = .ok (.iadd, 1) := by decide +kernel
theorem d_Mo_dsaVerify_577 : decode (a_cc M_Mo_dsaVerify) 577 = .ok (.aaload, 1) := by decide +kernel
theorem d_Mo_dsaVerify_578 : decode (a_cc M_Mo_dsaVerify) 578 = .ok (.aload_n 0, 1) := by decide +kernel
theorem d_Mo_dsaVerify_579 : decode (a_cc M_Mo_dsaVerify) 579 = .ok (.getfield 76, 3) := by decide +kernel
theorem d_Mo_dsaVerify_582 : decode (a_cc M_Mo_dsaVerify) 582 = .ok (.bipush 47, 2) := by decide +kernel
theorem d_Mo_dsaVerify_584 : decode (a_cc M_Mo_dsaVerify) 584 = .ok (.aaload, 1) := by decide +kernel
theorem d_Mo_dsaVerify_585 : decode (a_cc M_Mo_dsaVerify) 585 = .ok (.aload_n 0, 1) := by decide +kernel
theorem d_Mo_dsaVerify_586 : decode (a_cc M_Mo_dsaVerify) 586 = .ok (.getfield 76, 3) := by decide +kernel
theorem d_Mo_dsaVerify_589 : decode (a_cc M_Mo_dsaVerify) 589 = .ok (.iload 5, 2) := by decide +kernel
theorem d_Mo_dsaVerify_591 : decode (a_cc M_Mo_dsaVerify) 591 = .ok (.aaload, 1) := by decide +kernel
theorem d_Mo_dsaVerify_592 : decode (a_cc M_Mo_dsaVerify) 592 = .ok (.invokestatic 311, 3) := by decide +kernel
theorem d_Mo_dsaVerify_595 : decode (a_cc M_Mo_dsaVerify) 595 = .ok (.iinc 5 1, 3) := by decide +kernel
theorem d_Mo_dsaVerify_598 : decode (a_cc M_Mo_dsaVerify) 598 = .ok (.goto (-71), 3) := by decide +kernel
theorem d_Mo_dsaVerify_601 : decode (a_cc M_Mo_dsaVerify) 601 = .ok (.aload_n 0, 1) := by decide +kernel
theorem d_Mo_dsaVerify_602 : decode (a_cc M_Mo_dsaVerify) 602 = .ok (.aload_n 0, 1) := by decide +kernel
theorem d_Mo_dsaVerify_603 : decode (a_cc M_Mo_dsaVerify) 603 = .ok (.getfield 76, 3) := by decide +kernel
theorem d_Mo_dsaVerify_606 : decode (a_cc M_Mo_dsaVerify) 606 = .ok (.bipush 30, 2) := by decide +kernel
theorem d_Mo_dsaVerify_608 : decode (a_cc M_Mo_dsaVerify) 608 = .ok (.iload 4, 2) := by decide +kernel
theorem d_Mo_dsaVerify_610 : decode (a_cc M_Mo_dsaVerify) 610 = .ok (.iadd, 1) := by decide +kernel
theorem d_Mo_dsaVerify_611 : decode (a_cc M_Mo_dsaVerify) 611 = .ok (.aaload, 1) := by decide +kernel
theorem d_Mo_dsaVerify_612 : decode (a_cc M_Mo_dsaVerify) 612 = .ok (.invokevirtual 315, 3) := by decide +kernel
theorem d_Mo_dsaVerify_615 : decode (a_cc M_Mo_dsaVerify) 615 = .ok (.ldc_w 279, 3) := by decide +kernel
theorem d_Mo_dsaVerify_618 : decode (a_cc M_Mo_dsaVerify) 618 = .ok (.iconst 2, 1) := by decide +kernel
theorem d_Mo_dsaVerify_619 : decode (a_cc M_Mo_dsaVerify) 619 = .ok (.aload_n 0, 1) := by decide +kernel
theorem d_Mo_dsaVerify_620 : decode (a_cc M_Mo_dsaVerify) 620 = .ok (.getfield 242, 3) := by decide +kernel
theorem d_Mo_dsaVerify_623 : decode (a_cc M_Mo_dsaVerify) 623 = .ok (.imul, 1) := by decide +kernel
theorem d_Mo_dsaVerify_624 : decode (a_cc M_Mo_dsaVerify) 624 = .ok (.idiv, 1) := by decide +kernel
theorem d_Mo_dsaVerify_625 : decode (a_cc M_Mo_dsaVerify) 625 = .ok (.istore 5, 2) := by decide +kernel
theorem d_Mo_dsaVerify_627 : decode (a_cc M_Mo_dsaVerify) 627 = .ok (.iconst 0, 1) := by decide +kernel
theorem d_Mo_dsaVerify_628 : decode (a_cc M_Mo_dsaVerify) 628 = .ok (.istore 6, 2) := by decide +kernel
theorem d_Mo_dsaVerify_630 : decode (a_cc M_Mo_dsaVerify) 630 = .ok (.iload 6, 2) := by decide +kernel
theorem d_Mo_dsaVerify_632 : decode (a_cc M_Mo_dsaVerify) 632 = .ok (.sipush 256, 3) := by decide +kernel
theorem d_Mo_dsaVerify_635 : decode (a_cc M_Mo_dsaVerify) 635 = .ok (.if_icmp .ge 91, 3) := by decide +kernel
theorem d_Mo_dsaVerify_638 : decode (a_cc M_Mo_dsaVerify) 638 = .ok (.aload_n 0, 1) := by decide +kernel
theorem d_Mo_dsaVerify_639 : decode (a_cc M_Mo_dsaVerify) 639 = .ok (.getfield 76, 3) := by decide +kernel
theorem d_Mo_dsaVerify_642 : decode (a_cc M_Mo_dsaVerify) 642 = .ok (.bipush 30, 2) := by decide +kernel
theorem d_Mo_dsaVerify_644 : decode (a_cc M_Mo_dsaVerify) 644 = .ok (.iload 4, 2) := by decide +kernel
theorem d_Mo_dsaVerify_646 : decode (a_cc M_Mo_dsaVerify) 646 = .ok (.iadd, 1) := by decide +kernel
theorem d_Mo_dsaVerify_647 : decode (a_cc M_Mo_dsaVerify) 647 = .ok (.aaload, 1) := by decide +kernel
theorem d_Mo_dsaVerify_648 : decode (a_cc M_Mo_dsaVerify) 648 = .ok (.iload 6, 2) := by decide +kernel
theorem d_Mo_dsaVerify_650 : decode (a_cc M_Mo_dsaVerify) 650 = .ok (.iaload, 1) := by decide +kernel
theorem d_Mo_dsaVerify_651 : decode (a_cc M_Mo_dsaVerify) 651 = .ok (.istore 7, 2) := by decide +kernel
theorem d_Mo_dsaVerify_653 : decode (a_cc M_Mo_dsaVerify) 653 = .ok (.aload_n 0, 1) := by decide +kernel
theorem d_Mo_dsaVerify_654 : decode (a_cc M_Mo_dsaVerify) 654 = .ok (.iload 7, 2) := by decide +kernel
theorem d_Mo_dsaVerify_656 : decode (a_cc M_Mo_dsaVerify) 656 = .ok (.invokevirtual 343, 3) := by decide +kernel
theorem d_Mo_dsaVerify_659 : decode (a_cc M_Mo_dsaVerify) 659 = .ok (.istore 8, 2) := by decide +kernel
theorem d_Mo_dsaVerify_661 : decode (a_cc M_Mo_dsaVerify) 661 = .ok (.aload_n 0, 1) := by decide +kernel
theorem d_Mo_dsaVerify_662 : decode (a_cc M_Mo_dsaVerify) 662 = .ok (.getfield 81, 3) := by decide +kernel
theorem d_Mo_dsaVerify_665 : decode (a_cc M_Mo_dsaVerify) 665 = .ok (.iload 4, 2) := by decide +kernel
theorem d_Mo_dsaVerify_667 : decode (a_cc M_Mo_dsaVerify) 667 = .ok (.aaload, 1) := by decide +kernel
theorem d_Mo_dsaVerify_668 : decode (a_cc M_Mo_dsaVerify) 668 = .ok (.iload 6, 2) := by decide +kernel
theorem d_Mo_dsaVerify_670 : decode (a_cc M_Mo_dsaVerify) 670 = .ok (.baload, 1) := by decide +kernel
theorem d_Mo_dsaVerify_671 : decode (a_cc M_Mo_dsaVerify) 671 = .ok (.ifCond .eq 34, 3) := by decide +kernel
theorem d_Mo_dsaVerify_674 : decode (a_cc M_Mo_dsaVerify) 674 = .ok (.aload_n 0, 1) := by decide +kernel
theorem d_Mo_dsaVerify_675 : decode (a_cc M_Mo_dsaVerify) 675 = .ok (.iload 7, 2) := by decide +kernel
theorem d_Mo_dsaVerify_677 : decode (a_cc M_Mo_dsaVerify) 677 = .ok (.invokevirtual 357, 3) := by decide +kernel
theorem d_Mo_dsaVerify_680 : decode (a_cc M_Mo_dsaVerify) 680 = .ok (.ifCond .le 13, 3) := by decide +kernel
theorem d_Mo_dsaVerify_683 : decode (a_cc M_Mo_dsaVerify) 683 = .ok (.iload 8, 2) := by decide +kernel
theorem d_Mo_dsaVerify_685 : decode (a_cc M_Mo_dsaVerify) 685 = .ok (.iconst 1, 1) := by decide +kernel
theorem d_Mo_dsaVerify_686 : decode (a_cc M_Mo_dsaVerify) 686 = .ok (.iadd, 1) := by decide +kernel
theorem d_Mo_dsaVerify_687 : decode (a_cc M_Mo_dsaVerify) 687 = .ok (.iload 5, 2) := by decide +kernel
theorem d_Mo_dsaVerify_689 : decode (a_cc M_Mo_dsaVerify) 689 = .ok (.irem, 1) := by decide +kernel
theorem d_Mo_dsaVerify_690 : decode (a_cc M_Mo_dsaVerify) 690 = .ok (.goto 13, 3) := by decide +kernel
theorem d_Mo_dsaVerify_693 : decode (a_cc M_Mo_dsaVerify) 693 = .ok (.iload 8, 2) := by decide +kernel
theorem d_Mo_dsaVerify_695 : decode (a_cc M_Mo_dsaVerify) 695 = .ok (.iload 5, 2) := by decide +kernel
theorem d_Mo_dsaVerify_697 : decode (a_cc M_Mo_dsaVerify) 697 = .ok (.iadd, 1) := by decide +kernel
theorem d_Mo_dsaVerify_698 : decode (a_cc M_Mo_dsaVerify) 698 = .ok (.iconst 1, 1) := by decide +kernel
theorem d_Mo_dsaVerify_699 : decode (a_cc M_Mo_dsaVerify) 699 = .ok (.isub, 1) := by decide +kernel
theorem d_Mo_dsaVerify_700 : decode (a_cc M_Mo_dsaVerify) 700 = .ok (.iload 5, 2) := by decide +kernel
theorem d_Mo_dsaVerify_702 : decode (a_cc M_Mo_dsaVerify) 702 = .ok (.irem, 1) := by decide +kernel
theorem d_Mo_dsaVerify_703 : decode (a_cc M_Mo_dsaVerify) 703 = .ok (.istore 8, 2) := by decide +kernel
theorem d_Mo_dsaVerify_705 : decode (a_cc M_Mo_dsaVerify) 705 = .ok (.aload_n 0, 1) := by decide +kernel
theorem d_Mo_dsaVerify_706 : decode (a_cc M_Mo_dsaVerify) 706 = .ok (.getfield 76, 3) := by decide +kernel
theorem d_Mo_dsaVerify_709 : decode (a_cc M_Mo_dsaVerify) 709 = .ok (.bipush 30, 2) := by decide +kernel
theorem d_Mo_dsaVerify_711 : decode (a_cc M_Mo_dsaVerify) 711 = .ok (.iload 4, 2) := by decide +kernel
theorem d_Mo_dsaVerify_713 : decode (a_cc M_Mo_dsaVerify) 713 = .ok (.iadd, 1) := by decide +kernel
theorem d_Mo_dsaVerify_714 : decode (a_cc M_Mo_dsaVerify) 714 = .ok (.aaload, 1) := by decide +kernel
theorem d_Mo_dsaVerify_715 : decode (a_cc M_Mo_dsaVerify) 715 = .ok (.iload 6, 2) := by decide +kernel
theorem d_Mo_dsaVerify_717 : decode (a_cc M_Mo_dsaVerify) 717 = .ok (.iload 8, 2) := by decide +kernel
theorem d_Mo_dsaVerify_719 : decode (a_cc M_Mo_dsaVerify) 719 = .ok (.iastore, 1) := by decide +kernel
theorem d_Mo_dsaVerify_720 : decode (a_cc M_Mo_dsaVerify) 720 = .ok (.iinc 6 1, 3) := by decide +kernel
theorem d_Mo_dsaVerify_723 : decode (a_cc M_Mo_dsaVerify) 723 = .ok (.goto (-93), 3) := by decide +kernel
theorem d_Mo_dsaVerify_726 : decode (a_cc M_Mo_dsaVerify) 726 = .ok (.iinc 4 1, 3) := by decide +kernel
theorem d_Mo_dsaVerify_729 : decode (a_cc M_Mo_dsaVerify) 729 = .ok (.goto (-324), 3) := by decide +kernel
theorem d_Mo_dsaVerify_732 : decode (a_cc M_Mo_dsaVerify) 732 = .ok (.aload_n 0, 1) := by decide +kernel
theorem d_Mo_dsaVerify_733 : decode (a_cc M_Mo_dsaVerify) 733 = .ok (.bipush 30, 2) := by decide +kernel
theorem d_Mo_dsaVerify_735 : decode (a_cc M_Mo_dsaVerify) 735 = .ok (.aload_n 0, 1) := by decide +kernel
theorem d_Mo_dsaVerify_736 : decode (a_cc M_Mo_dsaVerify) 736 = .ok (.getfield 99, 3) := by decide +kernel
theorem d_Mo_dsaVerify_739 : decode (a_cc M_Mo_dsaVerify) 739 = .ok (.invokevirtual 346, 3) := by decide +kernel
theorem d_Mo_dsaVerify_742 : decode (a_cc M_Mo_dsaVerify) 742 = .ok (.aload_n 0, 1) := by decide +kernel
theorem d_Mo_dsaVerify_743 : decode (a_cc M_Mo_dsaVerify) 743 = .ok (.getfield 99, 3) := by decide +kernel
theorem d_Mo_dsaVerify_746 : decode (a_cc M_Mo_dsaVerify) 746 = .ok (.iconst 0, 1) := by decide +kernel
theorem d_Mo_dsaVerify_747 : decode (a_cc M_Mo_dsaVerify) 747 = .ok (.aload_n 0, 1) := by decide +kernel
theorem d_Mo_dsaVerify_748 : decode (a_cc M_Mo_dsaVerify) 748 = .ok (.getfield 15, 3) := by decide +kernel
theorem d_Mo_dsaVerify_751 : decode (a_cc M_Mo_dsaVerify) 751 = .ok (.bipush 6, 2) := by decide +kernel
theorem d_Mo_dsaVerify_753 : decode (a_cc M_Mo_dsaVerify) 753 = .ok (.aaload, 1) := by decide +kernel
theorem d_Mo_dsaVerify_754 : decode (a_cc M_Mo_dsaVerify) 754 = .ok (.iconst 0, 1) := by decide +kernel
theorem d_Mo_dsaVerify_755 : decode (a_cc M_Mo_dsaVerify) 755 = .ok (.aload_n 0, 1) := by decide +kernel
theorem d_Mo_dsaVerify_756 : decode (a_cc M_Mo_dsaVerify) 756 = .ok (.getfield 248, 3) := by decide +kernel
theorem d_Mo_dsaVerify_759 : decode (a_cc M_Mo_dsaVerify) 759 = .ok (.invokestatic 318, 3) := by decide +kernel
theorem d_Mo_dsaVerify_762 : decode (a_cc M_Mo_dsaVerify) 762 = .ok (.aload_n 0, 1) := by decide +kernel
theorem d_Mo_dsaVerify_763 : decode (a_cc M_Mo_dsaVerify) 763 = .ok (.getfield 18, 3) := by decide +kernel
theorem d_Mo_dsaVerify_766 : decode (a_cc M_Mo_dsaVerify) 766 = .ok (.bipush 6, 2) := by decide +kernel
theorem d_Mo_dsaVerify_768 : decode (a_cc M_Mo_dsaVerify) 768 = .ok (.aload_n 0, 1) := by decide +kernel
theorem d_Mo_dsaVerify_769 : decode (a_cc M_Mo_dsaVerify) 769 = .ok (.getfield 248, 3) := by decide +kernel
theorem d_Mo_dsaVerify_772 : decode (a_cc M_Mo_dsaVerify) 772 = .ok (.iastore, 1) := by decide +kernel
theorem d_Mo_dsaVerify_773 : decode (a_cc M_Mo_dsaVerify) 773 = .ok (.aload_n 0, 1) := by decide +kernel
theorem d_Mo_dsaVerify_774 : decode (a_cc M_Mo_dsaVerify) 774 = .ok (.getfield 99, 3) := by decide +kernel
theorem d_Mo_dsaVerify_777 : decode (a_cc M_Mo_dsaVerify) 777 = .ok (.iconst 0, 1) := by decide +kernel
theorem d_Mo_dsaVerify_778 : decode (a_cc M_Mo_dsaVerify) 778 = .ok (.aload_n 0, 1) := by decide +kernel
theorem d_Mo_dsaVerify_779 : decode (a_cc M_Mo_dsaVerify) 779 = .ok (.getfield 15, 3) := by decide +kernel
theorem d_Mo_dsaVerify_782 : decode (a_cc M_Mo_dsaVerify) 782 = .ok (.iconst 5, 1) := by decide +kernel
theorem d_Mo_dsaVerify_783 : decode (a_cc M_Mo_dsaVerify) 783 = .ok (.aaload, 1) := by decide +kernel
theorem d_Mo_dsaVerify_784 : decode (a_cc M_Mo_dsaVerify) 784 = .ok (.iconst 0, 1) := by decide +kernel
theorem d_Mo_dsaVerify_785 : decode (a_cc M_Mo_dsaVerify) 785 = .ok (.aload_n 0, 1) := by decide +kernel
theorem d_Mo_dsaVerify_786 : decode (a_cc M_Mo_dsaVerify) 786 = .ok (.getfield 248, 3) := by decide +kernel
theorem d_Mo_dsaVerify_789 : decode (a_cc M_Mo_dsaVerify) 789 = .ok (.invokestatic 366, 3) := by decide +kernel
theorem d_Mo_dsaVerify_792 : decode (a_cc M_Mo_dsaVerify) 792 = .ok (.ireturn, 1) := by decide +kernel
theorem cs_Mo_dsaVerify_4 : a_CS M_Mo_dsaVerify M_Mo_in 120 3 1 3 := ⟨⟨ok_Mo_in, by decide, by decide, by decide⟩, List.mem_append_right _ (List.mem_of_getElem? (i := 1252) (by decide +kernel)), List.mem_append_right _ (List.mem_of_getElem? (i := 1253) (by decide +kernel)), by decide +kernel⟩
theorem cs_Mo_dsaVerify_13 : a_CS M_Mo_dsaVerify M_Mo_in 120 3 1 3 := ⟨⟨ok_Mo_in, by decide, by decide, by decide⟩, List.mem_append_right _ (List.mem_of_getElem? (i := 1252) (by decide +kernel)), List.mem_append_right _ (List.mem_of_getElem? (i := 1253) (by decide +kernel)), by decide +kernel⟩
theorem cs_Mo_dsaVerify_25 : a_CV M_Mo_dsaVerify M_Mo_good 112 10 3 0 2 := ⟨⟨ok_Mo_good, by decide, by decide, by decide⟩, by decide, rfl, List.mem_append_right _ (List.mem_of_getElem? (i := 1240) (by decide +kernel)), List.mem_append_right _ (List.mem_of_getElem? (i := 1242) (by decide +kernel)), List.mem_append_left _ (List.mem_of_getElem? (i := 41) (by decide +kernel)), by decide +kernel⟩
theorem cs_Mo_dsaVerify_35 : a_CV M_Mo_dsaVerify M_Mo_dsa 287 10 2 0 1 := ⟨⟨ok_Mo_dsa, by decide, by decide, by decide⟩, by decide, rfl, List.mem_append_right _ (List.mem_of_getElem? (i := 1283) (by decide +kernel)), List.mem_append_right _ (List.mem_of_getElem? (i := 1285) (by decide +kernel)), List.mem_append_left _ (List.mem_of_getElem? (i := 43) (by decide +kernel)), by decide +kernel⟩
theorem cs_Mo_dsaVerify_41 : a_CV M_Mo_dsaVerify M_Mo_context 331 10 2 1 1 := ⟨⟨ok_Mo_context, by decide, by decide, by decide⟩, by decide, rfl, List.mem_append_right _ (List.mem_of_getElem? (i := 1359) (by decide +kernel)), List.mem_append_right _ (List.mem_of_getElem? (i := 1361) (by decide +kernel)), List.mem_append_left _ (List.mem_of_getElem? (i := 55) (by decide +kernel)), by decide +kernel⟩
theorem cs_Mo_dsaVerify_45 : a_CV M_Mo_dsaVerify M_Mo_good 112 10 3 0 2 := ⟨⟨ok_Mo_good, by decide, by decide, by decide⟩, by decide, rfl, List.mem_append_right _ (List.mem_of_getElem? (i := 1240) (by decide +kernel)), List.mem_append_right _ (List.mem_of_getElem? (i := 1242) (by decide +kernel)), List.mem_append_left _ (List.mem_of_getElem? (i := 41) (by decide +kernel)), by decide +kernel⟩
theorem cs_Mo_dsaVerify_78 : a_CV M_Mo_dsaVerify M_Mo_good 112 10 3 0 2 := ⟨⟨ok_Mo_good, by decide, by decide, by decide⟩, by decide, rfl, List.mem_append_right _ (List.mem_of_getElem? (i := 1240) (by decide +kernel)), List.mem_append_right _ (List.mem_of_getElem? (i := 1242) (by decide +kernel)), List.mem_append_left _ (List.mem_of_getElem? (i := 41) (by decide +kernel)), by decide +kernel⟩
theorem cs_Mo_dsaVerify_132 : a_CV M_Mo_dsaVerify M_Mo_hints 360 10 3 0 2 := ⟨⟨ok_Mo_hints, by decide, by decide, by decide⟩, by decide, rfl, List.mem_append_right _ (List.mem_of_getElem? (i := 1419) (by decide +kernel)), List.mem_append_right _ (List.mem_of_getElem? (i := 1421) (by decide +kernel)), List.mem_append_left _ (List.mem_of_getElem? (i := 67) (by decide +kernel)), by decide +kernel⟩
theorem cs_Mo_dsaVerify_183 : a_CV M_Mo_dsaVerify M_Mo_unpack 337 10 6 0 5 := ⟨⟨ok_Mo_unpack, by decide, by decide, by decide⟩, by decide, rfl, List.mem_append_right _ (List.mem_of_getElem? (i := 1375) (by decide +kernel)), List.mem_append_right _ (List.mem_of_getElem? (i := 1377) (by decide +kernel)), List.mem_append_left _ (List.mem_of_getElem? (i := 59) (by decide +kernel)), by decide +kernel⟩
theorem cs_Mo_dsaVerify_268 : a_CV M_Mo_dsaVerify M_Mo_begin 148 10 2 0 1 := ⟨⟨ok_Mo_begin, by decide, by decide, by decide⟩, by decide, rfl, List.mem_append_right _ (List.mem_of_getElem? (i := 1046) (by decide +kernel)), List.mem_append_right _ (List.mem_of_getElem? (i := 1048) (by decide +kernel)), List.mem_append_left _ (List.mem_of_getElem? (i := 33) (by decide +kernel)), by decide +kernel⟩
theorem cs_Mo_dsaVerify_285 : a_CV M_Mo_dsaVerify M_Mo_put3 268 10 4 0 3 := ⟨⟨ok_Mo_put3, by decide, by decide, by decide⟩, by decide, rfl, List.mem_append_right _ (List.mem_of_getElem? (i := 1293) (by decide +kernel)), List.mem_append_right _ (List.mem_of_getElem? (i := 1295) (by decide +kernel)), List.mem_append_left _ (List.mem_of_getElem? (i := 44) (by decide +kernel)), by decide +kernel⟩
theorem cs_Mo_dsaVerify_296 : a_CV M_Mo_dsaVerify M_Mo_give 290 10 4 0 3 := ⟨⟨ok_Mo_give, by decide, by decide, by decide⟩, by decide, rfl, List.mem_append_right _ (List.mem_of_getElem? (i := 1297) (by decide +kernel)), List.mem_append_right _ (List.mem_of_getElem? (i := 1299) (by decide +kernel)), List.mem_append_left _ (List.mem_of_getElem? (i := 45) (by decide +kernel)), by decide +kernel⟩
theorem cs_Mo_dsaVerify_306 : a_CV M_Mo_dsaVerify M_Mo_digestMessage 334 10 4 0 3 := ⟨⟨ok_Mo_digestMessage, by decide, by decide, by decide⟩, by decide, rfl, List.mem_append_right _ (List.mem_of_getElem? (i := 1363) (by decide +kernel)), List.mem_append_right _ (List.mem_of_getElem? (i := 1365) (by decide +kernel)), List.mem_append_left _ (List.mem_of_getElem? (i := 56) (by decide +kernel)), by decide +kernel⟩
theorem cs_Mo_dsaVerify_325 : a_CV M_Mo_dsaVerify M_Mo_ball 350 10 4 1 3 := ⟨⟨ok_Mo_ball, by decide, by decide, by decide⟩, by decide, rfl, List.mem_append_right _ (List.mem_of_getElem? (i := 1399) (by decide +kernel)), List.mem_append_right _ (List.mem_of_getElem? (i := 1401) (by decide +kernel)), List.mem_append_left _ (List.mem_of_getElem? (i := 64) (by decide +kernel)), by decide +kernel⟩
theorem cs_Mo_dsaVerify_329 : a_CV M_Mo_dsaVerify M_Mo_good 112 10 3 0 2 := ⟨⟨ok_Mo_good, by decide, by decide, by decide⟩, by decide, rfl, List.mem_append_right _ (List.mem_of_getElem? (i := 1240) (by decide +kernel)), List.mem_append_right _ (List.mem_of_getElem? (i := 1242) (by decide +kernel)), List.mem_append_left _ (List.mem_of_getElem? (i := 41) (by decide +kernel)), by decide +kernel⟩
theorem cs_Mo_dsaVerify_344 : a_CS M_Mo_dsaVerify M_Mo_positive 301 1 0 1 := ⟨⟨ok_Mo_positive, by decide, by decide, by decide⟩, List.mem_append_right _ (List.mem_of_getElem? (i := 1321) (by decide +kernel)), List.mem_append_right _ (List.mem_of_getElem? (i := 1322) (by decide +kernel)), by decide +kernel⟩
theorem cs_Mo_dsaVerify_355 : a_CV M_Mo_dsaVerify M_Mo_evaluate 304 10 2 0 1 := ⟨⟨ok_Mo_evaluate, by decide, by decide, by decide⟩, by decide, rfl, List.mem_append_right _ (List.mem_of_getElem? (i := 1325) (by decide +kernel)), List.mem_append_right _ (List.mem_of_getElem? (i := 1327) (by decide +kernel)), List.mem_append_left _ (List.mem_of_getElem? (i := 51) (by decide +kernel)), by decide +kernel⟩
theorem cs_Mo_dsaVerify_377 : a_CS M_Mo_dsaVerify M_Mo_positive 301 1 0 1 := ⟨⟨ok_Mo_positive, by decide, by decide, by decide⟩, List.mem_append_right _ (List.mem_of_getElem? (i := 1321) (by decide +kernel)), List.mem_append_right _ (List.mem_of_getElem? (i := 1322) (by decide +kernel)), by decide +kernel⟩
theorem cs_Mo_dsaVerify_388 : a_CV M_Mo_dsaVerify M_Mo_evaluate 304 10 2 0 1 := ⟨⟨ok_Mo_evaluate, by decide, by decide, by decide⟩, by decide, rfl, List.mem_append_right _ (List.mem_of_getElem? (i := 1325) (by decide +kernel)), List.mem_append_right _ (List.mem_of_getElem? (i := 1327) (by decide +kernel)), List.mem_append_left _ (List.mem_of_getElem? (i := 51) (by decide +kernel)), by decide +kernel⟩
theorem cs_Mo_dsaVerify_448 : a_CV M_Mo_dsaVerify M_Mo_takeBits 284 10 4 4 3 := ⟨⟨ok_Mo_takeBits, by decide, by decide, by decide⟩, by decide, rfl, List.mem_append_right _ (List.mem_of_getElem? (i := 1379) (by decide +kernel)), List.mem_append_right _ (List.mem_of_getElem? (i := 1381) (by decide +kernel)), List.mem_append_left _ (List.mem_of_getElem? (i := 60) (by decide +kernel)), by decide +kernel⟩
theorem lc_Mo_364 : Cond.constantLong "ModuleSignerModel" 364 (Int64.ofInt (8192)) ∈ lw_tbl := List.mem_append_right _ (List.mem_of_getElem? (i := 1423) (by decide +kernel))
theorem cs_Mo_dsaVerify_481 : a_CV M_Mo_dsaVerify M_Mo_evaluate 304 10 2 0 1 := ⟨⟨ok_Mo_evaluate, by decide, by decide, by decide⟩, by decide, rfl, List.mem_append_right _ (List.mem_of_getElem? (i := 1325) (by decide +kernel)), List.mem_append_right _ (List.mem_of_getElem? (i := 1327) (by decide +kernel)), List.mem_append_left _ (List.mem_of_getElem? (i := 51) (by decide +kernel)), by decide +kernel⟩
theorem cs_Mo_dsaVerify_494 : a_CS M_Mo_dsaVerify M_Mo_clear 275 1 0 1 := ⟨⟨ok_Mo_clear, by decide, by decide, by decide⟩, List.mem_append_right _ (List.mem_of_getElem? (i := 1332) (by decide +kernel)), List.mem_append_right _ (List.mem_of_getElem? (i := 1333) (by decide +kernel)), by decide +kernel⟩
theorem cs_Mo_dsaVerify_521 : a_CS M_Mo_dsaVerify M_Mo_addProducts 311 3 0 3 := ⟨⟨ok_Mo_addProducts, by decide, by decide, by decide⟩, List.mem_append_right _ (List.mem_of_getElem? (i := 1340) (by decide +kernel)), List.mem_append_right _ (List.mem_of_getElem? (i := 1341) (by decide +kernel)), by decide +kernel⟩
theorem cs_Mo_dsaVerify_556 : a_CV M_Mo_dsaVerify M_Mo_sampleWide 307 10 6 1 5 := ⟨⟨ok_Mo_sampleWide, by decide, by decide, by decide⟩, by decide, rfl, List.mem_append_right _ (List.mem_of_getElem? (i := 1335) (by decide +kernel)), List.mem_append_right _ (List.mem_of_getElem? (i := 1337) (by decide +kernel)), List.mem_append_left _ (List.mem_of_getElem? (i := 52) (by decide +kernel)), by decide +kernel⟩
theorem cs_Mo_dsaVerify_560 : a_CV M_Mo_dsaVerify M_Mo_good 112 10 3 0 2 := ⟨⟨ok_Mo_good, by decide, by decide, by decide⟩, by decide, rfl, List.mem_append_right _ (List.mem_of_getElem? (i := 1240) (by decide +kernel)), List.mem_append_right _ (List.mem_of_getElem? (i := 1242) (by decide +kernel)), List.mem_append_left _ (List.mem_of_getElem? (i := 41) (by decide +kernel)), by decide +kernel⟩
theorem cs_Mo_dsaVerify_592 : a_CS M_Mo_dsaVerify M_Mo_addProducts 311 3 0 3 := ⟨⟨ok_Mo_addProducts, by decide, by decide, by decide⟩, List.mem_append_right _ (List.mem_of_getElem? (i := 1340) (by decide +kernel)), List.mem_append_right _ (List.mem_of_getElem? (i := 1341) (by decide +kernel)), by decide +kernel⟩
theorem cs_Mo_dsaVerify_612 : a_CV M_Mo_dsaVerify M_Mo_interpolate 315 10 2 0 1 := ⟨⟨ok_Mo_interpolate, by decide, by decide, by decide⟩, by decide, rfl, List.mem_append_right _ (List.mem_of_getElem? (i := 1343) (by decide +kernel)), List.mem_append_right _ (List.mem_of_getElem? (i := 1345) (by decide +kernel)), List.mem_append_left _ (List.mem_of_getElem? (i := 53) (by decide +kernel)), by decide +kernel⟩
theorem cs_Mo_dsaVerify_656 : a_CV M_Mo_dsaVerify M_Mo_high 343 10 2 0 1 := ⟨⟨ok_Mo_high, by decide, by decide, by decide⟩, by decide, rfl, List.mem_append_right _ (List.mem_of_getElem? (i := 1390) (by decide +kernel)), List.mem_append_right _ (List.mem_of_getElem? (i := 1392) (by decide +kernel)), List.mem_append_left _ (List.mem_of_getElem? (i := 62) (by decide +kernel)), by decide +kernel⟩
theorem cs_Mo_dsaVerify_677 : a_CV M_Mo_dsaVerify M_Mo_low 357 10 2 0 1 := ⟨⟨ok_Mo_low, by decide, by decide, by decide⟩, by decide, rfl, List.mem_append_right _ (List.mem_of_getElem? (i := 1411) (by decide +kernel)), List.mem_append_right _ (List.mem_of_getElem? (i := 1413) (by decide +kernel)), List.mem_append_left _ (List.mem_of_getElem? (i := 66) (by decide +kernel)), by decide +kernel⟩
theorem cs_Mo_dsaVerify_739 : a_CV M_Mo_dsaVerify M_Mo_challenge 346 10 3 0 2 := ⟨⟨ok_Mo_challenge, by decide, by decide, by decide⟩, by decide, rfl, List.mem_append_right _ (List.mem_of_getElem? (i := 1395) (by decide +kernel)), List.mem_append_right _ (List.mem_of_getElem? (i := 1397) (by decide +kernel)), List.mem_append_left _ (List.mem_of_getElem? (i := 63) (by decide +kernel)), by decide +kernel⟩
theorem cs_Mo_dsaVerify_759 : a_CS M_Mo_dsaVerify M_Mo_move 318 5 0 5 := ⟨⟨ok_Mo_move, by decide, by decide, by decide⟩, List.mem_append_right _ (List.mem_of_getElem? (i := 1348) (by decide +kernel)), List.mem_append_right _ (List.mem_of_getElem? (i := 1349) (by decide +kernel)), by decide +kernel⟩
theorem cs_Mo_dsaVerify_789 : a_CS M_Mo_dsaVerify M_Mo_alike 366 5 0 5 := ⟨⟨ok_Mo_alike, by decide, by decide, by decide⟩, List.mem_append_right _ (List.mem_of_getElem? (i := 1424) (by decide +kernel)), List.mem_append_right _ (List.mem_of_getElem? (i := 1425) (by decide +kernel)), by decide +kernel⟩
theorem d_La_law_0 : decode (a_cc M_law) 0 = .ok (.new 8, 3) := by decide +kernel
theorem d_La_law_3 : decode (a_cc M_law) 3 = .ok (.dup, 1) := by decide +kernel
theorem d_La_law_4 : decode (a_cc M_law) 4 = .ok (.invokespecial 58, 3) := by decide +kernel
theorem d_La_law_7 : decode (a_cc M_law) 7 = .ok (.astore_n 1, 1) := by decide +kernel
theorem d_La_law_8 : decode (a_cc M_law) 8 = .ok (.new 59, 3) := by decide +kernel
theorem d_La_law_11 : decode (a_cc M_law) 11 = .ok (.dup, 1) := by decide +kernel
theorem d_La_law_12 : decode (a_cc M_law) 12 = .ok (.invokespecial 61, 3) := by decide +kernel
theorem d_La_law_15 : decode (a_cc M_law) 15 = .ok (.astore_n 2, 1) := by decide +kernel
theorem d_La_law_16 : decode (a_cc M_law) 16 = .ok (.iconst 1, 1) := by decide +kernel
theorem d_La_law_17 : decode (a_cc M_law) 17 = .ok (.newarray .long, 2) := by decide +kernel
theorem d_La_law_19 : decode (a_cc M_law) 19 = .ok (.astore_n 3, 1) := by decide +kernel
theorem d_La_law_20 : decode (a_cc M_law) 20 = .ok (.iconst 0, 1) := by decide +kernel
theorem d_La_law_21 : decode (a_cc M_law) 21 = .ok (.istore 4, 2) := by decide +kernel
theorem d_La_law_23 : decode (a_cc M_law) 23 = .ok (.iload 4, 2) := by decide +kernel
theorem d_La_law_25 : decode (a_cc M_law) 25 = .ok (.aload_n 0, 1) := by decide +kernel
theorem d_La_law_26 : decode (a_cc M_law) 26 = .ok (.arraylength, 1) := by decide +kernel
theorem d_La_law_27 : decode (a_cc M_law) 27 = .ok (.bipush 6, 2) := by decide +kernel
theorem d_La_law_29 : decode (a_cc M_law) 29 = .ok (.isub, 1) := by decide +kernel
theorem d_La_law_30 : decode (a_cc M_law) 30 = .ok (.if_icmp .gt 861, 3) := by decide +kernel
theorem d_La_law_33 : decode (a_cc M_law) 33 = .ok (.aload_n 0, 1) := by decide +kernel
theorem d_La_law_34 : decode (a_cc M_law) 34 = .ok (.iload 4, 2) := by decide +kernel
theorem d_La_law_36 : decode (a_cc M_law) 36 = .ok (.iaload, 1) := by decide +kernel
theorem d_La_law_37 : decode (a_cc M_law) 37 = .ok (.bipush 15, 2) := by decide +kernel
theorem d_La_law_39 : decode (a_cc M_law) 39 = .ok (.iand, 1) := by decide +kernel
theorem d_La_law_40 : decode (a_cc M_law) 40 = .ok (.tableswitch 845 0 10 #[60, 164, 232, 300, 368, 448, 504, 571, 646, 702, 770], 60) := by decide +kernel
theorem d_La_law_100 : decode (a_cc M_law) 100 = .ok (.aload_n 1, 1) := by decide +kernel
theorem d_La_law_101 : decode (a_cc M_law) 101 = .ok (.aload_n 0, 1) := by decide +kernel
theorem d_La_law_102 : decode (a_cc M_law) 102 = .ok (.iload 4, 2) := by decide +kernel
theorem d_La_law_104 : decode (a_cc M_law) 104 = .ok (.iconst 1, 1) := by decide +kernel
theorem d_La_law_105 : decode (a_cc M_law) 105 = .ok (.iadd, 1) := by decide +kernel
theorem d_La_law_106 : decode (a_cc M_law) 106 = .ok (.iaload, 1) := by decide +kernel
theorem d_La_law_107 : decode (a_cc M_law) 107 = .ok (.aload_n 0, 1) := by decide +kernel
theorem d_La_law_108 : decode (a_cc M_law) 108 = .ok (.iload 4, 2) := by decide +kernel
theorem d_La_law_110 : decode (a_cc M_law) 110 = .ok (.iconst 2, 1) := by decide +kernel
theorem d_La_law_111 : decode (a_cc M_law) 111 = .ok (.iadd, 1) := by decide +kernel
theorem d_La_law_112 : decode (a_cc M_law) 112 = .ok (.iaload, 1) := by decide +kernel
theorem d_La_law_113 : decode (a_cc M_law) 113 = .ok (.aload_n 0, 1) := by decide +kernel
theorem d_La_law_114 : decode (a_cc M_law) 114 = .ok (.iload 4, 2) := by decide +kernel
theorem d_La_law_116 : decode (a_cc M_law) 116 = .ok (.iconst 3, 1) := by decide +kernel
theorem d_La_law_117 : decode (a_cc M_law) 117 = .ok (.iadd, 1) := by decide +kernel
theorem d_La_law_118 : decode (a_cc M_law) 118 = .ok (.iaload, 1) := by decide +kernel
theorem d_La_law_119 : decode (a_cc M_law) 119 = .ok (.aload_n 0, 1) := by decide +kernel
theorem d_La_law_120 : decode (a_cc M_law) 120 = .ok (.iload 4, 2) := by decide +kernel
theorem d_La_law_122 : decode (a_cc M_law) 122 = .ok (.iconst 4, 1) := by decide +kernel
theorem d_La_law_123 : decode (a_cc M_law) 123 = .ok (.iadd, 1) := by decide +kernel
theorem d_La_law_124 : decode (a_cc M_law) 124 = .ok (.iaload, 1) := by decide +kernel
theorem d_La_law_125 : decode (a_cc M_law) 125 = .ok (.aload_n 0, 1) := by decide +kernel
theorem d_La_law_126 : decode (a_cc M_law) 126 = .ok (.iload 4, 2) := by decide +kernel
theorem d_La_law_128 : decode (a_cc M_law) 128 = .ok (.iconst 5, 1) := by decide +kernel
theorem d_La_law_129 : decode (a_cc M_law) 129 = .ok (.iadd, 1) := by decide +kernel
theorem d_La_law_130 : decode (a_cc M_law) 130 = .ok (.iaload, 1) := by decide +kernel
theorem d_La_law_131 : decode (a_cc M_law) 131 = .ok (.aload_n 3, 1) := by decide +kernel
theorem d_La_law_132 : decode (a_cc M_law) 132 = .ok (.invokestatic 62, 3) := by decide +kernel
theorem d_La_law_135 : decode (a_cc M_law) 135 = .ok (.istore 5, 2) := by decide +kernel
theorem d_La_law_137 : decode (a_cc M_law) 137 = .ok (.aload_n 2, 1) := by decide +kernel
theorem d_La_law_138 : decode (a_cc M_law) 138 = .ok (.aload_n 0, 1) := by decide +kernel
theorem d_La_law_139 : decode (a_cc M_law) 139 = .ok (.iload 4, 2) := by decide +kernel
theorem d_La_law_141 : decode (a_cc M_law) 141 = .ok (.iconst 1, 1) := by decide +kernel
theorem d_La_law_142 : decode (a_cc M_law) 142 = .ok (.iadd, 1) := by decide +kernel
theorem d_La_law_143 : decode (a_cc M_law) 143 = .ok (.iaload, 1) := by decide +kernel
theorem d_La_law_144 : decode (a_cc M_law) 144 = .ok (.aload_n 0, 1) := by decide +kernel
theorem d_La_law_145 : decode (a_cc M_law) 145 = .ok (.iload 4, 2) := by decide +kernel
theorem d_La_law_147 : decode (a_cc M_law) 147 = .ok (.iconst 2, 1) := by decide +kernel
theorem d_La_law_148 : decode (a_cc M_law) 148 = .ok (.iadd, 1) := by decide +kernel
theorem d_La_law_149 : decode (a_cc M_law) 149 = .ok (.iaload, 1) := by decide +kernel
theorem d_La_law_150 : decode (a_cc M_law) 150 = .ok (.aload_n 0, 1) := by decide +kernel
theorem d_La_law_151 : decode (a_cc M_law) 151 = .ok (.iload 4, 2) := by decide +kernel
theorem d_La_law_153 : decode (a_cc M_law) 153 = .ok (.iconst 3, 1) := by decide +kernel
theorem d_La_law_154 : decode (a_cc M_law) 154 = .ok (.iadd, 1) := by decide +kernel
theorem d_La_law_155 : decode (a_cc M_law) 155 = .ok (.iaload, 1) := by decide +kernel
theorem d_La_law_156 : decode (a_cc M_law) 156 = .ok (.aload_n 0, 1) := by decide +kernel
theorem d_La_law_157 : decode (a_cc M_law) 157 = .ok (.iload 4, 2) := by decide +kernel
theorem d_La_law_159 : decode (a_cc M_law) 159 = .ok (.iconst 4, 1) := by decide +kernel
theorem d_La_law_160 : decode (a_cc M_law) 160 = .ok (.iadd, 1) := by decide +kernel
theorem d_La_law_161 : decode (a_cc M_law) 161 = .ok (.iaload, 1) := by decide +kernel
theorem d_La_law_162 : decode (a_cc M_law) 162 = .ok (.aload_n 0, 1) := by decide +kernel
theorem d_La_law_163 : decode (a_cc M_law) 163 = .ok (.iload 4, 2) := by decide +kernel
theorem d_La_law_165 : decode (a_cc M_law) 165 = .ok (.iconst 5, 1) := by decide +kernel
theorem d_La_law_166 : decode (a_cc M_law) 166 = .ok (.iadd, 1) := by decide +kernel
theorem d_La_law_167 : decode (a_cc M_law) 167 = .ok (.iaload, 1) := by decide +kernel
theorem d_La_law_168 : decode (a_cc M_law) 168 = .ok (.invokevirtual 67, 3) := by decide +kernel
theorem d_La_law_171 : decode (a_cc M_law) 171 = .ok (.istore 6, 2) := by decide +kernel
theorem d_La_law_173 : decode (a_cc M_law) 173 = .ok (.aload_n 2, 1) := by decide +kernel
theorem d_La_law_174 : decode (a_cc M_law) 174 = .ok (.invokevirtual 68, 3) := by decide +kernel
theorem d_La_law_177 : decode (a_cc M_law) 177 = .ok (.iload 5, 2) := by decide +kernel
theorem d_La_law_179 : decode (a_cc M_law) 179 = .ok (.if_icmp .eq 5, 3) := by decide +kernel
theorem d_La_law_182 : decode (a_cc M_law) 182 = .ok (.iconst 0, 1) := by decide +kernel
theorem d_La_law_183 : decode (a_cc M_law) 183 = .ok (.ireturn, 1) := by decide +kernel
theorem d_La_law_184 : decode (a_cc M_law) 184 = .ok (.iload 5, 2) := by decide +kernel
theorem d_La_law_186 : decode (a_cc M_law) 186 = .ok (.ifCond .ne 15, 3) := by decide +kernel
theorem d_La_law_189 : decode (a_cc M_law) 189 = .ok (.aload_n 3, 1) := by decide +kernel
theorem d_La_law_190 : decode (a_cc M_law) 190 = .ok (.iconst 0, 1) := by decide +kernel
theorem d_La_law_191 : decode (a_cc M_law) 191 = .ok (.laload, 1) := by decide +kernel
theorem d_La_law_192 : decode (a_cc M_law) 192 = .ok (.iload 6, 2) := by decide +kernel
theorem d_La_law_194 : decode (a_cc M_law) 194 = .ok (.i2l, 1) := by decide +kernel
theorem d_La_law_195 : decode (a_cc M_law) 195 = .ok (.lcmp, 1) := by decide +kernel
theorem d_La_law_196 : decode (a_cc M_law) 196 = .ok (.ifCond .eq 5, 3) := by decide +kernel
theorem d_La_law_199 : decode (a_cc M_law) 199 = .ok (.iconst 0, 1) := by decide +kernel
theorem d_La_law_200 : decode (a_cc M_law) 200 = .ok (.ireturn, 1) := by decide +kernel
theorem d_La_law_201 : decode (a_cc M_law) 201 = .ok (.goto 684, 3) := by decide +kernel
theorem d_La_law_204 : decode (a_cc M_law) 204 = .ok (.aload_n 1, 1) := by decide +kernel
theorem d_La_law_205 : decode (a_cc M_law) 205 = .ok (.aload_n 0, 1) := by decide +kernel
theorem d_La_law_206 : decode (a_cc M_law) 206 = .ok (.iload 4, 2) := by decide +kernel
theorem d_La_law_208 : decode (a_cc M_law) 208 = .ok (.iconst 1, 1) := by decide +kernel
theorem d_La_law_209 : decode (a_cc M_law) 209 = .ok (.iadd, 1) := by decide +kernel
theorem d_La_law_210 : decode (a_cc M_law) 210 = .ok (.iaload, 1) := by decide +kernel
theorem d_La_law_211 : decode (a_cc M_law) 211 = .ok (.aload_n 0, 1) := by decide +kernel
theorem d_La_law_212 : decode (a_cc M_law) 212 = .ok (.iload 4, 2) := by decide +kernel
theorem d_La_law_214 : decode (a_cc M_law) 214 = .ok (.iconst 2, 1) := by decide +kernel
theorem d_La_law_215 : decode (a_cc M_law) 215 = .ok (.iadd, 1) := by decide +kernel
theorem d_La_law_216 : decode (a_cc M_law) 216 = .ok (.iaload, 1) := by decide +kernel
theorem d_La_law_217 : decode (a_cc M_law) 217 = .ok (.aload_n 3, 1) := by decide +kernel
theorem d_La_law_218 : decode (a_cc M_law) 218 = .ok (.invokestatic 72, 3) := by decide +kernel
theorem d_La_law_221 : decode (a_cc M_law) 221 = .ok (.istore 5, 2) := by decide +kernel
theorem d_La_law_223 : decode (a_cc M_law) 223 = .ok (.aload_n 2, 1) := by decide +kernel
theorem d_La_law_224 : decode (a_cc M_law) 224 = .ok (.aload_n 0, 1) := by decide +kernel
theorem d_La_law_225 : decode (a_cc M_law) 225 = .ok (.iload 4, 2) := by decide +kernel
theorem d_La_law_227 : decode (a_cc M_law) 227 = .ok (.iconst 1, 1) := by decide +kernel
theorem d_La_law_228 : decode (a_cc M_law) 228 = .ok (.iadd, 1) := by decide +kernel
theorem d_La_law_229 : decode (a_cc M_law) 229 = .ok (.iaload, 1) := by decide +kernel
theorem d_La_law_230 : decode (a_cc M_law) 230 = .ok (.aload_n 0, 1) := by decide +kernel
theorem d_La_law_231 : decode (a_cc M_law) 231 = .ok (.iload 4, 2) := by decide +kernel
theorem d_La_law_233 : decode (a_cc M_law) 233 = .ok (.iconst 2, 1) := by decide +kernel
theorem d_La_law_234 : decode (a_cc M_law) 234 = .ok (.iadd, 1) := by decide +kernel
theorem d_La_law_235 : decode (a_cc M_law) 235 = .ok (.iaload, 1) := by decide +kernel
theorem d_La_law_236 : decode (a_cc M_law) 236 = .ok (.invokevirtual 75, 3) := by decide +kernel
theorem d_La_law_239 : decode (a_cc M_law) 239 = .ok (.istore 6, 2) := by decide +kernel
theorem d_La_law_241 : decode (a_cc M_law) 241 = .ok (.aload_n 2, 1) := by decide +kernel
theorem d_La_law_242 : decode (a_cc M_law) 242 = .ok (.invokevirtual 68, 3) := by decide +kernel
theorem d_La_law_245 : decode (a_cc M_law) 245 = .ok (.iload 5, 2) := by decide +kernel
theorem d_La_law_247 : decode (a_cc M_law) 247 = .ok (.if_icmp .eq 5, 3) := by decide +kernel
theorem d_La_law_250 : decode (a_cc M_law) 250 = .ok (.iconst 0, 1) := by decide +kernel
theorem d_La_law_251 : decode (a_cc M_law) 251 = .ok (.ireturn, 1) := by decide +kernel
theorem d_La_law_252 : decode (a_cc M_law) 252 = .ok (.iload 5, 2) := by decide +kernel
theorem d_La_law_254 : decode (a_cc M_law) 254 = .ok (.ifCond .ne 15, 3) := by decide +kernel
theorem d_La_law_257 : decode (a_cc M_law) 257 = .ok (.aload_n 3, 1) := by decide +kernel
theorem d_La_law_258 : decode (a_cc M_law) 258 = .ok (.iconst 0, 1) := by decide +kernel
theorem d_La_law_259 : decode (a_cc M_law) 259 = .ok (.laload, 1) := by decide +kernel
theorem d_La_law_260 : decode (a_cc M_law) 260 = .ok (.iload 6, 2) := by decide +kernel
theorem d_La_law_262 : decode (a_cc M_law) 262 = .ok (.i2l, 1) := by decide +kernel
theorem d_La_law_263 : decode (a_cc M_law) 263 = .ok (.lcmp, 1) := by decide +kernel
theorem d_La_law_264 : decode (a_cc M_law) 264 = .ok (.ifCond .eq 5, 3) := by decide +kernel
theorem d_La_law_267 : decode (a_cc M_law) 267 = .ok (.iconst 0, 1) := by decide +kernel
theorem d_La_law_268 : decode (a_cc M_law) 268 = .ok (.ireturn, 1) := by decide +kernel
theorem d_La_law_269 : decode (a_cc M_law) 269 = .ok (.goto 616, 3) := by decide +kernel
theorem d_La_law_272 : decode (a_cc M_law) 272 = .ok (.aload_n 1, 1) := by decide +kernel
theorem d_La_law_273 : decode (a_cc M_law) 273 = .ok (.aload_n 0, 1) := by decide +kernel
theorem d_La_law_274 : decode (a_cc M_law) 274 = .ok (.iload 4, 2) := by decide +kernel
theorem d_La_law_276 : decode (a_cc M_law) 276 = .ok (.iconst 1, 1) := by decide +kernel
theorem d_La_law_277 : decode (a_cc M_law) 277 = .ok (.iadd, 1) := by decide +kernel
theorem d_La_law_278 : decode (a_cc M_law) 278 = .ok (.iaload, 1) := by decide +kernel
theorem d_La_law_279 : decode (a_cc M_law) 279 = .ok (.aload_n 0, 1) := by decide +kernel
theorem d_La_law_280 : decode (a_cc M_law) 280 = .ok (.iload 4, 2) := by decide +kernel
theorem d_La_law_282 : decode (a_cc M_law) 282 = .ok (.iconst 2, 1) := by decide +kernel
theorem d_La_law_283 : decode (a_cc M_law) 283 = .ok (.iadd, 1) := by decide +kernel
theorem d_La_law_284 : decode (a_cc M_law) 284 = .ok (.iaload, 1) := by decide +kernel
theorem d_La_law_285 : decode (a_cc M_law) 285 = .ok (.aload_n 3, 1) := by decide +kernel
theorem d_La_law_286 : decode (a_cc M_law) 286 = .ok (.invokestatic 76, 3) := by decide +kernel
theorem d_La_law_289 : decode (a_cc M_law) 289 = .ok (.istore 5, 2) := by decide +kernel
theorem d_La_law_291 : decode (a_cc M_law) 291 = .ok (.aload_n 2, 1) := by decide +kernel
theorem d_La_law_292 : decode (a_cc M_law) 292 = .ok (.aload_n 0, 1) := by decide +kernel
theorem d_La_law_293 : decode (a_cc M_law) 293 = .ok (.iload 4, 2) := by decide +kernel
theorem d_La_law_295 : decode (a_cc M_law) 295 = .ok (.iconst 1, 1) := by decide +kernel
theorem d_La_law_296 : decode (a_cc M_law) 296 = .ok (.iadd, 1) := by decide +kernel
theorem d_La_law_297 : decode (a_cc M_law) 297 = .ok (.iaload, 1) := by decide +kernel
theorem d_La_law_298 : decode (a_cc M_law) 298 = .ok (.aload_n 0, 1) := by decide +kernel
theorem d_La_law_299 : decode (a_cc M_law) 299 = .ok (.iload 4, 2) := by decide +kernel
theorem d_La_law_301 : decode (a_cc M_law) 301 = .ok (.iconst 2, 1) := by decide +kernel
theorem d_La_law_302 : decode (a_cc M_law) 302 = .ok (.iadd, 1) := by decide +kernel
theorem d_La_law_303 : decode (a_cc M_law) 303 = .ok (.iaload, 1) := by decide +kernel
theorem d_La_law_304 : decode (a_cc M_law) 304 = .ok (.invokevirtual 78, 3) := by decide +kernel
theorem d_La_law_307 : decode (a_cc M_law) 307 = .ok (.istore 6, 2) := by decide +kernel
theorem d_La_law_309 : decode (a_cc M_law) 309 = .ok (.aload_n 2, 1) := by decide +kernel
theorem d_La_law_310 : decode (a_cc M_law) 310 = .ok (.invokevirtual 68, 3) := by decide +kernel
theorem d_La_law_313 : decode (a_cc M_law) 313 = .ok (.iload 5, 2) := by decide +kernel
theorem d_La_law_315 : decode (a_cc M_law) 315 = .ok (.if_icmp .eq 5, 3) := by decide +kernel
theorem d_La_law_318 : decode (a_cc M_law) 318 = .ok (.iconst 0, 1) := by decide +kernel
theorem d_La_law_319 : decode (a_cc M_law) 319 = .ok (.ireturn, 1) := by decide +kernel
theorem d_La_law_320 : decode (a_cc M_law) 320 = .ok (.iload 5, 2) := by decide +kernel
theorem d_La_law_322 : decode (a_cc M_law) 322 = .ok (.ifCond .ne 15, 3) := by decide +kernel
theorem d_La_law_325 : decode (a_cc M_law) 325 = .ok (.aload_n 3, 1) := by decide +kernel
theorem d_La_law_326 : decode (a_cc M_law) 326 = .ok (.iconst 0, 1) := by decide +kernel
theorem d_La_law_327 : decode (a_cc M_law) 327 = .ok (.laload, 1) := by decide +kernel
theorem d_La_law_328 : decode (a_cc M_law) 328 = .ok (.iload 6, 2) := by decide +kernel
theorem d_La_law_330 : decode (a_cc M_law) 330 = .ok (.i2l, 1) := by decide +kernel
theorem d_La_law_331 : decode (a_cc M_law) 331 = .ok (.lcmp, 1) := by decide +kernel
theorem d_La_law_332 : decode (a_cc M_law) 332 = .ok (.ifCond .eq 5, 3) := by decide +kernel
theorem d_La_law_335 : decode (a_cc M_law) 335 = .ok (.iconst 0, 1) := by decide +kernel
theorem d_La_law_336 : decode (a_cc M_law) 336 = .ok (.ireturn, 1) := by decide +kernel
theorem d_La_law_337 : decode (a_cc M_law) 337 = .ok (.goto 548, 3) := by decide +kernel
theorem d_La_law_340 : decode (a_cc M_law) 340 = .ok (.aload_n 1, 1) := by decide +kernel
theorem d_La_law_341 : decode (a_cc M_law) 341 = .ok (.aload_n 0, 1) := by decide +kernel
theorem d_La_law_342 : decode (a_cc M_law) 342 = .ok (.iload 4, 2) := by decide +kernel
theorem d_La_law_344 : decode (a_cc M_law) 344 = .ok (.iconst 1, 1) := by decide +kernel
theorem d_La_law_345 : decode (a_cc M_law) 345 = .ok (.iadd, 1) := by decide +kernel
theorem d_La_law_346 : decode (a_cc M_law) 346 = .ok (.iaload, 1) := by decide +kernel
theorem d_La_law_347 : decode (a_cc M_law) 347 = .ok (.aload_n 0, 1) := by decide +kernel
theorem d_La_law_348 : decode (a_cc M_law) 348 = .ok (.iload 4, 2) := by decide +kernel
theorem d_La_law_350 : decode (a_cc M_law) 350 = .ok (.iconst 2, 1) := by decide +kernel
theorem d_La_law_351 : decode (a_cc M_law) 351 = .ok (.iadd, 1) := by decide +kernel
theorem d_La_law_352 : decode (a_cc M_law) 352 = .ok (.iaload, 1) := by decide +kernel
theorem d_La_law_353 : decode (a_cc M_law) 353 = .ok (.aload_n 3, 1) := by decide +kernel
theorem d_La_law_354 : decode (a_cc M_law) 354 = .ok (.invokestatic 79, 3) := by decide +kernel
theorem d_La_law_357 : decode (a_cc M_law) 357 = .ok (.istore 5, 2) := by decide +kernel
theorem d_La_law_359 : decode (a_cc M_law) 359 = .ok (.aload_n 2, 1) := by decide +kernel
theorem d_La_law_360 : decode (a_cc M_law) 360 = .ok (.aload_n 0, 1) := by decide +kernel
theorem d_La_law_361 : decode (a_cc M_law) 361 = .ok (.iload 4, 2) := by decide +kernel
theorem d_La_law_363 : decode (a_cc M_law) 363 = .ok (.iconst 1, 1) := by decide +kernel
theorem d_La_law_364 : decode (a_cc M_law) 364 = .ok (.iadd, 1) := by decide +kernel
theorem d_La_law_365 : decode (a_cc M_law) 365 = .ok (.iaload, 1) := by decide +kernel
theorem d_La_law_366 : decode (a_cc M_law) 366 = .ok (.aload_n 0, 1) := by decide +kernel
theorem d_La_law_367 : decode (a_cc M_law) 367 = .ok (.iload 4, 2) := by decide +kernel
theorem d_La_law_369 : decode (a_cc M_law) 369 = .ok (.iconst 2, 1) := by decide +kernel
theorem d_La_law_370 : decode (a_cc M_law) 370 = .ok (.iadd, 1) := by decide +kernel
theorem d_La_law_371 : decode (a_cc M_law) 371 = .ok (.iaload, 1) := by decide +kernel
theorem d_La_law_372 : decode (a_cc M_law) 372 = .ok (.invokevirtual 81, 3) := by decide +kernel
theorem d_La_law_375 : decode (a_cc M_law) 375 = .ok (.istore 6, 2) := by decide +kernel
theorem d_La_law_377 : decode (a_cc M_law) 377 = .ok (.aload_n 2, 1) := by decide +kernel
theorem d_La_law_378 : decode (a_cc M_law) 378 = .ok (.invokevirtual 68, 3) := by decide +kernel
theorem d_La_law_381 : decode (a_cc M_law) 381 = .ok (.iload 5, 2) := by decide +kernel
theorem d_La_law_383 : decode (a_cc M_law) 383 = .ok (.if_icmp .eq 5, 3) := by decide +kernel
theorem d_La_law_386 : decode (a_cc M_law) 386 = .ok (.iconst 0, 1) := by decide +kernel
theorem d_La_law_387 : decode (a_cc M_law) 387 = .ok (.ireturn, 1) := by decide +kernel
theorem d_La_law_388 : decode (a_cc M_law) 388 = .ok (.iload 5, 2) := by decide +kernel
theorem d_La_law_390 : decode (a_cc M_law) 390 = .ok (.ifCond .ne 15, 3) := by decide +kernel
theorem d_La_law_393 : decode (a_cc M_law) 393 = .ok (.aload_n 3, 1) := by decide +kernel
theorem d_La_law_394 : decode (a_cc M_law) 394 = .ok (.iconst 0, 1) := by decide +kernel
theorem d_La_law_395 : decode (a_cc M_law) 395 = .ok (.laload, 1) := by decide +kernel
theorem d_La_law_396 : decode (a_cc M_law) 396 = .ok (.iload 6, 2) := by decide +kernel
theorem d_La_law_398 : decode (a_cc M_law) 398 = .ok (.i2l, 1) := by decide +kernel
theorem d_La_law_399 : decode (a_cc M_law) 399 = .ok (.lcmp, 1) := by decide +kernel
theorem d_La_law_400 : decode (a_cc M_law) 400 = .ok (.ifCond .eq 5, 3) := by decide +kernel
theorem d_La_law_403 : decode (a_cc M_law) 403 = .ok (.iconst 0, 1) := by decide +kernel
theorem d_La_law_404 : decode (a_cc M_law) 404 = .ok (.ireturn, 1) := by decide +kernel
theorem d_La_law_405 : decode (a_cc M_law) 405 = .ok (.goto 480, 3) := by decide +kernel
theorem d_La_law_408 : decode (a_cc M_law) 408 = .ok (.aload_n 1, 1) := by decide +kernel
theorem d_La_law_409 : decode (a_cc M_law) 409 = .ok (.aload_n 0, 1) := by decide +kernel
theorem d_La_law_410 : decode (a_cc M_law) 410 = .ok (.iload 4, 2) := by decide +kernel
theorem d_La_law_412 : decode (a_cc M_law) 412 = .ok (.iconst 1, 1) := by decide +kernel
theorem d_La_law_413 : decode (a_cc M_law) 413 = .ok (.iadd, 1) := by decide +kernel
theorem d_La_law_414 : decode (a_cc M_law) 414 = .ok (.iaload, 1) := by decide +kernel
theorem d_La_law_415 : decode (a_cc M_law) 415 = .ok (.aload_n 0, 1) := by decide +kernel
theorem d_La_law_416 : decode (a_cc M_law) 416 = .ok (.iload 4, 2) := by decide +kernel
theorem d_La_law_418 : decode (a_cc M_law) 418 = .ok (.iconst 2, 1) := by decide +kernel
theorem d_La_law_419 : decode (a_cc M_law) 419 = .ok (.iadd, 1) := by decide +kernel
theorem d_La_law_420 : decode (a_cc M_law) 420 = .ok (.iaload, 1) := by decide +kernel
theorem d_La_law_421 : decode (a_cc M_law) 421 = .ok (.aload_n 0, 1) := by decide +kernel
theorem d_La_law_422 : decode (a_cc M_law) 422 = .ok (.iload 4, 2) := by decide +kernel
theorem d_La_law_424 : decode (a_cc M_law) 424 = .ok (.iconst 3, 1) := by decide +kernel
theorem d_La_law_425 : decode (a_cc M_law) 425 = .ok (.iadd, 1) := by decide +kernel
theorem d_La_law_426 : decode (a_cc M_law) 426 = .ok (.iaload, 1) := by decide +kernel
theorem d_La_law_427 : decode (a_cc M_law) 427 = .ok (.aload_n 3, 1) := by decide +kernel
theorem d_La_law_428 : decode (a_cc M_law) 428 = .ok (.invokestatic 82, 3) := by decide +kernel
theorem d_La_law_431 : decode (a_cc M_law) 431 = .ok (.istore 5, 2) := by decide +kernel
theorem d_La_law_433 : decode (a_cc M_law) 433 = .ok (.aload_n 2, 1) := by decide +kernel
theorem d_La_law_434 : decode (a_cc M_law) 434 = .ok (.aload_n 0, 1) := by decide +kernel
theorem d_La_law_435 : decode (a_cc M_law) 435 = .ok (.iload 4, 2) := by decide +kernel
theorem d_La_law_437 : decode (a_cc M_law) 437 = .ok (.iconst 1, 1) := by decide +kernel
theorem d_La_law_438 : decode (a_cc M_law) 438 = .ok (.iadd, 1) := by decide +kernel
theorem d_La_law_439 : decode (a_cc M_law) 439 = .ok (.iaload, 1) := by decide +kernel
theorem d_La_law_440 : decode (a_cc M_law) 440 = .ok (.aload_n 0, 1) := by decide +kernel
theorem d_La_law_441 : decode (a_cc M_law) 441 = .ok (.iload 4, 2) := by decide +kernel
theorem d_La_law_443 : decode (a_cc M_law) 443 = .ok (.iconst 2, 1) := by decide +kernel
theorem d_La_law_444 : decode (a_cc M_law) 444 = .ok (.iadd, 1) := by decide +kernel
theorem d_La_law_445 : decode (a_cc M_law) 445 = .ok (.iaload, 1) := by decide +kernel
theorem d_La_law_446 : decode (a_cc M_law) 446 = .ok (.aload_n 0, 1) := by decide +kernel
theorem d_La_law_447 : decode (a_cc M_law) 447 = .ok (.iload 4, 2) := by decide +kernel
theorem d_La_law_449 : decode (a_cc M_law) 449 = .ok (.iconst 3, 1) := by decide +kernel
theorem d_La_law_450 : decode (a_cc M_law) 450 = .ok (.iadd, 1) := by decide +kernel
theorem d_La_law_451 : decode (a_cc M_law) 451 = .ok (.iaload, 1) := by decide +kernel
theorem d_La_law_452 : decode (a_cc M_law) 452 = .ok (.invokevirtual 85, 3) := by decide +kernel
theorem d_La_law_455 : decode (a_cc M_law) 455 = .ok (.istore 6, 2) := by decide +kernel
theorem d_La_law_457 : decode (a_cc M_law) 457 = .ok (.aload_n 2, 1) := by decide +kernel
theorem d_La_law_458 : decode (a_cc M_law) 458 = .ok (.invokevirtual 68, 3) := by decide +kernel
theorem d_La_law_461 : decode (a_cc M_law) 461 = .ok (.iload 5, 2) := by decide +kernel
theorem d_La_law_463 : decode (a_cc M_law) 463 = .ok (.if_icmp .eq 5, 3) := by decide +kernel
theorem d_La_law_466 : decode (a_cc M_law) 466 = .ok (.iconst 0, 1) := by decide +kernel
theorem d_La_law_467 : decode (a_cc M_law) 467 = .ok (.ireturn, 1) := by decide +kernel
theorem d_La_law_468 : decode (a_cc M_law) 468 = .ok (.iload 5, 2) := by decide +kernel
theorem d_La_law_470 : decode (a_cc M_law) 470 = .ok (.ifCond .ne 15, 3) := by decide +kernel
theorem d_La_law_473 : decode (a_cc M_law) 473 = .ok (.aload_n 3, 1) := by decide +kernel
theorem d_La_law_474 : decode (a_cc M_law) 474 = .ok (.iconst 0, 1) := by decide +kernel
theorem d_La_law_475 : decode (a_cc M_law) 475 = .ok (.laload, 1) := by decide +kernel
theorem d_La_law_476 : decode (a_cc M_law) 476 = .ok (.iload 6, 2) := by decide +kernel
theorem d_La_law_478 : decode (a_cc M_law) 478 = .ok (.i2l, 1) := by decide +kernel
theorem d_La_law_479 : decode (a_cc M_law) 479 = .ok (.lcmp, 1) := by decide +kernel
theorem d_La_law_480 : decode (a_cc M_law) 480 = .ok (.ifCond .eq 5, 3) := by decide +kernel
theorem d_La_law_483 : decode (a_cc M_law) 483 = .ok (.iconst 0, 1) := by decide +kernel
theorem d_La_law_484 : decode (a_cc M_law) 484 = .ok (.ireturn, 1) := by decide +kernel
theorem d_La_law_485 : decode (a_cc M_law) 485 = .ok (.goto 400, 3) := by decide +kernel
theorem d_La_law_488 : decode (a_cc M_law) 488 = .ok (.aload_n 1, 1) := by decide +kernel
theorem d_La_law_489 : decode (a_cc M_law) 489 = .ok (.aload_n 0, 1) := by decide +kernel
theorem d_La_law_490 : decode (a_cc M_law) 490 = .ok (.iload 4, 2) := by decide +kernel
theorem d_La_law_492 : decode (a_cc M_law) 492 = .ok (.iconst 1, 1) := by decide +kernel
theorem d_La_law_493 : decode (a_cc M_law) 493 = .ok (.iadd, 1) := by decide +kernel
theorem d_La_law_494 : decode (a_cc M_law) 494 = .ok (.iaload, 1) := by decide +kernel
theorem d_La_law_495 : decode (a_cc M_law) 495 = .ok (.aload_n 3, 1) := by decide +kernel
theorem d_La_law_496 : decode (a_cc M_law) 496 = .ok (.invokestatic 86, 3) := by decide +kernel
theorem d_La_law_499 : decode (a_cc M_law) 499 = .ok (.istore 5, 2) := by decide +kernel
theorem d_La_law_501 : decode (a_cc M_law) 501 = .ok (.aload_n 2, 1) := by decide +kernel
theorem d_La_law_502 : decode (a_cc M_law) 502 = .ok (.aload_n 0, 1) := by decide +kernel
theorem d_La_law_503 : decode (a_cc M_law) 503 = .ok (.iload 4, 2) := by decide +kernel
theorem d_La_law_505 : decode (a_cc M_law) 505 = .ok (.iconst 1, 1) := by decide +kernel
theorem d_La_law_506 : decode (a_cc M_law) 506 = .ok (.iadd, 1) := by decide +kernel
theorem d_La_law_507 : decode (a_cc M_law) 507 = .ok (.iaload, 1) := by decide +kernel
theorem d_La_law_508 : decode (a_cc M_law) 508 = .ok (.invokevirtual 89, 3) := by decide +kernel
theorem d_La_law_511 : decode (a_cc M_law) 511 = .ok (.istore 6, 2) := by decide +kernel
theorem d_La_law_513 : decode (a_cc M_law) 513 = .ok (.aload_n 2, 1) := by decide +kernel
theorem d_La_law_514 : decode (a_cc M_law) 514 = .ok (.invokevirtual 68, 3) := by decide +kernel
theorem d_La_law_517 : decode (a_cc M_law) 517 = .ok (.iload 5, 2) := by decide +kernel
theorem d_La_law_519 : decode (a_cc M_law) 519 = .ok (.if_icmp .eq 5, 3) := by decide +kernel
theorem d_La_law_522 : decode (a_cc M_law) 522 = .ok (.iconst 0, 1) := by decide +kernel
theorem d_La_law_523 : decode (a_cc M_law) 523 = .ok (.ireturn, 1) := by decide +kernel
theorem d_La_law_524 : decode (a_cc M_law) 524 = .ok (.iload 5, 2) := by decide +kernel
theorem d_La_law_526 : decode (a_cc M_law) 526 = .ok (.ifCond .ne 15, 3) := by decide +kernel
theorem d_La_law_529 : decode (a_cc M_law) 529 = .ok (.aload_n 3, 1) := by decide +kernel
theorem d_La_law_530 : decode (a_cc M_law) 530 = .ok (.iconst 0, 1) := by decide +kernel
theorem d_La_law_531 : decode (a_cc M_law) 531 = .ok (.laload, 1) := by decide +kernel
theorem d_La_law_532 : decode (a_cc M_law) 532 = .ok (.iload 6, 2) := by decide +kernel
theorem d_La_law_534 : decode (a_cc M_law) 534 = .ok (.i2l, 1) := by decide +kernel
theorem d_La_law_535 : decode (a_cc M_law) 535 = .ok (.lcmp, 1) := by decide +kernel
theorem d_La_law_536 : decode (a_cc M_law) 536 = .ok (.ifCond .eq 5, 3) := by decide +kernel
theorem d_La_law_539 : decode (a_cc M_law) 539 = .ok (.iconst 0, 1) := by decide +kernel
theorem d_La_law_540 : decode (a_cc M_law) 540 = .ok (.ireturn, 1) := by decide +kernel
theorem d_La_law_541 : decode (a_cc M_law) 541 = .ok (.goto 344, 3) := by decide +kernel
theorem d_La_law_544 : decode (a_cc M_law) 544 = .ok (.aload_n 1, 1) := by decide +kernel
theorem d_La_law_545 : decode (a_cc M_law) 545 = .ok (.aload_n 0, 1) := by decide +kernel
theorem d_La_law_546 : decode (a_cc M_law) 546 = .ok (.iload 4, 2) := by decide +kernel
theorem d_La_law_548 : decode (a_cc M_law) 548 = .ok (.iconst 1, 1) := by decide +kernel
theorem d_La_law_549 : decode (a_cc M_law) 549 = .ok (.iadd, 1) := by decide +kernel
theorem d_La_law_550 : decode (a_cc M_law) 550 = .ok (.iaload, 1) := by decide +kernel
theorem d_La_law_551 : decode (a_cc M_law) 551 = .ok (.aload_n 0, 1) := by decide +kernel
theorem d_La_law_552 : decode (a_cc M_law) 552 = .ok (.iload 4, 2) := by decide +kernel
theorem d_La_law_554 : decode (a_cc M_law) 554 = .ok (.iconst 2, 1) := by decide +kernel
theorem d_La_law_555 : decode (a_cc M_law) 555 = .ok (.iadd, 1) := by decide +kernel
theorem d_La_law_556 : decode (a_cc M_law) 556 = .ok (.iaload, 1) := by decide +kernel
theorem d_La_law_557 : decode (a_cc M_law) 557 = .ok (.aload_n 3, 1) := by decide +kernel
theorem d_La_law_558 : decode (a_cc M_law) 558 = .ok (.invokestatic 90, 3) := by decide +kernel
theorem d_La_law_561 : decode (a_cc M_law) 561 = .ok (.istore 5, 2) := by decide +kernel
theorem d_La_law_563 : decode (a_cc M_law) 563 = .ok (.aload_n 2, 1) := by decide +kernel
theorem d_La_law_564 : decode (a_cc M_law) 564 = .ok (.aload_n 0, 1) := by decide +kernel
theorem d_La_law_565 : decode (a_cc M_law) 565 = .ok (.iload 4, 2) := by decide +kernel
theorem d_La_law_567 : decode (a_cc M_law) 567 = .ok (.iconst 1, 1) := by decide +kernel
theorem d_La_law_568 : decode (a_cc M_law) 568 = .ok (.iadd, 1) := by decide +kernel
theorem d_La_law_569 : decode (a_cc M_law) 569 = .ok (.iaload, 1) := by decide +kernel
theorem d_La_law_570 : decode (a_cc M_law) 570 = .ok (.aload_n 0, 1) := by decide +kernel
theorem d_La_law_571 : decode (a_cc M_law) 571 = .ok (.iload 4, 2) := by decide +kernel
theorem d_La_law_573 : decode (a_cc M_law) 573 = .ok (.iconst 2, 1) := by decide +kernel
theorem d_La_law_574 : decode (a_cc M_law) 574 = .ok (.iadd, 1) := by decide +kernel
theorem d_La_law_575 : decode (a_cc M_law) 575 = .ok (.iaload, 1) := by decide +kernel
theorem d_La_law_576 : decode (a_cc M_law) 576 = .ok (.invokevirtual 92, 3) := by decide +kernel
theorem d_La_law_579 : decode (a_cc M_law) 579 = .ok (.lstore 6, 2) := by decide +kernel
theorem d_La_law_581 : decode (a_cc M_law) 581 = .ok (.aload_n 2, 1) := by decide +kernel
theorem d_La_law_582 : decode (a_cc M_law) 582 = .ok (.invokevirtual 68, 3) := by decide +kernel
theorem d_La_law_585 : decode (a_cc M_law) 585 = .ok (.iload 5, 2) := by decide +kernel
theorem d_La_law_587 : decode (a_cc M_law) 587 = .ok (.if_icmp .eq 5, 3) := by decide +kernel
theorem d_La_law_590 : decode (a_cc M_law) 590 = .ok (.iconst 0, 1) := by decide +kernel
theorem d_La_law_591 : decode (a_cc M_law) 591 = .ok (.ireturn, 1) := by decide +kernel
theorem d_La_law_592 : decode (a_cc M_law) 592 = .ok (.iload 5, 2) := by decide +kernel
theorem d_La_law_594 : decode (a_cc M_law) 594 = .ok (.ifCond .ne 14, 3) := by decide +kernel
theorem d_La_law_597 : decode (a_cc M_law) 597 = .ok (.aload_n 3, 1) := by decide +kernel
theorem d_La_law_598 : decode (a_cc M_law) 598 = .ok (.iconst 0, 1) := by decide +kernel
theorem d_La_law_599 : decode (a_cc M_law) 599 = .ok (.laload, 1) := by decide +kernel
theorem d_La_law_600 : decode (a_cc M_law) 600 = .ok (.lload 6, 2) := by decide +kernel
theorem d_La_law_602 : decode (a_cc M_law) 602 = .ok (.lcmp, 1) := by decide +kernel
theorem d_La_law_603 : decode (a_cc M_law) 603 = .ok (.ifCond .eq 5, 3) := by decide +kernel
theorem d_La_law_606 : decode (a_cc M_law) 606 = .ok (.iconst 0, 1) := by decide +kernel
theorem d_La_law_607 : decode (a_cc M_law) 607 = .ok (.ireturn, 1) := by decide +kernel
theorem d_La_law_608 : decode (a_cc M_law) 608 = .ok (.goto 277, 3) := by decide +kernel
theorem d_La_law_611 : decode (a_cc M_law) 611 = .ok (.aload_n 1, 1) := by decide +kernel
theorem d_La_law_612 : decode (a_cc M_law) 612 = .ok (.aload_n 0, 1) := by decide +kernel
theorem d_La_law_613 : decode (a_cc M_law) 613 = .ok (.iload 4, 2) := by decide +kernel
theorem d_La_law_615 : decode (a_cc M_law) 615 = .ok (.iconst 1, 1) := by decide +kernel
theorem d_La_law_616 : decode (a_cc M_law) 616 = .ok (.iadd, 1) := by decide +kernel
theorem d_La_law_617 : decode (a_cc M_law) 617 = .ok (.iaload, 1) := by decide +kernel
theorem d_La_law_618 : decode (a_cc M_law) 618 = .ok (.aload_n 0, 1) := by decide +kernel
theorem d_La_law_619 : decode (a_cc M_law) 619 = .ok (.iload 4, 2) := by decide +kernel
theorem d_La_law_621 : decode (a_cc M_law) 621 = .ok (.iconst 2, 1) := by decide +kernel
theorem d_La_law_622 : decode (a_cc M_law) 622 = .ok (.iadd, 1) := by decide +kernel
theorem d_La_law_623 : decode (a_cc M_law) 623 = .ok (.iaload, 1) := by decide +kernel
theorem d_La_law_624 : decode (a_cc M_law) 624 = .ok (.aload_n 3, 1) := by decide +kernel
theorem d_La_law_625 : decode (a_cc M_law) 625 = .ok (.invokestatic 93, 3) := by decide +kernel
theorem d_La_law_628 : decode (a_cc M_law) 628 = .ok (.istore 5, 2) := by decide +kernel
theorem d_La_law_630 : decode (a_cc M_law) 630 = .ok (.aload_n 2, 1) := by decide +kernel
theorem d_La_law_631 : decode (a_cc M_law) 631 = .ok (.aload_n 0, 1) := by decide +kernel
theorem d_La_law_632 : decode (a_cc M_law) 632 = .ok (.iload 4, 2) := by decide +kernel
theorem d_La_law_634 : decode (a_cc M_law) 634 = .ok (.iconst 1, 1) := by decide +kernel
theorem d_La_law_635 : decode (a_cc M_law) 635 = .ok (.iadd, 1) := by decide +kernel
theorem d_La_law_636 : decode (a_cc M_law) 636 = .ok (.iaload, 1) := by decide +kernel
theorem d_La_law_637 : decode (a_cc M_law) 637 = .ok (.aload_n 0, 1) := by decide +kernel
theorem d_La_law_638 : decode (a_cc M_law) 638 = .ok (.iload 4, 2) := by decide +kernel
theorem d_La_law_640 : decode (a_cc M_law) 640 = .ok (.iconst 2, 1) := by decide +kernel
theorem d_La_law_641 : decode (a_cc M_law) 641 = .ok (.iadd, 1) := by decide +kernel
theorem d_La_law_642 : decode (a_cc M_law) 642 = .ok (.iaload, 1) := by decide +kernel
theorem d_La_law_643 : decode (a_cc M_law) 643 = .ok (.invokevirtual 95, 3) := by decide +kernel
theorem d_La_law_646 : decode (a_cc M_law) 646 = .ok (.istore 6, 2) := by decide +kernel
theorem d_La_law_648 : decode (a_cc M_law) 648 = .ok (.aload_n 2, 1) := by decide +kernel
theorem d_La_law_649 : decode (a_cc M_law) 649 = .ok (.invokevirtual 68, 3) := by decide +kernel
theorem d_La_law_652 : decode (a_cc M_law) 652 = .ok (.iload 5, 2) := by decide +kernel
theorem d_La_law_654 : decode (a_cc M_law) 654 = .ok (.if_icmp .eq 5, 3) := by decide +kernel
theorem d_La_law_657 : decode (a_cc M_law) 657 = .ok (.iconst 0, 1) := by decide +kernel
theorem d_La_law_658 : decode (a_cc M_law) 658 = .ok (.ireturn, 1) := by decide +kernel
theorem d_La_law_659 : decode (a_cc M_law) 659 = .ok (.iload 5, 2) := by decide +kernel
theorem d_La_law_661 : decode (a_cc M_law) 661 = .ok (.ifCond .ne 22, 3) := by decide +kernel
theorem d_La_law_664 : decode (a_cc M_law) 664 = .ok (.aload_n 3, 1) := by decide +kernel
theorem d_La_law_665 : decode (a_cc M_law) 665 = .ok (.iconst 0, 1) := by decide +kernel
theorem d_La_law_666 : decode (a_cc M_law) 666 = .ok (.laload, 1) := by decide +kernel
theorem d_La_law_667 : decode (a_cc M_law) 667 = .ok (.iload 6, 2) := by decide +kernel
theorem d_La_law_669 : decode (a_cc M_law) 669 = .ok (.ifCond .eq 7, 3) := by decide +kernel
theorem d_La_law_672 : decode (a_cc M_law) 672 = .ok (.lconst 1, 1) := by decide +kernel
theorem d_La_law_673 : decode (a_cc M_law) 673 = .ok (.goto 4, 3) := by decide +kernel
theorem d_La_law_676 : decode (a_cc M_law) 676 = .ok (.lconst 0, 1) := by decide +kernel
theorem d_La_law_677 : decode (a_cc M_law) 677 = .ok (.lcmp, 1) := by decide +kernel
theorem d_La_law_678 : decode (a_cc M_law) 678 = .ok (.ifCond .eq 5, 3) := by decide +kernel
theorem d_La_law_681 : decode (a_cc M_law) 681 = .ok (.iconst 0, 1) := by decide +kernel
theorem d_La_law_682 : decode (a_cc M_law) 682 = .ok (.ireturn, 1) := by decide +kernel
theorem d_La_law_683 : decode (a_cc M_law) 683 = .ok (.goto 202, 3) := by decide +kernel
theorem d_La_law_686 : decode (a_cc M_law) 686 = .ok (.aload_n 1, 1) := by decide +kernel
theorem d_La_law_687 : decode (a_cc M_law) 687 = .ok (.aload_n 0, 1) := by decide +kernel
theorem d_La_law_688 : decode (a_cc M_law) 688 = .ok (.iload 4, 2) := by decide +kernel
theorem d_La_law_690 : decode (a_cc M_law) 690 = .ok (.iconst 1, 1) := by decide +kernel
theorem d_La_law_691 : decode (a_cc M_law) 691 = .ok (.iadd, 1) := by decide +kernel
theorem d_La_law_692 : decode (a_cc M_law) 692 = .ok (.iaload, 1) := by decide +kernel
theorem d_La_law_693 : decode (a_cc M_law) 693 = .ok (.aload_n 3, 1) := by decide +kernel
theorem d_La_law_694 : decode (a_cc M_law) 694 = .ok (.invokestatic 96, 3) := by decide +kernel
theorem d_La_law_697 : decode (a_cc M_law) 697 = .ok (.istore 5, 2) := by decide +kernel
theorem d_La_law_699 : decode (a_cc M_law) 699 = .ok (.aload_n 2, 1) := by decide +kernel
theorem d_La_law_700 : decode (a_cc M_law) 700 = .ok (.aload_n 0, 1) := by decide +kernel
theorem d_La_law_701 : decode (a_cc M_law) 701 = .ok (.iload 4, 2) := by decide +kernel
theorem d_La_law_703 : decode (a_cc M_law) 703 = .ok (.iconst 1, 1) := by decide +kernel
theorem d_La_law_704 : decode (a_cc M_law) 704 = .ok (.iadd, 1) := by decide +kernel
theorem d_La_law_705 : decode (a_cc M_law) 705 = .ok (.iaload, 1) := by decide +kernel
theorem d_La_law_706 : decode (a_cc M_law) 706 = .ok (.invokevirtual 98, 3) := by decide +kernel
theorem d_La_law_709 : decode (a_cc M_law) 709 = .ok (.istore 6, 2) := by decide +kernel
theorem d_La_law_711 : decode (a_cc M_law) 711 = .ok (.aload_n 2, 1) := by decide +kernel
theorem d_La_law_712 : decode (a_cc M_law) 712 = .ok (.invokevirtual 68, 3) := by decide +kernel
theorem d_La_law_715 : decode (a_cc M_law) 715 = .ok (.iload 5, 2) := by decide +kernel
theorem d_La_law_717 : decode (a_cc M_law) 717 = .ok (.if_icmp .eq 5, 3) := by decide +kernel
theorem d_La_law_720 : decode (a_cc M_law) 720 = .ok (.iconst 0, 1) := by decide +kernel
theorem d_La_law_721 : decode (a_cc M_law) 721 = .ok (.ireturn, 1) := by decide +kernel
theorem d_La_law_722 : decode (a_cc M_law) 722 = .ok (.iload 5, 2) := by decide +kernel
theorem d_La_law_724 : decode (a_cc M_law) 724 = .ok (.ifCond .ne 15, 3) := by decide +kernel
theorem d_La_law_727 : decode (a_cc M_law) 727 = .ok (.aload_n 3, 1) := by decide +kernel
theorem d_La_law_728 : decode (a_cc M_law) 728 = .ok (.iconst 0, 1) := by decide +kernel
theorem d_La_law_729 : decode (a_cc M_law) 729 = .ok (.laload, 1) := by decide +kernel
theorem d_La_law_730 : decode (a_cc M_law) 730 = .ok (.iload 6, 2) := by decide +kernel
theorem d_La_law_732 : decode (a_cc M_law) 732 = .ok (.i2l, 1) := by decide +kernel
theorem d_La_law_733 : decode (a_cc M_law) 733 = .ok (.lcmp, 1) := by decide +kernel
theorem d_La_law_734 : decode (a_cc M_law) 734 = .ok (.ifCond .eq 5, 3) := by decide +kernel
theorem d_La_law_737 : decode (a_cc M_law) 737 = .ok (.iconst 0, 1) := by decide +kernel
theorem d_La_law_738 : decode (a_cc M_law) 738 = .ok (.ireturn, 1) := by decide +kernel
theorem d_La_law_739 : decode (a_cc M_law) 739 = .ok (.goto 146, 3) := by decide +kernel
theorem d_La_law_742 : decode (a_cc M_law) 742 = .ok (.aload_n 1, 1) := by decide +kernel
theorem d_La_law_743 : decode (a_cc M_law) 743 = .ok (.aload_n 0, 1) := by decide +kernel
theorem d_La_law_744 : decode (a_cc M_law) 744 = .ok (.iload 4, 2) := by decide +kernel
theorem d_La_law_746 : decode (a_cc M_law) 746 = .ok (.iconst 1, 1) := by decide +kernel
theorem d_La_law_747 : decode (a_cc M_law) 747 = .ok (.iadd, 1) := by decide +kernel
theorem d_La_law_748 : decode (a_cc M_law) 748 = .ok (.iaload, 1) := by decide +kernel
theorem d_La_law_749 : decode (a_cc M_law) 749 = .ok (.aload_n 0, 1) := by decide +kernel
theorem d_La_law_750 : decode (a_cc M_law) 750 = .ok (.iload 4, 2) := by decide +kernel
theorem d_La_law_752 : decode (a_cc M_law) 752 = .ok (.iconst 2, 1) := by decide +kernel
theorem d_La_law_753 : decode (a_cc M_law) 753 = .ok (.iadd, 1) := by decide +kernel
theorem d_La_law_754 : decode (a_cc M_law) 754 = .ok (.iaload, 1) := by decide +kernel
theorem d_La_law_755 : decode (a_cc M_law) 755 = .ok (.aload_n 3, 1) := by decide +kernel
theorem d_La_law_756 : decode (a_cc M_law) 756 = .ok (.invokestatic 99, 3) := by decide +kernel
theorem d_La_law_759 : decode (a_cc M_law) 759 = .ok (.istore 5, 2) := by decide +kernel
theorem d_La_law_761 : decode (a_cc M_law) 761 = .ok (.aload_n 2, 1) := by decide +kernel
theorem d_La_law_762 : decode (a_cc M_law) 762 = .ok (.aload_n 0, 1) := by decide +kernel
theorem d_La_law_763 : decode (a_cc M_law) 763 = .ok (.iload 4, 2) := by decide +kernel
theorem d_La_law_765 : decode (a_cc M_law) 765 = .ok (.iconst 1, 1) := by decide +kernel
theorem d_La_law_766 : decode (a_cc M_law) 766 = .ok (.iadd, 1) := by decide +kernel
theorem d_La_law_767 : decode (a_cc M_law) 767 = .ok (.iaload, 1) := by decide +kernel
theorem d_La_law_768 : decode (a_cc M_law) 768 = .ok (.aload_n 0, 1) := by decide +kernel
theorem d_La_law_769 : decode (a_cc M_law) 769 = .ok (.iload 4, 2) := by decide +kernel
theorem d_La_law_771 : decode (a_cc M_law) 771 = .ok (.iconst 2, 1) := by decide +kernel
theorem d_La_law_772 : decode (a_cc M_law) 772 = .ok (.iadd, 1) := by decide +kernel
theorem d_La_law_773 : decode (a_cc M_law) 773 = .ok (.iaload, 1) := by decide +kernel
theorem d_La_law_774 : decode (a_cc M_law) 774 = .ok (.invokevirtual 101, 3) := by decide +kernel
theorem d_La_law_777 : decode (a_cc M_law) 777 = .ok (.istore 6, 2) := by decide +kernel
theorem d_La_law_779 : decode (a_cc M_law) 779 = .ok (.aload_n 2, 1) := by decide +kernel
theorem d_La_law_780 : decode (a_cc M_law) 780 = .ok (.invokevirtual 68, 3) := by decide +kernel
theorem d_La_law_783 : decode (a_cc M_law) 783 = .ok (.iload 5, 2) := by decide +kernel
theorem d_La_law_785 : decode (a_cc M_law) 785 = .ok (.if_icmp .eq 5, 3) := by decide +kernel
theorem d_La_law_788 : decode (a_cc M_law) 788 = .ok (.iconst 0, 1) := by decide +kernel
theorem d_La_law_789 : decode (a_cc M_law) 789 = .ok (.ireturn, 1) := by decide +kernel
theorem d_La_law_790 : decode (a_cc M_law) 790 = .ok (.iload 5, 2) := by decide +kernel
theorem d_La_law_792 : decode (a_cc M_law) 792 = .ok (.ifCond .ne 15, 3) := by decide +kernel
theorem d_La_law_795 : decode (a_cc M_law) 795 = .ok (.aload_n 3, 1) := by decide +kernel
theorem d_La_law_796 : decode (a_cc M_law) 796 = .ok (.iconst 0, 1) := by decide +kernel
theorem d_La_law_797 : decode (a_cc M_law) 797 = .ok (.laload, 1) := by decide +kernel
theorem d_La_law_798 : decode (a_cc M_law) 798 = .ok (.iload 6, 2) := by decide +kernel
theorem d_La_law_800 : decode (a_cc M_law) 800 = .ok (.i2l, 1) := by decide +kernel
theorem d_La_law_801 : decode (a_cc M_law) 801 = .ok (.lcmp, 1) := by decide +kernel
theorem d_La_law_802 : decode (a_cc M_law) 802 = .ok (.ifCond .eq 5, 3) := by decide +kernel
theorem d_La_law_805 : decode (a_cc M_law) 805 = .ok (.iconst 0, 1) := by decide +kernel
theorem d_La_law_806 : decode (a_cc M_law) 806 = .ok (.ireturn, 1) := by decide +kernel
theorem d_La_law_807 : decode (a_cc M_law) 807 = .ok (.goto 78, 3) := by decide +kernel
theorem d_La_law_810 : decode (a_cc M_law) 810 = .ok (.aload_n 1, 1) := by decide +kernel
theorem d_La_law_811 : decode (a_cc M_law) 811 = .ok (.aload_n 0, 1) := by decide +kernel
theorem d_La_law_812 : decode (a_cc M_law) 812 = .ok (.iload 4, 2) := by decide +kernel
theorem d_La_law_814 : decode (a_cc M_law) 814 = .ok (.iconst 1, 1) := by decide +kernel
theorem d_La_law_815 : decode (a_cc M_law) 815 = .ok (.iadd, 1) := by decide +kernel
theorem d_La_law_816 : decode (a_cc M_law) 816 = .ok (.iaload, 1) := by decide +kernel
theorem d_La_law_817 : decode (a_cc M_law) 817 = .ok (.aload_n 0, 1) := by decide +kernel
theorem d_La_law_818 : decode (a_cc M_law) 818 = .ok (.iload 4, 2) := by decide +kernel
theorem d_La_law_820 : decode (a_cc M_law) 820 = .ok (.iconst 2, 1) := by decide +kernel
theorem d_La_law_821 : decode (a_cc M_law) 821 = .ok (.iadd, 1) := by decide +kernel
theorem d_La_law_822 : decode (a_cc M_law) 822 = .ok (.iaload, 1) := by decide +kernel
theorem d_La_law_823 : decode (a_cc M_law) 823 = .ok (.aload_n 3, 1) := by decide +kernel
theorem d_La_law_824 : decode (a_cc M_law) 824 = .ok (.invokestatic 102, 3) := by decide +kernel
theorem d_La_law_827 : decode (a_cc M_law) 827 = .ok (.istore 5, 2) := by decide +kernel
theorem d_La_law_829 : decode (a_cc M_law) 829 = .ok (.aload_n 2, 1) := by decide +kernel
theorem d_La_law_830 : decode (a_cc M_law) 830 = .ok (.aload_n 0, 1) := by decide +kernel
theorem d_La_law_831 : decode (a_cc M_law) 831 = .ok (.iload 4, 2) := by decide +kernel
theorem d_La_law_833 : decode (a_cc M_law) 833 = .ok (.iconst 1, 1) := by decide +kernel
theorem d_La_law_834 : decode (a_cc M_law) 834 = .ok (.iadd, 1) := by decide +kernel
theorem d_La_law_835 : decode (a_cc M_law) 835 = .ok (.iaload, 1) := by decide +kernel
theorem d_La_law_836 : decode (a_cc M_law) 836 = .ok (.aload_n 0, 1) := by decide +kernel
theorem d_La_law_837 : decode (a_cc M_law) 837 = .ok (.iload 4, 2) := by decide +kernel
theorem d_La_law_839 : decode (a_cc M_law) 839 = .ok (.iconst 2, 1) := by decide +kernel
theorem d_La_law_840 : decode (a_cc M_law) 840 = .ok (.iadd, 1) := by decide +kernel
theorem d_La_law_841 : decode (a_cc M_law) 841 = .ok (.iaload, 1) := by decide +kernel
theorem d_La_law_842 : decode (a_cc M_law) 842 = .ok (.invokevirtual 104, 3) := by decide +kernel
theorem d_La_law_845 : decode (a_cc M_law) 845 = .ok (.istore 6, 2) := by decide +kernel
theorem d_La_law_847 : decode (a_cc M_law) 847 = .ok (.aload_n 2, 1) := by decide +kernel
theorem d_La_law_848 : decode (a_cc M_law) 848 = .ok (.invokevirtual 68, 3) := by decide +kernel
theorem d_La_law_851 : decode (a_cc M_law) 851 = .ok (.iload 5, 2) := by decide +kernel
theorem d_La_law_853 : decode (a_cc M_law) 853 = .ok (.if_icmp .eq 5, 3) := by decide +kernel
theorem d_La_law_856 : decode (a_cc M_law) 856 = .ok (.iconst 0, 1) := by decide +kernel
theorem d_La_law_857 : decode (a_cc M_law) 857 = .ok (.ireturn, 1) := by decide +kernel
theorem d_La_law_858 : decode (a_cc M_law) 858 = .ok (.iload 5, 2) := by decide +kernel
theorem d_La_law_860 : decode (a_cc M_law) 860 = .ok (.ifCond .ne 22, 3) := by decide +kernel
theorem d_La_law_863 : decode (a_cc M_law) 863 = .ok (.aload_n 3, 1) := by decide +kernel
theorem d_La_law_864 : decode (a_cc M_law) 864 = .ok (.iconst 0, 1) := by decide +kernel
theorem d_La_law_865 : decode (a_cc M_law) 865 = .ok (.laload, 1) := by decide +kernel
theorem d_La_law_866 : decode (a_cc M_law) 866 = .ok (.iload 6, 2) := by decide +kernel
theorem d_La_law_868 : decode (a_cc M_law) 868 = .ok (.ifCond .eq 7, 3) := by decide +kernel
theorem d_La_law_871 : decode (a_cc M_law) 871 = .ok (.lconst 1, 1) := by decide +kernel
theorem d_La_law_872 : decode (a_cc M_law) 872 = .ok (.goto 4, 3) := by decide +kernel
theorem d_La_law_875 : decode (a_cc M_law) 875 = .ok (.lconst 0, 1) := by decide +kernel
theorem d_La_law_876 : decode (a_cc M_law) 876 = .ok (.lcmp, 1) := by decide +kernel
theorem d_La_law_877 : decode (a_cc M_law) 877 = .ok (.ifCond .eq 5, 3) := by decide +kernel
theorem d_La_law_880 : decode (a_cc M_law) 880 = .ok (.iconst 0, 1) := by decide +kernel
theorem d_La_law_881 : decode (a_cc M_law) 881 = .ok (.ireturn, 1) := by decide +kernel
theorem d_La_law_882 : decode (a_cc M_law) 882 = .ok (.goto 3, 3) := by decide +kernel
theorem d_La_law_885 : decode (a_cc M_law) 885 = .ok (.iinc 4 6, 3) := by decide +kernel
theorem d_La_law_888 : decode (a_cc M_law) 888 = .ok (.goto (-865), 3) := by decide +kernel
theorem d_La_law_891 : decode (a_cc M_law) 891 = .ok (.iconst 1, 1) := by decide +kernel
theorem d_La_law_892 : decode (a_cc M_law) 892 = .ok (.ireturn, 1) := by decide +kernel
theorem nw_La_8 : Cond.classLink "ModuleSignerLaw" 8 (a_cn 0) ∈ lw_tbl := List.mem_append_right _ (List.mem_of_getElem? (i := 22) (by decide +kernel))
theorem cs_La_law_4 : a_CI M_law M_MS_init 58 1 1 0 := ⟨⟨ok_MS_init, by decide, by decide, by decide⟩, rfl, rfl, List.mem_append_right _ (List.mem_of_getElem? (i := 26) (by decide +kernel)), List.mem_append_right _ (List.mem_of_getElem? (i := 24) (by decide +kernel)), List.mem_append_right _ (List.mem_of_getElem? (i := 25) (by decide +kernel)), by decide +kernel⟩
theorem nw_La_59 : Cond.classLink "ModuleSignerLaw" 59 (a_cn 10) ∈ lw_tbl := List.mem_append_right _ (List.mem_of_getElem? (i := 1012) (by decide +kernel))
theorem cs_La_law_12 : a_CI M_law M_Mo_init 61 1 1 0 := ⟨⟨ok_Mo_init, by decide, by decide, by decide⟩, rfl, rfl, List.mem_append_right _ (List.mem_of_getElem? (i := 1016) (by decide +kernel)), List.mem_append_right _ (List.mem_of_getElem? (i := 1014) (by decide +kernel)), List.mem_append_right _ (List.mem_of_getElem? (i := 1015) (by decide +kernel)), by decide +kernel⟩
theorem cs_La_law_132 : a_CS M_law M_La_feed 62 7 0 7 := ⟨⟨ok_La_feed, by decide, by decide, by decide⟩, List.mem_append_right _ (List.mem_of_getElem? (i := 374) (by decide +kernel)), List.mem_append_right _ (List.mem_of_getElem? (i := 375) (by decide +kernel)), by decide +kernel⟩
theorem cs_La_law_168 : a_CV M_law M_Mo_feed 67 10 6 0 5 := ⟨⟨ok_Mo_feed, by decide, by decide, by decide⟩, by decide, rfl, List.mem_append_right _ (List.mem_of_getElem? (i := 1236) (by decide +kernel)), List.mem_append_right _ (List.mem_of_getElem? (i := 1237) (by decide +kernel)), List.mem_append_right _ (List.mem_of_getElem? (i := 1238) (by decide +kernel)), by decide +kernel⟩
theorem cs_La_law_174 : a_CV M_law M_Mo_thrown 68 10 1 0 0 := ⟨⟨ok_Mo_thrown, by decide, by decide, by decide⟩, by decide, rfl, List.mem_append_right _ (List.mem_of_getElem? (i := 1232) (by decide +kernel)), List.mem_append_right _ (List.mem_of_getElem? (i := 1233) (by decide +kernel)), List.mem_append_right _ (List.mem_of_getElem? (i := 1234) (by decide +kernel)), by decide +kernel⟩
theorem cs_La_law_218 : a_CS M_law M_La_end 72 4 0 4 := ⟨⟨ok_La_end, by decide, by decide, by decide⟩, List.mem_append_right _ (List.mem_of_getElem? (i := 459) (by decide +kernel)), List.mem_append_right _ (List.mem_of_getElem? (i := 460) (by decide +kernel)), by decide +kernel⟩
theorem cs_La_law_236 : a_CV M_law M_Mo_end 75 10 3 0 2 := ⟨⟨ok_Mo_end, by decide, by decide, by decide⟩, by decide, rfl, List.mem_append_right _ (List.mem_of_getElem? (i := 1248) (by decide +kernel)), List.mem_append_right _ (List.mem_of_getElem? (i := 1249) (by decide +kernel)), List.mem_append_right _ (List.mem_of_getElem? (i := 1250) (by decide +kernel)), by decide +kernel⟩
theorem cs_La_law_242 : a_CV M_law M_Mo_thrown 68 10 1 0 0 := ⟨⟨ok_Mo_thrown, by decide, by decide, by decide⟩, by decide, rfl, List.mem_append_right _ (List.mem_of_getElem? (i := 1232) (by decide +kernel)), List.mem_append_right _ (List.mem_of_getElem? (i := 1233) (by decide +kernel)), List.mem_append_right _ (List.mem_of_getElem? (i := 1234) (by decide +kernel)), by decide +kernel⟩
theorem cs_La_law_286 : a_CS M_law M_La_copy 76 4 0 4 := ⟨⟨ok_La_copy, by decide, by decide, by decide⟩, List.mem_append_right _ (List.mem_of_getElem? (i := 505) (by decide +kernel)), List.mem_append_right _ (List.mem_of_getElem? (i := 506) (by decide +kernel)), by decide +kernel⟩
theorem cs_La_law_304 : a_CV M_law M_Mo_copy 78 10 3 0 2 := ⟨⟨ok_Mo_copy, by decide, by decide, by decide⟩, by decide, rfl, List.mem_append_right _ (List.mem_of_getElem? (i := 1255) (by decide +kernel)), List.mem_append_right _ (List.mem_of_getElem? (i := 1256) (by decide +kernel)), List.mem_append_right _ (List.mem_of_getElem? (i := 1257) (by decide +kernel)), by decide +kernel⟩
theorem cs_La_law_310 : a_CV M_law M_Mo_thrown 68 10 1 0 0 := ⟨⟨ok_Mo_thrown, by decide, by decide, by decide⟩, by decide, rfl, List.mem_append_right _ (List.mem_of_getElem? (i := 1232) (by decide +kernel)), List.mem_append_right _ (List.mem_of_getElem? (i := 1233) (by decide +kernel)), List.mem_append_right _ (List.mem_of_getElem? (i := 1234) (by decide +kernel)), by decide +kernel⟩
theorem cs_La_law_354 : a_CS M_law M_La_resize 79 4 0 4 := ⟨⟨ok_La_resize, by decide, by decide, by decide⟩, List.mem_append_right _ (List.mem_of_getElem? (i := 512) (by decide +kernel)), List.mem_append_right _ (List.mem_of_getElem? (i := 513) (by decide +kernel)), by decide +kernel⟩
theorem cs_La_law_372 : a_CV M_law M_Mo_resize 81 10 3 0 2 := ⟨⟨ok_Mo_resize, by decide, by decide, by decide⟩, by decide, rfl, List.mem_append_right _ (List.mem_of_getElem? (i := 1259) (by decide +kernel)), List.mem_append_right _ (List.mem_of_getElem? (i := 1260) (by decide +kernel)), List.mem_append_right _ (List.mem_of_getElem? (i := 1261) (by decide +kernel)), by decide +kernel⟩
theorem cs_La_law_378 : a_CV M_law M_Mo_thrown 68 10 1 0 0 := ⟨⟨ok_Mo_thrown, by decide, by decide, by decide⟩, by decide, rfl, List.mem_append_right _ (List.mem_of_getElem? (i := 1232) (by decide +kernel)), List.mem_append_right _ (List.mem_of_getElem? (i := 1233) (by decide +kernel)), List.mem_append_right _ (List.mem_of_getElem? (i := 1234) (by decide +kernel)), by decide +kernel⟩
theorem cs_La_law_428 : a_CS M_law M_La_alter 82 5 0 5 := ⟨⟨ok_La_alter, by decide, by decide, by decide⟩, List.mem_append_right _ (List.mem_of_getElem? (i := 523) (by decide +kernel)), List.mem_append_right _ (List.mem_of_getElem? (i := 524) (by decide +kernel)), by decide +kernel⟩
theorem cs_La_law_452 : a_CV M_law M_Mo_alter 85 10 4 0 3 := ⟨⟨ok_Mo_alter, by decide, by decide, by decide⟩, by decide, rfl, List.mem_append_right _ (List.mem_of_getElem? (i := 1263) (by decide +kernel)), List.mem_append_right _ (List.mem_of_getElem? (i := 1264) (by decide +kernel)), List.mem_append_right _ (List.mem_of_getElem? (i := 1265) (by decide +kernel)), by decide +kernel⟩
theorem cs_La_law_458 : a_CV M_law M_Mo_thrown 68 10 1 0 0 := ⟨⟨ok_Mo_thrown, by decide, by decide, by decide⟩, by decide, rfl, List.mem_append_right _ (List.mem_of_getElem? (i := 1232) (by decide +kernel)), List.mem_append_right _ (List.mem_of_getElem? (i := 1233) (by decide +kernel)), List.mem_append_right _ (List.mem_of_getElem? (i := 1234) (by decide +kernel)), by decide +kernel⟩
theorem cs_La_law_496 : a_CS M_law M_La_length 86 3 0 3 := ⟨⟨ok_La_length, by decide, by decide, by decide⟩, List.mem_append_right _ (List.mem_of_getElem? (i := 540) (by decide +kernel)), List.mem_append_right _ (List.mem_of_getElem? (i := 541) (by decide +kernel)), by decide +kernel⟩
theorem cs_La_law_508 : a_CV M_law M_Mo_length 89 10 2 0 1 := ⟨⟨ok_Mo_length, by decide, by decide, by decide⟩, by decide, rfl, List.mem_append_right _ (List.mem_of_getElem? (i := 1267) (by decide +kernel)), List.mem_append_right _ (List.mem_of_getElem? (i := 1268) (by decide +kernel)), List.mem_append_right _ (List.mem_of_getElem? (i := 1269) (by decide +kernel)), by decide +kernel⟩
theorem cs_La_law_514 : a_CV M_law M_Mo_thrown 68 10 1 0 0 := ⟨⟨ok_Mo_thrown, by decide, by decide, by decide⟩, by decide, rfl, List.mem_append_right _ (List.mem_of_getElem? (i := 1232) (by decide +kernel)), List.mem_append_right _ (List.mem_of_getElem? (i := 1233) (by decide +kernel)), List.mem_append_right _ (List.mem_of_getElem? (i := 1234) (by decide +kernel)), by decide +kernel⟩
theorem cs_La_law_558 : a_CS M_law M_La_word 90 4 0 4 := ⟨⟨ok_La_word, by decide, by decide, by decide⟩, List.mem_append_right _ (List.mem_of_getElem? (i := 547) (by decide +kernel)), List.mem_append_right _ (List.mem_of_getElem? (i := 548) (by decide +kernel)), by decide +kernel⟩
theorem cs_La_law_576 : a_CV M_law M_Mo_word2 92 10 3 0 2 := ⟨⟨ok_Mo_word2, by decide, by decide, by decide⟩, by decide, rfl, List.mem_append_right _ (List.mem_of_getElem? (i := 1271) (by decide +kernel)), List.mem_append_right _ (List.mem_of_getElem? (i := 1272) (by decide +kernel)), List.mem_append_right _ (List.mem_of_getElem? (i := 1273) (by decide +kernel)), by decide +kernel⟩
theorem cs_La_law_582 : a_CV M_law M_Mo_thrown 68 10 1 0 0 := ⟨⟨ok_Mo_thrown, by decide, by decide, by decide⟩, by decide, rfl, List.mem_append_right _ (List.mem_of_getElem? (i := 1232) (by decide +kernel)), List.mem_append_right _ (List.mem_of_getElem? (i := 1233) (by decide +kernel)), List.mem_append_right _ (List.mem_of_getElem? (i := 1234) (by decide +kernel)), by decide +kernel⟩
theorem cs_La_law_625 : a_CS M_law M_La_same 93 4 0 4 := ⟨⟨ok_La_same, by decide, by decide, by decide⟩, List.mem_append_right _ (List.mem_of_getElem? (i := 554) (by decide +kernel)), List.mem_append_right _ (List.mem_of_getElem? (i := 555) (by decide +kernel)), by decide +kernel⟩
theorem cs_La_law_643 : a_CV M_law M_Mo_same 95 10 3 0 2 := ⟨⟨ok_Mo_same, by decide, by decide, by decide⟩, by decide, rfl, List.mem_append_right _ (List.mem_of_getElem? (i := 1275) (by decide +kernel)), List.mem_append_right _ (List.mem_of_getElem? (i := 1276) (by decide +kernel)), List.mem_append_right _ (List.mem_of_getElem? (i := 1277) (by decide +kernel)), by decide +kernel⟩
theorem cs_La_law_649 : a_CV M_law M_Mo_thrown 68 10 1 0 0 := ⟨⟨ok_Mo_thrown, by decide, by decide, by decide⟩, by decide, rfl, List.mem_append_right _ (List.mem_of_getElem? (i := 1232) (by decide +kernel)), List.mem_append_right _ (List.mem_of_getElem? (i := 1233) (by decide +kernel)), List.mem_append_right _ (List.mem_of_getElem? (i := 1234) (by decide +kernel)), by decide +kernel⟩
theorem cs_La_law_694 : a_CS M_law M_La_dsaKeys 96 3 0 3 := ⟨⟨ok_La_dsaKeys, by decide, by decide, by decide⟩, List.mem_append_right _ (List.mem_of_getElem? (i := 566) (by decide +kernel)), List.mem_append_right _ (List.mem_of_getElem? (i := 567) (by decide +kernel)), by decide +kernel⟩
theorem cs_La_law_706 : a_CV M_law M_Mo_dsaKeys 98 10 2 0 1 := ⟨⟨ok_Mo_dsaKeys, by decide, by decide, by decide⟩, by decide, rfl, List.mem_append_right _ (List.mem_of_getElem? (i := 1279) (by decide +kernel)), List.mem_append_right _ (List.mem_of_getElem? (i := 1280) (by decide +kernel)), List.mem_append_right _ (List.mem_of_getElem? (i := 1281) (by decide +kernel)), by decide +kernel⟩
theorem cs_La_law_712 : a_CV M_law M_Mo_thrown 68 10 1 0 0 := ⟨⟨ok_Mo_thrown, by decide, by decide, by decide⟩, by decide, rfl, List.mem_append_right _ (List.mem_of_getElem? (i := 1232) (by decide +kernel)), List.mem_append_right _ (List.mem_of_getElem? (i := 1233) (by decide +kernel)), List.mem_append_right _ (List.mem_of_getElem? (i := 1234) (by decide +kernel)), by decide +kernel⟩
theorem cs_La_law_756 : a_CS M_law M_La_dsaSign 99 4 0 4 := ⟨⟨ok_La_dsaSign, by decide, by decide, by decide⟩, List.mem_append_right _ (List.mem_of_getElem? (i := 774) (by decide +kernel)), List.mem_append_right _ (List.mem_of_getElem? (i := 775) (by decide +kernel)), by decide +kernel⟩
theorem cs_La_law_774 : a_CV M_law M_Mo_dsaSign 101 10 3 0 2 := ⟨⟨ok_Mo_dsaSign, by decide, by decide, by decide⟩, by decide, rfl, List.mem_append_right _ (List.mem_of_getElem? (i := 1355) (by decide +kernel)), List.mem_append_right _ (List.mem_of_getElem? (i := 1356) (by decide +kernel)), List.mem_append_right _ (List.mem_of_getElem? (i := 1357) (by decide +kernel)), by decide +kernel⟩
theorem cs_La_law_780 : a_CV M_law M_Mo_thrown 68 10 1 0 0 := ⟨⟨ok_Mo_thrown, by decide, by decide, by decide⟩, by decide, rfl, List.mem_append_right _ (List.mem_of_getElem? (i := 1232) (by decide +kernel)), List.mem_append_right _ (List.mem_of_getElem? (i := 1233) (by decide +kernel)), List.mem_append_right _ (List.mem_of_getElem? (i := 1234) (by decide +kernel)), by decide +kernel⟩
theorem cs_La_law_824 : a_CS M_law M_La_dsaVerify 102 4 0 4 := ⟨⟨ok_La_dsaVerify, by decide, by decide, by decide⟩, List.mem_append_right _ (List.mem_of_getElem? (i := 939) (by decide +kernel)), List.mem_append_right _ (List.mem_of_getElem? (i := 940) (by decide +kernel)), by decide +kernel⟩
theorem cs_La_law_842 : a_CV M_law M_Mo_dsaVerify 104 10 3 0 2 := ⟨⟨ok_Mo_dsaVerify, by decide, by decide, by decide⟩, by decide, rfl, List.mem_append_right _ (List.mem_of_getElem? (i := 1415) (by decide +kernel)), List.mem_append_right _ (List.mem_of_getElem? (i := 1416) (by decide +kernel)), List.mem_append_right _ (List.mem_of_getElem? (i := 1417) (by decide +kernel)), by decide +kernel⟩
theorem cs_La_law_848 : a_CV M_law M_Mo_thrown 68 10 1 0 0 := ⟨⟨ok_Mo_thrown, by decide, by decide, by decide⟩, by decide, rfl, List.mem_append_right _ (List.mem_of_getElem? (i := 1232) (by decide +kernel)), List.mem_append_right _ (List.mem_of_getElem? (i := 1233) (by decide +kernel)), List.mem_append_right _ (List.mem_of_getElem? (i := 1234) (by decide +kernel)), by decide +kernel⟩
