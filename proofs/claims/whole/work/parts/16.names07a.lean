/-! names, printed by program: methods, their instructions, what they link -/
def M_MS_dsaVerify : a_M := (⟨"ModuleSigner", "dsaVerify", "(II)Z"⟩, prog_1_method_12_code, 3, some .boolean, "ModuleSigner", 10, 146, [])
theorem ok_MS_dsaVerify : a_Ok M_MS_dsaVerify := ⟨rfl, by decide +kernel, ⟨by decide, by decide⟩, List.mem_append_right _ (List.mem_of_getElem? (i := 1) (by decide +kernel)), Or.inl ⟨rfl, List.mem_append_right _ (List.mem_of_getElem? (i := 945) (by decide +kernel))⟩⟩
theorem d_MS_dsaVerify_0 : decode (a_cc M_MS_dsaVerify) 0 = .ok (.iload_n 1, 1) := by decide +kernel
theorem d_MS_dsaVerify_1 : decode (a_cc M_MS_dsaVerify) 1 = .ok (.invokestatic 108, 3) := by decide +kernel
theorem d_MS_dsaVerify_4 : decode (a_cc M_MS_dsaVerify) 4 = .ok (.iload_n 2, 1) := by decide +kernel
theorem d_MS_dsaVerify_5 : decode (a_cc M_MS_dsaVerify) 5 = .ok (.invokestatic 120, 3) := by decide +kernel
theorem d_MS_dsaVerify_8 : decode (a_cc M_MS_dsaVerify) 8 = .ok (.aload_n 0, 1) := by decide +kernel
theorem d_MS_dsaVerify_9 : decode (a_cc M_MS_dsaVerify) 9 = .ok (.iload_n 2, 1) := by decide +kernel
theorem d_MS_dsaVerify_10 : decode (a_cc M_MS_dsaVerify) 10 = .ok (.invokevirtual 123, 3) := by decide +kernel
theorem d_MS_dsaVerify_13 : decode (a_cc M_MS_dsaVerify) 13 = .ok (.aload_n 0, 1) := by decide +kernel
theorem d_MS_dsaVerify_14 : decode (a_cc M_MS_dsaVerify) 14 = .ok (.getfield 11, 3) := by decide +kernel
theorem d_MS_dsaVerify_17 : decode (a_cc M_MS_dsaVerify) 17 = .ok (.iconst 1, 1) := by decide +kernel
theorem d_MS_dsaVerify_18 : decode (a_cc M_MS_dsaVerify) 18 = .ok (.aaload, 1) := by decide +kernel
theorem d_MS_dsaVerify_19 : decode (a_cc M_MS_dsaVerify) 19 = .ok (.getfield 55, 3) := by decide +kernel
theorem d_MS_dsaVerify_22 : decode (a_cc M_MS_dsaVerify) 22 = .ok (.aload_n 0, 1) := by decide +kernel
theorem d_MS_dsaVerify_23 : decode (a_cc M_MS_dsaVerify) 23 = .ok (.getfield 24, 3) := by decide +kernel
theorem d_MS_dsaVerify_26 : decode (a_cc M_MS_dsaVerify) 26 = .ok (.iload_n 1, 1) := by decide +kernel
theorem d_MS_dsaVerify_27 : decode (a_cc M_MS_dsaVerify) 27 = .ok (.aaload, 1) := by decide +kernel
theorem d_MS_dsaVerify_28 : decode (a_cc M_MS_dsaVerify) 28 = .ok (.getfield 140, 3) := by decide +kernel
theorem d_MS_dsaVerify_31 : decode (a_cc M_MS_dsaVerify) 31 = .ok (.if_icmp .eq 13, 3) := by decide +kernel
theorem d_MS_dsaVerify_34 : decode (a_cc M_MS_dsaVerify) 34 = .ok (.new 131, 3) := by decide +kernel
theorem d_MS_dsaVerify_37 : decode (a_cc M_MS_dsaVerify) 37 = .ok (.dup, 1) := by decide +kernel
theorem d_MS_dsaVerify_38 : decode (a_cc M_MS_dsaVerify) 38 = .ok (.ldc 143, 2) := by decide +kernel
theorem d_MS_dsaVerify_40 : decode (a_cc M_MS_dsaVerify) 40 = .ok (.invokespecial 135, 3) := by decide +kernel
theorem d_MS_dsaVerify_43 : decode (a_cc M_MS_dsaVerify) 43 = .ok (.athrow, 1) := by decide +kernel
theorem d_MS_dsaVerify_44 : decode (a_cc M_MS_dsaVerify) 44 = .ok (.aload_n 0, 1) := by decide +kernel
theorem d_MS_dsaVerify_45 : decode (a_cc M_MS_dsaVerify) 45 = .ok (.getfield 51, 3) := by decide +kernel
theorem d_MS_dsaVerify_48 : decode (a_cc M_MS_dsaVerify) 48 = .ok (.aload_n 0, 1) := by decide +kernel
theorem d_MS_dsaVerify_49 : decode (a_cc M_MS_dsaVerify) 49 = .ok (.getfield 11, 3) := by decide +kernel
theorem d_MS_dsaVerify_52 : decode (a_cc M_MS_dsaVerify) 52 = .ok (.aload_n 0, 1) := by decide +kernel
theorem d_MS_dsaVerify_53 : decode (a_cc M_MS_dsaVerify) 53 = .ok (.getfield 24, 3) := by decide +kernel
theorem d_MS_dsaVerify_56 : decode (a_cc M_MS_dsaVerify) 56 = .ok (.iload_n 1, 1) := by decide +kernel
theorem d_MS_dsaVerify_57 : decode (a_cc M_MS_dsaVerify) 57 = .ok (.aaload, 1) := by decide +kernel
theorem d_MS_dsaVerify_58 : decode (a_cc M_MS_dsaVerify) 58 = .ok (.iload_n 2, 1) := by decide +kernel
theorem d_MS_dsaVerify_59 : decode (a_cc M_MS_dsaVerify) 59 = .ok (.invokevirtual 145, 3) := by decide +kernel
theorem d_MS_dsaVerify_62 : decode (a_cc M_MS_dsaVerify) 62 = .ok (.ireturn, 1) := by decide +kernel
theorem cs_MS_dsaVerify_1 : a_CS M_MS_dsaVerify M_MS_needSet 108 1 0 1 := ⟨⟨ok_MS_needSet, by decide, by decide, by decide⟩, List.mem_append_right _ (List.mem_of_getElem? (i := 575) (by decide +kernel)), List.mem_append_right _ (List.mem_of_getElem? (i := 576) (by decide +kernel)), by decide +kernel⟩
theorem cs_MS_dsaVerify_5 : a_CS M_MS_dsaVerify M_MS_needHow 120 1 0 1 := ⟨⟨ok_MS_needHow, by decide, by decide, by decide⟩, List.mem_append_right _ (List.mem_of_getElem? (i := 782) (by decide +kernel)), List.mem_append_right _ (List.mem_of_getElem? (i := 783) (by decide +kernel)), by decide +kernel⟩
theorem cs_MS_dsaVerify_10 : a_CV M_MS_dsaVerify M_MS_needContext 123 0 2 0 1 := ⟨⟨ok_MS_needContext, by decide, by decide, by decide⟩, by decide, rfl, List.mem_append_right _ (List.mem_of_getElem? (i := 786) (by decide +kernel)), List.mem_append_right _ (List.mem_of_getElem? (i := 788) (by decide +kernel)), List.mem_append_left _ (List.mem_of_getElem? (i := 12) (by decide +kernel)), by decide +kernel⟩
theorem fd_MS_140 : a_Fd "ModuleSigner" 140 2 13 0 := ⟨by decide, by decide, rfl, List.mem_append_right _ (List.mem_of_getElem? (i := 124) (by decide +kernel))⟩
theorem th_MS_dsaVerify_34 : a_Th M_MS_dsaVerify 34 3 0 := ⟨_, _, _, "PUBLIC is no key of this set", d_MS_dsaVerify_34, d_MS_dsaVerify_37, d_MS_dsaVerify_38, d_MS_dsaVerify_40, d_MS_dsaVerify_43, List.mem_append_right _ (List.mem_of_getElem? (i := 946) (by decide +kernel)), by decide, List.mem_append_right _ (List.mem_of_getElem? (i := 792) (by decide +kernel)), List.mem_append_right _ (List.mem_of_getElem? (i := 802) (by decide +kernel)), rfl, by decide, by decide⟩
theorem cs_MS_dsaVerify_59 : a_CV M_MS_dsaVerify M_Ve_verify 145 6 4 0 3 := ⟨⟨ok_Ve_verify, by decide, by decide, by decide⟩, by decide, rfl, List.mem_append_right _ (List.mem_of_getElem? (i := 947) (by decide +kernel)), List.mem_append_right _ (List.mem_of_getElem? (i := 948) (by decide +kernel)), List.mem_append_right _ (List.mem_of_getElem? (i := 949) (by decide +kernel)), by decide +kernel⟩
def M_La_dsaVerify : a_M := (⟨"ModuleSignerLaw", "dsaVerify", "(LModuleSigner;II[J)I"⟩, method_13_code, 5, some .int, "ModuleSignerLaw", 11, 162, [(0, 17, 20, 19), (0, 17, 24, 46), (0, 17, 28, 53), (0, 17, 32, 48)])
theorem ok_La_dsaVerify : a_Ok M_La_dsaVerify := ⟨rfl, by decide +kernel, ⟨by decide, by decide⟩, List.mem_append_right _ (List.mem_of_getElem? (i := 0) (by decide +kernel)), Or.inr (List.mem_append_right _ (List.mem_of_getElem? (i := 941) (by decide +kernel)))⟩
theorem d_La_dsaVerify_0 : decode (a_cc M_La_dsaVerify) 0 = .ok (.aload_n 3, 1) := by decide +kernel
theorem d_La_dsaVerify_1 : decode (a_cc M_La_dsaVerify) 1 = .ok (.iconst 0, 1) := by decide +kernel
theorem d_La_dsaVerify_2 : decode (a_cc M_La_dsaVerify) 2 = .ok (.aload_n 0, 1) := by decide +kernel
theorem d_La_dsaVerify_3 : decode (a_cc M_La_dsaVerify) 3 = .ok (.iload_n 1, 1) := by decide +kernel
theorem d_La_dsaVerify_4 : decode (a_cc M_La_dsaVerify) 4 = .ok (.iload_n 2, 1) := by decide +kernel
theorem d_La_dsaVerify_5 : decode (a_cc M_La_dsaVerify) 5 = .ok (.invokevirtual 55, 3) := by decide +kernel
theorem d_La_dsaVerify_8 : decode (a_cc M_La_dsaVerify) 8 = .ok (.ifCond .eq 7, 3) := by decide +kernel
theorem d_La_dsaVerify_11 : decode (a_cc M_La_dsaVerify) 11 = .ok (.lconst 1, 1) := by decide +kernel
theorem d_La_dsaVerify_12 : decode (a_cc M_La_dsaVerify) 12 = .ok (.goto 4, 3) := by decide +kernel
theorem d_La_dsaVerify_15 : decode (a_cc M_La_dsaVerify) 15 = .ok (.lconst 0, 1) := by decide +kernel
theorem d_La_dsaVerify_16 : decode (a_cc M_La_dsaVerify) 16 = .ok (.lastore, 1) := by decide +kernel
theorem d_La_dsaVerify_17 : decode (a_cc M_La_dsaVerify) 17 = .ok (.goto 19, 3) := by decide +kernel
theorem d_La_dsaVerify_20 : decode (a_cc M_La_dsaVerify) 20 = .ok (.astore 4, 2) := by decide +kernel
theorem d_La_dsaVerify_22 : decode (a_cc M_La_dsaVerify) 22 = .ok (.iconst 1, 1) := by decide +kernel
theorem d_La_dsaVerify_23 : decode (a_cc M_La_dsaVerify) 23 = .ok (.ireturn, 1) := by decide +kernel
theorem d_La_dsaVerify_24 : decode (a_cc M_La_dsaVerify) 24 = .ok (.astore 4, 2) := by decide +kernel
theorem d_La_dsaVerify_26 : decode (a_cc M_La_dsaVerify) 26 = .ok (.iconst 2, 1) := by decide +kernel
theorem d_La_dsaVerify_27 : decode (a_cc M_La_dsaVerify) 27 = .ok (.ireturn, 1) := by decide +kernel
theorem d_La_dsaVerify_28 : decode (a_cc M_La_dsaVerify) 28 = .ok (.astore 4, 2) := by decide +kernel
theorem d_La_dsaVerify_30 : decode (a_cc M_La_dsaVerify) 30 = .ok (.iconst 3, 1) := by decide +kernel
theorem d_La_dsaVerify_31 : decode (a_cc M_La_dsaVerify) 31 = .ok (.ireturn, 1) := by decide +kernel
theorem d_La_dsaVerify_32 : decode (a_cc M_La_dsaVerify) 32 = .ok (.astore 4, 2) := by decide +kernel
theorem d_La_dsaVerify_34 : decode (a_cc M_La_dsaVerify) 34 = .ok (.iconst 4, 1) := by decide +kernel
theorem d_La_dsaVerify_35 : decode (a_cc M_La_dsaVerify) 35 = .ok (.ireturn, 1) := by decide +kernel
theorem d_La_dsaVerify_36 : decode (a_cc M_La_dsaVerify) 36 = .ok (.iconst 0, 1) := by decide +kernel
theorem d_La_dsaVerify_37 : decode (a_cc M_La_dsaVerify) 37 = .ok (.ireturn, 1) := by decide +kernel
theorem cs_La_dsaVerify_5 : a_CV M_La_dsaVerify M_MS_dsaVerify 55 0 3 2 2 := ⟨⟨ok_MS_dsaVerify, by decide, by decide, by decide⟩, by decide, rfl, List.mem_append_right _ (List.mem_of_getElem? (i := 942) (by decide +kernel)), List.mem_append_right _ (List.mem_of_getElem? (i := 943) (by decide +kernel)), List.mem_append_right _ (List.mem_of_getElem? (i := 944) (by decide +kernel)), by decide +kernel⟩
def M_Mo_hints : a_M := (⟨"ModuleSignerModel", "hints", "([BI)Z"⟩, prog_12_method_67_code, 7, some .boolean, "ModuleSignerModel", 0, 0, [])
theorem ok_Mo_hints : a_Ok M_Mo_hints := ⟨rfl, by decide +kernel, ⟨by decide, by decide⟩, List.mem_append_right _ (List.mem_of_getElem? (i := 11) (by decide +kernel)), Or.inl ⟨rfl, List.mem_append_right _ (List.mem_of_getElem? (i := 1422) (by decide +kernel))⟩⟩
theorem d_Mo_hints_0 : decode (a_cc M_Mo_hints) 0 = .ok (.iconst 0, 1) := by decide +kernel
theorem d_Mo_hints_1 : decode (a_cc M_Mo_hints) 1 = .ok (.istore_n 3, 1) := by decide +kernel
theorem d_Mo_hints_2 : decode (a_cc M_Mo_hints) 2 = .ok (.iconst 0, 1) := by decide +kernel
theorem d_Mo_hints_3 : decode (a_cc M_Mo_hints) 3 = .ok (.istore 4, 2) := by decide +kernel
theorem d_Mo_hints_5 : decode (a_cc M_Mo_hints) 5 = .ok (.iload 4, 2) := by decide +kernel
theorem d_Mo_hints_7 : decode (a_cc M_Mo_hints) 7 = .ok (.aload_n 0, 1) := by decide +kernel
theorem d_Mo_hints_8 : decode (a_cc M_Mo_hints) 8 = .ok (.getfield 223, 3) := by decide +kernel
theorem d_Mo_hints_11 : decode (a_cc M_Mo_hints) 11 = .ok (.if_icmp .ge 142, 3) := by decide +kernel
theorem d_Mo_hints_14 : decode (a_cc M_Mo_hints) 14 = .ok (.iconst 0, 1) := by decide +kernel
theorem d_Mo_hints_15 : decode (a_cc M_Mo_hints) 15 = .ok (.istore 5, 2) := by decide +kernel
theorem d_Mo_hints_17 : decode (a_cc M_Mo_hints) 17 = .ok (.iload 5, 2) := by decide +kernel
theorem d_Mo_hints_19 : decode (a_cc M_Mo_hints) 19 = .ok (.sipush 256, 3) := by decide +kernel
theorem d_Mo_hints_22 : decode (a_cc M_Mo_hints) 22 = .ok (.if_icmp .ge 20, 3) := by decide +kernel
theorem d_Mo_hints_25 : decode (a_cc M_Mo_hints) 25 = .ok (.aload_n 0, 1) := by decide +kernel
theorem d_Mo_hints_26 : decode (a_cc M_Mo_hints) 26 = .ok (.getfield 81, 3) := by decide +kernel
theorem d_Mo_hints_29 : decode (a_cc M_Mo_hints) 29 = .ok (.iload 4, 2) := by decide +kernel
theorem d_Mo_hints_31 : decode (a_cc M_Mo_hints) 31 = .ok (.aaload, 1) := by decide +kernel
theorem d_Mo_hints_32 : decode (a_cc M_Mo_hints) 32 = .ok (.iload 5, 2) := by decide +kernel
theorem d_Mo_hints_34 : decode (a_cc M_Mo_hints) 34 = .ok (.iconst 0, 1) := by decide +kernel
theorem d_Mo_hints_35 : decode (a_cc M_Mo_hints) 35 = .ok (.bastore, 1) := by decide +kernel
theorem d_Mo_hints_36 : decode (a_cc M_Mo_hints) 36 = .ok (.iinc 5 1, 3) := by decide +kernel
theorem d_Mo_hints_39 : decode (a_cc M_Mo_hints) 39 = .ok (.goto (-22), 3) := by decide +kernel
theorem d_Mo_hints_42 : decode (a_cc M_Mo_hints) 42 = .ok (.aload_n 1, 1) := by decide +kernel
theorem d_Mo_hints_43 : decode (a_cc M_Mo_hints) 43 = .ok (.iload_n 2, 1) := by decide +kernel
theorem d_Mo_hints_44 : decode (a_cc M_Mo_hints) 44 = .ok (.aload_n 0, 1) := by decide +kernel
theorem d_Mo_hints_45 : decode (a_cc M_Mo_hints) 45 = .ok (.getfield 245, 3) := by decide +kernel
theorem d_Mo_hints_48 : decode (a_cc M_Mo_hints) 48 = .ok (.iadd, 1) := by decide +kernel
theorem d_Mo_hints_49 : decode (a_cc M_Mo_hints) 49 = .ok (.iload 4, 2) := by decide +kernel
theorem d_Mo_hints_51 : decode (a_cc M_Mo_hints) 51 = .ok (.iadd, 1) := by decide +kernel
theorem d_Mo_hints_52 : decode (a_cc M_Mo_hints) 52 = .ok (.baload, 1) := by decide +kernel
theorem d_Mo_hints_53 : decode (a_cc M_Mo_hints) 53 = .ok (.sipush 255, 3) := by decide +kernel
theorem d_Mo_hints_56 : decode (a_cc M_Mo_hints) 56 = .ok (.iand, 1) := by decide +kernel
theorem d_Mo_hints_57 : decode (a_cc M_Mo_hints) 57 = .ok (.istore 5, 2) := by decide +kernel
theorem d_Mo_hints_59 : decode (a_cc M_Mo_hints) 59 = .ok (.iload 5, 2) := by decide +kernel
theorem d_Mo_hints_61 : decode (a_cc M_Mo_hints) 61 = .ok (.iload_n 3, 1) := by decide +kernel
theorem d_Mo_hints_62 : decode (a_cc M_Mo_hints) 62 = .ok (.if_icmp .lt 12, 3) := by decide +kernel
theorem d_Mo_hints_65 : decode (a_cc M_Mo_hints) 65 = .ok (.iload 5, 2) := by decide +kernel
theorem d_Mo_hints_67 : decode (a_cc M_Mo_hints) 67 = .ok (.aload_n 0, 1) := by decide +kernel
theorem d_Mo_hints_68 : decode (a_cc M_Mo_hints) 68 = .ok (.getfield 245, 3) := by decide +kernel
theorem d_Mo_hints_71 : decode (a_cc M_Mo_hints) 71 = .ok (.if_icmp .le 5, 3) := by decide +kernel
theorem d_Mo_hints_74 : decode (a_cc M_Mo_hints) 74 = .ok (.iconst 0, 1) := by decide +kernel
theorem d_Mo_hints_75 : decode (a_cc M_Mo_hints) 75 = .ok (.ireturn, 1) := by decide +kernel
theorem d_Mo_hints_76 : decode (a_cc M_Mo_hints) 76 = .ok (.iload_n 3, 1) := by decide +kernel
theorem d_Mo_hints_77 : decode (a_cc M_Mo_hints) 77 = .ok (.istore 6, 2) := by decide +kernel
theorem d_Mo_hints_79 : decode (a_cc M_Mo_hints) 79 = .ok (.iload 6, 2) := by decide +kernel
theorem d_Mo_hints_81 : decode (a_cc M_Mo_hints) 81 = .ok (.iload 5, 2) := by decide +kernel
theorem d_Mo_hints_83 : decode (a_cc M_Mo_hints) 83 = .ok (.if_icmp .ge 61, 3) := by decide +kernel
theorem d_Mo_hints_86 : decode (a_cc M_Mo_hints) 86 = .ok (.iload 6, 2) := by decide +kernel
theorem d_Mo_hints_88 : decode (a_cc M_Mo_hints) 88 = .ok (.iload_n 3, 1) := by decide +kernel
theorem d_Mo_hints_89 : decode (a_cc M_Mo_hints) 89 = .ok (.if_icmp .le 30, 3) := by decide +kernel
theorem d_Mo_hints_92 : decode (a_cc M_Mo_hints) 92 = .ok (.aload_n 1, 1) := by decide +kernel
theorem d_Mo_hints_93 : decode (a_cc M_Mo_hints) 93 = .ok (.iload_n 2, 1) := by decide +kernel
theorem d_Mo_hints_94 : decode (a_cc M_Mo_hints) 94 = .ok (.iload 6, 2) := by decide +kernel
theorem d_Mo_hints_96 : decode (a_cc M_Mo_hints) 96 = .ok (.iadd, 1) := by decide +kernel
theorem d_Mo_hints_97 : decode (a_cc M_Mo_hints) 97 = .ok (.baload, 1) := by decide +kernel
theorem d_Mo_hints_98 : decode (a_cc M_Mo_hints) 98 = .ok (.sipush 255, 3) := by decide +kernel
theorem d_Mo_hints_101 : decode (a_cc M_Mo_hints) 101 = .ok (.iand, 1) := by decide +kernel
theorem d_Mo_hints_102 : decode (a_cc M_Mo_hints) 102 = .ok (.aload_n 1, 1) := by decide +kernel
theorem d_Mo_hints_103 : decode (a_cc M_Mo_hints) 103 = .ok (.iload_n 2, 1) := by decide +kernel
theorem d_Mo_hints_104 : decode (a_cc M_Mo_hints) 104 = .ok (.iload 6, 2) := by decide +kernel
theorem d_Mo_hints_106 : decode (a_cc M_Mo_hints) 106 = .ok (.iadd, 1) := by decide +kernel
theorem d_Mo_hints_107 : decode (a_cc M_Mo_hints) 107 = .ok (.iconst 1, 1) := by decide +kernel
theorem d_Mo_hints_108 : decode (a_cc M_Mo_hints) 108 = .ok (.isub, 1) := by decide +kernel
theorem d_Mo_hints_109 : decode (a_cc M_Mo_hints) 109 = .ok (.baload, 1) := by decide +kernel
theorem d_Mo_hints_110 : decode (a_cc M_Mo_hints) 110 = .ok (.sipush 255, 3) := by decide +kernel
theorem d_Mo_hints_113 : decode (a_cc M_Mo_hints) 113 = .ok (.iand, 1) := by decide +kernel
theorem d_Mo_hints_114 : decode (a_cc M_Mo_hints) 114 = .ok (.if_icmp .gt 5, 3) := by decide +kernel
theorem d_Mo_hints_117 : decode (a_cc M_Mo_hints) 117 = .ok (.iconst 0, 1) := by decide +kernel
theorem d_Mo_hints_118 : decode (a_cc M_Mo_hints) 118 = .ok (.ireturn, 1) := by decide +kernel
theorem d_Mo_hints_119 : decode (a_cc M_Mo_hints) 119 = .ok (.aload_n 0, 1) := by decide +kernel
theorem d_Mo_hints_120 : decode (a_cc M_Mo_hints) 120 = .ok (.getfield 81, 3) := by decide +kernel
theorem d_Mo_hints_123 : decode (a_cc M_Mo_hints) 123 = .ok (.iload 4, 2) := by decide +kernel
theorem d_Mo_hints_125 : decode (a_cc M_Mo_hints) 125 = .ok (.aaload, 1) := by decide +kernel
theorem d_Mo_hints_126 : decode (a_cc M_Mo_hints) 126 = .ok (.aload_n 1, 1) := by decide +kernel
theorem d_Mo_hints_127 : decode (a_cc M_Mo_hints) 127 = .ok (.iload_n 2, 1) := by decide +kernel
theorem d_Mo_hints_128 : decode (a_cc M_Mo_hints) 128 = .ok (.iload 6, 2) := by decide +kernel
theorem d_Mo_hints_130 : decode (a_cc M_Mo_hints) 130 = .ok (.iadd, 1) := by decide +kernel
theorem d_Mo_hints_131 : decode (a_cc M_Mo_hints) 131 = .ok (.baload, 1) := by decide +kernel
theorem d_Mo_hints_132 : decode (a_cc M_Mo_hints) 132 = .ok (.sipush 255, 3) := by decide +kernel
theorem d_Mo_hints_135 : decode (a_cc M_Mo_hints) 135 = .ok (.iand, 1) := by decide +kernel
theorem d_Mo_hints_136 : decode (a_cc M_Mo_hints) 136 = .ok (.iconst 1, 1) := by decide +kernel
theorem d_Mo_hints_137 : decode (a_cc M_Mo_hints) 137 = .ok (.bastore, 1) := by decide +kernel
theorem d_Mo_hints_138 : decode (a_cc M_Mo_hints) 138 = .ok (.iinc 6 1, 3) := by decide +kernel
theorem d_Mo_hints_141 : decode (a_cc M_Mo_hints) 141 = .ok (.goto (-62), 3) := by decide +kernel
theorem d_Mo_hints_144 : decode (a_cc M_Mo_hints) 144 = .ok (.iload 5, 2) := by decide +kernel
theorem d_Mo_hints_146 : decode (a_cc M_Mo_hints) 146 = .ok (.istore_n 3, 1) := by decide +kernel
theorem d_Mo_hints_147 : decode (a_cc M_Mo_hints) 147 = .ok (.iinc 4 1, 3) := by decide +kernel
theorem d_Mo_hints_150 : decode (a_cc M_Mo_hints) 150 = .ok (.goto (-145), 3) := by decide +kernel
theorem d_Mo_hints_153 : decode (a_cc M_Mo_hints) 153 = .ok (.iload_n 3, 1) := by decide +kernel
theorem d_Mo_hints_154 : decode (a_cc M_Mo_hints) 154 = .ok (.istore 4, 2) := by decide +kernel
theorem d_Mo_hints_156 : decode (a_cc M_Mo_hints) 156 = .ok (.iload 4, 2) := by decide +kernel
theorem d_Mo_hints_158 : decode (a_cc M_Mo_hints) 158 = .ok (.aload_n 0, 1) := by decide +kernel
theorem d_Mo_hints_159 : decode (a_cc M_Mo_hints) 159 = .ok (.getfield 245, 3) := by decide +kernel
theorem d_Mo_hints_162 : decode (a_cc M_Mo_hints) 162 = .ok (.if_icmp .ge 20, 3) := by decide +kernel
theorem d_Mo_hints_165 : decode (a_cc M_Mo_hints) 165 = .ok (.aload_n 1, 1) := by decide +kernel
theorem d_Mo_hints_166 : decode (a_cc M_Mo_hints) 166 = .ok (.iload_n 2, 1) := by decide +kernel
theorem d_Mo_hints_167 : decode (a_cc M_Mo_hints) 167 = .ok (.iload 4, 2) := by decide +kernel
theorem d_Mo_hints_169 : decode (a_cc M_Mo_hints) 169 = .ok (.iadd, 1) := by decide +kernel
theorem d_Mo_hints_170 : decode (a_cc M_Mo_hints) 170 = .ok (.baload, 1) := by decide +kernel
theorem d_Mo_hints_171 : decode (a_cc M_Mo_hints) 171 = .ok (.ifCond .eq 5, 3) := by decide +kernel
theorem d_Mo_hints_174 : decode (a_cc M_Mo_hints) 174 = .ok (.iconst 0, 1) := by decide +kernel
theorem d_Mo_hints_175 : decode (a_cc M_Mo_hints) 175 = .ok (.ireturn, 1) := by decide +kernel
theorem d_Mo_hints_176 : decode (a_cc M_Mo_hints) 176 = .ok (.iinc 4 1, 3) := by decide +kernel
theorem d_Mo_hints_179 : decode (a_cc M_Mo_hints) 179 = .ok (.goto (-23), 3) := by decide +kernel
theorem d_Mo_hints_182 : decode (a_cc M_Mo_hints) 182 = .ok (.iconst 1, 1) := by decide +kernel
theorem d_Mo_hints_183 : decode (a_cc M_Mo_hints) 183 = .ok (.ireturn, 1) := by decide +kernel
def M_Mo_alike : a_M := (⟨"ModuleSignerModel", "alike", "([BI[BII)Z"⟩, prog_12_method_15_code, 7, some .boolean, "ModuleSignerModel", 0, 0, [])
theorem ok_Mo_alike : a_Ok M_Mo_alike := ⟨rfl, by decide +kernel, ⟨by decide, by decide⟩, List.mem_append_right _ (List.mem_of_getElem? (i := 11) (by decide +kernel)), Or.inl ⟨rfl, List.mem_append_right _ (List.mem_of_getElem? (i := 1426) (by decide +kernel))⟩⟩
theorem d_Mo_alike_0 : decode (a_cc M_Mo_alike) 0 = .ok (.iconst 1, 1) := by decide +kernel
theorem d_Mo_alike_1 : decode (a_cc M_Mo_alike) 1 = .ok (.istore 5, 2) := by decide +kernel
theorem d_Mo_alike_3 : decode (a_cc M_Mo_alike) 3 = .ok (.iconst 0, 1) := by decide +kernel
theorem d_Mo_alike_4 : decode (a_cc M_Mo_alike) 4 = .ok (.istore 6, 2) := by decide +kernel
theorem d_Mo_alike_6 : decode (a_cc M_Mo_alike) 6 = .ok (.iload 6, 2) := by decide +kernel
theorem d_Mo_alike_8 : decode (a_cc M_Mo_alike) 8 = .ok (.iload 4, 2) := by decide +kernel
theorem d_Mo_alike_10 : decode (a_cc M_Mo_alike) 10 = .ok (.if_icmp .ge 27, 3) := by decide +kernel
theorem d_Mo_alike_13 : decode (a_cc M_Mo_alike) 13 = .ok (.aload_n 0, 1) := by decide +kernel
theorem d_Mo_alike_14 : decode (a_cc M_Mo_alike) 14 = .ok (.iload_n 1, 1) := by decide +kernel
theorem d_Mo_alike_15 : decode (a_cc M_Mo_alike) 15 = .ok (.iload 6, 2) := by decide +kernel
theorem d_Mo_alike_17 : decode (a_cc M_Mo_alike) 17 = .ok (.iadd, 1) := by decide +kernel
theorem d_Mo_alike_18 : decode (a_cc M_Mo_alike) 18 = .ok (.baload, 1) := by decide +kernel
theorem d_Mo_alike_19 : decode (a_cc M_Mo_alike) 19 = .ok (.aload_n 2, 1) := by decide +kernel
theorem d_Mo_alike_20 : decode (a_cc M_Mo_alike) 20 = .ok (.iload_n 3, 1) := by decide +kernel
theorem d_Mo_alike_21 : decode (a_cc M_Mo_alike) 21 = .ok (.iload 6, 2) := by decide +kernel
theorem d_Mo_alike_23 : decode (a_cc M_Mo_alike) 23 = .ok (.iadd, 1) := by decide +kernel
theorem d_Mo_alike_24 : decode (a_cc M_Mo_alike) 24 = .ok (.baload, 1) := by decide +kernel
theorem d_Mo_alike_25 : decode (a_cc M_Mo_alike) 25 = .ok (.if_icmp .eq 6, 3) := by decide +kernel
theorem d_Mo_alike_28 : decode (a_cc M_Mo_alike) 28 = .ok (.iconst 0, 1) := by decide +kernel
theorem d_Mo_alike_29 : decode (a_cc M_Mo_alike) 29 = .ok (.istore 5, 2) := by decide +kernel
theorem d_Mo_alike_31 : decode (a_cc M_Mo_alike) 31 = .ok (.iinc 6 1, 3) := by decide +kernel
theorem d_Mo_alike_34 : decode (a_cc M_Mo_alike) 34 = .ok (.goto (-28), 3) := by decide +kernel
theorem d_Mo_alike_37 : decode (a_cc M_Mo_alike) 37 = .ok (.iload 5, 2) := by decide +kernel
theorem d_Mo_alike_39 : decode (a_cc M_Mo_alike) 39 = .ok (.ireturn, 1) := by decide +kernel
