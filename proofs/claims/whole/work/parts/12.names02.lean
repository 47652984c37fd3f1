/-! names, printed by program: methods, their instructions, what they link -/
def M_La_end : a_M := (⟨"ModuleSignerLaw", "end", "(LModuleSigner;II[J)I"⟩, method_4_code, 5, some .int, "ModuleSignerLaw", 8, 110, [(0, 10, 13, 19), (0, 10, 17, 13)])
theorem ok_La_end : a_Ok M_La_end := ⟨rfl, by decide +kernel, ⟨by decide, by decide⟩, List.mem_append_right _ (List.mem_of_getElem? (i := 0) (by decide +kernel)), Or.inr (List.mem_append_right _ (List.mem_of_getElem? (i := 461) (by decide +kernel)))⟩
theorem d_La_end_0 : decode (a_cc M_La_end) 0 = .ok (.aload_n 3, 1) := by decide +kernel
theorem d_La_end_1 : decode (a_cc M_La_end) 1 = .ok (.iconst 0, 1) := by decide +kernel
theorem d_La_end_2 : decode (a_cc M_La_end) 2 = .ok (.aload_n 0, 1) := by decide +kernel
theorem d_La_end_3 : decode (a_cc M_La_end) 3 = .ok (.iload_n 1, 1) := by decide +kernel
theorem d_La_end_4 : decode (a_cc M_La_end) 4 = .ok (.iload_n 2, 1) := by decide +kernel
theorem d_La_end_5 : decode (a_cc M_La_end) 5 = .ok (.invokevirtual 15, 3) := by decide +kernel
theorem d_La_end_8 : decode (a_cc M_La_end) 8 = .ok (.i2l, 1) := by decide +kernel
theorem d_La_end_9 : decode (a_cc M_La_end) 9 = .ok (.lastore, 1) := by decide +kernel
theorem d_La_end_10 : decode (a_cc M_La_end) 10 = .ok (.goto 11, 3) := by decide +kernel
theorem d_La_end_13 : decode (a_cc M_La_end) 13 = .ok (.astore 4, 2) := by decide +kernel
theorem d_La_end_15 : decode (a_cc M_La_end) 15 = .ok (.iconst 1, 1) := by decide +kernel
theorem d_La_end_16 : decode (a_cc M_La_end) 16 = .ok (.ireturn, 1) := by decide +kernel
theorem d_La_end_17 : decode (a_cc M_La_end) 17 = .ok (.astore 4, 2) := by decide +kernel
theorem d_La_end_19 : decode (a_cc M_La_end) 19 = .ok (.iconst 2, 1) := by decide +kernel
theorem d_La_end_20 : decode (a_cc M_La_end) 20 = .ok (.ireturn, 1) := by decide +kernel
theorem d_La_end_21 : decode (a_cc M_La_end) 21 = .ok (.iconst 0, 1) := by decide +kernel
theorem d_La_end_22 : decode (a_cc M_La_end) 22 = .ok (.ireturn, 1) := by decide +kernel
theorem cs_La_end_5 : a_CV M_La_end M_MS_end 15 0 3 2 2 := ⟨⟨ok_MS_end, by decide, by decide, by decide⟩, by decide, rfl, List.mem_append_right _ (List.mem_of_getElem? (i := 463) (by decide +kernel)), List.mem_append_right _ (List.mem_of_getElem? (i := 464) (by decide +kernel)), List.mem_append_right _ (List.mem_of_getElem? (i := 465) (by decide +kernel)), by decide +kernel⟩
def M_Mo_in : a_M := (⟨"ModuleSignerModel", "in", "(III)Z"⟩, prog_12_method_3_code, 3, some .boolean, "ModuleSignerModel", 0, 0, [])
theorem ok_Mo_in : a_Ok M_Mo_in := ⟨rfl, by decide +kernel, ⟨by decide, by decide⟩, List.mem_append_right _ (List.mem_of_getElem? (i := 11) (by decide +kernel)), Or.inl ⟨rfl, List.mem_append_right _ (List.mem_of_getElem? (i := 1254) (by decide +kernel))⟩⟩
theorem d_Mo_in_0 : decode (a_cc M_Mo_in) 0 = .ok (.iload_n 0, 1) := by decide +kernel
theorem d_Mo_in_1 : decode (a_cc M_Mo_in) 1 = .ok (.iload_n 1, 1) := by decide +kernel
theorem d_Mo_in_2 : decode (a_cc M_Mo_in) 2 = .ok (.if_icmp .lt 12, 3) := by decide +kernel
theorem d_Mo_in_5 : decode (a_cc M_Mo_in) 5 = .ok (.iload_n 0, 1) := by decide +kernel
theorem d_Mo_in_6 : decode (a_cc M_Mo_in) 6 = .ok (.iload_n 2, 1) := by decide +kernel
theorem d_Mo_in_7 : decode (a_cc M_Mo_in) 7 = .ok (.if_icmp .gt 7, 3) := by decide +kernel
theorem d_Mo_in_10 : decode (a_cc M_Mo_in) 10 = .ok (.iconst 1, 1) := by decide +kernel
theorem d_Mo_in_11 : decode (a_cc M_Mo_in) 11 = .ok (.goto 4, 3) := by decide +kernel
theorem d_Mo_in_14 : decode (a_cc M_Mo_in) 14 = .ok (.iconst 0, 1) := by decide +kernel
theorem d_Mo_in_15 : decode (a_cc M_Mo_in) 15 = .ok (.ireturn, 1) := by decide +kernel
def M_Mo_end : a_M := (⟨"ModuleSignerModel", "end", "(II)I"⟩, prog_12_method_7_code, 4, some .int, "ModuleSignerModel", 1, 15, [])
theorem ok_Mo_end : a_Ok M_Mo_end := ⟨rfl, by decide +kernel, ⟨by decide, by decide⟩, List.mem_append_right _ (List.mem_of_getElem? (i := 11) (by decide +kernel)), Or.inl ⟨rfl, List.mem_append_right _ (List.mem_of_getElem? (i := 1251) (by decide +kernel))⟩⟩
theorem d_Mo_end_0 : decode (a_cc M_Mo_end) 0 = .ok (.aload_n 0, 1) := by decide +kernel
theorem d_Mo_end_1 : decode (a_cc M_Mo_end) 1 = .ok (.iload_n 1, 1) := by decide +kernel
theorem d_Mo_end_2 : decode (a_cc M_Mo_end) 2 = .ok (.iconst 0, 1) := by decide +kernel
theorem d_Mo_end_3 : decode (a_cc M_Mo_end) 3 = .ok (.bipush 7, 2) := by decide +kernel
theorem d_Mo_end_5 : decode (a_cc M_Mo_end) 5 = .ok (.invokestatic 120, 3) := by decide +kernel
theorem d_Mo_end_8 : decode (a_cc M_Mo_end) 8 = .ok (.ifCond .eq 18, 3) := by decide +kernel
theorem d_Mo_end_11 : decode (a_cc M_Mo_end) 11 = .ok (.iload_n 2, 1) := by decide +kernel
theorem d_Mo_end_12 : decode (a_cc M_Mo_end) 12 = .ok (.iconst 0, 1) := by decide +kernel
theorem d_Mo_end_13 : decode (a_cc M_Mo_end) 13 = .ok (.sipush 8192, 3) := by decide +kernel
theorem d_Mo_end_16 : decode (a_cc M_Mo_end) 16 = .ok (.invokestatic 120, 3) := by decide +kernel
theorem d_Mo_end_19 : decode (a_cc M_Mo_end) 19 = .ok (.ifCond .eq 7, 3) := by decide +kernel
theorem d_Mo_end_22 : decode (a_cc M_Mo_end) 22 = .ok (.iconst 1, 1) := by decide +kernel
theorem d_Mo_end_23 : decode (a_cc M_Mo_end) 23 = .ok (.goto 4, 3) := by decide +kernel
theorem d_Mo_end_26 : decode (a_cc M_Mo_end) 26 = .ok (.iconst 0, 1) := by decide +kernel
theorem d_Mo_end_27 : decode (a_cc M_Mo_end) 27 = .ok (.iconst 1, 1) := by decide +kernel
theorem d_Mo_end_28 : decode (a_cc M_Mo_end) 28 = .ok (.invokevirtual 112, 3) := by decide +kernel
theorem d_Mo_end_31 : decode (a_cc M_Mo_end) 31 = .ok (.ifCond .eq 24, 3) := by decide +kernel
theorem d_Mo_end_34 : decode (a_cc M_Mo_end) 34 = .ok (.aload_n 0, 1) := by decide +kernel
theorem d_Mo_end_35 : decode (a_cc M_Mo_end) 35 = .ok (.iload_n 2, 1) := by decide +kernel
theorem d_Mo_end_36 : decode (a_cc M_Mo_end) 36 = .ok (.aload_n 0, 1) := by decide +kernel
theorem d_Mo_end_37 : decode (a_cc M_Mo_end) 37 = .ok (.getfield 109, 3) := by decide +kernel
theorem d_Mo_end_40 : decode (a_cc M_Mo_end) 40 = .ok (.if_icmp .gt 7, 3) := by decide +kernel
theorem d_Mo_end_43 : decode (a_cc M_Mo_end) 43 = .ok (.iconst 1, 1) := by decide +kernel
theorem d_Mo_end_44 : decode (a_cc M_Mo_end) 44 = .ok (.goto 4, 3) := by decide +kernel
theorem d_Mo_end_47 : decode (a_cc M_Mo_end) 47 = .ok (.iconst 0, 1) := by decide +kernel
theorem d_Mo_end_48 : decode (a_cc M_Mo_end) 48 = .ok (.iconst 2, 1) := by decide +kernel
theorem d_Mo_end_49 : decode (a_cc M_Mo_end) 49 = .ok (.invokevirtual 112, 3) := by decide +kernel
theorem d_Mo_end_52 : decode (a_cc M_Mo_end) 52 = .ok (.ifCond .ne 5, 3) := by decide +kernel
theorem d_Mo_end_55 : decode (a_cc M_Mo_end) 55 = .ok (.iconst 0, 1) := by decide +kernel
theorem d_Mo_end_56 : decode (a_cc M_Mo_end) 56 = .ok (.ireturn, 1) := by decide +kernel
theorem d_Mo_end_57 : decode (a_cc M_Mo_end) 57 = .ok (.iconst 0, 1) := by decide +kernel
theorem d_Mo_end_58 : decode (a_cc M_Mo_end) 58 = .ok (.istore_n 3, 1) := by decide +kernel
theorem d_Mo_end_59 : decode (a_cc M_Mo_end) 59 = .ok (.iload_n 3, 1) := by decide +kernel
theorem d_Mo_end_60 : decode (a_cc M_Mo_end) 60 = .ok (.iload_n 2, 1) := by decide +kernel
theorem d_Mo_end_61 : decode (a_cc M_Mo_end) 61 = .ok (.if_icmp .ge 23, 3) := by decide +kernel
theorem d_Mo_end_64 : decode (a_cc M_Mo_end) 64 = .ok (.aload_n 0, 1) := by decide +kernel
theorem d_Mo_end_65 : decode (a_cc M_Mo_end) 65 = .ok (.getfield 15, 3) := by decide +kernel
theorem d_Mo_end_68 : decode (a_cc M_Mo_end) 68 = .ok (.iload_n 1, 1) := by decide +kernel
theorem d_Mo_end_69 : decode (a_cc M_Mo_end) 69 = .ok (.aaload, 1) := by decide +kernel
theorem d_Mo_end_70 : decode (a_cc M_Mo_end) 70 = .ok (.iload_n 3, 1) := by decide +kernel
theorem d_Mo_end_71 : decode (a_cc M_Mo_end) 71 = .ok (.aload_n 0, 1) := by decide +kernel
theorem d_Mo_end_72 : decode (a_cc M_Mo_end) 72 = .ok (.getfield 9, 3) := by decide +kernel
theorem d_Mo_end_75 : decode (a_cc M_Mo_end) 75 = .ok (.iload_n 3, 1) := by decide +kernel
theorem d_Mo_end_76 : decode (a_cc M_Mo_end) 76 = .ok (.baload, 1) := by decide +kernel
theorem d_Mo_end_77 : decode (a_cc M_Mo_end) 77 = .ok (.bastore, 1) := by decide +kernel
theorem d_Mo_end_78 : decode (a_cc M_Mo_end) 78 = .ok (.iinc 3 1, 3) := by decide +kernel
theorem d_Mo_end_81 : decode (a_cc M_Mo_end) 81 = .ok (.goto (-22), 3) := by decide +kernel
theorem d_Mo_end_84 : decode (a_cc M_Mo_end) 84 = .ok (.aload_n 0, 1) := by decide +kernel
theorem d_Mo_end_85 : decode (a_cc M_Mo_end) 85 = .ok (.getfield 18, 3) := by decide +kernel
theorem d_Mo_end_88 : decode (a_cc M_Mo_end) 88 = .ok (.iload_n 1, 1) := by decide +kernel
theorem d_Mo_end_89 : decode (a_cc M_Mo_end) 89 = .ok (.iload_n 2, 1) := by decide +kernel
theorem d_Mo_end_90 : decode (a_cc M_Mo_end) 90 = .ok (.iastore, 1) := by decide +kernel
theorem d_Mo_end_91 : decode (a_cc M_Mo_end) 91 = .ok (.aload_n 0, 1) := by decide +kernel
theorem d_Mo_end_92 : decode (a_cc M_Mo_end) 92 = .ok (.iconst 0, 1) := by decide +kernel
theorem d_Mo_end_93 : decode (a_cc M_Mo_end) 93 = .ok (.putfield 109, 3) := by decide +kernel
theorem d_Mo_end_96 : decode (a_cc M_Mo_end) 96 = .ok (.iload_n 2, 1) := by decide +kernel
theorem d_Mo_end_97 : decode (a_cc M_Mo_end) 97 = .ok (.ireturn, 1) := by decide +kernel
theorem cs_Mo_end_5 : a_CS M_Mo_end M_Mo_in 120 3 1 3 := ⟨⟨ok_Mo_in, by decide, by decide, by decide⟩, List.mem_append_right _ (List.mem_of_getElem? (i := 1252) (by decide +kernel)), List.mem_append_right _ (List.mem_of_getElem? (i := 1253) (by decide +kernel)), by decide +kernel⟩
theorem cs_Mo_end_16 : a_CS M_Mo_end M_Mo_in 120 3 1 3 := ⟨⟨ok_Mo_in, by decide, by decide, by decide⟩, List.mem_append_right _ (List.mem_of_getElem? (i := 1252) (by decide +kernel)), List.mem_append_right _ (List.mem_of_getElem? (i := 1253) (by decide +kernel)), by decide +kernel⟩
theorem cs_Mo_end_28 : a_CV M_Mo_end M_Mo_good 112 10 3 0 2 := ⟨⟨ok_Mo_good, by decide, by decide, by decide⟩, by decide, rfl, List.mem_append_right _ (List.mem_of_getElem? (i := 1240) (by decide +kernel)), List.mem_append_right _ (List.mem_of_getElem? (i := 1242) (by decide +kernel)), List.mem_append_left _ (List.mem_of_getElem? (i := 41) (by decide +kernel)), by decide +kernel⟩
theorem cs_Mo_end_49 : a_CV M_Mo_end M_Mo_good 112 10 3 0 2 := ⟨⟨ok_Mo_good, by decide, by decide, by decide⟩, by decide, rfl, List.mem_append_right _ (List.mem_of_getElem? (i := 1240) (by decide +kernel)), List.mem_append_right _ (List.mem_of_getElem? (i := 1242) (by decide +kernel)), List.mem_append_left _ (List.mem_of_getElem? (i := 41) (by decide +kernel)), by decide +kernel⟩
def M_MS_copy : a_M := (⟨"ModuleSigner", "copy", "(II)I"⟩, prog_1_method_4_code, 3, some .int, "ModuleSigner", 7, 94, [])
theorem ok_MS_copy : a_Ok M_MS_copy := ⟨rfl, by decide +kernel, ⟨by decide, by decide⟩, List.mem_append_right _ (List.mem_of_getElem? (i := 1) (by decide +kernel)), Or.inl ⟨rfl, List.mem_append_right _ (List.mem_of_getElem? (i := 511) (by decide +kernel))⟩⟩
theorem d_MS_copy_0 : decode (a_cc M_MS_copy) 0 = .ok (.iload_n 1, 1) := by decide +kernel
theorem d_MS_copy_1 : decode (a_cc M_MS_copy) 1 = .ok (.invokestatic 69, 3) := by decide +kernel
theorem d_MS_copy_4 : decode (a_cc M_MS_copy) 4 = .ok (.iload_n 2, 1) := by decide +kernel
theorem d_MS_copy_5 : decode (a_cc M_MS_copy) 5 = .ok (.invokestatic 69, 3) := by decide +kernel
theorem d_MS_copy_8 : decode (a_cc M_MS_copy) 8 = .ok (.aload_n 0, 1) := by decide +kernel
theorem d_MS_copy_9 : decode (a_cc M_MS_copy) 9 = .ok (.getfield 11, 3) := by decide +kernel
theorem d_MS_copy_12 : decode (a_cc M_MS_copy) 12 = .ok (.iload_n 2, 1) := by decide +kernel
theorem d_MS_copy_13 : decode (a_cc M_MS_copy) 13 = .ok (.aaload, 1) := by decide +kernel
theorem d_MS_copy_14 : decode (a_cc M_MS_copy) 14 = .ok (.aload_n 0, 1) := by decide +kernel
theorem d_MS_copy_15 : decode (a_cc M_MS_copy) 15 = .ok (.getfield 11, 3) := by decide +kernel
theorem d_MS_copy_18 : decode (a_cc M_MS_copy) 18 = .ok (.iload_n 1, 1) := by decide +kernel
theorem d_MS_copy_19 : decode (a_cc M_MS_copy) 19 = .ok (.aaload, 1) := by decide +kernel
theorem d_MS_copy_20 : decode (a_cc M_MS_copy) 20 = .ok (.aload_n 0, 1) := by decide +kernel
theorem d_MS_copy_21 : decode (a_cc M_MS_copy) 21 = .ok (.getfield 11, 3) := by decide +kernel
theorem d_MS_copy_24 : decode (a_cc M_MS_copy) 24 = .ok (.iload_n 1, 1) := by decide +kernel
theorem d_MS_copy_25 : decode (a_cc M_MS_copy) 25 = .ok (.aaload, 1) := by decide +kernel
theorem d_MS_copy_26 : decode (a_cc M_MS_copy) 26 = .ok (.getfield 55, 3) := by decide +kernel
theorem d_MS_copy_29 : decode (a_cc M_MS_copy) 29 = .ok (.invokevirtual 77, 3) := by decide +kernel
theorem d_MS_copy_32 : decode (a_cc M_MS_copy) 32 = .ok (.aload_n 0, 1) := by decide +kernel
theorem d_MS_copy_33 : decode (a_cc M_MS_copy) 33 = .ok (.getfield 11, 3) := by decide +kernel
theorem d_MS_copy_36 : decode (a_cc M_MS_copy) 36 = .ok (.iload_n 2, 1) := by decide +kernel
theorem d_MS_copy_37 : decode (a_cc M_MS_copy) 37 = .ok (.aaload, 1) := by decide +kernel
theorem d_MS_copy_38 : decode (a_cc M_MS_copy) 38 = .ok (.getfield 55, 3) := by decide +kernel
theorem d_MS_copy_41 : decode (a_cc M_MS_copy) 41 = .ok (.ireturn, 1) := by decide +kernel
theorem cs_MS_copy_1 : a_CS M_MS_copy M_MS_needSlot 69 1 0 1 := ⟨⟨ok_MS_needSlot, by decide, by decide, by decide⟩, List.mem_append_right _ (List.mem_of_getElem? (i := 467) (by decide +kernel)), List.mem_append_right _ (List.mem_of_getElem? (i := 468) (by decide +kernel)), by decide +kernel⟩
theorem cs_MS_copy_5 : a_CS M_MS_copy M_MS_needSlot 69 1 0 1 := ⟨⟨ok_MS_needSlot, by decide, by decide, by decide⟩, List.mem_append_right _ (List.mem_of_getElem? (i := 467) (by decide +kernel)), List.mem_append_right _ (List.mem_of_getElem? (i := 468) (by decide +kernel)), by decide +kernel⟩
theorem cs_MS_copy_29 : a_CV M_MS_copy M_By_become 77 1 3 0 2 := ⟨⟨ok_By_become, by decide, by decide, by decide⟩, by decide, rfl, List.mem_append_right _ (List.mem_of_getElem? (i := 491) (by decide +kernel)), List.mem_append_right _ (List.mem_of_getElem? (i := 492) (by decide +kernel)), List.mem_append_right _ (List.mem_of_getElem? (i := 493) (by decide +kernel)), by decide +kernel⟩
def M_La_copy : a_M := (⟨"ModuleSignerLaw", "copy", "(LModuleSigner;II[J)I"⟩, method_5_code, 5, some .int, "ModuleSignerLaw", 8, 110, [(0, 10, 13, 19)])
theorem ok_La_copy : a_Ok M_La_copy := ⟨rfl, by decide +kernel, ⟨by decide, by decide⟩, List.mem_append_right _ (List.mem_of_getElem? (i := 0) (by decide +kernel)), Or.inr (List.mem_append_right _ (List.mem_of_getElem? (i := 507) (by decide +kernel)))⟩
theorem d_La_copy_0 : decode (a_cc M_La_copy) 0 = .ok (.aload_n 3, 1) := by decide +kernel
theorem d_La_copy_1 : decode (a_cc M_La_copy) 1 = .ok (.iconst 0, 1) := by decide +kernel
theorem d_La_copy_2 : decode (a_cc M_La_copy) 2 = .ok (.aload_n 0, 1) := by decide +kernel
theorem d_La_copy_3 : decode (a_cc M_La_copy) 3 = .ok (.iload_n 1, 1) := by decide +kernel
theorem d_La_copy_4 : decode (a_cc M_La_copy) 4 = .ok (.iload_n 2, 1) := by decide +kernel
theorem d_La_copy_5 : decode (a_cc M_La_copy) 5 = .ok (.invokevirtual 21, 3) := by decide +kernel
theorem d_La_copy_8 : decode (a_cc M_La_copy) 8 = .ok (.i2l, 1) := by decide +kernel
theorem d_La_copy_9 : decode (a_cc M_La_copy) 9 = .ok (.lastore, 1) := by decide +kernel
theorem d_La_copy_10 : decode (a_cc M_La_copy) 10 = .ok (.goto 7, 3) := by decide +kernel
theorem d_La_copy_13 : decode (a_cc M_La_copy) 13 = .ok (.astore 4, 2) := by decide +kernel
theorem d_La_copy_15 : decode (a_cc M_La_copy) 15 = .ok (.iconst 1, 1) := by decide +kernel
theorem d_La_copy_16 : decode (a_cc M_La_copy) 16 = .ok (.ireturn, 1) := by decide +kernel
theorem d_La_copy_17 : decode (a_cc M_La_copy) 17 = .ok (.iconst 0, 1) := by decide +kernel
theorem d_La_copy_18 : decode (a_cc M_La_copy) 18 = .ok (.ireturn, 1) := by decide +kernel
theorem cs_La_copy_5 : a_CV M_La_copy M_MS_copy 21 0 3 2 2 := ⟨⟨ok_MS_copy, by decide, by decide, by decide⟩, by decide, rfl, List.mem_append_right _ (List.mem_of_getElem? (i := 508) (by decide +kernel)), List.mem_append_right _ (List.mem_of_getElem? (i := 509) (by decide +kernel)), List.mem_append_right _ (List.mem_of_getElem? (i := 510) (by decide +kernel)), by decide +kernel⟩
def M_Mo_copy : a_M := (⟨"ModuleSignerModel", "copy", "(II)I"⟩, prog_12_method_8_code, 4, some .int, "ModuleSignerModel", 1, 15, [])
theorem ok_Mo_copy : a_Ok M_Mo_copy := ⟨rfl, by decide +kernel, ⟨by decide, by decide⟩, List.mem_append_right _ (List.mem_of_getElem? (i := 11) (by decide +kernel)), Or.inl ⟨rfl, List.mem_append_right _ (List.mem_of_getElem? (i := 1258) (by decide +kernel))⟩⟩
theorem d_Mo_copy_0 : decode (a_cc M_Mo_copy) 0 = .ok (.aload_n 0, 1) := by decide +kernel
theorem d_Mo_copy_1 : decode (a_cc M_Mo_copy) 1 = .ok (.iload_n 1, 1) := by decide +kernel
theorem d_Mo_copy_2 : decode (a_cc M_Mo_copy) 2 = .ok (.iconst 0, 1) := by decide +kernel
theorem d_Mo_copy_3 : decode (a_cc M_Mo_copy) 3 = .ok (.bipush 7, 2) := by decide +kernel
theorem d_Mo_copy_5 : decode (a_cc M_Mo_copy) 5 = .ok (.invokestatic 120, 3) := by decide +kernel
theorem d_Mo_copy_8 : decode (a_cc M_Mo_copy) 8 = .ok (.ifCond .eq 17, 3) := by decide +kernel
theorem d_Mo_copy_11 : decode (a_cc M_Mo_copy) 11 = .ok (.iload_n 2, 1) := by decide +kernel
theorem d_Mo_copy_12 : decode (a_cc M_Mo_copy) 12 = .ok (.iconst 0, 1) := by decide +kernel
theorem d_Mo_copy_13 : decode (a_cc M_Mo_copy) 13 = .ok (.bipush 7, 2) := by decide +kernel
theorem d_Mo_copy_15 : decode (a_cc M_Mo_copy) 15 = .ok (.invokestatic 120, 3) := by decide +kernel
theorem d_Mo_copy_18 : decode (a_cc M_Mo_copy) 18 = .ok (.ifCond .eq 7, 3) := by decide +kernel
theorem d_Mo_copy_21 : decode (a_cc M_Mo_copy) 21 = .ok (.iconst 1, 1) := by decide +kernel
theorem d_Mo_copy_22 : decode (a_cc M_Mo_copy) 22 = .ok (.goto 4, 3) := by decide +kernel
theorem d_Mo_copy_25 : decode (a_cc M_Mo_copy) 25 = .ok (.iconst 0, 1) := by decide +kernel
theorem d_Mo_copy_26 : decode (a_cc M_Mo_copy) 26 = .ok (.iconst 1, 1) := by decide +kernel
theorem d_Mo_copy_27 : decode (a_cc M_Mo_copy) 27 = .ok (.invokevirtual 112, 3) := by decide +kernel
theorem d_Mo_copy_30 : decode (a_cc M_Mo_copy) 30 = .ok (.ifCond .ne 5, 3) := by decide +kernel
theorem d_Mo_copy_33 : decode (a_cc M_Mo_copy) 33 = .ok (.iconst 0, 1) := by decide +kernel
theorem d_Mo_copy_34 : decode (a_cc M_Mo_copy) 34 = .ok (.ireturn, 1) := by decide +kernel
theorem d_Mo_copy_35 : decode (a_cc M_Mo_copy) 35 = .ok (.iconst 0, 1) := by decide +kernel
theorem d_Mo_copy_36 : decode (a_cc M_Mo_copy) 36 = .ok (.istore_n 3, 1) := by decide +kernel
theorem d_Mo_copy_37 : decode (a_cc M_Mo_copy) 37 = .ok (.iload_n 3, 1) := by decide +kernel
theorem d_Mo_copy_38 : decode (a_cc M_Mo_copy) 38 = .ok (.aload_n 0, 1) := by decide +kernel
theorem d_Mo_copy_39 : decode (a_cc M_Mo_copy) 39 = .ok (.getfield 18, 3) := by decide +kernel
theorem d_Mo_copy_42 : decode (a_cc M_Mo_copy) 42 = .ok (.iload_n 1, 1) := by decide +kernel
theorem d_Mo_copy_43 : decode (a_cc M_Mo_copy) 43 = .ok (.iaload, 1) := by decide +kernel
theorem d_Mo_copy_44 : decode (a_cc M_Mo_copy) 44 = .ok (.if_icmp .ge 25, 3) := by decide +kernel
theorem d_Mo_copy_47 : decode (a_cc M_Mo_copy) 47 = .ok (.aload_n 0, 1) := by decide +kernel
theorem d_Mo_copy_48 : decode (a_cc M_Mo_copy) 48 = .ok (.getfield 15, 3) := by decide +kernel
theorem d_Mo_copy_51 : decode (a_cc M_Mo_copy) 51 = .ok (.iload_n 2, 1) := by decide +kernel
theorem d_Mo_copy_52 : decode (a_cc M_Mo_copy) 52 = .ok (.aaload, 1) := by decide +kernel
theorem d_Mo_copy_53 : decode (a_cc M_Mo_copy) 53 = .ok (.iload_n 3, 1) := by decide +kernel
theorem d_Mo_copy_54 : decode (a_cc M_Mo_copy) 54 = .ok (.aload_n 0, 1) := by decide +kernel
theorem d_Mo_copy_55 : decode (a_cc M_Mo_copy) 55 = .ok (.getfield 15, 3) := by decide +kernel
theorem d_Mo_copy_58 : decode (a_cc M_Mo_copy) 58 = .ok (.iload_n 1, 1) := by decide +kernel
theorem d_Mo_copy_59 : decode (a_cc M_Mo_copy) 59 = .ok (.aaload, 1) := by decide +kernel
theorem d_Mo_copy_60 : decode (a_cc M_Mo_copy) 60 = .ok (.iload_n 3, 1) := by decide +kernel
theorem d_Mo_copy_61 : decode (a_cc M_Mo_copy) 61 = .ok (.baload, 1) := by decide +kernel
theorem d_Mo_copy_62 : decode (a_cc M_Mo_copy) 62 = .ok (.bastore, 1) := by decide +kernel
theorem d_Mo_copy_63 : decode (a_cc M_Mo_copy) 63 = .ok (.iinc 3 1, 3) := by decide +kernel
theorem d_Mo_copy_66 : decode (a_cc M_Mo_copy) 66 = .ok (.goto (-29), 3) := by decide +kernel
theorem d_Mo_copy_69 : decode (a_cc M_Mo_copy) 69 = .ok (.aload_n 0, 1) := by decide +kernel
theorem d_Mo_copy_70 : decode (a_cc M_Mo_copy) 70 = .ok (.getfield 18, 3) := by decide +kernel
theorem d_Mo_copy_73 : decode (a_cc M_Mo_copy) 73 = .ok (.iload_n 2, 1) := by decide +kernel
theorem d_Mo_copy_74 : decode (a_cc M_Mo_copy) 74 = .ok (.aload_n 0, 1) := by decide +kernel
theorem d_Mo_copy_75 : decode (a_cc M_Mo_copy) 75 = .ok (.getfield 18, 3) := by decide +kernel
theorem d_Mo_copy_78 : decode (a_cc M_Mo_copy) 78 = .ok (.iload_n 1, 1) := by decide +kernel
theorem d_Mo_copy_79 : decode (a_cc M_Mo_copy) 79 = .ok (.iaload, 1) := by decide +kernel
theorem d_Mo_copy_80 : decode (a_cc M_Mo_copy) 80 = .ok (.iastore, 1) := by decide +kernel
theorem d_Mo_copy_81 : decode (a_cc M_Mo_copy) 81 = .ok (.aload_n 0, 1) := by decide +kernel
theorem d_Mo_copy_82 : decode (a_cc M_Mo_copy) 82 = .ok (.getfield 18, 3) := by decide +kernel
theorem d_Mo_copy_85 : decode (a_cc M_Mo_copy) 85 = .ok (.iload_n 2, 1) := by decide +kernel
theorem d_Mo_copy_86 : decode (a_cc M_Mo_copy) 86 = .ok (.iaload, 1) := by decide +kernel
theorem d_Mo_copy_87 : decode (a_cc M_Mo_copy) 87 = .ok (.ireturn, 1) := by decide +kernel
theorem cs_Mo_copy_5 : a_CS M_Mo_copy M_Mo_in 120 3 1 3 := ⟨⟨ok_Mo_in, by decide, by decide, by decide⟩, List.mem_append_right _ (List.mem_of_getElem? (i := 1252) (by decide +kernel)), List.mem_append_right _ (List.mem_of_getElem? (i := 1253) (by decide +kernel)), by decide +kernel⟩
theorem cs_Mo_copy_15 : a_CS M_Mo_copy M_Mo_in 120 3 1 3 := ⟨⟨ok_Mo_in, by decide, by decide, by decide⟩, List.mem_append_right _ (List.mem_of_getElem? (i := 1252) (by decide +kernel)), List.mem_append_right _ (List.mem_of_getElem? (i := 1253) (by decide +kernel)), by decide +kernel⟩
theorem cs_Mo_copy_27 : a_CV M_Mo_copy M_Mo_good 112 10 3 0 2 := ⟨⟨ok_Mo_good, by decide, by decide, by decide⟩, by decide, rfl, List.mem_append_right _ (List.mem_of_getElem? (i := 1240) (by decide +kernel)), List.mem_append_right _ (List.mem_of_getElem? (i := 1242) (by decide +kernel)), List.mem_append_left _ (List.mem_of_getElem? (i := 41) (by decide +kernel)), by decide +kernel⟩
def M_By_stretch : a_M := (⟨"ModuleSigner$Bytes", "stretch", "(I)V"⟩, prog_3_method_8_code, 4, none, "ModuleSigner$Bytes", 1, 13, [])
theorem ok_By_stretch : a_Ok M_By_stretch := ⟨rfl, by decide +kernel, ⟨by decide, by decide⟩, List.mem_append_right _ (List.mem_of_getElem? (i := 2) (by decide +kernel)), Or.inl ⟨rfl, List.mem_append_right _ (List.mem_of_getElem? (i := 522) (by decide +kernel))⟩⟩
theorem d_By_stretch_0 : decode (a_cc M_By_stretch) 0 = .ok (.iload_n 1, 1) := by decide +kernel
theorem d_By_stretch_1 : decode (a_cc M_By_stretch) 1 = .ok (.aload_n 0, 1) := by decide +kernel
theorem d_By_stretch_2 : decode (a_cc M_By_stretch) 2 = .ok (.getfield 7, 3) := by decide +kernel
theorem d_By_stretch_5 : decode (a_cc M_By_stretch) 5 = .ok (.arraylength, 1) := by decide +kernel
theorem d_By_stretch_6 : decode (a_cc M_By_stretch) 6 = .ok (.invokestatic 25, 3) := by decide +kernel
theorem d_By_stretch_9 : decode (a_cc M_By_stretch) 9 = .ok (.istore_n 2, 1) := by decide +kernel
theorem d_By_stretch_10 : decode (a_cc M_By_stretch) 10 = .ok (.aload_n 0, 1) := by decide +kernel
theorem d_By_stretch_11 : decode (a_cc M_By_stretch) 11 = .ok (.getfield 13, 3) := by decide +kernel
theorem d_By_stretch_14 : decode (a_cc M_By_stretch) 14 = .ok (.istore_n 3, 1) := by decide +kernel
theorem d_By_stretch_15 : decode (a_cc M_By_stretch) 15 = .ok (.iload_n 3, 1) := by decide +kernel
theorem d_By_stretch_16 : decode (a_cc M_By_stretch) 16 = .ok (.iload_n 2, 1) := by decide +kernel
theorem d_By_stretch_17 : decode (a_cc M_By_stretch) 17 = .ok (.if_icmp .ge 16, 3) := by decide +kernel
theorem d_By_stretch_20 : decode (a_cc M_By_stretch) 20 = .ok (.aload_n 0, 1) := by decide +kernel
theorem d_By_stretch_21 : decode (a_cc M_By_stretch) 21 = .ok (.getfield 7, 3) := by decide +kernel
theorem d_By_stretch_24 : decode (a_cc M_By_stretch) 24 = .ok (.iload_n 3, 1) := by decide +kernel
theorem d_By_stretch_25 : decode (a_cc M_By_stretch) 25 = .ok (.iconst 0, 1) := by decide +kernel
theorem d_By_stretch_26 : decode (a_cc M_By_stretch) 26 = .ok (.bastore, 1) := by decide +kernel
theorem d_By_stretch_27 : decode (a_cc M_By_stretch) 27 = .ok (.iinc 3 1, 3) := by decide +kernel
theorem d_By_stretch_30 : decode (a_cc M_By_stretch) 30 = .ok (.goto (-15), 3) := by decide +kernel
theorem d_By_stretch_33 : decode (a_cc M_By_stretch) 33 = .ok (.aload_n 0, 1) := by decide +kernel
theorem d_By_stretch_34 : decode (a_cc M_By_stretch) 34 = .ok (.iload_n 2, 1) := by decide +kernel
theorem d_By_stretch_35 : decode (a_cc M_By_stretch) 35 = .ok (.putfield 13, 3) := by decide +kernel
theorem d_By_stretch_38 : decode (a_cc M_By_stretch) 38 = .ok (.return_, 1) := by decide +kernel
theorem cs_By_stretch_6 : a_CS M_By_stretch M_Jm_min 25 2 0 2 := ⟨⟨ok_Jm_min, by decide, by decide, by decide⟩, List.mem_append_right _ (List.mem_of_getElem? (i := 495) (by decide +kernel)), List.mem_append_right _ (List.mem_of_getElem? (i := 496) (by decide +kernel)), by decide +kernel⟩
def M_MS_resize : a_M := (⟨"ModuleSigner", "resize", "(II)I"⟩, prog_1_method_5_code, 4, some .int, "ModuleSigner", 7, 94, [])
theorem ok_MS_resize : a_Ok M_MS_resize := ⟨rfl, by decide +kernel, ⟨by decide, by decide⟩, List.mem_append_right _ (List.mem_of_getElem? (i := 1) (by decide +kernel)), Or.inl ⟨rfl, List.mem_append_right _ (List.mem_of_getElem? (i := 518) (by decide +kernel))⟩⟩
theorem d_MS_resize_0 : decode (a_cc M_MS_resize) 0 = .ok (.iload_n 1, 1) := by decide +kernel
theorem d_MS_resize_1 : decode (a_cc M_MS_resize) 1 = .ok (.invokestatic 69, 3) := by decide +kernel
theorem d_MS_resize_4 : decode (a_cc M_MS_resize) 4 = .ok (.iload_n 2, 1) := by decide +kernel
theorem d_MS_resize_5 : decode (a_cc M_MS_resize) 5 = .ok (.invokestatic 72, 3) := by decide +kernel
theorem d_MS_resize_8 : decode (a_cc M_MS_resize) 8 = .ok (.aload_n 0, 1) := by decide +kernel
theorem d_MS_resize_9 : decode (a_cc M_MS_resize) 9 = .ok (.getfield 11, 3) := by decide +kernel
theorem d_MS_resize_12 : decode (a_cc M_MS_resize) 12 = .ok (.iload_n 1, 1) := by decide +kernel
theorem d_MS_resize_13 : decode (a_cc M_MS_resize) 13 = .ok (.aaload, 1) := by decide +kernel
theorem d_MS_resize_14 : decode (a_cc M_MS_resize) 14 = .ok (.getfield 55, 3) := by decide +kernel
theorem d_MS_resize_17 : decode (a_cc M_MS_resize) 17 = .ok (.istore_n 3, 1) := by decide +kernel
theorem d_MS_resize_18 : decode (a_cc M_MS_resize) 18 = .ok (.aload_n 0, 1) := by decide +kernel
theorem d_MS_resize_19 : decode (a_cc M_MS_resize) 19 = .ok (.getfield 11, 3) := by decide +kernel
theorem d_MS_resize_22 : decode (a_cc M_MS_resize) 22 = .ok (.iload_n 1, 1) := by decide +kernel
theorem d_MS_resize_23 : decode (a_cc M_MS_resize) 23 = .ok (.aaload, 1) := by decide +kernel
theorem d_MS_resize_24 : decode (a_cc M_MS_resize) 24 = .ok (.iload_n 2, 1) := by decide +kernel
theorem d_MS_resize_25 : decode (a_cc M_MS_resize) 25 = .ok (.invokevirtual 84, 3) := by decide +kernel
theorem d_MS_resize_28 : decode (a_cc M_MS_resize) 28 = .ok (.iload_n 3, 1) := by decide +kernel
theorem d_MS_resize_29 : decode (a_cc M_MS_resize) 29 = .ok (.ireturn, 1) := by decide +kernel
theorem cs_MS_resize_1 : a_CS M_MS_resize M_MS_needSlot 69 1 0 1 := ⟨⟨ok_MS_needSlot, by decide, by decide, by decide⟩, List.mem_append_right _ (List.mem_of_getElem? (i := 467) (by decide +kernel)), List.mem_append_right _ (List.mem_of_getElem? (i := 468) (by decide +kernel)), by decide +kernel⟩
theorem cs_MS_resize_5 : a_CS M_MS_resize M_MS_needSize 72 1 0 1 := ⟨⟨ok_MS_needSize, by decide, by decide, by decide⟩, List.mem_append_right _ (List.mem_of_getElem? (i := 486) (by decide +kernel)), List.mem_append_right _ (List.mem_of_getElem? (i := 487) (by decide +kernel)), by decide +kernel⟩
theorem cs_MS_resize_25 : a_CV M_MS_resize M_By_stretch 84 1 2 0 1 := ⟨⟨ok_By_stretch, by decide, by decide, by decide⟩, by decide, rfl, List.mem_append_right _ (List.mem_of_getElem? (i := 519) (by decide +kernel)), List.mem_append_right _ (List.mem_of_getElem? (i := 520) (by decide +kernel)), List.mem_append_right _ (List.mem_of_getElem? (i := 521) (by decide +kernel)), by decide +kernel⟩
def M_La_resize : a_M := (⟨"ModuleSignerLaw", "resize", "(LModuleSigner;II[J)I"⟩, method_6_code, 5, some .int, "ModuleSignerLaw", 8, 111, [(0, 10, 13, 19)])
theorem ok_La_resize : a_Ok M_La_resize := ⟨rfl, by decide +kernel, ⟨by decide, by decide⟩, List.mem_append_right _ (List.mem_of_getElem? (i := 0) (by decide +kernel)), Or.inr (List.mem_append_right _ (List.mem_of_getElem? (i := 514) (by decide +kernel)))⟩
theorem d_La_resize_0 : decode (a_cc M_La_resize) 0 = .ok (.aload_n 3, 1) := by decide +kernel
theorem d_La_resize_1 : decode (a_cc M_La_resize) 1 = .ok (.iconst 0, 1) := by decide +kernel
theorem d_La_resize_2 : decode (a_cc M_La_resize) 2 = .ok (.aload_n 0, 1) := by decide +kernel
theorem d_La_resize_3 : decode (a_cc M_La_resize) 3 = .ok (.iload_n 1, 1) := by decide +kernel
theorem d_La_resize_4 : decode (a_cc M_La_resize) 4 = .ok (.iload_n 2, 1) := by decide +kernel
theorem d_La_resize_5 : decode (a_cc M_La_resize) 5 = .ok (.invokevirtual 24, 3) := by decide +kernel
theorem d_La_resize_8 : decode (a_cc M_La_resize) 8 = .ok (.i2l, 1) := by decide +kernel
theorem d_La_resize_9 : decode (a_cc M_La_resize) 9 = .ok (.lastore, 1) := by decide +kernel
theorem d_La_resize_10 : decode (a_cc M_La_resize) 10 = .ok (.goto 7, 3) := by decide +kernel
theorem d_La_resize_13 : decode (a_cc M_La_resize) 13 = .ok (.astore 4, 2) := by decide +kernel
theorem d_La_resize_15 : decode (a_cc M_La_resize) 15 = .ok (.iconst 1, 1) := by decide +kernel
theorem d_La_resize_16 : decode (a_cc M_La_resize) 16 = .ok (.ireturn, 1) := by decide +kernel
theorem d_La_resize_17 : decode (a_cc M_La_resize) 17 = .ok (.iconst 0, 1) := by decide +kernel
theorem d_La_resize_18 : decode (a_cc M_La_resize) 18 = .ok (.ireturn, 1) := by decide +kernel
theorem cs_La_resize_5 : a_CV M_La_resize M_MS_resize 24 0 3 2 2 := ⟨⟨ok_MS_resize, by decide, by decide, by decide⟩, by decide, rfl, List.mem_append_right _ (List.mem_of_getElem? (i := 515) (by decide +kernel)), List.mem_append_right _ (List.mem_of_getElem? (i := 516) (by decide +kernel)), List.mem_append_right _ (List.mem_of_getElem? (i := 517) (by decide +kernel)), by decide +kernel⟩
def M_Mo_resize : a_M := (⟨"ModuleSignerModel", "resize", "(II)I"⟩, prog_12_method_9_code, 5, some .int, "ModuleSignerModel", 1, 15, [])
theorem ok_Mo_resize : a_Ok M_Mo_resize := ⟨rfl, by decide +kernel, ⟨by decide, by decide⟩, List.mem_append_right _ (List.mem_of_getElem? (i := 11) (by decide +kernel)), Or.inl ⟨rfl, List.mem_append_right _ (List.mem_of_getElem? (i := 1262) (by decide +kernel))⟩⟩
theorem d_Mo_resize_0 : decode (a_cc M_Mo_resize) 0 = .ok (.aload_n 0, 1) := by decide +kernel
theorem d_Mo_resize_1 : decode (a_cc M_Mo_resize) 1 = .ok (.iload_n 1, 1) := by decide +kernel
theorem d_Mo_resize_2 : decode (a_cc M_Mo_resize) 2 = .ok (.iconst 0, 1) := by decide +kernel
theorem d_Mo_resize_3 : decode (a_cc M_Mo_resize) 3 = .ok (.bipush 7, 2) := by decide +kernel
theorem d_Mo_resize_5 : decode (a_cc M_Mo_resize) 5 = .ok (.invokestatic 120, 3) := by decide +kernel
theorem d_Mo_resize_8 : decode (a_cc M_Mo_resize) 8 = .ok (.ifCond .eq 18, 3) := by decide +kernel
theorem d_Mo_resize_11 : decode (a_cc M_Mo_resize) 11 = .ok (.iload_n 2, 1) := by decide +kernel
theorem d_Mo_resize_12 : decode (a_cc M_Mo_resize) 12 = .ok (.iconst 0, 1) := by decide +kernel
theorem d_Mo_resize_13 : decode (a_cc M_Mo_resize) 13 = .ok (.sipush 8192, 3) := by decide +kernel
theorem d_Mo_resize_16 : decode (a_cc M_Mo_resize) 16 = .ok (.invokestatic 120, 3) := by decide +kernel
theorem d_Mo_resize_19 : decode (a_cc M_Mo_resize) 19 = .ok (.ifCond .eq 7, 3) := by decide +kernel
theorem d_Mo_resize_22 : decode (a_cc M_Mo_resize) 22 = .ok (.iconst 1, 1) := by decide +kernel
theorem d_Mo_resize_23 : decode (a_cc M_Mo_resize) 23 = .ok (.goto 4, 3) := by decide +kernel
theorem d_Mo_resize_26 : decode (a_cc M_Mo_resize) 26 = .ok (.iconst 0, 1) := by decide +kernel
theorem d_Mo_resize_27 : decode (a_cc M_Mo_resize) 27 = .ok (.iconst 1, 1) := by decide +kernel
theorem d_Mo_resize_28 : decode (a_cc M_Mo_resize) 28 = .ok (.invokevirtual 112, 3) := by decide +kernel
theorem d_Mo_resize_31 : decode (a_cc M_Mo_resize) 31 = .ok (.ifCond .ne 5, 3) := by decide +kernel
theorem d_Mo_resize_34 : decode (a_cc M_Mo_resize) 34 = .ok (.iconst 0, 1) := by decide +kernel
theorem d_Mo_resize_35 : decode (a_cc M_Mo_resize) 35 = .ok (.ireturn, 1) := by decide +kernel
theorem d_Mo_resize_36 : decode (a_cc M_Mo_resize) 36 = .ok (.aload_n 0, 1) := by decide +kernel
theorem d_Mo_resize_37 : decode (a_cc M_Mo_resize) 37 = .ok (.getfield 18, 3) := by decide +kernel
theorem d_Mo_resize_40 : decode (a_cc M_Mo_resize) 40 = .ok (.iload_n 1, 1) := by decide +kernel
theorem d_Mo_resize_41 : decode (a_cc M_Mo_resize) 41 = .ok (.iaload, 1) := by decide +kernel
theorem d_Mo_resize_42 : decode (a_cc M_Mo_resize) 42 = .ok (.istore_n 3, 1) := by decide +kernel
theorem d_Mo_resize_43 : decode (a_cc M_Mo_resize) 43 = .ok (.iload_n 3, 1) := by decide +kernel
theorem d_Mo_resize_44 : decode (a_cc M_Mo_resize) 44 = .ok (.istore 4, 2) := by decide +kernel
theorem d_Mo_resize_46 : decode (a_cc M_Mo_resize) 46 = .ok (.iload 4, 2) := by decide +kernel
theorem d_Mo_resize_48 : decode (a_cc M_Mo_resize) 48 = .ok (.iload_n 2, 1) := by decide +kernel
theorem d_Mo_resize_49 : decode (a_cc M_Mo_resize) 49 = .ok (.if_icmp .ge 19, 3) := by decide +kernel
theorem d_Mo_resize_52 : decode (a_cc M_Mo_resize) 52 = .ok (.aload_n 0, 1) := by decide +kernel
theorem d_Mo_resize_53 : decode (a_cc M_Mo_resize) 53 = .ok (.getfield 15, 3) := by decide +kernel
theorem d_Mo_resize_56 : decode (a_cc M_Mo_resize) 56 = .ok (.iload_n 1, 1) := by decide +kernel
theorem d_Mo_resize_57 : decode (a_cc M_Mo_resize) 57 = .ok (.aaload, 1) := by decide +kernel
theorem d_Mo_resize_58 : decode (a_cc M_Mo_resize) 58 = .ok (.iload 4, 2) := by decide +kernel
theorem d_Mo_resize_60 : decode (a_cc M_Mo_resize) 60 = .ok (.iconst 0, 1) := by decide +kernel
theorem d_Mo_resize_61 : decode (a_cc M_Mo_resize) 61 = .ok (.bastore, 1) := by decide +kernel
theorem d_Mo_resize_62 : decode (a_cc M_Mo_resize) 62 = .ok (.iinc 4 1, 3) := by decide +kernel
theorem d_Mo_resize_65 : decode (a_cc M_Mo_resize) 65 = .ok (.goto (-19), 3) := by decide +kernel
theorem d_Mo_resize_68 : decode (a_cc M_Mo_resize) 68 = .ok (.aload_n 0, 1) := by decide +kernel
theorem d_Mo_resize_69 : decode (a_cc M_Mo_resize) 69 = .ok (.getfield 18, 3) := by decide +kernel
theorem d_Mo_resize_72 : decode (a_cc M_Mo_resize) 72 = .ok (.iload_n 1, 1) := by decide +kernel
theorem d_Mo_resize_73 : decode (a_cc M_Mo_resize) 73 = .ok (.iload_n 2, 1) := by decide +kernel
theorem d_Mo_resize_74 : decode (a_cc M_Mo_resize) 74 = .ok (.iastore, 1) := by decide +kernel
theorem d_Mo_resize_75 : decode (a_cc M_Mo_resize) 75 = .ok (.iload_n 3, 1) := by decide +kernel
theorem d_Mo_resize_76 : decode (a_cc M_Mo_resize) 76 = .ok (.ireturn, 1) := by decide +kernel
theorem cs_Mo_resize_5 : a_CS M_Mo_resize M_Mo_in 120 3 1 3 := ⟨⟨ok_Mo_in, by decide, by decide, by decide⟩, List.mem_append_right _ (List.mem_of_getElem? (i := 1252) (by decide +kernel)), List.mem_append_right _ (List.mem_of_getElem? (i := 1253) (by decide +kernel)), by decide +kernel⟩
theorem cs_Mo_resize_16 : a_CS M_Mo_resize M_Mo_in 120 3 1 3 := ⟨⟨ok_Mo_in, by decide, by decide, by decide⟩, List.mem_append_right _ (List.mem_of_getElem? (i := 1252) (by decide +kernel)), List.mem_append_right _ (List.mem_of_getElem? (i := 1253) (by decide +kernel)), by decide +kernel⟩
theorem cs_Mo_resize_28 : a_CV M_Mo_resize M_Mo_good 112 10 3 0 2 := ⟨⟨ok_Mo_good, by decide, by decide, by decide⟩, by decide, rfl, List.mem_append_right _ (List.mem_of_getElem? (i := 1240) (by decide +kernel)), List.mem_append_right _ (List.mem_of_getElem? (i := 1242) (by decide +kernel)), List.mem_append_left _ (List.mem_of_getElem? (i := 41) (by decide +kernel)), by decide +kernel⟩
def M_MS_needPlace : a_M := (⟨"ModuleSigner", "needPlace", "(II)V"⟩, prog_1_method_17_code, 3, none, "ModuleSigner", 6, 82, [])
theorem ok_MS_needPlace : a_Ok M_MS_needPlace := ⟨rfl, by decide +kernel, ⟨by decide, by decide⟩, List.mem_append_right _ (List.mem_of_getElem? (i := 1) (by decide +kernel)), Or.inl ⟨rfl, List.mem_append_right _ (List.mem_of_getElem? (i := 534) (by decide +kernel))⟩⟩
theorem d_MS_needPlace_0 : decode (a_cc M_MS_needPlace) 0 = .ok (.iload_n 2, 1) := by decide +kernel
theorem d_MS_needPlace_1 : decode (a_cc M_MS_needPlace) 1 = .ok (.ifCond .lt 16, 3) := by decide +kernel
theorem d_MS_needPlace_4 : decode (a_cc M_MS_needPlace) 4 = .ok (.iload_n 2, 1) := by decide +kernel
theorem d_MS_needPlace_5 : decode (a_cc M_MS_needPlace) 5 = .ok (.aload_n 0, 1) := by decide +kernel
theorem d_MS_needPlace_6 : decode (a_cc M_MS_needPlace) 6 = .ok (.getfield 11, 3) := by decide +kernel
theorem d_MS_needPlace_9 : decode (a_cc M_MS_needPlace) 9 = .ok (.iload_n 1, 1) := by decide +kernel
theorem d_MS_needPlace_10 : decode (a_cc M_MS_needPlace) 10 = .ok (.aaload, 1) := by decide +kernel
theorem d_MS_needPlace_11 : decode (a_cc M_MS_needPlace) 11 = .ok (.getfield 55, 3) := by decide +kernel
theorem d_MS_needPlace_14 : decode (a_cc M_MS_needPlace) 14 = .ok (.if_icmp .lt 13, 3) := by decide +kernel
theorem d_MS_needPlace_17 : decode (a_cc M_MS_needPlace) 17 = .ok (.new 59, 3) := by decide +kernel
theorem d_MS_needPlace_20 : decode (a_cc M_MS_needPlace) 20 = .ok (.dup, 1) := by decide +kernel
theorem d_MS_needPlace_21 : decode (a_cc M_MS_needPlace) 21 = .ok (.ldc 157, 2) := by decide +kernel
theorem d_MS_needPlace_23 : decode (a_cc M_MS_needPlace) 23 = .ok (.invokespecial 63, 3) := by decide +kernel
theorem d_MS_needPlace_26 : decode (a_cc M_MS_needPlace) 26 = .ok (.athrow, 1) := by decide +kernel
theorem d_MS_needPlace_27 : decode (a_cc M_MS_needPlace) 27 = .ok (.return_, 1) := by decide +kernel
theorem th_MS_needPlace_17 : a_Th M_MS_needPlace 17 1 0 := ⟨_, _, _, "the slot has no such byte", d_MS_needPlace_17, d_MS_needPlace_20, d_MS_needPlace_21, d_MS_needPlace_23, d_MS_needPlace_26, List.mem_append_right _ (List.mem_of_getElem? (i := 535) (by decide +kernel)), by decide, List.mem_append_right _ (List.mem_of_getElem? (i := 382) (by decide +kernel)), List.mem_append_right _ (List.mem_of_getElem? (i := 426) (by decide +kernel)), rfl, by decide, by decide⟩
def M_By_at : a_M := (⟨"ModuleSigner$Bytes", "at", "(I)I"⟩, prog_3_method_2_code, 2, some .int, "ModuleSigner$Bytes", 0, 0, [])
theorem ok_By_at : a_Ok M_By_at := ⟨rfl, by decide +kernel, ⟨by decide, by decide⟩, List.mem_append_right _ (List.mem_of_getElem? (i := 2) (by decide +kernel)), Or.inl ⟨rfl, List.mem_append_right _ (List.mem_of_getElem? (i := 539) (by decide +kernel))⟩⟩
theorem d_By_at_0 : decode (a_cc M_By_at) 0 = .ok (.iload_n 1, 1) := by decide +kernel
theorem d_By_at_1 : decode (a_cc M_By_at) 1 = .ok (.ifCond .lt 24, 3) := by decide +kernel
theorem d_By_at_4 : decode (a_cc M_By_at) 4 = .ok (.iload_n 1, 1) := by decide +kernel
theorem d_By_at_5 : decode (a_cc M_By_at) 5 = .ok (.aload_n 0, 1) := by decide +kernel
theorem d_By_at_6 : decode (a_cc M_By_at) 6 = .ok (.getfield 13, 3) := by decide +kernel
theorem d_By_at_9 : decode (a_cc M_By_at) 9 = .ok (.if_icmp .ge 16, 3) := by decide +kernel
theorem d_By_at_12 : decode (a_cc M_By_at) 12 = .ok (.aload_n 0, 1) := by decide +kernel
theorem d_By_at_13 : decode (a_cc M_By_at) 13 = .ok (.getfield 7, 3) := by decide +kernel
theorem d_By_at_16 : decode (a_cc M_By_at) 16 = .ok (.iload_n 1, 1) := by decide +kernel
theorem d_By_at_17 : decode (a_cc M_By_at) 17 = .ok (.baload, 1) := by decide +kernel
theorem d_By_at_18 : decode (a_cc M_By_at) 18 = .ok (.sipush 255, 3) := by decide +kernel
theorem d_By_at_21 : decode (a_cc M_By_at) 21 = .ok (.iand, 1) := by decide +kernel
theorem d_By_at_22 : decode (a_cc M_By_at) 22 = .ok (.goto 4, 3) := by decide +kernel
theorem d_By_at_25 : decode (a_cc M_By_at) 25 = .ok (.iconst 0, 1) := by decide +kernel
theorem d_By_at_26 : decode (a_cc M_By_at) 26 = .ok (.ireturn, 1) := by decide +kernel
def M_MS_alter : a_M := (⟨"ModuleSigner", "alter", "(III)I"⟩, prog_1_method_6_code, 5, some .int, "ModuleSigner", 7, 96, [])
theorem ok_MS_alter : a_Ok M_MS_alter := ⟨rfl, by decide +kernel, ⟨by decide, by decide⟩, List.mem_append_right _ (List.mem_of_getElem? (i := 1) (by decide +kernel)), Or.inl ⟨rfl, List.mem_append_right _ (List.mem_of_getElem? (i := 529) (by decide +kernel))⟩⟩
theorem d_MS_alter_0 : decode (a_cc M_MS_alter) 0 = .ok (.iload_n 1, 1) := by decide +kernel
theorem d_MS_alter_1 : decode (a_cc M_MS_alter) 1 = .ok (.invokestatic 69, 3) := by decide +kernel
theorem d_MS_alter_4 : decode (a_cc M_MS_alter) 4 = .ok (.iload_n 3, 1) := by decide +kernel
theorem d_MS_alter_5 : decode (a_cc M_MS_alter) 5 = .ok (.ifCond .lt 10, 3) := by decide +kernel
theorem d_MS_alter_8 : decode (a_cc M_MS_alter) 8 = .ok (.iload_n 3, 1) := by decide +kernel
theorem d_MS_alter_9 : decode (a_cc M_MS_alter) 9 = .ok (.sipush 255, 3) := by decide +kernel
theorem d_MS_alter_12 : decode (a_cc M_MS_alter) 12 = .ok (.if_icmp .le 13, 3) := by decide +kernel
theorem d_MS_alter_15 : decode (a_cc M_MS_alter) 15 = .ok (.new 87, 3) := by decide +kernel
theorem d_MS_alter_18 : decode (a_cc M_MS_alter) 18 = .ok (.dup, 1) := by decide +kernel
theorem d_MS_alter_19 : decode (a_cc M_MS_alter) 19 = .ok (.ldc 89, 2) := by decide +kernel
theorem d_MS_alter_21 : decode (a_cc M_MS_alter) 21 = .ok (.invokespecial 91, 3) := by decide +kernel
theorem d_MS_alter_24 : decode (a_cc M_MS_alter) 24 = .ok (.athrow, 1) := by decide +kernel
theorem d_MS_alter_25 : decode (a_cc M_MS_alter) 25 = .ok (.aload_n 0, 1) := by decide +kernel
theorem d_MS_alter_26 : decode (a_cc M_MS_alter) 26 = .ok (.iload_n 1, 1) := by decide +kernel
theorem d_MS_alter_27 : decode (a_cc M_MS_alter) 27 = .ok (.iload_n 2, 1) := by decide +kernel
theorem d_MS_alter_28 : decode (a_cc M_MS_alter) 28 = .ok (.invokevirtual 92, 3) := by decide +kernel
theorem d_MS_alter_31 : decode (a_cc M_MS_alter) 31 = .ok (.aload_n 0, 1) := by decide +kernel
theorem d_MS_alter_32 : decode (a_cc M_MS_alter) 32 = .ok (.getfield 11, 3) := by decide +kernel
theorem d_MS_alter_35 : decode (a_cc M_MS_alter) 35 = .ok (.iload_n 1, 1) := by decide +kernel
theorem d_MS_alter_36 : decode (a_cc M_MS_alter) 36 = .ok (.aaload, 1) := by decide +kernel
theorem d_MS_alter_37 : decode (a_cc M_MS_alter) 37 = .ok (.iload_n 2, 1) := by decide +kernel
theorem d_MS_alter_38 : decode (a_cc M_MS_alter) 38 = .ok (.invokevirtual 96, 3) := by decide +kernel
theorem d_MS_alter_41 : decode (a_cc M_MS_alter) 41 = .ok (.iload_n 3, 1) := by decide +kernel
theorem d_MS_alter_42 : decode (a_cc M_MS_alter) 42 = .ok (.ixor, 1) := by decide +kernel
theorem d_MS_alter_43 : decode (a_cc M_MS_alter) 43 = .ok (.istore 4, 2) := by decide +kernel
theorem d_MS_alter_45 : decode (a_cc M_MS_alter) 45 = .ok (.aload_n 0, 1) := by decide +kernel
theorem d_MS_alter_46 : decode (a_cc M_MS_alter) 46 = .ok (.getfield 11, 3) := by decide +kernel
theorem d_MS_alter_49 : decode (a_cc M_MS_alter) 49 = .ok (.iload_n 1, 1) := by decide +kernel
theorem d_MS_alter_50 : decode (a_cc M_MS_alter) 50 = .ok (.aaload, 1) := by decide +kernel
theorem d_MS_alter_51 : decode (a_cc M_MS_alter) 51 = .ok (.getfield 100, 3) := by decide +kernel
theorem d_MS_alter_54 : decode (a_cc M_MS_alter) 54 = .ok (.iload_n 2, 1) := by decide +kernel
theorem d_MS_alter_55 : decode (a_cc M_MS_alter) 55 = .ok (.iload 4, 2) := by decide +kernel
theorem d_MS_alter_57 : decode (a_cc M_MS_alter) 57 = .ok (.i2b, 1) := by decide +kernel
theorem d_MS_alter_58 : decode (a_cc M_MS_alter) 58 = .ok (.bastore, 1) := by decide +kernel
theorem d_MS_alter_59 : decode (a_cc M_MS_alter) 59 = .ok (.iload 4, 2) := by decide +kernel
theorem d_MS_alter_61 : decode (a_cc M_MS_alter) 61 = .ok (.ireturn, 1) := by decide +kernel
theorem cs_MS_alter_1 : a_CS M_MS_alter M_MS_needSlot 69 1 0 1 := ⟨⟨ok_MS_needSlot, by decide, by decide, by decide⟩, List.mem_append_right _ (List.mem_of_getElem? (i := 467) (by decide +kernel)), List.mem_append_right _ (List.mem_of_getElem? (i := 468) (by decide +kernel)), by decide +kernel⟩
theorem th_MS_alter_15 : a_Th M_MS_alter 15 0 0 := ⟨_, _, _, "v is no byte", d_MS_alter_15, d_MS_alter_18, d_MS_alter_19, d_MS_alter_21, d_MS_alter_24, List.mem_append_right _ (List.mem_of_getElem? (i := 530) (by decide +kernel)), by decide, List.mem_append_right _ (List.mem_of_getElem? (i := 470) (by decide +kernel)), List.mem_append_right _ (List.mem_of_getElem? (i := 480) (by decide +kernel)), rfl, by decide, by decide⟩
theorem cs_MS_alter_28 : a_CV M_MS_alter M_MS_needPlace 92 0 3 0 2 := ⟨⟨ok_MS_needPlace, by decide, by decide, by decide⟩, by decide, rfl, List.mem_append_right _ (List.mem_of_getElem? (i := 531) (by decide +kernel)), List.mem_append_right _ (List.mem_of_getElem? (i := 533) (by decide +kernel)), List.mem_append_left _ (List.mem_of_getElem? (i := 1) (by decide +kernel)), by decide +kernel⟩
theorem cs_MS_alter_38 : a_CV M_MS_alter M_By_at 96 1 2 0 1 := ⟨⟨ok_By_at, by decide, by decide, by decide⟩, by decide, rfl, List.mem_append_right _ (List.mem_of_getElem? (i := 536) (by decide +kernel)), List.mem_append_right _ (List.mem_of_getElem? (i := 537) (by decide +kernel)), List.mem_append_right _ (List.mem_of_getElem? (i := 538) (by decide +kernel)), by decide +kernel⟩
theorem fd_MS_100 : a_Fd "ModuleSigner" 100 1 0 2 := ⟨by decide, by decide, rfl, List.mem_append_right _ (List.mem_of_getElem? (i := 38) (by decide +kernel))⟩
def M_La_alter : a_M := (⟨"ModuleSignerLaw", "alter", "(LModuleSigner;III[J)I"⟩, method_7_code, 6, some .int, "ModuleSignerLaw", 8, 114, [(0, 12, 15, 19), (0, 12, 19, 13)])
theorem ok_La_alter : a_Ok M_La_alter := ⟨rfl, by decide +kernel, ⟨by decide, by decide⟩, List.mem_append_right _ (List.mem_of_getElem? (i := 0) (by decide +kernel)), Or.inr (List.mem_append_right _ (List.mem_of_getElem? (i := 525) (by decide +kernel)))⟩
theorem d_La_alter_0 : decode (a_cc M_La_alter) 0 = .ok (.aload 4, 2) := by decide +kernel
theorem d_La_alter_2 : decode (a_cc M_La_alter) 2 = .ok (.iconst 0, 1) := by decide +kernel
theorem d_La_alter_3 : decode (a_cc M_La_alter) 3 = .ok (.aload_n 0, 1) := by decide +kernel
theorem d_La_alter_4 : decode (a_cc M_La_alter) 4 = .ok (.iload_n 1, 1) := by decide +kernel
theorem d_La_alter_5 : decode (a_cc M_La_alter) 5 = .ok (.iload_n 2, 1) := by decide +kernel
theorem d_La_alter_6 : decode (a_cc M_La_alter) 6 = .ok (.iload_n 3, 1) := by decide +kernel
theorem d_La_alter_7 : decode (a_cc M_La_alter) 7 = .ok (.invokevirtual 27, 3) := by decide +kernel
theorem d_La_alter_10 : decode (a_cc M_La_alter) 10 = .ok (.i2l, 1) := by decide +kernel
theorem d_La_alter_11 : decode (a_cc M_La_alter) 11 = .ok (.lastore, 1) := by decide +kernel
theorem d_La_alter_12 : decode (a_cc M_La_alter) 12 = .ok (.goto 11, 3) := by decide +kernel
theorem d_La_alter_15 : decode (a_cc M_La_alter) 15 = .ok (.astore 5, 2) := by decide +kernel
theorem d_La_alter_17 : decode (a_cc M_La_alter) 17 = .ok (.iconst 1, 1) := by decide +kernel
theorem d_La_alter_18 : decode (a_cc M_La_alter) 18 = .ok (.ireturn, 1) := by decide +kernel
theorem d_La_alter_19 : decode (a_cc M_La_alter) 19 = .ok (.astore 5, 2) := by decide +kernel
theorem d_La_alter_21 : decode (a_cc M_La_alter) 21 = .ok (.iconst 2, 1) := by decide +kernel
theorem d_La_alter_22 : decode (a_cc M_La_alter) 22 = .ok (.ireturn, 1) := by decide +kernel
theorem d_La_alter_23 : decode (a_cc M_La_alter) 23 = .ok (.iconst 0, 1) := by decide +kernel
theorem d_La_alter_24 : decode (a_cc M_La_alter) 24 = .ok (.ireturn, 1) := by decide +kernel
theorem cs_La_alter_7 : a_CV M_La_alter M_MS_alter 27 0 4 2 3 := ⟨⟨ok_MS_alter, by decide, by decide, by decide⟩, by decide, rfl, List.mem_append_right _ (List.mem_of_getElem? (i := 526) (by decide +kernel)), List.mem_append_right _ (List.mem_of_getElem? (i := 527) (by decide +kernel)), List.mem_append_right _ (List.mem_of_getElem? (i := 528) (by decide +kernel)), by decide +kernel⟩
def M_Mo_alter : a_M := (⟨"ModuleSignerModel", "alter", "(III)I"⟩, prog_12_method_10_code, 4, some .int, "ModuleSignerModel", 1, 15, [])
theorem ok_Mo_alter : a_Ok M_Mo_alter := ⟨rfl, by decide +kernel, ⟨by decide, by decide⟩, List.mem_append_right _ (List.mem_of_getElem? (i := 11) (by decide +kernel)), Or.inl ⟨rfl, List.mem_append_right _ (List.mem_of_getElem? (i := 1266) (by decide +kernel))⟩⟩
theorem d_Mo_alter_0 : decode (a_cc M_Mo_alter) 0 = .ok (.aload_n 0, 1) := by decide +kernel
theorem d_Mo_alter_1 : decode (a_cc M_Mo_alter) 1 = .ok (.iload_n 1, 1) := by decide +kernel
theorem d_Mo_alter_2 : decode (a_cc M_Mo_alter) 2 = .ok (.iconst 0, 1) := by decide +kernel
theorem d_Mo_alter_3 : decode (a_cc M_Mo_alter) 3 = .ok (.bipush 7, 2) := by decide +kernel
theorem d_Mo_alter_5 : decode (a_cc M_Mo_alter) 5 = .ok (.invokestatic 120, 3) := by decide +kernel
theorem d_Mo_alter_8 : decode (a_cc M_Mo_alter) 8 = .ok (.ifCond .eq 18, 3) := by decide +kernel
theorem d_Mo_alter_11 : decode (a_cc M_Mo_alter) 11 = .ok (.iload_n 3, 1) := by decide +kernel
theorem d_Mo_alter_12 : decode (a_cc M_Mo_alter) 12 = .ok (.iconst 0, 1) := by decide +kernel
theorem d_Mo_alter_13 : decode (a_cc M_Mo_alter) 13 = .ok (.sipush 255, 3) := by decide +kernel
theorem d_Mo_alter_16 : decode (a_cc M_Mo_alter) 16 = .ok (.invokestatic 120, 3) := by decide +kernel
theorem d_Mo_alter_19 : decode (a_cc M_Mo_alter) 19 = .ok (.ifCond .eq 7, 3) := by decide +kernel
theorem d_Mo_alter_22 : decode (a_cc M_Mo_alter) 22 = .ok (.iconst 1, 1) := by decide +kernel
theorem d_Mo_alter_23 : decode (a_cc M_Mo_alter) 23 = .ok (.goto 4, 3) := by decide +kernel
theorem d_Mo_alter_26 : decode (a_cc M_Mo_alter) 26 = .ok (.iconst 0, 1) := by decide +kernel
theorem d_Mo_alter_27 : decode (a_cc M_Mo_alter) 27 = .ok (.iconst 1, 1) := by decide +kernel
theorem d_Mo_alter_28 : decode (a_cc M_Mo_alter) 28 = .ok (.invokevirtual 112, 3) := by decide +kernel
theorem d_Mo_alter_31 : decode (a_cc M_Mo_alter) 31 = .ok (.ifCond .eq 24, 3) := by decide +kernel
theorem d_Mo_alter_34 : decode (a_cc M_Mo_alter) 34 = .ok (.aload_n 0, 1) := by decide +kernel
theorem d_Mo_alter_35 : decode (a_cc M_Mo_alter) 35 = .ok (.iload_n 2, 1) := by decide +kernel
theorem d_Mo_alter_36 : decode (a_cc M_Mo_alter) 36 = .ok (.iconst 0, 1) := by decide +kernel
theorem d_Mo_alter_37 : decode (a_cc M_Mo_alter) 37 = .ok (.aload_n 0, 1) := by decide +kernel
theorem d_Mo_alter_38 : decode (a_cc M_Mo_alter) 38 = .ok (.getfield 18, 3) := by decide +kernel
theorem d_Mo_alter_41 : decode (a_cc M_Mo_alter) 41 = .ok (.iload_n 1, 1) := by decide +kernel
theorem d_Mo_alter_42 : decode (a_cc M_Mo_alter) 42 = .ok (.iaload, 1) := by decide +kernel
theorem d_Mo_alter_43 : decode (a_cc M_Mo_alter) 43 = .ok (.iconst 1, 1) := by decide +kernel
theorem d_Mo_alter_44 : decode (a_cc M_Mo_alter) 44 = .ok (.isub, 1) := by decide +kernel
theorem d_Mo_alter_45 : decode (a_cc M_Mo_alter) 45 = .ok (.invokestatic 120, 3) := by decide +kernel
theorem d_Mo_alter_48 : decode (a_cc M_Mo_alter) 48 = .ok (.iconst 2, 1) := by decide +kernel
theorem d_Mo_alter_49 : decode (a_cc M_Mo_alter) 49 = .ok (.invokevirtual 112, 3) := by decide +kernel
theorem d_Mo_alter_52 : decode (a_cc M_Mo_alter) 52 = .ok (.ifCond .ne 5, 3) := by decide +kernel
theorem d_Mo_alter_55 : decode (a_cc M_Mo_alter) 55 = .ok (.iconst 0, 1) := by decide +kernel
theorem d_Mo_alter_56 : decode (a_cc M_Mo_alter) 56 = .ok (.ireturn, 1) := by decide +kernel
theorem d_Mo_alter_57 : decode (a_cc M_Mo_alter) 57 = .ok (.aload_n 0, 1) := by decide +kernel
theorem d_Mo_alter_58 : decode (a_cc M_Mo_alter) 58 = .ok (.getfield 15, 3) := by decide +kernel
theorem d_Mo_alter_61 : decode (a_cc M_Mo_alter) 61 = .ok (.iload_n 1, 1) := by decide +kernel
theorem d_Mo_alter_62 : decode (a_cc M_Mo_alter) 62 = .ok (.aaload, 1) := by decide +kernel
theorem d_Mo_alter_63 : decode (a_cc M_Mo_alter) 63 = .ok (.iload_n 2, 1) := by decide +kernel
theorem d_Mo_alter_64 : decode (a_cc M_Mo_alter) 64 = .ok (.dup2, 1) := by decide +kernel
theorem d_Mo_alter_65 : decode (a_cc M_Mo_alter) 65 = .ok (.baload, 1) := by decide +kernel
theorem d_Mo_alter_66 : decode (a_cc M_Mo_alter) 66 = .ok (.iload_n 3, 1) := by decide +kernel
theorem d_Mo_alter_67 : decode (a_cc M_Mo_alter) 67 = .ok (.i2b, 1) := by decide +kernel
theorem d_Mo_alter_68 : decode (a_cc M_Mo_alter) 68 = .ok (.ixor, 1) := by decide +kernel
theorem d_Mo_alter_69 : decode (a_cc M_Mo_alter) 69 = .ok (.i2b, 1) := by decide +kernel
theorem d_Mo_alter_70 : decode (a_cc M_Mo_alter) 70 = .ok (.bastore, 1) := by decide +kernel
theorem d_Mo_alter_71 : decode (a_cc M_Mo_alter) 71 = .ok (.aload_n 0, 1) := by decide +kernel
theorem d_Mo_alter_72 : decode (a_cc M_Mo_alter) 72 = .ok (.getfield 15, 3) := by decide +kernel
theorem d_Mo_alter_75 : decode (a_cc M_Mo_alter) 75 = .ok (.iload_n 1, 1) := by decide +kernel
theorem d_Mo_alter_76 : decode (a_cc M_Mo_alter) 76 = .ok (.aaload, 1) := by decide +kernel
theorem d_Mo_alter_77 : decode (a_cc M_Mo_alter) 77 = .ok (.iload_n 2, 1) := by decide +kernel
theorem d_Mo_alter_78 : decode (a_cc M_Mo_alter) 78 = .ok (.baload, 1) := by decide +kernel
theorem d_Mo_alter_79 : decode (a_cc M_Mo_alter) 79 = .ok (.sipush 255, 3) := by decide +kernel
theorem d_Mo_alter_82 : decode (a_cc M_Mo_alter) 82 = .ok (.iand, 1) := by decide +kernel
theorem d_Mo_alter_83 : decode (a_cc M_Mo_alter) 83 = .ok (.ireturn, 1) := by decide +kernel
theorem cs_Mo_alter_5 : a_CS M_Mo_alter M_Mo_in 120 3 1 3 := ⟨⟨ok_Mo_in, by decide, by decide, by decide⟩, List.mem_append_right _ (List.mem_of_getElem? (i := 1252) (by decide +kernel)), List.mem_append_right _ (List.mem_of_getElem? (i := 1253) (by decide +kernel)), by decide +kernel⟩
theorem cs_Mo_alter_16 : a_CS M_Mo_alter M_Mo_in 120 3 1 3 := ⟨⟨ok_Mo_in, by decide, by decide, by decide⟩, List.mem_append_right _ (List.mem_of_getElem? (i := 1252) (by decide +kernel)), List.mem_append_right _ (List.mem_of_getElem? (i := 1253) (by decide +kernel)), by decide +kernel⟩
theorem cs_Mo_alter_28 : a_CV M_Mo_alter M_Mo_good 112 10 3 0 2 := ⟨⟨ok_Mo_good, by decide, by decide, by decide⟩, by decide, rfl, List.mem_append_right _ (List.mem_of_getElem? (i := 1240) (by decide +kernel)), List.mem_append_right _ (List.mem_of_getElem? (i := 1242) (by decide +kernel)), List.mem_append_left _ (List.mem_of_getElem? (i := 41) (by decide +kernel)), by decide +kernel⟩
theorem cs_Mo_alter_45 : a_CS M_Mo_alter M_Mo_in 120 3 1 3 := ⟨⟨ok_Mo_in, by decide, by decide, by decide⟩, List.mem_append_right _ (List.mem_of_getElem? (i := 1252) (by decide +kernel)), List.mem_append_right _ (List.mem_of_getElem? (i := 1253) (by decide +kernel)), by decide +kernel⟩
theorem cs_Mo_alter_49 : a_CV M_Mo_alter M_Mo_good 112 10 3 0 2 := ⟨⟨ok_Mo_good, by decide, by decide, by decide⟩, by decide, rfl, List.mem_append_right _ (List.mem_of_getElem? (i := 1240) (by decide +kernel)), List.mem_append_right _ (List.mem_of_getElem? (i := 1242) (by decide +kernel)), List.mem_append_left _ (List.mem_of_getElem? (i := 41) (by decide +kernel)), by decide +kernel⟩
def M_MS_length : a_M := (⟨"ModuleSigner", "length", "(I)I"⟩, prog_1_method_7_code, 2, some .int, "ModuleSigner", 7, 94, [])
theorem ok_MS_length : a_Ok M_MS_length := ⟨rfl, by decide +kernel, ⟨by decide, by decide⟩, List.mem_append_right _ (List.mem_of_getElem? (i := 1) (by decide +kernel)), Or.inl ⟨rfl, List.mem_append_right _ (List.mem_of_getElem? (i := 546) (by decide +kernel))⟩⟩
theorem d_MS_length_0 : decode (a_cc M_MS_length) 0 = .ok (.iload_n 1, 1) := by decide +kernel
theorem d_MS_length_1 : decode (a_cc M_MS_length) 1 = .ok (.invokestatic 69, 3) := by decide +kernel
theorem d_MS_length_4 : decode (a_cc M_MS_length) 4 = .ok (.aload_n 0, 1) := by decide +kernel
theorem d_MS_length_5 : decode (a_cc M_MS_length) 5 = .ok (.getfield 11, 3) := by decide +kernel
theorem d_MS_length_8 : decode (a_cc M_MS_length) 8 = .ok (.iload_n 1, 1) := by decide +kernel
theorem d_MS_length_9 : decode (a_cc M_MS_length) 9 = .ok (.aaload, 1) := by decide +kernel
theorem d_MS_length_10 : decode (a_cc M_MS_length) 10 = .ok (.getfield 55, 3) := by decide +kernel
theorem d_MS_length_13 : decode (a_cc M_MS_length) 13 = .ok (.ireturn, 1) := by decide +kernel
theorem cs_MS_length_1 : a_CS M_MS_length M_MS_needSlot 69 1 0 1 := ⟨⟨ok_MS_needSlot, by decide, by decide, by decide⟩, List.mem_append_right _ (List.mem_of_getElem? (i := 467) (by decide +kernel)), List.mem_append_right _ (List.mem_of_getElem? (i := 468) (by decide +kernel)), by decide +kernel⟩
def M_La_length : a_M := (⟨"ModuleSignerLaw", "length", "(LModuleSigner;I[J)I"⟩, method_8_code, 4, some .int, "ModuleSignerLaw", 8, 109, [(0, 9, 12, 19)])
theorem ok_La_length : a_Ok M_La_length := ⟨rfl, by decide +kernel, ⟨by decide, by decide⟩, List.mem_append_right _ (List.mem_of_getElem? (i := 0) (by decide +kernel)), Or.inr (List.mem_append_right _ (List.mem_of_getElem? (i := 542) (by decide +kernel)))⟩
theorem d_La_length_0 : decode (a_cc M_La_length) 0 = .ok (.aload_n 2, 1) := by decide +kernel
theorem d_La_length_1 : decode (a_cc M_La_length) 1 = .ok (.iconst 0, 1) := by decide +kernel
theorem d_La_length_2 : decode (a_cc M_La_length) 2 = .ok (.aload_n 0, 1) := by decide +kernel
theorem d_La_length_3 : decode (a_cc M_La_length) 3 = .ok (.iload_n 1, 1) := by decide +kernel
theorem d_La_length_4 : decode (a_cc M_La_length) 4 = .ok (.invokevirtual 31, 3) := by decide +kernel
theorem d_La_length_7 : decode (a_cc M_La_length) 7 = .ok (.i2l, 1) := by decide +kernel
theorem d_La_length_8 : decode (a_cc M_La_length) 8 = .ok (.lastore, 1) := by decide +kernel
theorem d_La_length_9 : decode (a_cc M_La_length) 9 = .ok (.goto 6, 3) := by decide +kernel
theorem d_La_length_12 : decode (a_cc M_La_length) 12 = .ok (.astore_n 3, 1) := by decide +kernel
theorem d_La_length_13 : decode (a_cc M_La_length) 13 = .ok (.iconst 1, 1) := by decide +kernel
theorem d_La_length_14 : decode (a_cc M_La_length) 14 = .ok (.ireturn, 1) := by decide +kernel
theorem d_La_length_15 : decode (a_cc M_La_length) 15 = .ok (.iconst 0, 1) := by decide +kernel
theorem d_La_length_16 : decode (a_cc M_La_length) 16 = .ok (.ireturn, 1) := by decide +kernel
theorem cs_La_length_4 : a_CV M_La_length M_MS_length 31 0 2 2 1 := ⟨⟨ok_MS_length, by decide, by decide, by decide⟩, by decide, rfl, List.mem_append_right _ (List.mem_of_getElem? (i := 543) (by decide +kernel)), List.mem_append_right _ (List.mem_of_getElem? (i := 544) (by decide +kernel)), List.mem_append_right _ (List.mem_of_getElem? (i := 545) (by decide +kernel)), by decide +kernel⟩
def M_Mo_length : a_M := (⟨"ModuleSignerModel", "length", "(I)I"⟩, prog_12_method_11_code, 2, some .int, "ModuleSignerModel", 1, 15, [])
theorem ok_Mo_length : a_Ok M_Mo_length := ⟨rfl, by decide +kernel, ⟨by decide, by decide⟩, List.mem_append_right _ (List.mem_of_getElem? (i := 11) (by decide +kernel)), Or.inl ⟨rfl, List.mem_append_right _ (List.mem_of_getElem? (i := 1270) (by decide +kernel))⟩⟩
theorem d_Mo_length_0 : decode (a_cc M_Mo_length) 0 = .ok (.aload_n 0, 1) := by decide +kernel
theorem d_Mo_length_1 : decode (a_cc M_Mo_length) 1 = .ok (.iload_n 1, 1) := by decide +kernel
theorem d_Mo_length_2 : decode (a_cc M_Mo_length) 2 = .ok (.iconst 0, 1) := by decide +kernel
theorem d_Mo_length_3 : decode (a_cc M_Mo_length) 3 = .ok (.bipush 7, 2) := by decide +kernel
theorem d_Mo_length_5 : decode (a_cc M_Mo_length) 5 = .ok (.invokestatic 120, 3) := by decide +kernel
theorem d_Mo_length_8 : decode (a_cc M_Mo_length) 8 = .ok (.iconst 1, 1) := by decide +kernel
theorem d_Mo_length_9 : decode (a_cc M_Mo_length) 9 = .ok (.invokevirtual 112, 3) := by decide +kernel
theorem d_Mo_length_12 : decode (a_cc M_Mo_length) 12 = .ok (.ifCond .ne 5, 3) := by decide +kernel
theorem d_Mo_length_15 : decode (a_cc M_Mo_length) 15 = .ok (.iconst 0, 1) := by decide +kernel
theorem d_Mo_length_16 : decode (a_cc M_Mo_length) 16 = .ok (.ireturn, 1) := by decide +kernel
theorem d_Mo_length_17 : decode (a_cc M_Mo_length) 17 = .ok (.aload_n 0, 1) := by decide +kernel
theorem d_Mo_length_18 : decode (a_cc M_Mo_length) 18 = .ok (.getfield 18, 3) := by decide +kernel
theorem d_Mo_length_21 : decode (a_cc M_Mo_length) 21 = .ok (.iload_n 1, 1) := by decide +kernel
theorem d_Mo_length_22 : decode (a_cc M_Mo_length) 22 = .ok (.iaload, 1) := by decide +kernel
theorem d_Mo_length_23 : decode (a_cc M_Mo_length) 23 = .ok (.ireturn, 1) := by decide +kernel
theorem cs_Mo_length_5 : a_CS M_Mo_length M_Mo_in 120 3 1 3 := ⟨⟨ok_Mo_in, by decide, by decide, by decide⟩, List.mem_append_right _ (List.mem_of_getElem? (i := 1252) (by decide +kernel)), List.mem_append_right _ (List.mem_of_getElem? (i := 1253) (by decide +kernel)), by decide +kernel⟩
theorem cs_Mo_length_9 : a_CV M_Mo_length M_Mo_good 112 10 3 0 2 := ⟨⟨ok_Mo_good, by decide, by decide, by decide⟩, by decide, rfl, List.mem_append_right _ (List.mem_of_getElem? (i := 1240) (by decide +kernel)), List.mem_append_right _ (List.mem_of_getElem? (i := 1242) (by decide +kernel)), List.mem_append_left _ (List.mem_of_getElem? (i := 41) (by decide +kernel)), by decide +kernel⟩
def M_MS_word : a_M := (⟨"ModuleSigner", "word", "(II)J"⟩, prog_1_method_8_code, 6, some .long, "ModuleSigner", 7, 96, [])
theorem ok_MS_word : a_Ok M_MS_word := ⟨rfl, by decide +kernel, ⟨by decide, by decide⟩, List.mem_append_right _ (List.mem_of_getElem? (i := 1) (by decide +kernel)), Or.inl ⟨rfl, List.mem_append_right _ (List.mem_of_getElem? (i := 553) (by decide +kernel))⟩⟩
theorem d_MS_word_0 : decode (a_cc M_MS_word) 0 = .ok (.iload_n 1, 1) := by decide +kernel
theorem d_MS_word_1 : decode (a_cc M_MS_word) 1 = .ok (.invokestatic 69, 3) := by decide +kernel
theorem d_MS_word_4 : decode (a_cc M_MS_word) 4 = .ok (.aload_n 0, 1) := by decide +kernel
theorem d_MS_word_5 : decode (a_cc M_MS_word) 5 = .ok (.iload_n 1, 1) := by decide +kernel
theorem d_MS_word_6 : decode (a_cc M_MS_word) 6 = .ok (.iload_n 2, 1) := by decide +kernel
theorem d_MS_word_7 : decode (a_cc M_MS_word) 7 = .ok (.invokevirtual 92, 3) := by decide +kernel
theorem d_MS_word_10 : decode (a_cc M_MS_word) 10 = .ok (.lconst 0, 1) := by decide +kernel
theorem d_MS_word_11 : decode (a_cc M_MS_word) 11 = .ok (.lstore_n 3, 1) := by decide +kernel
theorem d_MS_word_12 : decode (a_cc M_MS_word) 12 = .ok (.iconst 0, 1) := by decide +kernel
theorem d_MS_word_13 : decode (a_cc M_MS_word) 13 = .ok (.istore 5, 2) := by decide +kernel
theorem d_MS_word_15 : decode (a_cc M_MS_word) 15 = .ok (.iload 5, 2) := by decide +kernel
theorem d_MS_word_17 : decode (a_cc M_MS_word) 17 = .ok (.bipush 8, 2) := by decide +kernel
theorem d_MS_word_19 : decode (a_cc M_MS_word) 19 = .ok (.if_icmp .ge 29, 3) := by decide +kernel
theorem d_MS_word_22 : decode (a_cc M_MS_word) 22 = .ok (.lload_n 3, 1) := by decide +kernel
theorem d_MS_word_23 : decode (a_cc M_MS_word) 23 = .ok (.bipush 8, 2) := by decide +kernel
theorem d_MS_word_25 : decode (a_cc M_MS_word) 25 = .ok (.lshl, 1) := by decide +kernel
theorem d_MS_word_26 : decode (a_cc M_MS_word) 26 = .ok (.aload_n 0, 1) := by decide +kernel
theorem d_MS_word_27 : decode (a_cc M_MS_word) 27 = .ok (.getfield 11, 3) := by decide +kernel
theorem d_MS_word_30 : decode (a_cc M_MS_word) 30 = .ok (.iload_n 1, 1) := by decide +kernel
theorem d_MS_word_31 : decode (a_cc M_MS_word) 31 = .ok (.aaload, 1) := by decide +kernel
theorem d_MS_word_32 : decode (a_cc M_MS_word) 32 = .ok (.iload_n 2, 1) := by decide +kernel
theorem d_MS_word_33 : decode (a_cc M_MS_word) 33 = .ok (.iload 5, 2) := by decide +kernel
theorem d_MS_word_35 : decode (a_cc M_MS_word) 35 = .ok (.iadd, 1) := by decide +kernel
theorem d_MS_word_36 : decode (a_cc M_MS_word) 36 = .ok (.invokevirtual 96, 3) := by decide +kernel
theorem d_MS_word_39 : decode (a_cc M_MS_word) 39 = .ok (.i2l, 1) := by decide +kernel
theorem d_MS_word_40 : decode (a_cc M_MS_word) 40 = .ok (.lor, 1) := by decide +kernel
theorem d_MS_word_41 : decode (a_cc M_MS_word) 41 = .ok (.lstore_n 3, 1) := by decide +kernel
theorem d_MS_word_42 : decode (a_cc M_MS_word) 42 = .ok (.iinc 5 1, 3) := by decide +kernel
theorem d_MS_word_45 : decode (a_cc M_MS_word) 45 = .ok (.goto (-30), 3) := by decide +kernel
theorem d_MS_word_48 : decode (a_cc M_MS_word) 48 = .ok (.lload_n 3, 1) := by decide +kernel
theorem d_MS_word_49 : decode (a_cc M_MS_word) 49 = .ok (.lreturn, 1) := by decide +kernel
theorem cs_MS_word_1 : a_CS M_MS_word M_MS_needSlot 69 1 0 1 := ⟨⟨ok_MS_needSlot, by decide, by decide, by decide⟩, List.mem_append_right _ (List.mem_of_getElem? (i := 467) (by decide +kernel)), List.mem_append_right _ (List.mem_of_getElem? (i := 468) (by decide +kernel)), by decide +kernel⟩
theorem cs_MS_word_7 : a_CV M_MS_word M_MS_needPlace 92 0 3 0 2 := ⟨⟨ok_MS_needPlace, by decide, by decide, by decide⟩, by decide, rfl, List.mem_append_right _ (List.mem_of_getElem? (i := 531) (by decide +kernel)), List.mem_append_right _ (List.mem_of_getElem? (i := 533) (by decide +kernel)), List.mem_append_left _ (List.mem_of_getElem? (i := 1) (by decide +kernel)), by decide +kernel⟩
theorem cs_MS_word_36 : a_CV M_MS_word M_By_at 96 1 2 2 1 := ⟨⟨ok_By_at, by decide, by decide, by decide⟩, by decide, rfl, List.mem_append_right _ (List.mem_of_getElem? (i := 536) (by decide +kernel)), List.mem_append_right _ (List.mem_of_getElem? (i := 537) (by decide +kernel)), List.mem_append_right _ (List.mem_of_getElem? (i := 538) (by decide +kernel)), by decide +kernel⟩
def M_La_word : a_M := (⟨"ModuleSignerLaw", "word", "(LModuleSigner;II[J)I"⟩, method_9_code, 5, some .int, "ModuleSignerLaw", 8, 115, [(0, 9, 12, 19), (0, 9, 16, 13)])
theorem ok_La_word : a_Ok M_La_word := ⟨rfl, by decide +kernel, ⟨by decide, by decide⟩, List.mem_append_right _ (List.mem_of_getElem? (i := 0) (by decide +kernel)), Or.inr (List.mem_append_right _ (List.mem_of_getElem? (i := 549) (by decide +kernel)))⟩
theorem d_La_word_0 : decode (a_cc M_La_word) 0 = .ok (.aload_n 3, 1) := by decide +kernel
theorem d_La_word_1 : decode (a_cc M_La_word) 1 = .ok (.iconst 0, 1) := by decide +kernel
theorem d_La_word_2 : decode (a_cc M_La_word) 2 = .ok (.aload_n 0, 1) := by decide +kernel
theorem d_La_word_3 : decode (a_cc M_La_word) 3 = .ok (.iload_n 1, 1) := by decide +kernel
theorem d_La_word_4 : decode (a_cc M_La_word) 4 = .ok (.iload_n 2, 1) := by decide +kernel
theorem d_La_word_5 : decode (a_cc M_La_word) 5 = .ok (.invokevirtual 35, 3) := by decide +kernel
theorem d_La_word_8 : decode (a_cc M_La_word) 8 = .ok (.lastore, 1) := by decide +kernel
theorem d_La_word_9 : decode (a_cc M_La_word) 9 = .ok (.goto 11, 3) := by decide +kernel
theorem d_La_word_12 : decode (a_cc M_La_word) 12 = .ok (.astore 4, 2) := by decide +kernel
theorem d_La_word_14 : decode (a_cc M_La_word) 14 = .ok (.iconst 1, 1) := by decide +kernel
theorem d_La_word_15 : decode (a_cc M_La_word) 15 = .ok (.ireturn, 1) := by decide +kernel
theorem d_La_word_16 : decode (a_cc M_La_word) 16 = .ok (.astore 4, 2) := by decide +kernel
theorem d_La_word_18 : decode (a_cc M_La_word) 18 = .ok (.iconst 2, 1) := by decide +kernel
theorem d_La_word_19 : decode (a_cc M_La_word) 19 = .ok (.ireturn, 1) := by decide +kernel
theorem d_La_word_20 : decode (a_cc M_La_word) 20 = .ok (.iconst 0, 1) := by decide +kernel
theorem d_La_word_21 : decode (a_cc M_La_word) 21 = .ok (.ireturn, 1) := by decide +kernel
theorem cs_La_word_5 : a_CV M_La_word M_MS_word 35 0 3 2 2 := ⟨⟨ok_MS_word, by decide, by decide, by decide⟩, by decide, rfl, List.mem_append_right _ (List.mem_of_getElem? (i := 550) (by decide +kernel)), List.mem_append_right _ (List.mem_of_getElem? (i := 551) (by decide +kernel)), List.mem_append_right _ (List.mem_of_getElem? (i := 552) (by decide +kernel)), by decide +kernel⟩
def M_Mo_word2 : a_M := (⟨"ModuleSignerModel", "word", "(II)J"⟩, prog_12_method_12_code, 6, some .long, "ModuleSignerModel", 1, 15, [])
theorem ok_Mo_word2 : a_Ok M_Mo_word2 := ⟨rfl, by decide +kernel, ⟨by decide, by decide⟩, List.mem_append_right _ (List.mem_of_getElem? (i := 11) (by decide +kernel)), Or.inl ⟨rfl, List.mem_append_right _ (List.mem_of_getElem? (i := 1274) (by decide +kernel))⟩⟩
theorem d_Mo_word2_0 : decode (a_cc M_Mo_word2) 0 = .ok (.aload_n 0, 1) := by decide +kernel
theorem d_Mo_word2_1 : decode (a_cc M_Mo_word2) 1 = .ok (.iload_n 1, 1) := by decide +kernel
theorem d_Mo_word2_2 : decode (a_cc M_Mo_word2) 2 = .ok (.iconst 0, 1) := by decide +kernel
theorem d_Mo_word2_3 : decode (a_cc M_Mo_word2) 3 = .ok (.bipush 7, 2) := by decide +kernel
theorem d_Mo_word2_5 : decode (a_cc M_Mo_word2) 5 = .ok (.invokestatic 120, 3) := by decide +kernel
theorem d_Mo_word2_8 : decode (a_cc M_Mo_word2) 8 = .ok (.iconst 1, 1) := by decide +kernel
theorem d_Mo_word2_9 : decode (a_cc M_Mo_word2) 9 = .ok (.invokevirtual 112, 3) := by decide +kernel
theorem d_Mo_word2_12 : decode (a_cc M_Mo_word2) 12 = .ok (.ifCond .eq 24, 3) := by decide +kernel
theorem d_Mo_word2_15 : decode (a_cc M_Mo_word2) 15 = .ok (.aload_n 0, 1) := by decide +kernel
theorem d_Mo_word2_16 : decode (a_cc M_Mo_word2) 16 = .ok (.iload_n 2, 1) := by decide +kernel
theorem d_Mo_word2_17 : decode (a_cc M_Mo_word2) 17 = .ok (.iconst 0, 1) := by decide +kernel
theorem d_Mo_word2_18 : decode (a_cc M_Mo_word2) 18 = .ok (.aload_n 0, 1) := by decide +kernel
theorem d_Mo_word2_19 : decode (a_cc M_Mo_word2) 19 = .ok (.getfield 18, 3) := by decide +kernel
theorem d_Mo_word2_22 : decode (a_cc M_Mo_word2) 22 = .ok (.iload_n 1, 1) := by decide +kernel
theorem d_Mo_word2_23 : decode (a_cc M_Mo_word2) 23 = .ok (.iaload, 1) := by decide +kernel
theorem d_Mo_word2_24 : decode (a_cc M_Mo_word2) 24 = .ok (.iconst 1, 1) := by decide +kernel
theorem d_Mo_word2_25 : decode (a_cc M_Mo_word2) 25 = .ok (.isub, 1) := by decide +kernel
theorem d_Mo_word2_26 : decode (a_cc M_Mo_word2) 26 = .ok (.invokestatic 120, 3) := by decide +kernel
theorem d_Mo_word2_29 : decode (a_cc M_Mo_word2) 29 = .ok (.iconst 2, 1) := by decide +kernel
theorem d_Mo_word2_30 : decode (a_cc M_Mo_word2) 30 = .ok (.invokevirtual 112, 3) := by decide +kernel
theorem d_Mo_word2_33 : decode (a_cc M_Mo_word2) 33 = .ok (.ifCond .ne 5, 3) := by decide +kernel
theorem d_Mo_word2_36 : decode (a_cc M_Mo_word2) 36 = .ok (.lconst 0, 1) := by decide +kernel
theorem d_Mo_word2_37 : decode (a_cc M_Mo_word2) 37 = .ok (.lreturn, 1) := by decide +kernel
theorem d_Mo_word2_38 : decode (a_cc M_Mo_word2) 38 = .ok (.lconst 0, 1) := by decide +kernel
theorem d_Mo_word2_39 : decode (a_cc M_Mo_word2) 39 = .ok (.lstore_n 3, 1) := by decide +kernel
theorem d_Mo_word2_40 : decode (a_cc M_Mo_word2) 40 = .ok (.iload_n 2, 1) := by decide +kernel
theorem d_Mo_word2_41 : decode (a_cc M_Mo_word2) 41 = .ok (.istore 5, 2) := by decide +kernel
theorem d_Mo_word2_43 : decode (a_cc M_Mo_word2) 43 = .ok (.iload 5, 2) := by decide +kernel
theorem d_Mo_word2_45 : decode (a_cc M_Mo_word2) 45 = .ok (.iload_n 2, 1) := by decide +kernel
theorem d_Mo_word2_46 : decode (a_cc M_Mo_word2) 46 = .ok (.bipush 8, 2) := by decide +kernel
theorem d_Mo_word2_48 : decode (a_cc M_Mo_word2) 48 = .ok (.iadd, 1) := by decide +kernel
theorem d_Mo_word2_49 : decode (a_cc M_Mo_word2) 49 = .ok (.if_icmp .ge 44, 3) := by decide +kernel
theorem d_Mo_word2_52 : decode (a_cc M_Mo_word2) 52 = .ok (.lload_n 3, 1) := by decide +kernel
theorem d_Mo_word2_53 : decode (a_cc M_Mo_word2) 53 = .ok (.bipush 8, 2) := by decide +kernel
theorem d_Mo_word2_55 : decode (a_cc M_Mo_word2) 55 = .ok (.lshl, 1) := by decide +kernel
theorem d_Mo_word2_56 : decode (a_cc M_Mo_word2) 56 = .ok (.iload 5, 2) := by decide +kernel
theorem d_Mo_word2_58 : decode (a_cc M_Mo_word2) 58 = .ok (.aload_n 0, 1) := by decide +kernel
theorem d_Mo_word2_59 : decode (a_cc M_Mo_word2) 59 = .ok (.getfield 18, 3) := by decide +kernel
theorem d_Mo_word2_62 : decode (a_cc M_Mo_word2) 62 = .ok (.iload_n 1, 1) := by decide +kernel
theorem d_Mo_word2_63 : decode (a_cc M_Mo_word2) 63 = .ok (.iaload, 1) := by decide +kernel
theorem d_Mo_word2_64 : decode (a_cc M_Mo_word2) 64 = .ok (.if_icmp .ge 20, 3) := by decide +kernel
theorem d_Mo_word2_67 : decode (a_cc M_Mo_word2) 67 = .ok (.aload_n 0, 1) := by decide +kernel
theorem d_Mo_word2_68 : decode (a_cc M_Mo_word2) 68 = .ok (.getfield 15, 3) := by decide +kernel
theorem d_Mo_word2_71 : decode (a_cc M_Mo_word2) 71 = .ok (.iload_n 1, 1) := by decide +kernel
theorem d_Mo_word2_72 : decode (a_cc M_Mo_word2) 72 = .ok (.aaload, 1) := by decide +kernel
theorem d_Mo_word2_73 : decode (a_cc M_Mo_word2) 73 = .ok (.iload 5, 2) := by decide +kernel
theorem d_Mo_word2_75 : decode (a_cc M_Mo_word2) 75 = .ok (.baload, 1) := by decide +kernel
theorem d_Mo_word2_76 : decode (a_cc M_Mo_word2) 76 = .ok (.i2l, 1) := by decide +kernel
theorem d_Mo_word2_77 : decode (a_cc M_Mo_word2) 77 = .ok (.ldc2_w 124, 3) := by decide +kernel
theorem d_Mo_word2_80 : decode (a_cc M_Mo_word2) 80 = .ok (.land, 1) := by decide +kernel
theorem d_Mo_word2_81 : decode (a_cc M_Mo_word2) 81 = .ok (.goto 4, 3) := by decide +kernel
theorem d_Mo_word2_84 : decode (a_cc M_Mo_word2) 84 = .ok (.lconst 0, 1) := by decide +kernel
theorem d_Mo_word2_85 : decode (a_cc M_Mo_word2) 85 = .ok (.lor, 1) := by decide +kernel
theorem d_Mo_word2_86 : decode (a_cc M_Mo_word2) 86 = .ok (.lstore_n 3, 1) := by decide +kernel
theorem d_Mo_word2_87 : decode (a_cc M_Mo_word2) 87 = .ok (.iinc 5 1, 3) := by decide +kernel
theorem d_Mo_word2_90 : decode (a_cc M_Mo_word2) 90 = .ok (.goto (-47), 3) := by decide +kernel
theorem d_Mo_word2_93 : decode (a_cc M_Mo_word2) 93 = .ok (.lload_n 3, 1) := by decide +kernel
theorem d_Mo_word2_94 : decode (a_cc M_Mo_word2) 94 = .ok (.lreturn, 1) := by decide +kernel
theorem cs_Mo_word2_5 : a_CS M_Mo_word2 M_Mo_in 120 3 1 3 := ⟨⟨ok_Mo_in, by decide, by decide, by decide⟩, List.mem_append_right _ (List.mem_of_getElem? (i := 1252) (by decide +kernel)), List.mem_append_right _ (List.mem_of_getElem? (i := 1253) (by decide +kernel)), by decide +kernel⟩
theorem cs_Mo_word2_9 : a_CV M_Mo_word2 M_Mo_good 112 10 3 0 2 := ⟨⟨ok_Mo_good, by decide, by decide, by decide⟩, by decide, rfl, List.mem_append_right _ (List.mem_of_getElem? (i := 1240) (by decide +kernel)), List.mem_append_right _ (List.mem_of_getElem? (i := 1242) (by decide +kernel)), List.mem_append_left _ (List.mem_of_getElem? (i := 41) (by decide +kernel)), by decide +kernel⟩
theorem cs_Mo_word2_26 : a_CS M_Mo_word2 M_Mo_in 120 3 1 3 := ⟨⟨ok_Mo_in, by decide, by decide, by decide⟩, List.mem_append_right _ (List.mem_of_getElem? (i := 1252) (by decide +kernel)), List.mem_append_right _ (List.mem_of_getElem? (i := 1253) (by decide +kernel)), by decide +kernel⟩
theorem cs_Mo_word2_30 : a_CV M_Mo_word2 M_Mo_good 112 10 3 0 2 := ⟨⟨ok_Mo_good, by decide, by decide, by decide⟩, by decide, rfl, List.mem_append_right _ (List.mem_of_getElem? (i := 1240) (by decide +kernel)), List.mem_append_right _ (List.mem_of_getElem? (i := 1242) (by decide +kernel)), List.mem_append_left _ (List.mem_of_getElem? (i := 41) (by decide +kernel)), by decide +kernel⟩
def M_By_matches : a_M := (⟨"ModuleSigner$Bytes", "matches", "(LModuleSigner$Bytes;I)Z"⟩, prog_3_method_9_code, 4, some .boolean, "ModuleSigner$Bytes", 1, 14, [])
theorem ok_By_matches : a_Ok M_By_matches := ⟨rfl, by decide +kernel, ⟨by decide, by decide⟩, List.mem_append_right _ (List.mem_of_getElem? (i := 2) (by decide +kernel)), Or.inl ⟨rfl, List.mem_append_right _ (List.mem_of_getElem? (i := 564) (by decide +kernel))⟩⟩
theorem d_By_matches_0 : decode (a_cc M_By_matches) 0 = .ok (.iconst 0, 1) := by decide +kernel
theorem d_By_matches_1 : decode (a_cc M_By_matches) 1 = .ok (.istore_n 3, 1) := by decide +kernel
theorem d_By_matches_2 : decode (a_cc M_By_matches) 2 = .ok (.iload_n 3, 1) := by decide +kernel
theorem d_By_matches_3 : decode (a_cc M_By_matches) 3 = .ok (.iload_n 2, 1) := by decide +kernel
theorem d_By_matches_4 : decode (a_cc M_By_matches) 4 = .ok (.if_icmp .ge 24, 3) := by decide +kernel
theorem d_By_matches_7 : decode (a_cc M_By_matches) 7 = .ok (.aload_n 0, 1) := by decide +kernel
theorem d_By_matches_8 : decode (a_cc M_By_matches) 8 = .ok (.iload_n 3, 1) := by decide +kernel
theorem d_By_matches_9 : decode (a_cc M_By_matches) 9 = .ok (.invokevirtual 21, 3) := by decide +kernel
theorem d_By_matches_12 : decode (a_cc M_By_matches) 12 = .ok (.aload_n 1, 1) := by decide +kernel
theorem d_By_matches_13 : decode (a_cc M_By_matches) 13 = .ok (.iload_n 3, 1) := by decide +kernel
theorem d_By_matches_14 : decode (a_cc M_By_matches) 14 = .ok (.invokevirtual 21, 3) := by decide +kernel
theorem d_By_matches_17 : decode (a_cc M_By_matches) 17 = .ok (.if_icmp .eq 5, 3) := by decide +kernel
theorem d_By_matches_20 : decode (a_cc M_By_matches) 20 = .ok (.iconst 0, 1) := by decide +kernel
theorem d_By_matches_21 : decode (a_cc M_By_matches) 21 = .ok (.ireturn, 1) := by decide +kernel
theorem d_By_matches_22 : decode (a_cc M_By_matches) 22 = .ok (.iinc 3 1, 3) := by decide +kernel
theorem d_By_matches_25 : decode (a_cc M_By_matches) 25 = .ok (.goto (-23), 3) := by decide +kernel
theorem d_By_matches_28 : decode (a_cc M_By_matches) 28 = .ok (.iconst 1, 1) := by decide +kernel
theorem d_By_matches_29 : decode (a_cc M_By_matches) 29 = .ok (.ireturn, 1) := by decide +kernel
theorem cs_By_matches_9 : a_CV M_By_matches M_By_at 21 1 2 0 1 := ⟨⟨ok_By_at, by decide, by decide, by decide⟩, by decide, rfl, List.mem_append_right _ (List.mem_of_getElem? (i := 565) (by decide +kernel)), List.mem_append_right _ (List.mem_of_getElem? (i := 537) (by decide +kernel)), List.mem_append_right _ (List.mem_of_getElem? (i := 538) (by decide +kernel)), by decide +kernel⟩
theorem cs_By_matches_14 : a_CV M_By_matches M_By_at 21 1 2 1 1 := ⟨⟨ok_By_at, by decide, by decide, by decide⟩, by decide, rfl, List.mem_append_right _ (List.mem_of_getElem? (i := 565) (by decide +kernel)), List.mem_append_right _ (List.mem_of_getElem? (i := 537) (by decide +kernel)), List.mem_append_right _ (List.mem_of_getElem? (i := 538) (by decide +kernel)), by decide +kernel⟩
def M_MS_same : a_M := (⟨"ModuleSigner", "same", "(II)Z"⟩, prog_1_method_9_code, 3, some .boolean, "ModuleSigner", 7, 94, [])
theorem ok_MS_same : a_Ok M_MS_same := ⟨rfl, by decide +kernel, ⟨by decide, by decide⟩, List.mem_append_right _ (List.mem_of_getElem? (i := 1) (by decide +kernel)), Or.inl ⟨rfl, List.mem_append_right _ (List.mem_of_getElem? (i := 560) (by decide +kernel))⟩⟩
theorem d_MS_same_0 : decode (a_cc M_MS_same) 0 = .ok (.iload_n 1, 1) := by decide +kernel
theorem d_MS_same_1 : decode (a_cc M_MS_same) 1 = .ok (.invokestatic 69, 3) := by decide +kernel
theorem d_MS_same_4 : decode (a_cc M_MS_same) 4 = .ok (.iload_n 2, 1) := by decide +kernel
theorem d_MS_same_5 : decode (a_cc M_MS_same) 5 = .ok (.invokestatic 69, 3) := by decide +kernel
theorem d_MS_same_8 : decode (a_cc M_MS_same) 8 = .ok (.aload_n 0, 1) := by decide +kernel
theorem d_MS_same_9 : decode (a_cc M_MS_same) 9 = .ok (.getfield 11, 3) := by decide +kernel
theorem d_MS_same_12 : decode (a_cc M_MS_same) 12 = .ok (.iload_n 1, 1) := by decide +kernel
theorem d_MS_same_13 : decode (a_cc M_MS_same) 13 = .ok (.aaload, 1) := by decide +kernel
theorem d_MS_same_14 : decode (a_cc M_MS_same) 14 = .ok (.getfield 55, 3) := by decide +kernel
theorem d_MS_same_17 : decode (a_cc M_MS_same) 17 = .ok (.aload_n 0, 1) := by decide +kernel
theorem d_MS_same_18 : decode (a_cc M_MS_same) 18 = .ok (.getfield 11, 3) := by decide +kernel
theorem d_MS_same_21 : decode (a_cc M_MS_same) 21 = .ok (.iload_n 2, 1) := by decide +kernel
theorem d_MS_same_22 : decode (a_cc M_MS_same) 22 = .ok (.aaload, 1) := by decide +kernel
theorem d_MS_same_23 : decode (a_cc M_MS_same) 23 = .ok (.getfield 55, 3) := by decide +kernel
theorem d_MS_same_26 : decode (a_cc M_MS_same) 26 = .ok (.if_icmp .ne 34, 3) := by decide +kernel
theorem d_MS_same_29 : decode (a_cc M_MS_same) 29 = .ok (.aload_n 0, 1) := by decide +kernel
theorem d_MS_same_30 : decode (a_cc M_MS_same) 30 = .ok (.getfield 11, 3) := by decide +kernel
theorem d_MS_same_33 : decode (a_cc M_MS_same) 33 = .ok (.iload_n 1, 1) := by decide +kernel
theorem d_MS_same_34 : decode (a_cc M_MS_same) 34 = .ok (.aaload, 1) := by decide +kernel
theorem d_MS_same_35 : decode (a_cc M_MS_same) 35 = .ok (.aload_n 0, 1) := by decide +kernel
theorem d_MS_same_36 : decode (a_cc M_MS_same) 36 = .ok (.getfield 11, 3) := by decide +kernel
theorem d_MS_same_39 : decode (a_cc M_MS_same) 39 = .ok (.iload_n 2, 1) := by decide +kernel
theorem d_MS_same_40 : decode (a_cc M_MS_same) 40 = .ok (.aaload, 1) := by decide +kernel
theorem d_MS_same_41 : decode (a_cc M_MS_same) 41 = .ok (.aload_n 0, 1) := by decide +kernel
theorem d_MS_same_42 : decode (a_cc M_MS_same) 42 = .ok (.getfield 11, 3) := by decide +kernel
theorem d_MS_same_45 : decode (a_cc M_MS_same) 45 = .ok (.iload_n 2, 1) := by decide +kernel
theorem d_MS_same_46 : decode (a_cc M_MS_same) 46 = .ok (.aaload, 1) := by decide +kernel
theorem d_MS_same_47 : decode (a_cc M_MS_same) 47 = .ok (.getfield 55, 3) := by decide +kernel
theorem d_MS_same_50 : decode (a_cc M_MS_same) 50 = .ok (.invokevirtual 104, 3) := by decide +kernel
theorem d_MS_same_53 : decode (a_cc M_MS_same) 53 = .ok (.ifCond .eq 7, 3) := by decide +kernel
theorem d_MS_same_56 : decode (a_cc M_MS_same) 56 = .ok (.iconst 1, 1) := by decide +kernel
theorem d_MS_same_57 : decode (a_cc M_MS_same) 57 = .ok (.goto 4, 3) := by decide +kernel
theorem d_MS_same_60 : decode (a_cc M_MS_same) 60 = .ok (.iconst 0, 1) := by decide +kernel
theorem d_MS_same_61 : decode (a_cc M_MS_same) 61 = .ok (.ireturn, 1) := by decide +kernel
theorem cs_MS_same_1 : a_CS M_MS_same M_MS_needSlot 69 1 0 1 := ⟨⟨ok_MS_needSlot, by decide, by decide, by decide⟩, List.mem_append_right _ (List.mem_of_getElem? (i := 467) (by decide +kernel)), List.mem_append_right _ (List.mem_of_getElem? (i := 468) (by decide +kernel)), by decide +kernel⟩
theorem cs_MS_same_5 : a_CS M_MS_same M_MS_needSlot 69 1 0 1 := ⟨⟨ok_MS_needSlot, by decide, by decide, by decide⟩, List.mem_append_right _ (List.mem_of_getElem? (i := 467) (by decide +kernel)), List.mem_append_right _ (List.mem_of_getElem? (i := 468) (by decide +kernel)), by decide +kernel⟩
theorem cs_MS_same_50 : a_CV M_MS_same M_By_matches 104 1 3 0 2 := ⟨⟨ok_By_matches, by decide, by decide, by decide⟩, by decide, rfl, List.mem_append_right _ (List.mem_of_getElem? (i := 561) (by decide +kernel)), List.mem_append_right _ (List.mem_of_getElem? (i := 562) (by decide +kernel)), List.mem_append_right _ (List.mem_of_getElem? (i := 563) (by decide +kernel)), by decide +kernel⟩
def M_La_same : a_M := (⟨"ModuleSignerLaw", "same", "(LModuleSigner;II[J)I"⟩, method_10_code, 5, some .int, "ModuleSignerLaw", 8, 110, [(0, 17, 20, 19)])
theorem ok_La_same : a_Ok M_La_same := ⟨rfl, by decide +kernel, ⟨by decide, by decide⟩, List.mem_append_right _ (List.mem_of_getElem? (i := 0) (by decide +kernel)), Or.inr (List.mem_append_right _ (List.mem_of_getElem? (i := 556) (by decide +kernel)))⟩
theorem d_La_same_0 : decode (a_cc M_La_same) 0 = .ok (.aload_n 3, 1) := by decide +kernel
theorem d_La_same_1 : decode (a_cc M_La_same) 1 = .ok (.iconst 0, 1) := by decide +kernel
theorem d_La_same_2 : decode (a_cc M_La_same) 2 = .ok (.aload_n 0, 1) := by decide +kernel
theorem d_La_same_3 : decode (a_cc M_La_same) 3 = .ok (.iload_n 1, 1) := by decide +kernel
theorem d_La_same_4 : decode (a_cc M_La_same) 4 = .ok (.iload_n 2, 1) := by decide +kernel
theorem d_La_same_5 : decode (a_cc M_La_same) 5 = .ok (.invokevirtual 39, 3) := by decide +kernel
theorem d_La_same_8 : decode (a_cc M_La_same) 8 = .ok (.ifCond .eq 7, 3) := by decide +kernel
theorem d_La_same_11 : decode (a_cc M_La_same) 11 = .ok (.lconst 1, 1) := by decide +kernel
theorem d_La_same_12 : decode (a_cc M_La_same) 12 = .ok (.goto 4, 3) := by decide +kernel
theorem d_La_same_15 : decode (a_cc M_La_same) 15 = .ok (.lconst 0, 1) := by decide +kernel
theorem d_La_same_16 : decode (a_cc M_La_same) 16 = .ok (.lastore, 1) := by decide +kernel
theorem d_La_same_17 : decode (a_cc M_La_same) 17 = .ok (.goto 7, 3) := by decide +kernel
theorem d_La_same_20 : decode (a_cc M_La_same) 20 = .ok (.astore 4, 2) := by decide +kernel
theorem d_La_same_22 : decode (a_cc M_La_same) 22 = .ok (.iconst 1, 1) := by decide +kernel
theorem d_La_same_23 : decode (a_cc M_La_same) 23 = .ok (.ireturn, 1) := by decide +kernel
theorem d_La_same_24 : decode (a_cc M_La_same) 24 = .ok (.iconst 0, 1) := by decide +kernel
theorem d_La_same_25 : decode (a_cc M_La_same) 25 = .ok (.ireturn, 1) := by decide +kernel
theorem cs_La_same_5 : a_CV M_La_same M_MS_same 39 0 3 2 2 := ⟨⟨ok_MS_same, by decide, by decide, by decide⟩, by decide, rfl, List.mem_append_right _ (List.mem_of_getElem? (i := 557) (by decide +kernel)), List.mem_append_right _ (List.mem_of_getElem? (i := 558) (by decide +kernel)), List.mem_append_right _ (List.mem_of_getElem? (i := 559) (by decide +kernel)), by decide +kernel⟩
def M_Mo_same : a_M := (⟨"ModuleSignerModel", "same", "(II)Z"⟩, prog_12_method_13_code, 5, some .boolean, "ModuleSignerModel", 1, 15, [])
theorem ok_Mo_same : a_Ok M_Mo_same := ⟨rfl, by decide +kernel, ⟨by decide, by decide⟩, List.mem_append_right _ (List.mem_of_getElem? (i := 11) (by decide +kernel)), Or.inl ⟨rfl, List.mem_append_right _ (List.mem_of_getElem? (i := 1278) (by decide +kernel))⟩⟩
theorem d_Mo_same_0 : decode (a_cc M_Mo_same) 0 = .ok (.aload_n 0, 1) := by decide +kernel
theorem d_Mo_same_1 : decode (a_cc M_Mo_same) 1 = .ok (.iload_n 1, 1) := by decide +kernel
theorem d_Mo_same_2 : decode (a_cc M_Mo_same) 2 = .ok (.iconst 0, 1) := by decide +kernel
theorem d_Mo_same_3 : decode (a_cc M_Mo_same) 3 = .ok (.bipush 7, 2) := by decide +kernel
theorem d_Mo_same_5 : decode (a_cc M_Mo_same) 5 = .ok (.invokestatic 120, 3) := by decide +kernel
theorem d_Mo_same_8 : decode (a_cc M_Mo_same) 8 = .ok (.ifCond .eq 17, 3) := by decide +kernel
theorem d_Mo_same_11 : decode (a_cc M_Mo_same) 11 = .ok (.iload_n 2, 1) := by decide +kernel
theorem d_Mo_same_12 : decode (a_cc M_Mo_same) 12 = .ok (.iconst 0, 1) := by decide +kernel
theorem d_Mo_same_13 : decode (a_cc M_Mo_same) 13 = .ok (.bipush 7, 2) := by decide +kernel
theorem d_Mo_same_15 : decode (a_cc M_Mo_same) 15 = .ok (.invokestatic 120, 3) := by decide +kernel
theorem d_Mo_same_18 : decode (a_cc M_Mo_same) 18 = .ok (.ifCond .eq 7, 3) := by decide +kernel
theorem d_Mo_same_21 : decode (a_cc M_Mo_same) 21 = .ok (.iconst 1, 1) := by decide +kernel
theorem d_Mo_same_22 : decode (a_cc M_Mo_same) 22 = .ok (.goto 4, 3) := by decide +kernel
theorem d_Mo_same_25 : decode (a_cc M_Mo_same) 25 = .ok (.iconst 0, 1) := by decide +kernel
theorem d_Mo_same_26 : decode (a_cc M_Mo_same) 26 = .ok (.iconst 1, 1) := by decide +kernel
theorem d_Mo_same_27 : decode (a_cc M_Mo_same) 27 = .ok (.invokevirtual 112, 3) := by decide +kernel
theorem d_Mo_same_30 : decode (a_cc M_Mo_same) 30 = .ok (.ifCond .ne 5, 3) := by decide +kernel
theorem d_Mo_same_33 : decode (a_cc M_Mo_same) 33 = .ok (.iconst 0, 1) := by decide +kernel
theorem d_Mo_same_34 : decode (a_cc M_Mo_same) 34 = .ok (.ireturn, 1) := by decide +kernel
theorem d_Mo_same_35 : decode (a_cc M_Mo_same) 35 = .ok (.aload_n 0, 1) := by decide +kernel
theorem d_Mo_same_36 : decode (a_cc M_Mo_same) 36 = .ok (.getfield 18, 3) := by decide +kernel
theorem d_Mo_same_39 : decode (a_cc M_Mo_same) 39 = .ok (.iload_n 1, 1) := by decide +kernel
theorem d_Mo_same_40 : decode (a_cc M_Mo_same) 40 = .ok (.iaload, 1) := by decide +kernel
theorem d_Mo_same_41 : decode (a_cc M_Mo_same) 41 = .ok (.aload_n 0, 1) := by decide +kernel
theorem d_Mo_same_42 : decode (a_cc M_Mo_same) 42 = .ok (.getfield 18, 3) := by decide +kernel
theorem d_Mo_same_45 : decode (a_cc M_Mo_same) 45 = .ok (.iload_n 2, 1) := by decide +kernel
theorem d_Mo_same_46 : decode (a_cc M_Mo_same) 46 = .ok (.iaload, 1) := by decide +kernel
theorem d_Mo_same_47 : decode (a_cc M_Mo_same) 47 = .ok (.if_icmp .eq 5, 3) := by decide +kernel
theorem d_Mo_same_50 : decode (a_cc M_Mo_same) 50 = .ok (.iconst 0, 1) := by decide +kernel
theorem d_Mo_same_51 : decode (a_cc M_Mo_same) 51 = .ok (.ireturn, 1) := by decide +kernel
theorem d_Mo_same_52 : decode (a_cc M_Mo_same) 52 = .ok (.iconst 1, 1) := by decide +kernel
theorem d_Mo_same_53 : decode (a_cc M_Mo_same) 53 = .ok (.istore_n 3, 1) := by decide +kernel
theorem d_Mo_same_54 : decode (a_cc M_Mo_same) 54 = .ok (.iconst 0, 1) := by decide +kernel
theorem d_Mo_same_55 : decode (a_cc M_Mo_same) 55 = .ok (.istore 4, 2) := by decide +kernel
theorem d_Mo_same_57 : decode (a_cc M_Mo_same) 57 = .ok (.iload 4, 2) := by decide +kernel
theorem d_Mo_same_59 : decode (a_cc M_Mo_same) 59 = .ok (.aload_n 0, 1) := by decide +kernel
theorem d_Mo_same_60 : decode (a_cc M_Mo_same) 60 = .ok (.getfield 18, 3) := by decide +kernel
theorem d_Mo_same_63 : decode (a_cc M_Mo_same) 63 = .ok (.iload_n 1, 1) := by decide +kernel
theorem d_Mo_same_64 : decode (a_cc M_Mo_same) 64 = .ok (.iaload, 1) := by decide +kernel
theorem d_Mo_same_65 : decode (a_cc M_Mo_same) 65 = .ok (.if_icmp .ge 32, 3) := by decide +kernel
theorem d_Mo_same_68 : decode (a_cc M_Mo_same) 68 = .ok (.aload_n 0, 1) := by decide +kernel
theorem d_Mo_same_69 : decode (a_cc M_Mo_same) 69 = .ok (.getfield 15, 3) := by decide +kernel
theorem d_Mo_same_72 : decode (a_cc M_Mo_same) 72 = .ok (.iload_n 1, 1) := by decide +kernel
theorem d_Mo_same_73 : decode (a_cc M_Mo_same) 73 = .ok (.aaload, 1) := by decide +kernel
theorem d_Mo_same_74 : decode (a_cc M_Mo_same) 74 = .ok (.iload 4, 2) := by decide +kernel
theorem d_Mo_same_76 : decode (a_cc M_Mo_same) 76 = .ok (.baload, 1) := by decide +kernel
theorem d_Mo_same_77 : decode (a_cc M_Mo_same) 77 = .ok (.aload_n 0, 1) := by decide +kernel
theorem d_Mo_same_78 : decode (a_cc M_Mo_same) 78 = .ok (.getfield 15, 3) := by decide +kernel
theorem d_Mo_same_81 : decode (a_cc M_Mo_same) 81 = .ok (.iload_n 2, 1) := by decide +kernel
theorem d_Mo_same_82 : decode (a_cc M_Mo_same) 82 = .ok (.aaload, 1) := by decide +kernel
theorem d_Mo_same_83 : decode (a_cc M_Mo_same) 83 = .ok (.iload 4, 2) := by decide +kernel
theorem d_Mo_same_85 : decode (a_cc M_Mo_same) 85 = .ok (.baload, 1) := by decide +kernel
theorem d_Mo_same_86 : decode (a_cc M_Mo_same) 86 = .ok (.if_icmp .eq 5, 3) := by decide +kernel
theorem d_Mo_same_89 : decode (a_cc M_Mo_same) 89 = .ok (.iconst 0, 1) := by decide +kernel
theorem d_Mo_same_90 : decode (a_cc M_Mo_same) 90 = .ok (.istore_n 3, 1) := by decide +kernel
theorem d_Mo_same_91 : decode (a_cc M_Mo_same) 91 = .ok (.iinc 4 1, 3) := by decide +kernel
theorem d_Mo_same_94 : decode (a_cc M_Mo_same) 94 = .ok (.goto (-37), 3) := by decide +kernel
theorem d_Mo_same_97 : decode (a_cc M_Mo_same) 97 = .ok (.iload_n 3, 1) := by decide +kernel
theorem d_Mo_same_98 : decode (a_cc M_Mo_same) 98 = .ok (.ireturn, 1) := by decide +kernel
theorem cs_Mo_same_5 : a_CS M_Mo_same M_Mo_in 120 3 1 3 := ⟨⟨ok_Mo_in, by decide, by decide, by decide⟩, List.mem_append_right _ (List.mem_of_getElem? (i := 1252) (by decide +kernel)), List.mem_append_right _ (List.mem_of_getElem? (i := 1253) (by decide +kernel)), by decide +kernel⟩
theorem cs_Mo_same_15 : a_CS M_Mo_same M_Mo_in 120 3 1 3 := ⟨⟨ok_Mo_in, by decide, by decide, by decide⟩, List.mem_append_right _ (List.mem_of_getElem? (i := 1252) (by decide +kernel)), List.mem_append_right _ (List.mem_of_getElem? (i := 1253) (by decide +kernel)), by decide +kernel⟩
theorem cs_Mo_same_27 : a_CV M_Mo_same M_Mo_good 112 10 3 0 2 := ⟨⟨ok_Mo_good, by decide, by decide, by decide⟩, by decide, rfl, List.mem_append_right _ (List.mem_of_getElem? (i := 1240) (by decide +kernel)), List.mem_append_right _ (List.mem_of_getElem? (i := 1242) (by decide +kernel)), List.mem_append_left _ (List.mem_of_getElem? (i := 41) (by decide +kernel)), by decide +kernel⟩
def M_MS_needSet : a_M := (⟨"ModuleSigner", "needSet", "(I)V"⟩, prog_1_method_15_code, 1, none, "ModuleSigner", 6, 82, [])
theorem ok_MS_needSet : a_Ok M_MS_needSet := ⟨rfl, by decide +kernel, ⟨by decide, by decide⟩, List.mem_append_right _ (List.mem_of_getElem? (i := 1) (by decide +kernel)), Or.inl ⟨rfl, List.mem_append_right _ (List.mem_of_getElem? (i := 577) (by decide +kernel))⟩⟩
theorem d_MS_needSet_0 : decode (a_cc M_MS_needSet) 0 = .ok (.iload_n 0, 1) := by decide +kernel
theorem d_MS_needSet_1 : decode (a_cc M_MS_needSet) 1 = .ok (.ifCond .lt 8, 3) := by decide +kernel
theorem d_MS_needSet_4 : decode (a_cc M_MS_needSet) 4 = .ok (.iload_n 0, 1) := by decide +kernel
theorem d_MS_needSet_5 : decode (a_cc M_MS_needSet) 5 = .ok (.iconst 3, 1) := by decide +kernel
theorem d_MS_needSet_6 : decode (a_cc M_MS_needSet) 6 = .ok (.if_icmp .lt 13, 3) := by decide +kernel
theorem d_MS_needSet_9 : decode (a_cc M_MS_needSet) 9 = .ok (.new 87, 3) := by decide +kernel
theorem d_MS_needSet_12 : decode (a_cc M_MS_needSet) 12 = .ok (.dup, 1) := by decide +kernel
theorem d_MS_needSet_13 : decode (a_cc M_MS_needSet) 13 = .ok (.ldc 153, 2) := by decide +kernel
theorem d_MS_needSet_15 : decode (a_cc M_MS_needSet) 15 = .ok (.invokespecial 91, 3) := by decide +kernel
theorem d_MS_needSet_18 : decode (a_cc M_MS_needSet) 18 = .ok (.athrow, 1) := by decide +kernel
theorem d_MS_needSet_19 : decode (a_cc M_MS_needSet) 19 = .ok (.return_, 1) := by decide +kernel
theorem th_MS_needSet_9 : a_Th M_MS_needSet 9 0 0 := ⟨_, _, _, "no such set", d_MS_needSet_9, d_MS_needSet_12, d_MS_needSet_13, d_MS_needSet_15, d_MS_needSet_18, List.mem_append_right _ (List.mem_of_getElem? (i := 578) (by decide +kernel)), by decide, List.mem_append_right _ (List.mem_of_getElem? (i := 470) (by decide +kernel)), List.mem_append_right _ (List.mem_of_getElem? (i := 480) (by decide +kernel)), rfl, by decide, by decide⟩
def M_Sp_start : a_M := (⟨"ModuleSigner$Sponge", "start", "(I)V"⟩, prog_9_method_4_code, 3, none, "ModuleSigner$Sponge", 0, 0, [])
theorem ok_Sp_start : a_Ok M_Sp_start := ⟨rfl, by decide +kernel, ⟨by decide, by decide⟩, List.mem_append_right _ (List.mem_of_getElem? (i := 7) (by decide +kernel)), Or.inl ⟨rfl, List.mem_append_right _ (List.mem_of_getElem? (i := 610) (by decide +kernel))⟩⟩
theorem d_Sp_start_0 : decode (a_cc M_Sp_start) 0 = .ok (.iconst 0, 1) := by decide +kernel
theorem d_Sp_start_1 : decode (a_cc M_Sp_start) 1 = .ok (.istore_n 2, 1) := by decide +kernel
theorem d_Sp_start_2 : decode (a_cc M_Sp_start) 2 = .ok (.iload_n 2, 1) := by decide +kernel
theorem d_Sp_start_3 : decode (a_cc M_Sp_start) 3 = .ok (.bipush 25, 2) := by decide +kernel
theorem d_Sp_start_5 : decode (a_cc M_Sp_start) 5 = .ok (.if_icmp .ge 16, 3) := by decide +kernel
theorem d_Sp_start_8 : decode (a_cc M_Sp_start) 8 = .ok (.aload_n 0, 1) := by decide +kernel
theorem d_Sp_start_9 : decode (a_cc M_Sp_start) 9 = .ok (.getfield 9, 3) := by decide +kernel
theorem d_Sp_start_12 : decode (a_cc M_Sp_start) 12 = .ok (.iload_n 2, 1) := by decide +kernel
theorem d_Sp_start_13 : decode (a_cc M_Sp_start) 13 = .ok (.lconst 0, 1) := by decide +kernel
theorem d_Sp_start_14 : decode (a_cc M_Sp_start) 14 = .ok (.lastore, 1) := by decide +kernel
theorem d_Sp_start_15 : decode (a_cc M_Sp_start) 15 = .ok (.iinc 2 1, 3) := by decide +kernel
theorem d_Sp_start_18 : decode (a_cc M_Sp_start) 18 = .ok (.goto (-16), 3) := by decide +kernel
theorem d_Sp_start_21 : decode (a_cc M_Sp_start) 21 = .ok (.aload_n 0, 1) := by decide +kernel
theorem d_Sp_start_22 : decode (a_cc M_Sp_start) 22 = .ok (.iload_n 1, 1) := by decide +kernel
theorem d_Sp_start_23 : decode (a_cc M_Sp_start) 23 = .ok (.putfield 19, 3) := by decide +kernel
theorem d_Sp_start_26 : decode (a_cc M_Sp_start) 26 = .ok (.aload_n 0, 1) := by decide +kernel
theorem d_Sp_start_27 : decode (a_cc M_Sp_start) 27 = .ok (.iconst 0, 1) := by decide +kernel
theorem d_Sp_start_28 : decode (a_cc M_Sp_start) 28 = .ok (.putfield 23, 3) := by decide +kernel
theorem d_Sp_start_31 : decode (a_cc M_Sp_start) 31 = .ok (.return_, 1) := by decide +kernel
def M_Sp_start256 : a_M := (⟨"ModuleSigner$Sponge", "start256", "()V"⟩, prog_9_method_3_code, 1, none, "ModuleSigner$Sponge", 1, 14, [])
theorem ok_Sp_start256 : a_Ok M_Sp_start256 := ⟨rfl, by decide +kernel, ⟨by decide, by decide⟩, List.mem_append_right _ (List.mem_of_getElem? (i := 7) (by decide +kernel)), Or.inl ⟨rfl, List.mem_append_right _ (List.mem_of_getElem? (i := 606) (by decide +kernel))⟩⟩
theorem d_Sp_start256_0 : decode (a_cc M_Sp_start256) 0 = .ok (.aload_n 0, 1) := by decide +kernel
theorem d_Sp_start256_1 : decode (a_cc M_Sp_start256) 1 = .ok (.sipush 136, 3) := by decide +kernel
theorem d_Sp_start256_4 : decode (a_cc M_Sp_start256) 4 = .ok (.invokevirtual 26, 3) := by decide +kernel
theorem d_Sp_start256_7 : decode (a_cc M_Sp_start256) 7 = .ok (.return_, 1) := by decide +kernel
theorem cs_Sp_start256_4 : a_CV M_Sp_start256 M_Sp_start 26 7 2 0 1 := ⟨⟨ok_Sp_start, by decide, by decide, by decide⟩, by decide, rfl, List.mem_append_right _ (List.mem_of_getElem? (i := 607) (by decide +kernel)), List.mem_append_right _ (List.mem_of_getElem? (i := 609) (by decide +kernel)), List.mem_append_left _ (List.mem_of_getElem? (i := 3) (by decide +kernel)), by decide +kernel⟩
def M_Sp_mixIn : a_M := (⟨"ModuleSigner$Sponge", "mixIn", "(II)V"⟩, prog_9_method_10_code, 3, none, "ModuleSigner$Sponge", 0, 0, [])
theorem ok_Sp_mixIn : a_Ok M_Sp_mixIn := ⟨rfl, by decide +kernel, ⟨by decide, by decide⟩, List.mem_append_right _ (List.mem_of_getElem? (i := 7) (by decide +kernel)), Or.inl ⟨rfl, List.mem_append_right _ (List.mem_of_getElem? (i := 623) (by decide +kernel))⟩⟩
theorem d_Sp_mixIn_0 : decode (a_cc M_Sp_mixIn) 0 = .ok (.aload_n 0, 1) := by decide +kernel
theorem d_Sp_mixIn_1 : decode (a_cc M_Sp_mixIn) 1 = .ok (.getfield 9, 3) := by decide +kernel
theorem d_Sp_mixIn_4 : decode (a_cc M_Sp_mixIn) 4 = .ok (.iload_n 1, 1) := by decide +kernel
theorem d_Sp_mixIn_5 : decode (a_cc M_Sp_mixIn) 5 = .ok (.iconst 3, 1) := by decide +kernel
theorem d_Sp_mixIn_6 : decode (a_cc M_Sp_mixIn) 6 = .ok (.ishr, 1) := by decide +kernel
theorem d_Sp_mixIn_7 : decode (a_cc M_Sp_mixIn) 7 = .ok (.dup2, 1) := by decide +kernel
theorem d_Sp_mixIn_8 : decode (a_cc M_Sp_mixIn) 8 = .ok (.laload, 1) := by decide +kernel
theorem d_Sp_mixIn_9 : decode (a_cc M_Sp_mixIn) 9 = .ok (.iload_n 2, 1) := by decide +kernel
theorem d_Sp_mixIn_10 : decode (a_cc M_Sp_mixIn) 10 = .ok (.i2l, 1) := by decide +kernel
theorem d_Sp_mixIn_11 : decode (a_cc M_Sp_mixIn) 11 = .ok (.ldc2_w 56, 3) := by decide +kernel
theorem d_Sp_mixIn_14 : decode (a_cc M_Sp_mixIn) 14 = .ok (.land, 1) := by decide +kernel
theorem d_Sp_mixIn_15 : decode (a_cc M_Sp_mixIn) 15 = .ok (.bipush 8, 2) := by decide +kernel
theorem d_Sp_mixIn_17 : decode (a_cc M_Sp_mixIn) 17 = .ok (.iload_n 1, 1) := by decide +kernel
theorem d_Sp_mixIn_18 : decode (a_cc M_Sp_mixIn) 18 = .ok (.bipush 7, 2) := by decide +kernel
theorem d_Sp_mixIn_20 : decode (a_cc M_Sp_mixIn) 20 = .ok (.iand, 1) := by decide +kernel
theorem d_Sp_mixIn_21 : decode (a_cc M_Sp_mixIn) 21 = .ok (.imul, 1) := by decide +kernel
theorem d_Sp_mixIn_22 : decode (a_cc M_Sp_mixIn) 22 = .ok (.lshl, 1) := by decide +kernel
theorem d_Sp_mixIn_23 : decode (a_cc M_Sp_mixIn) 23 = .ok (.lxor, 1) := by decide +kernel
theorem d_Sp_mixIn_24 : decode (a_cc M_Sp_mixIn) 24 = .ok (.lastore, 1) := by decide +kernel
theorem d_Sp_mixIn_25 : decode (a_cc M_Sp_mixIn) 25 = .ok (.return_, 1) := by decide +kernel
theorem lc_Sp_56 : Cond.constantLong "ModuleSigner$Sponge" 56 (Int64.ofInt (255)) ∈ lw_tbl := List.mem_append_right _ (List.mem_of_getElem? (i := 624) (by decide +kernel))
def M_Sp_permute : a_M := (⟨"ModuleSigner$Sponge", "permute", "()V"⟩, prog_9_method_11_code, 10, none, "ModuleSigner$Sponge", 0, 0, [])
theorem ok_Sp_permute : a_Ok M_Sp_permute := ⟨rfl, by decide +kernel, ⟨by decide, by decide⟩, List.mem_append_right _ (List.mem_of_getElem? (i := 7) (by decide +kernel)), Or.inl ⟨rfl, List.mem_append_right _ (List.mem_of_getElem? (i := 628) (by decide +kernel))⟩⟩
theorem d_Sp_permute_0 : decode (a_cc M_Sp_permute) 0 = .ok (.iconst 0, 1) := by decide +kernel
theorem d_Sp_permute_1 : decode (a_cc M_Sp_permute) 1 = .ok (.istore_n 1, 1) := by decide +kernel
theorem d_Sp_permute_2 : decode (a_cc M_Sp_permute) 2 = .ok (.iload_n 1, 1) := by decide +kernel
theorem d_Sp_permute_3 : decode (a_cc M_Sp_permute) 3 = .ok (.getstatic 58, 3) := by decide +kernel
theorem d_Sp_permute_6 : decode (a_cc M_Sp_permute) 6 = .ok (.arraylength, 1) := by decide +kernel
theorem d_Sp_permute_7 : decode (a_cc M_Sp_permute) 7 = .ok (.if_icmp .ge 373, 3) := by decide +kernel
theorem d_Sp_permute_10 : decode (a_cc M_Sp_permute) 10 = .ok (.iconst 0, 1) := by decide +kernel
theorem d_Sp_permute_11 : decode (a_cc M_Sp_permute) 11 = .ok (.istore_n 2, 1) := by decide +kernel
theorem d_Sp_permute_12 : decode (a_cc M_Sp_permute) 12 = .ok (.iload_n 2, 1) := by decide +kernel
theorem d_Sp_permute_13 : decode (a_cc M_Sp_permute) 13 = .ok (.iconst 5, 1) := by decide +kernel
theorem d_Sp_permute_14 : decode (a_cc M_Sp_permute) 14 = .ok (.if_icmp .ge 60, 3) := by decide +kernel
theorem d_Sp_permute_17 : decode (a_cc M_Sp_permute) 17 = .ok (.aload_n 0, 1) := by decide +kernel
theorem d_Sp_permute_18 : decode (a_cc M_Sp_permute) 18 = .ok (.getfield 16, 3) := by decide +kernel
theorem d_Sp_permute_21 : decode (a_cc M_Sp_permute) 21 = .ok (.iload_n 2, 1) := by decide +kernel
theorem d_Sp_permute_22 : decode (a_cc M_Sp_permute) 22 = .ok (.aload_n 0, 1) := by decide +kernel
theorem d_Sp_permute_23 : decode (a_cc M_Sp_permute) 23 = .ok (.getfield 9, 3) := by decide +kernel
theorem d_Sp_permute_26 : decode (a_cc M_Sp_permute) 26 = .ok (.iload_n 2, 1) := by decide +kernel
theorem d_Sp_permute_27 : decode (a_cc M_Sp_permute) 27 = .ok (.laload, 1) := by decide +kernel
theorem d_Sp_permute_28 : decode (a_cc M_Sp_permute) 28 = .ok (.aload_n 0, 1) := by decide +kernel
theorem d_Sp_permute_29 : decode (a_cc M_Sp_permute) 29 = .ok (.getfield 9, 3) := by decide +kernel
theorem d_Sp_permute_32 : decode (a_cc M_Sp_permute) 32 = .ok (.iload_n 2, 1) := by decide +kernel
theorem d_Sp_permute_33 : decode (a_cc M_Sp_permute) 33 = .ok (.iconst 5, 1) := by decide +kernel
theorem d_Sp_permute_34 : decode (a_cc M_Sp_permute) 34 = .ok (.iadd, 1) := by decide +kernel
theorem d_Sp_permute_35 : decode (a_cc M_Sp_permute) 35 = .ok (.laload, 1) := by decide +kernel
theorem d_Sp_permute_36 : decode (a_cc M_Sp_permute) 36 = .ok (.lxor, 1) := by decide +kernel
theorem d_Sp_permute_37 : decode (a_cc M_Sp_permute) 37 = .ok (.aload_n 0, 1) := by decide +kernel
theorem d_Sp_permute_38 : decode (a_cc M_Sp_permute) 38 = .ok (.getfield 9, 3) := by decide +kernel
theorem d_Sp_permute_41 : decode (a_cc M_Sp_permute) 41 = .ok (.iload_n 2, 1) := by decide +kernel
theorem d_Sp_permute_42 : decode (a_cc M_Sp_permute) 42 = .ok (.bipush 10, 2) := by decide +kernel
theorem d_Sp_permute_44 : decode (a_cc M_Sp_permute) 44 = .ok (.iadd, 1) := by decide +kernel
theorem d_Sp_permute_45 : decode (a_cc M_Sp_permute) 45 = .ok (.laload, 1) := by decide +kernel
theorem d_Sp_permute_46 : decode (a_cc M_Sp_permute) 46 = .ok (.lxor, 1) := by decide +kernel
theorem d_Sp_permute_47 : decode (a_cc M_Sp_permute) 47 = .ok (.aload_n 0, 1) := by decide +kernel
theorem d_Sp_permute_48 : decode (a_cc M_Sp_permute) 48 = .ok (.getfield 9, 3) := by decide +kernel
theorem d_Sp_permute_51 : decode (a_cc M_Sp_permute) 51 = .ok (.iload_n 2, 1) := by decide +kernel
theorem d_Sp_permute_52 : decode (a_cc M_Sp_permute) 52 = .ok (.bipush 15, 2) := by decide +kernel
theorem d_Sp_permute_54 : decode (a_cc M_Sp_permute) 54 = .ok (.iadd, 1) := by decide +kernel
theorem d_Sp_permute_55 : decode (a_cc M_Sp_permute) 55 = .ok (.laload, 1) := by decide +kernel
theorem d_Sp_permute_56 : decode (a_cc M_Sp_permute) 56 = .ok (.lxor, 1) := by decide +kernel
theorem d_Sp_permute_57 : decode (a_cc M_Sp_permute) 57 = .ok (.aload_n 0, 1) := by decide +kernel
theorem d_Sp_permute_58 : decode (a_cc M_Sp_permute) 58 = .ok (.getfield 9, 3) := by decide +kernel
theorem d_Sp_permute_61 : decode (a_cc M_Sp_permute) 61 = .ok (.iload_n 2, 1) := by decide +kernel
theorem d_Sp_permute_62 : decode (a_cc M_Sp_permute) 62 = .ok (.bipush 20, 2) := by decide +kernel
theorem d_Sp_permute_64 : decode (a_cc M_Sp_permute) 64 = .ok (.iadd, 1) := by decide +kernel
theorem d_Sp_permute_65 : decode (a_cc M_Sp_permute) 65 = .ok (.laload, 1) := by decide +kernel
theorem d_Sp_permute_66 : decode (a_cc M_Sp_permute) 66 = .ok (.lxor, 1) := by decide +kernel
theorem d_Sp_permute_67 : decode (a_cc M_Sp_permute) 67 = .ok (.lastore, 1) := by decide +kernel
theorem d_Sp_permute_68 : decode (a_cc M_Sp_permute) 68 = .ok (.iinc 2 1, 3) := by decide +kernel
theorem d_Sp_permute_71 : decode (a_cc M_Sp_permute) 71 = .ok (.goto (-59), 3) := by decide +kernel
theorem d_Sp_permute_74 : decode (a_cc M_Sp_permute) 74 = .ok (.iconst 0, 1) := by decide +kernel
theorem d_Sp_permute_75 : decode (a_cc M_Sp_permute) 75 = .ok (.istore_n 2, 1) := by decide +kernel
theorem d_Sp_permute_76 : decode (a_cc M_Sp_permute) 76 = .ok (.iload_n 2, 1) := by decide +kernel
theorem d_Sp_permute_77 : decode (a_cc M_Sp_permute) 77 = .ok (.iconst 5, 1) := by decide +kernel
theorem d_Sp_permute_78 : decode (a_cc M_Sp_permute) 78 = .ok (.if_icmp .ge 102, 3) := by decide +kernel
theorem d_Sp_permute_81 : decode (a_cc M_Sp_permute) 81 = .ok (.aload_n 0, 1) := by decide +kernel
theorem d_Sp_permute_82 : decode (a_cc M_Sp_permute) 82 = .ok (.getfield 16, 3) := by decide +kernel
theorem d_Sp_permute_85 : decode (a_cc M_Sp_permute) 85 = .ok (.iload_n 2, 1) := by decide +kernel
theorem d_Sp_permute_86 : decode (a_cc M_Sp_permute) 86 = .ok (.iconst 1, 1) := by decide +kernel
theorem d_Sp_permute_87 : decode (a_cc M_Sp_permute) 87 = .ok (.iadd, 1) := by decide +kernel
theorem d_Sp_permute_88 : decode (a_cc M_Sp_permute) 88 = .ok (.iconst 5, 1) := by decide +kernel
theorem d_Sp_permute_89 : decode (a_cc M_Sp_permute) 89 = .ok (.irem, 1) := by decide +kernel
theorem d_Sp_permute_90 : decode (a_cc M_Sp_permute) 90 = .ok (.laload, 1) := by decide +kernel
theorem d_Sp_permute_91 : decode (a_cc M_Sp_permute) 91 = .ok (.lstore_n 3, 1) := by decide +kernel
theorem d_Sp_permute_92 : decode (a_cc M_Sp_permute) 92 = .ok (.aload_n 0, 1) := by decide +kernel
theorem d_Sp_permute_93 : decode (a_cc M_Sp_permute) 93 = .ok (.getfield 16, 3) := by decide +kernel
theorem d_Sp_permute_96 : decode (a_cc M_Sp_permute) 96 = .ok (.iload_n 2, 1) := by decide +kernel
theorem d_Sp_permute_97 : decode (a_cc M_Sp_permute) 97 = .ok (.iconst 4, 1) := by decide +kernel
theorem d_Sp_permute_98 : decode (a_cc M_Sp_permute) 98 = .ok (.iadd, 1) := by decide +kernel
theorem d_Sp_permute_99 : decode (a_cc M_Sp_permute) 99 = .ok (.iconst 5, 1) := by decide +kernel
theorem d_Sp_permute_100 : decode (a_cc M_Sp_permute) 100 = .ok (.irem, 1) := by decide +kernel
theorem d_Sp_permute_101 : decode (a_cc M_Sp_permute) 101 = .ok (.laload, 1) := by decide +kernel
theorem d_Sp_permute_102 : decode (a_cc M_Sp_permute) 102 = .ok (.lload_n 3, 1) := by decide +kernel
theorem d_Sp_permute_103 : decode (a_cc M_Sp_permute) 103 = .ok (.iconst 1, 1) := by decide +kernel
theorem d_Sp_permute_104 : decode (a_cc M_Sp_permute) 104 = .ok (.lshl, 1) := by decide +kernel
theorem d_Sp_permute_105 : decode (a_cc M_Sp_permute) 105 = .ok (.lload_n 3, 1) := by decide +kernel
theorem d_Sp_permute_106 : decode (a_cc M_Sp_permute) 106 = .ok (.bipush 63, 2) := by decide +kernel
theorem d_Sp_permute_108 : decode (a_cc M_Sp_permute) 108 = .ok (.lushr, 1) := by decide +kernel
theorem d_Sp_permute_109 : decode (a_cc M_Sp_permute) 109 = .ok (.lor, 1) := by decide +kernel
theorem d_Sp_permute_110 : decode (a_cc M_Sp_permute) 110 = .ok (.lxor, 1) := by decide +kernel
theorem d_Sp_permute_111 : decode (a_cc M_Sp_permute) 111 = .ok (.lstore 5, 2) := by decide +kernel
theorem d_Sp_permute_113 : decode (a_cc M_Sp_permute) 113 = .ok (.iload_n 2, 1) := by decide +kernel
theorem d_Sp_permute_114 : decode (a_cc M_Sp_permute) 114 = .ok (.istore 7, 2) := by decide +kernel
theorem d_Sp_permute_116 : decode (a_cc M_Sp_permute) 116 = .ok (.iload 7, 2) := by decide +kernel
theorem d_Sp_permute_118 : decode (a_cc M_Sp_permute) 118 = .ok (.bipush 25, 2) := by decide +kernel
theorem d_Sp_permute_120 : decode (a_cc M_Sp_permute) 120 = .ok (.if_icmp .ge 54, 3) := by decide +kernel
theorem d_Sp_permute_123 : decode (a_cc M_Sp_permute) 123 = .ok (.aload_n 0, 1) := by decide +kernel
theorem d_Sp_permute_124 : decode (a_cc M_Sp_permute) 124 = .ok (.getfield 9, 3) := by decide +kernel
theorem d_Sp_permute_127 : decode (a_cc M_Sp_permute) 127 = .ok (.iload 7, 2) := by decide +kernel
theorem d_Sp_permute_129 : decode (a_cc M_Sp_permute) 129 = .ok (.laload, 1) := by decide +kernel
theorem d_Sp_permute_130 : decode (a_cc M_Sp_permute) 130 = .ok (.lload 5, 2) := by decide +kernel
theorem d_Sp_permute_132 : decode (a_cc M_Sp_permute) 132 = .ok (.lxor, 1) := by decide +kernel
theorem d_Sp_permute_133 : decode (a_cc M_Sp_permute) 133 = .ok (.lstore 8, 2) := by decide +kernel
theorem d_Sp_permute_135 : decode (a_cc M_Sp_permute) 135 = .ok (.aload_n 0, 1) := by decide +kernel
theorem d_Sp_permute_136 : decode (a_cc M_Sp_permute) 136 = .ok (.getfield 13, 3) := by decide +kernel
theorem d_Sp_permute_139 : decode (a_cc M_Sp_permute) 139 = .ok (.getstatic 61, 3) := by decide +kernel
theorem d_Sp_permute_142 : decode (a_cc M_Sp_permute) 142 = .ok (.iload 7, 2) := by decide +kernel
theorem d_Sp_permute_144 : decode (a_cc M_Sp_permute) 144 = .ok (.iaload, 1) := by decide +kernel
theorem d_Sp_permute_145 : decode (a_cc M_Sp_permute) 145 = .ok (.lload 8, 2) := by decide +kernel
theorem d_Sp_permute_147 : decode (a_cc M_Sp_permute) 147 = .ok (.getstatic 65, 3) := by decide +kernel
theorem d_Sp_permute_150 : decode (a_cc M_Sp_permute) 150 = .ok (.iload 7, 2) := by decide +kernel
theorem d_Sp_permute_152 : decode (a_cc M_Sp_permute) 152 = .ok (.iaload, 1) := by decide +kernel
theorem d_Sp_permute_153 : decode (a_cc M_Sp_permute) 153 = .ok (.lshl, 1) := by decide +kernel
theorem d_Sp_permute_154 : decode (a_cc M_Sp_permute) 154 = .ok (.lload 8, 2) := by decide +kernel
theorem d_Sp_permute_156 : decode (a_cc M_Sp_permute) 156 = .ok (.bipush 64, 2) := by decide +kernel
theorem d_Sp_permute_158 : decode (a_cc M_Sp_permute) 158 = .ok (.getstatic 65, 3) := by decide +kernel
theorem d_Sp_permute_161 : decode (a_cc M_Sp_permute) 161 = .ok (.iload 7, 2) := by decide +kernel
theorem d_Sp_permute_163 : decode (a_cc M_Sp_permute) 163 = .ok (.iaload, 1) := by decide +kernel
theorem d_Sp_permute_164 : decode (a_cc M_Sp_permute) 164 = .ok (.isub, 1) := by decide +kernel
theorem d_Sp_permute_165 : decode (a_cc M_Sp_permute) 165 = .ok (.lushr, 1) := by decide +kernel
theorem d_Sp_permute_166 : decode (a_cc M_Sp_permute) 166 = .ok (.lor, 1) := by decide +kernel
theorem d_Sp_permute_167 : decode (a_cc M_Sp_permute) 167 = .ok (.lastore, 1) := by decide +kernel
theorem d_Sp_permute_168 : decode (a_cc M_Sp_permute) 168 = .ok (.iinc 7 5, 3) := by decide +kernel
theorem d_Sp_permute_171 : decode (a_cc M_Sp_permute) 171 = .ok (.goto (-55), 3) := by decide +kernel
theorem d_Sp_permute_174 : decode (a_cc M_Sp_permute) 174 = .ok (.iinc 2 1, 3) := by decide +kernel
theorem d_Sp_permute_177 : decode (a_cc M_Sp_permute) 177 = .ok (.goto (-101), 3) := by decide +kernel
theorem d_Sp_permute_180 : decode (a_cc M_Sp_permute) 180 = .ok (.iconst 0, 1) := by decide +kernel
theorem d_Sp_permute_181 : decode (a_cc M_Sp_permute) 181 = .ok (.istore_n 2, 1) := by decide +kernel
theorem d_Sp_permute_182 : decode (a_cc M_Sp_permute) 182 = .ok (.iload_n 2, 1) := by decide +kernel
theorem d_Sp_permute_183 : decode (a_cc M_Sp_permute) 183 = .ok (.bipush 25, 2) := by decide +kernel
theorem d_Sp_permute_185 : decode (a_cc M_Sp_permute) 185 = .ok (.if_icmp .ge 175, 3) := by decide +kernel
theorem d_Sp_permute_188 : decode (a_cc M_Sp_permute) 188 = .ok (.aload_n 0, 1) := by decide +kernel
theorem d_Sp_permute_189 : decode (a_cc M_Sp_permute) 189 = .ok (.getfield 13, 3) := by decide +kernel
theorem d_Sp_permute_192 : decode (a_cc M_Sp_permute) 192 = .ok (.iload_n 2, 1) := by decide +kernel
theorem d_Sp_permute_193 : decode (a_cc M_Sp_permute) 193 = .ok (.laload, 1) := by decide +kernel
theorem d_Sp_permute_194 : decode (a_cc M_Sp_permute) 194 = .ok (.lstore_n 3, 1) := by decide +kernel
theorem d_Sp_permute_195 : decode (a_cc M_Sp_permute) 195 = .ok (.aload_n 0, 1) := by decide +kernel
theorem d_Sp_permute_196 : decode (a_cc M_Sp_permute) 196 = .ok (.getfield 13, 3) := by decide +kernel
theorem d_Sp_permute_199 : decode (a_cc M_Sp_permute) 199 = .ok (.iload_n 2, 1) := by decide +kernel
theorem d_Sp_permute_200 : decode (a_cc M_Sp_permute) 200 = .ok (.iconst 1, 1) := by decide +kernel
theorem d_Sp_permute_201 : decode (a_cc M_Sp_permute) 201 = .ok (.iadd, 1) := by decide +kernel
theorem d_Sp_permute_202 : decode (a_cc M_Sp_permute) 202 = .ok (.laload, 1) := by decide +kernel
theorem d_Sp_permute_203 : decode (a_cc M_Sp_permute) 203 = .ok (.lstore 5, 2) := by decide +kernel
theorem d_Sp_permute_205 : decode (a_cc M_Sp_permute) 205 = .ok (.aload_n 0, 1) := by decide +kernel
theorem d_Sp_permute_206 : decode (a_cc M_Sp_permute) 206 = .ok (.getfield 9, 3) := by decide +kernel
theorem d_Sp_permute_209 : decode (a_cc M_Sp_permute) 209 = .ok (.iload_n 2, 1) := by decide +kernel
theorem d_Sp_permute_210 : decode (a_cc M_Sp_permute) 210 = .ok (.lload_n 3, 1) := by decide +kernel
theorem d_Sp_permute_211 : decode (a_cc M_Sp_permute) 211 = .ok (.lload 5, 2) := by decide +kernel
theorem d_Sp_permute_213 : decode (a_cc M_Sp_permute) 213 = .ok (.ldc2_w 68, 3) := by decide +kernel
theorem d_Sp_permute_216 : decode (a_cc M_Sp_permute) 216 = .ok (.lxor, 1) := by decide +kernel
theorem d_Sp_permute_217 : decode (a_cc M_Sp_permute) 217 = .ok (.aload_n 0, 1) := by decide +kernel
theorem d_Sp_permute_218 : decode (a_cc M_Sp_permute) 218 = .ok (.getfield 13, 3) := by decide +kernel
theorem d_Sp_permute_221 : decode (a_cc M_Sp_permute) 221 = .ok (.iload_n 2, 1) := by decide +kernel
theorem d_Sp_permute_222 : decode (a_cc M_Sp_permute) 222 = .ok (.iconst 2, 1) := by decide +kernel
theorem d_Sp_permute_223 : decode (a_cc M_Sp_permute) 223 = .ok (.iadd, 1) := by decide +kernel
theorem d_Sp_permute_224 : decode (a_cc M_Sp_permute) 224 = .ok (.laload, 1) := by decide +kernel
theorem d_Sp_permute_225 : decode (a_cc M_Sp_permute) 225 = .ok (.land, 1) := by decide +kernel
theorem d_Sp_permute_226 : decode (a_cc M_Sp_permute) 226 = .ok (.lxor, 1) := by decide +kernel
theorem d_Sp_permute_227 : decode (a_cc M_Sp_permute) 227 = .ok (.lastore, 1) := by decide +kernel
theorem d_Sp_permute_228 : decode (a_cc M_Sp_permute) 228 = .ok (.aload_n 0, 1) := by decide +kernel
theorem d_Sp_permute_229 : decode (a_cc M_Sp_permute) 229 = .ok (.getfield 9, 3) := by decide +kernel
theorem d_Sp_permute_232 : decode (a_cc M_Sp_permute) 232 = .ok (.iload_n 2, 1) := by decide +kernel
theorem d_Sp_permute_233 : decode (a_cc M_Sp_permute) 233 = .ok (.iconst 1, 1) := by decide +kernel
theorem d_Sp_permute_234 : decode (a_cc M_Sp_permute) 234 = .ok (.iadd, 1) := by decide +kernel
theorem d_Sp_permute_235 : decode (a_cc M_Sp_permute) 235 = .ok (.lload 5, 2) := by decide +kernel
theorem d_Sp_permute_237 : decode (a_cc M_Sp_permute) 237 = .ok (.aload_n 0, 1) := by decide +kernel
theorem d_Sp_permute_238 : decode (a_cc M_Sp_permute) 238 = .ok (.getfield 13, 3) := by decide +kernel
theorem d_Sp_permute_241 : decode (a_cc M_Sp_permute) 241 = .ok (.iload_n 2, 1) := by decide +kernel
theorem d_Sp_permute_242 : decode (a_cc M_Sp_permute) 242 = .ok (.iconst 2, 1) := by decide +kernel
theorem d_Sp_permute_243 : decode (a_cc M_Sp_permute) 243 = .ok (.iadd, 1) := by decide +kernel
theorem d_Sp_permute_244 : decode (a_cc M_Sp_permute) 244 = .ok (.laload, 1) := by decide +kernel
theorem d_Sp_permute_245 : decode (a_cc M_Sp_permute) 245 = .ok (.ldc2_w 68, 3) := by decide +kernel
theorem d_Sp_permute_248 : decode (a_cc M_Sp_permute) 248 = .ok (.lxor, 1) := by decide +kernel
theorem d_Sp_permute_249 : decode (a_cc M_Sp_permute) 249 = .ok (.aload_n 0, 1) := by decide +kernel
theorem d_Sp_permute_250 : decode (a_cc M_Sp_permute) 250 = .ok (.getfield 13, 3) := by decide +kernel
theorem d_Sp_permute_253 : decode (a_cc M_Sp_permute) 253 = .ok (.iload_n 2, 1) := by decide +kernel
theorem d_Sp_permute_254 : decode (a_cc M_Sp_permute) 254 = .ok (.iconst 3, 1) := by decide +kernel
theorem d_Sp_permute_255 : decode (a_cc M_Sp_permute) 255 = .ok (.iadd, 1) := by decide +kernel
theorem d_Sp_permute_256 : decode (a_cc M_Sp_permute) 256 = .ok (.laload, 1) := by decide +kernel
theorem d_Sp_permute_257 : decode (a_cc M_Sp_permute) 257 = .ok (.land, 1) := by decide +kernel
theorem d_Sp_permute_258 : decode (a_cc M_Sp_permute) 258 = .ok (.lxor, 1) := by decide +kernel
theorem d_Sp_permute_259 : decode (a_cc M_Sp_permute) 259 = .ok (.lastore, 1) := by decide +kernel
theorem d_Sp_permute_260 : decode (a_cc M_Sp_permute) 260 = .ok (.aload_n 0, 1) := by decide +kernel
theorem d_Sp_permute_261 : decode (a_cc M_Sp_permute) 261 = .ok (.getfield 9, 3) := by decide +kernel
theorem d_Sp_permute_264 : decode (a_cc M_Sp_permute) 264 = .ok (.iload_n 2, 1) := by decide +kernel
theorem d_Sp_permute_265 : decode (a_cc M_Sp_permute) 265 = .ok (.iconst 2, 1) := by decide +kernel
theorem d_Sp_permute_266 : decode (a_cc M_Sp_permute) 266 = .ok (.iadd, 1) := by decide +kernel
theorem d_Sp_permute_267 : decode (a_cc M_Sp_permute) 267 = .ok (.aload_n 0, 1) := by decide +kernel
theorem d_Sp_permute_268 : decode (a_cc M_Sp_permute) 268 = .ok (.getfield 13, 3) := by decide +kernel
theorem d_Sp_permute_271 : decode (a_cc M_Sp_permute) 271 = .ok (.iload_n 2, 1) := by decide +kernel
theorem d_Sp_permute_272 : decode (a_cc M_Sp_permute) 272 = .ok (.iconst 2, 1) := by decide +kernel
theorem d_Sp_permute_273 : decode (a_cc M_Sp_permute) 273 = .ok (.iadd, 1) := by decide +kernel
theorem d_Sp_permute_274 : decode (a_cc M_Sp_permute) 274 = .ok (.laload, 1) := by decide +kernel
theorem d_Sp_permute_275 : decode (a_cc M_Sp_permute) 275 = .ok (.aload_n 0, 1) := by decide +kernel
theorem d_Sp_permute_276 : decode (a_cc M_Sp_permute) 276 = .ok (.getfield 13, 3) := by decide +kernel
theorem d_Sp_permute_279 : decode (a_cc M_Sp_permute) 279 = .ok (.iload_n 2, 1) := by decide +kernel
theorem d_Sp_permute_280 : decode (a_cc M_Sp_permute) 280 = .ok (.iconst 3, 1) := by decide +kernel
theorem d_Sp_permute_281 : decode (a_cc M_Sp_permute) 281 = .ok (.iadd, 1) := by decide +kernel
theorem d_Sp_permute_282 : decode (a_cc M_Sp_permute) 282 = .ok (.laload, 1) := by decide +kernel
theorem d_Sp_permute_283 : decode (a_cc M_Sp_permute) 283 = .ok (.ldc2_w 68, 3) := by decide +kernel
theorem d_Sp_permute_286 : decode (a_cc M_Sp_permute) 286 = .ok (.lxor, 1) := by decide +kernel
theorem d_Sp_permute_287 : decode (a_cc M_Sp_permute) 287 = .ok (.aload_n 0, 1) := by decide +kernel
theorem d_Sp_permute_288 : decode (a_cc M_Sp_permute) 288 = .ok (.getfield 13, 3) := by decide +kernel
theorem d_Sp_permute_291 : decode (a_cc M_Sp_permute) 291 = .ok (.iload_n 2, 1) := by decide +kernel
theorem d_Sp_permute_292 : decode (a_cc M_Sp_permute) 292 = .ok (.iconst 4, 1) := by decide +kernel
theorem d_Sp_permute_293 : decode (a_cc M_Sp_permute) 293 = .ok (.iadd, 1) := by decide +kernel
theorem d_Sp_permute_294 : decode (a_cc M_Sp_permute) 294 = .ok (.laload, 1) := by decide +kernel
theorem d_Sp_permute_295 : decode (a_cc M_Sp_permute) 295 = .ok (.land, 1) := by decide +kernel
theorem d_Sp_permute_296 : decode (a_cc M_Sp_permute) 296 = .ok (.lxor, 1) := by decide +kernel
theorem d_Sp_permute_297 : decode (a_cc M_Sp_permute) 297 = .ok (.lastore, 1) := by decide +kernel
theorem d_Sp_permute_298 : decode (a_cc M_Sp_permute) 298 = .ok (.aload_n 0, 1) := by decide +kernel
theorem d_Sp_permute_299 : decode (a_cc M_Sp_permute) 299 = .ok (.getfield 9, 3) := by decide +kernel
theorem d_Sp_permute_302 : decode (a_cc M_Sp_permute) 302 = .ok (.iload_n 2, 1) := by decide +kernel
theorem d_Sp_permute_303 : decode (a_cc M_Sp_permute) 303 = .ok (.iconst 3, 1) := by decide +kernel
theorem d_Sp_permute_304 : decode (a_cc M_Sp_permute) 304 = .ok (.iadd, 1) := by decide +kernel
theorem d_Sp_permute_305 : decode (a_cc M_Sp_permute) 305 = .ok (.aload_n 0, 1) := by decide +kernel
theorem d_Sp_permute_306 : decode (a_cc M_Sp_permute) 306 = .ok (.getfield 13, 3) := by decide +kernel
theorem d_Sp_permute_309 : decode (a_cc M_Sp_permute) 309 = .ok (.iload_n 2, 1) := by decide +kernel
theorem d_Sp_permute_310 : decode (a_cc M_Sp_permute) 310 = .ok (.iconst 3, 1) := by decide +kernel
theorem d_Sp_permute_311 : decode (a_cc M_Sp_permute) 311 = .ok (.iadd, 1) := by decide +kernel
theorem d_Sp_permute_312 : decode (a_cc M_Sp_permute) 312 = .ok (.laload, 1) := by decide +kernel
theorem d_Sp_permute_313 : decode (a_cc M_Sp_permute) 313 = .ok (.aload_n 0, 1) := by decide +kernel
theorem d_Sp_permute_314 : decode (a_cc M_Sp_permute) 314 = .ok (.getfield 13, 3) := by decide +kernel
theorem d_Sp_permute_317 : decode (a_cc M_Sp_permute) 317 = .ok (.iload_n 2, 1) := by decide +kernel
theorem d_Sp_permute_318 : decode (a_cc M_Sp_permute) 318 = .ok (.iconst 4, 1) := by decide +kernel
theorem d_Sp_permute_319 : decode (a_cc M_Sp_permute) 319 = .ok (.iadd, 1) := by decide +kernel
theorem d_Sp_permute_320 : decode (a_cc M_Sp_permute) 320 = .ok (.laload, 1) := by decide +kernel
theorem d_Sp_permute_321 : decode (a_cc M_Sp_permute) 321 = .ok (.ldc2_w 68, 3) := by decide +kernel
theorem d_Sp_permute_324 : decode (a_cc M_Sp_permute) 324 = .ok (.lxor, 1) := by decide +kernel
theorem d_Sp_permute_325 : decode (a_cc M_Sp_permute) 325 = .ok (.lload_n 3, 1) := by decide +kernel
theorem d_Sp_permute_326 : decode (a_cc M_Sp_permute) 326 = .ok (.land, 1) := by decide +kernel
theorem d_Sp_permute_327 : decode (a_cc M_Sp_permute) 327 = .ok (.lxor, 1) := by decide +kernel
theorem d_Sp_permute_328 : decode (a_cc M_Sp_permute) 328 = .ok (.lastore, 1) := by decide +kernel
theorem d_Sp_permute_329 : decode (a_cc M_Sp_permute) 329 = .ok (.aload_n 0, 1) := by decide +kernel
theorem d_Sp_permute_330 : decode (a_cc M_Sp_permute) 330 = .ok (.getfield 9, 3) := by decide +kernel
theorem d_Sp_permute_333 : decode (a_cc M_Sp_permute) 333 = .ok (.iload_n 2, 1) := by decide +kernel
theorem d_Sp_permute_334 : decode (a_cc M_Sp_permute) 334 = .ok (.iconst 4, 1) := by decide +kernel
theorem d_Sp_permute_335 : decode (a_cc M_Sp_permute) 335 = .ok (.iadd, 1) := by decide +kernel
theorem d_Sp_permute_336 : decode (a_cc M_Sp_permute) 336 = .ok (.aload_n 0, 1) := by decide +kernel
theorem d_Sp_permute_337 : decode (a_cc M_Sp_permute) 337 = .ok (.getfield 13, 3) := by decide +kernel
theorem d_Sp_permute_340 : decode (a_cc M_Sp_permute) 340 = .ok (.iload_n 2, 1) := by decide +kernel
theorem d_Sp_permute_341 : decode (a_cc M_Sp_permute) 341 = .ok (.iconst 4, 1) := by decide +kernel
theorem d_Sp_permute_342 : decode (a_cc M_Sp_permute) 342 = .ok (.iadd, 1) := by decide +kernel
theorem d_Sp_permute_343 : decode (a_cc M_Sp_permute) 343 = .ok (.laload, 1) := by decide +kernel
theorem d_Sp_permute_344 : decode (a_cc M_Sp_permute) 344 = .ok (.lload_n 3, 1) := by decide +kernel
theorem d_Sp_permute_345 : decode (a_cc M_Sp_permute) 345 = .ok (.ldc2_w 68, 3) := by decide +kernel
theorem d_Sp_permute_348 : decode (a_cc M_Sp_permute) 348 = .ok (.lxor, 1) := by decide +kernel
theorem d_Sp_permute_349 : decode (a_cc M_Sp_permute) 349 = .ok (.lload 5, 2) := by decide +kernel
theorem d_Sp_permute_351 : decode (a_cc M_Sp_permute) 351 = .ok (.land, 1) := by decide +kernel
theorem d_Sp_permute_352 : decode (a_cc M_Sp_permute) 352 = .ok (.lxor, 1) := by decide +kernel
theorem d_Sp_permute_353 : decode (a_cc M_Sp_permute) 353 = .ok (.lastore, 1) := by decide +kernel
theorem d_Sp_permute_354 : decode (a_cc M_Sp_permute) 354 = .ok (.iinc 2 5, 3) := by decide +kernel
theorem d_Sp_permute_357 : decode (a_cc M_Sp_permute) 357 = .ok (.goto (-175), 3) := by decide +kernel
theorem d_Sp_permute_360 : decode (a_cc M_Sp_permute) 360 = .ok (.aload_n 0, 1) := by decide +kernel
theorem d_Sp_permute_361 : decode (a_cc M_Sp_permute) 361 = .ok (.getfield 9, 3) := by decide +kernel
theorem d_Sp_permute_364 : decode (a_cc M_Sp_permute) 364 = .ok (.iconst 0, 1) := by decide +kernel
theorem d_Sp_permute_365 : decode (a_cc M_Sp_permute) 365 = .ok (.dup2, 1) := by decide +kernel
theorem d_Sp_permute_366 : decode (a_cc M_Sp_permute) 366 = .ok (.laload, 1) := by decide +kernel
theorem d_Sp_permute_367 : decode (a_cc M_Sp_permute) 367 = .ok (.getstatic 58, 3) := by decide +kernel
theorem d_Sp_permute_370 : decode (a_cc M_Sp_permute) 370 = .ok (.iload_n 1, 1) := by decide +kernel
theorem d_Sp_permute_371 : decode (a_cc M_Sp_permute) 371 = .ok (.laload, 1) := by decide +kernel
theorem d_Sp_permute_372 : decode (a_cc M_Sp_permute) 372 = .ok (.lxor, 1) := by decide +kernel
theorem d_Sp_permute_373 : decode (a_cc M_Sp_permute) 373 = .ok (.lastore, 1) := by decide +kernel
theorem d_Sp_permute_374 : decode (a_cc M_Sp_permute) 374 = .ok (.iinc 1 1, 3) := by decide +kernel
theorem d_Sp_permute_377 : decode (a_cc M_Sp_permute) 377 = .ok (.goto (-375), 3) := by decide +kernel
theorem d_Sp_permute_380 : decode (a_cc M_Sp_permute) 380 = .ok (.return_, 1) := by decide +kernel
theorem gs_Sp_58 : Cond.fieldLink "ModuleSigner$Sponge" 58 (a_sn 8).1 (a_sn 8).2.1 (a_sn 8).2.2 ∈ lw_tbl := List.mem_append_right _ (List.mem_of_getElem? (i := 629) (by decide +kernel))
theorem gs_Sp_61 : Cond.fieldLink "ModuleSigner$Sponge" 61 (a_sn 9).1 (a_sn 9).2.1 (a_sn 9).2.2 ∈ lw_tbl := List.mem_append_right _ (List.mem_of_getElem? (i := 631) (by decide +kernel))
theorem gs_Sp_65 : Cond.fieldLink "ModuleSigner$Sponge" 65 (a_sn 10).1 (a_sn 10).2.1 (a_sn 10).2.2 ∈ lw_tbl := List.mem_append_right _ (List.mem_of_getElem? (i := 633) (by decide +kernel))
theorem lc_Sp_68 : Cond.constantLong "ModuleSigner$Sponge" 68 (Int64.ofInt (-1)) ∈ lw_tbl := List.mem_append_right _ (List.mem_of_getElem? (i := 635) (by decide +kernel))
def M_Sp_take : a_M := (⟨"ModuleSigner$Sponge", "take", "(I)V"⟩, prog_9_method_5_code, 2, none, "ModuleSigner$Sponge", 1, 21, [])
theorem ok_Sp_take : a_Ok M_Sp_take := ⟨rfl, by decide +kernel, ⟨by decide, by decide⟩, List.mem_append_right _ (List.mem_of_getElem? (i := 7) (by decide +kernel)), Or.inl ⟨rfl, List.mem_append_right _ (List.mem_of_getElem? (i := 619) (by decide +kernel))⟩⟩
theorem d_Sp_take_0 : decode (a_cc M_Sp_take) 0 = .ok (.aload_n 0, 1) := by decide +kernel
theorem d_Sp_take_1 : decode (a_cc M_Sp_take) 1 = .ok (.aload_n 0, 1) := by decide +kernel
theorem d_Sp_take_2 : decode (a_cc M_Sp_take) 2 = .ok (.getfield 23, 3) := by decide +kernel
theorem d_Sp_take_5 : decode (a_cc M_Sp_take) 5 = .ok (.iload_n 1, 1) := by decide +kernel
theorem d_Sp_take_6 : decode (a_cc M_Sp_take) 6 = .ok (.invokevirtual 30, 3) := by decide +kernel
theorem d_Sp_take_9 : decode (a_cc M_Sp_take) 9 = .ok (.aload_n 0, 1) := by decide +kernel
theorem d_Sp_take_10 : decode (a_cc M_Sp_take) 10 = .ok (.dup, 1) := by decide +kernel
theorem d_Sp_take_11 : decode (a_cc M_Sp_take) 11 = .ok (.getfield 23, 3) := by decide +kernel
theorem d_Sp_take_14 : decode (a_cc M_Sp_take) 14 = .ok (.iconst 1, 1) := by decide +kernel
theorem d_Sp_take_15 : decode (a_cc M_Sp_take) 15 = .ok (.iadd, 1) := by decide +kernel
theorem d_Sp_take_16 : decode (a_cc M_Sp_take) 16 = .ok (.putfield 23, 3) := by decide +kernel
theorem d_Sp_take_19 : decode (a_cc M_Sp_take) 19 = .ok (.aload_n 0, 1) := by decide +kernel
theorem d_Sp_take_20 : decode (a_cc M_Sp_take) 20 = .ok (.getfield 23, 3) := by decide +kernel
theorem d_Sp_take_23 : decode (a_cc M_Sp_take) 23 = .ok (.aload_n 0, 1) := by decide +kernel
theorem d_Sp_take_24 : decode (a_cc M_Sp_take) 24 = .ok (.getfield 19, 3) := by decide +kernel
theorem d_Sp_take_27 : decode (a_cc M_Sp_take) 27 = .ok (.if_icmp .lt 12, 3) := by decide +kernel
theorem d_Sp_take_30 : decode (a_cc M_Sp_take) 30 = .ok (.aload_n 0, 1) := by decide +kernel
theorem d_Sp_take_31 : decode (a_cc M_Sp_take) 31 = .ok (.invokevirtual 34, 3) := by decide +kernel
theorem d_Sp_take_34 : decode (a_cc M_Sp_take) 34 = .ok (.aload_n 0, 1) := by decide +kernel
theorem d_Sp_take_35 : decode (a_cc M_Sp_take) 35 = .ok (.iconst 0, 1) := by decide +kernel
theorem d_Sp_take_36 : decode (a_cc M_Sp_take) 36 = .ok (.putfield 23, 3) := by decide +kernel
theorem d_Sp_take_39 : decode (a_cc M_Sp_take) 39 = .ok (.return_, 1) := by decide +kernel
theorem cs_Sp_take_6 : a_CV M_Sp_take M_Sp_mixIn 30 7 3 0 2 := ⟨⟨ok_Sp_mixIn, by decide, by decide, by decide⟩, by decide, rfl, List.mem_append_right _ (List.mem_of_getElem? (i := 620) (by decide +kernel)), List.mem_append_right _ (List.mem_of_getElem? (i := 622) (by decide +kernel)), List.mem_append_left _ (List.mem_of_getElem? (i := 4) (by decide +kernel)), by decide +kernel⟩
theorem cs_Sp_take_31 : a_CV M_Sp_take M_Sp_permute 34 7 1 0 0 := ⟨⟨ok_Sp_permute, by decide, by decide, by decide⟩, by decide, rfl, List.mem_append_right _ (List.mem_of_getElem? (i := 625) (by decide +kernel)), List.mem_append_right _ (List.mem_of_getElem? (i := 627) (by decide +kernel)), List.mem_append_left _ (List.mem_of_getElem? (i := 5) (by decide +kernel)), by decide +kernel⟩
def M_Sp_takePart : a_M := (⟨"ModuleSigner$Sponge", "takePart", "(LModuleSigner$Bytes;II)V"⟩, prog_9_method_6_code, 5, none, "ModuleSigner$Sponge", 2, 34, [])
theorem ok_Sp_takePart : a_Ok M_Sp_takePart := ⟨rfl, by decide +kernel, ⟨by decide, by decide⟩, List.mem_append_right _ (List.mem_of_getElem? (i := 7) (by decide +kernel)), Or.inl ⟨rfl, List.mem_append_right _ (List.mem_of_getElem? (i := 614) (by decide +kernel))⟩⟩
theorem d_Sp_takePart_0 : decode (a_cc M_Sp_takePart) 0 = .ok (.iconst 0, 1) := by decide +kernel
theorem d_Sp_takePart_1 : decode (a_cc M_Sp_takePart) 1 = .ok (.istore 4, 2) := by decide +kernel
theorem d_Sp_takePart_3 : decode (a_cc M_Sp_takePart) 3 = .ok (.iload 4, 2) := by decide +kernel
theorem d_Sp_takePart_5 : decode (a_cc M_Sp_takePart) 5 = .ok (.iload_n 3, 1) := by decide +kernel
theorem d_Sp_takePart_6 : decode (a_cc M_Sp_takePart) 6 = .ok (.if_icmp .ge 21, 3) := by decide +kernel
theorem d_Sp_takePart_9 : decode (a_cc M_Sp_takePart) 9 = .ok (.aload_n 0, 1) := by decide +kernel
theorem d_Sp_takePart_10 : decode (a_cc M_Sp_takePart) 10 = .ok (.aload_n 1, 1) := by decide +kernel
theorem d_Sp_takePart_11 : decode (a_cc M_Sp_takePart) 11 = .ok (.iload_n 2, 1) := by decide +kernel
theorem d_Sp_takePart_12 : decode (a_cc M_Sp_takePart) 12 = .ok (.iload 4, 2) := by decide +kernel
theorem d_Sp_takePart_14 : decode (a_cc M_Sp_takePart) 14 = .ok (.iadd, 1) := by decide +kernel
theorem d_Sp_takePart_15 : decode (a_cc M_Sp_takePart) 15 = .ok (.invokevirtual 37, 3) := by decide +kernel
theorem d_Sp_takePart_18 : decode (a_cc M_Sp_takePart) 18 = .ok (.invokevirtual 43, 3) := by decide +kernel
theorem d_Sp_takePart_21 : decode (a_cc M_Sp_takePart) 21 = .ok (.iinc 4 1, 3) := by decide +kernel
theorem d_Sp_takePart_24 : decode (a_cc M_Sp_takePart) 24 = .ok (.goto (-21), 3) := by decide +kernel
theorem d_Sp_takePart_27 : decode (a_cc M_Sp_takePart) 27 = .ok (.return_, 1) := by decide +kernel
theorem cs_Sp_takePart_15 : a_CV M_Sp_takePart M_By_at 37 1 2 1 1 := ⟨⟨ok_By_at, by decide, by decide, by decide⟩, by decide, rfl, List.mem_append_right _ (List.mem_of_getElem? (i := 615) (by decide +kernel)), List.mem_append_right _ (List.mem_of_getElem? (i := 537) (by decide +kernel)), List.mem_append_right _ (List.mem_of_getElem? (i := 538) (by decide +kernel)), by decide +kernel⟩
theorem cs_Sp_takePart_18 : a_CV M_Sp_takePart M_Sp_take 43 7 2 0 1 := ⟨⟨ok_Sp_take, by decide, by decide, by decide⟩, by decide, rfl, List.mem_append_right _ (List.mem_of_getElem? (i := 616) (by decide +kernel)), List.mem_append_right _ (List.mem_of_getElem? (i := 617) (by decide +kernel)), List.mem_append_right _ (List.mem_of_getElem? (i := 618) (by decide +kernel)), by decide +kernel⟩
def M_Sp_turn : a_M := (⟨"ModuleSigner$Sponge", "turn", "()V"⟩, prog_9_method_7_code, 1, none, "ModuleSigner$Sponge", 1, 21, [])
theorem ok_Sp_turn : a_Ok M_Sp_turn := ⟨rfl, by decide +kernel, ⟨by decide, by decide⟩, List.mem_append_right _ (List.mem_of_getElem? (i := 7) (by decide +kernel)), Or.inl ⟨rfl, List.mem_append_right _ (List.mem_of_getElem? (i := 640) (by decide +kernel))⟩⟩
theorem d_Sp_turn_0 : decode (a_cc M_Sp_turn) 0 = .ok (.aload_n 0, 1) := by decide +kernel
theorem d_Sp_turn_1 : decode (a_cc M_Sp_turn) 1 = .ok (.aload_n 0, 1) := by decide +kernel
theorem d_Sp_turn_2 : decode (a_cc M_Sp_turn) 2 = .ok (.getfield 23, 3) := by decide +kernel
theorem d_Sp_turn_5 : decode (a_cc M_Sp_turn) 5 = .ok (.bipush 31, 2) := by decide +kernel
theorem d_Sp_turn_7 : decode (a_cc M_Sp_turn) 7 = .ok (.invokevirtual 30, 3) := by decide +kernel
theorem d_Sp_turn_10 : decode (a_cc M_Sp_turn) 10 = .ok (.aload_n 0, 1) := by decide +kernel
theorem d_Sp_turn_11 : decode (a_cc M_Sp_turn) 11 = .ok (.aload_n 0, 1) := by decide +kernel
theorem d_Sp_turn_12 : decode (a_cc M_Sp_turn) 12 = .ok (.getfield 19, 3) := by decide +kernel
theorem d_Sp_turn_15 : decode (a_cc M_Sp_turn) 15 = .ok (.iconst 1, 1) := by decide +kernel
theorem d_Sp_turn_16 : decode (a_cc M_Sp_turn) 16 = .ok (.isub, 1) := by decide +kernel
theorem d_Sp_turn_17 : decode (a_cc M_Sp_turn) 17 = .ok (.sipush 128, 3) := by decide +kernel
theorem d_Sp_turn_20 : decode (a_cc M_Sp_turn) 20 = .ok (.invokevirtual 30, 3) := by decide +kernel
theorem d_Sp_turn_23 : decode (a_cc M_Sp_turn) 23 = .ok (.aload_n 0, 1) := by decide +kernel
theorem d_Sp_turn_24 : decode (a_cc M_Sp_turn) 24 = .ok (.invokevirtual 34, 3) := by decide +kernel
theorem d_Sp_turn_27 : decode (a_cc M_Sp_turn) 27 = .ok (.aload_n 0, 1) := by decide +kernel
theorem d_Sp_turn_28 : decode (a_cc M_Sp_turn) 28 = .ok (.iconst 0, 1) := by decide +kernel
theorem d_Sp_turn_29 : decode (a_cc M_Sp_turn) 29 = .ok (.putfield 23, 3) := by decide +kernel
theorem d_Sp_turn_32 : decode (a_cc M_Sp_turn) 32 = .ok (.return_, 1) := by decide +kernel
theorem cs_Sp_turn_7 : a_CV M_Sp_turn M_Sp_mixIn 30 7 3 0 2 := ⟨⟨ok_Sp_mixIn, by decide, by decide, by decide⟩, by decide, rfl, List.mem_append_right _ (List.mem_of_getElem? (i := 620) (by decide +kernel)), List.mem_append_right _ (List.mem_of_getElem? (i := 622) (by decide +kernel)), List.mem_append_left _ (List.mem_of_getElem? (i := 4) (by decide +kernel)), by decide +kernel⟩
theorem cs_Sp_turn_20 : a_CV M_Sp_turn M_Sp_mixIn 30 7 3 0 2 := ⟨⟨ok_Sp_mixIn, by decide, by decide, by decide⟩, by decide, rfl, List.mem_append_right _ (List.mem_of_getElem? (i := 620) (by decide +kernel)), List.mem_append_right _ (List.mem_of_getElem? (i := 622) (by decide +kernel)), List.mem_append_left _ (List.mem_of_getElem? (i := 4) (by decide +kernel)), by decide +kernel⟩
theorem cs_Sp_turn_24 : a_CV M_Sp_turn M_Sp_permute 34 7 1 0 0 := ⟨⟨ok_Sp_permute, by decide, by decide, by decide⟩, by decide, rfl, List.mem_append_right _ (List.mem_of_getElem? (i := 625) (by decide +kernel)), List.mem_append_right _ (List.mem_of_getElem? (i := 627) (by decide +kernel)), List.mem_append_left _ (List.mem_of_getElem? (i := 5) (by decide +kernel)), by decide +kernel⟩
def M_Sp_give : a_M := (⟨"ModuleSigner$Sponge", "give", "()I"⟩, prog_9_method_8_code, 2, some .int, "ModuleSigner$Sponge", 1, 21, [])
theorem ok_Sp_give : a_Ok M_Sp_give := ⟨rfl, by decide +kernel, ⟨by decide, by decide⟩, List.mem_append_right _ (List.mem_of_getElem? (i := 7) (by decide +kernel)), Or.inl ⟨rfl, List.mem_append_right _ (List.mem_of_getElem? (i := 649) (by decide +kernel))⟩⟩
theorem d_Sp_give_0 : decode (a_cc M_Sp_give) 0 = .ok (.aload_n 0, 1) := by decide +kernel
theorem d_Sp_give_1 : decode (a_cc M_Sp_give) 1 = .ok (.getfield 23, 3) := by decide +kernel
theorem d_Sp_give_4 : decode (a_cc M_Sp_give) 4 = .ok (.aload_n 0, 1) := by decide +kernel
theorem d_Sp_give_5 : decode (a_cc M_Sp_give) 5 = .ok (.getfield 19, 3) := by decide +kernel
theorem d_Sp_give_8 : decode (a_cc M_Sp_give) 8 = .ok (.if_icmp .lt 12, 3) := by decide +kernel
theorem d_Sp_give_11 : decode (a_cc M_Sp_give) 11 = .ok (.aload_n 0, 1) := by decide +kernel
theorem d_Sp_give_12 : decode (a_cc M_Sp_give) 12 = .ok (.invokevirtual 34, 3) := by decide +kernel
theorem d_Sp_give_15 : decode (a_cc M_Sp_give) 15 = .ok (.aload_n 0, 1) := by decide +kernel
theorem d_Sp_give_16 : decode (a_cc M_Sp_give) 16 = .ok (.iconst 0, 1) := by decide +kernel
theorem d_Sp_give_17 : decode (a_cc M_Sp_give) 17 = .ok (.putfield 23, 3) := by decide +kernel
theorem d_Sp_give_20 : decode (a_cc M_Sp_give) 20 = .ok (.aload_n 0, 1) := by decide +kernel
theorem d_Sp_give_21 : decode (a_cc M_Sp_give) 21 = .ok (.getfield 9, 3) := by decide +kernel
theorem d_Sp_give_24 : decode (a_cc M_Sp_give) 24 = .ok (.aload_n 0, 1) := by decide +kernel
theorem d_Sp_give_25 : decode (a_cc M_Sp_give) 25 = .ok (.getfield 23, 3) := by decide +kernel
theorem d_Sp_give_28 : decode (a_cc M_Sp_give) 28 = .ok (.iconst 3, 1) := by decide +kernel
theorem d_Sp_give_29 : decode (a_cc M_Sp_give) 29 = .ok (.ishr, 1) := by decide +kernel
theorem d_Sp_give_30 : decode (a_cc M_Sp_give) 30 = .ok (.laload, 1) := by decide +kernel
theorem d_Sp_give_31 : decode (a_cc M_Sp_give) 31 = .ok (.bipush 8, 2) := by decide +kernel
theorem d_Sp_give_33 : decode (a_cc M_Sp_give) 33 = .ok (.aload_n 0, 1) := by decide +kernel
theorem d_Sp_give_34 : decode (a_cc M_Sp_give) 34 = .ok (.getfield 23, 3) := by decide +kernel
theorem d_Sp_give_37 : decode (a_cc M_Sp_give) 37 = .ok (.bipush 7, 2) := by decide +kernel
theorem d_Sp_give_39 : decode (a_cc M_Sp_give) 39 = .ok (.iand, 1) := by decide +kernel
theorem d_Sp_give_40 : decode (a_cc M_Sp_give) 40 = .ok (.imul, 1) := by decide +kernel
theorem d_Sp_give_41 : decode (a_cc M_Sp_give) 41 = .ok (.lushr, 1) := by decide +kernel
theorem d_Sp_give_42 : decode (a_cc M_Sp_give) 42 = .ok (.l2i, 1) := by decide +kernel
theorem d_Sp_give_43 : decode (a_cc M_Sp_give) 43 = .ok (.sipush 255, 3) := by decide +kernel
theorem d_Sp_give_46 : decode (a_cc M_Sp_give) 46 = .ok (.iand, 1) := by decide +kernel
theorem d_Sp_give_47 : decode (a_cc M_Sp_give) 47 = .ok (.istore_n 1, 1) := by decide +kernel
theorem d_Sp_give_48 : decode (a_cc M_Sp_give) 48 = .ok (.aload_n 0, 1) := by decide +kernel
theorem d_Sp_give_49 : decode (a_cc M_Sp_give) 49 = .ok (.dup, 1) := by decide +kernel
theorem d_Sp_give_50 : decode (a_cc M_Sp_give) 50 = .ok (.getfield 23, 3) := by decide +kernel
theorem d_Sp_give_53 : decode (a_cc M_Sp_give) 53 = .ok (.iconst 1, 1) := by decide +kernel
theorem d_Sp_give_54 : decode (a_cc M_Sp_give) 54 = .ok (.iadd, 1) := by decide +kernel
theorem d_Sp_give_55 : decode (a_cc M_Sp_give) 55 = .ok (.putfield 23, 3) := by decide +kernel
theorem d_Sp_give_58 : decode (a_cc M_Sp_give) 58 = .ok (.iload_n 1, 1) := by decide +kernel
theorem d_Sp_give_59 : decode (a_cc M_Sp_give) 59 = .ok (.ireturn, 1) := by decide +kernel
theorem cs_Sp_give_12 : a_CV M_Sp_give M_Sp_permute 34 7 1 0 0 := ⟨⟨ok_Sp_permute, by decide, by decide, by decide⟩, by decide, rfl, List.mem_append_right _ (List.mem_of_getElem? (i := 625) (by decide +kernel)), List.mem_append_right _ (List.mem_of_getElem? (i := 627) (by decide +kernel)), List.mem_append_left _ (List.mem_of_getElem? (i := 5) (by decide +kernel)), by decide +kernel⟩
def M_Sp_giveTo : a_M := (⟨"ModuleSigner$Sponge", "giveTo", "(LModuleSigner$Bytes;I)V"⟩, prog_9_method_9_code, 4, none, "ModuleSigner$Sponge", 2, 35, [])
theorem ok_Sp_giveTo : a_Ok M_Sp_giveTo := ⟨rfl, by decide +kernel, ⟨by decide, by decide⟩, List.mem_append_right _ (List.mem_of_getElem? (i := 7) (by decide +kernel)), Or.inl ⟨rfl, List.mem_append_right _ (List.mem_of_getElem? (i := 644) (by decide +kernel))⟩⟩
theorem d_Sp_giveTo_0 : decode (a_cc M_Sp_giveTo) 0 = .ok (.aload_n 1, 1) := by decide +kernel
theorem d_Sp_giveTo_1 : decode (a_cc M_Sp_giveTo) 1 = .ok (.invokevirtual 46, 3) := by decide +kernel
theorem d_Sp_giveTo_4 : decode (a_cc M_Sp_giveTo) 4 = .ok (.iconst 0, 1) := by decide +kernel
theorem d_Sp_giveTo_5 : decode (a_cc M_Sp_giveTo) 5 = .ok (.istore_n 3, 1) := by decide +kernel
theorem d_Sp_giveTo_6 : decode (a_cc M_Sp_giveTo) 6 = .ok (.iload_n 3, 1) := by decide +kernel
theorem d_Sp_giveTo_7 : decode (a_cc M_Sp_giveTo) 7 = .ok (.iload_n 2, 1) := by decide +kernel
theorem d_Sp_giveTo_8 : decode (a_cc M_Sp_giveTo) 8 = .ok (.if_icmp .ge 17, 3) := by decide +kernel
theorem d_Sp_giveTo_11 : decode (a_cc M_Sp_giveTo) 11 = .ok (.aload_n 1, 1) := by decide +kernel
theorem d_Sp_giveTo_12 : decode (a_cc M_Sp_giveTo) 12 = .ok (.aload_n 0, 1) := by decide +kernel
theorem d_Sp_giveTo_13 : decode (a_cc M_Sp_giveTo) 13 = .ok (.invokevirtual 49, 3) := by decide +kernel
theorem d_Sp_giveTo_16 : decode (a_cc M_Sp_giveTo) 16 = .ok (.invokevirtual 53, 3) := by decide +kernel
theorem d_Sp_giveTo_19 : decode (a_cc M_Sp_giveTo) 19 = .ok (.iinc 3 1, 3) := by decide +kernel
theorem d_Sp_giveTo_22 : decode (a_cc M_Sp_giveTo) 22 = .ok (.goto (-16), 3) := by decide +kernel
theorem d_Sp_giveTo_25 : decode (a_cc M_Sp_giveTo) 25 = .ok (.return_, 1) := by decide +kernel
theorem cs_Sp_giveTo_1 : a_CV M_Sp_giveTo M_By_clear 46 1 1 0 0 := ⟨⟨ok_By_clear, by decide, by decide, by decide⟩, by decide, rfl, List.mem_append_right _ (List.mem_of_getElem? (i := 645) (by decide +kernel)), List.mem_append_right _ (List.mem_of_getElem? (i := 502) (by decide +kernel)), List.mem_append_right _ (List.mem_of_getElem? (i := 503) (by decide +kernel)), by decide +kernel⟩
theorem cs_Sp_giveTo_13 : a_CV M_Sp_giveTo M_Sp_give 49 7 1 1 0 := ⟨⟨ok_Sp_give, by decide, by decide, by decide⟩, by decide, rfl, List.mem_append_right _ (List.mem_of_getElem? (i := 646) (by decide +kernel)), List.mem_append_right _ (List.mem_of_getElem? (i := 647) (by decide +kernel)), List.mem_append_right _ (List.mem_of_getElem? (i := 648) (by decide +kernel)), by decide +kernel⟩
theorem cs_Sp_giveTo_16 : a_CV M_Sp_giveTo M_By_add 53 1 2 0 1 := ⟨⟨ok_By_add, by decide, by decide, by decide⟩, by decide, rfl, List.mem_append_right _ (List.mem_of_getElem? (i := 650) (by decide +kernel)), List.mem_append_right _ (List.mem_of_getElem? (i := 456) (by decide +kernel)), List.mem_append_right _ (List.mem_of_getElem? (i := 457) (by decide +kernel)), by decide +kernel⟩
def M_KM_drawSeeds : a_M := (⟨"ModuleSigner$KeyMaker", "drawSeeds", "(LModuleSigner$Bytes;LModuleSigner$Parameters;)V"⟩, prog_4_method_3_code, 3, none, "ModuleSigner$KeyMaker", 3, 50, [])
theorem ok_KM_drawSeeds : a_Ok M_KM_drawSeeds := ⟨rfl, by decide +kernel, ⟨by decide, by decide⟩, List.mem_append_right _ (List.mem_of_getElem? (i := 8) (by decide +kernel)), Or.inl ⟨rfl, List.mem_append_right _ (List.mem_of_getElem? (i := 602) (by decide +kernel))⟩⟩
theorem d_KM_drawSeeds_0 : decode (a_cc M_KM_drawSeeds) 0 = .ok (.aload_n 0, 1) := by decide +kernel
theorem d_KM_drawSeeds_1 : decode (a_cc M_KM_drawSeeds) 1 = .ok (.getfield 20, 3) := by decide +kernel
theorem d_KM_drawSeeds_4 : decode (a_cc M_KM_drawSeeds) 4 = .ok (.getfield 42, 3) := by decide +kernel
theorem d_KM_drawSeeds_7 : decode (a_cc M_KM_drawSeeds) 7 = .ok (.invokevirtual 48, 3) := by decide +kernel
theorem d_KM_drawSeeds_10 : decode (a_cc M_KM_drawSeeds) 10 = .ok (.aload_n 0, 1) := by decide +kernel
theorem d_KM_drawSeeds_11 : decode (a_cc M_KM_drawSeeds) 11 = .ok (.getfield 20, 3) := by decide +kernel
theorem d_KM_drawSeeds_14 : decode (a_cc M_KM_drawSeeds) 14 = .ok (.getfield 42, 3) := by decide +kernel
theorem d_KM_drawSeeds_17 : decode (a_cc M_KM_drawSeeds) 17 = .ok (.aload_n 1, 1) := by decide +kernel
theorem d_KM_drawSeeds_18 : decode (a_cc M_KM_drawSeeds) 18 = .ok (.iconst 0, 1) := by decide +kernel
theorem d_KM_drawSeeds_19 : decode (a_cc M_KM_drawSeeds) 19 = .ok (.bipush 32, 2) := by decide +kernel
theorem d_KM_drawSeeds_21 : decode (a_cc M_KM_drawSeeds) 21 = .ok (.invokevirtual 53, 3) := by decide +kernel
theorem d_KM_drawSeeds_24 : decode (a_cc M_KM_drawSeeds) 24 = .ok (.aload_n 0, 1) := by decide +kernel
theorem d_KM_drawSeeds_25 : decode (a_cc M_KM_drawSeeds) 25 = .ok (.getfield 20, 3) := by decide +kernel
theorem d_KM_drawSeeds_28 : decode (a_cc M_KM_drawSeeds) 28 = .ok (.getfield 42, 3) := by decide +kernel
theorem d_KM_drawSeeds_31 : decode (a_cc M_KM_drawSeeds) 31 = .ok (.aload_n 2, 1) := by decide +kernel
theorem d_KM_drawSeeds_32 : decode (a_cc M_KM_drawSeeds) 32 = .ok (.getfield 57, 3) := by decide +kernel
theorem d_KM_drawSeeds_35 : decode (a_cc M_KM_drawSeeds) 35 = .ok (.invokevirtual 63, 3) := by decide +kernel
theorem d_KM_drawSeeds_38 : decode (a_cc M_KM_drawSeeds) 38 = .ok (.aload_n 0, 1) := by decide +kernel
theorem d_KM_drawSeeds_39 : decode (a_cc M_KM_drawSeeds) 39 = .ok (.getfield 20, 3) := by decide +kernel
theorem d_KM_drawSeeds_42 : decode (a_cc M_KM_drawSeeds) 42 = .ok (.getfield 42, 3) := by decide +kernel
theorem d_KM_drawSeeds_45 : decode (a_cc M_KM_drawSeeds) 45 = .ok (.aload_n 2, 1) := by decide +kernel
theorem d_KM_drawSeeds_46 : decode (a_cc M_KM_drawSeeds) 46 = .ok (.getfield 66, 3) := by decide +kernel
theorem d_KM_drawSeeds_49 : decode (a_cc M_KM_drawSeeds) 49 = .ok (.invokevirtual 63, 3) := by decide +kernel
theorem d_KM_drawSeeds_52 : decode (a_cc M_KM_drawSeeds) 52 = .ok (.aload_n 0, 1) := by decide +kernel
theorem d_KM_drawSeeds_53 : decode (a_cc M_KM_drawSeeds) 53 = .ok (.getfield 20, 3) := by decide +kernel
theorem d_KM_drawSeeds_56 : decode (a_cc M_KM_drawSeeds) 56 = .ok (.getfield 42, 3) := by decide +kernel
theorem d_KM_drawSeeds_59 : decode (a_cc M_KM_drawSeeds) 59 = .ok (.invokevirtual 69, 3) := by decide +kernel
theorem d_KM_drawSeeds_62 : decode (a_cc M_KM_drawSeeds) 62 = .ok (.aload_n 0, 1) := by decide +kernel
theorem d_KM_drawSeeds_63 : decode (a_cc M_KM_drawSeeds) 63 = .ok (.getfield 20, 3) := by decide +kernel
theorem d_KM_drawSeeds_66 : decode (a_cc M_KM_drawSeeds) 66 = .ok (.getfield 42, 3) := by decide +kernel
theorem d_KM_drawSeeds_69 : decode (a_cc M_KM_drawSeeds) 69 = .ok (.aload_n 0, 1) := by decide +kernel
theorem d_KM_drawSeeds_70 : decode (a_cc M_KM_drawSeeds) 70 = .ok (.getfield 16, 3) := by decide +kernel
theorem d_KM_drawSeeds_73 : decode (a_cc M_KM_drawSeeds) 73 = .ok (.sipush 128, 3) := by decide +kernel
theorem d_KM_drawSeeds_76 : decode (a_cc M_KM_drawSeeds) 76 = .ok (.invokevirtual 72, 3) := by decide +kernel
theorem d_KM_drawSeeds_79 : decode (a_cc M_KM_drawSeeds) 79 = .ok (.return_, 1) := by decide +kernel
theorem fd_KM_42 : a_Fd "ModuleSigner$KeyMaker" 42 3 1 2 := ⟨by decide, by decide, rfl, List.mem_append_right _ (List.mem_of_getElem? (i := 227) (by decide +kernel))⟩
theorem cs_KM_drawSeeds_7 : a_CV M_KM_drawSeeds M_Sp_start256 48 7 1 0 0 := ⟨⟨ok_Sp_start256, by decide, by decide, by decide⟩, by decide, rfl, List.mem_append_right _ (List.mem_of_getElem? (i := 603) (by decide +kernel)), List.mem_append_right _ (List.mem_of_getElem? (i := 604) (by decide +kernel)), List.mem_append_right _ (List.mem_of_getElem? (i := 605) (by decide +kernel)), by decide +kernel⟩
theorem cs_KM_drawSeeds_21 : a_CV M_KM_drawSeeds M_Sp_takePart 53 7 4 0 3 := ⟨⟨ok_Sp_takePart, by decide, by decide, by decide⟩, by decide, rfl, List.mem_append_right _ (List.mem_of_getElem? (i := 611) (by decide +kernel)), List.mem_append_right _ (List.mem_of_getElem? (i := 612) (by decide +kernel)), List.mem_append_right _ (List.mem_of_getElem? (i := 613) (by decide +kernel)), by decide +kernel⟩
theorem fd_KM_57 : a_Fd "ModuleSigner$KeyMaker" 57 2 0 0 := ⟨by decide, by decide, rfl, List.mem_append_right _ (List.mem_of_getElem? (i := 84) (by decide +kernel))⟩
theorem cs_KM_drawSeeds_35 : a_CV M_KM_drawSeeds M_Sp_take 63 7 2 0 1 := ⟨⟨ok_Sp_take, by decide, by decide, by decide⟩, by decide, rfl, List.mem_append_right _ (List.mem_of_getElem? (i := 636) (by decide +kernel)), List.mem_append_right _ (List.mem_of_getElem? (i := 617) (by decide +kernel)), List.mem_append_right _ (List.mem_of_getElem? (i := 618) (by decide +kernel)), by decide +kernel⟩
theorem fd_KM_66 : a_Fd "ModuleSigner$KeyMaker" 66 2 1 0 := ⟨by decide, by decide, rfl, List.mem_append_right _ (List.mem_of_getElem? (i := 90) (by decide +kernel))⟩
theorem cs_KM_drawSeeds_49 : a_CV M_KM_drawSeeds M_Sp_take 63 7 2 0 1 := ⟨⟨ok_Sp_take, by decide, by decide, by decide⟩, by decide, rfl, List.mem_append_right _ (List.mem_of_getElem? (i := 636) (by decide +kernel)), List.mem_append_right _ (List.mem_of_getElem? (i := 617) (by decide +kernel)), List.mem_append_right _ (List.mem_of_getElem? (i := 618) (by decide +kernel)), by decide +kernel⟩
theorem cs_KM_drawSeeds_59 : a_CV M_KM_drawSeeds M_Sp_turn 69 7 1 0 0 := ⟨⟨ok_Sp_turn, by decide, by decide, by decide⟩, by decide, rfl, List.mem_append_right _ (List.mem_of_getElem? (i := 637) (by decide +kernel)), List.mem_append_right _ (List.mem_of_getElem? (i := 638) (by decide +kernel)), List.mem_append_right _ (List.mem_of_getElem? (i := 639) (by decide +kernel)), by decide +kernel⟩
theorem cs_KM_drawSeeds_76 : a_CV M_KM_drawSeeds M_Sp_giveTo 72 7 3 0 2 := ⟨⟨ok_Sp_giveTo, by decide, by decide, by decide⟩, by decide, rfl, List.mem_append_right _ (List.mem_of_getElem? (i := 641) (by decide +kernel)), List.mem_append_right _ (List.mem_of_getElem? (i := 642) (by decide +kernel)), List.mem_append_right _ (List.mem_of_getElem? (i := 643) (by decide +kernel)), by decide +kernel⟩
def M_Sp_start128 : a_M := (⟨"ModuleSigner$Sponge", "start128", "()V"⟩, prog_9_method_2_code, 1, none, "ModuleSigner$Sponge", 1, 14, [])
theorem ok_Sp_start128 : a_Ok M_Sp_start128 := ⟨rfl, by decide +kernel, ⟨by decide, by decide⟩, List.mem_append_right _ (List.mem_of_getElem? (i := 7) (by decide +kernel)), Or.inl ⟨rfl, List.mem_append_right _ (List.mem_of_getElem? (i := 662) (by decide +kernel))⟩⟩
theorem d_Sp_start128_0 : decode (a_cc M_Sp_start128) 0 = .ok (.aload_n 0, 1) := by decide +kernel
theorem d_Sp_start128_1 : decode (a_cc M_Sp_start128) 1 = .ok (.sipush 168, 3) := by decide +kernel
theorem d_Sp_start128_4 : decode (a_cc M_Sp_start128) 4 = .ok (.invokevirtual 26, 3) := by decide +kernel
theorem d_Sp_start128_7 : decode (a_cc M_Sp_start128) 7 = .ok (.return_, 1) := by decide +kernel
theorem cs_Sp_start128_4 : a_CV M_Sp_start128 M_Sp_start 26 7 2 0 1 := ⟨⟨ok_Sp_start, by decide, by decide, by decide⟩, by decide, rfl, List.mem_append_right _ (List.mem_of_getElem? (i := 607) (by decide +kernel)), List.mem_append_right _ (List.mem_of_getElem? (i := 609) (by decide +kernel)), List.mem_append_left _ (List.mem_of_getElem? (i := 3) (by decide +kernel)), by decide +kernel⟩
def M_Sa_sample : a_M := (⟨"ModuleSigner$Sampler", "sample", "([I)V"⟩, prog_7_method_3_code, 5, none, "ModuleSigner$Sampler", 6, 82, [])
theorem ok_Sa_sample : a_Ok M_Sa_sample := ⟨rfl, by decide +kernel, ⟨by decide, by decide⟩, List.mem_append_right _ (List.mem_of_getElem? (i := 6) (by decide +kernel)), Or.inl ⟨rfl, List.mem_append_right _ (List.mem_of_getElem? (i := 669) (by decide +kernel))⟩⟩
theorem d_Sa_sample_0 : decode (a_cc M_Sa_sample) 0 = .ok (.iconst 0, 1) := by decide +kernel
theorem d_Sa_sample_1 : decode (a_cc M_Sa_sample) 1 = .ok (.istore_n 2, 1) := by decide +kernel
theorem d_Sa_sample_2 : decode (a_cc M_Sa_sample) 2 = .ok (.iconst 0, 1) := by decide +kernel
theorem d_Sa_sample_3 : decode (a_cc M_Sa_sample) 3 = .ok (.istore_n 3, 1) := by decide +kernel
theorem d_Sa_sample_4 : decode (a_cc M_Sa_sample) 4 = .ok (.iload_n 3, 1) := by decide +kernel
theorem d_Sa_sample_5 : decode (a_cc M_Sa_sample) 5 = .ok (.sipush 298, 3) := by decide +kernel
theorem d_Sa_sample_8 : decode (a_cc M_Sa_sample) 8 = .ok (.if_icmp .ge 73, 3) := by decide +kernel
theorem d_Sa_sample_11 : decode (a_cc M_Sa_sample) 11 = .ok (.iload_n 2, 1) := by decide +kernel
theorem d_Sa_sample_12 : decode (a_cc M_Sa_sample) 12 = .ok (.sipush 256, 3) := by decide +kernel
theorem d_Sa_sample_15 : decode (a_cc M_Sa_sample) 15 = .ok (.if_icmp .ge 66, 3) := by decide +kernel
theorem d_Sa_sample_18 : decode (a_cc M_Sa_sample) 18 = .ok (.aload_n 0, 1) := by decide +kernel
theorem d_Sa_sample_19 : decode (a_cc M_Sa_sample) 19 = .ok (.getfield 12, 3) := by decide +kernel
theorem d_Sa_sample_22 : decode (a_cc M_Sa_sample) 22 = .ok (.invokevirtual 47, 3) := by decide +kernel
theorem d_Sa_sample_25 : decode (a_cc M_Sa_sample) 25 = .ok (.istore 4, 2) := by decide +kernel
theorem d_Sa_sample_27 : decode (a_cc M_Sa_sample) 27 = .ok (.iload 4, 2) := by decide +kernel
theorem d_Sa_sample_29 : decode (a_cc M_Sa_sample) 29 = .ok (.aload_n 0, 1) := by decide +kernel
theorem d_Sa_sample_30 : decode (a_cc M_Sa_sample) 30 = .ok (.getfield 12, 3) := by decide +kernel
theorem d_Sa_sample_33 : decode (a_cc M_Sa_sample) 33 = .ok (.invokevirtual 47, 3) := by decide +kernel
theorem d_Sa_sample_36 : decode (a_cc M_Sa_sample) 36 = .ok (.bipush 8, 2) := by decide +kernel
theorem d_Sa_sample_38 : decode (a_cc M_Sa_sample) 38 = .ok (.ishl, 1) := by decide +kernel
theorem d_Sa_sample_39 : decode (a_cc M_Sa_sample) 39 = .ok (.ior, 1) := by decide +kernel
theorem d_Sa_sample_40 : decode (a_cc M_Sa_sample) 40 = .ok (.istore 4, 2) := by decide +kernel
theorem d_Sa_sample_42 : decode (a_cc M_Sa_sample) 42 = .ok (.iload 4, 2) := by decide +kernel
theorem d_Sa_sample_44 : decode (a_cc M_Sa_sample) 44 = .ok (.aload_n 0, 1) := by decide +kernel
theorem d_Sa_sample_45 : decode (a_cc M_Sa_sample) 45 = .ok (.getfield 12, 3) := by decide +kernel
theorem d_Sa_sample_48 : decode (a_cc M_Sa_sample) 48 = .ok (.invokevirtual 47, 3) := by decide +kernel
theorem d_Sa_sample_51 : decode (a_cc M_Sa_sample) 51 = .ok (.bipush 127, 2) := by decide +kernel
theorem d_Sa_sample_53 : decode (a_cc M_Sa_sample) 53 = .ok (.iand, 1) := by decide +kernel
theorem d_Sa_sample_54 : decode (a_cc M_Sa_sample) 54 = .ok (.bipush 16, 2) := by decide +kernel
theorem d_Sa_sample_56 : decode (a_cc M_Sa_sample) 56 = .ok (.ishl, 1) := by decide +kernel
theorem d_Sa_sample_57 : decode (a_cc M_Sa_sample) 57 = .ok (.ior, 1) := by decide +kernel
theorem d_Sa_sample_58 : decode (a_cc M_Sa_sample) 58 = .ok (.istore 4, 2) := by decide +kernel
theorem d_Sa_sample_60 : decode (a_cc M_Sa_sample) 60 = .ok (.iload 4, 2) := by decide +kernel
theorem d_Sa_sample_62 : decode (a_cc M_Sa_sample) 62 = .ok (.ldc 51, 2) := by decide +kernel
theorem d_Sa_sample_64 : decode (a_cc M_Sa_sample) 64 = .ok (.if_icmp .ge 11, 3) := by decide +kernel
theorem d_Sa_sample_67 : decode (a_cc M_Sa_sample) 67 = .ok (.aload_n 1, 1) := by decide +kernel
theorem d_Sa_sample_68 : decode (a_cc M_Sa_sample) 68 = .ok (.iload_n 2, 1) := by decide +kernel
theorem d_Sa_sample_69 : decode (a_cc M_Sa_sample) 69 = .ok (.iload 4, 2) := by decide +kernel
theorem d_Sa_sample_71 : decode (a_cc M_Sa_sample) 71 = .ok (.iastore, 1) := by decide +kernel
theorem d_Sa_sample_72 : decode (a_cc M_Sa_sample) 72 = .ok (.iinc 2 1, 3) := by decide +kernel
theorem d_Sa_sample_75 : decode (a_cc M_Sa_sample) 75 = .ok (.iinc 3 1, 3) := by decide +kernel
theorem d_Sa_sample_78 : decode (a_cc M_Sa_sample) 78 = .ok (.goto (-74), 3) := by decide +kernel
theorem d_Sa_sample_81 : decode (a_cc M_Sa_sample) 81 = .ok (.iload_n 2, 1) := by decide +kernel
theorem d_Sa_sample_82 : decode (a_cc M_Sa_sample) 82 = .ok (.sipush 256, 3) := by decide +kernel
theorem d_Sa_sample_85 : decode (a_cc M_Sa_sample) 85 = .ok (.if_icmp .ge 13, 3) := by decide +kernel
theorem d_Sa_sample_88 : decode (a_cc M_Sa_sample) 88 = .ok (.new 52, 3) := by decide +kernel
theorem d_Sa_sample_91 : decode (a_cc M_Sa_sample) 91 = .ok (.dup, 1) := by decide +kernel
theorem d_Sa_sample_92 : decode (a_cc M_Sa_sample) 92 = .ok (.ldc 54, 2) := by decide +kernel
theorem d_Sa_sample_94 : decode (a_cc M_Sa_sample) 94 = .ok (.invokespecial 56, 3) := by decide +kernel
theorem d_Sa_sample_97 : decode (a_cc M_Sa_sample) 97 = .ok (.athrow, 1) := by decide +kernel
theorem d_Sa_sample_98 : decode (a_cc M_Sa_sample) 98 = .ok (.return_, 1) := by decide +kernel
theorem cs_Sa_sample_22 : a_CV M_Sa_sample M_Sp_give 47 7 1 0 0 := ⟨⟨ok_Sp_give, by decide, by decide, by decide⟩, by decide, rfl, List.mem_append_right _ (List.mem_of_getElem? (i := 670) (by decide +kernel)), List.mem_append_right _ (List.mem_of_getElem? (i := 647) (by decide +kernel)), List.mem_append_right _ (List.mem_of_getElem? (i := 648) (by decide +kernel)), by decide +kernel⟩
theorem cs_Sa_sample_33 : a_CV M_Sa_sample M_Sp_give 47 7 1 1 0 := ⟨⟨ok_Sp_give, by decide, by decide, by decide⟩, by decide, rfl, List.mem_append_right _ (List.mem_of_getElem? (i := 670) (by decide +kernel)), List.mem_append_right _ (List.mem_of_getElem? (i := 647) (by decide +kernel)), List.mem_append_right _ (List.mem_of_getElem? (i := 648) (by decide +kernel)), by decide +kernel⟩
theorem cs_Sa_sample_48 : a_CV M_Sa_sample M_Sp_give 47 7 1 1 0 := ⟨⟨ok_Sp_give, by decide, by decide, by decide⟩, by decide, rfl, List.mem_append_right _ (List.mem_of_getElem? (i := 670) (by decide +kernel)), List.mem_append_right _ (List.mem_of_getElem? (i := 647) (by decide +kernel)), List.mem_append_right _ (List.mem_of_getElem? (i := 648) (by decide +kernel)), by decide +kernel⟩
theorem lc_Sa_51 : Cond.constant "ModuleSigner$Sampler" 51 (Int32.ofInt (8380417)) ∈ lw_tbl := List.mem_append_right _ (List.mem_of_getElem? (i := 671) (by decide +kernel))
theorem th_Sa_sample_88 : a_Th M_Sa_sample 88 4 0 := ⟨_, _, _, "too few coefficients below q", d_Sa_sample_88, d_Sa_sample_91, d_Sa_sample_92, d_Sa_sample_94, d_Sa_sample_97, List.mem_append_right _ (List.mem_of_getElem? (i := 681) (by decide +kernel)), by decide, List.mem_append_right _ (List.mem_of_getElem? (i := 672) (by decide +kernel)), List.mem_append_right _ (List.mem_of_getElem? (i := 682) (by decide +kernel)), rfl, by decide, by decide⟩
def M_Sa_matrix : a_M := (⟨"ModuleSigner$Sampler", "matrix", "(LModuleSigner$Bytes;LModuleSigner$Parameters;[[I)V"⟩, prog_7_method_2_code, 6, none, "ModuleSigner$Sampler", 7, 98, [])
theorem ok_Sa_matrix : a_Ok M_Sa_matrix := ⟨rfl, by decide +kernel, ⟨by decide, by decide⟩, List.mem_append_right _ (List.mem_of_getElem? (i := 6) (by decide +kernel)), Or.inl ⟨rfl, List.mem_append_right _ (List.mem_of_getElem? (i := 658) (by decide +kernel))⟩⟩
theorem d_Sa_matrix_0 : decode (a_cc M_Sa_matrix) 0 = .ok (.iconst 0, 1) := by decide +kernel
theorem d_Sa_matrix_1 : decode (a_cc M_Sa_matrix) 1 = .ok (.istore 4, 2) := by decide +kernel
theorem d_Sa_matrix_3 : decode (a_cc M_Sa_matrix) 3 = .ok (.iload 4, 2) := by decide +kernel
theorem d_Sa_matrix_5 : decode (a_cc M_Sa_matrix) 5 = .ok (.aload_n 2, 1) := by decide +kernel
theorem d_Sa_matrix_6 : decode (a_cc M_Sa_matrix) 6 = .ok (.getfield 18, 3) := by decide +kernel
theorem d_Sa_matrix_9 : decode (a_cc M_Sa_matrix) 9 = .ok (.if_icmp .ge 86, 3) := by decide +kernel
theorem d_Sa_matrix_12 : decode (a_cc M_Sa_matrix) 12 = .ok (.iconst 0, 1) := by decide +kernel
theorem d_Sa_matrix_13 : decode (a_cc M_Sa_matrix) 13 = .ok (.istore 5, 2) := by decide +kernel
theorem d_Sa_matrix_15 : decode (a_cc M_Sa_matrix) 15 = .ok (.iload 5, 2) := by decide +kernel
theorem d_Sa_matrix_17 : decode (a_cc M_Sa_matrix) 17 = .ok (.aload_n 2, 1) := by decide +kernel
theorem d_Sa_matrix_18 : decode (a_cc M_Sa_matrix) 18 = .ok (.getfield 24, 3) := by decide +kernel
theorem d_Sa_matrix_21 : decode (a_cc M_Sa_matrix) 21 = .ok (.if_icmp .ge 68, 3) := by decide +kernel
theorem d_Sa_matrix_24 : decode (a_cc M_Sa_matrix) 24 = .ok (.aload_n 0, 1) := by decide +kernel
theorem d_Sa_matrix_25 : decode (a_cc M_Sa_matrix) 25 = .ok (.getfield 12, 3) := by decide +kernel
theorem d_Sa_matrix_28 : decode (a_cc M_Sa_matrix) 28 = .ok (.invokevirtual 27, 3) := by decide +kernel
theorem d_Sa_matrix_31 : decode (a_cc M_Sa_matrix) 31 = .ok (.aload_n 0, 1) := by decide +kernel
theorem d_Sa_matrix_32 : decode (a_cc M_Sa_matrix) 32 = .ok (.getfield 12, 3) := by decide +kernel
theorem d_Sa_matrix_35 : decode (a_cc M_Sa_matrix) 35 = .ok (.aload_n 1, 1) := by decide +kernel
theorem d_Sa_matrix_36 : decode (a_cc M_Sa_matrix) 36 = .ok (.iconst 0, 1) := by decide +kernel
theorem d_Sa_matrix_37 : decode (a_cc M_Sa_matrix) 37 = .ok (.bipush 32, 2) := by decide +kernel
theorem d_Sa_matrix_39 : decode (a_cc M_Sa_matrix) 39 = .ok (.invokevirtual 30, 3) := by decide +kernel
theorem d_Sa_matrix_42 : decode (a_cc M_Sa_matrix) 42 = .ok (.aload_n 0, 1) := by decide +kernel
theorem d_Sa_matrix_43 : decode (a_cc M_Sa_matrix) 43 = .ok (.getfield 12, 3) := by decide +kernel
theorem d_Sa_matrix_46 : decode (a_cc M_Sa_matrix) 46 = .ok (.iload 5, 2) := by decide +kernel
theorem d_Sa_matrix_48 : decode (a_cc M_Sa_matrix) 48 = .ok (.invokevirtual 34, 3) := by decide +kernel
theorem d_Sa_matrix_51 : decode (a_cc M_Sa_matrix) 51 = .ok (.aload_n 0, 1) := by decide +kernel
theorem d_Sa_matrix_52 : decode (a_cc M_Sa_matrix) 52 = .ok (.getfield 12, 3) := by decide +kernel
theorem d_Sa_matrix_55 : decode (a_cc M_Sa_matrix) 55 = .ok (.iload 4, 2) := by decide +kernel
theorem d_Sa_matrix_57 : decode (a_cc M_Sa_matrix) 57 = .ok (.invokevirtual 34, 3) := by decide +kernel
theorem d_Sa_matrix_60 : decode (a_cc M_Sa_matrix) 60 = .ok (.aload_n 0, 1) := by decide +kernel
theorem d_Sa_matrix_61 : decode (a_cc M_Sa_matrix) 61 = .ok (.getfield 12, 3) := by decide +kernel
theorem d_Sa_matrix_64 : decode (a_cc M_Sa_matrix) 64 = .ok (.invokevirtual 38, 3) := by decide +kernel
theorem d_Sa_matrix_67 : decode (a_cc M_Sa_matrix) 67 = .ok (.aload_n 0, 1) := by decide +kernel
theorem d_Sa_matrix_68 : decode (a_cc M_Sa_matrix) 68 = .ok (.aload_n 3, 1) := by decide +kernel
theorem d_Sa_matrix_69 : decode (a_cc M_Sa_matrix) 69 = .ok (.iload 4, 2) := by decide +kernel
theorem d_Sa_matrix_71 : decode (a_cc M_Sa_matrix) 71 = .ok (.aload_n 2, 1) := by decide +kernel
theorem d_Sa_matrix_72 : decode (a_cc M_Sa_matrix) 72 = .ok (.getfield 24, 3) := by decide +kernel
theorem d_Sa_matrix_75 : decode (a_cc M_Sa_matrix) 75 = .ok (.imul, 1) := by decide +kernel
theorem d_Sa_matrix_76 : decode (a_cc M_Sa_matrix) 76 = .ok (.iload 5, 2) := by decide +kernel
theorem d_Sa_matrix_78 : decode (a_cc M_Sa_matrix) 78 = .ok (.iadd, 1) := by decide +kernel
theorem d_Sa_matrix_79 : decode (a_cc M_Sa_matrix) 79 = .ok (.aaload, 1) := by decide +kernel
theorem d_Sa_matrix_80 : decode (a_cc M_Sa_matrix) 80 = .ok (.invokevirtual 41, 3) := by decide +kernel
theorem d_Sa_matrix_83 : decode (a_cc M_Sa_matrix) 83 = .ok (.iinc 5 1, 3) := by decide +kernel
theorem d_Sa_matrix_86 : decode (a_cc M_Sa_matrix) 86 = .ok (.goto (-71), 3) := by decide +kernel
theorem d_Sa_matrix_89 : decode (a_cc M_Sa_matrix) 89 = .ok (.iinc 4 1, 3) := by decide +kernel
theorem d_Sa_matrix_92 : decode (a_cc M_Sa_matrix) 92 = .ok (.goto (-89), 3) := by decide +kernel
theorem d_Sa_matrix_95 : decode (a_cc M_Sa_matrix) 95 = .ok (.return_, 1) := by decide +kernel
theorem fd_Sa_18 : a_Fd "ModuleSigner$Sampler" 18 2 0 0 := ⟨by decide, by decide, rfl, List.mem_append_right _ (List.mem_of_getElem? (i := 82) (by decide +kernel))⟩
theorem fd_Sa_24 : a_Fd "ModuleSigner$Sampler" 24 2 1 0 := ⟨by decide, by decide, rfl, List.mem_append_right _ (List.mem_of_getElem? (i := 88) (by decide +kernel))⟩
theorem cs_Sa_matrix_28 : a_CV M_Sa_matrix M_Sp_start128 27 7 1 0 0 := ⟨⟨ok_Sp_start128, by decide, by decide, by decide⟩, by decide, rfl, List.mem_append_right _ (List.mem_of_getElem? (i := 659) (by decide +kernel)), List.mem_append_right _ (List.mem_of_getElem? (i := 660) (by decide +kernel)), List.mem_append_right _ (List.mem_of_getElem? (i := 661) (by decide +kernel)), by decide +kernel⟩
theorem cs_Sa_matrix_39 : a_CV M_Sa_matrix M_Sp_takePart 30 7 4 0 3 := ⟨⟨ok_Sp_takePart, by decide, by decide, by decide⟩, by decide, rfl, List.mem_append_right _ (List.mem_of_getElem? (i := 663) (by decide +kernel)), List.mem_append_right _ (List.mem_of_getElem? (i := 612) (by decide +kernel)), List.mem_append_right _ (List.mem_of_getElem? (i := 613) (by decide +kernel)), by decide +kernel⟩
theorem cs_Sa_matrix_48 : a_CV M_Sa_matrix M_Sp_take 34 7 2 0 1 := ⟨⟨ok_Sp_take, by decide, by decide, by decide⟩, by decide, rfl, List.mem_append_right _ (List.mem_of_getElem? (i := 664) (by decide +kernel)), List.mem_append_right _ (List.mem_of_getElem? (i := 617) (by decide +kernel)), List.mem_append_right _ (List.mem_of_getElem? (i := 618) (by decide +kernel)), by decide +kernel⟩
theorem cs_Sa_matrix_57 : a_CV M_Sa_matrix M_Sp_take 34 7 2 0 1 := ⟨⟨ok_Sp_take, by decide, by decide, by decide⟩, by decide, rfl, List.mem_append_right _ (List.mem_of_getElem? (i := 664) (by decide +kernel)), List.mem_append_right _ (List.mem_of_getElem? (i := 617) (by decide +kernel)), List.mem_append_right _ (List.mem_of_getElem? (i := 618) (by decide +kernel)), by decide +kernel⟩
theorem cs_Sa_matrix_64 : a_CV M_Sa_matrix M_Sp_turn 38 7 1 0 0 := ⟨⟨ok_Sp_turn, by decide, by decide, by decide⟩, by decide, rfl, List.mem_append_right _ (List.mem_of_getElem? (i := 665) (by decide +kernel)), List.mem_append_right _ (List.mem_of_getElem? (i := 638) (by decide +kernel)), List.mem_append_right _ (List.mem_of_getElem? (i := 639) (by decide +kernel)), by decide +kernel⟩
theorem cs_Sa_matrix_80 : a_CV M_Sa_matrix M_Sa_sample 41 8 2 0 1 := ⟨⟨ok_Sa_sample, by decide, by decide, by decide⟩, by decide, rfl, List.mem_append_right _ (List.mem_of_getElem? (i := 666) (by decide +kernel)), List.mem_append_right _ (List.mem_of_getElem? (i := 668) (by decide +kernel)), List.mem_append_left _ (List.mem_of_getElem? (i := 7) (by decide +kernel)), by decide +kernel⟩
def M_Sa_takeNumbered : a_M := (⟨"ModuleSigner$Sampler", "takeNumbered", "(LModuleSigner$Bytes;II)V"⟩, prog_7_method_8_code, 4, none, "ModuleSigner$Sampler", 3, 50, [])
theorem ok_Sa_takeNumbered : a_Ok M_Sa_takeNumbered := ⟨rfl, by decide +kernel, ⟨by decide, by decide⟩, List.mem_append_right _ (List.mem_of_getElem? (i := 6) (by decide +kernel)), Or.inl ⟨rfl, List.mem_append_right _ (List.mem_of_getElem? (i := 691) (by decide +kernel))⟩⟩
theorem d_Sa_takeNumbered_0 : decode (a_cc M_Sa_takeNumbered) 0 = .ok (.aload_n 0, 1) := by decide +kernel
theorem d_Sa_takeNumbered_1 : decode (a_cc M_Sa_takeNumbered) 1 = .ok (.getfield 12, 3) := by decide +kernel
theorem d_Sa_takeNumbered_4 : decode (a_cc M_Sa_takeNumbered) 4 = .ok (.invokevirtual 69, 3) := by decide +kernel
theorem d_Sa_takeNumbered_7 : decode (a_cc M_Sa_takeNumbered) 7 = .ok (.aload_n 0, 1) := by decide +kernel
theorem d_Sa_takeNumbered_8 : decode (a_cc M_Sa_takeNumbered) 8 = .ok (.getfield 12, 3) := by decide +kernel
theorem d_Sa_takeNumbered_11 : decode (a_cc M_Sa_takeNumbered) 11 = .ok (.aload_n 1, 1) := by decide +kernel
theorem d_Sa_takeNumbered_12 : decode (a_cc M_Sa_takeNumbered) 12 = .ok (.iload_n 2, 1) := by decide +kernel
theorem d_Sa_takeNumbered_13 : decode (a_cc M_Sa_takeNumbered) 13 = .ok (.bipush 64, 2) := by decide +kernel
theorem d_Sa_takeNumbered_15 : decode (a_cc M_Sa_takeNumbered) 15 = .ok (.invokevirtual 30, 3) := by decide +kernel
theorem d_Sa_takeNumbered_18 : decode (a_cc M_Sa_takeNumbered) 18 = .ok (.aload_n 0, 1) := by decide +kernel
theorem d_Sa_takeNumbered_19 : decode (a_cc M_Sa_takeNumbered) 19 = .ok (.getfield 12, 3) := by decide +kernel
theorem d_Sa_takeNumbered_22 : decode (a_cc M_Sa_takeNumbered) 22 = .ok (.iload_n 3, 1) := by decide +kernel
theorem d_Sa_takeNumbered_23 : decode (a_cc M_Sa_takeNumbered) 23 = .ok (.invokevirtual 34, 3) := by decide +kernel
theorem d_Sa_takeNumbered_26 : decode (a_cc M_Sa_takeNumbered) 26 = .ok (.aload_n 0, 1) := by decide +kernel
theorem d_Sa_takeNumbered_27 : decode (a_cc M_Sa_takeNumbered) 27 = .ok (.getfield 12, 3) := by decide +kernel
theorem d_Sa_takeNumbered_30 : decode (a_cc M_Sa_takeNumbered) 30 = .ok (.iload_n 3, 1) := by decide +kernel
theorem d_Sa_takeNumbered_31 : decode (a_cc M_Sa_takeNumbered) 31 = .ok (.bipush 8, 2) := by decide +kernel
theorem d_Sa_takeNumbered_33 : decode (a_cc M_Sa_takeNumbered) 33 = .ok (.ishr, 1) := by decide +kernel
theorem d_Sa_takeNumbered_34 : decode (a_cc M_Sa_takeNumbered) 34 = .ok (.invokevirtual 34, 3) := by decide +kernel
theorem d_Sa_takeNumbered_37 : decode (a_cc M_Sa_takeNumbered) 37 = .ok (.aload_n 0, 1) := by decide +kernel
theorem d_Sa_takeNumbered_38 : decode (a_cc M_Sa_takeNumbered) 38 = .ok (.getfield 12, 3) := by decide +kernel
theorem d_Sa_takeNumbered_41 : decode (a_cc M_Sa_takeNumbered) 41 = .ok (.invokevirtual 38, 3) := by decide +kernel
theorem d_Sa_takeNumbered_44 : decode (a_cc M_Sa_takeNumbered) 44 = .ok (.return_, 1) := by decide +kernel
theorem cs_Sa_takeNumbered_4 : a_CV M_Sa_takeNumbered M_Sp_start256 69 7 1 0 0 := ⟨⟨ok_Sp_start256, by decide, by decide, by decide⟩, by decide, rfl, List.mem_append_right _ (List.mem_of_getElem? (i := 692) (by decide +kernel)), List.mem_append_right _ (List.mem_of_getElem? (i := 604) (by decide +kernel)), List.mem_append_right _ (List.mem_of_getElem? (i := 605) (by decide +kernel)), by decide +kernel⟩
theorem cs_Sa_takeNumbered_15 : a_CV M_Sa_takeNumbered M_Sp_takePart 30 7 4 0 3 := ⟨⟨ok_Sp_takePart, by decide, by decide, by decide⟩, by decide, rfl, List.mem_append_right _ (List.mem_of_getElem? (i := 663) (by decide +kernel)), List.mem_append_right _ (List.mem_of_getElem? (i := 612) (by decide +kernel)), List.mem_append_right _ (List.mem_of_getElem? (i := 613) (by decide +kernel)), by decide +kernel⟩
theorem cs_Sa_takeNumbered_23 : a_CV M_Sa_takeNumbered M_Sp_take 34 7 2 0 1 := ⟨⟨ok_Sp_take, by decide, by decide, by decide⟩, by decide, rfl, List.mem_append_right _ (List.mem_of_getElem? (i := 664) (by decide +kernel)), List.mem_append_right _ (List.mem_of_getElem? (i := 617) (by decide +kernel)), List.mem_append_right _ (List.mem_of_getElem? (i := 618) (by decide +kernel)), by decide +kernel⟩
theorem cs_Sa_takeNumbered_34 : a_CV M_Sa_takeNumbered M_Sp_take 34 7 2 0 1 := ⟨⟨ok_Sp_take, by decide, by decide, by decide⟩, by decide, rfl, List.mem_append_right _ (List.mem_of_getElem? (i := 664) (by decide +kernel)), List.mem_append_right _ (List.mem_of_getElem? (i := 617) (by decide +kernel)), List.mem_append_right _ (List.mem_of_getElem? (i := 618) (by decide +kernel)), by decide +kernel⟩
theorem cs_Sa_takeNumbered_41 : a_CV M_Sa_takeNumbered M_Sp_turn 38 7 1 0 0 := ⟨⟨ok_Sp_turn, by decide, by decide, by decide⟩, by decide, rfl, List.mem_append_right _ (List.mem_of_getElem? (i := 665) (by decide +kernel)), List.mem_append_right _ (List.mem_of_getElem? (i := 638) (by decide +kernel)), List.mem_append_right _ (List.mem_of_getElem? (i := 639) (by decide +kernel)), by decide +kernel⟩
def M_Ri_minus : a_M := (⟨"ModuleSigner$Ring", "minus", "(II)I"⟩, prog_6_method_5_code, 3, some .int, "ModuleSigner$Ring", 0, 0, [])
theorem ok_Ri_minus : a_Ok M_Ri_minus := ⟨rfl, by decide +kernel, ⟨by decide, by decide⟩, List.mem_append_right _ (List.mem_of_getElem? (i := 4) (by decide +kernel)), Or.inl ⟨rfl, List.mem_append_right _ (List.mem_of_getElem? (i := 702) (by decide +kernel))⟩⟩
theorem d_Ri_minus_0 : decode (a_cc M_Ri_minus) 0 = .ok (.iload_n 0, 1) := by decide +kernel
theorem d_Ri_minus_1 : decode (a_cc M_Ri_minus) 1 = .ok (.iload_n 1, 1) := by decide +kernel
theorem d_Ri_minus_2 : decode (a_cc M_Ri_minus) 2 = .ok (.isub, 1) := by decide +kernel
theorem d_Ri_minus_3 : decode (a_cc M_Ri_minus) 3 = .ok (.istore_n 2, 1) := by decide +kernel
theorem d_Ri_minus_4 : decode (a_cc M_Ri_minus) 4 = .ok (.iload_n 2, 1) := by decide +kernel
theorem d_Ri_minus_5 : decode (a_cc M_Ri_minus) 5 = .ok (.ifCond .ge 10, 3) := by decide +kernel
theorem d_Ri_minus_8 : decode (a_cc M_Ri_minus) 8 = .ok (.iload_n 2, 1) := by decide +kernel
theorem d_Ri_minus_9 : decode (a_cc M_Ri_minus) 9 = .ok (.ldc 21, 2) := by decide +kernel
theorem d_Ri_minus_11 : decode (a_cc M_Ri_minus) 11 = .ok (.iadd, 1) := by decide +kernel
theorem d_Ri_minus_12 : decode (a_cc M_Ri_minus) 12 = .ok (.goto 4, 3) := by decide +kernel
theorem d_Ri_minus_15 : decode (a_cc M_Ri_minus) 15 = .ok (.iload_n 2, 1) := by decide +kernel
theorem d_Ri_minus_16 : decode (a_cc M_Ri_minus) 16 = .ok (.ireturn, 1) := by decide +kernel
theorem lc_Ri_21 : Cond.constant "ModuleSigner$Ring" 21 (Int32.ofInt (8380417)) ∈ lw_tbl := List.mem_append_right _ (List.mem_of_getElem? (i := 703) (by decide +kernel))
def M_Sa_addSmall : a_M := (⟨"ModuleSigner$Sampler", "addSmall", "([IIII)I"⟩, prog_7_method_5_code, 5, some .int, "ModuleSigner$Sampler", 1, 16, [])
theorem ok_Sa_addSmall : a_Ok M_Sa_addSmall := ⟨rfl, by decide +kernel, ⟨by decide, by decide⟩, List.mem_append_right _ (List.mem_of_getElem? (i := 6) (by decide +kernel)), Or.inl ⟨rfl, List.mem_append_right _ (List.mem_of_getElem? (i := 699) (by decide +kernel))⟩⟩
theorem d_Sa_addSmall_0 : decode (a_cc M_Sa_addSmall) 0 = .ok (.iload_n 3, 1) := by decide +kernel
theorem d_Sa_addSmall_1 : decode (a_cc M_Sa_addSmall) 1 = .ok (.iconst 2, 1) := by decide +kernel
theorem d_Sa_addSmall_2 : decode (a_cc M_Sa_addSmall) 2 = .ok (.if_icmp .ne 8, 3) := by decide +kernel
theorem d_Sa_addSmall_5 : decode (a_cc M_Sa_addSmall) 5 = .ok (.bipush 15, 2) := by decide +kernel
theorem d_Sa_addSmall_7 : decode (a_cc M_Sa_addSmall) 7 = .ok (.goto 5, 3) := by decide +kernel
theorem d_Sa_addSmall_10 : decode (a_cc M_Sa_addSmall) 10 = .ok (.bipush 9, 2) := by decide +kernel
theorem d_Sa_addSmall_12 : decode (a_cc M_Sa_addSmall) 12 = .ok (.istore 4, 2) := by decide +kernel
theorem d_Sa_addSmall_14 : decode (a_cc M_Sa_addSmall) 14 = .ok (.iload_n 1, 1) := by decide +kernel
theorem d_Sa_addSmall_15 : decode (a_cc M_Sa_addSmall) 15 = .ok (.sipush 256, 3) := by decide +kernel
theorem d_Sa_addSmall_18 : decode (a_cc M_Sa_addSmall) 18 = .ok (.if_icmp .ge 9, 3) := by decide +kernel
theorem d_Sa_addSmall_21 : decode (a_cc M_Sa_addSmall) 21 = .ok (.iload_n 2, 1) := by decide +kernel
theorem d_Sa_addSmall_22 : decode (a_cc M_Sa_addSmall) 22 = .ok (.iload 4, 2) := by decide +kernel
theorem d_Sa_addSmall_24 : decode (a_cc M_Sa_addSmall) 24 = .ok (.if_icmp .lt 5, 3) := by decide +kernel
theorem d_Sa_addSmall_27 : decode (a_cc M_Sa_addSmall) 27 = .ok (.iload_n 1, 1) := by decide +kernel
theorem d_Sa_addSmall_28 : decode (a_cc M_Sa_addSmall) 28 = .ok (.ireturn, 1) := by decide +kernel
theorem d_Sa_addSmall_29 : decode (a_cc M_Sa_addSmall) 29 = .ok (.aload_n 0, 1) := by decide +kernel
theorem d_Sa_addSmall_30 : decode (a_cc M_Sa_addSmall) 30 = .ok (.iload_n 1, 1) := by decide +kernel
theorem d_Sa_addSmall_31 : decode (a_cc M_Sa_addSmall) 31 = .ok (.iload_n 3, 1) := by decide +kernel
theorem d_Sa_addSmall_32 : decode (a_cc M_Sa_addSmall) 32 = .ok (.iload_n 3, 1) := by decide +kernel
theorem d_Sa_addSmall_33 : decode (a_cc M_Sa_addSmall) 33 = .ok (.iconst 2, 1) := by decide +kernel
theorem d_Sa_addSmall_34 : decode (a_cc M_Sa_addSmall) 34 = .ok (.if_icmp .ne 9, 3) := by decide +kernel
theorem d_Sa_addSmall_37 : decode (a_cc M_Sa_addSmall) 37 = .ok (.iload_n 2, 1) := by decide +kernel
theorem d_Sa_addSmall_38 : decode (a_cc M_Sa_addSmall) 38 = .ok (.iconst 5, 1) := by decide +kernel
theorem d_Sa_addSmall_39 : decode (a_cc M_Sa_addSmall) 39 = .ok (.irem, 1) := by decide +kernel
theorem d_Sa_addSmall_40 : decode (a_cc M_Sa_addSmall) 40 = .ok (.goto 4, 3) := by decide +kernel
theorem d_Sa_addSmall_43 : decode (a_cc M_Sa_addSmall) 43 = .ok (.iload_n 2, 1) := by decide +kernel
theorem d_Sa_addSmall_44 : decode (a_cc M_Sa_addSmall) 44 = .ok (.invokestatic 65, 3) := by decide +kernel
theorem d_Sa_addSmall_47 : decode (a_cc M_Sa_addSmall) 47 = .ok (.iastore, 1) := by decide +kernel
theorem d_Sa_addSmall_48 : decode (a_cc M_Sa_addSmall) 48 = .ok (.iload_n 1, 1) := by decide +kernel
theorem d_Sa_addSmall_49 : decode (a_cc M_Sa_addSmall) 49 = .ok (.iconst 1, 1) := by decide +kernel
theorem d_Sa_addSmall_50 : decode (a_cc M_Sa_addSmall) 50 = .ok (.iadd, 1) := by decide +kernel
theorem d_Sa_addSmall_51 : decode (a_cc M_Sa_addSmall) 51 = .ok (.ireturn, 1) := by decide +kernel
theorem cs_Sa_addSmall_44 : a_CS M_Sa_addSmall M_Ri_minus 65 2 2 2 := ⟨⟨ok_Ri_minus, by decide, by decide, by decide⟩, List.mem_append_right _ (List.mem_of_getElem? (i := 700) (by decide +kernel)), List.mem_append_right _ (List.mem_of_getElem? (i := 701) (by decide +kernel)), by decide +kernel⟩
