/-! names, printed by program: methods, their instructions, what they link -/
def M_Mo_sampleWide : a_M := (⟨"ModuleSignerModel", "sampleWide", "([I[BIII)Z"⟩, prog_12_method_49_code, 12, some .boolean, "ModuleSignerModel", 4, 82, [])
theorem ok_Mo_sampleWide : a_Ok M_Mo_sampleWide := ⟨rfl, by decide +kernel, ⟨by decide, by decide⟩, List.mem_append_right _ (List.mem_of_getElem? (i := 11) (by decide +kernel)), Or.inl ⟨rfl, List.mem_append_right _ (List.mem_of_getElem? (i := 1338) (by decide +kernel))⟩⟩
theorem d_Mo_sampleWide_0 : decode (a_cc M_Mo_sampleWide) 0 = .ok (.aload_n 0, 1) := by decide +kernel
theorem d_Mo_sampleWide_1 : decode (a_cc M_Mo_sampleWide) 1 = .ok (.bipush 11, 2) := by decide +kernel
theorem d_Mo_sampleWide_3 : decode (a_cc M_Mo_sampleWide) 3 = .ok (.invokevirtual 148, 3) := by decide +kernel
theorem d_Mo_sampleWide_6 : decode (a_cc M_Mo_sampleWide) 6 = .ok (.aload_n 0, 1) := by decide +kernel
theorem d_Mo_sampleWide_7 : decode (a_cc M_Mo_sampleWide) 7 = .ok (.aload_n 2, 1) := by decide +kernel
theorem d_Mo_sampleWide_8 : decode (a_cc M_Mo_sampleWide) 8 = .ok (.iload_n 3, 1) := by decide +kernel
theorem d_Mo_sampleWide_9 : decode (a_cc M_Mo_sampleWide) 9 = .ok (.bipush 32, 2) := by decide +kernel
theorem d_Mo_sampleWide_11 : decode (a_cc M_Mo_sampleWide) 11 = .ok (.invokevirtual 268, 3) := by decide +kernel
theorem d_Mo_sampleWide_14 : decode (a_cc M_Mo_sampleWide) 14 = .ok (.aload_n 0, 1) := by decide +kernel
theorem d_Mo_sampleWide_15 : decode (a_cc M_Mo_sampleWide) 15 = .ok (.iload 4, 2) := by decide +kernel
theorem d_Mo_sampleWide_17 : decode (a_cc M_Mo_sampleWide) 17 = .ok (.invokevirtual 153, 3) := by decide +kernel
theorem d_Mo_sampleWide_20 : decode (a_cc M_Mo_sampleWide) 20 = .ok (.aload_n 0, 1) := by decide +kernel
theorem d_Mo_sampleWide_21 : decode (a_cc M_Mo_sampleWide) 21 = .ok (.iload 5, 2) := by decide +kernel
theorem d_Mo_sampleWide_23 : decode (a_cc M_Mo_sampleWide) 23 = .ok (.invokevirtual 153, 3) := by decide +kernel
theorem d_Mo_sampleWide_26 : decode (a_cc M_Mo_sampleWide) 26 = .ok (.aload_n 0, 1) := by decide +kernel
theorem d_Mo_sampleWide_27 : decode (a_cc M_Mo_sampleWide) 27 = .ok (.invokevirtual 156, 3) := by decide +kernel
theorem d_Mo_sampleWide_30 : decode (a_cc M_Mo_sampleWide) 30 = .ok (.iconst 0, 1) := by decide +kernel
theorem d_Mo_sampleWide_31 : decode (a_cc M_Mo_sampleWide) 31 = .ok (.istore 6, 2) := by decide +kernel
theorem d_Mo_sampleWide_33 : decode (a_cc M_Mo_sampleWide) 33 = .ok (.iconst 0, 1) := by decide +kernel
theorem d_Mo_sampleWide_34 : decode (a_cc M_Mo_sampleWide) 34 = .ok (.istore 7, 2) := by decide +kernel
theorem d_Mo_sampleWide_36 : decode (a_cc M_Mo_sampleWide) 36 = .ok (.iload 7, 2) := by decide +kernel
theorem d_Mo_sampleWide_38 : decode (a_cc M_Mo_sampleWide) 38 = .ok (.sipush 298, 3) := by decide +kernel
theorem d_Mo_sampleWide_41 : decode (a_cc M_Mo_sampleWide) 41 = .ok (.if_icmp .ge 74, 3) := by decide +kernel
theorem d_Mo_sampleWide_44 : decode (a_cc M_Mo_sampleWide) 44 = .ok (.iload 6, 2) := by decide +kernel
theorem d_Mo_sampleWide_46 : decode (a_cc M_Mo_sampleWide) 46 = .ok (.sipush 256, 3) := by decide +kernel
theorem d_Mo_sampleWide_49 : decode (a_cc M_Mo_sampleWide) 49 = .ok (.if_icmp .ge 66, 3) := by decide +kernel
theorem d_Mo_sampleWide_52 : decode (a_cc M_Mo_sampleWide) 52 = .ok (.aload_n 0, 1) := by decide +kernel
theorem d_Mo_sampleWide_53 : decode (a_cc M_Mo_sampleWide) 53 = .ok (.invokevirtual 212, 3) := by decide +kernel
theorem d_Mo_sampleWide_56 : decode (a_cc M_Mo_sampleWide) 56 = .ok (.istore 8, 2) := by decide +kernel
theorem d_Mo_sampleWide_58 : decode (a_cc M_Mo_sampleWide) 58 = .ok (.aload_n 0, 1) := by decide +kernel
theorem d_Mo_sampleWide_59 : decode (a_cc M_Mo_sampleWide) 59 = .ok (.invokevirtual 212, 3) := by decide +kernel
theorem d_Mo_sampleWide_62 : decode (a_cc M_Mo_sampleWide) 62 = .ok (.istore 9, 2) := by decide +kernel
theorem d_Mo_sampleWide_64 : decode (a_cc M_Mo_sampleWide) 64 = .ok (.aload_n 0, 1) := by decide +kernel
theorem d_Mo_sampleWide_65 : decode (a_cc M_Mo_sampleWide) 65 = .ok (.invokevirtual 212, 3) := by decide +kernel
theorem d_Mo_sampleWide_68 : decode (a_cc M_Mo_sampleWide) 68 = .ok (.istore 10, 2) := by decide +kernel
theorem d_Mo_sampleWide_70 : decode (a_cc M_Mo_sampleWide) 70 = .ok (.iload 8, 2) := by decide +kernel
theorem d_Mo_sampleWide_72 : decode (a_cc M_Mo_sampleWide) 72 = .ok (.sipush 256, 3) := by decide +kernel
theorem d_Mo_sampleWide_75 : decode (a_cc M_Mo_sampleWide) 75 = .ok (.iload 9, 2) := by decide +kernel
theorem d_Mo_sampleWide_77 : decode (a_cc M_Mo_sampleWide) 77 = .ok (.imul, 1) := by decide +kernel
theorem d_Mo_sampleWide_78 : decode (a_cc M_Mo_sampleWide) 78 = .ok (.iadd, 1) := by decide +kernel
theorem d_Mo_sampleWide_79 : decode (a_cc M_Mo_sampleWide) 79 = .ok (.ldc_w 271, 3) := by decide +kernel
theorem d_Mo_sampleWide_82 : decode (a_cc M_Mo_sampleWide) 82 = .ok (.iload 10, 2) := by decide +kernel
theorem d_Mo_sampleWide_84 : decode (a_cc M_Mo_sampleWide) 84 = .ok (.sipush 128, 3) := by decide +kernel
theorem d_Mo_sampleWide_87 : decode (a_cc M_Mo_sampleWide) 87 = .ok (.irem, 1) := by decide +kernel
theorem d_Mo_sampleWide_88 : decode (a_cc M_Mo_sampleWide) 88 = .ok (.imul, 1) := by decide +kernel
theorem d_Mo_sampleWide_89 : decode (a_cc M_Mo_sampleWide) 89 = .ok (.iadd, 1) := by decide +kernel
theorem d_Mo_sampleWide_90 : decode (a_cc M_Mo_sampleWide) 90 = .ok (.istore 11, 2) := by decide +kernel
theorem d_Mo_sampleWide_92 : decode (a_cc M_Mo_sampleWide) 92 = .ok (.iload 11, 2) := by decide +kernel
theorem d_Mo_sampleWide_94 : decode (a_cc M_Mo_sampleWide) 94 = .ok (.ldc_w 264, 3) := by decide +kernel
theorem d_Mo_sampleWide_97 : decode (a_cc M_Mo_sampleWide) 97 = .ok (.if_icmp .ge 12, 3) := by decide +kernel
theorem d_Mo_sampleWide_100 : decode (a_cc M_Mo_sampleWide) 100 = .ok (.aload_n 1, 1) := by decide +kernel
theorem d_Mo_sampleWide_101 : decode (a_cc M_Mo_sampleWide) 101 = .ok (.iload 6, 2) := by decide +kernel
theorem d_Mo_sampleWide_103 : decode (a_cc M_Mo_sampleWide) 103 = .ok (.iload 11, 2) := by decide +kernel
theorem d_Mo_sampleWide_105 : decode (a_cc M_Mo_sampleWide) 105 = .ok (.iastore, 1) := by decide +kernel
theorem d_Mo_sampleWide_106 : decode (a_cc M_Mo_sampleWide) 106 = .ok (.iinc 6 1, 3) := by decide +kernel
theorem d_Mo_sampleWide_109 : decode (a_cc M_Mo_sampleWide) 109 = .ok (.iinc 7 1, 3) := by decide +kernel
theorem d_Mo_sampleWide_112 : decode (a_cc M_Mo_sampleWide) 112 = .ok (.goto (-76), 3) := by decide +kernel
theorem d_Mo_sampleWide_115 : decode (a_cc M_Mo_sampleWide) 115 = .ok (.iload 6, 2) := by decide +kernel
theorem d_Mo_sampleWide_117 : decode (a_cc M_Mo_sampleWide) 117 = .ok (.sipush 256, 3) := by decide +kernel
theorem d_Mo_sampleWide_120 : decode (a_cc M_Mo_sampleWide) 120 = .ok (.if_icmp .ne 7, 3) := by decide +kernel
theorem d_Mo_sampleWide_123 : decode (a_cc M_Mo_sampleWide) 123 = .ok (.iconst 1, 1) := by decide +kernel
theorem d_Mo_sampleWide_124 : decode (a_cc M_Mo_sampleWide) 124 = .ok (.goto 4, 3) := by decide +kernel
theorem d_Mo_sampleWide_127 : decode (a_cc M_Mo_sampleWide) 127 = .ok (.iconst 0, 1) := by decide +kernel
theorem d_Mo_sampleWide_128 : decode (a_cc M_Mo_sampleWide) 128 = .ok (.ireturn, 1) := by decide +kernel
theorem cs_Mo_sampleWide_3 : a_CV M_Mo_sampleWide M_Mo_begin 148 10 2 0 1 := ⟨⟨ok_Mo_begin, by decide, by decide, by decide⟩, by decide, rfl, List.mem_append_right _ (List.mem_of_getElem? (i := 1046) (by decide +kernel)), List.mem_append_right _ (List.mem_of_getElem? (i := 1048) (by decide +kernel)), List.mem_append_left _ (List.mem_of_getElem? (i := 33) (by decide +kernel)), by decide +kernel⟩
theorem cs_Mo_sampleWide_11 : a_CV M_Mo_sampleWide M_Mo_put3 268 10 4 0 3 := ⟨⟨ok_Mo_put3, by decide, by decide, by decide⟩, by decide, rfl, List.mem_append_right _ (List.mem_of_getElem? (i := 1293) (by decide +kernel)), List.mem_append_right _ (List.mem_of_getElem? (i := 1295) (by decide +kernel)), List.mem_append_left _ (List.mem_of_getElem? (i := 44) (by decide +kernel)), by decide +kernel⟩
theorem cs_Mo_sampleWide_17 : a_CV M_Mo_sampleWide M_Mo_put1 153 10 2 0 1 := ⟨⟨ok_Mo_put1, by decide, by decide, by decide⟩, by decide, rfl, List.mem_append_right _ (List.mem_of_getElem? (i := 1058) (by decide +kernel)), List.mem_append_right _ (List.mem_of_getElem? (i := 1060) (by decide +kernel)), List.mem_append_left _ (List.mem_of_getElem? (i := 34) (by decide +kernel)), by decide +kernel⟩
theorem cs_Mo_sampleWide_23 : a_CV M_Mo_sampleWide M_Mo_put1 153 10 2 0 1 := ⟨⟨ok_Mo_put1, by decide, by decide, by decide⟩, by decide, rfl, List.mem_append_right _ (List.mem_of_getElem? (i := 1058) (by decide +kernel)), List.mem_append_right _ (List.mem_of_getElem? (i := 1060) (by decide +kernel)), List.mem_append_left _ (List.mem_of_getElem? (i := 34) (by decide +kernel)), by decide +kernel⟩
theorem cs_Mo_sampleWide_27 : a_CV M_Mo_sampleWide M_Mo_finish 156 10 1 0 0 := ⟨⟨ok_Mo_finish, by decide, by decide, by decide⟩, by decide, rfl, List.mem_append_right _ (List.mem_of_getElem? (i := 1093) (by decide +kernel)), List.mem_append_right _ (List.mem_of_getElem? (i := 1095) (by decide +kernel)), List.mem_append_left _ (List.mem_of_getElem? (i := 40) (by decide +kernel)), by decide +kernel⟩
theorem cs_Mo_sampleWide_53 : a_CV M_Mo_sampleWide M_Mo_squeeze 212 10 1 0 0 := ⟨⟨ok_Mo_squeeze, by decide, by decide, by decide⟩, by decide, rfl, List.mem_append_right _ (List.mem_of_getElem? (i := 1301) (by decide +kernel)), List.mem_append_right _ (List.mem_of_getElem? (i := 1303) (by decide +kernel)), List.mem_append_left _ (List.mem_of_getElem? (i := 46) (by decide +kernel)), by decide +kernel⟩
theorem cs_Mo_sampleWide_59 : a_CV M_Mo_sampleWide M_Mo_squeeze 212 10 1 0 0 := ⟨⟨ok_Mo_squeeze, by decide, by decide, by decide⟩, by decide, rfl, List.mem_append_right _ (List.mem_of_getElem? (i := 1301) (by decide +kernel)), List.mem_append_right _ (List.mem_of_getElem? (i := 1303) (by decide +kernel)), List.mem_append_left _ (List.mem_of_getElem? (i := 46) (by decide +kernel)), by decide +kernel⟩
theorem cs_Mo_sampleWide_65 : a_CV M_Mo_sampleWide M_Mo_squeeze 212 10 1 0 0 := ⟨⟨ok_Mo_squeeze, by decide, by decide, by decide⟩, by decide, rfl, List.mem_append_right _ (List.mem_of_getElem? (i := 1301) (by decide +kernel)), List.mem_append_right _ (List.mem_of_getElem? (i := 1303) (by decide +kernel)), List.mem_append_left _ (List.mem_of_getElem? (i := 46) (by decide +kernel)), by decide +kernel⟩
theorem lc_Mo_271 : Cond.constant "ModuleSignerModel" 271 (Int32.ofInt (65536)) ∈ lw_tbl := List.mem_append_right _ (List.mem_of_getElem? (i := 1339) (by decide +kernel))
def M_Mo_addProducts : a_M := (⟨"ModuleSignerModel", "addProducts", "([I[I[I)V"⟩, prog_12_method_46_code, 4, none, "ModuleSignerModel", 0, 0, [])
theorem ok_Mo_addProducts : a_Ok M_Mo_addProducts := ⟨rfl, by decide +kernel, ⟨by decide, by decide⟩, List.mem_append_right _ (List.mem_of_getElem? (i := 11) (by decide +kernel)), Or.inl ⟨rfl, List.mem_append_right _ (List.mem_of_getElem? (i := 1342) (by decide +kernel))⟩⟩
theorem d_Mo_addProducts_0 : decode (a_cc M_Mo_addProducts) 0 = .ok (.iconst 0, 1) := by decide +kernel
theorem d_Mo_addProducts_1 : decode (a_cc M_Mo_addProducts) 1 = .ok (.istore_n 3, 1) := by decide +kernel
theorem d_Mo_addProducts_2 : decode (a_cc M_Mo_addProducts) 2 = .ok (.iload_n 3, 1) := by decide +kernel
theorem d_Mo_addProducts_3 : decode (a_cc M_Mo_addProducts) 3 = .ok (.sipush 256, 3) := by decide +kernel
theorem d_Mo_addProducts_6 : decode (a_cc M_Mo_addProducts) 6 = .ok (.if_icmp .ge 31, 3) := by decide +kernel
theorem d_Mo_addProducts_9 : decode (a_cc M_Mo_addProducts) 9 = .ok (.aload_n 0, 1) := by decide +kernel
theorem d_Mo_addProducts_10 : decode (a_cc M_Mo_addProducts) 10 = .ok (.iload_n 3, 1) := by decide +kernel
theorem d_Mo_addProducts_11 : decode (a_cc M_Mo_addProducts) 11 = .ok (.aload_n 0, 1) := by decide +kernel
theorem d_Mo_addProducts_12 : decode (a_cc M_Mo_addProducts) 12 = .ok (.iload_n 3, 1) := by decide +kernel
theorem d_Mo_addProducts_13 : decode (a_cc M_Mo_addProducts) 13 = .ok (.iaload, 1) := by decide +kernel
theorem d_Mo_addProducts_14 : decode (a_cc M_Mo_addProducts) 14 = .ok (.i2l, 1) := by decide +kernel
theorem d_Mo_addProducts_15 : decode (a_cc M_Mo_addProducts) 15 = .ok (.aload_n 1, 1) := by decide +kernel
theorem d_Mo_addProducts_16 : decode (a_cc M_Mo_addProducts) 16 = .ok (.iload_n 3, 1) := by decide +kernel
theorem d_Mo_addProducts_17 : decode (a_cc M_Mo_addProducts) 17 = .ok (.iaload, 1) := by decide +kernel
theorem d_Mo_addProducts_18 : decode (a_cc M_Mo_addProducts) 18 = .ok (.i2l, 1) := by decide +kernel
theorem d_Mo_addProducts_19 : decode (a_cc M_Mo_addProducts) 19 = .ok (.aload_n 2, 1) := by decide +kernel
theorem d_Mo_addProducts_20 : decode (a_cc M_Mo_addProducts) 20 = .ok (.iload_n 3, 1) := by decide +kernel
theorem d_Mo_addProducts_21 : decode (a_cc M_Mo_addProducts) 21 = .ok (.iaload, 1) := by decide +kernel
theorem d_Mo_addProducts_22 : decode (a_cc M_Mo_addProducts) 22 = .ok (.i2l, 1) := by decide +kernel
theorem d_Mo_addProducts_23 : decode (a_cc M_Mo_addProducts) 23 = .ok (.lmul, 1) := by decide +kernel
theorem d_Mo_addProducts_24 : decode (a_cc M_Mo_addProducts) 24 = .ok (.ladd, 1) := by decide +kernel
theorem d_Mo_addProducts_25 : decode (a_cc M_Mo_addProducts) 25 = .ok (.ldc2_w 256, 3) := by decide +kernel
theorem d_Mo_addProducts_28 : decode (a_cc M_Mo_addProducts) 28 = .ok (.lrem, 1) := by decide +kernel
theorem d_Mo_addProducts_29 : decode (a_cc M_Mo_addProducts) 29 = .ok (.l2i, 1) := by decide +kernel
theorem d_Mo_addProducts_30 : decode (a_cc M_Mo_addProducts) 30 = .ok (.iastore, 1) := by decide +kernel
theorem d_Mo_addProducts_31 : decode (a_cc M_Mo_addProducts) 31 = .ok (.iinc 3 1, 3) := by decide +kernel
theorem d_Mo_addProducts_34 : decode (a_cc M_Mo_addProducts) 34 = .ok (.goto (-32), 3) := by decide +kernel
theorem d_Mo_addProducts_37 : decode (a_cc M_Mo_addProducts) 37 = .ok (.return_, 1) := by decide +kernel
def M_Mo_interpolate : a_M := (⟨"ModuleSignerModel", "interpolate", "([I)V"⟩, prog_12_method_45_code, 6, none, "ModuleSignerModel", 1, 22, [])
theorem ok_Mo_interpolate : a_Ok M_Mo_interpolate := ⟨rfl, by decide +kernel, ⟨by decide, by decide⟩, List.mem_append_right _ (List.mem_of_getElem? (i := 11) (by decide +kernel)), Or.inl ⟨rfl, List.mem_append_right _ (List.mem_of_getElem? (i := 1346) (by decide +kernel))⟩⟩
theorem d_Mo_interpolate_0 : decode (a_cc M_Mo_interpolate) 0 = .ok (.iconst 0, 1) := by decide +kernel
theorem d_Mo_interpolate_1 : decode (a_cc M_Mo_interpolate) 1 = .ok (.istore_n 2, 1) := by decide +kernel
theorem d_Mo_interpolate_2 : decode (a_cc M_Mo_interpolate) 2 = .ok (.iload_n 2, 1) := by decide +kernel
theorem d_Mo_interpolate_3 : decode (a_cc M_Mo_interpolate) 3 = .ok (.sipush 256, 3) := by decide +kernel
theorem d_Mo_interpolate_6 : decode (a_cc M_Mo_interpolate) 6 = .ok (.if_icmp .ge 87, 3) := by decide +kernel
theorem d_Mo_interpolate_9 : decode (a_cc M_Mo_interpolate) 9 = .ok (.lconst 0, 1) := by decide +kernel
theorem d_Mo_interpolate_10 : decode (a_cc M_Mo_interpolate) 10 = .ok (.lstore_n 3, 1) := by decide +kernel
theorem d_Mo_interpolate_11 : decode (a_cc M_Mo_interpolate) 11 = .ok (.iconst 0, 1) := by decide +kernel
theorem d_Mo_interpolate_12 : decode (a_cc M_Mo_interpolate) 12 = .ok (.istore 5, 2) := by decide +kernel
theorem d_Mo_interpolate_14 : decode (a_cc M_Mo_interpolate) 14 = .ok (.iload 5, 2) := by decide +kernel
theorem d_Mo_interpolate_16 : decode (a_cc M_Mo_interpolate) 16 = .ok (.sipush 256, 3) := by decide +kernel
theorem d_Mo_interpolate_19 : decode (a_cc M_Mo_interpolate) 19 = .ok (.if_icmp .ge 49, 3) := by decide +kernel
theorem d_Mo_interpolate_22 : decode (a_cc M_Mo_interpolate) 22 = .ok (.lload_n 3, 1) := by decide +kernel
theorem d_Mo_interpolate_23 : decode (a_cc M_Mo_interpolate) 23 = .ok (.aload_n 1, 1) := by decide +kernel
theorem d_Mo_interpolate_24 : decode (a_cc M_Mo_interpolate) 24 = .ok (.iload 5, 2) := by decide +kernel
theorem d_Mo_interpolate_26 : decode (a_cc M_Mo_interpolate) 26 = .ok (.iaload, 1) := by decide +kernel
theorem d_Mo_interpolate_27 : decode (a_cc M_Mo_interpolate) 27 = .ok (.i2l, 1) := by decide +kernel
theorem d_Mo_interpolate_28 : decode (a_cc M_Mo_interpolate) 28 = .ok (.aload_n 0, 1) := by decide +kernel
theorem d_Mo_interpolate_29 : decode (a_cc M_Mo_interpolate) 29 = .ok (.getfield 71, 3) := by decide +kernel
theorem d_Mo_interpolate_32 : decode (a_cc M_Mo_interpolate) 32 = .ok (.sipush 512, 3) := by decide +kernel
theorem d_Mo_interpolate_35 : decode (a_cc M_Mo_interpolate) 35 = .ok (.iconst 2, 1) := by decide +kernel
theorem d_Mo_interpolate_36 : decode (a_cc M_Mo_interpolate) 36 = .ok (.iload 5, 2) := by decide +kernel
theorem d_Mo_interpolate_38 : decode (a_cc M_Mo_interpolate) 38 = .ok (.bipush 8, 2) := by decide +kernel
theorem d_Mo_interpolate_40 : decode (a_cc M_Mo_interpolate) 40 = .ok (.invokestatic 258, 3) := by decide +kernel
theorem d_Mo_interpolate_43 : decode (a_cc M_Mo_interpolate) 43 = .ok (.imul, 1) := by decide +kernel
theorem d_Mo_interpolate_44 : decode (a_cc M_Mo_interpolate) 44 = .ok (.iconst 1, 1) := by decide +kernel
theorem d_Mo_interpolate_45 : decode (a_cc M_Mo_interpolate) 45 = .ok (.iadd, 1) := by decide +kernel
theorem d_Mo_interpolate_46 : decode (a_cc M_Mo_interpolate) 46 = .ok (.iload_n 2, 1) := by decide +kernel
theorem d_Mo_interpolate_47 : decode (a_cc M_Mo_interpolate) 47 = .ok (.imul, 1) := by decide +kernel
theorem d_Mo_interpolate_48 : decode (a_cc M_Mo_interpolate) 48 = .ok (.sipush 511, 3) := by decide +kernel
theorem d_Mo_interpolate_51 : decode (a_cc M_Mo_interpolate) 51 = .ok (.iand, 1) := by decide +kernel
theorem d_Mo_interpolate_52 : decode (a_cc M_Mo_interpolate) 52 = .ok (.isub, 1) := by decide +kernel
theorem d_Mo_interpolate_53 : decode (a_cc M_Mo_interpolate) 53 = .ok (.sipush 511, 3) := by decide +kernel
theorem d_Mo_interpolate_56 : decode (a_cc M_Mo_interpolate) 56 = .ok (.iand, 1) := by decide +kernel
theorem d_Mo_interpolate_57 : decode (a_cc M_Mo_interpolate) 57 = .ok (.iaload, 1) := by decide +kernel
theorem d_Mo_interpolate_58 : decode (a_cc M_Mo_interpolate) 58 = .ok (.i2l, 1) := by decide +kernel
theorem d_Mo_interpolate_59 : decode (a_cc M_Mo_interpolate) 59 = .ok (.lmul, 1) := by decide +kernel
theorem d_Mo_interpolate_60 : decode (a_cc M_Mo_interpolate) 60 = .ok (.ladd, 1) := by decide +kernel
theorem d_Mo_interpolate_61 : decode (a_cc M_Mo_interpolate) 61 = .ok (.lstore_n 3, 1) := by decide +kernel
theorem d_Mo_interpolate_62 : decode (a_cc M_Mo_interpolate) 62 = .ok (.iinc 5 1, 3) := by decide +kernel
theorem d_Mo_interpolate_65 : decode (a_cc M_Mo_interpolate) 65 = .ok (.goto (-51), 3) := by decide +kernel
theorem d_Mo_interpolate_68 : decode (a_cc M_Mo_interpolate) 68 = .ok (.aload_n 0, 1) := by decide +kernel
theorem d_Mo_interpolate_69 : decode (a_cc M_Mo_interpolate) 69 = .ok (.getfield 65, 3) := by decide +kernel
theorem d_Mo_interpolate_72 : decode (a_cc M_Mo_interpolate) 72 = .ok (.iload_n 2, 1) := by decide +kernel
theorem d_Mo_interpolate_73 : decode (a_cc M_Mo_interpolate) 73 = .ok (.lload_n 3, 1) := by decide +kernel
theorem d_Mo_interpolate_74 : decode (a_cc M_Mo_interpolate) 74 = .ok (.ldc2_w 256, 3) := by decide +kernel
theorem d_Mo_interpolate_77 : decode (a_cc M_Mo_interpolate) 77 = .ok (.lrem, 1) := by decide +kernel
theorem d_Mo_interpolate_78 : decode (a_cc M_Mo_interpolate) 78 = .ok (.ldc2_w 261, 3) := by decide +kernel
theorem d_Mo_interpolate_81 : decode (a_cc M_Mo_interpolate) 81 = .ok (.lmul, 1) := by decide +kernel
theorem d_Mo_interpolate_82 : decode (a_cc M_Mo_interpolate) 82 = .ok (.ldc2_w 256, 3) := by decide +kernel
theorem d_Mo_interpolate_85 : decode (a_cc M_Mo_interpolate) 85 = .ok (.lrem, 1) := by decide +kernel
theorem d_Mo_interpolate_86 : decode (a_cc M_Mo_interpolate) 86 = .ok (.lastore, 1) := by decide +kernel
theorem d_Mo_interpolate_87 : decode (a_cc M_Mo_interpolate) 87 = .ok (.iinc 2 1, 3) := by decide +kernel
theorem d_Mo_interpolate_90 : decode (a_cc M_Mo_interpolate) 90 = .ok (.goto (-88), 3) := by decide +kernel
theorem d_Mo_interpolate_93 : decode (a_cc M_Mo_interpolate) 93 = .ok (.iconst 0, 1) := by decide +kernel
theorem d_Mo_interpolate_94 : decode (a_cc M_Mo_interpolate) 94 = .ok (.istore_n 2, 1) := by decide +kernel
theorem d_Mo_interpolate_95 : decode (a_cc M_Mo_interpolate) 95 = .ok (.iload_n 2, 1) := by decide +kernel
theorem d_Mo_interpolate_96 : decode (a_cc M_Mo_interpolate) 96 = .ok (.sipush 256, 3) := by decide +kernel
theorem d_Mo_interpolate_99 : decode (a_cc M_Mo_interpolate) 99 = .ok (.if_icmp .ge 19, 3) := by decide +kernel
theorem d_Mo_interpolate_102 : decode (a_cc M_Mo_interpolate) 102 = .ok (.aload_n 1, 1) := by decide +kernel
theorem d_Mo_interpolate_103 : decode (a_cc M_Mo_interpolate) 103 = .ok (.iload_n 2, 1) := by decide +kernel
theorem d_Mo_interpolate_104 : decode (a_cc M_Mo_interpolate) 104 = .ok (.aload_n 0, 1) := by decide +kernel
theorem d_Mo_interpolate_105 : decode (a_cc M_Mo_interpolate) 105 = .ok (.getfield 65, 3) := by decide +kernel
theorem d_Mo_interpolate_108 : decode (a_cc M_Mo_interpolate) 108 = .ok (.iload_n 2, 1) := by decide +kernel
theorem d_Mo_interpolate_109 : decode (a_cc M_Mo_interpolate) 109 = .ok (.laload, 1) := by decide +kernel
theorem d_Mo_interpolate_110 : decode (a_cc M_Mo_interpolate) 110 = .ok (.l2i, 1) := by decide +kernel
theorem d_Mo_interpolate_111 : decode (a_cc M_Mo_interpolate) 111 = .ok (.iastore, 1) := by decide +kernel
theorem d_Mo_interpolate_112 : decode (a_cc M_Mo_interpolate) 112 = .ok (.iinc 2 1, 3) := by decide +kernel
theorem d_Mo_interpolate_115 : decode (a_cc M_Mo_interpolate) 115 = .ok (.goto (-20), 3) := by decide +kernel
theorem d_Mo_interpolate_118 : decode (a_cc M_Mo_interpolate) 118 = .ok (.return_, 1) := by decide +kernel
theorem cs_Mo_interpolate_40 : a_CS M_Mo_interpolate M_Mo_turned 258 2 7 2 := ⟨⟨ok_Mo_turned, by decide, by decide, by decide⟩, List.mem_append_right _ (List.mem_of_getElem? (i := 1329) (by decide +kernel)), List.mem_append_right _ (List.mem_of_getElem? (i := 1330) (by decide +kernel)), by decide +kernel⟩
theorem lc_Mo_261 : Cond.constantLong "ModuleSignerModel" 261 (Int64.ofInt (8347681)) ∈ lw_tbl := List.mem_append_right _ (List.mem_of_getElem? (i := 1347) (by decide +kernel))
def M_Mo_move : a_M := (⟨"ModuleSignerModel", "move", "([BI[BII)V"⟩, prog_12_method_14_code, 6, none, "ModuleSignerModel", 0, 0, [])
theorem ok_Mo_move : a_Ok M_Mo_move := ⟨rfl, by decide +kernel, ⟨by decide, by decide⟩, List.mem_append_right _ (List.mem_of_getElem? (i := 11) (by decide +kernel)), Or.inl ⟨rfl, List.mem_append_right _ (List.mem_of_getElem? (i := 1350) (by decide +kernel))⟩⟩
theorem d_Mo_move_0 : decode (a_cc M_Mo_move) 0 = .ok (.iconst 0, 1) := by decide +kernel
theorem d_Mo_move_1 : decode (a_cc M_Mo_move) 1 = .ok (.istore 5, 2) := by decide +kernel
theorem d_Mo_move_3 : decode (a_cc M_Mo_move) 3 = .ok (.iload 5, 2) := by decide +kernel
theorem d_Mo_move_5 : decode (a_cc M_Mo_move) 5 = .ok (.iload 4, 2) := by decide +kernel
theorem d_Mo_move_7 : decode (a_cc M_Mo_move) 7 = .ok (.if_icmp .ge 21, 3) := by decide +kernel
theorem d_Mo_move_10 : decode (a_cc M_Mo_move) 10 = .ok (.aload_n 2, 1) := by decide +kernel
theorem d_Mo_move_11 : decode (a_cc M_Mo_move) 11 = .ok (.iload_n 3, 1) := by decide +kernel
theorem d_Mo_move_12 : decode (a_cc M_Mo_move) 12 = .ok (.iload 5, 2) := by decide +kernel
theorem d_Mo_move_14 : decode (a_cc M_Mo_move) 14 = .ok (.iadd, 1) := by decide +kernel
theorem d_Mo_move_15 : decode (a_cc M_Mo_move) 15 = .ok (.aload_n 0, 1) := by decide +kernel
theorem d_Mo_move_16 : decode (a_cc M_Mo_move) 16 = .ok (.iload_n 1, 1) := by decide +kernel
theorem d_Mo_move_17 : decode (a_cc M_Mo_move) 17 = .ok (.iload 5, 2) := by decide +kernel
theorem d_Mo_move_19 : decode (a_cc M_Mo_move) 19 = .ok (.iadd, 1) := by decide +kernel
theorem d_Mo_move_20 : decode (a_cc M_Mo_move) 20 = .ok (.baload, 1) := by decide +kernel
theorem d_Mo_move_21 : decode (a_cc M_Mo_move) 21 = .ok (.bastore, 1) := by decide +kernel
theorem d_Mo_move_22 : decode (a_cc M_Mo_move) 22 = .ok (.iinc 5 1, 3) := by decide +kernel
theorem d_Mo_move_25 : decode (a_cc M_Mo_move) 25 = .ok (.goto (-22), 3) := by decide +kernel
theorem d_Mo_move_28 : decode (a_cc M_Mo_move) 28 = .ok (.return_, 1) := by decide +kernel
def M_Mo_secretLength : a_M := (⟨"ModuleSignerModel", "secretLength", "()I"⟩, prog_12_method_57_code, 1, some .int, "ModuleSignerModel", 0, 0, [])
theorem ok_Mo_secretLength : a_Ok M_Mo_secretLength := ⟨rfl, by decide +kernel, ⟨by decide, by decide⟩, List.mem_append_right _ (List.mem_of_getElem? (i := 11) (by decide +kernel)), Or.inl ⟨rfl, List.mem_append_right _ (List.mem_of_getElem? (i := 1354) (by decide +kernel))⟩⟩
theorem d_Mo_secretLength_0 : decode (a_cc M_Mo_secretLength) 0 = .ok (.sipush 128, 3) := by decide +kernel
theorem d_Mo_secretLength_3 : decode (a_cc M_Mo_secretLength) 3 = .ok (.bipush 32, 2) := by decide +kernel
theorem d_Mo_secretLength_5 : decode (a_cc M_Mo_secretLength) 5 = .ok (.aload_n 0, 1) := by decide +kernel
theorem d_Mo_secretLength_6 : decode (a_cc M_Mo_secretLength) 6 = .ok (.getfield 226, 3) := by decide +kernel
theorem d_Mo_secretLength_9 : decode (a_cc M_Mo_secretLength) 9 = .ok (.aload_n 0, 1) := by decide +kernel
theorem d_Mo_secretLength_10 : decode (a_cc M_Mo_secretLength) 10 = .ok (.getfield 223, 3) := by decide +kernel
theorem d_Mo_secretLength_13 : decode (a_cc M_Mo_secretLength) 13 = .ok (.iadd, 1) := by decide +kernel
theorem d_Mo_secretLength_14 : decode (a_cc M_Mo_secretLength) 14 = .ok (.aload_n 0, 1) := by decide +kernel
theorem d_Mo_secretLength_15 : decode (a_cc M_Mo_secretLength) 15 = .ok (.getfield 229, 3) := by decide +kernel
theorem d_Mo_secretLength_18 : decode (a_cc M_Mo_secretLength) 18 = .ok (.iconst 2, 1) := by decide +kernel
theorem d_Mo_secretLength_19 : decode (a_cc M_Mo_secretLength) 19 = .ok (.if_icmp .ne 7, 3) := by decide +kernel
theorem d_Mo_secretLength_22 : decode (a_cc M_Mo_secretLength) 22 = .ok (.iconst 3, 1) := by decide +kernel
theorem d_Mo_secretLength_23 : decode (a_cc M_Mo_secretLength) 23 = .ok (.goto 4, 3) := by decide +kernel
theorem d_Mo_secretLength_26 : decode (a_cc M_Mo_secretLength) 26 = .ok (.iconst 4, 1) := by decide +kernel
theorem d_Mo_secretLength_27 : decode (a_cc M_Mo_secretLength) 27 = .ok (.imul, 1) := by decide +kernel
theorem d_Mo_secretLength_28 : decode (a_cc M_Mo_secretLength) 28 = .ok (.bipush 13, 2) := by decide +kernel
theorem d_Mo_secretLength_30 : decode (a_cc M_Mo_secretLength) 30 = .ok (.aload_n 0, 1) := by decide +kernel
theorem d_Mo_secretLength_31 : decode (a_cc M_Mo_secretLength) 31 = .ok (.getfield 223, 3) := by decide +kernel
theorem d_Mo_secretLength_34 : decode (a_cc M_Mo_secretLength) 34 = .ok (.imul, 1) := by decide +kernel
theorem d_Mo_secretLength_35 : decode (a_cc M_Mo_secretLength) 35 = .ok (.iadd, 1) := by decide +kernel
theorem d_Mo_secretLength_36 : decode (a_cc M_Mo_secretLength) 36 = .ok (.imul, 1) := by decide +kernel
theorem d_Mo_secretLength_37 : decode (a_cc M_Mo_secretLength) 37 = .ok (.iadd, 1) := by decide +kernel
theorem d_Mo_secretLength_38 : decode (a_cc M_Mo_secretLength) 38 = .ok (.ireturn, 1) := by decide +kernel
def M_Mo_dsaKeys : a_M := (⟨"ModuleSignerModel", "dsaKeys", "(I)I"⟩, prog_12_method_59_code, 9, some .int, "ModuleSignerModel", 5, 106, [])
theorem ok_Mo_dsaKeys : a_Ok M_Mo_dsaKeys := ⟨rfl, by decide +kernel, ⟨by decide, by decide⟩, List.mem_append_right _ (List.mem_of_getElem? (i := 11) (by decide +kernel)), Or.inl ⟨rfl, List.mem_append_right _ (List.mem_of_getElem? (i := 1282) (by decide +kernel))⟩⟩
theorem d_Mo_dsaKeys_0 : decode (a_cc M_Mo_dsaKeys) 0 = .ok (.aload_n 0, 1) := by decide +kernel
theorem d_Mo_dsaKeys_1 : decode (a_cc M_Mo_dsaKeys) 1 = .ok (.iload_n 1, 1) := by decide +kernel
theorem d_Mo_dsaKeys_2 : decode (a_cc M_Mo_dsaKeys) 2 = .ok (.iconst 0, 1) := by decide +kernel
theorem d_Mo_dsaKeys_3 : decode (a_cc M_Mo_dsaKeys) 3 = .ok (.iconst 2, 1) := by decide +kernel
theorem d_Mo_dsaKeys_4 : decode (a_cc M_Mo_dsaKeys) 4 = .ok (.invokestatic 120, 3) := by decide +kernel
theorem d_Mo_dsaKeys_7 : decode (a_cc M_Mo_dsaKeys) 7 = .ok (.iconst 1, 1) := by decide +kernel
theorem d_Mo_dsaKeys_8 : decode (a_cc M_Mo_dsaKeys) 8 = .ok (.invokevirtual 112, 3) := by decide +kernel
theorem d_Mo_dsaKeys_11 : decode (a_cc M_Mo_dsaKeys) 11 = .ok (.ifCond .eq 27, 3) := by decide +kernel
theorem d_Mo_dsaKeys_14 : decode (a_cc M_Mo_dsaKeys) 14 = .ok (.aload_n 0, 1) := by decide +kernel
theorem d_Mo_dsaKeys_15 : decode (a_cc M_Mo_dsaKeys) 15 = .ok (.aload_n 0, 1) := by decide +kernel
theorem d_Mo_dsaKeys_16 : decode (a_cc M_Mo_dsaKeys) 16 = .ok (.getfield 18, 3) := by decide +kernel
theorem d_Mo_dsaKeys_19 : decode (a_cc M_Mo_dsaKeys) 19 = .ok (.iconst 0, 1) := by decide +kernel
theorem d_Mo_dsaKeys_20 : decode (a_cc M_Mo_dsaKeys) 20 = .ok (.iaload, 1) := by decide +kernel
theorem d_Mo_dsaKeys_21 : decode (a_cc M_Mo_dsaKeys) 21 = .ok (.bipush 32, 2) := by decide +kernel
theorem d_Mo_dsaKeys_23 : decode (a_cc M_Mo_dsaKeys) 23 = .ok (.if_icmp .ne 7, 3) := by decide +kernel
theorem d_Mo_dsaKeys_26 : decode (a_cc M_Mo_dsaKeys) 26 = .ok (.iconst 1, 1) := by decide +kernel
theorem d_Mo_dsaKeys_27 : decode (a_cc M_Mo_dsaKeys) 27 = .ok (.goto 4, 3) := by decide +kernel
theorem d_Mo_dsaKeys_30 : decode (a_cc M_Mo_dsaKeys) 30 = .ok (.iconst 0, 1) := by decide +kernel
theorem d_Mo_dsaKeys_31 : decode (a_cc M_Mo_dsaKeys) 31 = .ok (.iconst 2, 1) := by decide +kernel
theorem d_Mo_dsaKeys_32 : decode (a_cc M_Mo_dsaKeys) 32 = .ok (.invokevirtual 112, 3) := by decide +kernel
theorem d_Mo_dsaKeys_35 : decode (a_cc M_Mo_dsaKeys) 35 = .ok (.ifCond .ne 5, 3) := by decide +kernel
theorem d_Mo_dsaKeys_38 : decode (a_cc M_Mo_dsaKeys) 38 = .ok (.iconst 0, 1) := by decide +kernel
theorem d_Mo_dsaKeys_39 : decode (a_cc M_Mo_dsaKeys) 39 = .ok (.ireturn, 1) := by decide +kernel
theorem d_Mo_dsaKeys_40 : decode (a_cc M_Mo_dsaKeys) 40 = .ok (.aload_n 0, 1) := by decide +kernel
theorem d_Mo_dsaKeys_41 : decode (a_cc M_Mo_dsaKeys) 41 = .ok (.iload_n 1, 1) := by decide +kernel
theorem d_Mo_dsaKeys_42 : decode (a_cc M_Mo_dsaKeys) 42 = .ok (.invokevirtual 287, 3) := by decide +kernel
theorem d_Mo_dsaKeys_45 : decode (a_cc M_Mo_dsaKeys) 45 = .ok (.aload_n 0, 1) := by decide +kernel
theorem d_Mo_dsaKeys_46 : decode (a_cc M_Mo_dsaKeys) 46 = .ok (.bipush 12, 2) := by decide +kernel
theorem d_Mo_dsaKeys_48 : decode (a_cc M_Mo_dsaKeys) 48 = .ok (.invokevirtual 148, 3) := by decide +kernel
theorem d_Mo_dsaKeys_51 : decode (a_cc M_Mo_dsaKeys) 51 = .ok (.aload_n 0, 1) := by decide +kernel
theorem d_Mo_dsaKeys_52 : decode (a_cc M_Mo_dsaKeys) 52 = .ok (.aload_n 0, 1) := by decide +kernel
theorem d_Mo_dsaKeys_53 : decode (a_cc M_Mo_dsaKeys) 53 = .ok (.getfield 15, 3) := by decide +kernel
theorem d_Mo_dsaKeys_56 : decode (a_cc M_Mo_dsaKeys) 56 = .ok (.iconst 0, 1) := by decide +kernel
theorem d_Mo_dsaKeys_57 : decode (a_cc M_Mo_dsaKeys) 57 = .ok (.aaload, 1) := by decide +kernel
theorem d_Mo_dsaKeys_58 : decode (a_cc M_Mo_dsaKeys) 58 = .ok (.iconst 0, 1) := by decide +kernel
theorem d_Mo_dsaKeys_59 : decode (a_cc M_Mo_dsaKeys) 59 = .ok (.bipush 32, 2) := by decide +kernel
theorem d_Mo_dsaKeys_61 : decode (a_cc M_Mo_dsaKeys) 61 = .ok (.invokevirtual 268, 3) := by decide +kernel
theorem d_Mo_dsaKeys_64 : decode (a_cc M_Mo_dsaKeys) 64 = .ok (.aload_n 0, 1) := by decide +kernel
theorem d_Mo_dsaKeys_65 : decode (a_cc M_Mo_dsaKeys) 65 = .ok (.aload_n 0, 1) := by decide +kernel
theorem d_Mo_dsaKeys_66 : decode (a_cc M_Mo_dsaKeys) 66 = .ok (.getfield 223, 3) := by decide +kernel
theorem d_Mo_dsaKeys_69 : decode (a_cc M_Mo_dsaKeys) 69 = .ok (.invokevirtual 153, 3) := by decide +kernel
theorem d_Mo_dsaKeys_72 : decode (a_cc M_Mo_dsaKeys) 72 = .ok (.aload_n 0, 1) := by decide +kernel
theorem d_Mo_dsaKeys_73 : decode (a_cc M_Mo_dsaKeys) 73 = .ok (.aload_n 0, 1) := by decide +kernel
theorem d_Mo_dsaKeys_74 : decode (a_cc M_Mo_dsaKeys) 74 = .ok (.getfield 226, 3) := by decide +kernel
theorem d_Mo_dsaKeys_77 : decode (a_cc M_Mo_dsaKeys) 77 = .ok (.invokevirtual 153, 3) := by decide +kernel
theorem d_Mo_dsaKeys_80 : decode (a_cc M_Mo_dsaKeys) 80 = .ok (.aload_n 0, 1) := by decide +kernel
theorem d_Mo_dsaKeys_81 : decode (a_cc M_Mo_dsaKeys) 81 = .ok (.aload_n 0, 1) := by decide +kernel
theorem d_Mo_dsaKeys_82 : decode (a_cc M_Mo_dsaKeys) 82 = .ok (.getfield 68, 3) := by decide +kernel
theorem d_Mo_dsaKeys_85 : decode (a_cc M_Mo_dsaKeys) 85 = .ok (.iconst 0, 1) := by decide +kernel
theorem d_Mo_dsaKeys_86 : decode (a_cc M_Mo_dsaKeys) 86 = .ok (.sipush 128, 3) := by decide +kernel
theorem d_Mo_dsaKeys_89 : decode (a_cc M_Mo_dsaKeys) 89 = .ok (.invokevirtual 290, 3) := by decide +kernel
theorem d_Mo_dsaKeys_92 : decode (a_cc M_Mo_dsaKeys) 92 = .ok (.iconst 1, 1) := by decide +kernel
theorem d_Mo_dsaKeys_93 : decode (a_cc M_Mo_dsaKeys) 93 = .ok (.istore_n 2, 1) := by decide +kernel
theorem d_Mo_dsaKeys_94 : decode (a_cc M_Mo_dsaKeys) 94 = .ok (.iconst 0, 1) := by decide +kernel
theorem d_Mo_dsaKeys_95 : decode (a_cc M_Mo_dsaKeys) 95 = .ok (.istore_n 3, 1) := by decide +kernel
theorem d_Mo_dsaKeys_96 : decode (a_cc M_Mo_dsaKeys) 96 = .ok (.iload_n 3, 1) := by decide +kernel
theorem d_Mo_dsaKeys_97 : decode (a_cc M_Mo_dsaKeys) 97 = .ok (.aload_n 0, 1) := by decide +kernel
theorem d_Mo_dsaKeys_98 : decode (a_cc M_Mo_dsaKeys) 98 = .ok (.getfield 226, 3) := by decide +kernel
theorem d_Mo_dsaKeys_101 : decode (a_cc M_Mo_dsaKeys) 101 = .ok (.aload_n 0, 1) := by decide +kernel
theorem d_Mo_dsaKeys_102 : decode (a_cc M_Mo_dsaKeys) 102 = .ok (.getfield 223, 3) := by decide +kernel
theorem d_Mo_dsaKeys_105 : decode (a_cc M_Mo_dsaKeys) 105 = .ok (.iadd, 1) := by decide +kernel
theorem d_Mo_dsaKeys_106 : decode (a_cc M_Mo_dsaKeys) 106 = .ok (.if_icmp .ge 39, 3) := by decide +kernel
theorem d_Mo_dsaKeys_109 : decode (a_cc M_Mo_dsaKeys) 109 = .ok (.aload_n 0, 1) := by decide +kernel
theorem d_Mo_dsaKeys_110 : decode (a_cc M_Mo_dsaKeys) 110 = .ok (.aload_n 0, 1) := by decide +kernel
theorem d_Mo_dsaKeys_111 : decode (a_cc M_Mo_dsaKeys) 111 = .ok (.getfield 76, 3) := by decide +kernel
theorem d_Mo_dsaKeys_114 : decode (a_cc M_Mo_dsaKeys) 114 = .ok (.iload_n 3, 1) := by decide +kernel
theorem d_Mo_dsaKeys_115 : decode (a_cc M_Mo_dsaKeys) 115 = .ok (.aaload, 1) := by decide +kernel
theorem d_Mo_dsaKeys_116 : decode (a_cc M_Mo_dsaKeys) 116 = .ok (.aload_n 0, 1) := by decide +kernel
theorem d_Mo_dsaKeys_117 : decode (a_cc M_Mo_dsaKeys) 117 = .ok (.getfield 68, 3) := by decide +kernel
theorem d_Mo_dsaKeys_120 : decode (a_cc M_Mo_dsaKeys) 120 = .ok (.bipush 32, 2) := by decide +kernel
theorem d_Mo_dsaKeys_122 : decode (a_cc M_Mo_dsaKeys) 122 = .ok (.iload_n 3, 1) := by decide +kernel
theorem d_Mo_dsaKeys_123 : decode (a_cc M_Mo_dsaKeys) 123 = .ok (.invokevirtual 293, 3) := by decide +kernel
theorem d_Mo_dsaKeys_126 : decode (a_cc M_Mo_dsaKeys) 126 = .ok (.ifCond .eq 11, 3) := by decide +kernel
theorem d_Mo_dsaKeys_129 : decode (a_cc M_Mo_dsaKeys) 129 = .ok (.iload_n 2, 1) := by decide +kernel
theorem d_Mo_dsaKeys_130 : decode (a_cc M_Mo_dsaKeys) 130 = .ok (.ifCond .eq 7, 3) := by decide +kernel
theorem d_Mo_dsaKeys_133 : decode (a_cc M_Mo_dsaKeys) 133 = .ok (.iconst 1, 1) := by decide +kernel
theorem d_Mo_dsaKeys_134 : decode (a_cc M_Mo_dsaKeys) 134 = .ok (.goto 4, 3) := by decide +kernel
theorem d_Mo_dsaKeys_137 : decode (a_cc M_Mo_dsaKeys) 137 = .ok (.iconst 0, 1) := by decide +kernel
theorem d_Mo_dsaKeys_138 : decode (a_cc M_Mo_dsaKeys) 138 = .ok (.istore_n 2, 1) := by decide +kernel
theorem d_Mo_dsaKeys_139 : decode (a_cc M_Mo_dsaKeys) 139 = .ok (.iinc 3 1, 3) := by decide +kernel
theorem d_Mo_dsaKeys_142 : decode (a_cc M_Mo_dsaKeys) 142 = .ok (.goto (-46), 3) := by decide +kernel
theorem d_Mo_dsaKeys_145 : decode (a_cc M_Mo_dsaKeys) 145 = .ok (.aload_n 0, 1) := by decide +kernel
theorem d_Mo_dsaKeys_146 : decode (a_cc M_Mo_dsaKeys) 146 = .ok (.iload_n 2, 1) := by decide +kernel
theorem d_Mo_dsaKeys_147 : decode (a_cc M_Mo_dsaKeys) 147 = .ok (.iconst 3, 1) := by decide +kernel
theorem d_Mo_dsaKeys_148 : decode (a_cc M_Mo_dsaKeys) 148 = .ok (.invokevirtual 112, 3) := by decide +kernel
theorem d_Mo_dsaKeys_151 : decode (a_cc M_Mo_dsaKeys) 151 = .ok (.ifCond .ne 5, 3) := by decide +kernel
theorem d_Mo_dsaKeys_154 : decode (a_cc M_Mo_dsaKeys) 154 = .ok (.iconst 0, 1) := by decide +kernel
theorem d_Mo_dsaKeys_155 : decode (a_cc M_Mo_dsaKeys) 155 = .ok (.ireturn, 1) := by decide +kernel
theorem d_Mo_dsaKeys_156 : decode (a_cc M_Mo_dsaKeys) 156 = .ok (.aload_n 0, 1) := by decide +kernel
theorem d_Mo_dsaKeys_157 : decode (a_cc M_Mo_dsaKeys) 157 = .ok (.getfield 229, 3) := by decide +kernel
theorem d_Mo_dsaKeys_160 : decode (a_cc M_Mo_dsaKeys) 160 = .ok (.iconst 2, 1) := by decide +kernel
theorem d_Mo_dsaKeys_161 : decode (a_cc M_Mo_dsaKeys) 161 = .ok (.if_icmp .ne 7, 3) := by decide +kernel
theorem d_Mo_dsaKeys_164 : decode (a_cc M_Mo_dsaKeys) 164 = .ok (.iconst 3, 1) := by decide +kernel
theorem d_Mo_dsaKeys_165 : decode (a_cc M_Mo_dsaKeys) 165 = .ok (.goto 4, 3) := by decide +kernel
theorem d_Mo_dsaKeys_168 : decode (a_cc M_Mo_dsaKeys) 168 = .ok (.iconst 4, 1) := by decide +kernel
theorem d_Mo_dsaKeys_169 : decode (a_cc M_Mo_dsaKeys) 169 = .ok (.istore_n 3, 1) := by decide +kernel
theorem d_Mo_dsaKeys_170 : decode (a_cc M_Mo_dsaKeys) 170 = .ok (.aload_n 0, 1) := by decide +kernel
theorem d_Mo_dsaKeys_171 : decode (a_cc M_Mo_dsaKeys) 171 = .ok (.iconst 0, 1) := by decide +kernel
theorem d_Mo_dsaKeys_172 : decode (a_cc M_Mo_dsaKeys) 172 = .ok (.putfield 216, 3) := by decide +kernel
theorem d_Mo_dsaKeys_175 : decode (a_cc M_Mo_dsaKeys) 175 = .ok (.iconst 0, 1) := by decide +kernel
theorem d_Mo_dsaKeys_176 : decode (a_cc M_Mo_dsaKeys) 176 = .ok (.istore 4, 2) := by decide +kernel
theorem d_Mo_dsaKeys_178 : decode (a_cc M_Mo_dsaKeys) 178 = .ok (.iload 4, 2) := by decide +kernel
theorem d_Mo_dsaKeys_180 : decode (a_cc M_Mo_dsaKeys) 180 = .ok (.aload_n 0, 1) := by decide +kernel
theorem d_Mo_dsaKeys_181 : decode (a_cc M_Mo_dsaKeys) 181 = .ok (.getfield 226, 3) := by decide +kernel
theorem d_Mo_dsaKeys_184 : decode (a_cc M_Mo_dsaKeys) 184 = .ok (.aload_n 0, 1) := by decide +kernel
theorem d_Mo_dsaKeys_185 : decode (a_cc M_Mo_dsaKeys) 185 = .ok (.getfield 223, 3) := by decide +kernel
theorem d_Mo_dsaKeys_188 : decode (a_cc M_Mo_dsaKeys) 188 = .ok (.iadd, 1) := by decide +kernel
theorem d_Mo_dsaKeys_189 : decode (a_cc M_Mo_dsaKeys) 189 = .ok (.if_icmp .ge 30, 3) := by decide +kernel
theorem d_Mo_dsaKeys_192 : decode (a_cc M_Mo_dsaKeys) 192 = .ok (.aload_n 0, 1) := by decide +kernel
theorem d_Mo_dsaKeys_193 : decode (a_cc M_Mo_dsaKeys) 193 = .ok (.aload_n 0, 1) := by decide +kernel
theorem d_Mo_dsaKeys_194 : decode (a_cc M_Mo_dsaKeys) 194 = .ok (.getfield 84, 3) := by decide +kernel
theorem d_Mo_dsaKeys_197 : decode (a_cc M_Mo_dsaKeys) 197 = .ok (.iconst 0, 1) := by decide +kernel
theorem d_Mo_dsaKeys_198 : decode (a_cc M_Mo_dsaKeys) 198 = .ok (.aload_n 0, 1) := by decide +kernel
theorem d_Mo_dsaKeys_199 : decode (a_cc M_Mo_dsaKeys) 199 = .ok (.getfield 76, 3) := by decide +kernel
theorem d_Mo_dsaKeys_202 : decode (a_cc M_Mo_dsaKeys) 202 = .ok (.iload 4, 2) := by decide +kernel
theorem d_Mo_dsaKeys_204 : decode (a_cc M_Mo_dsaKeys) 204 = .ok (.aaload, 1) := by decide +kernel
theorem d_Mo_dsaKeys_205 : decode (a_cc M_Mo_dsaKeys) 205 = .ok (.aload_n 0, 1) := by decide +kernel
theorem d_Mo_dsaKeys_206 : decode (a_cc M_Mo_dsaKeys) 206 = .ok (.getfield 229, 3) := by decide +kernel
theorem d_Mo_dsaKeys_209 : decode (a_cc M_Mo_dsaKeys) 209 = .ok (.iload_n 3, 1) := by decide +kernel
theorem d_Mo_dsaKeys_210 : decode (a_cc M_Mo_dsaKeys) 210 = .ok (.invokevirtual 297, 3) := by decide +kernel
theorem d_Mo_dsaKeys_213 : decode (a_cc M_Mo_dsaKeys) 213 = .ok (.iinc 4 1, 3) := by decide +kernel
theorem d_Mo_dsaKeys_216 : decode (a_cc M_Mo_dsaKeys) 216 = .ok (.goto (-38), 3) := by decide +kernel
theorem d_Mo_dsaKeys_219 : decode (a_cc M_Mo_dsaKeys) 219 = .ok (.aload_n 0, 1) := by decide +kernel
theorem d_Mo_dsaKeys_220 : decode (a_cc M_Mo_dsaKeys) 220 = .ok (.getfield 216, 3) := by decide +kernel
theorem d_Mo_dsaKeys_223 : decode (a_cc M_Mo_dsaKeys) 223 = .ok (.istore 4, 2) := by decide +kernel
theorem d_Mo_dsaKeys_225 : decode (a_cc M_Mo_dsaKeys) 225 = .ok (.iconst 0, 1) := by decide +kernel
theorem d_Mo_dsaKeys_226 : decode (a_cc M_Mo_dsaKeys) 226 = .ok (.istore 5, 2) := by decide +kernel
theorem d_Mo_dsaKeys_228 : decode (a_cc M_Mo_dsaKeys) 228 = .ok (.iload 5, 2) := by decide +kernel
theorem d_Mo_dsaKeys_230 : decode (a_cc M_Mo_dsaKeys) 230 = .ok (.aload_n 0, 1) := by decide +kernel
theorem d_Mo_dsaKeys_231 : decode (a_cc M_Mo_dsaKeys) 231 = .ok (.getfield 226, 3) := by decide +kernel
theorem d_Mo_dsaKeys_234 : decode (a_cc M_Mo_dsaKeys) 234 = .ok (.if_icmp .ge 30, 3) := by decide +kernel
theorem d_Mo_dsaKeys_237 : decode (a_cc M_Mo_dsaKeys) 237 = .ok (.aload_n 0, 1) := by decide +kernel
theorem d_Mo_dsaKeys_238 : decode (a_cc M_Mo_dsaKeys) 238 = .ok (.getfield 76, 3) := by decide +kernel
theorem d_Mo_dsaKeys_241 : decode (a_cc M_Mo_dsaKeys) 241 = .ok (.iload 5, 2) := by decide +kernel
theorem d_Mo_dsaKeys_243 : decode (a_cc M_Mo_dsaKeys) 243 = .ok (.aaload, 1) := by decide +kernel
theorem d_Mo_dsaKeys_244 : decode (a_cc M_Mo_dsaKeys) 244 = .ok (.invokestatic 301, 3) := by decide +kernel
theorem d_Mo_dsaKeys_247 : decode (a_cc M_Mo_dsaKeys) 247 = .ok (.aload_n 0, 1) := by decide +kernel
theorem d_Mo_dsaKeys_248 : decode (a_cc M_Mo_dsaKeys) 248 = .ok (.aload_n 0, 1) := by decide +kernel
theorem d_Mo_dsaKeys_249 : decode (a_cc M_Mo_dsaKeys) 249 = .ok (.getfield 76, 3) := by decide +kernel
theorem d_Mo_dsaKeys_252 : decode (a_cc M_Mo_dsaKeys) 252 = .ok (.iload 5, 2) := by decide +kernel
theorem d_Mo_dsaKeys_254 : decode (a_cc M_Mo_dsaKeys) 254 = .ok (.aaload, 1) := by decide +kernel
theorem d_Mo_dsaKeys_255 : decode (a_cc M_Mo_dsaKeys) 255 = .ok (.invokevirtual 304, 3) := by decide +kernel
theorem d_Mo_dsaKeys_258 : decode (a_cc M_Mo_dsaKeys) 258 = .ok (.iinc 5 1, 3) := by decide +kernel
theorem d_Mo_dsaKeys_261 : decode (a_cc M_Mo_dsaKeys) 261 = .ok (.goto (-33), 3) := by decide +kernel
theorem d_Mo_dsaKeys_264 : decode (a_cc M_Mo_dsaKeys) 264 = .ok (.aload_n 0, 1) := by decide +kernel
theorem d_Mo_dsaKeys_265 : decode (a_cc M_Mo_dsaKeys) 265 = .ok (.iconst 0, 1) := by decide +kernel
theorem d_Mo_dsaKeys_266 : decode (a_cc M_Mo_dsaKeys) 266 = .ok (.putfield 216, 3) := by decide +kernel
theorem d_Mo_dsaKeys_269 : decode (a_cc M_Mo_dsaKeys) 269 = .ok (.iconst 0, 1) := by decide +kernel
theorem d_Mo_dsaKeys_270 : decode (a_cc M_Mo_dsaKeys) 270 = .ok (.istore 5, 2) := by decide +kernel
theorem d_Mo_dsaKeys_272 : decode (a_cc M_Mo_dsaKeys) 272 = .ok (.iload 5, 2) := by decide +kernel
theorem d_Mo_dsaKeys_274 : decode (a_cc M_Mo_dsaKeys) 274 = .ok (.aload_n 0, 1) := by decide +kernel
theorem d_Mo_dsaKeys_275 : decode (a_cc M_Mo_dsaKeys) 275 = .ok (.getfield 223, 3) := by decide +kernel
theorem d_Mo_dsaKeys_278 : decode (a_cc M_Mo_dsaKeys) 278 = .ok (.if_icmp .ge 212, 3) := by decide +kernel
theorem d_Mo_dsaKeys_281 : decode (a_cc M_Mo_dsaKeys) 281 = .ok (.aload_n 0, 1) := by decide +kernel
theorem d_Mo_dsaKeys_282 : decode (a_cc M_Mo_dsaKeys) 282 = .ok (.getfield 76, 3) := by decide +kernel
theorem d_Mo_dsaKeys_285 : decode (a_cc M_Mo_dsaKeys) 285 = .ok (.bipush 40, 2) := by decide +kernel
theorem d_Mo_dsaKeys_287 : decode (a_cc M_Mo_dsaKeys) 287 = .ok (.aaload, 1) := by decide +kernel
theorem d_Mo_dsaKeys_288 : decode (a_cc M_Mo_dsaKeys) 288 = .ok (.invokestatic 275, 3) := by decide +kernel
theorem d_Mo_dsaKeys_291 : decode (a_cc M_Mo_dsaKeys) 291 = .ok (.iconst 0, 1) := by decide +kernel
theorem d_Mo_dsaKeys_292 : decode (a_cc M_Mo_dsaKeys) 292 = .ok (.istore 6, 2) := by decide +kernel
theorem d_Mo_dsaKeys_294 : decode (a_cc M_Mo_dsaKeys) 294 = .ok (.iload 6, 2) := by decide +kernel
theorem d_Mo_dsaKeys_296 : decode (a_cc M_Mo_dsaKeys) 296 = .ok (.aload_n 0, 1) := by decide +kernel
theorem d_Mo_dsaKeys_297 : decode (a_cc M_Mo_dsaKeys) 297 = .ok (.getfield 226, 3) := by decide +kernel
theorem d_Mo_dsaKeys_300 : decode (a_cc M_Mo_dsaKeys) 300 = .ok (.if_icmp .ge 63, 3) := by decide +kernel
theorem d_Mo_dsaKeys_303 : decode (a_cc M_Mo_dsaKeys) 303 = .ok (.aload_n 0, 1) := by decide +kernel
theorem d_Mo_dsaKeys_304 : decode (a_cc M_Mo_dsaKeys) 304 = .ok (.aload_n 0, 1) := by decide +kernel
theorem d_Mo_dsaKeys_305 : decode (a_cc M_Mo_dsaKeys) 305 = .ok (.aload_n 0, 1) := by decide +kernel
theorem d_Mo_dsaKeys_306 : decode (a_cc M_Mo_dsaKeys) 306 = .ok (.getfield 76, 3) := by decide +kernel
theorem d_Mo_dsaKeys_309 : decode (a_cc M_Mo_dsaKeys) 309 = .ok (.bipush 41, 2) := by decide +kernel
theorem d_Mo_dsaKeys_311 : decode (a_cc M_Mo_dsaKeys) 311 = .ok (.aaload, 1) := by decide +kernel
theorem d_Mo_dsaKeys_312 : decode (a_cc M_Mo_dsaKeys) 312 = .ok (.aload_n 0, 1) := by decide +kernel
theorem d_Mo_dsaKeys_313 : decode (a_cc M_Mo_dsaKeys) 313 = .ok (.getfield 68, 3) := by decide +kernel
theorem d_Mo_dsaKeys_316 : decode (a_cc M_Mo_dsaKeys) 316 = .ok (.iconst 0, 1) := by decide +kernel
theorem d_Mo_dsaKeys_317 : decode (a_cc M_Mo_dsaKeys) 317 = .ok (.iload 6, 2) := by decide +kernel
theorem d_Mo_dsaKeys_319 : decode (a_cc M_Mo_dsaKeys) 319 = .ok (.iload 5, 2) := by decide +kernel
theorem d_Mo_dsaKeys_321 : decode (a_cc M_Mo_dsaKeys) 321 = .ok (.invokevirtual 307, 3) := by decide +kernel
theorem d_Mo_dsaKeys_324 : decode (a_cc M_Mo_dsaKeys) 324 = .ok (.iconst 3, 1) := by decide +kernel
theorem d_Mo_dsaKeys_325 : decode (a_cc M_Mo_dsaKeys) 325 = .ok (.invokevirtual 112, 3) := by decide +kernel
theorem d_Mo_dsaKeys_328 : decode (a_cc M_Mo_dsaKeys) 328 = .ok (.ifCond .ne 5, 3) := by decide +kernel
theorem d_Mo_dsaKeys_331 : decode (a_cc M_Mo_dsaKeys) 331 = .ok (.iconst 0, 1) := by decide +kernel
theorem d_Mo_dsaKeys_332 : decode (a_cc M_Mo_dsaKeys) 332 = .ok (.ireturn, 1) := by decide +kernel
theorem d_Mo_dsaKeys_333 : decode (a_cc M_Mo_dsaKeys) 333 = .ok (.aload_n 0, 1) := by decide +kernel
theorem d_Mo_dsaKeys_334 : decode (a_cc M_Mo_dsaKeys) 334 = .ok (.getfield 76, 3) := by decide +kernel
theorem d_Mo_dsaKeys_337 : decode (a_cc M_Mo_dsaKeys) 337 = .ok (.bipush 40, 2) := by decide +kernel
theorem d_Mo_dsaKeys_339 : decode (a_cc M_Mo_dsaKeys) 339 = .ok (.aaload, 1) := by decide +kernel
theorem d_Mo_dsaKeys_340 : decode (a_cc M_Mo_dsaKeys) 340 = .ok (.aload_n 0, 1) := by decide +kernel
theorem d_Mo_dsaKeys_341 : decode (a_cc M_Mo_dsaKeys) 341 = .ok (.getfield 76, 3) := by decide +kernel
theorem d_Mo_dsaKeys_344 : decode (a_cc M_Mo_dsaKeys) 344 = .ok (.bipush 41, 2) := by decide +kernel
theorem d_Mo_dsaKeys_346 : decode (a_cc M_Mo_dsaKeys) 346 = .ok (.aaload, 1) := by decide +kernel
theorem d_Mo_dsaKeys_347 : decode (a_cc M_Mo_dsaKeys) 347 = .ok (.aload_n 0, 1) := by decide +kernel
theorem d_Mo_dsaKeys_348 : decode (a_cc M_Mo_dsaKeys) 348 = .ok (.getfield 76, 3) := by decide +kernel
theorem d_Mo_dsaKeys_351 : decode (a_cc M_Mo_dsaKeys) 351 = .ok (.iload 6, 2) := by decide +kernel
theorem d_Mo_dsaKeys_353 : decode (a_cc M_Mo_dsaKeys) 353 = .ok (.aaload, 1) := by decide +kernel
theorem d_Mo_dsaKeys_354 : decode (a_cc M_Mo_dsaKeys) 354 = .ok (.invokestatic 311, 3) := by decide +kernel
theorem d_Mo_dsaKeys_357 : decode (a_cc M_Mo_dsaKeys) 357 = .ok (.iinc 6 1, 3) := by decide +kernel
theorem d_Mo_dsaKeys_360 : decode (a_cc M_Mo_dsaKeys) 360 = .ok (.goto (-66), 3) := by decide +kernel
theorem d_Mo_dsaKeys_363 : decode (a_cc M_Mo_dsaKeys) 363 = .ok (.aload_n 0, 1) := by decide +kernel
theorem d_Mo_dsaKeys_364 : decode (a_cc M_Mo_dsaKeys) 364 = .ok (.aload_n 0, 1) := by decide +kernel
theorem d_Mo_dsaKeys_365 : decode (a_cc M_Mo_dsaKeys) 365 = .ok (.getfield 76, 3) := by decide +kernel
theorem d_Mo_dsaKeys_368 : decode (a_cc M_Mo_dsaKeys) 368 = .ok (.bipush 40, 2) := by decide +kernel
theorem d_Mo_dsaKeys_370 : decode (a_cc M_Mo_dsaKeys) 370 = .ok (.aaload, 1) := by decide +kernel
theorem d_Mo_dsaKeys_371 : decode (a_cc M_Mo_dsaKeys) 371 = .ok (.invokevirtual 315, 3) := by decide +kernel
theorem d_Mo_dsaKeys_374 : decode (a_cc M_Mo_dsaKeys) 374 = .ok (.iconst 0, 1) := by decide +kernel
theorem d_Mo_dsaKeys_375 : decode (a_cc M_Mo_dsaKeys) 375 = .ok (.istore 6, 2) := by decide +kernel
theorem d_Mo_dsaKeys_377 : decode (a_cc M_Mo_dsaKeys) 377 = .ok (.iload 6, 2) := by decide +kernel
theorem d_Mo_dsaKeys_379 : decode (a_cc M_Mo_dsaKeys) 379 = .ok (.sipush 256, 3) := by decide +kernel
theorem d_Mo_dsaKeys_382 : decode (a_cc M_Mo_dsaKeys) 382 = .ok (.if_icmp .ge 102, 3) := by decide +kernel
theorem d_Mo_dsaKeys_385 : decode (a_cc M_Mo_dsaKeys) 385 = .ok (.aload_n 0, 1) := by decide +kernel
theorem d_Mo_dsaKeys_386 : decode (a_cc M_Mo_dsaKeys) 386 = .ok (.getfield 76, 3) := by decide +kernel
theorem d_Mo_dsaKeys_389 : decode (a_cc M_Mo_dsaKeys) 389 = .ok (.bipush 40, 2) := by decide +kernel
theorem d_Mo_dsaKeys_391 : decode (a_cc M_Mo_dsaKeys) 391 = .ok (.aaload, 1) := by decide +kernel
theorem d_Mo_dsaKeys_392 : decode (a_cc M_Mo_dsaKeys) 392 = .ok (.iload 6, 2) := by decide +kernel
theorem d_Mo_dsaKeys_394 : decode (a_cc M_Mo_dsaKeys) 394 = .ok (.iaload, 1) := by decide +kernel
theorem d_Mo_dsaKeys_395 : decode (a_cc M_Mo_dsaKeys) 395 = .ok (.aload_n 0, 1) := by decide +kernel
theorem d_Mo_dsaKeys_396 : decode (a_cc M_Mo_dsaKeys) 396 = .ok (.getfield 76, 3) := by decide +kernel
theorem d_Mo_dsaKeys_399 : decode (a_cc M_Mo_dsaKeys) 399 = .ok (.aload_n 0, 1) := by decide +kernel
theorem d_Mo_dsaKeys_400 : decode (a_cc M_Mo_dsaKeys) 400 = .ok (.getfield 226, 3) := by decide +kernel
theorem d_Mo_dsaKeys_403 : decode (a_cc M_Mo_dsaKeys) 403 = .ok (.iload 5, 2) := by decide +kernel
theorem d_Mo_dsaKeys_405 : decode (a_cc M_Mo_dsaKeys) 405 = .ok (.iadd, 1) := by decide +kernel
theorem d_Mo_dsaKeys_406 : decode (a_cc M_Mo_dsaKeys) 406 = .ok (.aaload, 1) := by decide +kernel
theorem d_Mo_dsaKeys_407 : decode (a_cc M_Mo_dsaKeys) 407 = .ok (.iload 6, 2) := by decide +kernel
theorem d_Mo_dsaKeys_409 : decode (a_cc M_Mo_dsaKeys) 409 = .ok (.iaload, 1) := by decide +kernel
theorem d_Mo_dsaKeys_410 : decode (a_cc M_Mo_dsaKeys) 410 = .ok (.iadd, 1) := by decide +kernel
theorem d_Mo_dsaKeys_411 : decode (a_cc M_Mo_dsaKeys) 411 = .ok (.ldc_w 264, 3) := by decide +kernel
theorem d_Mo_dsaKeys_414 : decode (a_cc M_Mo_dsaKeys) 414 = .ok (.iadd, 1) := by decide +kernel
theorem d_Mo_dsaKeys_415 : decode (a_cc M_Mo_dsaKeys) 415 = .ok (.ldc_w 264, 3) := by decide +kernel
theorem d_Mo_dsaKeys_418 : decode (a_cc M_Mo_dsaKeys) 418 = .ok (.irem, 1) := by decide +kernel
theorem d_Mo_dsaKeys_419 : decode (a_cc M_Mo_dsaKeys) 419 = .ok (.istore 7, 2) := by decide +kernel
theorem d_Mo_dsaKeys_421 : decode (a_cc M_Mo_dsaKeys) 421 = .ok (.iload 7, 2) := by decide +kernel
theorem d_Mo_dsaKeys_423 : decode (a_cc M_Mo_dsaKeys) 423 = .ok (.sipush 8192, 3) := by decide +kernel
theorem d_Mo_dsaKeys_426 : decode (a_cc M_Mo_dsaKeys) 426 = .ok (.irem, 1) := by decide +kernel
theorem d_Mo_dsaKeys_427 : decode (a_cc M_Mo_dsaKeys) 427 = .ok (.istore 8, 2) := by decide +kernel
theorem d_Mo_dsaKeys_429 : decode (a_cc M_Mo_dsaKeys) 429 = .ok (.iload 8, 2) := by decide +kernel
theorem d_Mo_dsaKeys_431 : decode (a_cc M_Mo_dsaKeys) 431 = .ok (.sipush 4096, 3) := by decide +kernel
theorem d_Mo_dsaKeys_434 : decode (a_cc M_Mo_dsaKeys) 434 = .ok (.if_icmp .le 9, 3) := by decide +kernel
theorem d_Mo_dsaKeys_437 : decode (a_cc M_Mo_dsaKeys) 437 = .ok (.iinc 8 (-8192), 6) := by decide +kernel
theorem d_Mo_dsaKeys_443 : decode (a_cc M_Mo_dsaKeys) 443 = .ok (.aload_n 0, 1) := by decide +kernel
theorem d_Mo_dsaKeys_444 : decode (a_cc M_Mo_dsaKeys) 444 = .ok (.getfield 76, 3) := by decide +kernel
theorem d_Mo_dsaKeys_447 : decode (a_cc M_Mo_dsaKeys) 447 = .ok (.bipush 20, 2) := by decide +kernel
theorem d_Mo_dsaKeys_449 : decode (a_cc M_Mo_dsaKeys) 449 = .ok (.iload 5, 2) := by decide +kernel
theorem d_Mo_dsaKeys_451 : decode (a_cc M_Mo_dsaKeys) 451 = .ok (.iadd, 1) := by decide +kernel
theorem d_Mo_dsaKeys_452 : decode (a_cc M_Mo_dsaKeys) 452 = .ok (.aaload, 1) := by decide +kernel
theorem d_Mo_dsaKeys_453 : decode (a_cc M_Mo_dsaKeys) 453 = .ok (.iload 6, 2) := by decide +kernel
theorem d_Mo_dsaKeys_455 : decode (a_cc M_Mo_dsaKeys) 455 = .ok (.iload 8, 2) := by decide +kernel
theorem d_Mo_dsaKeys_457 : decode (a_cc M_Mo_dsaKeys) 457 = .ok (.iastore, 1) := by decide +kernel
theorem d_Mo_dsaKeys_458 : decode (a_cc M_Mo_dsaKeys) 458 = .ok (.aload_n 0, 1) := by decide +kernel
theorem d_Mo_dsaKeys_459 : decode (a_cc M_Mo_dsaKeys) 459 = .ok (.aload_n 0, 1) := by decide +kernel
theorem d_Mo_dsaKeys_460 : decode (a_cc M_Mo_dsaKeys) 460 = .ok (.getfield 87, 3) := by decide +kernel
theorem d_Mo_dsaKeys_463 : decode (a_cc M_Mo_dsaKeys) 463 = .ok (.iconst 0, 1) := by decide +kernel
theorem d_Mo_dsaKeys_464 : decode (a_cc M_Mo_dsaKeys) 464 = .ok (.iload 7, 2) := by decide +kernel
theorem d_Mo_dsaKeys_466 : decode (a_cc M_Mo_dsaKeys) 466 = .ok (.iload 8, 2) := by decide +kernel
theorem d_Mo_dsaKeys_468 : decode (a_cc M_Mo_dsaKeys) 468 = .ok (.isub, 1) := by decide +kernel
theorem d_Mo_dsaKeys_469 : decode (a_cc M_Mo_dsaKeys) 469 = .ok (.sipush 8192, 3) := by decide +kernel
theorem d_Mo_dsaKeys_472 : decode (a_cc M_Mo_dsaKeys) 472 = .ok (.idiv, 1) := by decide +kernel
theorem d_Mo_dsaKeys_473 : decode (a_cc M_Mo_dsaKeys) 473 = .ok (.bipush 10, 2) := by decide +kernel
theorem d_Mo_dsaKeys_475 : decode (a_cc M_Mo_dsaKeys) 475 = .ok (.invokevirtual 280, 3) := by decide +kernel
theorem d_Mo_dsaKeys_478 : decode (a_cc M_Mo_dsaKeys) 478 = .ok (.iinc 6 1, 3) := by decide +kernel
theorem d_Mo_dsaKeys_481 : decode (a_cc M_Mo_dsaKeys) 481 = .ok (.goto (-104), 3) := by decide +kernel
theorem d_Mo_dsaKeys_484 : decode (a_cc M_Mo_dsaKeys) 484 = .ok (.iinc 5 1, 3) := by decide +kernel
theorem d_Mo_dsaKeys_487 : decode (a_cc M_Mo_dsaKeys) 487 = .ok (.goto (-215), 3) := by decide +kernel
theorem d_Mo_dsaKeys_490 : decode (a_cc M_Mo_dsaKeys) 490 = .ok (.aload_n 0, 1) := by decide +kernel
theorem d_Mo_dsaKeys_491 : decode (a_cc M_Mo_dsaKeys) 491 = .ok (.iload 4, 2) := by decide +kernel
theorem d_Mo_dsaKeys_493 : decode (a_cc M_Mo_dsaKeys) 493 = .ok (.putfield 216, 3) := by decide +kernel
theorem d_Mo_dsaKeys_496 : decode (a_cc M_Mo_dsaKeys) 496 = .ok (.iconst 0, 1) := by decide +kernel
theorem d_Mo_dsaKeys_497 : decode (a_cc M_Mo_dsaKeys) 497 = .ok (.istore 5, 2) := by decide +kernel
theorem d_Mo_dsaKeys_499 : decode (a_cc M_Mo_dsaKeys) 499 = .ok (.iload 5, 2) := by decide +kernel
theorem d_Mo_dsaKeys_501 : decode (a_cc M_Mo_dsaKeys) 501 = .ok (.aload_n 0, 1) := by decide +kernel
theorem d_Mo_dsaKeys_502 : decode (a_cc M_Mo_dsaKeys) 502 = .ok (.getfield 223, 3) := by decide +kernel
theorem d_Mo_dsaKeys_505 : decode (a_cc M_Mo_dsaKeys) 505 = .ok (.if_icmp .ge 33, 3) := by decide +kernel
theorem d_Mo_dsaKeys_508 : decode (a_cc M_Mo_dsaKeys) 508 = .ok (.aload_n 0, 1) := by decide +kernel
theorem d_Mo_dsaKeys_509 : decode (a_cc M_Mo_dsaKeys) 509 = .ok (.aload_n 0, 1) := by decide +kernel
theorem d_Mo_dsaKeys_510 : decode (a_cc M_Mo_dsaKeys) 510 = .ok (.getfield 84, 3) := by decide +kernel
theorem d_Mo_dsaKeys_513 : decode (a_cc M_Mo_dsaKeys) 513 = .ok (.iconst 0, 1) := by decide +kernel
theorem d_Mo_dsaKeys_514 : decode (a_cc M_Mo_dsaKeys) 514 = .ok (.aload_n 0, 1) := by decide +kernel
theorem d_Mo_dsaKeys_515 : decode (a_cc M_Mo_dsaKeys) 515 = .ok (.getfield 76, 3) := by decide +kernel
theorem d_Mo_dsaKeys_518 : decode (a_cc M_Mo_dsaKeys) 518 = .ok (.bipush 20, 2) := by decide +kernel
theorem d_Mo_dsaKeys_520 : decode (a_cc M_Mo_dsaKeys) 520 = .ok (.iload 5, 2) := by decide +kernel
theorem d_Mo_dsaKeys_522 : decode (a_cc M_Mo_dsaKeys) 522 = .ok (.iadd, 1) := by decide +kernel
theorem d_Mo_dsaKeys_523 : decode (a_cc M_Mo_dsaKeys) 523 = .ok (.aaload, 1) := by decide +kernel
theorem d_Mo_dsaKeys_524 : decode (a_cc M_Mo_dsaKeys) 524 = .ok (.sipush 4096, 3) := by decide +kernel
theorem d_Mo_dsaKeys_527 : decode (a_cc M_Mo_dsaKeys) 527 = .ok (.bipush 13, 2) := by decide +kernel
theorem d_Mo_dsaKeys_529 : decode (a_cc M_Mo_dsaKeys) 529 = .ok (.invokevirtual 297, 3) := by decide +kernel
theorem d_Mo_dsaKeys_532 : decode (a_cc M_Mo_dsaKeys) 532 = .ok (.iinc 5 1, 3) := by decide +kernel
theorem d_Mo_dsaKeys_535 : decode (a_cc M_Mo_dsaKeys) 535 = .ok (.goto (-36), 3) := by decide +kernel
theorem d_Mo_dsaKeys_538 : decode (a_cc M_Mo_dsaKeys) 538 = .ok (.aload_n 0, 1) := by decide +kernel
theorem d_Mo_dsaKeys_539 : decode (a_cc M_Mo_dsaKeys) 539 = .ok (.getfield 68, 3) := by decide +kernel
theorem d_Mo_dsaKeys_542 : decode (a_cc M_Mo_dsaKeys) 542 = .ok (.iconst 0, 1) := by decide +kernel
theorem d_Mo_dsaKeys_543 : decode (a_cc M_Mo_dsaKeys) 543 = .ok (.aload_n 0, 1) := by decide +kernel
theorem d_Mo_dsaKeys_544 : decode (a_cc M_Mo_dsaKeys) 544 = .ok (.getfield 15, 3) := by decide +kernel
theorem d_Mo_dsaKeys_547 : decode (a_cc M_Mo_dsaKeys) 547 = .ok (.iconst 1, 1) := by decide +kernel
theorem d_Mo_dsaKeys_548 : decode (a_cc M_Mo_dsaKeys) 548 = .ok (.aaload, 1) := by decide +kernel
theorem d_Mo_dsaKeys_549 : decode (a_cc M_Mo_dsaKeys) 549 = .ok (.iconst 0, 1) := by decide +kernel
theorem d_Mo_dsaKeys_550 : decode (a_cc M_Mo_dsaKeys) 550 = .ok (.bipush 32, 2) := by decide +kernel
theorem d_Mo_dsaKeys_552 : decode (a_cc M_Mo_dsaKeys) 552 = .ok (.invokestatic 318, 3) := by decide +kernel
theorem d_Mo_dsaKeys_555 : decode (a_cc M_Mo_dsaKeys) 555 = .ok (.aload_n 0, 1) := by decide +kernel
theorem d_Mo_dsaKeys_556 : decode (a_cc M_Mo_dsaKeys) 556 = .ok (.getfield 87, 3) := by decide +kernel
theorem d_Mo_dsaKeys_559 : decode (a_cc M_Mo_dsaKeys) 559 = .ok (.iconst 0, 1) := by decide +kernel
theorem d_Mo_dsaKeys_560 : decode (a_cc M_Mo_dsaKeys) 560 = .ok (.aload_n 0, 1) := by decide +kernel
theorem d_Mo_dsaKeys_561 : decode (a_cc M_Mo_dsaKeys) 561 = .ok (.getfield 15, 3) := by decide +kernel
theorem d_Mo_dsaKeys_564 : decode (a_cc M_Mo_dsaKeys) 564 = .ok (.iconst 1, 1) := by decide +kernel
theorem d_Mo_dsaKeys_565 : decode (a_cc M_Mo_dsaKeys) 565 = .ok (.aaload, 1) := by decide +kernel
theorem d_Mo_dsaKeys_566 : decode (a_cc M_Mo_dsaKeys) 566 = .ok (.bipush 32, 2) := by decide +kernel
theorem d_Mo_dsaKeys_568 : decode (a_cc M_Mo_dsaKeys) 568 = .ok (.sipush 320, 3) := by decide +kernel
theorem d_Mo_dsaKeys_571 : decode (a_cc M_Mo_dsaKeys) 571 = .ok (.aload_n 0, 1) := by decide +kernel
theorem d_Mo_dsaKeys_572 : decode (a_cc M_Mo_dsaKeys) 572 = .ok (.getfield 223, 3) := by decide +kernel
theorem d_Mo_dsaKeys_575 : decode (a_cc M_Mo_dsaKeys) 575 = .ok (.imul, 1) := by decide +kernel
theorem d_Mo_dsaKeys_576 : decode (a_cc M_Mo_dsaKeys) 576 = .ok (.invokestatic 318, 3) := by decide +kernel
theorem d_Mo_dsaKeys_579 : decode (a_cc M_Mo_dsaKeys) 579 = .ok (.aload_n 0, 1) := by decide +kernel
theorem d_Mo_dsaKeys_580 : decode (a_cc M_Mo_dsaKeys) 580 = .ok (.getfield 18, 3) := by decide +kernel
theorem d_Mo_dsaKeys_583 : decode (a_cc M_Mo_dsaKeys) 583 = .ok (.iconst 1, 1) := by decide +kernel
theorem d_Mo_dsaKeys_584 : decode (a_cc M_Mo_dsaKeys) 584 = .ok (.bipush 32, 2) := by decide +kernel
theorem d_Mo_dsaKeys_586 : decode (a_cc M_Mo_dsaKeys) 586 = .ok (.sipush 320, 3) := by decide +kernel
theorem d_Mo_dsaKeys_589 : decode (a_cc M_Mo_dsaKeys) 589 = .ok (.aload_n 0, 1) := by decide +kernel
theorem d_Mo_dsaKeys_590 : decode (a_cc M_Mo_dsaKeys) 590 = .ok (.getfield 223, 3) := by decide +kernel
theorem d_Mo_dsaKeys_593 : decode (a_cc M_Mo_dsaKeys) 593 = .ok (.imul, 1) := by decide +kernel
theorem d_Mo_dsaKeys_594 : decode (a_cc M_Mo_dsaKeys) 594 = .ok (.iadd, 1) := by decide +kernel
theorem d_Mo_dsaKeys_595 : decode (a_cc M_Mo_dsaKeys) 595 = .ok (.iastore, 1) := by decide +kernel
theorem d_Mo_dsaKeys_596 : decode (a_cc M_Mo_dsaKeys) 596 = .ok (.aload_n 0, 1) := by decide +kernel
theorem d_Mo_dsaKeys_597 : decode (a_cc M_Mo_dsaKeys) 597 = .ok (.getfield 68, 3) := by decide +kernel
theorem d_Mo_dsaKeys_600 : decode (a_cc M_Mo_dsaKeys) 600 = .ok (.iconst 0, 1) := by decide +kernel
theorem d_Mo_dsaKeys_601 : decode (a_cc M_Mo_dsaKeys) 601 = .ok (.aload_n 0, 1) := by decide +kernel
theorem d_Mo_dsaKeys_602 : decode (a_cc M_Mo_dsaKeys) 602 = .ok (.getfield 15, 3) := by decide +kernel
theorem d_Mo_dsaKeys_605 : decode (a_cc M_Mo_dsaKeys) 605 = .ok (.iconst 2, 1) := by decide +kernel
theorem d_Mo_dsaKeys_606 : decode (a_cc M_Mo_dsaKeys) 606 = .ok (.aaload, 1) := by decide +kernel
theorem d_Mo_dsaKeys_607 : decode (a_cc M_Mo_dsaKeys) 607 = .ok (.iconst 0, 1) := by decide +kernel
theorem d_Mo_dsaKeys_608 : decode (a_cc M_Mo_dsaKeys) 608 = .ok (.bipush 32, 2) := by decide +kernel
theorem d_Mo_dsaKeys_610 : decode (a_cc M_Mo_dsaKeys) 610 = .ok (.invokestatic 318, 3) := by decide +kernel
theorem d_Mo_dsaKeys_613 : decode (a_cc M_Mo_dsaKeys) 613 = .ok (.aload_n 0, 1) := by decide +kernel
theorem d_Mo_dsaKeys_614 : decode (a_cc M_Mo_dsaKeys) 614 = .ok (.getfield 68, 3) := by decide +kernel
theorem d_Mo_dsaKeys_617 : decode (a_cc M_Mo_dsaKeys) 617 = .ok (.bipush 96, 2) := by decide +kernel
theorem d_Mo_dsaKeys_619 : decode (a_cc M_Mo_dsaKeys) 619 = .ok (.aload_n 0, 1) := by decide +kernel
theorem d_Mo_dsaKeys_620 : decode (a_cc M_Mo_dsaKeys) 620 = .ok (.getfield 15, 3) := by decide +kernel
theorem d_Mo_dsaKeys_623 : decode (a_cc M_Mo_dsaKeys) 623 = .ok (.iconst 2, 1) := by decide +kernel
theorem d_Mo_dsaKeys_624 : decode (a_cc M_Mo_dsaKeys) 624 = .ok (.aaload, 1) := by decide +kernel
theorem d_Mo_dsaKeys_625 : decode (a_cc M_Mo_dsaKeys) 625 = .ok (.bipush 32, 2) := by decide +kernel
theorem d_Mo_dsaKeys_627 : decode (a_cc M_Mo_dsaKeys) 627 = .ok (.bipush 32, 2) := by decide +kernel
theorem d_Mo_dsaKeys_629 : decode (a_cc M_Mo_dsaKeys) 629 = .ok (.invokestatic 318, 3) := by decide +kernel
theorem d_Mo_dsaKeys_632 : decode (a_cc M_Mo_dsaKeys) 632 = .ok (.aload_n 0, 1) := by decide +kernel
theorem d_Mo_dsaKeys_633 : decode (a_cc M_Mo_dsaKeys) 633 = .ok (.bipush 12, 2) := by decide +kernel
theorem d_Mo_dsaKeys_635 : decode (a_cc M_Mo_dsaKeys) 635 = .ok (.invokevirtual 148, 3) := by decide +kernel
theorem d_Mo_dsaKeys_638 : decode (a_cc M_Mo_dsaKeys) 638 = .ok (.aload_n 0, 1) := by decide +kernel
theorem d_Mo_dsaKeys_639 : decode (a_cc M_Mo_dsaKeys) 639 = .ok (.aload_n 0, 1) := by decide +kernel
theorem d_Mo_dsaKeys_640 : decode (a_cc M_Mo_dsaKeys) 640 = .ok (.getfield 15, 3) := by decide +kernel
theorem d_Mo_dsaKeys_643 : decode (a_cc M_Mo_dsaKeys) 643 = .ok (.iconst 1, 1) := by decide +kernel
theorem d_Mo_dsaKeys_644 : decode (a_cc M_Mo_dsaKeys) 644 = .ok (.aaload, 1) := by decide +kernel
theorem d_Mo_dsaKeys_645 : decode (a_cc M_Mo_dsaKeys) 645 = .ok (.iconst 0, 1) := by decide +kernel
theorem d_Mo_dsaKeys_646 : decode (a_cc M_Mo_dsaKeys) 646 = .ok (.aload_n 0, 1) := by decide +kernel
theorem d_Mo_dsaKeys_647 : decode (a_cc M_Mo_dsaKeys) 647 = .ok (.getfield 18, 3) := by decide +kernel
theorem d_Mo_dsaKeys_650 : decode (a_cc M_Mo_dsaKeys) 650 = .ok (.iconst 1, 1) := by decide +kernel
theorem d_Mo_dsaKeys_651 : decode (a_cc M_Mo_dsaKeys) 651 = .ok (.iaload, 1) := by decide +kernel
theorem d_Mo_dsaKeys_652 : decode (a_cc M_Mo_dsaKeys) 652 = .ok (.invokevirtual 268, 3) := by decide +kernel
theorem d_Mo_dsaKeys_655 : decode (a_cc M_Mo_dsaKeys) 655 = .ok (.aload_n 0, 1) := by decide +kernel
theorem d_Mo_dsaKeys_656 : decode (a_cc M_Mo_dsaKeys) 656 = .ok (.aload_n 0, 1) := by decide +kernel
theorem d_Mo_dsaKeys_657 : decode (a_cc M_Mo_dsaKeys) 657 = .ok (.getfield 15, 3) := by decide +kernel
theorem d_Mo_dsaKeys_660 : decode (a_cc M_Mo_dsaKeys) 660 = .ok (.iconst 2, 1) := by decide +kernel
theorem d_Mo_dsaKeys_661 : decode (a_cc M_Mo_dsaKeys) 661 = .ok (.aaload, 1) := by decide +kernel
theorem d_Mo_dsaKeys_662 : decode (a_cc M_Mo_dsaKeys) 662 = .ok (.bipush 64, 2) := by decide +kernel
theorem d_Mo_dsaKeys_664 : decode (a_cc M_Mo_dsaKeys) 664 = .ok (.bipush 64, 2) := by decide +kernel
theorem d_Mo_dsaKeys_666 : decode (a_cc M_Mo_dsaKeys) 666 = .ok (.invokevirtual 290, 3) := by decide +kernel
theorem d_Mo_dsaKeys_669 : decode (a_cc M_Mo_dsaKeys) 669 = .ok (.aload_n 0, 1) := by decide +kernel
theorem d_Mo_dsaKeys_670 : decode (a_cc M_Mo_dsaKeys) 670 = .ok (.getfield 18, 3) := by decide +kernel
theorem d_Mo_dsaKeys_673 : decode (a_cc M_Mo_dsaKeys) 673 = .ok (.iconst 2, 1) := by decide +kernel
theorem d_Mo_dsaKeys_674 : decode (a_cc M_Mo_dsaKeys) 674 = .ok (.aload_n 0, 1) := by decide +kernel
theorem d_Mo_dsaKeys_675 : decode (a_cc M_Mo_dsaKeys) 675 = .ok (.invokevirtual 322, 3) := by decide +kernel
theorem d_Mo_dsaKeys_678 : decode (a_cc M_Mo_dsaKeys) 678 = .ok (.iastore, 1) := by decide +kernel
theorem d_Mo_dsaKeys_679 : decode (a_cc M_Mo_dsaKeys) 679 = .ok (.aload_n 0, 1) := by decide +kernel
theorem d_Mo_dsaKeys_680 : decode (a_cc M_Mo_dsaKeys) 680 = .ok (.getfield 84, 3) := by decide +kernel
theorem d_Mo_dsaKeys_683 : decode (a_cc M_Mo_dsaKeys) 683 = .ok (.iconst 0, 1) := by decide +kernel
theorem d_Mo_dsaKeys_684 : decode (a_cc M_Mo_dsaKeys) 684 = .ok (.aload_n 0, 1) := by decide +kernel
theorem d_Mo_dsaKeys_685 : decode (a_cc M_Mo_dsaKeys) 685 = .ok (.getfield 15, 3) := by decide +kernel
theorem d_Mo_dsaKeys_688 : decode (a_cc M_Mo_dsaKeys) 688 = .ok (.iconst 2, 1) := by decide +kernel
theorem d_Mo_dsaKeys_689 : decode (a_cc M_Mo_dsaKeys) 689 = .ok (.aaload, 1) := by decide +kernel
theorem d_Mo_dsaKeys_690 : decode (a_cc M_Mo_dsaKeys) 690 = .ok (.sipush 128, 3) := by decide +kernel
theorem d_Mo_dsaKeys_693 : decode (a_cc M_Mo_dsaKeys) 693 = .ok (.aload_n 0, 1) := by decide +kernel
theorem d_Mo_dsaKeys_694 : decode (a_cc M_Mo_dsaKeys) 694 = .ok (.getfield 18, 3) := by decide +kernel
theorem d_Mo_dsaKeys_697 : decode (a_cc M_Mo_dsaKeys) 697 = .ok (.iconst 2, 1) := by decide +kernel
theorem d_Mo_dsaKeys_698 : decode (a_cc M_Mo_dsaKeys) 698 = .ok (.iaload, 1) := by decide +kernel
theorem d_Mo_dsaKeys_699 : decode (a_cc M_Mo_dsaKeys) 699 = .ok (.sipush 128, 3) := by decide +kernel
theorem d_Mo_dsaKeys_702 : decode (a_cc M_Mo_dsaKeys) 702 = .ok (.isub, 1) := by decide +kernel
theorem d_Mo_dsaKeys_703 : decode (a_cc M_Mo_dsaKeys) 703 = .ok (.invokestatic 318, 3) := by decide +kernel
theorem d_Mo_dsaKeys_706 : decode (a_cc M_Mo_dsaKeys) 706 = .ok (.aload_n 0, 1) := by decide +kernel
theorem d_Mo_dsaKeys_707 : decode (a_cc M_Mo_dsaKeys) 707 = .ok (.getfield 18, 3) := by decide +kernel
theorem d_Mo_dsaKeys_710 : decode (a_cc M_Mo_dsaKeys) 710 = .ok (.iconst 2, 1) := by decide +kernel
theorem d_Mo_dsaKeys_711 : decode (a_cc M_Mo_dsaKeys) 711 = .ok (.iaload, 1) := by decide +kernel
theorem d_Mo_dsaKeys_712 : decode (a_cc M_Mo_dsaKeys) 712 = .ok (.ireturn, 1) := by decide +kernel
theorem cs_Mo_dsaKeys_4 : a_CS M_Mo_dsaKeys M_Mo_in 120 3 1 3 := ⟨⟨ok_Mo_in, by decide, by decide, by decide⟩, List.mem_append_right _ (List.mem_of_getElem? (i := 1252) (by decide +kernel)), List.mem_append_right _ (List.mem_of_getElem? (i := 1253) (by decide +kernel)), by decide +kernel⟩
theorem cs_Mo_dsaKeys_8 : a_CV M_Mo_dsaKeys M_Mo_good 112 10 3 0 2 := ⟨⟨ok_Mo_good, by decide, by decide, by decide⟩, by decide, rfl, List.mem_append_right _ (List.mem_of_getElem? (i := 1240) (by decide +kernel)), List.mem_append_right _ (List.mem_of_getElem? (i := 1242) (by decide +kernel)), List.mem_append_left _ (List.mem_of_getElem? (i := 41) (by decide +kernel)), by decide +kernel⟩
theorem cs_Mo_dsaKeys_32 : a_CV M_Mo_dsaKeys M_Mo_good 112 10 3 0 2 := ⟨⟨ok_Mo_good, by decide, by decide, by decide⟩, by decide, rfl, List.mem_append_right _ (List.mem_of_getElem? (i := 1240) (by decide +kernel)), List.mem_append_right _ (List.mem_of_getElem? (i := 1242) (by decide +kernel)), List.mem_append_left _ (List.mem_of_getElem? (i := 41) (by decide +kernel)), by decide +kernel⟩
theorem cs_Mo_dsaKeys_42 : a_CV M_Mo_dsaKeys M_Mo_dsa 287 10 2 0 1 := ⟨⟨ok_Mo_dsa, by decide, by decide, by decide⟩, by decide, rfl, List.mem_append_right _ (List.mem_of_getElem? (i := 1283) (by decide +kernel)), List.mem_append_right _ (List.mem_of_getElem? (i := 1285) (by decide +kernel)), List.mem_append_left _ (List.mem_of_getElem? (i := 43) (by decide +kernel)), by decide +kernel⟩
theorem cs_Mo_dsaKeys_48 : a_CV M_Mo_dsaKeys M_Mo_begin 148 10 2 0 1 := ⟨⟨ok_Mo_begin, by decide, by decide, by decide⟩, by decide, rfl, List.mem_append_right _ (List.mem_of_getElem? (i := 1046) (by decide +kernel)), List.mem_append_right _ (List.mem_of_getElem? (i := 1048) (by decide +kernel)), List.mem_append_left _ (List.mem_of_getElem? (i := 33) (by decide +kernel)), by decide +kernel⟩
theorem cs_Mo_dsaKeys_61 : a_CV M_Mo_dsaKeys M_Mo_put3 268 10 4 0 3 := ⟨⟨ok_Mo_put3, by decide, by decide, by decide⟩, by decide, rfl, List.mem_append_right _ (List.mem_of_getElem? (i := 1293) (by decide +kernel)), List.mem_append_right _ (List.mem_of_getElem? (i := 1295) (by decide +kernel)), List.mem_append_left _ (List.mem_of_getElem? (i := 44) (by decide +kernel)), by decide +kernel⟩
theorem cs_Mo_dsaKeys_69 : a_CV M_Mo_dsaKeys M_Mo_put1 153 10 2 0 1 := ⟨⟨ok_Mo_put1, by decide, by decide, by decide⟩, by decide, rfl, List.mem_append_right _ (List.mem_of_getElem? (i := 1058) (by decide +kernel)), List.mem_append_right _ (List.mem_of_getElem? (i := 1060) (by decide +kernel)), List.mem_append_left _ (List.mem_of_getElem? (i := 34) (by decide +kernel)), by decide +kernel⟩
theorem cs_Mo_dsaKeys_77 : a_CV M_Mo_dsaKeys M_Mo_put1 153 10 2 0 1 := ⟨⟨ok_Mo_put1, by decide, by decide, by decide⟩, by decide, rfl, List.mem_append_right _ (List.mem_of_getElem? (i := 1058) (by decide +kernel)), List.mem_append_right _ (List.mem_of_getElem? (i := 1060) (by decide +kernel)), List.mem_append_left _ (List.mem_of_getElem? (i := 34) (by decide +kernel)), by decide +kernel⟩
theorem cs_Mo_dsaKeys_89 : a_CV M_Mo_dsaKeys M_Mo_give 290 10 4 0 3 := ⟨⟨ok_Mo_give, by decide, by decide, by decide⟩, by decide, rfl, List.mem_append_right _ (List.mem_of_getElem? (i := 1297) (by decide +kernel)), List.mem_append_right _ (List.mem_of_getElem? (i := 1299) (by decide +kernel)), List.mem_append_left _ (List.mem_of_getElem? (i := 45) (by decide +kernel)), by decide +kernel⟩
theorem cs_Mo_dsaKeys_123 : a_CV M_Mo_dsaKeys M_Mo_sampleSmall 293 10 5 0 4 := ⟨⟨ok_Mo_sampleSmall, by decide, by decide, by decide⟩, by decide, rfl, List.mem_append_right _ (List.mem_of_getElem? (i := 1305) (by decide +kernel)), List.mem_append_right _ (List.mem_of_getElem? (i := 1307) (by decide +kernel)), List.mem_append_left _ (List.mem_of_getElem? (i := 47) (by decide +kernel)), by decide +kernel⟩
theorem cs_Mo_dsaKeys_148 : a_CV M_Mo_dsaKeys M_Mo_good 112 10 3 0 2 := ⟨⟨ok_Mo_good, by decide, by decide, by decide⟩, by decide, rfl, List.mem_append_right _ (List.mem_of_getElem? (i := 1240) (by decide +kernel)), List.mem_append_right _ (List.mem_of_getElem? (i := 1242) (by decide +kernel)), List.mem_append_left _ (List.mem_of_getElem? (i := 41) (by decide +kernel)), by decide +kernel⟩
theorem cs_Mo_dsaKeys_210 : a_CV M_Mo_dsaKeys M_Mo_pack 297 10 6 0 5 := ⟨⟨ok_Mo_pack, by decide, by decide, by decide⟩, by decide, rfl, List.mem_append_right _ (List.mem_of_getElem? (i := 1313) (by decide +kernel)), List.mem_append_right _ (List.mem_of_getElem? (i := 1315) (by decide +kernel)), List.mem_append_left _ (List.mem_of_getElem? (i := 49) (by decide +kernel)), by decide +kernel⟩
theorem cs_Mo_dsaKeys_244 : a_CS M_Mo_dsaKeys M_Mo_positive 301 1 0 1 := ⟨⟨ok_Mo_positive, by decide, by decide, by decide⟩, List.mem_append_right _ (List.mem_of_getElem? (i := 1321) (by decide +kernel)), List.mem_append_right _ (List.mem_of_getElem? (i := 1322) (by decide +kernel)), by decide +kernel⟩
theorem cs_Mo_dsaKeys_255 : a_CV M_Mo_dsaKeys M_Mo_evaluate 304 10 2 0 1 := ⟨⟨ok_Mo_evaluate, by decide, by decide, by decide⟩, by decide, rfl, List.mem_append_right _ (List.mem_of_getElem? (i := 1325) (by decide +kernel)), List.mem_append_right _ (List.mem_of_getElem? (i := 1327) (by decide +kernel)), List.mem_append_left _ (List.mem_of_getElem? (i := 51) (by decide +kernel)), by decide +kernel⟩
theorem cs_Mo_dsaKeys_288 : a_CS M_Mo_dsaKeys M_Mo_clear 275 1 0 1 := ⟨⟨ok_Mo_clear, by decide, by decide, by decide⟩, List.mem_append_right _ (List.mem_of_getElem? (i := 1332) (by decide +kernel)), List.mem_append_right _ (List.mem_of_getElem? (i := 1333) (by decide +kernel)), by decide +kernel⟩
theorem cs_Mo_dsaKeys_321 : a_CV M_Mo_dsaKeys M_Mo_sampleWide 307 10 6 1 5 := ⟨⟨ok_Mo_sampleWide, by decide, by decide, by decide⟩, by decide, rfl, List.mem_append_right _ (List.mem_of_getElem? (i := 1335) (by decide +kernel)), List.mem_append_right _ (List.mem_of_getElem? (i := 1337) (by decide +kernel)), List.mem_append_left _ (List.mem_of_getElem? (i := 52) (by decide +kernel)), by decide +kernel⟩
theorem cs_Mo_dsaKeys_325 : a_CV M_Mo_dsaKeys M_Mo_good 112 10 3 0 2 := ⟨⟨ok_Mo_good, by decide, by decide, by decide⟩, by decide, rfl, List.mem_append_right _ (List.mem_of_getElem? (i := 1240) (by decide +kernel)), List.mem_append_right _ (List.mem_of_getElem? (i := 1242) (by decide +kernel)), List.mem_append_left _ (List.mem_of_getElem? (i := 41) (by decide +kernel)), by decide +kernel⟩
theorem cs_Mo_dsaKeys_354 : a_CS M_Mo_dsaKeys M_Mo_addProducts 311 3 0 3 := ⟨⟨ok_Mo_addProducts, by decide, by decide, by decide⟩, List.mem_append_right _ (List.mem_of_getElem? (i := 1340) (by decide +kernel)), List.mem_append_right _ (List.mem_of_getElem? (i := 1341) (by decide +kernel)), by decide +kernel⟩
theorem cs_Mo_dsaKeys_371 : a_CV M_Mo_dsaKeys M_Mo_interpolate 315 10 2 0 1 := ⟨⟨ok_Mo_interpolate, by decide, by decide, by decide⟩, by decide, rfl, List.mem_append_right _ (List.mem_of_getElem? (i := 1343) (by decide +kernel)), List.mem_append_right _ (List.mem_of_getElem? (i := 1345) (by decide +kernel)), List.mem_append_left _ (List.mem_of_getElem? (i := 53) (by decide +kernel)), by decide +kernel⟩
theorem cs_Mo_dsaKeys_475 : a_CV M_Mo_dsaKeys M_Mo_putBits 280 10 5 0 4 := ⟨⟨ok_Mo_putBits, by decide, by decide, by decide⟩, by decide, rfl, List.mem_append_right _ (List.mem_of_getElem? (i := 1317) (by decide +kernel)), List.mem_append_right _ (List.mem_of_getElem? (i := 1319) (by decide +kernel)), List.mem_append_left _ (List.mem_of_getElem? (i := 50) (by decide +kernel)), by decide +kernel⟩
theorem cs_Mo_dsaKeys_529 : a_CV M_Mo_dsaKeys M_Mo_pack 297 10 6 0 5 := ⟨⟨ok_Mo_pack, by decide, by decide, by decide⟩, by decide, rfl, List.mem_append_right _ (List.mem_of_getElem? (i := 1313) (by decide +kernel)), List.mem_append_right _ (List.mem_of_getElem? (i := 1315) (by decide +kernel)), List.mem_append_left _ (List.mem_of_getElem? (i := 49) (by decide +kernel)), by decide +kernel⟩
theorem cs_Mo_dsaKeys_552 : a_CS M_Mo_dsaKeys M_Mo_move 318 5 0 5 := ⟨⟨ok_Mo_move, by decide, by decide, by decide⟩, List.mem_append_right _ (List.mem_of_getElem? (i := 1348) (by decide +kernel)), List.mem_append_right _ (List.mem_of_getElem? (i := 1349) (by decide +kernel)), by decide +kernel⟩
theorem cs_Mo_dsaKeys_576 : a_CS M_Mo_dsaKeys M_Mo_move 318 5 0 5 := ⟨⟨ok_Mo_move, by decide, by decide, by decide⟩, List.mem_append_right _ (List.mem_of_getElem? (i := 1348) (by decide +kernel)), List.mem_append_right _ (List.mem_of_getElem? (i := 1349) (by decide +kernel)), by decide +kernel⟩
theorem cs_Mo_dsaKeys_610 : a_CS M_Mo_dsaKeys M_Mo_move 318 5 0 5 := ⟨⟨ok_Mo_move, by decide, by decide, by decide⟩, List.mem_append_right _ (List.mem_of_getElem? (i := 1348) (by decide +kernel)), List.mem_append_right _ (List.mem_of_getElem? (i := 1349) (by decide +kernel)), by decide +kernel⟩
theorem cs_Mo_dsaKeys_629 : a_CS M_Mo_dsaKeys M_Mo_move 318 5 0 5 := ⟨⟨ok_Mo_move, by decide, by decide, by decide⟩, List.mem_append_right _ (List.mem_of_getElem? (i := 1348) (by decide +kernel)), List.mem_append_right _ (List.mem_of_getElem? (i := 1349) (by decide +kernel)), by decide +kernel⟩
theorem cs_Mo_dsaKeys_635 : a_CV M_Mo_dsaKeys M_Mo_begin 148 10 2 0 1 := ⟨⟨ok_Mo_begin, by decide, by decide, by decide⟩, by decide, rfl, List.mem_append_right _ (List.mem_of_getElem? (i := 1046) (by decide +kernel)), List.mem_append_right _ (List.mem_of_getElem? (i := 1048) (by decide +kernel)), List.mem_append_left _ (List.mem_of_getElem? (i := 33) (by decide +kernel)), by decide +kernel⟩
theorem cs_Mo_dsaKeys_652 : a_CV M_Mo_dsaKeys M_Mo_put3 268 10 4 0 3 := ⟨⟨ok_Mo_put3, by decide, by decide, by decide⟩, by decide, rfl, List.mem_append_right _ (List.mem_of_getElem? (i := 1293) (by decide +kernel)), List.mem_append_right _ (List.mem_of_getElem? (i := 1295) (by decide +kernel)), List.mem_append_left _ (List.mem_of_getElem? (i := 44) (by decide +kernel)), by decide +kernel⟩
theorem cs_Mo_dsaKeys_666 : a_CV M_Mo_dsaKeys M_Mo_give 290 10 4 0 3 := ⟨⟨ok_Mo_give, by decide, by decide, by decide⟩, by decide, rfl, List.mem_append_right _ (List.mem_of_getElem? (i := 1297) (by decide +kernel)), List.mem_append_right _ (List.mem_of_getElem? (i := 1299) (by decide +kernel)), List.mem_append_left _ (List.mem_of_getElem? (i := 45) (by decide +kernel)), by decide +kernel⟩
theorem cs_Mo_dsaKeys_675 : a_CV M_Mo_dsaKeys M_Mo_secretLength 322 10 1 2 0 := ⟨⟨ok_Mo_secretLength, by decide, by decide, by decide⟩, by decide, rfl, List.mem_append_right _ (List.mem_of_getElem? (i := 1351) (by decide +kernel)), List.mem_append_right _ (List.mem_of_getElem? (i := 1353) (by decide +kernel)), List.mem_append_left _ (List.mem_of_getElem? (i := 54) (by decide +kernel)), by decide +kernel⟩
theorem cs_Mo_dsaKeys_703 : a_CS M_Mo_dsaKeys M_Mo_move 318 5 0 5 := ⟨⟨ok_Mo_move, by decide, by decide, by decide⟩, List.mem_append_right _ (List.mem_of_getElem? (i := 1348) (by decide +kernel)), List.mem_append_right _ (List.mem_of_getElem? (i := 1349) (by decide +kernel)), by decide +kernel⟩
def M_MS_needHow : a_M := (⟨"ModuleSigner", "needHow", "(I)V"⟩, prog_1_method_16_code, 1, none, "ModuleSigner", 6, 82, [])
theorem ok_MS_needHow : a_Ok M_MS_needHow := ⟨rfl, by decide +kernel, ⟨by decide, by decide⟩, List.mem_append_right _ (List.mem_of_getElem? (i := 1) (by decide +kernel)), Or.inl ⟨rfl, List.mem_append_right _ (List.mem_of_getElem? (i := 784) (by decide +kernel))⟩⟩
theorem d_MS_needHow_0 : decode (a_cc M_MS_needHow) 0 = .ok (.iload_n 0, 1) := by decide +kernel
theorem d_MS_needHow_1 : decode (a_cc M_MS_needHow) 1 = .ok (.ifCond .eq 18, 3) := by decide +kernel
theorem d_MS_needHow_4 : decode (a_cc M_MS_needHow) 4 = .ok (.iload_n 0, 1) := by decide +kernel
theorem d_MS_needHow_5 : decode (a_cc M_MS_needHow) 5 = .ok (.iconst (-1), 1) := by decide +kernel
theorem d_MS_needHow_6 : decode (a_cc M_MS_needHow) 6 = .ok (.if_icmp .eq 13, 3) := by decide +kernel
theorem d_MS_needHow_9 : decode (a_cc M_MS_needHow) 9 = .ok (.new 87, 3) := by decide +kernel
theorem d_MS_needHow_12 : decode (a_cc M_MS_needHow) 12 = .ok (.dup, 1) := by decide +kernel
theorem d_MS_needHow_13 : decode (a_cc M_MS_needHow) 13 = .ok (.ldc 155, 2) := by decide +kernel
theorem d_MS_needHow_15 : decode (a_cc M_MS_needHow) 15 = .ok (.invokespecial 91, 3) := by decide +kernel
theorem d_MS_needHow_18 : decode (a_cc M_MS_needHow) 18 = .ok (.athrow, 1) := by decide +kernel
theorem d_MS_needHow_19 : decode (a_cc M_MS_needHow) 19 = .ok (.return_, 1) := by decide +kernel
theorem th_MS_needHow_9 : a_Th M_MS_needHow 9 0 0 := ⟨_, _, _, "how is neither 0 nor -1", d_MS_needHow_9, d_MS_needHow_12, d_MS_needHow_13, d_MS_needHow_15, d_MS_needHow_18, List.mem_append_right _ (List.mem_of_getElem? (i := 785) (by decide +kernel)), by decide, List.mem_append_right _ (List.mem_of_getElem? (i := 470) (by decide +kernel)), List.mem_append_right _ (List.mem_of_getElem? (i := 480) (by decide +kernel)), rfl, by decide, by decide⟩
def M_MS_needContext : a_M := (⟨"ModuleSigner", "needContext", "(I)V"⟩, prog_1_method_18_code, 2, none, "ModuleSigner", 6, 82, [])
theorem ok_MS_needContext : a_Ok M_MS_needContext := ⟨rfl, by decide +kernel, ⟨by decide, by decide⟩, List.mem_append_right _ (List.mem_of_getElem? (i := 1) (by decide +kernel)), Or.inl ⟨rfl, List.mem_append_right _ (List.mem_of_getElem? (i := 789) (by decide +kernel))⟩⟩
theorem d_MS_needContext_0 : decode (a_cc M_MS_needContext) 0 = .ok (.iload_n 1, 1) := by decide +kernel
theorem d_MS_needContext_1 : decode (a_cc M_MS_needContext) 1 = .ok (.ifCond .ne 28, 3) := by decide +kernel
theorem d_MS_needContext_4 : decode (a_cc M_MS_needContext) 4 = .ok (.aload_n 0, 1) := by decide +kernel
theorem d_MS_needContext_5 : decode (a_cc M_MS_needContext) 5 = .ok (.getfield 11, 3) := by decide +kernel
theorem d_MS_needContext_8 : decode (a_cc M_MS_needContext) 8 = .ok (.iconst 4, 1) := by decide +kernel
theorem d_MS_needContext_9 : decode (a_cc M_MS_needContext) 9 = .ok (.aaload, 1) := by decide +kernel
theorem d_MS_needContext_10 : decode (a_cc M_MS_needContext) 10 = .ok (.getfield 55, 3) := by decide +kernel
theorem d_MS_needContext_13 : decode (a_cc M_MS_needContext) 13 = .ok (.sipush 255, 3) := by decide +kernel
theorem d_MS_needContext_16 : decode (a_cc M_MS_needContext) 16 = .ok (.if_icmp .le 13, 3) := by decide +kernel
theorem d_MS_needContext_19 : decode (a_cc M_MS_needContext) 19 = .ok (.new 111, 3) := by decide +kernel
theorem d_MS_needContext_22 : decode (a_cc M_MS_needContext) 22 = .ok (.dup, 1) := by decide +kernel
theorem d_MS_needContext_23 : decode (a_cc M_MS_needContext) 23 = .ok (.ldc 159, 2) := by decide +kernel
theorem d_MS_needContext_25 : decode (a_cc M_MS_needContext) 25 = .ok (.invokespecial 115, 3) := by decide +kernel
theorem d_MS_needContext_28 : decode (a_cc M_MS_needContext) 28 = .ok (.athrow, 1) := by decide +kernel
theorem d_MS_needContext_29 : decode (a_cc M_MS_needContext) 29 = .ok (.return_, 1) := by decide +kernel
theorem th_MS_needContext_19 : a_Th M_MS_needContext 19 2 0 := ⟨_, _, _, "CONTEXT is too long", d_MS_needContext_19, d_MS_needContext_22, d_MS_needContext_23, d_MS_needContext_25, d_MS_needContext_28, List.mem_append_right _ (List.mem_of_getElem? (i := 790) (by decide +kernel)), by decide, List.mem_append_right _ (List.mem_of_getElem? (i := 579) (by decide +kernel)), List.mem_append_right _ (List.mem_of_getElem? (i := 589) (by decide +kernel)), rfl, by decide, by decide⟩
def M_By_readBits : a_M := (⟨"ModuleSigner$Bytes", "readBits", "(II[I)V"⟩, prog_3_method_11_code, 9, none, "ModuleSigner$Bytes", 1, 14, [])
theorem ok_By_readBits : a_Ok M_By_readBits := ⟨rfl, by decide +kernel, ⟨by decide, by decide⟩, List.mem_append_right _ (List.mem_of_getElem? (i := 2) (by decide +kernel)), Or.inl ⟨rfl, List.mem_append_right _ (List.mem_of_getElem? (i := 824) (by decide +kernel))⟩⟩
theorem d_By_readBits_0 : decode (a_cc M_By_readBits) 0 = .ok (.iconst 1, 1) := by decide +kernel
theorem d_By_readBits_1 : decode (a_cc M_By_readBits) 1 = .ok (.iload_n 2, 1) := by decide +kernel
theorem d_By_readBits_2 : decode (a_cc M_By_readBits) 2 = .ok (.ishl, 1) := by decide +kernel
theorem d_By_readBits_3 : decode (a_cc M_By_readBits) 3 = .ok (.iconst 1, 1) := by decide +kernel
theorem d_By_readBits_4 : decode (a_cc M_By_readBits) 4 = .ok (.isub, 1) := by decide +kernel
theorem d_By_readBits_5 : decode (a_cc M_By_readBits) 5 = .ok (.istore 4, 2) := by decide +kernel
theorem d_By_readBits_7 : decode (a_cc M_By_readBits) 7 = .ok (.iconst 0, 1) := by decide +kernel
theorem d_By_readBits_8 : decode (a_cc M_By_readBits) 8 = .ok (.istore 5, 2) := by decide +kernel
theorem d_By_readBits_10 : decode (a_cc M_By_readBits) 10 = .ok (.iconst 0, 1) := by decide +kernel
theorem d_By_readBits_11 : decode (a_cc M_By_readBits) 11 = .ok (.istore 6, 2) := by decide +kernel
theorem d_By_readBits_13 : decode (a_cc M_By_readBits) 13 = .ok (.iload_n 1, 1) := by decide +kernel
theorem d_By_readBits_14 : decode (a_cc M_By_readBits) 14 = .ok (.istore 7, 2) := by decide +kernel
theorem d_By_readBits_16 : decode (a_cc M_By_readBits) 16 = .ok (.iconst 0, 1) := by decide +kernel
theorem d_By_readBits_17 : decode (a_cc M_By_readBits) 17 = .ok (.istore 8, 2) := by decide +kernel
theorem d_By_readBits_19 : decode (a_cc M_By_readBits) 19 = .ok (.iload 8, 2) := by decide +kernel
theorem d_By_readBits_21 : decode (a_cc M_By_readBits) 21 = .ok (.sipush 256, 3) := by decide +kernel
theorem d_By_readBits_24 : decode (a_cc M_By_readBits) 24 = .ok (.if_icmp .ge 59, 3) := by decide +kernel
theorem d_By_readBits_27 : decode (a_cc M_By_readBits) 27 = .ok (.iload 6, 2) := by decide +kernel
theorem d_By_readBits_29 : decode (a_cc M_By_readBits) 29 = .ok (.iload_n 2, 1) := by decide +kernel
theorem d_By_readBits_30 : decode (a_cc M_By_readBits) 30 = .ok (.if_icmp .ge 26, 3) := by decide +kernel
theorem d_By_readBits_33 : decode (a_cc M_By_readBits) 33 = .ok (.iload 5, 2) := by decide +kernel
theorem d_By_readBits_35 : decode (a_cc M_By_readBits) 35 = .ok (.aload_n 0, 1) := by decide +kernel
theorem d_By_readBits_36 : decode (a_cc M_By_readBits) 36 = .ok (.iload 7, 2) := by decide +kernel
theorem d_By_readBits_38 : decode (a_cc M_By_readBits) 38 = .ok (.invokevirtual 21, 3) := by decide +kernel
theorem d_By_readBits_41 : decode (a_cc M_By_readBits) 41 = .ok (.iload 6, 2) := by decide +kernel
theorem d_By_readBits_43 : decode (a_cc M_By_readBits) 43 = .ok (.ishl, 1) := by decide +kernel
theorem d_By_readBits_44 : decode (a_cc M_By_readBits) 44 = .ok (.ior, 1) := by decide +kernel
theorem d_By_readBits_45 : decode (a_cc M_By_readBits) 45 = .ok (.istore 5, 2) := by decide +kernel
theorem d_By_readBits_47 : decode (a_cc M_By_readBits) 47 = .ok (.iinc 7 1, 3) := by decide +kernel
theorem d_By_readBits_50 : decode (a_cc M_By_readBits) 50 = .ok (.iinc 6 8, 3) := by decide +kernel
theorem d_By_readBits_53 : decode (a_cc M_By_readBits) 53 = .ok (.goto (-26), 3) := by decide +kernel
theorem d_By_readBits_56 : decode (a_cc M_By_readBits) 56 = .ok (.aload_n 3, 1) := by decide +kernel
theorem d_By_readBits_57 : decode (a_cc M_By_readBits) 57 = .ok (.iload 8, 2) := by decide +kernel
theorem d_By_readBits_59 : decode (a_cc M_By_readBits) 59 = .ok (.iload 5, 2) := by decide +kernel
theorem d_By_readBits_61 : decode (a_cc M_By_readBits) 61 = .ok (.iload 4, 2) := by decide +kernel
theorem d_By_readBits_63 : decode (a_cc M_By_readBits) 63 = .ok (.iand, 1) := by decide +kernel
theorem d_By_readBits_64 : decode (a_cc M_By_readBits) 64 = .ok (.iastore, 1) := by decide +kernel
theorem d_By_readBits_65 : decode (a_cc M_By_readBits) 65 = .ok (.iload 5, 2) := by decide +kernel
theorem d_By_readBits_67 : decode (a_cc M_By_readBits) 67 = .ok (.iload_n 2, 1) := by decide +kernel
theorem d_By_readBits_68 : decode (a_cc M_By_readBits) 68 = .ok (.iushr, 1) := by decide +kernel
theorem d_By_readBits_69 : decode (a_cc M_By_readBits) 69 = .ok (.istore 5, 2) := by decide +kernel
theorem d_By_readBits_71 : decode (a_cc M_By_readBits) 71 = .ok (.iload 6, 2) := by decide +kernel
theorem d_By_readBits_73 : decode (a_cc M_By_readBits) 73 = .ok (.iload_n 2, 1) := by decide +kernel
theorem d_By_readBits_74 : decode (a_cc M_By_readBits) 74 = .ok (.isub, 1) := by decide +kernel
theorem d_By_readBits_75 : decode (a_cc M_By_readBits) 75 = .ok (.istore 6, 2) := by decide +kernel
theorem d_By_readBits_77 : decode (a_cc M_By_readBits) 77 = .ok (.iinc 8 1, 3) := by decide +kernel
theorem d_By_readBits_80 : decode (a_cc M_By_readBits) 80 = .ok (.goto (-61), 3) := by decide +kernel
theorem d_By_readBits_83 : decode (a_cc M_By_readBits) 83 = .ok (.return_, 1) := by decide +kernel
theorem cs_By_readBits_38 : a_CV M_By_readBits M_By_at 21 1 2 1 1 := ⟨⟨ok_By_at, by decide, by decide, by decide⟩, by decide, rfl, List.mem_append_right _ (List.mem_of_getElem? (i := 565) (by decide +kernel)), List.mem_append_right _ (List.mem_of_getElem? (i := 537) (by decide +kernel)), List.mem_append_right _ (List.mem_of_getElem? (i := 538) (by decide +kernel)), by decide +kernel⟩
def M_Si_readMirrored : a_M := (⟨"ModuleSigner$Signer", "readMirrored", "(LModuleSigner$Bytes;III[I)V"⟩, prog_8_method_4_code, 6, none, "ModuleSigner$Signer", 3, 50, [])
theorem ok_Si_readMirrored : a_Ok M_Si_readMirrored := ⟨rfl, by decide +kernel, ⟨by decide, by decide⟩, List.mem_append_right _ (List.mem_of_getElem? (i := 9) (by decide +kernel)), Or.inl ⟨rfl, List.mem_append_right _ (List.mem_of_getElem? (i := 820) (by decide +kernel))⟩⟩
theorem d_Si_readMirrored_0 : decode (a_cc M_Si_readMirrored) 0 = .ok (.aload_n 1, 1) := by decide +kernel
theorem d_Si_readMirrored_1 : decode (a_cc M_Si_readMirrored) 1 = .ok (.iload_n 2, 1) := by decide +kernel
theorem d_Si_readMirrored_2 : decode (a_cc M_Si_readMirrored) 2 = .ok (.iload_n 3, 1) := by decide +kernel
theorem d_Si_readMirrored_3 : decode (a_cc M_Si_readMirrored) 3 = .ok (.aload 5, 2) := by decide +kernel
theorem d_Si_readMirrored_5 : decode (a_cc M_Si_readMirrored) 5 = .ok (.invokevirtual 126, 3) := by decide +kernel
theorem d_Si_readMirrored_8 : decode (a_cc M_Si_readMirrored) 8 = .ok (.aload 5, 2) := by decide +kernel
theorem d_Si_readMirrored_10 : decode (a_cc M_Si_readMirrored) 10 = .ok (.iload 4, 2) := by decide +kernel
theorem d_Si_readMirrored_12 : decode (a_cc M_Si_readMirrored) 12 = .ok (.invokestatic 130, 3) := by decide +kernel
theorem d_Si_readMirrored_15 : decode (a_cc M_Si_readMirrored) 15 = .ok (.aload_n 0, 1) := by decide +kernel
theorem d_Si_readMirrored_16 : decode (a_cc M_Si_readMirrored) 16 = .ok (.getfield 38, 3) := by decide +kernel
theorem d_Si_readMirrored_19 : decode (a_cc M_Si_readMirrored) 19 = .ok (.getfield 134, 3) := by decide +kernel
theorem d_Si_readMirrored_22 : decode (a_cc M_Si_readMirrored) 22 = .ok (.aload 5, 2) := by decide +kernel
theorem d_Si_readMirrored_24 : decode (a_cc M_Si_readMirrored) 24 = .ok (.invokevirtual 138, 3) := by decide +kernel
theorem d_Si_readMirrored_27 : decode (a_cc M_Si_readMirrored) 27 = .ok (.return_, 1) := by decide +kernel
theorem cs_Si_readMirrored_5 : a_CV M_Si_readMirrored M_By_readBits 126 1 4 0 3 := ⟨⟨ok_By_readBits, by decide, by decide, by decide⟩, by decide, rfl, List.mem_append_right _ (List.mem_of_getElem? (i := 821) (by decide +kernel)), List.mem_append_right _ (List.mem_of_getElem? (i := 822) (by decide +kernel)), List.mem_append_right _ (List.mem_of_getElem? (i := 823) (by decide +kernel)), by decide +kernel⟩
theorem cs_Si_readMirrored_12 : a_CS M_Si_readMirrored M_Ri_mirror 130 2 0 2 := ⟨⟨ok_Ri_mirror, by decide, by decide, by decide⟩, List.mem_append_right _ (List.mem_of_getElem? (i := 825) (by decide +kernel)), List.mem_append_right _ (List.mem_of_getElem? (i := 772) (by decide +kernel)), by decide +kernel⟩
theorem fd_Si_134 : a_Fd "ModuleSigner$Signer" 134 3 2 2 := ⟨by decide, by decide, rfl, List.mem_append_right _ (List.mem_of_getElem? (i := 231) (by decide +kernel))⟩
theorem cs_Si_readMirrored_24 : a_CV M_Si_readMirrored M_Ri_forward 138 9 2 0 1 := ⟨⟨ok_Ri_forward, by decide, by decide, by decide⟩, by decide, rfl, List.mem_append_right _ (List.mem_of_getElem? (i := 826) (by decide +kernel)), List.mem_append_right _ (List.mem_of_getElem? (i := 714) (by decide +kernel)), List.mem_append_right _ (List.mem_of_getElem? (i := 715) (by decide +kernel)), by decide +kernel⟩
def M_Si_readSecret : a_M := (⟨"ModuleSigner$Signer", "readSecret", "(LModuleSigner$Bytes;LModuleSigner$Parameters;)V"⟩, prog_8_method_3_code, 5, none, "ModuleSigner$Signer", 8, 115, [])
theorem ok_Si_readSecret : a_Ok M_Si_readSecret := ⟨rfl, by decide +kernel, ⟨by decide, by decide⟩, List.mem_append_right _ (List.mem_of_getElem? (i := 9) (by decide +kernel)), Or.inl ⟨rfl, List.mem_append_right _ (List.mem_of_getElem? (i := 815) (by decide +kernel))⟩⟩
theorem d_Si_readSecret_0 : decode (a_cc M_Si_readSecret) 0 = .ok (.aload_n 0, 1) := by decide +kernel
theorem d_Si_readSecret_1 : decode (a_cc M_Si_readSecret) 1 = .ok (.getfield 38, 3) := by decide +kernel
theorem d_Si_readSecret_4 : decode (a_cc M_Si_readSecret) 4 = .ok (.getfield 91, 3) := by decide +kernel
theorem d_Si_readSecret_7 : decode (a_cc M_Si_readSecret) 7 = .ok (.aload_n 1, 1) := by decide +kernel
theorem d_Si_readSecret_8 : decode (a_cc M_Si_readSecret) 8 = .ok (.aload_n 2, 1) := by decide +kernel
theorem d_Si_readSecret_9 : decode (a_cc M_Si_readSecret) 9 = .ok (.aload_n 0, 1) := by decide +kernel
theorem d_Si_readSecret_10 : decode (a_cc M_Si_readSecret) 10 = .ok (.getfield 38, 3) := by decide +kernel
theorem d_Si_readSecret_13 : decode (a_cc M_Si_readSecret) 13 = .ok (.getfield 95, 3) := by decide +kernel
theorem d_Si_readSecret_16 : decode (a_cc M_Si_readSecret) 16 = .ok (.invokevirtual 98, 3) := by decide +kernel
theorem d_Si_readSecret_19 : decode (a_cc M_Si_readSecret) 19 = .ok (.sipush 128, 3) := by decide +kernel
theorem d_Si_readSecret_22 : decode (a_cc M_Si_readSecret) 22 = .ok (.istore_n 3, 1) := by decide +kernel
theorem d_Si_readSecret_23 : decode (a_cc M_Si_readSecret) 23 = .ok (.iconst 0, 1) := by decide +kernel
theorem d_Si_readSecret_24 : decode (a_cc M_Si_readSecret) 24 = .ok (.istore 4, 2) := by decide +kernel
theorem d_Si_readSecret_26 : decode (a_cc M_Si_readSecret) 26 = .ok (.iload 4, 2) := by decide +kernel
theorem d_Si_readSecret_28 : decode (a_cc M_Si_readSecret) 28 = .ok (.aload_n 2, 1) := by decide +kernel
theorem d_Si_readSecret_29 : decode (a_cc M_Si_readSecret) 29 = .ok (.getfield 56, 3) := by decide +kernel
theorem d_Si_readSecret_32 : decode (a_cc M_Si_readSecret) 32 = .ok (.if_icmp .ge 43, 3) := by decide +kernel
theorem d_Si_readSecret_35 : decode (a_cc M_Si_readSecret) 35 = .ok (.aload_n 0, 1) := by decide +kernel
theorem d_Si_readSecret_36 : decode (a_cc M_Si_readSecret) 36 = .ok (.aload_n 1, 1) := by decide +kernel
theorem d_Si_readSecret_37 : decode (a_cc M_Si_readSecret) 37 = .ok (.iload_n 3, 1) := by decide +kernel
theorem d_Si_readSecret_38 : decode (a_cc M_Si_readSecret) 38 = .ok (.aload_n 2, 1) := by decide +kernel
theorem d_Si_readSecret_39 : decode (a_cc M_Si_readSecret) 39 = .ok (.getfield 103, 3) := by decide +kernel
theorem d_Si_readSecret_42 : decode (a_cc M_Si_readSecret) 42 = .ok (.aload_n 2, 1) := by decide +kernel
theorem d_Si_readSecret_43 : decode (a_cc M_Si_readSecret) 43 = .ok (.getfield 106, 3) := by decide +kernel
theorem d_Si_readSecret_46 : decode (a_cc M_Si_readSecret) 46 = .ok (.aload_n 0, 1) := by decide +kernel
theorem d_Si_readSecret_47 : decode (a_cc M_Si_readSecret) 47 = .ok (.getfield 38, 3) := by decide +kernel
theorem d_Si_readSecret_50 : decode (a_cc M_Si_readSecret) 50 = .ok (.getfield 109, 3) := by decide +kernel
theorem d_Si_readSecret_53 : decode (a_cc M_Si_readSecret) 53 = .ok (.iload 4, 2) := by decide +kernel
theorem d_Si_readSecret_55 : decode (a_cc M_Si_readSecret) 55 = .ok (.aaload, 1) := by decide +kernel
theorem d_Si_readSecret_56 : decode (a_cc M_Si_readSecret) 56 = .ok (.invokevirtual 112, 3) := by decide +kernel
theorem d_Si_readSecret_59 : decode (a_cc M_Si_readSecret) 59 = .ok (.iload_n 3, 1) := by decide +kernel
theorem d_Si_readSecret_60 : decode (a_cc M_Si_readSecret) 60 = .ok (.aload_n 2, 1) := by decide +kernel
theorem d_Si_readSecret_61 : decode (a_cc M_Si_readSecret) 61 = .ok (.getfield 103, 3) := by decide +kernel
theorem d_Si_readSecret_64 : decode (a_cc M_Si_readSecret) 64 = .ok (.invokestatic 116, 3) := by decide +kernel
theorem d_Si_readSecret_67 : decode (a_cc M_Si_readSecret) 67 = .ok (.iadd, 1) := by decide +kernel
theorem d_Si_readSecret_68 : decode (a_cc M_Si_readSecret) 68 = .ok (.istore_n 3, 1) := by decide +kernel
theorem d_Si_readSecret_69 : decode (a_cc M_Si_readSecret) 69 = .ok (.iinc 4 1, 3) := by decide +kernel
theorem d_Si_readSecret_72 : decode (a_cc M_Si_readSecret) 72 = .ok (.goto (-46), 3) := by decide +kernel
theorem d_Si_readSecret_75 : decode (a_cc M_Si_readSecret) 75 = .ok (.iconst 0, 1) := by decide +kernel
theorem d_Si_readSecret_76 : decode (a_cc M_Si_readSecret) 76 = .ok (.istore 4, 2) := by decide +kernel
theorem d_Si_readSecret_78 : decode (a_cc M_Si_readSecret) 78 = .ok (.iload 4, 2) := by decide +kernel
theorem d_Si_readSecret_80 : decode (a_cc M_Si_readSecret) 80 = .ok (.aload_n 2, 1) := by decide +kernel
theorem d_Si_readSecret_81 : decode (a_cc M_Si_readSecret) 81 = .ok (.getfield 120, 3) := by decide +kernel
theorem d_Si_readSecret_84 : decode (a_cc M_Si_readSecret) 84 = .ok (.if_icmp .ge 43, 3) := by decide +kernel
theorem d_Si_readSecret_87 : decode (a_cc M_Si_readSecret) 87 = .ok (.aload_n 0, 1) := by decide +kernel
theorem d_Si_readSecret_88 : decode (a_cc M_Si_readSecret) 88 = .ok (.aload_n 1, 1) := by decide +kernel
theorem d_Si_readSecret_89 : decode (a_cc M_Si_readSecret) 89 = .ok (.iload_n 3, 1) := by decide +kernel
theorem d_Si_readSecret_90 : decode (a_cc M_Si_readSecret) 90 = .ok (.aload_n 2, 1) := by decide +kernel
theorem d_Si_readSecret_91 : decode (a_cc M_Si_readSecret) 91 = .ok (.getfield 103, 3) := by decide +kernel
theorem d_Si_readSecret_94 : decode (a_cc M_Si_readSecret) 94 = .ok (.aload_n 2, 1) := by decide +kernel
theorem d_Si_readSecret_95 : decode (a_cc M_Si_readSecret) 95 = .ok (.getfield 106, 3) := by decide +kernel
theorem d_Si_readSecret_98 : decode (a_cc M_Si_readSecret) 98 = .ok (.aload_n 0, 1) := by decide +kernel
theorem d_Si_readSecret_99 : decode (a_cc M_Si_readSecret) 99 = .ok (.getfield 38, 3) := by decide +kernel
theorem d_Si_readSecret_102 : decode (a_cc M_Si_readSecret) 102 = .ok (.getfield 123, 3) := by decide +kernel
theorem d_Si_readSecret_105 : decode (a_cc M_Si_readSecret) 105 = .ok (.iload 4, 2) := by decide +kernel
theorem d_Si_readSecret_107 : decode (a_cc M_Si_readSecret) 107 = .ok (.aaload, 1) := by decide +kernel
theorem d_Si_readSecret_108 : decode (a_cc M_Si_readSecret) 108 = .ok (.invokevirtual 112, 3) := by decide +kernel
theorem d_Si_readSecret_111 : decode (a_cc M_Si_readSecret) 111 = .ok (.iload_n 3, 1) := by decide +kernel
theorem d_Si_readSecret_112 : decode (a_cc M_Si_readSecret) 112 = .ok (.aload_n 2, 1) := by decide +kernel
theorem d_Si_readSecret_113 : decode (a_cc M_Si_readSecret) 113 = .ok (.getfield 103, 3) := by decide +kernel
theorem d_Si_readSecret_116 : decode (a_cc M_Si_readSecret) 116 = .ok (.invokestatic 116, 3) := by decide +kernel
theorem d_Si_readSecret_119 : decode (a_cc M_Si_readSecret) 119 = .ok (.iadd, 1) := by decide +kernel
theorem d_Si_readSecret_120 : decode (a_cc M_Si_readSecret) 120 = .ok (.istore_n 3, 1) := by decide +kernel
theorem d_Si_readSecret_121 : decode (a_cc M_Si_readSecret) 121 = .ok (.iinc 4 1, 3) := by decide +kernel
theorem d_Si_readSecret_124 : decode (a_cc M_Si_readSecret) 124 = .ok (.goto (-46), 3) := by decide +kernel
theorem d_Si_readSecret_127 : decode (a_cc M_Si_readSecret) 127 = .ok (.iconst 0, 1) := by decide +kernel
theorem d_Si_readSecret_128 : decode (a_cc M_Si_readSecret) 128 = .ok (.istore 4, 2) := by decide +kernel
theorem d_Si_readSecret_130 : decode (a_cc M_Si_readSecret) 130 = .ok (.iload 4, 2) := by decide +kernel
theorem d_Si_readSecret_132 : decode (a_cc M_Si_readSecret) 132 = .ok (.aload_n 2, 1) := by decide +kernel
theorem d_Si_readSecret_133 : decode (a_cc M_Si_readSecret) 133 = .ok (.getfield 120, 3) := by decide +kernel
theorem d_Si_readSecret_136 : decode (a_cc M_Si_readSecret) 136 = .ok (.if_icmp .ge 35, 3) := by decide +kernel
theorem d_Si_readSecret_139 : decode (a_cc M_Si_readSecret) 139 = .ok (.aload_n 0, 1) := by decide +kernel
theorem d_Si_readSecret_140 : decode (a_cc M_Si_readSecret) 140 = .ok (.aload_n 1, 1) := by decide +kernel
theorem d_Si_readSecret_141 : decode (a_cc M_Si_readSecret) 141 = .ok (.iload_n 3, 1) := by decide +kernel
theorem d_Si_readSecret_142 : decode (a_cc M_Si_readSecret) 142 = .ok (.bipush 13, 2) := by decide +kernel
theorem d_Si_readSecret_144 : decode (a_cc M_Si_readSecret) 144 = .ok (.sipush 4096, 3) := by decide +kernel
theorem d_Si_readSecret_147 : decode (a_cc M_Si_readSecret) 147 = .ok (.aload_n 0, 1) := by decide +kernel
theorem d_Si_readSecret_148 : decode (a_cc M_Si_readSecret) 148 = .ok (.getfield 15, 3) := by decide +kernel
theorem d_Si_readSecret_151 : decode (a_cc M_Si_readSecret) 151 = .ok (.iload 4, 2) := by decide +kernel
theorem d_Si_readSecret_153 : decode (a_cc M_Si_readSecret) 153 = .ok (.aaload, 1) := by decide +kernel
theorem d_Si_readSecret_154 : decode (a_cc M_Si_readSecret) 154 = .ok (.invokevirtual 112, 3) := by decide +kernel
theorem d_Si_readSecret_157 : decode (a_cc M_Si_readSecret) 157 = .ok (.iload_n 3, 1) := by decide +kernel
theorem d_Si_readSecret_158 : decode (a_cc M_Si_readSecret) 158 = .ok (.bipush 13, 2) := by decide +kernel
theorem d_Si_readSecret_160 : decode (a_cc M_Si_readSecret) 160 = .ok (.invokestatic 116, 3) := by decide +kernel
theorem d_Si_readSecret_163 : decode (a_cc M_Si_readSecret) 163 = .ok (.iadd, 1) := by decide +kernel
theorem d_Si_readSecret_164 : decode (a_cc M_Si_readSecret) 164 = .ok (.istore_n 3, 1) := by decide +kernel
theorem d_Si_readSecret_165 : decode (a_cc M_Si_readSecret) 165 = .ok (.iinc 4 1, 3) := by decide +kernel
theorem d_Si_readSecret_168 : decode (a_cc M_Si_readSecret) 168 = .ok (.goto (-38), 3) := by decide +kernel
theorem d_Si_readSecret_171 : decode (a_cc M_Si_readSecret) 171 = .ok (.return_, 1) := by decide +kernel
theorem fd_Si_91 : a_Fd "ModuleSigner$Signer" 91 3 0 2 := ⟨by decide, by decide, rfl, List.mem_append_right _ (List.mem_of_getElem? (i := 223) (by decide +kernel))⟩
theorem fd_Si_95 : a_Fd "ModuleSigner$Signer" 95 3 3 2 := ⟨by decide, by decide, rfl, List.mem_append_right _ (List.mem_of_getElem? (i := 235) (by decide +kernel))⟩
theorem cs_Si_readSecret_16 : a_CV M_Si_readSecret M_Sa_matrix 98 8 4 0 3 := ⟨⟨ok_Sa_matrix, by decide, by decide, by decide⟩, by decide, rfl, List.mem_append_right _ (List.mem_of_getElem? (i := 816) (by decide +kernel)), List.mem_append_right _ (List.mem_of_getElem? (i := 656) (by decide +kernel)), List.mem_append_right _ (List.mem_of_getElem? (i := 657) (by decide +kernel)), by decide +kernel⟩
theorem fd_Si_56 : a_Fd "ModuleSigner$Signer" 56 2 1 0 := ⟨by decide, by decide, rfl, List.mem_append_right _ (List.mem_of_getElem? (i := 89) (by decide +kernel))⟩
theorem fd_Si_103 : a_Fd "ModuleSigner$Signer" 103 2 10 0 := ⟨by decide, by decide, rfl, List.mem_append_right _ (List.mem_of_getElem? (i := 114) (by decide +kernel))⟩
theorem fd_Si_106 : a_Fd "ModuleSigner$Signer" 106 2 2 0 := ⟨by decide, by decide, rfl, List.mem_append_right _ (List.mem_of_getElem? (i := 93) (by decide +kernel))⟩
theorem fd_Si_109 : a_Fd "ModuleSigner$Signer" 109 3 4 2 := ⟨by decide, by decide, rfl, List.mem_append_right _ (List.mem_of_getElem? (i := 239) (by decide +kernel))⟩
theorem cs_Si_readSecret_56 : a_CV M_Si_readSecret M_Si_readMirrored 112 5 6 0 5 := ⟨⟨ok_Si_readMirrored, by decide, by decide, by decide⟩, by decide, rfl, List.mem_append_right _ (List.mem_of_getElem? (i := 817) (by decide +kernel)), List.mem_append_right _ (List.mem_of_getElem? (i := 819) (by decide +kernel)), List.mem_append_left _ (List.mem_of_getElem? (i := 14) (by decide +kernel)), by decide +kernel⟩
theorem cs_Si_readSecret_64 : a_CS M_Si_readSecret M_Ri_packedSize 116 1 1 1 := ⟨⟨ok_Ri_packedSize, by decide, by decide, by decide⟩, List.mem_append_right _ (List.mem_of_getElem? (i := 827) (by decide +kernel)), List.mem_append_right _ (List.mem_of_getElem? (i := 78) (by decide +kernel)), by decide +kernel⟩
theorem fd_Si_120 : a_Fd "ModuleSigner$Signer" 120 2 0 0 := ⟨by decide, by decide, rfl, List.mem_append_right _ (List.mem_of_getElem? (i := 85) (by decide +kernel))⟩
theorem fd_Si_123 : a_Fd "ModuleSigner$Signer" 123 3 5 2 := ⟨by decide, by decide, rfl, List.mem_append_right _ (List.mem_of_getElem? (i := 242) (by decide +kernel))⟩
theorem cs_Si_readSecret_108 : a_CV M_Si_readSecret M_Si_readMirrored 112 5 6 0 5 := ⟨⟨ok_Si_readMirrored, by decide, by decide, by decide⟩, by decide, rfl, List.mem_append_right _ (List.mem_of_getElem? (i := 817) (by decide +kernel)), List.mem_append_right _ (List.mem_of_getElem? (i := 819) (by decide +kernel)), List.mem_append_left _ (List.mem_of_getElem? (i := 14) (by decide +kernel)), by decide +kernel⟩
theorem cs_Si_readSecret_116 : a_CS M_Si_readSecret M_Ri_packedSize 116 1 1 1 := ⟨⟨ok_Ri_packedSize, by decide, by decide, by decide⟩, List.mem_append_right _ (List.mem_of_getElem? (i := 827) (by decide +kernel)), List.mem_append_right _ (List.mem_of_getElem? (i := 78) (by decide +kernel)), by decide +kernel⟩
theorem cs_Si_readSecret_154 : a_CV M_Si_readSecret M_Si_readMirrored 112 5 6 0 5 := ⟨⟨ok_Si_readMirrored, by decide, by decide, by decide⟩, by decide, rfl, List.mem_append_right _ (List.mem_of_getElem? (i := 817) (by decide +kernel)), List.mem_append_right _ (List.mem_of_getElem? (i := 819) (by decide +kernel)), List.mem_append_left _ (List.mem_of_getElem? (i := 14) (by decide +kernel)), by decide +kernel⟩
theorem cs_Si_readSecret_160 : a_CS M_Si_readSecret M_Ri_packedSize 116 1 1 1 := ⟨⟨ok_Ri_packedSize, by decide, by decide, by decide⟩, List.mem_append_right _ (List.mem_of_getElem? (i := 827) (by decide +kernel)), List.mem_append_right _ (List.mem_of_getElem? (i := 78) (by decide +kernel)), by decide +kernel⟩
def M_Be_digestSigned : a_M := (⟨"ModuleSigner$Bench", "digestSigned", "(LModuleSigner$Bytes;I[LModuleSigner$Bytes;I)V"⟩, prog_2_method_4_code, 5, none, "ModuleSigner$Bench", 3, 50, [])
theorem ok_Be_digestSigned : a_Ok M_Be_digestSigned := ⟨rfl, by decide +kernel, ⟨by decide, by decide⟩, List.mem_append_right _ (List.mem_of_getElem? (i := 5) (by decide +kernel)), Or.inl ⟨rfl, List.mem_append_right _ (List.mem_of_getElem? (i := 831) (by decide +kernel))⟩⟩
theorem d_Be_digestSigned_0 : decode (a_cc M_Be_digestSigned) 0 = .ok (.aload_n 0, 1) := by decide +kernel
theorem d_Be_digestSigned_1 : decode (a_cc M_Be_digestSigned) 1 = .ok (.getfield 22, 3) := by decide +kernel
theorem d_Be_digestSigned_4 : decode (a_cc M_Be_digestSigned) 4 = .ok (.invokevirtual 90, 3) := by decide +kernel
theorem d_Be_digestSigned_7 : decode (a_cc M_Be_digestSigned) 7 = .ok (.aload_n 0, 1) := by decide +kernel
theorem d_Be_digestSigned_8 : decode (a_cc M_Be_digestSigned) 8 = .ok (.getfield 22, 3) := by decide +kernel
theorem d_Be_digestSigned_11 : decode (a_cc M_Be_digestSigned) 11 = .ok (.aload_n 1, 1) := by decide +kernel
theorem d_Be_digestSigned_12 : decode (a_cc M_Be_digestSigned) 12 = .ok (.iload_n 2, 1) := by decide +kernel
theorem d_Be_digestSigned_13 : decode (a_cc M_Be_digestSigned) 13 = .ok (.bipush 64, 2) := by decide +kernel
theorem d_Be_digestSigned_15 : decode (a_cc M_Be_digestSigned) 15 = .ok (.invokevirtual 95, 3) := by decide +kernel
theorem d_Be_digestSigned_18 : decode (a_cc M_Be_digestSigned) 18 = .ok (.iload 4, 2) := by decide +kernel
theorem d_Be_digestSigned_20 : decode (a_cc M_Be_digestSigned) 20 = .ok (.ifCond .ne 41, 3) := by decide +kernel
theorem d_Be_digestSigned_23 : decode (a_cc M_Be_digestSigned) 23 = .ok (.aload_n 0, 1) := by decide +kernel
theorem d_Be_digestSigned_24 : decode (a_cc M_Be_digestSigned) 24 = .ok (.getfield 22, 3) := by decide +kernel
theorem d_Be_digestSigned_27 : decode (a_cc M_Be_digestSigned) 27 = .ok (.iconst 0, 1) := by decide +kernel
theorem d_Be_digestSigned_28 : decode (a_cc M_Be_digestSigned) 28 = .ok (.invokevirtual 99, 3) := by decide +kernel
theorem d_Be_digestSigned_31 : decode (a_cc M_Be_digestSigned) 31 = .ok (.aload_n 0, 1) := by decide +kernel
theorem d_Be_digestSigned_32 : decode (a_cc M_Be_digestSigned) 32 = .ok (.getfield 22, 3) := by decide +kernel
theorem d_Be_digestSigned_35 : decode (a_cc M_Be_digestSigned) 35 = .ok (.aload_n 3, 1) := by decide +kernel
theorem d_Be_digestSigned_36 : decode (a_cc M_Be_digestSigned) 36 = .ok (.iconst 4, 1) := by decide +kernel
theorem d_Be_digestSigned_37 : decode (a_cc M_Be_digestSigned) 37 = .ok (.aaload, 1) := by decide +kernel
theorem d_Be_digestSigned_38 : decode (a_cc M_Be_digestSigned) 38 = .ok (.getfield 102, 3) := by decide +kernel
theorem d_Be_digestSigned_41 : decode (a_cc M_Be_digestSigned) 41 = .ok (.invokevirtual 99, 3) := by decide +kernel
theorem d_Be_digestSigned_44 : decode (a_cc M_Be_digestSigned) 44 = .ok (.aload_n 0, 1) := by decide +kernel
theorem d_Be_digestSigned_45 : decode (a_cc M_Be_digestSigned) 45 = .ok (.getfield 22, 3) := by decide +kernel
theorem d_Be_digestSigned_48 : decode (a_cc M_Be_digestSigned) 48 = .ok (.aload_n 3, 1) := by decide +kernel
theorem d_Be_digestSigned_49 : decode (a_cc M_Be_digestSigned) 49 = .ok (.iconst 4, 1) := by decide +kernel
theorem d_Be_digestSigned_50 : decode (a_cc M_Be_digestSigned) 50 = .ok (.aaload, 1) := by decide +kernel
theorem d_Be_digestSigned_51 : decode (a_cc M_Be_digestSigned) 51 = .ok (.iconst 0, 1) := by decide +kernel
theorem d_Be_digestSigned_52 : decode (a_cc M_Be_digestSigned) 52 = .ok (.aload_n 3, 1) := by decide +kernel
theorem d_Be_digestSigned_53 : decode (a_cc M_Be_digestSigned) 53 = .ok (.iconst 4, 1) := by decide +kernel
theorem d_Be_digestSigned_54 : decode (a_cc M_Be_digestSigned) 54 = .ok (.aaload, 1) := by decide +kernel
theorem d_Be_digestSigned_55 : decode (a_cc M_Be_digestSigned) 55 = .ok (.getfield 102, 3) := by decide +kernel
theorem d_Be_digestSigned_58 : decode (a_cc M_Be_digestSigned) 58 = .ok (.invokevirtual 95, 3) := by decide +kernel
theorem d_Be_digestSigned_61 : decode (a_cc M_Be_digestSigned) 61 = .ok (.aload_n 0, 1) := by decide +kernel
theorem d_Be_digestSigned_62 : decode (a_cc M_Be_digestSigned) 62 = .ok (.getfield 22, 3) := by decide +kernel
theorem d_Be_digestSigned_65 : decode (a_cc M_Be_digestSigned) 65 = .ok (.aload_n 3, 1) := by decide +kernel
theorem d_Be_digestSigned_66 : decode (a_cc M_Be_digestSigned) 66 = .ok (.iconst 3, 1) := by decide +kernel
theorem d_Be_digestSigned_67 : decode (a_cc M_Be_digestSigned) 67 = .ok (.aaload, 1) := by decide +kernel
theorem d_Be_digestSigned_68 : decode (a_cc M_Be_digestSigned) 68 = .ok (.iconst 0, 1) := by decide +kernel
theorem d_Be_digestSigned_69 : decode (a_cc M_Be_digestSigned) 69 = .ok (.aload_n 3, 1) := by decide +kernel
theorem d_Be_digestSigned_70 : decode (a_cc M_Be_digestSigned) 70 = .ok (.iconst 3, 1) := by decide +kernel
theorem d_Be_digestSigned_71 : decode (a_cc M_Be_digestSigned) 71 = .ok (.aaload, 1) := by decide +kernel
theorem d_Be_digestSigned_72 : decode (a_cc M_Be_digestSigned) 72 = .ok (.getfield 102, 3) := by decide +kernel
theorem d_Be_digestSigned_75 : decode (a_cc M_Be_digestSigned) 75 = .ok (.invokevirtual 95, 3) := by decide +kernel
theorem d_Be_digestSigned_78 : decode (a_cc M_Be_digestSigned) 78 = .ok (.aload_n 0, 1) := by decide +kernel
theorem d_Be_digestSigned_79 : decode (a_cc M_Be_digestSigned) 79 = .ok (.getfield 22, 3) := by decide +kernel
theorem d_Be_digestSigned_82 : decode (a_cc M_Be_digestSigned) 82 = .ok (.invokevirtual 105, 3) := by decide +kernel
theorem d_Be_digestSigned_85 : decode (a_cc M_Be_digestSigned) 85 = .ok (.aload_n 0, 1) := by decide +kernel
theorem d_Be_digestSigned_86 : decode (a_cc M_Be_digestSigned) 86 = .ok (.getfield 22, 3) := by decide +kernel
theorem d_Be_digestSigned_89 : decode (a_cc M_Be_digestSigned) 89 = .ok (.aload_n 0, 1) := by decide +kernel
theorem d_Be_digestSigned_90 : decode (a_cc M_Be_digestSigned) 90 = .ok (.getfield 59, 3) := by decide +kernel
theorem d_Be_digestSigned_93 : decode (a_cc M_Be_digestSigned) 93 = .ok (.bipush 64, 2) := by decide +kernel
theorem d_Be_digestSigned_95 : decode (a_cc M_Be_digestSigned) 95 = .ok (.invokevirtual 108, 3) := by decide +kernel
theorem d_Be_digestSigned_98 : decode (a_cc M_Be_digestSigned) 98 = .ok (.return_, 1) := by decide +kernel
theorem cs_Be_digestSigned_4 : a_CV M_Be_digestSigned M_Sp_start256 90 7 1 0 0 := ⟨⟨ok_Sp_start256, by decide, by decide, by decide⟩, by decide, rfl, List.mem_append_right _ (List.mem_of_getElem? (i := 832) (by decide +kernel)), List.mem_append_right _ (List.mem_of_getElem? (i := 604) (by decide +kernel)), List.mem_append_right _ (List.mem_of_getElem? (i := 605) (by decide +kernel)), by decide +kernel⟩
theorem cs_Be_digestSigned_15 : a_CV M_Be_digestSigned M_Sp_takePart 95 7 4 0 3 := ⟨⟨ok_Sp_takePart, by decide, by decide, by decide⟩, by decide, rfl, List.mem_append_right _ (List.mem_of_getElem? (i := 833) (by decide +kernel)), List.mem_append_right _ (List.mem_of_getElem? (i := 612) (by decide +kernel)), List.mem_append_right _ (List.mem_of_getElem? (i := 613) (by decide +kernel)), by decide +kernel⟩
theorem cs_Be_digestSigned_28 : a_CV M_Be_digestSigned M_Sp_take 99 7 2 0 1 := ⟨⟨ok_Sp_take, by decide, by decide, by decide⟩, by decide, rfl, List.mem_append_right _ (List.mem_of_getElem? (i := 834) (by decide +kernel)), List.mem_append_right _ (List.mem_of_getElem? (i := 617) (by decide +kernel)), List.mem_append_right _ (List.mem_of_getElem? (i := 618) (by decide +kernel)), by decide +kernel⟩
theorem fd_Be_102 : a_Fd "ModuleSigner$Bench" 102 1 1 0 := ⟨by decide, by decide, rfl, List.mem_append_right _ (List.mem_of_getElem? (i := 42) (by decide +kernel))⟩
theorem cs_Be_digestSigned_41 : a_CV M_Be_digestSigned M_Sp_take 99 7 2 0 1 := ⟨⟨ok_Sp_take, by decide, by decide, by decide⟩, by decide, rfl, List.mem_append_right _ (List.mem_of_getElem? (i := 834) (by decide +kernel)), List.mem_append_right _ (List.mem_of_getElem? (i := 617) (by decide +kernel)), List.mem_append_right _ (List.mem_of_getElem? (i := 618) (by decide +kernel)), by decide +kernel⟩
theorem cs_Be_digestSigned_58 : a_CV M_Be_digestSigned M_Sp_takePart 95 7 4 0 3 := ⟨⟨ok_Sp_takePart, by decide, by decide, by decide⟩, by decide, rfl, List.mem_append_right _ (List.mem_of_getElem? (i := 833) (by decide +kernel)), List.mem_append_right _ (List.mem_of_getElem? (i := 612) (by decide +kernel)), List.mem_append_right _ (List.mem_of_getElem? (i := 613) (by decide +kernel)), by decide +kernel⟩
theorem cs_Be_digestSigned_75 : a_CV M_Be_digestSigned M_Sp_takePart 95 7 4 0 3 := ⟨⟨ok_Sp_takePart, by decide, by decide, by decide⟩, by decide, rfl, List.mem_append_right _ (List.mem_of_getElem? (i := 833) (by decide +kernel)), List.mem_append_right _ (List.mem_of_getElem? (i := 612) (by decide +kernel)), List.mem_append_right _ (List.mem_of_getElem? (i := 613) (by decide +kernel)), by decide +kernel⟩
theorem cs_Be_digestSigned_82 : a_CV M_Be_digestSigned M_Sp_turn 105 7 1 0 0 := ⟨⟨ok_Sp_turn, by decide, by decide, by decide⟩, by decide, rfl, List.mem_append_right _ (List.mem_of_getElem? (i := 835) (by decide +kernel)), List.mem_append_right _ (List.mem_of_getElem? (i := 638) (by decide +kernel)), List.mem_append_right _ (List.mem_of_getElem? (i := 639) (by decide +kernel)), by decide +kernel⟩
theorem cs_Be_digestSigned_95 : a_CV M_Be_digestSigned M_Sp_giveTo 108 7 3 0 2 := ⟨⟨ok_Sp_giveTo, by decide, by decide, by decide⟩, by decide, rfl, List.mem_append_right _ (List.mem_of_getElem? (i := 836) (by decide +kernel)), List.mem_append_right _ (List.mem_of_getElem? (i := 642) (by decide +kernel)), List.mem_append_right _ (List.mem_of_getElem? (i := 643) (by decide +kernel)), by decide +kernel⟩
def M_Si_drawMaskSeed : a_M := (⟨"ModuleSigner$Signer", "drawMaskSeed", "(LModuleSigner$Bytes;LModuleSigner$Bytes;)V"⟩, prog_8_method_5_code, 3, none, "ModuleSigner$Signer", 3, 50, [])
theorem ok_Si_drawMaskSeed : a_Ok M_Si_drawMaskSeed := ⟨rfl, by decide +kernel, ⟨by decide, by decide⟩, List.mem_append_right _ (List.mem_of_getElem? (i := 9) (by decide +kernel)), Or.inl ⟨rfl, List.mem_append_right _ (List.mem_of_getElem? (i := 840) (by decide +kernel))⟩⟩
theorem d_Si_drawMaskSeed_0 : decode (a_cc M_Si_drawMaskSeed) 0 = .ok (.aload_n 0, 1) := by decide +kernel
theorem d_Si_drawMaskSeed_1 : decode (a_cc M_Si_drawMaskSeed) 1 = .ok (.getfield 38, 3) := by decide +kernel
theorem d_Si_drawMaskSeed_4 : decode (a_cc M_Si_drawMaskSeed) 4 = .ok (.getfield 142, 3) := by decide +kernel
theorem d_Si_drawMaskSeed_7 : decode (a_cc M_Si_drawMaskSeed) 7 = .ok (.invokevirtual 146, 3) := by decide +kernel
theorem d_Si_drawMaskSeed_10 : decode (a_cc M_Si_drawMaskSeed) 10 = .ok (.aload_n 0, 1) := by decide +kernel
theorem d_Si_drawMaskSeed_11 : decode (a_cc M_Si_drawMaskSeed) 11 = .ok (.getfield 38, 3) := by decide +kernel
theorem d_Si_drawMaskSeed_14 : decode (a_cc M_Si_drawMaskSeed) 14 = .ok (.getfield 142, 3) := by decide +kernel
theorem d_Si_drawMaskSeed_17 : decode (a_cc M_Si_drawMaskSeed) 17 = .ok (.aload_n 1, 1) := by decide +kernel
theorem d_Si_drawMaskSeed_18 : decode (a_cc M_Si_drawMaskSeed) 18 = .ok (.bipush 32, 2) := by decide +kernel
theorem d_Si_drawMaskSeed_20 : decode (a_cc M_Si_drawMaskSeed) 20 = .ok (.bipush 32, 2) := by decide +kernel
theorem d_Si_drawMaskSeed_22 : decode (a_cc M_Si_drawMaskSeed) 22 = .ok (.invokevirtual 151, 3) := by decide +kernel
theorem d_Si_drawMaskSeed_25 : decode (a_cc M_Si_drawMaskSeed) 25 = .ok (.aload_n 0, 1) := by decide +kernel
theorem d_Si_drawMaskSeed_26 : decode (a_cc M_Si_drawMaskSeed) 26 = .ok (.getfield 38, 3) := by decide +kernel
theorem d_Si_drawMaskSeed_29 : decode (a_cc M_Si_drawMaskSeed) 29 = .ok (.getfield 142, 3) := by decide +kernel
theorem d_Si_drawMaskSeed_32 : decode (a_cc M_Si_drawMaskSeed) 32 = .ok (.aload_n 2, 1) := by decide +kernel
theorem d_Si_drawMaskSeed_33 : decode (a_cc M_Si_drawMaskSeed) 33 = .ok (.iconst 0, 1) := by decide +kernel
theorem d_Si_drawMaskSeed_34 : decode (a_cc M_Si_drawMaskSeed) 34 = .ok (.bipush 32, 2) := by decide +kernel
theorem d_Si_drawMaskSeed_36 : decode (a_cc M_Si_drawMaskSeed) 36 = .ok (.invokevirtual 151, 3) := by decide +kernel
theorem d_Si_drawMaskSeed_39 : decode (a_cc M_Si_drawMaskSeed) 39 = .ok (.aload_n 0, 1) := by decide +kernel
theorem d_Si_drawMaskSeed_40 : decode (a_cc M_Si_drawMaskSeed) 40 = .ok (.getfield 38, 3) := by decide +kernel
theorem d_Si_drawMaskSeed_43 : decode (a_cc M_Si_drawMaskSeed) 43 = .ok (.getfield 142, 3) := by decide +kernel
theorem d_Si_drawMaskSeed_46 : decode (a_cc M_Si_drawMaskSeed) 46 = .ok (.aload_n 0, 1) := by decide +kernel
theorem d_Si_drawMaskSeed_47 : decode (a_cc M_Si_drawMaskSeed) 47 = .ok (.getfield 38, 3) := by decide +kernel
theorem d_Si_drawMaskSeed_50 : decode (a_cc M_Si_drawMaskSeed) 50 = .ok (.getfield 155, 3) := by decide +kernel
theorem d_Si_drawMaskSeed_53 : decode (a_cc M_Si_drawMaskSeed) 53 = .ok (.iconst 0, 1) := by decide +kernel
theorem d_Si_drawMaskSeed_54 : decode (a_cc M_Si_drawMaskSeed) 54 = .ok (.bipush 64, 2) := by decide +kernel
theorem d_Si_drawMaskSeed_56 : decode (a_cc M_Si_drawMaskSeed) 56 = .ok (.invokevirtual 151, 3) := by decide +kernel
theorem d_Si_drawMaskSeed_59 : decode (a_cc M_Si_drawMaskSeed) 59 = .ok (.aload_n 0, 1) := by decide +kernel
theorem d_Si_drawMaskSeed_60 : decode (a_cc M_Si_drawMaskSeed) 60 = .ok (.getfield 38, 3) := by decide +kernel
theorem d_Si_drawMaskSeed_63 : decode (a_cc M_Si_drawMaskSeed) 63 = .ok (.getfield 142, 3) := by decide +kernel
theorem d_Si_drawMaskSeed_66 : decode (a_cc M_Si_drawMaskSeed) 66 = .ok (.invokevirtual 158, 3) := by decide +kernel
theorem d_Si_drawMaskSeed_69 : decode (a_cc M_Si_drawMaskSeed) 69 = .ok (.aload_n 0, 1) := by decide +kernel
theorem d_Si_drawMaskSeed_70 : decode (a_cc M_Si_drawMaskSeed) 70 = .ok (.getfield 38, 3) := by decide +kernel
theorem d_Si_drawMaskSeed_73 : decode (a_cc M_Si_drawMaskSeed) 73 = .ok (.getfield 142, 3) := by decide +kernel
theorem d_Si_drawMaskSeed_76 : decode (a_cc M_Si_drawMaskSeed) 76 = .ok (.aload_n 0, 1) := by decide +kernel
theorem d_Si_drawMaskSeed_77 : decode (a_cc M_Si_drawMaskSeed) 77 = .ok (.getfield 28, 3) := by decide +kernel
theorem d_Si_drawMaskSeed_80 : decode (a_cc M_Si_drawMaskSeed) 80 = .ok (.bipush 64, 2) := by decide +kernel
theorem d_Si_drawMaskSeed_82 : decode (a_cc M_Si_drawMaskSeed) 82 = .ok (.invokevirtual 161, 3) := by decide +kernel
theorem d_Si_drawMaskSeed_85 : decode (a_cc M_Si_drawMaskSeed) 85 = .ok (.return_, 1) := by decide +kernel
theorem fd_Si_142 : a_Fd "ModuleSigner$Signer" 142 3 1 2 := ⟨by decide, by decide, rfl, List.mem_append_right _ (List.mem_of_getElem? (i := 228) (by decide +kernel))⟩
theorem cs_Si_drawMaskSeed_7 : a_CV M_Si_drawMaskSeed M_Sp_start256 146 7 1 0 0 := ⟨⟨ok_Sp_start256, by decide, by decide, by decide⟩, by decide, rfl, List.mem_append_right _ (List.mem_of_getElem? (i := 841) (by decide +kernel)), List.mem_append_right _ (List.mem_of_getElem? (i := 604) (by decide +kernel)), List.mem_append_right _ (List.mem_of_getElem? (i := 605) (by decide +kernel)), by decide +kernel⟩
theorem cs_Si_drawMaskSeed_22 : a_CV M_Si_drawMaskSeed M_Sp_takePart 151 7 4 0 3 := ⟨⟨ok_Sp_takePart, by decide, by decide, by decide⟩, by decide, rfl, List.mem_append_right _ (List.mem_of_getElem? (i := 842) (by decide +kernel)), List.mem_append_right _ (List.mem_of_getElem? (i := 612) (by decide +kernel)), List.mem_append_right _ (List.mem_of_getElem? (i := 613) (by decide +kernel)), by decide +kernel⟩
theorem cs_Si_drawMaskSeed_36 : a_CV M_Si_drawMaskSeed M_Sp_takePart 151 7 4 0 3 := ⟨⟨ok_Sp_takePart, by decide, by decide, by decide⟩, by decide, rfl, List.mem_append_right _ (List.mem_of_getElem? (i := 842) (by decide +kernel)), List.mem_append_right _ (List.mem_of_getElem? (i := 612) (by decide +kernel)), List.mem_append_right _ (List.mem_of_getElem? (i := 613) (by decide +kernel)), by decide +kernel⟩
theorem fd_Si_155 : a_Fd "ModuleSigner$Signer" 155 3 10 2 := ⟨by decide, by decide, rfl, List.mem_append_right _ (List.mem_of_getElem? (i := 259) (by decide +kernel))⟩
theorem cs_Si_drawMaskSeed_56 : a_CV M_Si_drawMaskSeed M_Sp_takePart 151 7 4 0 3 := ⟨⟨ok_Sp_takePart, by decide, by decide, by decide⟩, by decide, rfl, List.mem_append_right _ (List.mem_of_getElem? (i := 842) (by decide +kernel)), List.mem_append_right _ (List.mem_of_getElem? (i := 612) (by decide +kernel)), List.mem_append_right _ (List.mem_of_getElem? (i := 613) (by decide +kernel)), by decide +kernel⟩
theorem cs_Si_drawMaskSeed_66 : a_CV M_Si_drawMaskSeed M_Sp_turn 158 7 1 0 0 := ⟨⟨ok_Sp_turn, by decide, by decide, by decide⟩, by decide, rfl, List.mem_append_right _ (List.mem_of_getElem? (i := 843) (by decide +kernel)), List.mem_append_right _ (List.mem_of_getElem? (i := 638) (by decide +kernel)), List.mem_append_right _ (List.mem_of_getElem? (i := 639) (by decide +kernel)), by decide +kernel⟩
theorem cs_Si_drawMaskSeed_82 : a_CV M_Si_drawMaskSeed M_Sp_giveTo 161 7 3 0 2 := ⟨⟨ok_Sp_giveTo, by decide, by decide, by decide⟩, by decide, rfl, List.mem_append_right _ (List.mem_of_getElem? (i := 844) (by decide +kernel)), List.mem_append_right _ (List.mem_of_getElem? (i := 642) (by decide +kernel)), List.mem_append_right _ (List.mem_of_getElem? (i := 643) (by decide +kernel)), by decide +kernel⟩
def M_Sa_mask : a_M := (⟨"ModuleSigner$Sampler", "mask", "(LModuleSigner$Parameters;LModuleSigner$Bytes;[I)V"⟩, prog_7_method_7_code, 4, none, "ModuleSigner$Sampler", 3, 50, [])
theorem ok_Sa_mask : a_Ok M_Sa_mask := ⟨rfl, by decide +kernel, ⟨by decide, by decide⟩, List.mem_append_right _ (List.mem_of_getElem? (i := 6) (by decide +kernel)), Or.inl ⟨rfl, List.mem_append_right _ (List.mem_of_getElem? (i := 853) (by decide +kernel))⟩⟩
theorem d_Sa_mask_0 : decode (a_cc M_Sa_mask) 0 = .ok (.aload_n 0, 1) := by decide +kernel
theorem d_Sa_mask_1 : decode (a_cc M_Sa_mask) 1 = .ok (.getfield 12, 3) := by decide +kernel
theorem d_Sa_mask_4 : decode (a_cc M_Sa_mask) 4 = .ok (.aload_n 2, 1) := by decide +kernel
theorem d_Sa_mask_5 : decode (a_cc M_Sa_mask) 5 = .ok (.aload_n 1, 1) := by decide +kernel
theorem d_Sa_mask_6 : decode (a_cc M_Sa_mask) 6 = .ok (.getfield 80, 3) := by decide +kernel
theorem d_Sa_mask_9 : decode (a_cc M_Sa_mask) 9 = .ok (.invokestatic 83, 3) := by decide +kernel
theorem d_Sa_mask_12 : decode (a_cc M_Sa_mask) 12 = .ok (.invokevirtual 87, 3) := by decide +kernel
theorem d_Sa_mask_15 : decode (a_cc M_Sa_mask) 15 = .ok (.aload_n 2, 1) := by decide +kernel
theorem d_Sa_mask_16 : decode (a_cc M_Sa_mask) 16 = .ok (.iconst 0, 1) := by decide +kernel
theorem d_Sa_mask_17 : decode (a_cc M_Sa_mask) 17 = .ok (.aload_n 1, 1) := by decide +kernel
theorem d_Sa_mask_18 : decode (a_cc M_Sa_mask) 18 = .ok (.getfield 80, 3) := by decide +kernel
theorem d_Sa_mask_21 : decode (a_cc M_Sa_mask) 21 = .ok (.aload_n 3, 1) := by decide +kernel
theorem d_Sa_mask_22 : decode (a_cc M_Sa_mask) 22 = .ok (.invokevirtual 91, 3) := by decide +kernel
theorem d_Sa_mask_25 : decode (a_cc M_Sa_mask) 25 = .ok (.aload_n 3, 1) := by decide +kernel
theorem d_Sa_mask_26 : decode (a_cc M_Sa_mask) 26 = .ok (.aload_n 1, 1) := by decide +kernel
theorem d_Sa_mask_27 : decode (a_cc M_Sa_mask) 27 = .ok (.getfield 95, 3) := by decide +kernel
theorem d_Sa_mask_30 : decode (a_cc M_Sa_mask) 30 = .ok (.invokestatic 98, 3) := by decide +kernel
theorem d_Sa_mask_33 : decode (a_cc M_Sa_mask) 33 = .ok (.return_, 1) := by decide +kernel
theorem fd_Sa_80 : a_Fd "ModuleSigner$Sampler" 80 2 11 0 := ⟨by decide, by decide, rfl, List.mem_append_right _ (List.mem_of_getElem? (i := 117) (by decide +kernel))⟩
theorem cs_Sa_mask_9 : a_CS M_Sa_mask M_Ri_packedSize 83 1 2 1 := ⟨⟨ok_Ri_packedSize, by decide, by decide, by decide⟩, List.mem_append_right _ (List.mem_of_getElem? (i := 854) (by decide +kernel)), List.mem_append_right _ (List.mem_of_getElem? (i := 78) (by decide +kernel)), by decide +kernel⟩
theorem cs_Sa_mask_12 : a_CV M_Sa_mask M_Sp_giveTo 87 7 3 0 2 := ⟨⟨ok_Sp_giveTo, by decide, by decide, by decide⟩, by decide, rfl, List.mem_append_right _ (List.mem_of_getElem? (i := 855) (by decide +kernel)), List.mem_append_right _ (List.mem_of_getElem? (i := 642) (by decide +kernel)), List.mem_append_right _ (List.mem_of_getElem? (i := 643) (by decide +kernel)), by decide +kernel⟩
theorem cs_Sa_mask_22 : a_CV M_Sa_mask M_By_readBits 91 1 4 0 3 := ⟨⟨ok_By_readBits, by decide, by decide, by decide⟩, by decide, rfl, List.mem_append_right _ (List.mem_of_getElem? (i := 856) (by decide +kernel)), List.mem_append_right _ (List.mem_of_getElem? (i := 822) (by decide +kernel)), List.mem_append_right _ (List.mem_of_getElem? (i := 823) (by decide +kernel)), by decide +kernel⟩
theorem fd_Sa_95 : a_Fd "ModuleSigner$Sampler" 95 2 4 0 := ⟨by decide, by decide, rfl, List.mem_append_right _ (List.mem_of_getElem? (i := 98) (by decide +kernel))⟩
theorem cs_Sa_mask_30 : a_CS M_Sa_mask M_Ri_mirror 98 2 0 2 := ⟨⟨ok_Ri_mirror, by decide, by decide, by decide⟩, List.mem_append_right _ (List.mem_of_getElem? (i := 857) (by decide +kernel)), List.mem_append_right _ (List.mem_of_getElem? (i := 772) (by decide +kernel)), by decide +kernel⟩
def M_Si_drawMasks : a_M := (⟨"ModuleSigner$Signer", "drawMasks", "(LModuleSigner$Parameters;I)V"⟩, prog_8_method_6_code, 4, none, "ModuleSigner$Signer", 4, 65, [])
theorem ok_Si_drawMasks : a_Ok M_Si_drawMasks := ⟨rfl, by decide +kernel, ⟨by decide, by decide⟩, List.mem_append_right _ (List.mem_of_getElem? (i := 9) (by decide +kernel)), Or.inl ⟨rfl, List.mem_append_right _ (List.mem_of_getElem? (i := 848) (by decide +kernel))⟩⟩
theorem d_Si_drawMasks_0 : decode (a_cc M_Si_drawMasks) 0 = .ok (.iconst 0, 1) := by decide +kernel
theorem d_Si_drawMasks_1 : decode (a_cc M_Si_drawMasks) 1 = .ok (.istore_n 3, 1) := by decide +kernel
theorem d_Si_drawMasks_2 : decode (a_cc M_Si_drawMasks) 2 = .ok (.iload_n 3, 1) := by decide +kernel
theorem d_Si_drawMasks_3 : decode (a_cc M_Si_drawMasks) 3 = .ok (.aload_n 1, 1) := by decide +kernel
theorem d_Si_drawMasks_4 : decode (a_cc M_Si_drawMasks) 4 = .ok (.getfield 56, 3) := by decide +kernel
theorem d_Si_drawMasks_7 : decode (a_cc M_Si_drawMasks) 7 = .ok (.if_icmp .ge 88, 3) := by decide +kernel
theorem d_Si_drawMasks_10 : decode (a_cc M_Si_drawMasks) 10 = .ok (.aload_n 0, 1) := by decide +kernel
theorem d_Si_drawMasks_11 : decode (a_cc M_Si_drawMasks) 11 = .ok (.getfield 38, 3) := by decide +kernel
theorem d_Si_drawMasks_14 : decode (a_cc M_Si_drawMasks) 14 = .ok (.getfield 91, 3) := by decide +kernel
theorem d_Si_drawMasks_17 : decode (a_cc M_Si_drawMasks) 17 = .ok (.aload_n 0, 1) := by decide +kernel
theorem d_Si_drawMasks_18 : decode (a_cc M_Si_drawMasks) 18 = .ok (.getfield 28, 3) := by decide +kernel
theorem d_Si_drawMasks_21 : decode (a_cc M_Si_drawMasks) 21 = .ok (.iconst 0, 1) := by decide +kernel
theorem d_Si_drawMasks_22 : decode (a_cc M_Si_drawMasks) 22 = .ok (.iload_n 2, 1) := by decide +kernel
theorem d_Si_drawMasks_23 : decode (a_cc M_Si_drawMasks) 23 = .ok (.iload_n 3, 1) := by decide +kernel
theorem d_Si_drawMasks_24 : decode (a_cc M_Si_drawMasks) 24 = .ok (.iadd, 1) := by decide +kernel
theorem d_Si_drawMasks_25 : decode (a_cc M_Si_drawMasks) 25 = .ok (.invokevirtual 165, 3) := by decide +kernel
theorem d_Si_drawMasks_28 : decode (a_cc M_Si_drawMasks) 28 = .ok (.aload_n 0, 1) := by decide +kernel
theorem d_Si_drawMasks_29 : decode (a_cc M_Si_drawMasks) 29 = .ok (.getfield 38, 3) := by decide +kernel
theorem d_Si_drawMasks_32 : decode (a_cc M_Si_drawMasks) 32 = .ok (.getfield 91, 3) := by decide +kernel
theorem d_Si_drawMasks_35 : decode (a_cc M_Si_drawMasks) 35 = .ok (.aload_n 1, 1) := by decide +kernel
theorem d_Si_drawMasks_36 : decode (a_cc M_Si_drawMasks) 36 = .ok (.aload_n 0, 1) := by decide +kernel
theorem d_Si_drawMasks_37 : decode (a_cc M_Si_drawMasks) 37 = .ok (.getfield 38, 3) := by decide +kernel
theorem d_Si_drawMasks_40 : decode (a_cc M_Si_drawMasks) 40 = .ok (.getfield 168, 3) := by decide +kernel
theorem d_Si_drawMasks_43 : decode (a_cc M_Si_drawMasks) 43 = .ok (.aload_n 0, 1) := by decide +kernel
theorem d_Si_drawMasks_44 : decode (a_cc M_Si_drawMasks) 44 = .ok (.getfield 20, 3) := by decide +kernel
theorem d_Si_drawMasks_47 : decode (a_cc M_Si_drawMasks) 47 = .ok (.iload_n 3, 1) := by decide +kernel
theorem d_Si_drawMasks_48 : decode (a_cc M_Si_drawMasks) 48 = .ok (.aaload, 1) := by decide +kernel
theorem d_Si_drawMasks_49 : decode (a_cc M_Si_drawMasks) 49 = .ok (.invokevirtual 171, 3) := by decide +kernel
theorem d_Si_drawMasks_52 : decode (a_cc M_Si_drawMasks) 52 = .ok (.aload_n 0, 1) := by decide +kernel
theorem d_Si_drawMasks_53 : decode (a_cc M_Si_drawMasks) 53 = .ok (.getfield 20, 3) := by decide +kernel
theorem d_Si_drawMasks_56 : decode (a_cc M_Si_drawMasks) 56 = .ok (.iload_n 3, 1) := by decide +kernel
theorem d_Si_drawMasks_57 : decode (a_cc M_Si_drawMasks) 57 = .ok (.aaload, 1) := by decide +kernel
theorem d_Si_drawMasks_58 : decode (a_cc M_Si_drawMasks) 58 = .ok (.aload_n 0, 1) := by decide +kernel
theorem d_Si_drawMasks_59 : decode (a_cc M_Si_drawMasks) 59 = .ok (.getfield 38, 3) := by decide +kernel
theorem d_Si_drawMasks_62 : decode (a_cc M_Si_drawMasks) 62 = .ok (.getfield 175, 3) := by decide +kernel
theorem d_Si_drawMasks_65 : decode (a_cc M_Si_drawMasks) 65 = .ok (.iload_n 3, 1) := by decide +kernel
theorem d_Si_drawMasks_66 : decode (a_cc M_Si_drawMasks) 66 = .ok (.aaload, 1) := by decide +kernel
theorem d_Si_drawMasks_67 : decode (a_cc M_Si_drawMasks) 67 = .ok (.invokestatic 178, 3) := by decide +kernel
theorem d_Si_drawMasks_70 : decode (a_cc M_Si_drawMasks) 70 = .ok (.aload_n 0, 1) := by decide +kernel
theorem d_Si_drawMasks_71 : decode (a_cc M_Si_drawMasks) 71 = .ok (.getfield 38, 3) := by decide +kernel
theorem d_Si_drawMasks_74 : decode (a_cc M_Si_drawMasks) 74 = .ok (.getfield 134, 3) := by decide +kernel
theorem d_Si_drawMasks_77 : decode (a_cc M_Si_drawMasks) 77 = .ok (.aload_n 0, 1) := by decide +kernel
theorem d_Si_drawMasks_78 : decode (a_cc M_Si_drawMasks) 78 = .ok (.getfield 38, 3) := by decide +kernel
theorem d_Si_drawMasks_81 : decode (a_cc M_Si_drawMasks) 81 = .ok (.getfield 175, 3) := by decide +kernel
theorem d_Si_drawMasks_84 : decode (a_cc M_Si_drawMasks) 84 = .ok (.iload_n 3, 1) := by decide +kernel
theorem d_Si_drawMasks_85 : decode (a_cc M_Si_drawMasks) 85 = .ok (.aaload, 1) := by decide +kernel
theorem d_Si_drawMasks_86 : decode (a_cc M_Si_drawMasks) 86 = .ok (.invokevirtual 138, 3) := by decide +kernel
theorem d_Si_drawMasks_89 : decode (a_cc M_Si_drawMasks) 89 = .ok (.iinc 3 1, 3) := by decide +kernel
theorem d_Si_drawMasks_92 : decode (a_cc M_Si_drawMasks) 92 = .ok (.goto (-90), 3) := by decide +kernel
theorem d_Si_drawMasks_95 : decode (a_cc M_Si_drawMasks) 95 = .ok (.return_, 1) := by decide +kernel
theorem cs_Si_drawMasks_25 : a_CV M_Si_drawMasks M_Sa_takeNumbered 165 8 4 0 3 := ⟨⟨ok_Sa_takeNumbered, by decide, by decide, by decide⟩, by decide, rfl, List.mem_append_right _ (List.mem_of_getElem? (i := 849) (by decide +kernel)), List.mem_append_right _ (List.mem_of_getElem? (i := 689) (by decide +kernel)), List.mem_append_right _ (List.mem_of_getElem? (i := 690) (by decide +kernel)), by decide +kernel⟩
theorem fd_Si_168 : a_Fd "ModuleSigner$Signer" 168 3 12 2 := ⟨by decide, by decide, rfl, List.mem_append_right _ (List.mem_of_getElem? (i := 265) (by decide +kernel))⟩
theorem cs_Si_drawMasks_49 : a_CV M_Si_drawMasks M_Sa_mask 171 8 4 0 3 := ⟨⟨ok_Sa_mask, by decide, by decide, by decide⟩, by decide, rfl, List.mem_append_right _ (List.mem_of_getElem? (i := 850) (by decide +kernel)), List.mem_append_right _ (List.mem_of_getElem? (i := 851) (by decide +kernel)), List.mem_append_right _ (List.mem_of_getElem? (i := 852) (by decide +kernel)), by decide +kernel⟩
theorem fd_Si_175 : a_Fd "ModuleSigner$Signer" 175 3 6 2 := ⟨by decide, by decide, rfl, List.mem_append_right _ (List.mem_of_getElem? (i := 246) (by decide +kernel))⟩
theorem cs_Si_drawMasks_67 : a_CS M_Si_drawMasks M_Ri_copyRow 178 2 0 2 := ⟨⟨ok_Ri_copyRow, by decide, by decide, by decide⟩, List.mem_append_right _ (List.mem_of_getElem? (i := 858) (by decide +kernel)), List.mem_append_right _ (List.mem_of_getElem? (i := 710) (by decide +kernel)), by decide +kernel⟩
theorem cs_Si_drawMasks_86 : a_CV M_Si_drawMasks M_Ri_forward 138 9 2 0 1 := ⟨⟨ok_Ri_forward, by decide, by decide, by decide⟩, by decide, rfl, List.mem_append_right _ (List.mem_of_getElem? (i := 826) (by decide +kernel)), List.mem_append_right _ (List.mem_of_getElem? (i := 714) (by decide +kernel)), List.mem_append_right _ (List.mem_of_getElem? (i := 715) (by decide +kernel)), by decide +kernel⟩
def M_Pa_plainLow : a_M := (⟨"ModuleSigner$Parameters", "plainLow", "(I)I"⟩, prog_5_method_5_code, 3, some .int, "ModuleSigner$Parameters", 0, 0, [])
theorem ok_Pa_plainLow : a_Ok M_Pa_plainLow := ⟨rfl, by decide +kernel, ⟨by decide, by decide⟩, List.mem_append_right _ (List.mem_of_getElem? (i := 3) (by decide +kernel)), Or.inl ⟨rfl, List.mem_append_right _ (List.mem_of_getElem? (i := 873) (by decide +kernel))⟩⟩
theorem d_Pa_plainLow_0 : decode (a_cc M_Pa_plainLow) 0 = .ok (.iload_n 1, 1) := by decide +kernel
theorem d_Pa_plainLow_1 : decode (a_cc M_Pa_plainLow) 1 = .ok (.iconst 2, 1) := by decide +kernel
theorem d_Pa_plainLow_2 : decode (a_cc M_Pa_plainLow) 2 = .ok (.aload_n 0, 1) := by decide +kernel
theorem d_Pa_plainLow_3 : decode (a_cc M_Pa_plainLow) 3 = .ok (.getfield 52, 3) := by decide +kernel
theorem d_Pa_plainLow_6 : decode (a_cc M_Pa_plainLow) 6 = .ok (.imul, 1) := by decide +kernel
theorem d_Pa_plainLow_7 : decode (a_cc M_Pa_plainLow) 7 = .ok (.irem, 1) := by decide +kernel
theorem d_Pa_plainLow_8 : decode (a_cc M_Pa_plainLow) 8 = .ok (.istore_n 2, 1) := by decide +kernel
theorem d_Pa_plainLow_9 : decode (a_cc M_Pa_plainLow) 9 = .ok (.iload_n 2, 1) := by decide +kernel
theorem d_Pa_plainLow_10 : decode (a_cc M_Pa_plainLow) 10 = .ok (.aload_n 0, 1) := by decide +kernel
theorem d_Pa_plainLow_11 : decode (a_cc M_Pa_plainLow) 11 = .ok (.getfield 52, 3) := by decide +kernel
theorem d_Pa_plainLow_14 : decode (a_cc M_Pa_plainLow) 14 = .ok (.if_icmp .le 14, 3) := by decide +kernel
theorem d_Pa_plainLow_17 : decode (a_cc M_Pa_plainLow) 17 = .ok (.iload_n 2, 1) := by decide +kernel
theorem d_Pa_plainLow_18 : decode (a_cc M_Pa_plainLow) 18 = .ok (.iconst 2, 1) := by decide +kernel
theorem d_Pa_plainLow_19 : decode (a_cc M_Pa_plainLow) 19 = .ok (.aload_n 0, 1) := by decide +kernel
theorem d_Pa_plainLow_20 : decode (a_cc M_Pa_plainLow) 20 = .ok (.getfield 52, 3) := by decide +kernel
theorem d_Pa_plainLow_23 : decode (a_cc M_Pa_plainLow) 23 = .ok (.imul, 1) := by decide +kernel
theorem d_Pa_plainLow_24 : decode (a_cc M_Pa_plainLow) 24 = .ok (.isub, 1) := by decide +kernel
theorem d_Pa_plainLow_25 : decode (a_cc M_Pa_plainLow) 25 = .ok (.goto 4, 3) := by decide +kernel
theorem d_Pa_plainLow_28 : decode (a_cc M_Pa_plainLow) 28 = .ok (.iload_n 2, 1) := by decide +kernel
theorem d_Pa_plainLow_29 : decode (a_cc M_Pa_plainLow) 29 = .ok (.ireturn, 1) := by decide +kernel
def M_Pa_high : a_M := (⟨"ModuleSigner$Parameters", "high", "(I)I"⟩, prog_5_method_3_code, 3, some .int, "ModuleSigner$Parameters", 1, 15, [])
theorem ok_Pa_high : a_Ok M_Pa_high := ⟨rfl, by decide +kernel, ⟨by decide, by decide⟩, List.mem_append_right _ (List.mem_of_getElem? (i := 3) (by decide +kernel)), Or.inl ⟨rfl, List.mem_append_right _ (List.mem_of_getElem? (i := 869) (by decide +kernel))⟩⟩
theorem d_Pa_high_0 : decode (a_cc M_Pa_high) 0 = .ok (.iload_n 1, 1) := by decide +kernel
theorem d_Pa_high_1 : decode (a_cc M_Pa_high) 1 = .ok (.aload_n 0, 1) := by decide +kernel
theorem d_Pa_high_2 : decode (a_cc M_Pa_high) 2 = .ok (.iload_n 1, 1) := by decide +kernel
theorem d_Pa_high_3 : decode (a_cc M_Pa_high) 3 = .ok (.invokevirtual 93, 3) := by decide +kernel
theorem d_Pa_high_6 : decode (a_cc M_Pa_high) 6 = .ok (.isub, 1) := by decide +kernel
theorem d_Pa_high_7 : decode (a_cc M_Pa_high) 7 = .ok (.istore_n 2, 1) := by decide +kernel
theorem d_Pa_high_8 : decode (a_cc M_Pa_high) 8 = .ok (.iload_n 2, 1) := by decide +kernel
theorem d_Pa_high_9 : decode (a_cc M_Pa_high) 9 = .ok (.ldc 51, 2) := by decide +kernel
theorem d_Pa_high_11 : decode (a_cc M_Pa_high) 11 = .ok (.if_icmp .ne 7, 3) := by decide +kernel
theorem d_Pa_high_14 : decode (a_cc M_Pa_high) 14 = .ok (.iconst 0, 1) := by decide +kernel
theorem d_Pa_high_15 : decode (a_cc M_Pa_high) 15 = .ok (.goto 11, 3) := by decide +kernel
theorem d_Pa_high_18 : decode (a_cc M_Pa_high) 18 = .ok (.iload_n 2, 1) := by decide +kernel
theorem d_Pa_high_19 : decode (a_cc M_Pa_high) 19 = .ok (.iconst 2, 1) := by decide +kernel
theorem d_Pa_high_20 : decode (a_cc M_Pa_high) 20 = .ok (.aload_n 0, 1) := by decide +kernel
theorem d_Pa_high_21 : decode (a_cc M_Pa_high) 21 = .ok (.getfield 52, 3) := by decide +kernel
theorem d_Pa_high_24 : decode (a_cc M_Pa_high) 24 = .ok (.imul, 1) := by decide +kernel
theorem d_Pa_high_25 : decode (a_cc M_Pa_high) 25 = .ok (.idiv, 1) := by decide +kernel
theorem d_Pa_high_26 : decode (a_cc M_Pa_high) 26 = .ok (.ireturn, 1) := by decide +kernel
theorem cs_Pa_high_3 : a_CV M_Pa_high M_Pa_plainLow 93 2 2 1 1 := ⟨⟨ok_Pa_plainLow, by decide, by decide, by decide⟩, by decide, rfl, List.mem_append_right _ (List.mem_of_getElem? (i := 870) (by decide +kernel)), List.mem_append_right _ (List.mem_of_getElem? (i := 872) (by decide +kernel)), List.mem_append_left _ (List.mem_of_getElem? (i := 18) (by decide +kernel)), by decide +kernel⟩
def M_Be_hashHighs : a_M := (⟨"ModuleSigner$Bench", "hashHighs", "(LModuleSigner$Parameters;LModuleSigner$Bytes;)V"⟩, prog_2_method_5_code, 3, none, "ModuleSigner$Bench", 3, 50, [])
theorem ok_Be_hashHighs : a_Ok M_Be_hashHighs := ⟨rfl, by decide +kernel, ⟨by decide, by decide⟩, List.mem_append_right _ (List.mem_of_getElem? (i := 5) (by decide +kernel)), Or.inl ⟨rfl, List.mem_append_right _ (List.mem_of_getElem? (i := 878) (by decide +kernel))⟩⟩
theorem d_Be_hashHighs_0 : decode (a_cc M_Be_hashHighs) 0 = .ok (.aload_n 0, 1) := by decide +kernel
theorem d_Be_hashHighs_1 : decode (a_cc M_Be_hashHighs) 1 = .ok (.getfield 22, 3) := by decide +kernel
theorem d_Be_hashHighs_4 : decode (a_cc M_Be_hashHighs) 4 = .ok (.invokevirtual 90, 3) := by decide +kernel
theorem d_Be_hashHighs_7 : decode (a_cc M_Be_hashHighs) 7 = .ok (.aload_n 0, 1) := by decide +kernel
theorem d_Be_hashHighs_8 : decode (a_cc M_Be_hashHighs) 8 = .ok (.getfield 22, 3) := by decide +kernel
theorem d_Be_hashHighs_11 : decode (a_cc M_Be_hashHighs) 11 = .ok (.aload_n 0, 1) := by decide +kernel
theorem d_Be_hashHighs_12 : decode (a_cc M_Be_hashHighs) 12 = .ok (.getfield 59, 3) := by decide +kernel
theorem d_Be_hashHighs_15 : decode (a_cc M_Be_hashHighs) 15 = .ok (.iconst 0, 1) := by decide +kernel
theorem d_Be_hashHighs_16 : decode (a_cc M_Be_hashHighs) 16 = .ok (.bipush 64, 2) := by decide +kernel
theorem d_Be_hashHighs_18 : decode (a_cc M_Be_hashHighs) 18 = .ok (.invokevirtual 95, 3) := by decide +kernel
theorem d_Be_hashHighs_21 : decode (a_cc M_Be_hashHighs) 21 = .ok (.aload_n 0, 1) := by decide +kernel
theorem d_Be_hashHighs_22 : decode (a_cc M_Be_hashHighs) 22 = .ok (.getfield 22, 3) := by decide +kernel
theorem d_Be_hashHighs_25 : decode (a_cc M_Be_hashHighs) 25 = .ok (.aload_n 0, 1) := by decide +kernel
theorem d_Be_hashHighs_26 : decode (a_cc M_Be_hashHighs) 26 = .ok (.getfield 66, 3) := by decide +kernel
theorem d_Be_hashHighs_29 : decode (a_cc M_Be_hashHighs) 29 = .ok (.iconst 0, 1) := by decide +kernel
theorem d_Be_hashHighs_30 : decode (a_cc M_Be_hashHighs) 30 = .ok (.aload_n 0, 1) := by decide +kernel
theorem d_Be_hashHighs_31 : decode (a_cc M_Be_hashHighs) 31 = .ok (.getfield 66, 3) := by decide +kernel
theorem d_Be_hashHighs_34 : decode (a_cc M_Be_hashHighs) 34 = .ok (.getfield 102, 3) := by decide +kernel
theorem d_Be_hashHighs_37 : decode (a_cc M_Be_hashHighs) 37 = .ok (.invokevirtual 95, 3) := by decide +kernel
theorem d_Be_hashHighs_40 : decode (a_cc M_Be_hashHighs) 40 = .ok (.aload_n 0, 1) := by decide +kernel
theorem d_Be_hashHighs_41 : decode (a_cc M_Be_hashHighs) 41 = .ok (.getfield 22, 3) := by decide +kernel
theorem d_Be_hashHighs_44 : decode (a_cc M_Be_hashHighs) 44 = .ok (.invokevirtual 105, 3) := by decide +kernel
theorem d_Be_hashHighs_47 : decode (a_cc M_Be_hashHighs) 47 = .ok (.aload_n 0, 1) := by decide +kernel
theorem d_Be_hashHighs_48 : decode (a_cc M_Be_hashHighs) 48 = .ok (.getfield 22, 3) := by decide +kernel
theorem d_Be_hashHighs_51 : decode (a_cc M_Be_hashHighs) 51 = .ok (.aload_n 2, 1) := by decide +kernel
theorem d_Be_hashHighs_52 : decode (a_cc M_Be_hashHighs) 52 = .ok (.aload_n 1, 1) := by decide +kernel
theorem d_Be_hashHighs_53 : decode (a_cc M_Be_hashHighs) 53 = .ok (.getfield 112, 3) := by decide +kernel
theorem d_Be_hashHighs_56 : decode (a_cc M_Be_hashHighs) 56 = .ok (.invokevirtual 108, 3) := by decide +kernel
theorem d_Be_hashHighs_59 : decode (a_cc M_Be_hashHighs) 59 = .ok (.return_, 1) := by decide +kernel
theorem cs_Be_hashHighs_4 : a_CV M_Be_hashHighs M_Sp_start256 90 7 1 0 0 := ⟨⟨ok_Sp_start256, by decide, by decide, by decide⟩, by decide, rfl, List.mem_append_right _ (List.mem_of_getElem? (i := 832) (by decide +kernel)), List.mem_append_right _ (List.mem_of_getElem? (i := 604) (by decide +kernel)), List.mem_append_right _ (List.mem_of_getElem? (i := 605) (by decide +kernel)), by decide +kernel⟩
theorem cs_Be_hashHighs_18 : a_CV M_Be_hashHighs M_Sp_takePart 95 7 4 0 3 := ⟨⟨ok_Sp_takePart, by decide, by decide, by decide⟩, by decide, rfl, List.mem_append_right _ (List.mem_of_getElem? (i := 833) (by decide +kernel)), List.mem_append_right _ (List.mem_of_getElem? (i := 612) (by decide +kernel)), List.mem_append_right _ (List.mem_of_getElem? (i := 613) (by decide +kernel)), by decide +kernel⟩
theorem cs_Be_hashHighs_37 : a_CV M_Be_hashHighs M_Sp_takePart 95 7 4 0 3 := ⟨⟨ok_Sp_takePart, by decide, by decide, by decide⟩, by decide, rfl, List.mem_append_right _ (List.mem_of_getElem? (i := 833) (by decide +kernel)), List.mem_append_right _ (List.mem_of_getElem? (i := 612) (by decide +kernel)), List.mem_append_right _ (List.mem_of_getElem? (i := 613) (by decide +kernel)), by decide +kernel⟩
theorem cs_Be_hashHighs_44 : a_CV M_Be_hashHighs M_Sp_turn 105 7 1 0 0 := ⟨⟨ok_Sp_turn, by decide, by decide, by decide⟩, by decide, rfl, List.mem_append_right _ (List.mem_of_getElem? (i := 835) (by decide +kernel)), List.mem_append_right _ (List.mem_of_getElem? (i := 638) (by decide +kernel)), List.mem_append_right _ (List.mem_of_getElem? (i := 639) (by decide +kernel)), by decide +kernel⟩
theorem fd_Be_112 : a_Fd "ModuleSigner$Bench" 112 2 7 0 := ⟨by decide, by decide, rfl, List.mem_append_right _ (List.mem_of_getElem? (i := 108) (by decide +kernel))⟩
theorem cs_Be_hashHighs_56 : a_CV M_Be_hashHighs M_Sp_giveTo 108 7 3 0 2 := ⟨⟨ok_Sp_giveTo, by decide, by decide, by decide⟩, by decide, rfl, List.mem_append_right _ (List.mem_of_getElem? (i := 836) (by decide +kernel)), List.mem_append_right _ (List.mem_of_getElem? (i := 642) (by decide +kernel)), List.mem_append_right _ (List.mem_of_getElem? (i := 643) (by decide +kernel)), by decide +kernel⟩
def M_Si_commit : a_M := (⟨"ModuleSigner$Signer", "commit", "(LModuleSigner$Parameters;)V"⟩, prog_8_method_7_code, 4, none, "ModuleSigner$Signer", 4, 64, [])
theorem ok_Si_commit : a_Ok M_Si_commit := ⟨rfl, by decide +kernel, ⟨by decide, by decide⟩, List.mem_append_right _ (List.mem_of_getElem? (i := 9) (by decide +kernel)), Or.inl ⟨rfl, List.mem_append_right _ (List.mem_of_getElem? (i := 862) (by decide +kernel))⟩⟩
theorem d_Si_commit_0 : decode (a_cc M_Si_commit) 0 = .ok (.aload_n 0, 1) := by decide +kernel
theorem d_Si_commit_1 : decode (a_cc M_Si_commit) 1 = .ok (.getfield 38, 3) := by decide +kernel
theorem d_Si_commit_4 : decode (a_cc M_Si_commit) 4 = .ok (.aload_n 1, 1) := by decide +kernel
theorem d_Si_commit_5 : decode (a_cc M_Si_commit) 5 = .ok (.invokevirtual 182, 3) := by decide +kernel
theorem d_Si_commit_8 : decode (a_cc M_Si_commit) 8 = .ok (.aload_n 0, 1) := by decide +kernel
theorem d_Si_commit_9 : decode (a_cc M_Si_commit) 9 = .ok (.getfield 38, 3) := by decide +kernel
theorem d_Si_commit_12 : decode (a_cc M_Si_commit) 12 = .ok (.getfield 168, 3) := by decide +kernel
theorem d_Si_commit_15 : decode (a_cc M_Si_commit) 15 = .ok (.invokevirtual 185, 3) := by decide +kernel
theorem d_Si_commit_18 : decode (a_cc M_Si_commit) 18 = .ok (.iconst 0, 1) := by decide +kernel
theorem d_Si_commit_19 : decode (a_cc M_Si_commit) 19 = .ok (.istore_n 2, 1) := by decide +kernel
theorem d_Si_commit_20 : decode (a_cc M_Si_commit) 20 = .ok (.iload_n 2, 1) := by decide +kernel
theorem d_Si_commit_21 : decode (a_cc M_Si_commit) 21 = .ok (.aload_n 1, 1) := by decide +kernel
theorem d_Si_commit_22 : decode (a_cc M_Si_commit) 22 = .ok (.getfield 120, 3) := by decide +kernel
theorem d_Si_commit_25 : decode (a_cc M_Si_commit) 25 = .ok (.if_icmp .ge 88, 3) := by decide +kernel
theorem d_Si_commit_28 : decode (a_cc M_Si_commit) 28 = .ok (.aload_n 0, 1) := by decide +kernel
theorem d_Si_commit_29 : decode (a_cc M_Si_commit) 29 = .ok (.getfield 38, 3) := by decide +kernel
theorem d_Si_commit_32 : decode (a_cc M_Si_commit) 32 = .ok (.getfield 134, 3) := by decide +kernel
theorem d_Si_commit_35 : decode (a_cc M_Si_commit) 35 = .ok (.aload_n 0, 1) := by decide +kernel
theorem d_Si_commit_36 : decode (a_cc M_Si_commit) 36 = .ok (.getfield 38, 3) := by decide +kernel
theorem d_Si_commit_39 : decode (a_cc M_Si_commit) 39 = .ok (.getfield 188, 3) := by decide +kernel
theorem d_Si_commit_42 : decode (a_cc M_Si_commit) 42 = .ok (.iload_n 2, 1) := by decide +kernel
theorem d_Si_commit_43 : decode (a_cc M_Si_commit) 43 = .ok (.aaload, 1) := by decide +kernel
theorem d_Si_commit_44 : decode (a_cc M_Si_commit) 44 = .ok (.invokevirtual 191, 3) := by decide +kernel
theorem d_Si_commit_47 : decode (a_cc M_Si_commit) 47 = .ok (.iconst 0, 1) := by decide +kernel
theorem d_Si_commit_48 : decode (a_cc M_Si_commit) 48 = .ok (.istore_n 3, 1) := by decide +kernel
theorem d_Si_commit_49 : decode (a_cc M_Si_commit) 49 = .ok (.iload_n 3, 1) := by decide +kernel
theorem d_Si_commit_50 : decode (a_cc M_Si_commit) 50 = .ok (.sipush 256, 3) := by decide +kernel
theorem d_Si_commit_53 : decode (a_cc M_Si_commit) 53 = .ok (.if_icmp .ge 33, 3) := by decide +kernel
theorem d_Si_commit_56 : decode (a_cc M_Si_commit) 56 = .ok (.aload_n 0, 1) := by decide +kernel
theorem d_Si_commit_57 : decode (a_cc M_Si_commit) 57 = .ok (.getfield 38, 3) := by decide +kernel
theorem d_Si_commit_60 : decode (a_cc M_Si_commit) 60 = .ok (.getfield 194, 3) := by decide +kernel
theorem d_Si_commit_63 : decode (a_cc M_Si_commit) 63 = .ok (.iload_n 3, 1) := by decide +kernel
theorem d_Si_commit_64 : decode (a_cc M_Si_commit) 64 = .ok (.aload_n 1, 1) := by decide +kernel
theorem d_Si_commit_65 : decode (a_cc M_Si_commit) 65 = .ok (.aload_n 0, 1) := by decide +kernel
theorem d_Si_commit_66 : decode (a_cc M_Si_commit) 66 = .ok (.getfield 38, 3) := by decide +kernel
theorem d_Si_commit_69 : decode (a_cc M_Si_commit) 69 = .ok (.getfield 188, 3) := by decide +kernel
theorem d_Si_commit_72 : decode (a_cc M_Si_commit) 72 = .ok (.iload_n 2, 1) := by decide +kernel
theorem d_Si_commit_73 : decode (a_cc M_Si_commit) 73 = .ok (.aaload, 1) := by decide +kernel
theorem d_Si_commit_74 : decode (a_cc M_Si_commit) 74 = .ok (.iload_n 3, 1) := by decide +kernel
theorem d_Si_commit_75 : decode (a_cc M_Si_commit) 75 = .ok (.iaload, 1) := by decide +kernel
theorem d_Si_commit_76 : decode (a_cc M_Si_commit) 76 = .ok (.invokevirtual 198, 3) := by decide +kernel
theorem d_Si_commit_79 : decode (a_cc M_Si_commit) 79 = .ok (.iastore, 1) := by decide +kernel
theorem d_Si_commit_80 : decode (a_cc M_Si_commit) 80 = .ok (.iinc 3 1, 3) := by decide +kernel
theorem d_Si_commit_83 : decode (a_cc M_Si_commit) 83 = .ok (.goto (-34), 3) := by decide +kernel
theorem d_Si_commit_86 : decode (a_cc M_Si_commit) 86 = .ok (.aload_n 0, 1) := by decide +kernel
theorem d_Si_commit_87 : decode (a_cc M_Si_commit) 87 = .ok (.getfield 38, 3) := by decide +kernel
theorem d_Si_commit_90 : decode (a_cc M_Si_commit) 90 = .ok (.getfield 168, 3) := by decide +kernel
theorem d_Si_commit_93 : decode (a_cc M_Si_commit) 93 = .ok (.aload_n 0, 1) := by decide +kernel
theorem d_Si_commit_94 : decode (a_cc M_Si_commit) 94 = .ok (.getfield 38, 3) := by decide +kernel
theorem d_Si_commit_97 : decode (a_cc M_Si_commit) 97 = .ok (.getfield 194, 3) := by decide +kernel
theorem d_Si_commit_100 : decode (a_cc M_Si_commit) 100 = .ok (.aload_n 1, 1) := by decide +kernel
theorem d_Si_commit_101 : decode (a_cc M_Si_commit) 101 = .ok (.getfield 201, 3) := by decide +kernel
theorem d_Si_commit_104 : decode (a_cc M_Si_commit) 104 = .ok (.invokevirtual 204, 3) := by decide +kernel
theorem d_Si_commit_107 : decode (a_cc M_Si_commit) 107 = .ok (.iinc 2 1, 3) := by decide +kernel
theorem d_Si_commit_110 : decode (a_cc M_Si_commit) 110 = .ok (.goto (-90), 3) := by decide +kernel
theorem d_Si_commit_113 : decode (a_cc M_Si_commit) 113 = .ok (.aload_n 0, 1) := by decide +kernel
theorem d_Si_commit_114 : decode (a_cc M_Si_commit) 114 = .ok (.getfield 38, 3) := by decide +kernel
theorem d_Si_commit_117 : decode (a_cc M_Si_commit) 117 = .ok (.aload_n 1, 1) := by decide +kernel
theorem d_Si_commit_118 : decode (a_cc M_Si_commit) 118 = .ok (.aload_n 0, 1) := by decide +kernel
theorem d_Si_commit_119 : decode (a_cc M_Si_commit) 119 = .ok (.getfield 38, 3) := by decide +kernel
theorem d_Si_commit_122 : decode (a_cc M_Si_commit) 122 = .ok (.getfield 207, 3) := by decide +kernel
theorem d_Si_commit_125 : decode (a_cc M_Si_commit) 125 = .ok (.invokevirtual 210, 3) := by decide +kernel
theorem d_Si_commit_128 : decode (a_cc M_Si_commit) 128 = .ok (.return_, 1) := by decide +kernel
theorem cs_Si_commit_5 : a_CV M_Si_commit M_Be_multiplyMatrix 182 3 2 0 1 := ⟨⟨ok_Be_multiplyMatrix, by decide, by decide, by decide⟩, by decide, rfl, List.mem_append_right _ (List.mem_of_getElem? (i := 863) (by decide +kernel)), List.mem_append_right _ (List.mem_of_getElem? (i := 725) (by decide +kernel)), List.mem_append_right _ (List.mem_of_getElem? (i := 726) (by decide +kernel)), by decide +kernel⟩
theorem cs_Si_commit_15 : a_CV M_Si_commit M_By_clear 185 1 1 0 0 := ⟨⟨ok_By_clear, by decide, by decide, by decide⟩, by decide, rfl, List.mem_append_right _ (List.mem_of_getElem? (i := 864) (by decide +kernel)), List.mem_append_right _ (List.mem_of_getElem? (i := 502) (by decide +kernel)), List.mem_append_right _ (List.mem_of_getElem? (i := 503) (by decide +kernel)), by decide +kernel⟩
theorem fd_Si_188 : a_Fd "ModuleSigner$Signer" 188 3 7 2 := ⟨by decide, by decide, rfl, List.mem_append_right _ (List.mem_of_getElem? (i := 250) (by decide +kernel))⟩
theorem cs_Si_commit_44 : a_CV M_Si_commit M_Ri_back 191 9 2 0 1 := ⟨⟨ok_Ri_back, by decide, by decide, by decide⟩, by decide, rfl, List.mem_append_right _ (List.mem_of_getElem? (i := 865) (by decide +kernel)), List.mem_append_right _ (List.mem_of_getElem? (i := 732) (by decide +kernel)), List.mem_append_right _ (List.mem_of_getElem? (i := 733) (by decide +kernel)), by decide +kernel⟩
theorem fd_Si_194 : a_Fd "ModuleSigner$Signer" 194 3 9 2 := ⟨by decide, by decide, rfl, List.mem_append_right _ (List.mem_of_getElem? (i := 256) (by decide +kernel))⟩
theorem cs_Si_commit_76 : a_CV M_Si_commit M_Pa_high 198 2 2 2 1 := ⟨⟨ok_Pa_high, by decide, by decide, by decide⟩, by decide, rfl, List.mem_append_right _ (List.mem_of_getElem? (i := 866) (by decide +kernel)), List.mem_append_right _ (List.mem_of_getElem? (i := 867) (by decide +kernel)), List.mem_append_right _ (List.mem_of_getElem? (i := 868) (by decide +kernel)), by decide +kernel⟩
theorem fd_Si_201 : a_Fd "ModuleSigner$Signer" 201 2 12 0 := ⟨by decide, by decide, rfl, List.mem_append_right _ (List.mem_of_getElem? (i := 121) (by decide +kernel))⟩
theorem cs_Si_commit_104 : a_CV M_Si_commit M_By_addBits 204 1 3 0 2 := ⟨⟨ok_By_addBits, by decide, by decide, by decide⟩, by decide, rfl, List.mem_append_right _ (List.mem_of_getElem? (i := 874) (by decide +kernel)), List.mem_append_right _ (List.mem_of_getElem? (i := 757) (by decide +kernel)), List.mem_append_right _ (List.mem_of_getElem? (i := 758) (by decide +kernel)), by decide +kernel⟩
theorem fd_Si_207 : a_Fd "ModuleSigner$Signer" 207 3 11 2 := ⟨by decide, by decide, rfl, List.mem_append_right _ (List.mem_of_getElem? (i := 263) (by decide +kernel))⟩
theorem cs_Si_commit_125 : a_CV M_Si_commit M_Be_hashHighs 210 3 3 0 2 := ⟨⟨ok_Be_hashHighs, by decide, by decide, by decide⟩, by decide, rfl, List.mem_append_right _ (List.mem_of_getElem? (i := 875) (by decide +kernel)), List.mem_append_right _ (List.mem_of_getElem? (i := 876) (by decide +kernel)), List.mem_append_right _ (List.mem_of_getElem? (i := 877) (by decide +kernel)), by decide +kernel⟩
def M_Sa_ball : a_M := (⟨"ModuleSigner$Sampler", "ball", "(LModuleSigner$Bytes;I[I)V"⟩, prog_7_method_6_code, 9, none, "ModuleSigner$Sampler", 6, 82, [])
theorem ok_Sa_ball : a_Ok M_Sa_ball := ⟨rfl, by decide +kernel, ⟨by decide, by decide⟩, List.mem_append_right _ (List.mem_of_getElem? (i := 6) (by decide +kernel)), Or.inl ⟨rfl, List.mem_append_right _ (List.mem_of_getElem? (i := 886) (by decide +kernel))⟩⟩
theorem d_Sa_ball_0 : decode (a_cc M_Sa_ball) 0 = .ok (.aload_n 0, 1) := by decide +kernel
theorem d_Sa_ball_1 : decode (a_cc M_Sa_ball) 1 = .ok (.getfield 12, 3) := by decide +kernel
theorem d_Sa_ball_4 : decode (a_cc M_Sa_ball) 4 = .ok (.invokevirtual 69, 3) := by decide +kernel
theorem d_Sa_ball_7 : decode (a_cc M_Sa_ball) 7 = .ok (.aload_n 0, 1) := by decide +kernel
theorem d_Sa_ball_8 : decode (a_cc M_Sa_ball) 8 = .ok (.getfield 12, 3) := by decide +kernel
theorem d_Sa_ball_11 : decode (a_cc M_Sa_ball) 11 = .ok (.aload_n 1, 1) := by decide +kernel
theorem d_Sa_ball_12 : decode (a_cc M_Sa_ball) 12 = .ok (.iconst 0, 1) := by decide +kernel
theorem d_Sa_ball_13 : decode (a_cc M_Sa_ball) 13 = .ok (.aload_n 1, 1) := by decide +kernel
theorem d_Sa_ball_14 : decode (a_cc M_Sa_ball) 14 = .ok (.getfield 72, 3) := by decide +kernel
theorem d_Sa_ball_17 : decode (a_cc M_Sa_ball) 17 = .ok (.invokevirtual 30, 3) := by decide +kernel
theorem d_Sa_ball_20 : decode (a_cc M_Sa_ball) 20 = .ok (.aload_n 0, 1) := by decide +kernel
theorem d_Sa_ball_21 : decode (a_cc M_Sa_ball) 21 = .ok (.getfield 12, 3) := by decide +kernel
theorem d_Sa_ball_24 : decode (a_cc M_Sa_ball) 24 = .ok (.invokevirtual 38, 3) := by decide +kernel
theorem d_Sa_ball_27 : decode (a_cc M_Sa_ball) 27 = .ok (.lconst 0, 1) := by decide +kernel
theorem d_Sa_ball_28 : decode (a_cc M_Sa_ball) 28 = .ok (.lstore 4, 2) := by decide +kernel
theorem d_Sa_ball_30 : decode (a_cc M_Sa_ball) 30 = .ok (.iconst 0, 1) := by decide +kernel
theorem d_Sa_ball_31 : decode (a_cc M_Sa_ball) 31 = .ok (.istore 6, 2) := by decide +kernel
theorem d_Sa_ball_33 : decode (a_cc M_Sa_ball) 33 = .ok (.iload 6, 2) := by decide +kernel
theorem d_Sa_ball_35 : decode (a_cc M_Sa_ball) 35 = .ok (.bipush 8, 2) := by decide +kernel
theorem d_Sa_ball_37 : decode (a_cc M_Sa_ball) 37 = .ok (.if_icmp .ge 28, 3) := by decide +kernel
theorem d_Sa_ball_40 : decode (a_cc M_Sa_ball) 40 = .ok (.lload 4, 2) := by decide +kernel
theorem d_Sa_ball_42 : decode (a_cc M_Sa_ball) 42 = .ok (.aload_n 0, 1) := by decide +kernel
theorem d_Sa_ball_43 : decode (a_cc M_Sa_ball) 43 = .ok (.getfield 12, 3) := by decide +kernel
theorem d_Sa_ball_46 : decode (a_cc M_Sa_ball) 46 = .ok (.invokevirtual 47, 3) := by decide +kernel
theorem d_Sa_ball_49 : decode (a_cc M_Sa_ball) 49 = .ok (.i2l, 1) := by decide +kernel
theorem d_Sa_ball_50 : decode (a_cc M_Sa_ball) 50 = .ok (.bipush 8, 2) := by decide +kernel
theorem d_Sa_ball_52 : decode (a_cc M_Sa_ball) 52 = .ok (.iload 6, 2) := by decide +kernel
theorem d_Sa_ball_54 : decode (a_cc M_Sa_ball) 54 = .ok (.imul, 1) := by decide +kernel
theorem d_Sa_ball_55 : decode (a_cc M_Sa_ball) 55 = .ok (.lshl, 1) := by decide +kernel
theorem d_Sa_ball_56 : decode (a_cc M_Sa_ball) 56 = .ok (.lor, 1) := by decide +kernel
theorem d_Sa_ball_57 : decode (a_cc M_Sa_ball) 57 = .ok (.lstore 4, 2) := by decide +kernel
theorem d_Sa_ball_59 : decode (a_cc M_Sa_ball) 59 = .ok (.iinc 6 1, 3) := by decide +kernel
theorem d_Sa_ball_62 : decode (a_cc M_Sa_ball) 62 = .ok (.goto (-29), 3) := by decide +kernel
theorem d_Sa_ball_65 : decode (a_cc M_Sa_ball) 65 = .ok (.iconst 0, 1) := by decide +kernel
theorem d_Sa_ball_66 : decode (a_cc M_Sa_ball) 66 = .ok (.istore 6, 2) := by decide +kernel
theorem d_Sa_ball_68 : decode (a_cc M_Sa_ball) 68 = .ok (.iload 6, 2) := by decide +kernel
theorem d_Sa_ball_70 : decode (a_cc M_Sa_ball) 70 = .ok (.sipush 256, 3) := by decide +kernel
theorem d_Sa_ball_73 : decode (a_cc M_Sa_ball) 73 = .ok (.if_icmp .ge 14, 3) := by decide +kernel
theorem d_Sa_ball_76 : decode (a_cc M_Sa_ball) 76 = .ok (.aload_n 3, 1) := by decide +kernel
theorem d_Sa_ball_77 : decode (a_cc M_Sa_ball) 77 = .ok (.iload 6, 2) := by decide +kernel
theorem d_Sa_ball_79 : decode (a_cc M_Sa_ball) 79 = .ok (.iconst 0, 1) := by decide +kernel
theorem d_Sa_ball_80 : decode (a_cc M_Sa_ball) 80 = .ok (.iastore, 1) := by decide +kernel
theorem d_Sa_ball_81 : decode (a_cc M_Sa_ball) 81 = .ok (.iinc 6 1, 3) := by decide +kernel
theorem d_Sa_ball_84 : decode (a_cc M_Sa_ball) 84 = .ok (.goto (-16), 3) := by decide +kernel
theorem d_Sa_ball_87 : decode (a_cc M_Sa_ball) 87 = .ok (.bipush 121, 2) := by decide +kernel
theorem d_Sa_ball_89 : decode (a_cc M_Sa_ball) 89 = .ok (.istore 6, 2) := by decide +kernel
theorem d_Sa_ball_91 : decode (a_cc M_Sa_ball) 91 = .ok (.sipush 256, 3) := by decide +kernel
theorem d_Sa_ball_94 : decode (a_cc M_Sa_ball) 94 = .ok (.iload_n 2, 1) := by decide +kernel
theorem d_Sa_ball_95 : decode (a_cc M_Sa_ball) 95 = .ok (.isub, 1) := by decide +kernel
theorem d_Sa_ball_96 : decode (a_cc M_Sa_ball) 96 = .ok (.istore 7, 2) := by decide +kernel
theorem d_Sa_ball_98 : decode (a_cc M_Sa_ball) 98 = .ok (.iload 7, 2) := by decide +kernel
theorem d_Sa_ball_100 : decode (a_cc M_Sa_ball) 100 = .ok (.sipush 256, 3) := by decide +kernel
theorem d_Sa_ball_103 : decode (a_cc M_Sa_ball) 103 = .ok (.if_icmp .ge 91, 3) := by decide +kernel
theorem d_Sa_ball_106 : decode (a_cc M_Sa_ball) 106 = .ok (.sipush 256, 3) := by decide +kernel
theorem d_Sa_ball_109 : decode (a_cc M_Sa_ball) 109 = .ok (.istore 8, 2) := by decide +kernel
theorem d_Sa_ball_111 : decode (a_cc M_Sa_ball) 111 = .ok (.iload 8, 2) := by decide +kernel
theorem d_Sa_ball_113 : decode (a_cc M_Sa_ball) 113 = .ok (.iload 7, 2) := by decide +kernel
theorem d_Sa_ball_115 : decode (a_cc M_Sa_ball) 115 = .ok (.if_icmp .le 23, 3) := by decide +kernel
theorem d_Sa_ball_118 : decode (a_cc M_Sa_ball) 118 = .ok (.iload 6, 2) := by decide +kernel
theorem d_Sa_ball_120 : decode (a_cc M_Sa_ball) 120 = .ok (.ifCond .le 18, 3) := by decide +kernel
theorem d_Sa_ball_123 : decode (a_cc M_Sa_ball) 123 = .ok (.aload_n 0, 1) := by decide +kernel
theorem d_Sa_ball_124 : decode (a_cc M_Sa_ball) 124 = .ok (.getfield 12, 3) := by decide +kernel
theorem d_Sa_ball_127 : decode (a_cc M_Sa_ball) 127 = .ok (.invokevirtual 47, 3) := by decide +kernel
theorem d_Sa_ball_130 : decode (a_cc M_Sa_ball) 130 = .ok (.istore 8, 2) := by decide +kernel
theorem d_Sa_ball_132 : decode (a_cc M_Sa_ball) 132 = .ok (.iinc 6 (-1), 3) := by decide +kernel
theorem d_Sa_ball_135 : decode (a_cc M_Sa_ball) 135 = .ok (.goto (-24), 3) := by decide +kernel
theorem d_Sa_ball_138 : decode (a_cc M_Sa_ball) 138 = .ok (.iload 8, 2) := by decide +kernel
theorem d_Sa_ball_140 : decode (a_cc M_Sa_ball) 140 = .ok (.iload 7, 2) := by decide +kernel
theorem d_Sa_ball_142 : decode (a_cc M_Sa_ball) 142 = .ok (.if_icmp .le 13, 3) := by decide +kernel
theorem d_Sa_ball_145 : decode (a_cc M_Sa_ball) 145 = .ok (.new 52, 3) := by decide +kernel
theorem d_Sa_ball_148 : decode (a_cc M_Sa_ball) 148 = .ok (.dup, 1) := by decide +kernel
theorem d_Sa_ball_149 : decode (a_cc M_Sa_ball) 149 = .ok (.ldc 77, 2) := by decide +kernel
theorem d_Sa_ball_151 : decode (a_cc M_Sa_ball) 151 = .ok (.invokespecial 56, 3) := by decide +kernel
theorem d_Sa_ball_154 : decode (a_cc M_Sa_ball) 154 = .ok (.athrow, 1) := by decide +kernel
theorem d_Sa_ball_155 : decode (a_cc M_Sa_ball) 155 = .ok (.aload_n 3, 1) := by decide +kernel
theorem d_Sa_ball_156 : decode (a_cc M_Sa_ball) 156 = .ok (.iload 7, 2) := by decide +kernel
theorem d_Sa_ball_158 : decode (a_cc M_Sa_ball) 158 = .ok (.aload_n 3, 1) := by decide +kernel
theorem d_Sa_ball_159 : decode (a_cc M_Sa_ball) 159 = .ok (.iload 8, 2) := by decide +kernel
theorem d_Sa_ball_161 : decode (a_cc M_Sa_ball) 161 = .ok (.iaload, 1) := by decide +kernel
theorem d_Sa_ball_162 : decode (a_cc M_Sa_ball) 162 = .ok (.iastore, 1) := by decide +kernel
theorem d_Sa_ball_163 : decode (a_cc M_Sa_ball) 163 = .ok (.aload_n 3, 1) := by decide +kernel
theorem d_Sa_ball_164 : decode (a_cc M_Sa_ball) 164 = .ok (.iload 8, 2) := by decide +kernel
theorem d_Sa_ball_166 : decode (a_cc M_Sa_ball) 166 = .ok (.lload 4, 2) := by decide +kernel
theorem d_Sa_ball_168 : decode (a_cc M_Sa_ball) 168 = .ok (.lconst 1, 1) := by decide +kernel
theorem d_Sa_ball_169 : decode (a_cc M_Sa_ball) 169 = .ok (.land, 1) := by decide +kernel
theorem d_Sa_ball_170 : decode (a_cc M_Sa_ball) 170 = .ok (.lconst 1, 1) := by decide +kernel
theorem d_Sa_ball_171 : decode (a_cc M_Sa_ball) 171 = .ok (.lcmp, 1) := by decide +kernel
theorem d_Sa_ball_172 : decode (a_cc M_Sa_ball) 172 = .ok (.ifCond .ne 8, 3) := by decide +kernel
theorem d_Sa_ball_175 : decode (a_cc M_Sa_ball) 175 = .ok (.ldc 79, 2) := by decide +kernel
theorem d_Sa_ball_177 : decode (a_cc M_Sa_ball) 177 = .ok (.goto 4, 3) := by decide +kernel
theorem d_Sa_ball_180 : decode (a_cc M_Sa_ball) 180 = .ok (.iconst 1, 1) := by decide +kernel
theorem d_Sa_ball_181 : decode (a_cc M_Sa_ball) 181 = .ok (.iastore, 1) := by decide +kernel
theorem d_Sa_ball_182 : decode (a_cc M_Sa_ball) 182 = .ok (.lload 4, 2) := by decide +kernel
theorem d_Sa_ball_184 : decode (a_cc M_Sa_ball) 184 = .ok (.iconst 1, 1) := by decide +kernel
theorem d_Sa_ball_185 : decode (a_cc M_Sa_ball) 185 = .ok (.lushr, 1) := by decide +kernel
theorem d_Sa_ball_186 : decode (a_cc M_Sa_ball) 186 = .ok (.lstore 4, 2) := by decide +kernel
theorem d_Sa_ball_188 : decode (a_cc M_Sa_ball) 188 = .ok (.iinc 7 1, 3) := by decide +kernel
theorem d_Sa_ball_191 : decode (a_cc M_Sa_ball) 191 = .ok (.goto (-93), 3) := by decide +kernel
theorem d_Sa_ball_194 : decode (a_cc M_Sa_ball) 194 = .ok (.return_, 1) := by decide +kernel
theorem cs_Sa_ball_4 : a_CV M_Sa_ball M_Sp_start256 69 7 1 0 0 := ⟨⟨ok_Sp_start256, by decide, by decide, by decide⟩, by decide, rfl, List.mem_append_right _ (List.mem_of_getElem? (i := 692) (by decide +kernel)), List.mem_append_right _ (List.mem_of_getElem? (i := 604) (by decide +kernel)), List.mem_append_right _ (List.mem_of_getElem? (i := 605) (by decide +kernel)), by decide +kernel⟩
theorem fd_Sa_72 : a_Fd "ModuleSigner$Sampler" 72 1 1 0 := ⟨by decide, by decide, rfl, List.mem_append_right _ (List.mem_of_getElem? (i := 43) (by decide +kernel))⟩
theorem cs_Sa_ball_17 : a_CV M_Sa_ball M_Sp_takePart 30 7 4 0 3 := ⟨⟨ok_Sp_takePart, by decide, by decide, by decide⟩, by decide, rfl, List.mem_append_right _ (List.mem_of_getElem? (i := 663) (by decide +kernel)), List.mem_append_right _ (List.mem_of_getElem? (i := 612) (by decide +kernel)), List.mem_append_right _ (List.mem_of_getElem? (i := 613) (by decide +kernel)), by decide +kernel⟩
theorem cs_Sa_ball_24 : a_CV M_Sa_ball M_Sp_turn 38 7 1 0 0 := ⟨⟨ok_Sp_turn, by decide, by decide, by decide⟩, by decide, rfl, List.mem_append_right _ (List.mem_of_getElem? (i := 665) (by decide +kernel)), List.mem_append_right _ (List.mem_of_getElem? (i := 638) (by decide +kernel)), List.mem_append_right _ (List.mem_of_getElem? (i := 639) (by decide +kernel)), by decide +kernel⟩
theorem cs_Sa_ball_46 : a_CV M_Sa_ball M_Sp_give 47 7 1 2 0 := ⟨⟨ok_Sp_give, by decide, by decide, by decide⟩, by decide, rfl, List.mem_append_right _ (List.mem_of_getElem? (i := 670) (by decide +kernel)), List.mem_append_right _ (List.mem_of_getElem? (i := 647) (by decide +kernel)), List.mem_append_right _ (List.mem_of_getElem? (i := 648) (by decide +kernel)), by decide +kernel⟩
theorem cs_Sa_ball_127 : a_CV M_Sa_ball M_Sp_give 47 7 1 0 0 := ⟨⟨ok_Sp_give, by decide, by decide, by decide⟩, by decide, rfl, List.mem_append_right _ (List.mem_of_getElem? (i := 670) (by decide +kernel)), List.mem_append_right _ (List.mem_of_getElem? (i := 647) (by decide +kernel)), List.mem_append_right _ (List.mem_of_getElem? (i := 648) (by decide +kernel)), by decide +kernel⟩
theorem th_Sa_ball_145 : a_Th M_Sa_ball 145 4 0 := ⟨_, _, _, "too few places in the ball", d_Sa_ball_145, d_Sa_ball_148, d_Sa_ball_149, d_Sa_ball_151, d_Sa_ball_154, List.mem_append_right _ (List.mem_of_getElem? (i := 887) (by decide +kernel)), by decide, List.mem_append_right _ (List.mem_of_getElem? (i := 672) (by decide +kernel)), List.mem_append_right _ (List.mem_of_getElem? (i := 682) (by decide +kernel)), rfl, by decide, by decide⟩
theorem lc_Sa_79 : Cond.constant "ModuleSigner$Sampler" 79 (Int32.ofInt (8380416)) ∈ lw_tbl := List.mem_append_right _ (List.mem_of_getElem? (i := 888) (by decide +kernel))
def M_Be_castBall : a_M := (⟨"ModuleSigner$Bench", "castBall", "(LModuleSigner$Parameters;)V"⟩, prog_2_method_6_code, 2, none, "ModuleSigner$Bench", 7, 102, [])
theorem ok_Be_castBall : a_Ok M_Be_castBall := ⟨rfl, by decide +kernel, ⟨by decide, by decide⟩, List.mem_append_right _ (List.mem_of_getElem? (i := 5) (by decide +kernel)), Or.inl ⟨rfl, List.mem_append_right _ (List.mem_of_getElem? (i := 882) (by decide +kernel))⟩⟩
theorem d_Be_castBall_0 : decode (a_cc M_Be_castBall) 0 = .ok (.aload_n 0, 1) := by decide +kernel
theorem d_Be_castBall_1 : decode (a_cc M_Be_castBall) 1 = .ok (.getfield 12, 3) := by decide +kernel
theorem d_Be_castBall_4 : decode (a_cc M_Be_castBall) 4 = .ok (.aload_n 0, 1) := by decide +kernel
theorem d_Be_castBall_5 : decode (a_cc M_Be_castBall) 5 = .ok (.getfield 63, 3) := by decide +kernel
theorem d_Be_castBall_8 : decode (a_cc M_Be_castBall) 8 = .ok (.aload_n 1, 1) := by decide +kernel
theorem d_Be_castBall_9 : decode (a_cc M_Be_castBall) 9 = .ok (.getfield 115, 3) := by decide +kernel
theorem d_Be_castBall_12 : decode (a_cc M_Be_castBall) 12 = .ok (.aload_n 0, 1) := by decide +kernel
theorem d_Be_castBall_13 : decode (a_cc M_Be_castBall) 13 = .ok (.getfield 47, 3) := by decide +kernel
theorem d_Be_castBall_16 : decode (a_cc M_Be_castBall) 16 = .ok (.invokevirtual 118, 3) := by decide +kernel
theorem d_Be_castBall_19 : decode (a_cc M_Be_castBall) 19 = .ok (.aload_n 0, 1) := by decide +kernel
theorem d_Be_castBall_20 : decode (a_cc M_Be_castBall) 20 = .ok (.getfield 26, 3) := by decide +kernel
theorem d_Be_castBall_23 : decode (a_cc M_Be_castBall) 23 = .ok (.aload_n 0, 1) := by decide +kernel
theorem d_Be_castBall_24 : decode (a_cc M_Be_castBall) 24 = .ok (.getfield 47, 3) := by decide +kernel
theorem d_Be_castBall_27 : decode (a_cc M_Be_castBall) 27 = .ok (.invokevirtual 121, 3) := by decide +kernel
theorem d_Be_castBall_30 : decode (a_cc M_Be_castBall) 30 = .ok (.return_, 1) := by decide +kernel
theorem fd_Be_115 : a_Fd "ModuleSigner$Bench" 115 2 3 0 := ⟨by decide, by decide, rfl, List.mem_append_right _ (List.mem_of_getElem? (i := 96) (by decide +kernel))⟩
theorem cs_Be_castBall_16 : a_CV M_Be_castBall M_Sa_ball 118 8 4 0 3 := ⟨⟨ok_Sa_ball, by decide, by decide, by decide⟩, by decide, rfl, List.mem_append_right _ (List.mem_of_getElem? (i := 883) (by decide +kernel)), List.mem_append_right _ (List.mem_of_getElem? (i := 884) (by decide +kernel)), List.mem_append_right _ (List.mem_of_getElem? (i := 885) (by decide +kernel)), by decide +kernel⟩
theorem cs_Be_castBall_27 : a_CV M_Be_castBall M_Ri_forward 121 9 2 0 1 := ⟨⟨ok_Ri_forward, by decide, by decide, by decide⟩, by decide, rfl, List.mem_append_right _ (List.mem_of_getElem? (i := 889) (by decide +kernel)), List.mem_append_right _ (List.mem_of_getElem? (i := 714) (by decide +kernel)), List.mem_append_right _ (List.mem_of_getElem? (i := 715) (by decide +kernel)), by decide +kernel⟩
def M_Ri_multiply : a_M := (⟨"ModuleSigner$Ring", "multiply", "([I[I[I)V"⟩, prog_6_method_14_code, 4, none, "ModuleSigner$Ring", 0, 0, [])
theorem ok_Ri_multiply : a_Ok M_Ri_multiply := ⟨rfl, by decide +kernel, ⟨by decide, by decide⟩, List.mem_append_right _ (List.mem_of_getElem? (i := 4) (by decide +kernel)), Or.inl ⟨rfl, List.mem_append_right _ (List.mem_of_getElem? (i := 900) (by decide +kernel))⟩⟩
theorem d_Ri_multiply_0 : decode (a_cc M_Ri_multiply) 0 = .ok (.iconst 0, 1) := by decide +kernel
theorem d_Ri_multiply_1 : decode (a_cc M_Ri_multiply) 1 = .ok (.istore_n 3, 1) := by decide +kernel
theorem d_Ri_multiply_2 : decode (a_cc M_Ri_multiply) 2 = .ok (.iload_n 3, 1) := by decide +kernel
theorem d_Ri_multiply_3 : decode (a_cc M_Ri_multiply) 3 = .ok (.sipush 256, 3) := by decide +kernel
theorem d_Ri_multiply_6 : decode (a_cc M_Ri_multiply) 6 = .ok (.if_icmp .ge 26, 3) := by decide +kernel
theorem d_Ri_multiply_9 : decode (a_cc M_Ri_multiply) 9 = .ok (.aload_n 2, 1) := by decide +kernel
theorem d_Ri_multiply_10 : decode (a_cc M_Ri_multiply) 10 = .ok (.iload_n 3, 1) := by decide +kernel
theorem d_Ri_multiply_11 : decode (a_cc M_Ri_multiply) 11 = .ok (.aload_n 0, 1) := by decide +kernel
theorem d_Ri_multiply_12 : decode (a_cc M_Ri_multiply) 12 = .ok (.iload_n 3, 1) := by decide +kernel
theorem d_Ri_multiply_13 : decode (a_cc M_Ri_multiply) 13 = .ok (.iaload, 1) := by decide +kernel
theorem d_Ri_multiply_14 : decode (a_cc M_Ri_multiply) 14 = .ok (.i2l, 1) := by decide +kernel
theorem d_Ri_multiply_15 : decode (a_cc M_Ri_multiply) 15 = .ok (.aload_n 1, 1) := by decide +kernel
theorem d_Ri_multiply_16 : decode (a_cc M_Ri_multiply) 16 = .ok (.iload_n 3, 1) := by decide +kernel
theorem d_Ri_multiply_17 : decode (a_cc M_Ri_multiply) 17 = .ok (.iaload, 1) := by decide +kernel
theorem d_Ri_multiply_18 : decode (a_cc M_Ri_multiply) 18 = .ok (.i2l, 1) := by decide +kernel
theorem d_Ri_multiply_19 : decode (a_cc M_Ri_multiply) 19 = .ok (.lmul, 1) := by decide +kernel
theorem d_Ri_multiply_20 : decode (a_cc M_Ri_multiply) 20 = .ok (.ldc2_w 19, 3) := by decide +kernel
theorem d_Ri_multiply_23 : decode (a_cc M_Ri_multiply) 23 = .ok (.lrem, 1) := by decide +kernel
theorem d_Ri_multiply_24 : decode (a_cc M_Ri_multiply) 24 = .ok (.l2i, 1) := by decide +kernel
theorem d_Ri_multiply_25 : decode (a_cc M_Ri_multiply) 25 = .ok (.iastore, 1) := by decide +kernel
theorem d_Ri_multiply_26 : decode (a_cc M_Ri_multiply) 26 = .ok (.iinc 3 1, 3) := by decide +kernel
theorem d_Ri_multiply_29 : decode (a_cc M_Ri_multiply) 29 = .ok (.goto (-27), 3) := by decide +kernel
theorem d_Ri_multiply_32 : decode (a_cc M_Ri_multiply) 32 = .ok (.return_, 1) := by decide +kernel
def M_Be_multiplyBall : a_M := (⟨"ModuleSigner$Bench", "multiplyBall", "([I)V"⟩, prog_2_method_3_code, 2, none, "ModuleSigner$Bench", 3, 52, [])
theorem ok_Be_multiplyBall : a_Ok M_Be_multiplyBall := ⟨rfl, by decide +kernel, ⟨by decide, by decide⟩, List.mem_append_right _ (List.mem_of_getElem? (i := 5) (by decide +kernel)), Or.inl ⟨rfl, List.mem_append_right _ (List.mem_of_getElem? (i := 897) (by decide +kernel))⟩⟩
theorem d_Be_multiplyBall_0 : decode (a_cc M_Be_multiplyBall) 0 = .ok (.aload_n 0, 1) := by decide +kernel
theorem d_Be_multiplyBall_1 : decode (a_cc M_Be_multiplyBall) 1 = .ok (.getfield 47, 3) := by decide +kernel
theorem d_Be_multiplyBall_4 : decode (a_cc M_Be_multiplyBall) 4 = .ok (.aload_n 1, 1) := by decide +kernel
theorem d_Be_multiplyBall_5 : decode (a_cc M_Be_multiplyBall) 5 = .ok (.aload_n 0, 1) := by decide +kernel
theorem d_Be_multiplyBall_6 : decode (a_cc M_Be_multiplyBall) 6 = .ok (.getfield 51, 3) := by decide +kernel
theorem d_Be_multiplyBall_9 : decode (a_cc M_Be_multiplyBall) 9 = .ok (.invokestatic 82, 3) := by decide +kernel
theorem d_Be_multiplyBall_12 : decode (a_cc M_Be_multiplyBall) 12 = .ok (.aload_n 0, 1) := by decide +kernel
theorem d_Be_multiplyBall_13 : decode (a_cc M_Be_multiplyBall) 13 = .ok (.getfield 26, 3) := by decide +kernel
theorem d_Be_multiplyBall_16 : decode (a_cc M_Be_multiplyBall) 16 = .ok (.aload_n 0, 1) := by decide +kernel
theorem d_Be_multiplyBall_17 : decode (a_cc M_Be_multiplyBall) 17 = .ok (.getfield 51, 3) := by decide +kernel
theorem d_Be_multiplyBall_20 : decode (a_cc M_Be_multiplyBall) 20 = .ok (.invokevirtual 86, 3) := by decide +kernel
theorem d_Be_multiplyBall_23 : decode (a_cc M_Be_multiplyBall) 23 = .ok (.return_, 1) := by decide +kernel
theorem cs_Be_multiplyBall_9 : a_CS M_Be_multiplyBall M_Ri_multiply 82 3 0 3 := ⟨⟨ok_Ri_multiply, by decide, by decide, by decide⟩, List.mem_append_right _ (List.mem_of_getElem? (i := 898) (by decide +kernel)), List.mem_append_right _ (List.mem_of_getElem? (i := 899) (by decide +kernel)), by decide +kernel⟩
theorem cs_Be_multiplyBall_20 : a_CV M_Be_multiplyBall M_Ri_back 86 9 2 0 1 := ⟨⟨ok_Ri_back, by decide, by decide, by decide⟩, by decide, rfl, List.mem_append_right _ (List.mem_of_getElem? (i := 901) (by decide +kernel)), List.mem_append_right _ (List.mem_of_getElem? (i := 732) (by decide +kernel)), List.mem_append_right _ (List.mem_of_getElem? (i := 733) (by decide +kernel)), by decide +kernel⟩
def M_Ri_within : a_M := (⟨"ModuleSigner$Ring", "within", "([II)Z"⟩, prog_6_method_16_code, 3, some .boolean, "ModuleSigner$Ring", 0, 0, [])
theorem ok_Ri_within : a_Ok M_Ri_within := ⟨rfl, by decide +kernel, ⟨by decide, by decide⟩, List.mem_append_right _ (List.mem_of_getElem? (i := 4) (by decide +kernel)), Or.inl ⟨rfl, List.mem_append_right _ (List.mem_of_getElem? (i := 905) (by decide +kernel))⟩⟩
theorem d_Ri_within_0 : decode (a_cc M_Ri_within) 0 = .ok (.iconst 0, 1) := by decide +kernel
theorem d_Ri_within_1 : decode (a_cc M_Ri_within) 1 = .ok (.istore_n 2, 1) := by decide +kernel
theorem d_Ri_within_2 : decode (a_cc M_Ri_within) 2 = .ok (.iload_n 2, 1) := by decide +kernel
theorem d_Ri_within_3 : decode (a_cc M_Ri_within) 3 = .ok (.sipush 256, 3) := by decide +kernel
theorem d_Ri_within_6 : decode (a_cc M_Ri_within) 6 = .ok (.if_icmp .ge 28, 3) := by decide +kernel
theorem d_Ri_within_9 : decode (a_cc M_Ri_within) 9 = .ok (.aload_n 0, 1) := by decide +kernel
theorem d_Ri_within_10 : decode (a_cc M_Ri_within) 10 = .ok (.iload_n 2, 1) := by decide +kernel
theorem d_Ri_within_11 : decode (a_cc M_Ri_within) 11 = .ok (.iaload, 1) := by decide +kernel
theorem d_Ri_within_12 : decode (a_cc M_Ri_within) 12 = .ok (.iload_n 1, 1) := by decide +kernel
theorem d_Ri_within_13 : decode (a_cc M_Ri_within) 13 = .ok (.if_icmp .lt 15, 3) := by decide +kernel
theorem d_Ri_within_16 : decode (a_cc M_Ri_within) 16 = .ok (.aload_n 0, 1) := by decide +kernel
theorem d_Ri_within_17 : decode (a_cc M_Ri_within) 17 = .ok (.iload_n 2, 1) := by decide +kernel
theorem d_Ri_within_18 : decode (a_cc M_Ri_within) 18 = .ok (.iaload, 1) := by decide +kernel
theorem d_Ri_within_19 : decode (a_cc M_Ri_within) 19 = .ok (.ldc 21, 2) := by decide +kernel
theorem d_Ri_within_21 : decode (a_cc M_Ri_within) 21 = .ok (.iload_n 1, 1) := by decide +kernel
theorem d_Ri_within_22 : decode (a_cc M_Ri_within) 22 = .ok (.isub, 1) := by decide +kernel
theorem d_Ri_within_23 : decode (a_cc M_Ri_within) 23 = .ok (.if_icmp .gt 5, 3) := by decide +kernel
theorem d_Ri_within_26 : decode (a_cc M_Ri_within) 26 = .ok (.iconst 0, 1) := by decide +kernel
theorem d_Ri_within_27 : decode (a_cc M_Ri_within) 27 = .ok (.ireturn, 1) := by decide +kernel
theorem d_Ri_within_28 : decode (a_cc M_Ri_within) 28 = .ok (.iinc 2 1, 3) := by decide +kernel
theorem d_Ri_within_31 : decode (a_cc M_Ri_within) 31 = .ok (.goto (-29), 3) := by decide +kernel
theorem d_Ri_within_34 : decode (a_cc M_Ri_within) 34 = .ok (.iconst 1, 1) := by decide +kernel
theorem d_Ri_within_35 : decode (a_cc M_Ri_within) 35 = .ok (.ireturn, 1) := by decide +kernel
def M_Si_answersHide : a_M := (⟨"ModuleSigner$Signer", "answersHide", "(LModuleSigner$Parameters;)Z"⟩, prog_8_method_8_code, 3, some .boolean, "ModuleSigner$Signer", 4, 65, [])
theorem ok_Si_answersHide : a_Ok M_Si_answersHide := ⟨rfl, by decide +kernel, ⟨by decide, by decide⟩, List.mem_append_right _ (List.mem_of_getElem? (i := 9) (by decide +kernel)), Or.inl ⟨rfl, List.mem_append_right _ (List.mem_of_getElem? (i := 893) (by decide +kernel))⟩⟩
theorem d_Si_answersHide_0 : decode (a_cc M_Si_answersHide) 0 = .ok (.iconst 0, 1) := by decide +kernel
theorem d_Si_answersHide_1 : decode (a_cc M_Si_answersHide) 1 = .ok (.istore_n 2, 1) := by decide +kernel
theorem d_Si_answersHide_2 : decode (a_cc M_Si_answersHide) 2 = .ok (.iload_n 2, 1) := by decide +kernel
theorem d_Si_answersHide_3 : decode (a_cc M_Si_answersHide) 3 = .ok (.aload_n 1, 1) := by decide +kernel
theorem d_Si_answersHide_4 : decode (a_cc M_Si_answersHide) 4 = .ok (.getfield 56, 3) := by decide +kernel
theorem d_Si_answersHide_7 : decode (a_cc M_Si_answersHide) 7 = .ok (.if_icmp .ge 88, 3) := by decide +kernel
theorem d_Si_answersHide_10 : decode (a_cc M_Si_answersHide) 10 = .ok (.aload_n 0, 1) := by decide +kernel
theorem d_Si_answersHide_11 : decode (a_cc M_Si_answersHide) 11 = .ok (.getfield 38, 3) := by decide +kernel
theorem d_Si_answersHide_14 : decode (a_cc M_Si_answersHide) 14 = .ok (.aload_n 0, 1) := by decide +kernel
theorem d_Si_answersHide_15 : decode (a_cc M_Si_answersHide) 15 = .ok (.getfield 38, 3) := by decide +kernel
theorem d_Si_answersHide_18 : decode (a_cc M_Si_answersHide) 18 = .ok (.getfield 109, 3) := by decide +kernel
theorem d_Si_answersHide_21 : decode (a_cc M_Si_answersHide) 21 = .ok (.iload_n 2, 1) := by decide +kernel
theorem d_Si_answersHide_22 : decode (a_cc M_Si_answersHide) 22 = .ok (.aaload, 1) := by decide +kernel
theorem d_Si_answersHide_23 : decode (a_cc M_Si_answersHide) 23 = .ok (.invokevirtual 214, 3) := by decide +kernel
theorem d_Si_answersHide_26 : decode (a_cc M_Si_answersHide) 26 = .ok (.aload_n 0, 1) := by decide +kernel
theorem d_Si_answersHide_27 : decode (a_cc M_Si_answersHide) 27 = .ok (.getfield 20, 3) := by decide +kernel
theorem d_Si_answersHide_30 : decode (a_cc M_Si_answersHide) 30 = .ok (.iload_n 2, 1) := by decide +kernel
theorem d_Si_answersHide_31 : decode (a_cc M_Si_answersHide) 31 = .ok (.aaload, 1) := by decide +kernel
theorem d_Si_answersHide_32 : decode (a_cc M_Si_answersHide) 32 = .ok (.aload_n 0, 1) := by decide +kernel
theorem d_Si_answersHide_33 : decode (a_cc M_Si_answersHide) 33 = .ok (.getfield 38, 3) := by decide +kernel
theorem d_Si_answersHide_36 : decode (a_cc M_Si_answersHide) 36 = .ok (.getfield 175, 3) := by decide +kernel
theorem d_Si_answersHide_39 : decode (a_cc M_Si_answersHide) 39 = .ok (.iload_n 2, 1) := by decide +kernel
theorem d_Si_answersHide_40 : decode (a_cc M_Si_answersHide) 40 = .ok (.aaload, 1) := by decide +kernel
theorem d_Si_answersHide_41 : decode (a_cc M_Si_answersHide) 41 = .ok (.invokestatic 178, 3) := by decide +kernel
theorem d_Si_answersHide_44 : decode (a_cc M_Si_answersHide) 44 = .ok (.aload_n 0, 1) := by decide +kernel
theorem d_Si_answersHide_45 : decode (a_cc M_Si_answersHide) 45 = .ok (.getfield 38, 3) := by decide +kernel
theorem d_Si_answersHide_48 : decode (a_cc M_Si_answersHide) 48 = .ok (.getfield 175, 3) := by decide +kernel
theorem d_Si_answersHide_51 : decode (a_cc M_Si_answersHide) 51 = .ok (.iload_n 2, 1) := by decide +kernel
theorem d_Si_answersHide_52 : decode (a_cc M_Si_answersHide) 52 = .ok (.aaload, 1) := by decide +kernel
theorem d_Si_answersHide_53 : decode (a_cc M_Si_answersHide) 53 = .ok (.aload_n 0, 1) := by decide +kernel
theorem d_Si_answersHide_54 : decode (a_cc M_Si_answersHide) 54 = .ok (.getfield 38, 3) := by decide +kernel
theorem d_Si_answersHide_57 : decode (a_cc M_Si_answersHide) 57 = .ok (.getfield 194, 3) := by decide +kernel
theorem d_Si_answersHide_60 : decode (a_cc M_Si_answersHide) 60 = .ok (.invokestatic 217, 3) := by decide +kernel
theorem d_Si_answersHide_63 : decode (a_cc M_Si_answersHide) 63 = .ok (.aload_n 0, 1) := by decide +kernel
theorem d_Si_answersHide_64 : decode (a_cc M_Si_answersHide) 64 = .ok (.getfield 38, 3) := by decide +kernel
theorem d_Si_answersHide_67 : decode (a_cc M_Si_answersHide) 67 = .ok (.getfield 175, 3) := by decide +kernel
theorem d_Si_answersHide_70 : decode (a_cc M_Si_answersHide) 70 = .ok (.iload_n 2, 1) := by decide +kernel
theorem d_Si_answersHide_71 : decode (a_cc M_Si_answersHide) 71 = .ok (.aaload, 1) := by decide +kernel
theorem d_Si_answersHide_72 : decode (a_cc M_Si_answersHide) 72 = .ok (.aload_n 1, 1) := by decide +kernel
theorem d_Si_answersHide_73 : decode (a_cc M_Si_answersHide) 73 = .ok (.getfield 220, 3) := by decide +kernel
theorem d_Si_answersHide_76 : decode (a_cc M_Si_answersHide) 76 = .ok (.aload_n 1, 1) := by decide +kernel
theorem d_Si_answersHide_77 : decode (a_cc M_Si_answersHide) 77 = .ok (.getfield 223, 3) := by decide +kernel
theorem d_Si_answersHide_80 : decode (a_cc M_Si_answersHide) 80 = .ok (.isub, 1) := by decide +kernel
theorem d_Si_answersHide_81 : decode (a_cc M_Si_answersHide) 81 = .ok (.invokestatic 226, 3) := by decide +kernel
theorem d_Si_answersHide_84 : decode (a_cc M_Si_answersHide) 84 = .ok (.ifCond .ne 5, 3) := by decide +kernel
theorem d_Si_answersHide_87 : decode (a_cc M_Si_answersHide) 87 = .ok (.iconst 0, 1) := by decide +kernel
theorem d_Si_answersHide_88 : decode (a_cc M_Si_answersHide) 88 = .ok (.ireturn, 1) := by decide +kernel
theorem d_Si_answersHide_89 : decode (a_cc M_Si_answersHide) 89 = .ok (.iinc 2 1, 3) := by decide +kernel
theorem d_Si_answersHide_92 : decode (a_cc M_Si_answersHide) 92 = .ok (.goto (-90), 3) := by decide +kernel
theorem d_Si_answersHide_95 : decode (a_cc M_Si_answersHide) 95 = .ok (.iconst 1, 1) := by decide +kernel
theorem d_Si_answersHide_96 : decode (a_cc M_Si_answersHide) 96 = .ok (.ireturn, 1) := by decide +kernel
theorem cs_Si_answersHide_23 : a_CV M_Si_answersHide M_Be_multiplyBall 214 3 2 0 1 := ⟨⟨ok_Be_multiplyBall, by decide, by decide, by decide⟩, by decide, rfl, List.mem_append_right _ (List.mem_of_getElem? (i := 894) (by decide +kernel)), List.mem_append_right _ (List.mem_of_getElem? (i := 895) (by decide +kernel)), List.mem_append_right _ (List.mem_of_getElem? (i := 896) (by decide +kernel)), by decide +kernel⟩
theorem cs_Si_answersHide_41 : a_CS M_Si_answersHide M_Ri_copyRow 178 2 0 2 := ⟨⟨ok_Ri_copyRow, by decide, by decide, by decide⟩, List.mem_append_right _ (List.mem_of_getElem? (i := 858) (by decide +kernel)), List.mem_append_right _ (List.mem_of_getElem? (i := 710) (by decide +kernel)), by decide +kernel⟩
theorem cs_Si_answersHide_60 : a_CS M_Si_answersHide M_Ri_addTo 217 2 0 2 := ⟨⟨ok_Ri_addTo, by decide, by decide, by decide⟩, List.mem_append_right _ (List.mem_of_getElem? (i := 902) (by decide +kernel)), List.mem_append_right _ (List.mem_of_getElem? (i := 740) (by decide +kernel)), by decide +kernel⟩
theorem fd_Si_220 : a_Fd "ModuleSigner$Signer" 220 2 4 0 := ⟨by decide, by decide, rfl, List.mem_append_right _ (List.mem_of_getElem? (i := 100) (by decide +kernel))⟩
theorem fd_Si_223 : a_Fd "ModuleSigner$Signer" 223 2 9 0 := ⟨by decide, by decide, rfl, List.mem_append_right _ (List.mem_of_getElem? (i := 112) (by decide +kernel))⟩
theorem cs_Si_answersHide_81 : a_CS M_Si_answersHide M_Ri_within 226 2 0 2 := ⟨⟨ok_Ri_within, by decide, by decide, by decide⟩, List.mem_append_right _ (List.mem_of_getElem? (i := 903) (by decide +kernel)), List.mem_append_right _ (List.mem_of_getElem? (i := 904) (by decide +kernel)), by decide +kernel⟩
def M_Ri_takeFrom : a_M := (⟨"ModuleSigner$Ring", "takeFrom", "([I[I)V"⟩, prog_6_method_12_code, 3, none, "ModuleSigner$Ring", 1, 16, [])
theorem ok_Ri_takeFrom : a_Ok M_Ri_takeFrom := ⟨rfl, by decide +kernel, ⟨by decide, by decide⟩, List.mem_append_right _ (List.mem_of_getElem? (i := 4) (by decide +kernel)), Or.inl ⟨rfl, List.mem_append_right _ (List.mem_of_getElem? (i := 912) (by decide +kernel))⟩⟩
theorem d_Ri_takeFrom_0 : decode (a_cc M_Ri_takeFrom) 0 = .ok (.iconst 0, 1) := by decide +kernel
theorem d_Ri_takeFrom_1 : decode (a_cc M_Ri_takeFrom) 1 = .ok (.istore_n 2, 1) := by decide +kernel
theorem d_Ri_takeFrom_2 : decode (a_cc M_Ri_takeFrom) 2 = .ok (.iload_n 2, 1) := by decide +kernel
theorem d_Ri_takeFrom_3 : decode (a_cc M_Ri_takeFrom) 3 = .ok (.sipush 256, 3) := by decide +kernel
theorem d_Ri_takeFrom_6 : decode (a_cc M_Ri_takeFrom) 6 = .ok (.if_icmp .ge 21, 3) := by decide +kernel
theorem d_Ri_takeFrom_9 : decode (a_cc M_Ri_takeFrom) 9 = .ok (.aload_n 0, 1) := by decide +kernel
theorem d_Ri_takeFrom_10 : decode (a_cc M_Ri_takeFrom) 10 = .ok (.iload_n 2, 1) := by decide +kernel
theorem d_Ri_takeFrom_11 : decode (a_cc M_Ri_takeFrom) 11 = .ok (.aload_n 0, 1) := by decide +kernel
theorem d_Ri_takeFrom_12 : decode (a_cc M_Ri_takeFrom) 12 = .ok (.iload_n 2, 1) := by decide +kernel
theorem d_Ri_takeFrom_13 : decode (a_cc M_Ri_takeFrom) 13 = .ok (.iaload, 1) := by decide +kernel
theorem d_Ri_takeFrom_14 : decode (a_cc M_Ri_takeFrom) 14 = .ok (.aload_n 1, 1) := by decide +kernel
theorem d_Ri_takeFrom_15 : decode (a_cc M_Ri_takeFrom) 15 = .ok (.iload_n 2, 1) := by decide +kernel
theorem d_Ri_takeFrom_16 : decode (a_cc M_Ri_takeFrom) 16 = .ok (.iaload, 1) := by decide +kernel
theorem d_Ri_takeFrom_17 : decode (a_cc M_Ri_takeFrom) 17 = .ok (.invokestatic 26, 3) := by decide +kernel
theorem d_Ri_takeFrom_20 : decode (a_cc M_Ri_takeFrom) 20 = .ok (.iastore, 1) := by decide +kernel
theorem d_Ri_takeFrom_21 : decode (a_cc M_Ri_takeFrom) 21 = .ok (.iinc 2 1, 3) := by decide +kernel
theorem d_Ri_takeFrom_24 : decode (a_cc M_Ri_takeFrom) 24 = .ok (.goto (-22), 3) := by decide +kernel
theorem d_Ri_takeFrom_27 : decode (a_cc M_Ri_takeFrom) 27 = .ok (.return_, 1) := by decide +kernel
theorem cs_Ri_takeFrom_17 : a_CS M_Ri_takeFrom M_Ri_minus 26 2 2 2 := ⟨⟨ok_Ri_minus, by decide, by decide, by decide⟩, List.mem_append_right _ (List.mem_of_getElem? (i := 720) (by decide +kernel)), List.mem_append_right _ (List.mem_of_getElem? (i := 701) (by decide +kernel)), by decide +kernel⟩
