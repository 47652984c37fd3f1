/-! names, printed by program: methods, their instructions, what they link -/
def M_Mo_sampleWide : a_M := (⟨"ModuleSignerModel", "sampleWide", "([I[BIII)Z"⟩, prog_12_method_49_code, 12, some .boolean, "ModuleSignerModel", 4, 82, [])
theorem ok_Mo_sampleWide : a_Ok M_Mo_sampleWide := ⟨rfl, by decide +kernel, ⟨by decide, by decide⟩, List.mem_append_right _ (List.mem_of_getElem? (i := 11) (by decide +kernel)), Or.inl ⟨rfl, List.mem_append_right _ (List.mem_of_getElem? (i := 1338) (by decide +kernel))⟩⟩
theorem d_Mo_sampleWide_0 : decode (a_cc M_Mo_sampleWide) 0 = .ok (.aload_n 0, 1) := by decide +kernel
theorem d_Mo_sampleWide_1 : decode (a_cc M_Mo_sampleWide) 1 = .ok (.bipush 11, 2) := by decide +kernel
theorem d_Mo_sampleWide_3 : decode (a_cc M_Mo_sampleWide) 3 = .ok (.invokevirtual 148, 3) := by decide +kernel
theorem d_Mo_sampleWide_6 : decode (a_cc M_Mo_sampleWide) 6 = .ok (.aload_n 0, 1) := by decide +kernel
theorem d_Mo_sampleWide_7 : decode (a_cc M_Mo_sampleWide) 7 = .ok (.aload_n 2, 1) := by decide +kernel
theorem d_Mo_sampleWide_8 : decode (a_cc M_Mo_sampleWide) 8 = .ok (.iload_n 3, 1) := by decide +kernel
theorem d_Mo_sampleWide_9 : decode (a_cc M_Mo_sampleWide) 9 = .ok (.bipush 32, 2) := by decide +kernel
theorem d_Mo_sampleWide_11 : decode (a_cc M_Mo_sampleWide) 11 = .ok (.invokevirtual 268, 3) := by decide +kernel
theorem d_Mo_sampleWide_14 : decode (a_cc M_Mo_sampleWide) 14 = .ok (.aload_n 0, 1) := by decide +kernel
theorem d_Mo_sampleWide_15 : decode (a_cc M_Mo_sampleWide) 15 = .ok (.iload 4, 2) := by decide +kernel
theorem d_Mo_sampleWide_17 : decode (a_cc M_Mo_sampleWide) 17 = .ok (.invokevirtual 153, 3) := by decide +kernel
theorem d_Mo_sampleWide_20 : decode (a_cc M_Mo_sampleWide) 20 = .ok (.aload_n 0, 1) := by decide +kernel
theorem d_Mo_sampleWide_21 : decode (a_cc M_Mo_sampleWide) 21 = .ok (.iload 5, 2) := by decide +kernel
theorem d_Mo_sampleWide_23 : decode (a_cc M_Mo_sampleWide) 23 = .ok (.invokevirtual 153, 3) := by decide +kernel
theorem d_Mo_sampleWide_26 : decode (a_cc M_Mo_sampleWide) 26 = .ok (.aload_n 0, 1) := by decide +kernel
theorem d_Mo_sampleWide_27 : decode (a_cc M_Mo_sampleWide) 27 = .ok (.invokevirtual 156, 3) := by decide +kernel
theorem d_Mo_sampleWide_30 : decode (a_cc M_Mo_sampleWide) 30 = .ok (.iconst 0, 1) := by decide +kernel
theorem d_Mo_sampleWide_31 : decode (a_cc M_Mo_sampleWide) 31 = .ok (.istore 6, 2) := by decide +kernel
theorem d_Mo_sampleWide_33 : decode (a_cc M_Mo_sampleWide) 33 = .ok (.iconst 0, 1) := by decide +kernel
theorem d_Mo_sampleWide_34 : decode (a_cc M_Mo_sampleWide) 34 = .ok (.istore 7, 2) := by decide +kernel
theorem d_Mo_sampleWide_36 : decode (a_cc M_Mo_sampleWide) 36 = .ok (.iload 7, 2) := by decide +kernel
theorem d_Mo_sampleWide_38 : decode (a_cc M_Mo_sampleWide) 38 = .ok (.sipush 298, 3) := by decide +kernel
theorem d_Mo_sampleWide_41 : decode (a_cc M_Mo_sampleWide) 41 = .ok (.if_icmp .ge 74, 3) := by decide +kernel
theorem d_Mo_sampleWide_44 : decode (a_cc M_Mo_sampleWide) 44 = .ok (.iload 6, 2) := by decide +kernel
theorem d_Mo_sampleWide_46 : decode (a_cc M_Mo_sampleWide) 46 = .ok (.sipush 256, 3) := by decide +kernel
theorem d_Mo_sampleWide_49 : decode (a_cc M_Mo_sampleWide) 49 = .ok (.if_icmp .ge 66, 3) := by decide +kernel
theorem d_Mo_sampleWide_52 : decode (a_cc M_Mo_sampleWide) 52 = .ok (.aload_n 0, 1) := by decide +kernel
theorem d_Mo_sampleWide_53 : decode (a_cc M_Mo_sampleWide) 53 = .ok (.invokevirtual 212, 3) := by decide +kernel
theorem d_Mo_sampleWide_56 : decode (a_cc M_Mo_sampleWide) 56 = .ok (.istore 8, 2) := by decide +kernel
theorem d_Mo_sampleWide_58 : decode (a_cc M_Mo_sampleWide) 58 = .ok (.aload_n 0, 1) := by decide +kernel
theorem d_Mo_sampleWide_59 : decode (a_cc M_Mo_sampleWide) 59 = .ok (.invokevirtual 212, 3) := by decide +kernel
theorem d_Mo_sampleWide_62 : decode (a_cc M_Mo_sampleWide) 62 = .ok (.istore 9, 2) := by decide +kernel
theorem d_Mo_sampleWide_64 : decode (a_cc M_Mo_sampleWide) 64 = .ok (.aload_n 0, 1) := by decide +kernel
theorem d_Mo_sampleWide_65 : decode (a_cc M_Mo_sampleWide) 65 = .ok (.invokevirtual 212, 3) := by decide +kernel
theorem d_Mo_sampleWide_68 : decode (a_cc M_Mo_sampleWide) 68 = .ok (.istore 10, 2) := by decide +kernel
theorem d_Mo_sampleWide_70 : decode (a_cc M_Mo_sampleWide) 70 = .ok (.iload 8, 2) := by decide +kernel
theorem d_Mo_sampleWide_72 : decode (a_cc M_Mo_sampleWide) 72 = .ok (.sipush 256, 3) := by decide +kernel
theorem d_Mo_sampleWide_75 : decode (a_cc M_Mo_sampleWide) 75 = .ok (.iload 9, 2) := by decide +kernel
theorem d_Mo_sampleWide_77 : decode (a_cc M_Mo_sampleWide) 77 = .ok (.imul, 1) := by decide +kernel
theorem d_Mo_sampleWide_78 : decode (a_cc M_Mo_sampleWide) 78 = .ok (.iadd, 1) := by decide +kernel
theorem d_Mo_sampleWide_79 : decode (a_cc M_Mo_sampleWide) 79 = .ok (.ldc_w 271, 3) := by decide +kernel
theorem d_Mo_sampleWide_82 : decode (a_cc M_Mo_sampleWide) 82 = .ok (.iload 10, 2) := by decide +kernel
theorem d_Mo_sampleWide_84 : decode (a_cc M_Mo_sampleWide) 84 = .ok (.sipush 128, 3) := by decide +kernel
theorem d_Mo_sampleWide_87 : decode (a_cc M_Mo_sampleWide) 87 = .ok (.irem, 1) := by decide +kernel
theorem d_Mo_sampleWide_88 : decode (a_cc M_Mo_sampleWide) 88 = .ok (.imul, 1) := by decide +kernel
theorem d_Mo_sampleWide_89 : decode (a_cc M_Mo_sampleWide) 89 = .ok (.iadd, 1) := by decide +kernel
theorem d_Mo_sampleWide_90 : decode (a_cc M_Mo_sampleWide) 90 = .ok (.istore 11, 2) := by decide +kernel
theorem d_Mo_sampleWide_92 : decode (a_cc M_Mo_sampleWide) 92 = .ok (.iload 11, 2) := by decide +kernel
theorem d_Mo_sampleWide_94 : decode (a_cc M_Mo_sampleWide) 94 = .ok (.ldc_w 264, 3) := by decide +kernel
theorem d_Mo_sampleWide_97 : decode (a_cc M_Mo_sampleWide) 97 = .ok (.if_icmp .ge 12, 3) := by decide +kernel
theorem d_Mo_sampleWide_100 : decode (a_cc M_Mo_sampleWide) 100 = .ok (.aload_n 1, 1) := by decide +kernel
theorem d_Mo_sampleWide_101 : decode (a_cc M_Mo_sampleWide) 101 = .ok (.iload 6, 2) := by decide +kernel
theorem d_Mo_sampleWide_103 : decode (a_cc M_Mo_sampleWide) 103 = .ok (.iload 11, 2) := by decide +kernel
theorem d_Mo_sampleWide_105 : decode (a_cc M_Mo_sampleWide) 105 = .ok (.iastore, 1) := by decide +kernel
theorem d_Mo_sampleWide_106 : decode (a_cc M_Mo_sampleWide) 106 = .ok (.iinc 6 1, 3) := by decide +kernel
theorem d_Mo_sampleWide_109 : decode (a_cc M_Mo_sampleWide) 109 = .ok (.iinc 7 1, 3) := by decide +kernel
theorem d_Mo_sampleWide_112 : decode (a_cc M_Mo_sampleWide) 112 = .ok (.goto (-76), 3) := by decide +kernel
theorem d_Mo_sampleWide_115 : decode (a_cc M_Mo_sampleWide) 115 = .ok (.iload 6, 2) := by decide +kernel
theorem d_Mo_sampleWide_117 : decode (a_cc M_Mo_sampleWide) 117 = .ok (.sipush 256, 3) := by decide +kernel
theorem d_Mo_sampleWide_120 : decode (a_cc M_Mo_sampleWide) 120 = .ok (.if_icmp .ne 7, 3) := by decide +kernel
theorem d_Mo_sampleWide_123 : decode (a_cc M_Mo_sampleWide) 123 = .ok (.iconst 1, 1) := by decide +kernel
theorem d_Mo_sampleWide_124 : decode (a_cc M_Mo_sampleWide) 124 = .ok (.goto 4, 3) := by decide +kernel
theorem d_Mo_sampleWide_127 : decode (a_cc M_Mo_sampleWide) 127 = .ok (.iconst 0, 1) := by decide +kernel
theorem d_Mo_sampleWide_128 : decode (a_cc M_Mo_sampleWide) 128 = .ok (.ireturn, 1) := by decide +kernel
theorem cs_Mo_sampleWide_3 : a_CV M_Mo_sampleWide M_Mo_begin 148 10 2 0 1 := ⟨⟨ok_Mo_begin, by decide, by decide, by decide⟩, by decide, rfl, List.mem_append_right _ (List.mem_of_getElem? (i := 1046) (by decide +kernel)), List.mem_append_right _ (List.mem_of_getElem? (i := 1048) (by decide +kernel)), List.mem_append_left _ (List.mem_of_getElem? (i := 33) (by decide +kernel)), by decide +kernel⟩
theorem cs_Mo_sampleWide_11 : a_CV M_Mo_sampleWide M_Mo_put3 268 10 4 0 3 := ⟨⟨ok_Mo_put3, by decide, by decide, by decide⟩, by decide, rfl, List.mem_append_right _ (List.mem_of_getElem? (i := 1293) (by decide +kernel)), List.mem_append_right _ (List.mem_of_getElem? (i := 1295) (by decide +kernel)), List.mem_append_left _ (List.mem_of_getElem? (i := 44) (by decide +kernel)), by decide +kernel⟩
theorem cs_Mo_sampleWide_17 : a_CV M_Mo_sampleWide M_Mo_put1 153 10 2 0 1 := ⟨⟨ok_Mo_put1, by decide, by decide, by decide⟩, by decide, rfl, List.mem_append_right _ (List.mem_of_getElem? (i := 1058) (by decide +kernel)), List.mem_append_right _ (List.mem_of_getElem? (i := 1060) (by decide +kernel)), List.mem_append_left _ (List.mem_of_getElem? (i := 34) (by decide +kernel)), by decide +kernel⟩
theorem cs_Mo_sampleWide_23 : a_CV M_Mo_sampleWide M_Mo_put1 153 10 2 0 1 := ⟨⟨ok_Mo_put1, by decide, by decide, by decide⟩, by decide, rfl, List.mem_append_right _ (List.mem_of_getElem? (i := 1058) (by decide +kernel)), List.mem_append_right _ (List.mem_of_getElem? (i := 1060) (by decide +kernel)), List.mem_append_left _ (List.mem_of_getElem? (i := 34) (by decide +kernel)), by decide +kernel⟩
theorem cs_Mo_sampleWide_27 : a_CV M_Mo_sampleWide M_Mo_finish 156 10 1 0 0 := ⟨⟨ok_Mo_finish, by decide, by decide, by decide⟩, by decide, rfl, List.mem_append_right _ (List.mem_of_getElem? (i := 1093) (by decide +kernel)), List.mem_append_right _ (List.mem_of_getElem? (i := 1095) (by decide +kernel)), List.mem_append_left _ (List.mem_of_getElem? (i := 40) (by decide +kernel)), by decide +kernel⟩
theorem cs_Mo_sampleWide_53 : a_CV M_Mo_sampleWide M_Mo_squeeze 212 10 1 0 0 := ⟨⟨ok_Mo_squeeze, by decide, by decide, by decide⟩, by decide, rfl, List.mem_append_right _ (List.mem_of_getElem? (i := 1301) (by decide +kernel)), List.mem_append_right _ (List.mem_of_getElem? (i := 1303) (by decide +kernel)), List.mem_append_left _ (List.mem_of_getElem? (i := 46) (by decide +kernel)), by decide +kernel⟩
theorem cs_Mo_sampleWide_59 : a_CV M_Mo_sampleWide M_Mo_squeeze 212 10 1 0 0 := ⟨⟨ok_Mo_squeeze, by decide, by decide, by decide⟩, by decide, rfl, List.mem_append_right _ (List.mem_of_getElem? (i := 1301) (by decide +kernel)), List.mem_append_right _ (List.mem_of_getElem? (i := 1303) (by decide +kernel)), List.mem_append_left _ (List.mem_of_getElem? (i := 46) (by decide +kernel)), by decide +kernel⟩
theorem cs_Mo_sampleWide_65 : a_CV M_Mo_sampleWide M_Mo_squeeze 212 10 1 0 0 := ⟨⟨ok_Mo_squeeze, by decide, by decide, by decide⟩, by decide, rfl, List.mem_append_right _ (List.mem_of_getElem? (i := 1301) (by decide +kernel)), List.mem_append_right _ (List.mem_of_getElem? (i := 1303) (by decide +kernel)), List.mem_append_left _ (List.mem_of_getElem? (i := 46) (by decide +kernel)), by decide +kernel⟩
theorem lc_Mo_271 : Cond.constant "ModuleSignerModel" 271 (Int32.ofInt (65536)) ∈ lw_tbl := List.mem_append_right _ (List.mem_of_getElem? (i := 1339) (by decide +kernel))
def M_Mo_addProducts : a_M := (⟨"ModuleSignerModel", "addProducts", "([I[I[I)V"⟩, prog_12_method_46_code, 4, none, "ModuleSignerModel", 0, 0, [])
theorem ok_Mo_addProducts : a_Ok M_Mo_addProducts := ⟨rfl, by decide +kernel, ⟨by decide, by decide⟩, List.mem_append_right _ (List.mem_of_getElem? (i := 11) (by decide +kernel)), Or.inl ⟨rfl, List.mem_append_right _ (List.mem_of_getElem? (i := 1342) (by decide +kernel))⟩⟩
theorem d_Mo_addProducts_0 : decode (a_cc M_Mo_addProducts) 0 = .ok (.iconst 0, 1) := by decide +kernel
theorem d_Mo_addProducts_1 : decode (a_cc M_Mo_addProducts) 1 = .ok (.istore_n 3, 1) := by decide +kernel
theorem d_Mo_addProducts_2 : decode (a_cc M_Mo_addProducts) 2 = .ok (.iload_n 3, 1) := by decide +kernel
theorem d_Mo_addProducts_3 : decode (a_cc M_Mo_addProducts) 3 = .ok (.sipush 256, 3) := by decide +kernel
theorem d_Mo_addProducts_6 : decode (a_cc M_Mo_addProducts) 6 = .ok (.if_icmp .ge 31, 3) := by decide +kernel
theorem d_Mo_addProducts_9 : decode (a_cc M_Mo_addProducts) 9 = .ok (.aload_n 0, 1) := by decide +kernel
theorem d_Mo_addProducts_10 : decode (a_cc M_Mo_addProducts) 10 = .ok (.iload_n 3, 1) := by decide +kernel
theorem d_Mo_addProducts_11 : decode (a_cc M_Mo_addProducts) 11 = .ok (.aload_n 0, 1) := by decide +kernel
theorem d_Mo_addProducts_12 : decode (a_cc M_Mo_addProducts) 12 = .ok (.iload_n 3, 1) := by decide +kernel
theorem d_Mo_addProducts_13 : decode (a_cc M_Mo_addProducts) 13 = .ok (.iaload, 1) := by decide +kernel
theorem d_Mo_addProducts_14 : decode (a_cc M_Mo_addProducts) 14 = .ok (.i2l, 1) := by decide +kernel
theorem d_Mo_addProducts_15 : decode (a_cc M_Mo_addProducts) 15 = .ok (.aload_n 1, 1) := by decide +kernel
theorem d_Mo_addProducts_16 : decode (a_cc M_Mo_addProducts) 16 = .ok (.iload_n 3, 1) := by decide +kernel
theorem d_Mo_addProducts_17 : decode (a_cc M_Mo_addProducts) 17 = .ok (.iaload, 1) := by decide +kernel
theorem d_Mo_addProducts_18 : decode (a_cc M_Mo_addProducts) 18 = .ok (.i2l, 1) := by decide +kernel
theorem d_Mo_addProducts_19 : decode (a_cc M_Mo_addProducts) 19 = .ok (.aload_n 2, 1) := by decide +kernel
theorem d_Mo_addProducts_20 : decode (a_cc M_Mo_addProducts) 20 = .ok (.iload_n 3, 1) := by decide +kernel
theorem d_Mo_addProducts_21 : decode (a_cc M_Mo_addProducts) 21 = .ok (.iaload, 1) := by decide +kernel
theorem d_Mo_addProducts_22 : decode (a_cc M_Mo_addProducts) 22 = .ok (.i2l, 1) := by decide +kernel
theorem d_Mo_addProducts_23 : decode (a_cc M_Mo_addProducts) 23 = .ok (.lmul, 1) := by decide +kernel
theorem d_Mo_addProducts_24 : decode (a_cc M_Mo_addProducts) 24 = .ok (.ladd, 1) := by decide +kernel
theorem d_Mo_addProducts_25 : decode (a_cc M_Mo_addProducts) 25 = .ok (.ldc2_w 256, 3) := by decide +kernel
theorem d_Mo_addProducts_28 : decode (a_cc M_Mo_addProducts) 28 = .ok (.lrem, 1) := by decide +kernel
theorem d_Mo_addProducts_29 : decode (a_cc M_Mo_addProducts) 29 = .ok (.l2i, 1) := by decide +kernel
theorem d_Mo_addProducts_30 : decode (a_cc M_Mo_addProducts) 30 = .ok (.iastore, 1) := by decide +kernel
theorem d_Mo_addProducts_31 : decode (a_cc M_Mo_addProducts) 31 = .ok (.iinc 3 1, 3) := by decide +kernel
theorem d_Mo_addProducts_34 : decode (a_cc M_Mo_addProducts) 34 = .ok (.goto (-32), 3) := by decide +kernel
theorem d_Mo_addProducts_37 : decode (a_cc M_Mo_addProducts) 37 = .ok (.return_, 1) := by decide +kernel
def M_Mo_interpolate : a_M := (⟨"ModuleSignerModel", "interpolate", "([I)V"⟩, prog_12_method_45_code, 6, none, "ModuleSignerModel", 1, 22, [])
theorem ok_Mo_interpolate : a_Ok M_Mo_interpolate := ⟨rfl, by decide +kernel, ⟨by decide, by decide⟩, List.mem_append_right _ (List.mem_of_getElem? (i := 11) (by decide +kernel)), Or.inl ⟨rfl, List.mem_append_right _ (List.mem_of_getElem? (i := 1346) (by decide +kernel))⟩⟩
theorem d_Mo_interpolate_0 : decode (a_cc M_Mo_interpolate) 0 = .ok (.iconst 0, 1) := by decide +kernel
theorem d_Mo_interpolate_1 : decode (a_cc M_Mo_interpolate) 1 = .ok (.istore_n 2, 1) := by decide +kernel
theorem d_Mo_interpolate_2 : decode (a_cc M_Mo_interpolate) 2 = .ok (.iload_n 2, 1) := by decide +kernel
theorem d_Mo_interpolate_3 : decode (a_cc M_Mo_interpolate) 3 = .ok (.sipush 256, 3) := by decide +kernel
theorem d_Mo_interpolate_6 : decode (a_cc M_Mo_interpolate) 6 = .ok (.if_icmp .ge 87, 3) := by decide +kernel
theorem d_Mo_interpolate_9 : decode (a_cc M_Mo_interpolate) 9 = .ok (.lconst 0, 1) := by decide +kernel
theorem d_Mo_interpolate_10 : decode (a_cc M_Mo_interpolate) 10 = .ok (.lstore_n 3, 1) := by decide +kernel
theorem d_Mo_interpolate_11 : decode (a_cc M_Mo_interpolate) 11 = .ok (.iconst 0, 1) := by decide +kernel
theorem d_Mo_interpolate_12 : decode (a_cc M_Mo_interpolate) 12 = .ok (.istore 5, 2) := by decide +kernel
theorem d_Mo_interpolate_14 : decode (a_cc M_Mo_interpolate) 14 = .ok (.iload 5, 2) := by decide +kernel
theorem d_Mo_interpolate_16 : decode (a_cc M_Mo_interpolate) 16 = .ok (.sipush 256, 3) := by decide +kernel
theorem d_Mo_interpolate_19 : decode (a_cc M_Mo_interpolate) 19 = .ok (.if_icmp .ge 49, 3) := by decide +kernel
theorem d_Mo_interpolate_22 : decode (a_cc M_Mo_interpolate) 22 = .ok (.lload_n 3, 1) := by decide +kernel
theorem d_Mo_interpolate_23 : decode (a_cc M_Mo_interpolate) 23 = .ok (.aload_n 1, 1) := by decide +kernel
theorem d_Mo_interpolate_24 : decode (a_cc M_Mo_interpolate) 24 = .ok (.iload 5, 2) := by decide +kernel
theorem d_Mo_interpolate_26 : decode (a_cc M_Mo_interpolate) 26 = .ok (.iaload, 1) := by decide +kernel
theorem d_Mo_interpolate_27 : decode (a_cc M_Mo_interpolate) 27 = .ok (.i2l, 1) := by decide +kernel
theorem d_Mo_interpolate_28 : decode (a_cc M_Mo_interpolate) 28 = .ok (.aload_n 0, 1) := by decide +kernel
theorem d_Mo_interpolate_29 : decode (a_cc M_Mo_interpolate) 29 = .ok (.getfield 71, 3) := by decide +kernel
theorem d_Mo_interpolate_32 : decode (a_cc M_Mo_interpolate) 32 = .ok (.sipush 512, 3) := by decide +kernel
theorem d_Mo_interpolate_35 : decode (a_cc M_Mo_interpolate) 35 = .ok (.iconst 2, 1) := by decide +kernel
theorem d_Mo_interpolate_36 : decode (a_cc M_Mo_interpolate) 36 = .ok (.iload 5, 2) := by decide +kernel
theorem d_Mo_interpolate_38 : decode (a_cc M_Mo_interpolate) 38 = .ok (.bipush 8, 2) := by decide +kernel
theorem d_Mo_interpolate_40 : decode (a_cc M_Mo_interpolate) 40 = .ok (.invokestatic 258, 3) := by decide +kernel
theorem d_Mo_interpolate_43 : decode (a_cc M_Mo_interpolate) 43 = .ok (.imul, 1) := by decide +kernel
theorem d_Mo_interpolate_44 : decode (a_cc M_Mo_interpolate) 44 = .ok (.iconst 1, 1) := by decide +kernel
theorem d_Mo_interpolate_45 : decode (a_cc M_Mo_interpolate) 45 = .ok (.iadd, 1) := by decide +kernel
theorem d_Mo_interpolate_46 : decode (a_cc M_Mo_interpolate) 46 = .ok (.iload_n 2, 1) := by decide +kernel
theorem d_Mo_interpolate_47 : decode (a_cc M_Mo_interpolate) 47 = .ok (.imul, 1) := by decide +kernel
theorem d_Mo_interpolate_48 : decode (a_cc M_Mo_interpolate) 48 = .ok (.sipush 511, 3) := by decide +kernel
theorem d_Mo_interpolate_51 : decode (a_cc M_Mo_interpolate) 51 = .ok (.iand, 1) := by decide +kernel
theorem d_Mo_interpolate_52 : decode (a_cc M_Mo_interpolate) 52 = .ok (.isub, 1) := by decide +kernel
theorem d_Mo_interpolate_53 : decode (a_cc M_Mo_interpolate) 53 = .ok (.sipush 511, 3) := by decide +kernel
theorem d_Mo_interpolate_56 : decode (a_cc M_Mo_interpolate) 56 = .ok (.iand, 1) := by decide +kernel
theorem d_Mo_interpolate_57 : decode (a_cc M_Mo_interpolate) 57 = .ok (.iaload, 1) := by decide +kernel
theorem d_Mo_interpolate_58 : decode (a_cc M_Mo_interpolate) 58 = .ok (.i2l, 1) := by decide +kernel
theorem d_Mo_interpolate_59 : decode (a_cc M_Mo_interpolate) 59 = .ok (.lmul, 1) := by decide +kernel
theorem d_Mo_interpolate_60 : decode (a_cc M_Mo_interpolate) 60 = .ok (.ladd, 1) := by decide +kernel
theorem d_Mo_interpolate_61 : decode (a_cc M_Mo_interpolate) 61 = .ok (.lstore_n 3, 1) := by decide +kernel
theorem d_Mo_interpolate_62 : decode (a_cc M_Mo_interpolate) 62 = .ok (.iinc 5 1, 3) := by decide +kernel
theorem d_Mo_interpolate_65 : decode (a_cc M_Mo_interpolate) 65 = .ok (.goto (-51), 3) := by decide +kernel
theorem d_Mo_interpolate_68 : decode (a_cc M_Mo_interpolate) 68 = .ok (.aload_n 0, 1) := by decide +kernel
theorem d_Mo_interpolate_69 : decode (a_cc M_Mo_interpolate) 69 = .ok (.getfield 65, 3) := by decide +kernel
theorem d_Mo_interpolate_72 : decode (a_cc M_Mo_interpolate) 72 = .ok (.iload_n 2, 1) := by decide +kernel
theorem d_Mo_interpolate_73 : decode (a_cc M_Mo_interpolate) 73 = .ok (.lload_n 3, 1) := by decide +kernel
theorem d_Mo_interpolate_74 : decode (a_cc M_Mo_interpolate) 74 = .ok (.ldc2_w 256, 3) := by decide +kernel
theorem d_Mo_interpolate_77 : decode (a_cc M_Mo_interpolate) 77 = .ok (.lrem, 1) := by decide +kernel
theorem d_Mo_interpolate_78 : decode (a_cc M_Mo_interpolate) 78 = .ok (.ldc2_w 261, 3) := by decide +kernel
theorem d_Mo_interpolate_81 : decode (a_cc M_Mo_interpolate) 81 = .ok (.lmul, 1) := by decide +kernel
theorem d_Mo_interpolate_82 : decode (a_cc M_Mo_interpolate) 82 = .ok (.ldc2_w 256, 3) := by decide +kernel
theorem d_Mo_interpolate_85 : decode (a_cc M_Mo_interpolate) 85 = .ok (.lrem, 1) := by decide +kernel
theorem d_Mo_interpolate_86 : decode (a_cc M_Mo_interpolate) 86 = .ok (.lastore, 1) := by decide +kernel
theorem d_Mo_interpolate_87 : decode (a_cc M_Mo_interpolate) 87 = .ok (.iinc 2 1, 3) := by decide +kernel
theorem d_Mo_interpolate_90 : decode (a_cc M_Mo_interpolate) 90 = .ok (.goto (-88), 3) := by decide +kernel
theorem d_Mo_interpolate_93 : decode (a_cc M_Mo_interpolate) 93 = .ok (.iconst 0, 1) := by decide +kernel
theorem d_Mo_interpolate_94 : decode (a_cc M_Mo_interpolate) 94 = .ok (.istore_n 2, 1) := by decide +kernel
theorem d_Mo_interpolate_95 : decode (a_cc M_Mo_interpolate) 95 = .ok (.iload_n 2, 1) := by decide +kernel
theorem d_Mo_interpolate_96 : decode (a_cc M_Mo_interpolate) 96 = .ok (.sipush 256, 3) := by decide +kernel
theorem d_Mo_interpolate_99 : decode (a_cc M_Mo_interpolate) 99 = .ok (.if_icmp .ge 19, 3) := by decide +kernel
theorem d_Mo_interpolate_102 : decode (a_cc M_Mo_interpolate) 102 = .ok (.aload_n 1, 1) := by decide +kernel
theorem d_Mo_interpolate_103 : decode (a_cc M_Mo_interpolate) 103 = .ok (.iload_n 2, 1) := by decide +kernel
theorem d_Mo_interpolate_104 : decode (a_cc M_Mo_interpolate) 104 = .ok (.aload_n 0, 1) := by decide +kernel
theorem d_Mo_interpolate_105 : decode (a_cc M_Mo_interpolate) 105 = .ok (.getfield 65, 3) := by decide +kernel
theorem d_Mo_interpolate_108 : decode (a_cc M_Mo_interpolate) 108 = .ok (.iload_n 2, 1) := by decide +kernel
theorem d_Mo_interpolate_109 : decode (a_cc M_Mo_interpolate) 109 = .ok (.laload, 1) := by decide +kernel
theorem d_Mo_interpolate_110 : decode (a_cc M_Mo_interpolate) 110 = .ok (.l2i, 1) := by decide +kernel
theorem d_Mo_interpolate_111 : decode (a_cc M_Mo_interpolate) 111 = .ok (.iastore, 1) := by decide +kernel
theorem d_Mo_interpolate_112 : decode (a_cc M_Mo_interpolate) 112 = .ok (.iinc 2 1, 3) := by decide +kernel
theorem d_Mo_interpolate_115 : decode (a_cc M_Mo_interpolate) 115 = .ok (.goto (-20), 3) := by decide +kernel
theorem d_Mo_interpolate_118 : decode (a_cc M_Mo_interpolate) 118 = .ok (.return_, 1) := by decide +kernel
theorem cs_Mo_interpolate_40 : a_CS M_Mo_interpolate M_Mo_turned 258 2 7 2 := ⟨⟨ok_Mo_turned, by decide, by decide, by decide⟩, List.mem_append_right _ (List.mem_of_getElem? (i := 1329) (by decide +kernel)), List.mem_append_right _ (List.mem_of_getElem? (i := 1330) (by decide +kernel)), by decide +kernel⟩
theorem lc_Mo_261 : Cond.constantLong "ModuleSignerModel" 261 (Int64.ofInt (8347681)) ∈ lw_tbl := List.mem_append_right _ (List.mem_of_getElem? (i := 1347) (by decide +kernel))
def M_Mo_move : a_M := (⟨"ModuleSignerModel", "move", "([BI[BII)V"⟩, prog_12_method_14_code, 6, none, "ModuleSignerModel", 0, 0, [])
theorem ok_Mo_move : a_Ok M_Mo_move := ⟨rfl, by decide +kernel, ⟨by decide, by decide⟩, List.mem_append_right _ (List.mem_of_getElem? (i := 11) (by decide +kernel)), Or.inl ⟨rfl, List.mem_append_right _ (List.mem_of_getElem? (i := 1350) (by decide +kernel))⟩⟩
theorem d_Mo_move_0 : decode (a_cc M_Mo_move) 0 = .ok (.iconst 0, 1) := by decide +kernel
theorem d_Mo_move_1 : decode (a_cc M_Mo_move) 1 = .ok (.istore 5, 2) := by decide +kernel
theorem d_Mo_move_3 : decode (a_cc M_Mo_move) 3 = .ok (.iload 5, 2) := by decide +kernel
theorem d_Mo_move_5 : decode (a_cc M_Mo_move) 5 = .ok (.iload 4, 2) := by decide +kernel
theorem d_Mo_move_7 : decode (a_cc M_Mo_move) 7 = .ok (.if_icmp .ge 21, 3) := by decide +kernel
theorem d_Mo_move_10 : decode (a_cc M_Mo_move) 10 = .ok (.aload_n 2, 1) := by decide +kernel
theorem d_Mo_move_11 : decode (a_cc M_Mo_move) 11 = .ok (.iload_n 3, 1) := by decide +kernel
theorem d_Mo_move_12 : decode (a_cc M_Mo_move) 12 = .ok (.iload 5, 2) := by decide +kernel
theorem d_Mo_move_14 : decode (a_cc M_Mo_move) 14 = .ok (.iadd, 1) := by decide +kernel
theorem d_Mo_move_15 : decode (a_cc M_Mo_move) 15 = .ok (.aload_n 0, 1) := by decide +kernel
theorem d_Mo_move_16 : decode (a_cc M_Mo_move) 16 = .ok (.iload_n 1, 1) := by decide +kernel
theorem d_Mo_move_17 : decode (a_cc M_Mo_move) 17 = .ok (.iload 5, 2) := by decide +kernel
theorem d_Mo_move_19 : decode (a_cc M_Mo_move) 19 = .ok (.iadd, 1) := by decide +kernel
theorem d_Mo_move_20 : decode (a_cc M_Mo_move) 20 = .ok (.baload, 1) := by decide +kernel
theorem d_Mo_move_21 : decode (a_cc M_Mo_move) 21 = .ok (.bastore, 1) := by decide +kernel
theorem d_Mo_move_22 : decode (a_cc M_Mo_move) 22 = .ok (.iinc 5 1, 3) := by decide +kernel
theorem d_Mo_move_25 : decode (a_cc M_Mo_move) 25 = .ok (.goto (-22), 3) := by decide +kernel
theorem d_Mo_move_28 : decode (a_cc M_Mo_move) 28 = .ok (.return_, 1) := by decide +kernel
def M_Mo_secretLength : a_M := (⟨"ModuleSignerModel", "secretLength", "()I"⟩, prog_12_method_57_code, 1, some .int, "ModuleSignerModel", 0, 0, [])
theorem ok_Mo_secretLength : a_Ok M_Mo_secretLength := ⟨rfl, by decide +kernel, ⟨by decide, by decide⟩, List.mem_append_right _ (List.mem_of_getElem? (i := 11) (by decide +kernel)), Or.inl ⟨rfl, List.mem_append_right _ (List.mem_of_getElem? (i := 1354) (by decide +kernel))⟩⟩
theorem d_Mo_secretLength_0 : decode (a_cc M_Mo_secretLength) 0 = .ok (.sipush 128, 3) := by decide +kernel
theorem d_Mo_secretLength_3 : decode (a_cc M_Mo_secretLength) 3 = .ok (.bipush 32, 2) := by decide +kernel
theorem d_Mo_secretLength_5 : decode (a_cc M_Mo_secretLength) 5 = .ok (.aload_n 0, 1) := by decide +kernel
theorem d_Mo_secretLength_6 : decode (a_cc M_Mo_secretLength) 6 = .ok (.getfield 226, 3) := by decide +kernel
theorem d_Mo_secretLength_9 : decode (a_cc M_Mo_secretLength) 9 = .ok (.aload_n 0, 1) := by decide +kernel
theorem d_Mo_secretLength_10 : decode (a_cc M_Mo_secretLength) 10 = .ok (.getfield 223, 3) := by decide +kernel
theorem d_Mo_secretLength_13 : decode (a_cc M_Mo_secretLength) 13 = .ok (.iadd, 1) := by decide +kernel
theorem d_Mo_secretLength_14 : decode (a_cc M_Mo_secretLength) 14 = .ok (.aload_n 0, 1) := by decide +kernel
theorem d_Mo_secretLength_15 : decode (a_cc M_Mo_secretLength) 15 = .ok (.getfield 229, 3) := by decide +kernel
theorem d_Mo_secretLength_18 : decode (a_cc M_Mo_secretLength) 18 = .ok (.iconst 2, 1) := by decide +kernel
theorem d_Mo_secretLength_19 : decode (a_cc M_Mo_secretLength) 19 = .ok (.if_icmp .ne 7, 3) := by decide +kernel
theorem d_Mo_secretLength_22 : decode (a_cc M_Mo_secretLength) 22 = .ok (.iconst 3, 1) := by decide +kernel
theorem d_Mo_secretLength_23 : decode (a_cc M_Mo_secretLength) 23 = .ok (.goto 4, 3) := by decide +kernel
theorem d_Mo_secretLength_26 : decode (a_cc M_Mo_secretLength) 26 = .ok (.iconst 4, 1) := by decide +kernel
theorem d_Mo_secretLength_27 : decode (a_cc M_Mo_secretLength) 27 = .ok (.imul, 1) := by decide +kernel
theorem d_Mo_secretLength_28 : decode (a_cc M_Mo_secretLength) 28 = .ok (.bipush 13, 2) := by decide +kernel
theorem d_Mo_secretLength_30 : decode (a_cc M_Mo_secretLength) 30 = .ok (.aload_n 0, 1) := by decide +kernel
theorem d_Mo_secretLength_31 : decode (a_cc M_Mo_secretLength) 31 = .ok (.getfield 223, 3) := by decide +kernel
theorem d_Mo_secretLength_34 : decode (a_cc M_Mo_secretLength) 34 = .ok (.imul, 1) := by decide +kernel
theorem d_Mo_secretLength_35 : decode (a_cc M_Mo_secretLength) 35 = .ok (.iadd, 1) := by decide +kernel
theorem d_Mo_secretLength_36 : decode (a_cc M_Mo_secretLength) 36 = .ok (.imul, 1) := by decide +kernel
theorem d_Mo_secretLength_37 : decode (a_cc M_Mo_secretLength) 37 = .ok (.iadd, 1) := by decide +kernel
theorem d_Mo_secretLength_38 : decode (a_cc M_Mo_secretLength) 38 = .ok (.ireturn, 1) := by decide +kernel
