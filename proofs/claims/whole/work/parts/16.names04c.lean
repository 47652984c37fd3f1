/-! names, printed by program: methods, their instructions, what they link -/
def M_MS_needHow : a_M := (⟨"ModuleSigner", "needHow", "(I)V"⟩, prog_1_method_16_code, 1, none, "ModuleSigner", 6, 82, [])
theorem ok_MS_needHow : a_Ok M_MS_needHow := ⟨rfl, by decide +kernel, ⟨by decide, by decide⟩, List.mem_append_right _ (List.mem_of_getElem? (i := 1) (by decide +kernel)), Or.inl ⟨rfl, List.mem_append_right _ (List.mem_of_getElem? (i := 784) (by decide +kernel))⟩⟩
theorem d_MS_needHow_0 : decode (a_cc M_MS_needHow) 0 = .ok (.iload_n 0, 1) := by decide +kernel
theorem d_MS_needHow_1 : decode (a_cc M_MS_needHow) 1 = .ok (.ifCond .eq 18, 3) := by decide +kernel
theorem d_MS_needHow_4 : decode (a_cc M_MS_needHow) 4 = .ok (.iload_n 0, 1) := by decide +kernel
theorem d_MS_needHow_5 : decode (a_cc M_MS_needHow) 5 = .ok (.iconst (-1), 1) := by decide +kernel
theorem d_MS_needHow_6 : decode (a_cc M_MS_needHow) 6 = .ok (.if_icmp .eq 13, 3) := by decide +kernel
theorem d_MS_needHow_9 : decode (a_cc M_MS_needHow) 9 = .ok (.new 87, 3) := by decide +kernel
theorem d_MS_needHow_12 : decode (a_cc M_MS_needHow) 12 = .ok (.dup, 1) := by decide +kernel
theorem d_MS_needHow_13 : decode (a_cc M_MS_needHow) 13 = .ok (.ldc 155, 2) := by decide +kernel
theorem d_MS_needHow_15 : decode (a_cc M_MS_needHow) 15 = .ok (.invokespecial 91, 3) := by decide +kernel
theorem d_MS_needHow_18 : decode (a_cc M_MS_needHow) 18 = .ok (.athrow, 1) := by decide +kernel
theorem d_MS_needHow_19 : decode (a_cc M_MS_needHow) 19 = .ok (.return_, 1) := by decide +kernel
theorem th_MS_needHow_9 : a_Th M_MS_needHow 9 0 0 := ⟨_, _, _, "how is neither 0 nor -1", d_MS_needHow_9, d_MS_needHow_12, d_MS_needHow_13, d_MS_needHow_15, d_MS_needHow_18, List.mem_append_right _ (List.mem_of_getElem? (i := 785) (by decide +kernel)), by decide, List.mem_append_right _ (List.mem_of_getElem? (i := 470) (by decide +kernel)), List.mem_append_right _ (List.mem_of_getElem? (i := 480) (by decide +kernel)), rfl, by decide, by decide⟩
def M_MS_needContext : a_M := (⟨"ModuleSigner", "needContext", "(I)V"⟩, prog_1_method_18_code, 2, none, "ModuleSigner", 6, 82, [])
theorem ok_MS_needContext : a_Ok M_MS_needContext := ⟨rfl, by decide +kernel, ⟨by decide, by decide⟩, List.mem_append_right _ (List.mem_of_getElem? (i := 1) (by decide +kernel)), Or.inl ⟨rfl, List.mem_append_right _ (List.mem_of_getElem? (i := 789) (by decide +kernel))⟩⟩
theorem d_MS_needContext_0 : decode (a_cc M_MS_needContext) 0 = .ok (.iload_n 1, 1) := by decide +kernel
theorem d_MS_needContext_1 : decode (a_cc M_MS_needContext) 1 = .ok (.ifCond .ne 28, 3) := by decide +kernel
theorem d_MS_needContext_4 : decode (a_cc M_MS_needContext) 4 = .ok (.aload_n 0, 1) := by decide +kernel
theorem d_MS_needContext_5 : decode (a_cc M_MS_needContext) 5 = .ok (.getfield 11, 3) := by decide +kernel
theorem d_MS_needContext_8 : decode (a_cc M_MS_needContext) 8 = .ok (.iconst 4, 1) := by decide +kernel
theorem d_MS_needContext_9 : decode (a_cc M_MS_needContext) 9 = .ok (.aaload, 1) := by decide +kernel
theorem d_MS_needContext_10 : decode (a_cc M_MS_needContext) 10 = .ok (.getfield 55, 3) := by decide +kernel
theorem d_MS_needContext_13 : decode (a_cc M_MS_needContext) 13 = .ok (.sipush 255, 3) := by decide +kernel
theorem d_MS_needContext_16 : decode (a_cc M_MS_needContext) 16 = .ok (.if_icmp .le 13, 3) := by decide +kernel
theorem d_MS_needContext_19 : decode (a_cc M_MS_needContext) 19 = .ok (.new 111, 3) := by decide +kernel
theorem d_MS_needContext_22 : decode (a_cc M_MS_needContext) 22 = .ok (.dup, 1) := by decide +kernel
theorem d_MS_needContext_23 : decode (a_cc M_MS_needContext) 23 = .ok (.ldc 159, 2) := by decide +kernel
theorem d_MS_needContext_25 : decode (a_cc M_MS_needContext) 25 = .ok (.invokespecial 115, 3) := by decide +kernel
theorem d_MS_needContext_28 : decode (a_cc M_MS_needContext) 28 = .ok (.athrow, 1) := by decide +kernel
theorem d_MS_needContext_29 : decode (a_cc M_MS_needContext) 29 = .ok (.return_, 1) := by decide +kernel
theorem th_MS_needContext_19 : a_Th M_MS_needContext 19 2 0 := ⟨_, _, _, "CONTEXT is too long", d_MS_needContext_19, d_MS_needContext_22, d_MS_needContext_23, d_MS_needContext_25, d_MS_needContext_28, List.mem_append_right _ (List.mem_of_getElem? (i := 790) (by decide +kernel)), by decide, List.mem_append_right _ (List.mem_of_getElem? (i := 579) (by decide +kernel)), List.mem_append_right _ (List.mem_of_getElem? (i := 589) (by decide +kernel)), rfl, by decide, by decide⟩
def M_By_readBits : a_M := (⟨"ModuleSigner$Bytes", "readBits", "(II[I)V"⟩, prog_3_method_11_code, 9, none, "ModuleSigner$Bytes", 1, 14, [])
theorem ok_By_readBits : a_Ok M_By_readBits := ⟨rfl, by decide +kernel, ⟨by decide, by decide⟩, List.mem_append_right _ (List.mem_of_getElem? (i := 2) (by decide +kernel)), Or.inl ⟨rfl, List.mem_append_right _ (List.mem_of_getElem? (i := 824) (by decide +kernel))⟩⟩
theorem d_By_readBits_0 : decode (a_cc M_By_readBits) 0 = .ok (.iconst 1, 1) := by decide +kernel
theorem d_By_readBits_1 : decode (a_cc M_By_readBits) 1 = .ok (.iload_n 2, 1) := by decide +kernel
theorem d_By_readBits_2 : decode (a_cc M_By_readBits) 2 = .ok (.ishl, 1) := by decide +kernel
theorem d_By_readBits_3 : decode (a_cc M_By_readBits) 3 = .ok (.iconst 1, 1) := by decide +kernel
theorem d_By_readBits_4 : decode (a_cc M_By_readBits) 4 = .ok (.isub, 1) := by decide +kernel
theorem d_By_readBits_5 : decode (a_cc M_By_readBits) 5 = .ok (.istore 4, 2) := by decide +kernel
theorem d_By_readBits_7 : decode (a_cc M_By_readBits) 7 = .ok (.iconst 0, 1) := by decide +kernel
theorem d_By_readBits_8 : decode (a_cc M_By_readBits) 8 = .ok (.istore 5, 2) := by decide +kernel
theorem d_By_readBits_10 : decode (a_cc M_By_readBits) 10 = .ok (.iconst 0, 1) := by decide +kernel
theorem d_By_readBits_11 : decode (a_cc M_By_readBits) 11 = .ok (.istore 6, 2) := by decide +kernel
theorem d_By_readBits_13 : decode (a_cc M_By_readBits) 13 = .ok (.iload_n 1, 1) := by decide +kernel
theorem d_By_readBits_14 : decode (a_cc M_By_readBits) 14 = .ok (.istore 7, 2) := by decide +kernel
theorem d_By_readBits_16 : decode (a_cc M_By_readBits) 16 = .ok (.iconst 0, 1) := by decide +kernel
theorem d_By_readBits_17 : decode (a_cc M_By_readBits) 17 = .ok (.istore 8, 2) := by decide +kernel
theorem d_By_readBits_19 : decode (a_cc M_By_readBits) 19 = .ok (.iload 8, 2) := by decide +kernel
theorem d_By_readBits_21 : decode (a_cc M_By_readBits) 21 = .ok (.sipush 256, 3) := by decide +kernel
theorem d_By_readBits_24 : decode (a_cc M_By_readBits) 24 = .ok (.if_icmp .ge 59, 3) := by decide +kernel
theorem d_By_readBits_27 : decode (a_cc M_By_readBits) 27 = .ok (.iload 6, 2) := by decide +kernel
theorem d_By_readBits_29 : decode (a_cc M_By_readBits) 29 = .ok (.iload_n 2, 1) := by decide +kernel
theorem d_By_readBits_30 : decode (a_cc M_By_readBits) 30 = .ok (.if_icmp .ge 26, 3) := by decide +kernel
theorem d_By_readBits_33 : decode (a_cc M_By_readBits) 33 = .ok (.iload 5, 2) := by decide +kernel
theorem d_By_readBits_35 : decode (a_cc M_By_readBits) 35 = .ok (.aload_n 0, 1) := by decide +kernel
theorem d_By_readBits_36 : decode (a_cc M_By_readBits) 36 = .ok (.iload 7, 2) := by decide +kernel
theorem d_By_readBits_38 : decode (a_cc M_By_readBits) 38 = .ok (.invokevirtual 21, 3) := by decide +kernel
theorem d_By_readBits_41 : decode (a_cc M_By_readBits) 41 = .ok (.iload 6, 2) := by decide +kernel
theorem d_By_readBits_43 : decode (a_cc M_By_readBits) 43 = .ok (.ishl, 1) := by decide +kernel
theorem d_By_readBits_44 : decode (a_cc M_By_readBits) 44 = .ok (.ior, 1) := by decide +kernel
theorem d_By_readBits_45 : decode (a_cc M_By_readBits) 45 = .ok (.istore 5, 2) := by decide +kernel
theorem d_By_readBits_47 : decode (a_cc M_By_readBits) 47 = .ok (.iinc 7 1, 3) := by decide +kernel
theorem d_By_readBits_50 : decode (a_cc M_By_readBits) 50 = .ok (.iinc 6 8, 3) := by decide +kernel
theorem d_By_readBits_53 : decode (a_cc M_By_readBits) 53 = .ok (.goto (-26), 3) := by decide +kernel
theorem d_By_readBits_56 : decode (a_cc M_By_readBits) 56 = .ok (.aload_n 3, 1) := by decide +kernel
theorem d_By_readBits_57 : decode (a_cc M_By_readBits) 57 = .ok (.iload 8, 2) := by decide +kernel
theorem d_By_readBits_59 : decode (a_cc M_By_readBits) 59 = .ok (.iload 5, 2) := by decide +kernel
theorem d_By_readBits_61 : decode (a_cc M_By_readBits) 61 = .ok (.iload 4, 2) := by decide +kernel
theorem d_By_readBits_63 : decode (a_cc M_By_readBits) 63 = .ok (.iand, 1) := by decide +kernel
theorem d_By_readBits_64 : decode (a_cc M_By_readBits) 64 = .ok (.iastore, 1) := by decide +kernel
theorem d_By_readBits_65 : decode (a_cc M_By_readBits) 65 = .ok (.iload 5, 2) := by decide +kernel
theorem d_By_readBits_67 : decode (a_cc M_By_readBits) 67 = .ok (.iload_n 2, 1) := by decide +kernel
theorem d_By_readBits_68 : decode (a_cc M_By_readBits) 68 = .ok (.iushr, 1) := by decide +kernel
theorem d_By_readBits_69 : decode (a_cc M_By_readBits) 69 = .ok (.istore 5, 2) := by decide +kernel
theorem d_By_readBits_71 : decode (a_cc M_By_readBits) 71 = .ok (.iload 6, 2) := by decide +kernel
theorem d_By_readBits_73 : decode (a_cc M_By_readBits) 73 = .ok (.iload_n 2, 1) := by decide +kernel
theorem d_By_readBits_74 : decode (a_cc M_By_readBits) 74 = .ok (.isub, 1) := by decide +kernel
theorem d_By_readBits_75 : decode (a_cc M_By_readBits) 75 = .ok (.istore 6, 2) := by decide +kernel
theorem d_By_readBits_77 : decode (a_cc M_By_readBits) 77 = .ok (.iinc 8 1, 3) := by decide +kernel
theorem d_By_readBits_80 : decode (a_cc M_By_readBits) 80 = .ok (.goto (-61), 3) := by decide +kernel
theorem d_By_readBits_83 : decode (a_cc M_By_readBits) 83 = .ok (.return_, 1) := by decide +kernel
theorem cs_By_readBits_38 : a_CV M_By_readBits M_By_at 21 1 2 1 1 := ⟨⟨ok_By_at, by decide, by decide, by decide⟩, by decide, rfl, List.mem_append_right _ (List.mem_of_getElem? (i := 565) (by decide +kernel)), List.mem_append_right _ (List.mem_of_getElem? (i := 537) (by decide +kernel)), List.mem_append_right _ (List.mem_of_getElem? (i := 538) (by decide +kernel)), by decide +kernel⟩
def M_Si_readMirrored : a_M := (⟨"ModuleSigner$Signer", "readMirrored", "(LModuleSigner$Bytes;III[I)V"⟩, prog_8_method_4_code, 6, none, "ModuleSigner$Signer", 3, 50, [])
theorem ok_Si_readMirrored : a_Ok M_Si_readMirrored := ⟨rfl, by decide +kernel, ⟨by decide, by decide⟩, List.mem_append_right _ (List.mem_of_getElem? (i := 9) (by decide +kernel)), Or.inl ⟨rfl, List.mem_append_right _ (List.mem_of_getElem? (i := 820) (by decide +kernel))⟩⟩
theorem d_Si_readMirrored_0 : decode (a_cc M_Si_readMirrored) 0 = .ok (.aload_n 1, 1) := by decide +kernel
theorem d_Si_readMirrored_1 : decode (a_cc M_Si_readMirrored) 1 = .ok (.iload_n 2, 1) := by decide +kernel
theorem d_Si_readMirrored_2 : decode (a_cc M_Si_readMirrored) 2 = .ok (.iload_n 3, 1) := by decide +kernel
theorem d_Si_readMirrored_3 : decode (a_cc M_Si_readMirrored) 3 = .ok (.aload 5, 2) := by decide +kernel
theorem d_Si_readMirrored_5 : decode (a_cc M_Si_readMirrored) 5 = .ok (.invokevirtual 126, 3) := by decide +kernel
theorem d_Si_readMirrored_8 : decode (a_cc M_Si_readMirrored) 8 = .ok (.aload 5, 2) := by decide +kernel
theorem d_Si_readMirrored_10 : decode (a_cc M_Si_readMirrored) 10 = .ok (.iload 4, 2) := by decide +kernel
theorem d_Si_readMirrored_12 : decode (a_cc M_Si_readMirrored) 12 = .ok (.invokestatic 130, 3) := by decide +kernel
theorem d_Si_readMirrored_15 : decode (a_cc M_Si_readMirrored) 15 = .ok (.aload_n 0, 1) := by decide +kernel
theorem d_Si_readMirrored_16 : decode (a_cc M_Si_readMirrored) 16 = .ok (.getfield 38, 3) := by decide +kernel
theorem d_Si_readMirrored_19 : decode (a_cc M_Si_readMirrored) 19 = .ok (.getfield 134, 3) := by decide +kernel
theorem d_Si_readMirrored_22 : decode (a_cc M_Si_readMirrored) 22 = .ok (.aload 5, 2) := by decide +kernel
theorem d_Si_readMirrored_24 : decode (a_cc M_Si_readMirrored) 24 = .ok (.invokevirtual 138, 3) := by decide +kernel
theorem d_Si_readMirrored_27 : decode (a_cc M_Si_readMirrored) 27 = .ok (.return_, 1) := by decide +kernel
theorem cs_Si_readMirrored_5 : a_CV M_Si_readMirrored M_By_readBits 126 1 4 0 3 := ⟨⟨ok_By_readBits, by decide, by decide, by decide⟩, by decide, rfl, List.mem_append_right _ (List.mem_of_getElem? (i := 821) (by decide +kernel)), List.mem_append_right _ (List.mem_of_getElem? (i := 822) (by decide +kernel)), List.mem_append_right _ (List.mem_of_getElem? (i := 823) (by decide +kernel)), by decide +kernel⟩
theorem cs_Si_readMirrored_12 : a_CS M_Si_readMirrored M_Ri_mirror 130 2 0 2 := ⟨⟨ok_Ri_mirror, by decide, by decide, by decide⟩, List.mem_append_right _ (List.mem_of_getElem? (i := 825) (by decide +kernel)), List.mem_append_right _ (List.mem_of_getElem? (i := 772) (by decide +kernel)), by decide +kernel⟩
theorem fd_Si_134 : a_Fd "ModuleSigner$Signer" 134 3 2 2 := ⟨by decide, by decide, rfl, List.mem_append_right _ (List.mem_of_getElem? (i := 231) (by decide +kernel))⟩
theorem cs_Si_readMirrored_24 : a_CV M_Si_readMirrored M_Ri_forward 138 9 2 0 1 := ⟨⟨ok_Ri_forward, by decide, by decide, by decide⟩, by decide, rfl, List.mem_append_right _ (List.mem_of_getElem? (i := 826) (by decide +kernel)), List.mem_append_right _ (List.mem_of_getElem? (i := 714) (by decide +kernel)), List.mem_append_right _ (List.mem_of_getElem? (i := 715) (by decide +kernel)), by decide +kernel⟩
def M_Si_readSecret : a_M := (⟨"ModuleSigner$Signer", "readSecret", "(LModuleSigner$Bytes;LModuleSigner$Parameters;)V"⟩, prog_8_method_3_code, 5, none, "ModuleSigner$Signer", 8, 115, [])
theorem ok_Si_readSecret : a_Ok M_Si_readSecret := ⟨rfl, by decide +kernel, ⟨by decide, by decide⟩, List.mem_append_right _ (List.mem_of_getElem? (i := 9) (by decide +kernel)), Or.inl ⟨rfl, List.mem_append_right _ (List.mem_of_getElem? (i := 815) (by decide +kernel))⟩⟩
theorem d_Si_readSecret_0 : decode (a_cc M_Si_readSecret) 0 = .ok (.aload_n 0, 1) := by decide +kernel
theorem d_Si_readSecret_1 : decode (a_cc M_Si_readSecret) 1 = .ok (.getfield 38, 3) := by decide +kernel
theorem d_Si_readSecret_4 : decode (a_cc M_Si_readSecret) 4 = .ok (.getfield 91, 3) := by decide +kernel
theorem d_Si_readSecret_7 : decode (a_cc M_Si_readSecret) 7 = .ok (.aload_n 1, 1) := by decide +kernel
theorem d_Si_readSecret_8 : decode (a_cc M_Si_readSecret) 8 = .ok (.aload_n 2, 1) := by decide +kernel
theorem d_Si_readSecret_9 : decode (a_cc M_Si_readSecret) 9 = .ok (.aload_n 0, 1) := by decide +kernel
theorem d_Si_readSecret_10 : decode (a_cc M_Si_readSecret) 10 = .ok (.getfield 38, 3) := by decide +kernel
theorem d_Si_readSecret_13 : decode (a_cc M_Si_readSecret) 13 = .ok (.getfield 95, 3) := by decide +kernel
theorem d_Si_readSecret_16 : decode (a_cc M_Si_readSecret) 16 = .ok (.invokevirtual 98, 3) := by decide +kernel
theorem d_Si_readSecret_19 : decode (a_cc M_Si_readSecret) 19 = .ok (.sipush 128, 3) := by decide +kernel
theorem d_Si_readSecret_22 : decode (a_cc M_Si_readSecret) 22 = .ok (.istore_n 3, 1) := by decide +kernel
theorem d_Si_readSecret_23 : decode (a_cc M_Si_readSecret) 23 = .ok (.iconst 0, 1) := by decide +kernel
theorem d_Si_readSecret_24 : decode (a_cc M_Si_readSecret) 24 = .ok (.istore 4, 2) := by decide +kernel
theorem d_Si_readSecret_26 : decode (a_cc M_Si_readSecret) 26 = .ok (.iload 4, 2) := by decide +kernel
theorem d_Si_readSecret_28 : decode (a_cc M_Si_readSecret) 28 = .ok (.aload_n 2, 1) := by decide +kernel
theorem d_Si_readSecret_29 : decode (a_cc M_Si_readSecret) 29 = .ok (.getfield 56, 3) := by decide +kernel
theorem d_Si_readSecret_32 : decode (a_cc M_Si_readSecret) 32 = .ok (.if_icmp .ge 43, 3) := by decide +kernel
theorem d_Si_readSecret_35 : decode (a_cc M_Si_readSecret) 35 = .ok (.aload_n 0, 1) := by decide +kernel
theorem d_Si_readSecret_36 : decode (a_cc M_Si_readSecret) 36 = .ok (.aload_n 1, 1) := by decide +kernel
theorem d_Si_readSecret_37 : decode (a_cc M_Si_readSecret) 37 = .ok (.iload_n 3, 1) := by decide +kernel
theorem d_Si_readSecret_38 : decode (a_cc M_Si_readSecret) 38 = .ok (.aload_n 2, 1) := by decide +kernel
theorem d_Si_readSecret_39 : decode (a_cc M_Si_readSecret) 39 = .ok (.getfield 103, 3) := by decide +kernel
theorem d_Si_readSecret_42 : decode (a_cc M_Si_readSecret) 42 = .ok (.aload_n 2, 1) := by decide +kernel
theorem d_Si_readSecret_43 : decode (a_cc M_Si_readSecret) 43 = .ok (.getfield 106, 3) := by decide +kernel
theorem d_Si_readSecret_46 : decode (a_cc M_Si_readSecret) 46 = .ok (.aload_n 0, 1) := by decide +kernel
theorem d_Si_readSecret_47 : decode (a_cc M_Si_readSecret) 47 = .ok (.getfield 38, 3) := by decide +kernel
theorem d_Si_readSecret_50 : decode (a_cc M_Si_readSecret) 50 = .ok (.getfield 109, 3) := by decide +kernel
theorem d_Si_readSecret_53 : decode (a_cc M_Si_readSecret) 53 = .ok (.iload 4, 2) := by decide +kernel
theorem d_Si_readSecret_55 : decode (a_cc M_Si_readSecret) 55 = .ok (.aaload, 1) := by decide +kernel
theorem d_Si_readSecret_56 : decode (a_cc M_Si_readSecret) 56 = .ok (.invokevirtual 112, 3) := by decide +kernel
theorem d_Si_readSecret_59 : decode (a_cc M_Si_readSecret) 59 = .ok (.iload_n 3, 1) := by decide +kernel
theorem d_Si_readSecret_60 : decode (a_cc M_Si_readSecret) 60 = .ok (.aload_n 2, 1) := by decide +kernel
theorem d_Si_readSecret_61 : decode (a_cc M_Si_readSecret) 61 = .ok (.getfield 103, 3) := by decide +kernel
theorem d_Si_readSecret_64 : decode (a_cc M_Si_readSecret) 64 = .ok (.invokestatic 116, 3) := by decide +kernel
theorem d_Si_readSecret_67 : decode (a_cc M_Si_readSecret) 67 = .ok (.iadd, 1) := by decide +kernel
theorem d_Si_readSecret_68 : decode (a_cc M_Si_readSecret) 68 = .ok (.istore_n 3, 1) := by decide +kernel
theorem d_Si_readSecret_69 : decode (a_cc M_Si_readSecret) 69 = .ok (.iinc 4 1, 3) := by decide +kernel
theorem d_Si_readSecret_72 : decode (a_cc M_Si_readSecret) 72 = .ok (.goto (-46), 3) := by decide +kernel
theorem d_Si_readSecret_75 : decode (a_cc M_Si_readSecret) 75 = .ok (.iconst 0, 1) := by decide +kernel
theorem d_Si_readSecret_76 : decode (a_cc M_Si_readSecret) 76 = .ok (.istore 4, 2) := by decide +kernel
theorem d_Si_readSecret_78 : decode (a_cc M_Si_readSecret) 78 = .ok (.iload 4, 2) := by decide +kernel
theorem d_Si_readSecret_80 : decode (a_cc M_Si_readSecret) 80 = .ok (.aload_n 2, 1) := by decide +kernel
theorem d_Si_readSecret_81 : decode (a_cc M_Si_readSecret) 81 = .ok (.getfield 120, 3) := by decide +kernel
theorem d_Si_readSecret_84 : decode (a_cc M_Si_readSecret) 84 = .ok (.if_icmp .ge 43, 3) := by decide +kernel
theorem d_Si_readSecret_87 : decode (a_cc M_Si_readSecret) 87 = .ok (.aload_n 0, 1) := by decide +kernel
theorem d_Si_readSecret_88 : decode (a_cc M_Si_readSecret) 88 = .ok (.aload_n 1, 1) := by decide +kernel
theorem d_Si_readSecret_89 : decode (a_cc M_Si_readSecret) 89 = .ok (.iload_n 3, 1) := by decide +kernel
theorem d_Si_readSecret_90 : decode (a_cc M_Si_readSecret) 90 = .ok (.aload_n 2, 1) := by decide +kernel
theorem d_Si_readSecret_91 : decode (a_cc M_Si_readSecret) 91 = .ok (.getfield 103, 3) := by decide +kernel
theorem d_Si_readSecret_94 : decode (a_cc M_Si_readSecret) 94 = .ok (.aload_n 2, 1) := by decide +kernel
theorem d_Si_readSecret_95 : decode (a_cc M_Si_readSecret) 95 = .ok (.getfield 106, 3) := by decide +kernel
theorem d_Si_readSecret_98 : decode (a_cc M_Si_readSecret) 98 = .ok (.aload_n 0, 1) := by decide +kernel
theorem d_Si_readSecret_99 : decode (a_cc M_Si_readSecret) 99 = .ok (.getfield 38, 3) := by decide +kernel
theorem d_Si_readSecret_102 : decode (a_cc M_Si_readSecret) 102 = .ok (.getfield 123, 3) := by decide +kernel
theorem d_Si_readSecret_105 : decode (a_cc M_Si_readSecret) 105 = .ok (.iload 4, 2) := by decide +kernel
theorem d_Si_readSecret_107 : decode (a_cc M_Si_readSecret) 107 = .ok (.aaload, 1) := by decide +kernel
theorem d_Si_readSecret_108 : decode (a_cc M_Si_readSecret) 108 = .ok (.invokevirtual 112, 3) := by decide +kernel
theorem d_Si_readSecret_111 : decode (a_cc M_Si_readSecret) 111 = .ok (.iload_n 3, 1) := by decide +kernel
theorem d_Si_readSecret_112 : decode (a_cc M_Si_readSecret) 112 = .ok (.aload_n 2, 1) := by decide +kernel
theorem d_Si_readSecret_113 : decode (a_cc M_Si_readSecret) 113 = .ok (.getfield 103, 3) := by decide +kernel
theorem d_Si_readSecret_116 : decode (a_cc M_Si_readSecret) 116 = .ok (.invokestatic 116, 3) := by decide +kernel
theorem d_Si_readSecret_119 : decode (a_cc M_Si_readSecret) 119 = .ok (.iadd, 1) := by decide +kernel
theorem d_Si_readSecret_120 : decode (a_cc M_Si_readSecret) 120 = .ok (.istore_n 3, 1) := by decide +kernel
theorem d_Si_readSecret_121 : decode (a_cc M_Si_readSecret) 121 = .ok (.iinc 4 1, 3) := by decide +kernel
theorem d_Si_readSecret_124 : decode (a_cc M_Si_readSecret) 124 = .ok (.goto (-46), 3) := by decide +kernel
theorem d_Si_readSecret_127 : decode (a_cc M_Si_readSecret) 127 = .ok (.iconst 0, 1) := by decide +kernel
theorem d_Si_readSecret_128 : decode (a_cc M_Si_readSecret) 128 = .ok (.istore 4, 2) := by decide +kernel
theorem d_Si_readSecret_130 : decode (a_cc M_Si_readSecret) 130 = .ok (.iload 4, 2) := by decide +kernel
theorem d_Si_readSecret_132 : decode (a_cc M_Si_readSecret) 132 = .ok (.aload_n 2, 1) := by decide +kernel
theorem d_Si_readSecret_133 : decode (a_cc M_Si_readSecret) 133 = .ok (.getfield 120, 3) := by decide +kernel
theorem d_Si_readSecret_136 : decode (a_cc M_Si_readSecret) 136 = .ok (.if_icmp .ge 35, 3) := by decide +kernel
theorem d_Si_readSecret_139 : decode (a_cc M_Si_readSecret) 139 = .ok (.aload_n 0, 1) := by decide +kernel
theorem d_Si_readSecret_140 : decode (a_cc M_Si_readSecret) 140 = .ok (.aload_n 1, 1) := by decide +kernel
theorem d_Si_readSecret_141 : decode (a_cc M_Si_readSecret) 141 = .ok (.iload_n 3, 1) := by decide +kernel
theorem d_Si_readSecret_142 : decode (a_cc M_Si_readSecret) 142 = .ok (.bipush 13, 2) := by decide +kernel
theorem d_Si_readSecret_144 : decode (a_cc M_Si_readSecret) 144 = .ok (.sipush 4096, 3) := by decide +kernel
theorem d_Si_readSecret_147 : decode (a_cc M_Si_readSecret) 147 = .ok (.aload_n 0, 1) := by decide +kernel
theorem d_Si_readSecret_148 : decode (a_cc M_Si_readSecret) 148 = .ok (.getfield 15, 3) := by decide +kernel
theorem d_Si_readSecret_151 : decode (a_cc M_Si_readSecret) 151 = .ok (.iload 4, 2) := by decide +kernel
theorem d_Si_readSecret_153 : decode (a_cc M_Si_readSecret) 153 = .ok (.aaload, 1) := by decide +kernel
theorem d_Si_readSecret_154 : decode (a_cc M_Si_readSecret) 154 = .ok (.invokevirtual 112, 3) := by decide +kernel
theorem d_Si_readSecret_157 : decode (a_cc M_Si_readSecret) 157 = .ok (.iload_n 3, 1) := by decide +kernel
theorem d_Si_readSecret_158 : decode (a_cc M_Si_readSecret) 158 = .ok (.bipush 13, 2) := by decide +kernel
theorem d_Si_readSecret_160 : decode (a_cc M_Si_readSecret) 160 = .ok (.invokestatic 116, 3) := by decide +kernel
theorem d_Si_readSecret_163 : decode (a_cc M_Si_readSecret) 163 = .ok (.iadd, 1) := by decide +kernel
theorem d_Si_readSecret_164 : decode (a_cc M_Si_readSecret) 164 = .ok (.istore_n 3, 1) := by decide +kernel
theorem d_Si_readSecret_165 : decode (a_cc M_Si_readSecret) 165 = .ok (.iinc 4 1, 3) := by decide +kernel
theorem d_Si_readSecret_168 : decode (a_cc M_Si_readSecret) 168 = .ok (.goto (-38), 3) := by decide +kernel
theorem d_Si_readSecret_171 : decode (a_cc M_Si_readSecret) 171 = .ok (.return_, 1) := by decide +kernel
theorem fd_Si_91 : a_Fd "ModuleSigner$Signer" 91 3 0 2 := ⟨by decide, by decide, rfl, List.mem_append_right _ (List.mem_of_getElem? (i := 223) (by decide +kernel))⟩
theorem fd_Si_95 : a_Fd "ModuleSigner$Signer" 95 3 3 2 := ⟨by decide, by decide, rfl, List.mem_append_right _ (List.mem_of_getElem? (i := 235) (by decide +kernel))⟩
theorem cs_Si_readSecret_16 : a_CV M_Si_readSecret M_Sa_matrix 98 8 4 0 3 := ⟨⟨ok_Sa_matrix, by decide, by decide, by decide⟩, by decide, rfl, List.mem_append_right _ (List.mem_of_getElem? (i := 816) (by decide +kernel)), List.mem_append_right _ (List.mem_of_getElem? (i := 656) (by decide +kernel)), List.mem_append_right _ (List.mem_of_getElem? (i := 657) (by decide +kernel)), by decide +kernel⟩
theorem fd_Si_56 : a_Fd "ModuleSigner$Signer" 56 2 1 0 := ⟨by decide, by decide, rfl, List.mem_append_right _ (List.mem_of_getElem? (i := 89) (by decide +kernel))⟩
theorem fd_Si_103 : a_Fd "ModuleSigner$Signer" 103 2 10 0 := ⟨by decide, by decide, rfl, List.mem_append_right _ (List.mem_of_getElem? (i := 114) (by decide +kernel))⟩
theorem fd_Si_106 : a_Fd "ModuleSigner$Signer" 106 2 2 0 := ⟨by decide, by decide, rfl, List.mem_append_right _ (List.mem_of_getElem? (i := 93) (by decide +kernel))⟩
theorem fd_Si_109 : a_Fd "ModuleSigner$Signer" 109 3 4 2 := ⟨by decide, by decide, rfl, List.mem_append_right _ (List.mem_of_getElem? (i := 239) (by decide +kernel))⟩
theorem cs_Si_readSecret_56 : a_CV M_Si_readSecret M_Si_readMirrored 112 5 6 0 5 := ⟨⟨ok_Si_readMirrored, by decide, by decide, by decide⟩, by decide, rfl, List.mem_append_right _ (List.mem_of_getElem? (i := 817) (by decide +kernel)), List.mem_append_right _ (List.mem_of_getElem? (i := 819) (by decide +kernel)), List.mem_append_left _ (List.mem_of_getElem? (i := 14) (by decide +kernel)), by decide +kernel⟩
theorem cs_Si_readSecret_64 : a_CS M_Si_readSecret M_Ri_packedSize 116 1 1 1 := ⟨⟨ok_Ri_packedSize, by decide, by decide, by decide⟩, List.mem_append_right _ (List.mem_of_getElem? (i := 827) (by decide +kernel)), List.mem_append_right _ (List.mem_of_getElem? (i := 78) (by decide +kernel)), by decide +kernel⟩
theorem fd_Si_120 : a_Fd "ModuleSigner$Signer" 120 2 0 0 := ⟨by decide, by decide, rfl, List.mem_append_right _ (List.mem_of_getElem? (i := 85) (by decide +kernel))⟩
theorem fd_Si_123 : a_Fd "ModuleSigner$Signer" 123 3 5 2 := ⟨by decide, by decide, rfl, List.mem_append_right _ (List.mem_of_getElem? (i := 242) (by decide +kernel))⟩
theorem cs_Si_readSecret_108 : a_CV M_Si_readSecret M_Si_readMirrored 112 5 6 0 5 := ⟨⟨ok_Si_readMirrored, by decide, by decide, by decide⟩, by decide, rfl, List.mem_append_right _ (List.mem_of_getElem? (i := 817) (by decide +kernel)), List.mem_append_right _ (List.mem_of_getElem? (i := 819) (by decide +kernel)), List.mem_append_left _ (List.mem_of_getElem? (i := 14) (by decide +kernel)), by decide +kernel⟩
theorem cs_Si_readSecret_116 : a_CS M_Si_readSecret M_Ri_packedSize 116 1 1 1 := ⟨⟨ok_Ri_packedSize, by decide, by decide, by decide⟩, List.mem_append_right _ (List.mem_of_getElem? (i := 827) (by decide +kernel)), List.mem_append_right _ (List.mem_of_getElem? (i := 78) (by decide +kernel)), by decide +kernel⟩
theorem cs_Si_readSecret_154 : a_CV M_Si_readSecret M_Si_readMirrored 112 5 6 0 5 := ⟨⟨ok_Si_readMirrored, by decide, by decide, by decide⟩, by decide, rfl, List.mem_append_right _ (List.mem_of_getElem? (i := 817) (by decide +kernel)), List.mem_append_right _ (List.mem_of_getElem? (i := 819) (by decide +kernel)), List.mem_append_left _ (List.mem_of_getElem? (i := 14) (by decide +kernel)), by decide +kernel⟩
theorem cs_Si_readSecret_160 : a_CS M_Si_readSecret M_Ri_packedSize 116 1 1 1 := ⟨⟨ok_Ri_packedSize, by decide, by decide, by decide⟩, List.mem_append_right _ (List.mem_of_getElem? (i := 827) (by decide +kernel)), List.mem_append_right _ (List.mem_of_getElem? (i := 78) (by decide +kernel)), by decide +kernel⟩
def M_Be_digestSigned : a_M := (⟨"ModuleSigner$Bench", "digestSigned", "(LModuleSigner$Bytes;I[LModuleSigner$Bytes;I)V"⟩, prog_2_method_4_code, 5, none, "ModuleSigner$Bench", 3, 50, [])
theorem ok_Be_digestSigned : a_Ok M_Be_digestSigned := ⟨rfl, by decide +kernel, ⟨by decide, by decide⟩, List.mem_append_right _ (List.mem_of_getElem? (i := 5) (by decide +kernel)), Or.inl ⟨rfl, List.mem_append_right _ (List.mem_of_getElem? (i := 831) (by decide +kernel))⟩⟩
theorem d_Be_digestSigned_0 : decode (a_cc M_Be_digestSigned) 0 = .ok (.aload_n 0, 1) := by decide +kernel
theorem d_Be_digestSigned_1 : decode (a_cc M_Be_digestSigned) 1 = .ok (.getfield 22, 3) := by decide +kernel
theorem d_Be_digestSigned_4 : decode (a_cc M_Be_digestSigned) 4 = .ok (.invokevirtual 90, 3) := by decide +kernel
theorem d_Be_digestSigned_7 : decode (a_cc M_Be_digestSigned) 7 = .ok (.aload_n 0, 1) := by decide +kernel
theorem d_Be_digestSigned_8 : decode (a_cc M_Be_digestSigned) 8 = .ok (.getfield 22, 3) := by decide +kernel
theorem d_Be_digestSigned_11 : decode (a_cc M_Be_digestSigned) 11 = .ok (.aload_n 1, 1) := by decide +kernel
theorem d_Be_digestSigned_12 : decode (a_cc M_Be_digestSigned) 12 = .ok (.iload_n 2, 1) := by decide +kernel
theorem d_Be_digestSigned_13 : decode (a_cc M_Be_digestSigned) 13 = .ok (.bipush 64, 2) := by decide +kernel
theorem d_Be_digestSigned_15 : decode (a_cc M_Be_digestSigned) 15 = .ok (.invokevirtual 95, 3) := by decide +kernel
theorem d_Be_digestSigned_18 : decode (a_cc M_Be_digestSigned) 18 = .ok (.iload 4, 2) := by decide +kernel
theorem d_Be_digestSigned_20 : decode (a_cc M_Be_digestSigned) 20 = .ok (.ifCond .ne 41, 3) := by decide +kernel
theorem d_Be_digestSigned_23 : decode (a_cc M_Be_digestSigned) 23 = .ok (.aload_n 0, 1) := by decide +kernel
theorem d_Be_digestSigned_24 : decode (a_cc M_Be_digestSigned) 24 = .ok (.getfield 22, 3) := by decide +kernel
theorem d_Be_digestSigned_27 : decode (a_cc M_Be_digestSigned) 27 = .ok (.iconst 0, 1) := by decide +kernel
theorem d_Be_digestSigned_28 : decode (a_cc M_Be_digestSigned) 28 = .ok (.invokevirtual 99, 3) := by decide +kernel
theorem d_Be_digestSigned_31 : decode (a_cc M_Be_digestSigned) 31 = .ok (.aload_n 0, 1) := by decide +kernel
theorem d_Be_digestSigned_32 : decode (a_cc M_Be_digestSigned) 32 = .ok (.getfield 22, 3) := by decide +kernel
theorem d_Be_digestSigned_35 : decode (a_cc M_Be_digestSigned) 35 = .ok (.aload_n 3, 1) := by decide +kernel
theorem d_Be_digestSigned_36 : decode (a_cc M_Be_digestSigned) 36 = .ok (.iconst 4, 1) := by decide +kernel
theorem d_Be_digestSigned_37 : decode (a_cc M_Be_digestSigned) 37 = .ok (.aaload, 1) := by decide +kernel
theorem d_Be_digestSigned_38 : decode (a_cc M_Be_digestSigned) 38 = .ok (.getfield 102, 3) := by decide +kernel
theorem d_Be_digestSigned_41 : decode (a_cc M_Be_digestSigned) 41 = .ok (.invokevirtual 99, 3) := by decide +kernel
theorem d_Be_digestSigned_44 : decode (a_cc M_Be_digestSigned) 44 = .ok (.aload_n 0, 1) := by decide +kernel
theorem d_Be_digestSigned_45 : decode (a_cc M_Be_digestSigned) 45 = .ok (.getfield 22, 3) := by decide +kernel
theorem d_Be_digestSigned_48 : decode (a_cc M_Be_digestSigned) 48 = .ok (.aload_n 3, 1) := by decide +kernel
theorem d_Be_digestSigned_49 : decode (a_cc M_Be_digestSigned) 49 = .ok (.iconst 4, 1) := by decide +kernel
theorem d_Be_digestSigned_50 : decode (a_cc M_Be_digestSigned) 50 = .ok (.aaload, 1) := by decide +kernel
theorem d_Be_digestSigned_51 : decode (a_cc M_Be_digestSigned) 51 = .ok (.iconst 0, 1) := by decide +kernel
theorem d_Be_digestSigned_52 : decode (a_cc M_Be_digestSigned) 52 = .ok (.aload_n 3, 1) := by decide +kernel
theorem d_Be_digestSigned_53 : decode (a_cc M_Be_digestSigned) 53 = .ok (.iconst 4, 1) := by decide +kernel
theorem d_Be_digestSigned_54 : decode (a_cc M_Be_digestSigned) 54 = .ok (.aaload, 1) := by decide +kernel
theorem d_Be_digestSigned_55 : decode (a_cc M_Be_digestSigned) 55 = .ok (.getfield 102, 3) := by decide +kernel
theorem d_Be_digestSigned_58 : decode (a_cc M_Be_digestSigned) 58 = .ok (.invokevirtual 95, 3) := by decide +kernel
theorem d_Be_digestSigned_61 : decode (a_cc M_Be_digestSigned) 61 = .ok (.aload_n 0, 1) := by decide +kernel
theorem d_Be_digestSigned_62 : decode (a_cc M_Be_digestSigned) 62 = .ok (.getfield 22, 3) := by decide +kernel
theorem d_Be_digestSigned_65 : decode (a_cc M_Be_digestSigned) 65 = .ok (.aload_n 3, 1) := by decide +kernel
theorem d_Be_digestSigned_66 : decode (a_cc M_Be_digestSigned) 66 = .ok (.iconst 3, 1) := by decide +kernel
theorem d_Be_digestSigned_67 : decode (a_cc M_Be_digestSigned) 67 = .ok (.aaload, 1) := by decide +kernel
theorem d_Be_digestSigned_68 : decode (a_cc M_Be_digestSigned) 68 = .ok (.iconst 0, 1) := by decide +kernel
theorem d_Be_digestSigned_69 : decode (a_cc M_Be_digestSigned) 69 = .ok (.aload_n 3, 1) := by decide +kernel
theorem d_Be_digestSigned_70 : decode (a_cc M_Be_digestSigned) 70 = .ok (.iconst 3, 1) := by decide +kernel
theorem d_Be_digestSigned_71 : decode (a_cc M_Be_digestSigned) 71 = .ok (.aaload, 1) := by decide +kernel
theorem d_Be_digestSigned_72 : decode (a_cc M_Be_digestSigned) 72 = .ok (.getfield 102, 3) := by decide +kernel
theorem d_Be_digestSigned_75 : decode (a_cc M_Be_digestSigned) 75 = .ok (.invokevirtual 95, 3) := by decide +kernel
theorem d_Be_digestSigned_78 : decode (a_cc M_Be_digestSigned) 78 = .ok (.aload_n 0, 1) := by decide +kernel
theorem d_Be_digestSigned_79 : decode (a_cc M_Be_digestSigned) 79 = .ok (.getfield 22, 3) := by decide +kernel
theorem d_Be_digestSigned_82 : decode (a_cc M_Be_digestSigned) 82 = .ok (.invokevirtual 105, 3) := by decide +kernel
theorem d_Be_digestSigned_85 : decode (a_cc M_Be_digestSigned) 85 = .ok (.aload_n 0, 1) := by decide +kernel
theorem d_Be_digestSigned_86 : decode (a_cc M_Be_digestSigned) 86 = .ok (.getfield 22, 3) := by decide +kernel
theorem d_Be_digestSigned_89 : decode (a_cc M_Be_digestSigned) 89 = .ok (.aload_n 0, 1) := by decide +kernel
theorem d_Be_digestSigned_90 : decode (a_cc M_Be_digestSigned) 90 = .ok (.getfield 59, 3) := by decide +kernel
theorem d_Be_digestSigned_93 : decode (a_cc M_Be_digestSigned) 93 = .ok (.bipush 64, 2) := by decide +kernel
theorem d_Be_digestSigned_95 : decode (a_cc M_Be_digestSigned) 95 = .ok (.invokevirtual 108, 3) := by decide +kernel
theorem d_Be_digestSigned_98 : decode (a_cc M_Be_digestSigned) 98 = .ok (.return_, 1) := by decide +kernel
theorem cs_Be_digestSigned_4 : a_CV M_Be_digestSigned M_Sp_start256 90 7 1 0 0 := ⟨⟨ok_Sp_start256, by decide, by decide, by decide⟩, by decide, rfl, List.mem_append_right _ (List.mem_of_getElem? (i := 832) (by decide +kernel)), List.mem_append_right _ (List.mem_of_getElem? (i := 604) (by decide +kernel)), List.mem_append_right _ (List.mem_of_getElem? (i := 605) (by decide +kernel)), by decide +kernel⟩
theorem cs_Be_digestSigned_15 : a_CV M_Be_digestSigned M_Sp_takePart 95 7 4 0 3 := ⟨⟨ok_Sp_takePart, by decide, by decide, by decide⟩, by decide, rfl, List.mem_append_right _ (List.mem_of_getElem? (i := 833) (by decide +kernel)), List.mem_append_right _ (List.mem_of_getElem? (i := 612) (by decide +kernel)), List.mem_append_right _ (List.mem_of_getElem? (i := 613) (by decide +kernel)), by decide +kernel⟩
theorem cs_Be_digestSigned_28 : a_CV M_Be_digestSigned M_Sp_take 99 7 2 0 1 := ⟨⟨ok_Sp_take, by decide, by decide, by decide⟩, by decide, rfl, List.mem_append_right _ (List.mem_of_getElem? (i := 834) (by decide +kernel)), List.mem_append_right _ (List.mem_of_getElem? (i := 617) (by decide +kernel)), List.mem_append_right _ (List.mem_of_getElem? (i := 618) (by decide +kernel)), by decide +kernel⟩
theorem fd_Be_102 : a_Fd "ModuleSigner$Bench" 102 1 1 0 := ⟨by decide, by decide, rfl, List.mem_append_right _ (List.mem_of_getElem? (i := 42) (by decide +kernel))⟩
theorem cs_Be_digestSigned_41 : a_CV M_Be_digestSigned M_Sp_take 99 7 2 0 1 := ⟨⟨ok_Sp_take, by decide, by decide, by decide⟩, by decide, rfl, List.mem_append_right _ (List.mem_of_getElem? (i := 834) (by decide +kernel)), List.mem_append_right _ (List.mem_of_getElem? (i := 617) (by decide +kernel)), List.mem_append_right _ (List.mem_of_getElem? (i := 618) (by decide +kernel)), by decide +kernel⟩
theorem cs_Be_digestSigned_58 : a_CV M_Be_digestSigned M_Sp_takePart 95 7 4 0 3 := ⟨⟨ok_Sp_takePart, by decide, by decide, by decide⟩, by decide, rfl, List.mem_append_right _ (List.mem_of_getElem? (i := 833) (by decide +kernel)), List.mem_append_right _ (List.mem_of_getElem? (i := 612) (by decide +kernel)), List.mem_append_right _ (List.mem_of_getElem? (i := 613) (by decide +kernel)), by decide +kernel⟩
theorem cs_Be_digestSigned_75 : a_CV M_Be_digestSigned M_Sp_takePart 95 7 4 0 3 := ⟨⟨ok_Sp_takePart, by decide, by decide, by decide⟩, by decide, rfl, List.mem_append_right _ (List.mem_of_getElem? (i := 833) (by decide +kernel)), List.mem_append_right _ (List.mem_of_getElem? (i := 612) (by decide +kernel)), List.mem_append_right _ (List.mem_of_getElem? (i := 613) (by decide +kernel)), by decide +kernel⟩
theorem cs_Be_digestSigned_82 : a_CV M_Be_digestSigned M_Sp_turn 105 7 1 0 0 := ⟨⟨ok_Sp_turn, by decide, by decide, by decide⟩, by decide, rfl, List.mem_append_right _ (List.mem_of_getElem? (i := 835) (by decide +kernel)), List.mem_append_right _ (List.mem_of_getElem? (i := 638) (by decide +kernel)), List.mem_append_right _ (List.mem_of_getElem? (i := 639) (by decide +kernel)), by decide +kernel⟩
theorem cs_Be_digestSigned_95 : a_CV M_Be_digestSigned M_Sp_giveTo 108 7 3 0 2 := ⟨⟨ok_Sp_giveTo, by decide, by decide, by decide⟩, by decide, rfl, List.mem_append_right _ (List.mem_of_getElem? (i := 836) (by decide +kernel)), List.mem_append_right _ (List.mem_of_getElem? (i := 642) (by decide +kernel)), List.mem_append_right _ (List.mem_of_getElem? (i := 643) (by decide +kernel)), by decide +kernel⟩
def M_Si_drawMaskSeed : a_M := (⟨"ModuleSigner$Signer", "drawMaskSeed", "(LModuleSigner$Bytes;LModuleSigner$Bytes;)V"⟩, prog_8_method_5_code, 3, none, "ModuleSigner$Signer", 3, 50, [])
theorem ok_Si_drawMaskSeed : a_Ok M_Si_drawMaskSeed := ⟨rfl, by decide +kernel, ⟨by decide, by decide⟩, List.mem_append_right _ (List.mem_of_getElem? (i := 9) (by decide +kernel)), Or.inl ⟨rfl, List.mem_append_right _ (List.mem_of_getElem? (i := 840) (by decide +kernel))⟩⟩
theorem d_Si_drawMaskSeed_0 : decode (a_cc M_Si_drawMaskSeed) 0 = .ok (.aload_n 0, 1) := by decide +kernel
theorem d_Si_drawMaskSeed_1 : decode (a_cc M_Si_drawMaskSeed) 1 = .ok (.getfield 38, 3) := by decide +kernel
theorem d_Si_drawMaskSeed_4 : decode (a_cc M_Si_drawMaskSeed) 4 = .ok (.getfield 142, 3) := by decide +kernel
theorem d_Si_drawMaskSeed_7 : decode (a_cc M_Si_drawMaskSeed) 7 = .ok (.invokevirtual 146, 3) := by decide +kernel
theorem d_Si_drawMaskSeed_10 : decode (a_cc M_Si_drawMaskSeed) 10 = .ok (.aload_n 0, 1) := by decide +kernel
theorem d_Si_drawMaskSeed_11 : decode (a_cc M_Si_drawMaskSeed) 11 = .ok (.getfield 38, 3) := by decide +kernel
theorem d_Si_drawMaskSeed_14 : decode (a_cc M_Si_drawMaskSeed) 14 = .ok (.getfield 142, 3) := by decide +kernel
theorem d_Si_drawMaskSeed_17 : decode (a_cc M_Si_drawMaskSeed) 17 = .ok (.aload_n 1, 1) := by decide +kernel
theorem d_Si_drawMaskSeed_18 : decode (a_cc M_Si_drawMaskSeed) 18 = .ok (.bipush 32, 2) := by decide +kernel
theorem d_Si_drawMaskSeed_20 : decode (a_cc M_Si_drawMaskSeed) 20 = .ok (.bipush 32, 2) := by decide +kernel
theorem d_Si_drawMaskSeed_22 : decode (a_cc M_Si_drawMaskSeed) 22 = .ok (.invokevirtual 151, 3) := by decide +kernel
theorem d_Si_drawMaskSeed_25 : decode (a_cc M_Si_drawMaskSeed) 25 = .ok (.aload_n 0, 1) := by decide +kernel
theorem d_Si_drawMaskSeed_26 : decode (a_cc M_Si_drawMaskSeed) 26 = .ok (.getfield 38, 3) := by decide +kernel
theorem d_Si_drawMaskSeed_29 : decode (a_cc M_Si_drawMaskSeed) 29 = .ok (.getfield 142, 3) := by decide +kernel
theorem d_Si_drawMaskSeed_32 : decode (a_cc M_Si_drawMaskSeed) 32 = .ok (.aload_n 2, 1) := by decide +kernel
theorem d_Si_drawMaskSeed_33 : decode (a_cc M_Si_drawMaskSeed) 33 = .ok (.iconst 0, 1) := by decide +kernel
theorem d_Si_drawMaskSeed_34 : decode (a_cc M_Si_drawMaskSeed) 34 = .ok (.bipush 32, 2) := by decide +kernel
theorem d_Si_drawMaskSeed_36 : decode (a_cc M_Si_drawMaskSeed) 36 = .ok (.invokevirtual 151, 3) := by decide +kernel
theorem d_Si_drawMaskSeed_39 : decode (a_cc M_Si_drawMaskSeed) 39 = .ok (.aload_n 0, 1) := by decide +kernel
theorem d_Si_drawMaskSeed_40 : decode (a_cc M_Si_drawMaskSeed) 40 = .ok (.getfield 38, 3) := by decide +kernel
theorem d_Si_drawMaskSeed_43 : decode (a_cc M_Si_drawMaskSeed) 43 = .ok (.getfield 142, 3) := by decide +kernel
theorem d_Si_drawMaskSeed_46 : decode (a_cc M_Si_drawMaskSeed) 46 = .ok (.aload_n 0, 1) := by decide +kernel
theorem d_Si_drawMaskSeed_47 : decode (a_cc M_Si_drawMaskSeed) 47 = .ok (.getfield 38, 3) := by decide +kernel
theorem d_Si_drawMaskSeed_50 : decode (a_cc M_Si_drawMaskSeed) 50 = .ok (.getfield 155, 3) := by decide +kernel
theorem d_Si_drawMaskSeed_53 : decode (a_cc M_Si_drawMaskSeed) 53 = .ok (.iconst 0, 1) := by decide +kernel
theorem d_Si_drawMaskSeed_54 : decode (a_cc M_Si_drawMaskSeed) 54 = .ok (.bipush 64, 2) := by decide +kernel
theorem d_Si_drawMaskSeed_56 : decode (a_cc M_Si_drawMaskSeed) 56 = .ok (.invokevirtual 151, 3) := by decide +kernel
theorem d_Si_drawMaskSeed_59 : decode (a_cc M_Si_drawMaskSeed) 59 = .ok (.aload_n 0, 1) := by decide +kernel
theorem d_Si_drawMaskSeed_60 : decode (a_cc M_Si_drawMaskSeed) 60 = .ok (.getfield 38, 3) := by decide +kernel
theorem d_Si_drawMaskSeed_63 : decode (a_cc M_Si_drawMaskSeed) 63 = .ok (.getfield 142, 3) := by decide +kernel
theorem d_Si_drawMaskSeed_66 : decode (a_cc M_Si_drawMaskSeed) 66 = .ok (.invokevirtual 158, 3) := by decide +kernel
theorem d_Si_drawMaskSeed_69 : decode (a_cc M_Si_drawMaskSeed) 69 = .ok (.aload_n 0, 1) := by decide +kernel
theorem d_Si_drawMaskSeed_70 : decode (a_cc M_Si_drawMaskSeed) 70 = .ok (.getfield 38, 3) := by decide +kernel
theorem d_Si_drawMaskSeed_73 : decode (a_cc M_Si_drawMaskSeed) 73 = .ok (.getfield 142, 3) := by decide +kernel
theorem d_Si_drawMaskSeed_76 : decode (a_cc M_Si_drawMaskSeed) 76 = .ok (.aload_n 0, 1) := by decide +kernel
theorem d_Si_drawMaskSeed_77 : decode (a_cc M_Si_drawMaskSeed) 77 = .ok (.getfield 28, 3) := by decide +kernel
theorem d_Si_drawMaskSeed_80 : decode (a_cc M_Si_drawMaskSeed) 80 = .ok (.bipush 64, 2) := by decide +kernel
theorem d_Si_drawMaskSeed_82 : decode (a_cc M_Si_drawMaskSeed) 82 = .ok (.invokevirtual 161, 3) := by decide +kernel
theorem d_Si_drawMaskSeed_85 : decode (a_cc M_Si_drawMaskSeed) 85 = .ok (.return_, 1) := by decide +kernel
theorem fd_Si_142 : a_Fd "ModuleSigner$Signer" 142 3 1 2 := ⟨by decide, by decide, rfl, List.mem_append_right _ (List.mem_of_getElem? (i := 228) (by decide +kernel))⟩
theorem cs_Si_drawMaskSeed_7 : a_CV M_Si_drawMaskSeed M_Sp_start256 146 7 1 0 0 := ⟨⟨ok_Sp_start256, by decide, by decide, by decide⟩, by decide, rfl, List.mem_append_right _ (List.mem_of_getElem? (i := 841) (by decide +kernel)), List.mem_append_right _ (List.mem_of_getElem? (i := 604) (by decide +kernel)), List.mem_append_right _ (List.mem_of_getElem? (i := 605) (by decide +kernel)), by decide +kernel⟩
theorem cs_Si_drawMaskSeed_22 : a_CV M_Si_drawMaskSeed M_Sp_takePart 151 7 4 0 3 := ⟨⟨ok_Sp_takePart, by decide, by decide, by decide⟩, by decide, rfl, List.mem_append_right _ (List.mem_of_getElem? (i := 842) (by decide +kernel)), List.mem_append_right _ (List.mem_of_getElem? (i := 612) (by decide +kernel)), List.mem_append_right _ (List.mem_of_getElem? (i := 613) (by decide +kernel)), by decide +kernel⟩
theorem cs_Si_drawMaskSeed_36 : a_CV M_Si_drawMaskSeed M_Sp_takePart 151 7 4 0 3 := ⟨⟨ok_Sp_takePart, by decide, by decide, by decide⟩, by decide, rfl, List.mem_append_right _ (List.mem_of_getElem? (i := 842) (by decide +kernel)), List.mem_append_right _ (List.mem_of_getElem? (i := 612) (by decide +kernel)), List.mem_append_right _ (List.mem_of_getElem? (i := 613) (by decide +kernel)), by decide +kernel⟩
theorem fd_Si_155 : a_Fd "ModuleSigner$Signer" 155 3 10 2 := ⟨by decide, by decide, rfl, List.mem_append_right _ (List.mem_of_getElem? (i := 259) (by decide +kernel))⟩
theorem cs_Si_drawMaskSeed_56 : a_CV M_Si_drawMaskSeed M_Sp_takePart 151 7 4 0 3 := ⟨⟨ok_Sp_takePart, by decide, by decide, by decide⟩, by decide, rfl, List.mem_append_right _ (List.mem_of_getElem? (i := 842) (by decide +kernel)), List.mem_append_right _ (List.mem_of_getElem? (i := 612) (by decide +kernel)), List.mem_append_right _ (List.mem_of_getElem? (i := 613) (by decide +kernel)), by decide +kernel⟩
theorem cs_Si_drawMaskSeed_66 : a_CV M_Si_drawMaskSeed M_Sp_turn 158 7 1 0 0 := ⟨⟨ok_Sp_turn, by decide, by decide, by decide⟩, by decide, rfl, List.mem_append_right _ (List.mem_of_getElem? (i := 843) (by decide +kernel)), List.mem_append_right _ (List.mem_of_getElem? (i := 638) (by decide +kernel)), List.mem_append_right _ (List.mem_of_getElem? (i := 639) (by decide +kernel)), by decide +kernel⟩
theorem cs_Si_drawMaskSeed_82 : a_CV M_Si_drawMaskSeed M_Sp_giveTo 161 7 3 0 2 := ⟨⟨ok_Sp_giveTo, by decide, by decide, by decide⟩, by decide, rfl, List.mem_append_right _ (List.mem_of_getElem? (i := 844) (by decide +kernel)), List.mem_append_right _ (List.mem_of_getElem? (i := 642) (by decide +kernel)), List.mem_append_right _ (List.mem_of_getElem? (i := 643) (by decide +kernel)), by decide +kernel⟩
def M_Sa_mask : a_M := (⟨"ModuleSigner$Sampler", "mask", "(LModuleSigner$Parameters;LModuleSigner$Bytes;[I)V"⟩, prog_7_method_7_code, 4, none, "ModuleSigner$Sampler", 3, 50, [])
theorem ok_Sa_mask : a_Ok M_Sa_mask := ⟨rfl, by decide +kernel, ⟨by decide, by decide⟩, List.mem_append_right _ (List.mem_of_getElem? (i := 6) (by decide +kernel)), Or.inl ⟨rfl, List.mem_append_right _ (List.mem_of_getElem? (i := 853) (by decide +kernel))⟩⟩
theorem d_Sa_mask_0 : decode (a_cc M_Sa_mask) 0 = .ok (.aload_n 0, 1) := by decide +kernel
theorem d_Sa_mask_1 : decode (a_cc M_Sa_mask) 1 = .ok (.getfield 12, 3) := by decide +kernel
theorem d_Sa_mask_4 : decode (a_cc M_Sa_mask) 4 = .ok (.aload_n 2, 1) := by decide +kernel
theorem d_Sa_mask_5 : decode (a_cc M_Sa_mask) 5 = .ok (.aload_n 1, 1) := by decide +kernel
theorem d_Sa_mask_6 : decode (a_cc M_Sa_mask) 6 = .ok (.getfield 80, 3) := by decide +kernel
theorem d_Sa_mask_9 : decode (a_cc M_Sa_mask) 9 = .ok (.invokestatic 83, 3) := by decide +kernel
theorem d_Sa_mask_12 : decode (a_cc M_Sa_mask) 12 = .ok (.invokevirtual 87, 3) := by decide +kernel
theorem d_Sa_mask_15 : decode (a_cc M_Sa_mask) 15 = .ok (.aload_n 2, 1) := by decide +kernel
theorem d_Sa_mask_16 : decode (a_cc M_Sa_mask) 16 = .ok (.iconst 0, 1) := by decide +kernel
theorem d_Sa_mask_17 : decode (a_cc M_Sa_mask) 17 = .ok (.aload_n 1, 1) := by decide +kernel
theorem d_Sa_mask_18 : decode (a_cc M_Sa_mask) 18 = .ok (.getfield 80, 3) := by decide +kernel
theorem d_Sa_mask_21 : decode (a_cc M_Sa_mask) 21 = .ok (.aload_n 3, 1) := by decide +kernel
theorem d_Sa_mask_22 : decode (a_cc M_Sa_mask) 22 = .ok (.invokevirtual 91, 3) := by decide +kernel
theorem d_Sa_mask_25 : decode (a_cc M_Sa_mask) 25 = .ok (.aload_n 3, 1) := by decide +kernel
theorem d_Sa_mask_26 : decode (a_cc M_Sa_mask) 26 = .ok (.aload_n 1, 1) := by decide +kernel
theorem d_Sa_mask_27 : decode (a_cc M_Sa_mask) 27 = .ok (.getfield 95, 3) := by decide +kernel
theorem d_Sa_mask_30 : decode (a_cc M_Sa_mask) 30 = .ok (.invokestatic 98, 3) := by decide +kernel
theorem d_Sa_mask_33 : decode (a_cc M_Sa_mask) 33 = .ok (.return_, 1) := by decide +kernel
theorem fd_Sa_80 : a_Fd "ModuleSigner$Sampler" 80 2 11 0 := ⟨by decide, by decide, rfl, List.mem_append_right _ (List.mem_of_getElem? (i := 117) (by decide +kernel))⟩
theorem cs_Sa_mask_9 : a_CS M_Sa_mask M_Ri_packedSize 83 1 2 1 := ⟨⟨ok_Ri_packedSize, by decide, by decide, by decide⟩, List.mem_append_right _ (List.mem_of_getElem? (i := 854) (by decide +kernel)), List.mem_append_right _ (List.mem_of_getElem? (i := 78) (by decide +kernel)), by decide +kernel⟩
theorem cs_Sa_mask_12 : a_CV M_Sa_mask M_Sp_giveTo 87 7 3 0 2 := ⟨⟨ok_Sp_giveTo, by decide, by decide, by decide⟩, by decide, rfl, List.mem_append_right _ (List.mem_of_getElem? (i := 855) (by decide +kernel)), List.mem_append_right _ (List.mem_of_getElem? (i := 642) (by decide +kernel)), List.mem_append_right _ (List.mem_of_getElem? (i := 643) (by decide +kernel)), by decide +kernel⟩
theorem cs_Sa_mask_22 : a_CV M_Sa_mask M_By_readBits 91 1 4 0 3 := ⟨⟨ok_By_readBits, by decide, by decide, by decide⟩, by decide, rfl, List.mem_append_right _ (List.mem_of_getElem? (i := 856) (by decide +kernel)), List.mem_append_right _ (List.mem_of_getElem? (i := 822) (by decide +kernel)), List.mem_append_right _ (List.mem_of_getElem? (i := 823) (by decide +kernel)), by decide +kernel⟩
theorem fd_Sa_95 : a_Fd "ModuleSigner$Sampler" 95 2 4 0 := ⟨by decide, by decide, rfl, List.mem_append_right _ (List.mem_of_getElem? (i := 98) (by decide +kernel))⟩
theorem cs_Sa_mask_30 : a_CS M_Sa_mask M_Ri_mirror 98 2 0 2 := ⟨⟨ok_Ri_mirror, by decide, by decide, by decide⟩, List.mem_append_right _ (List.mem_of_getElem? (i := 857) (by decide +kernel)), List.mem_append_right _ (List.mem_of_getElem? (i := 772) (by decide +kernel)), by decide +kernel⟩
def M_Si_drawMasks : a_M := (⟨"ModuleSigner$Signer", "drawMasks", "(LModuleSigner$Parameters;I)V"⟩, prog_8_method_6_code, 4, none, "ModuleSigner$Signer", 4, 65, [])
theorem ok_Si_drawMasks : a_Ok M_Si_drawMasks := ⟨rfl, by decide +kernel, ⟨by decide, by decide⟩, List.mem_append_right _ (List.mem_of_getElem? (i := 9) (by decide +kernel)), Or.inl ⟨rfl, List.mem_append_right _ (List.mem_of_getElem? (i := 848) (by decide +kernel))⟩⟩
theorem d_Si_drawMasks_0 : decode (a_cc M_Si_drawMasks) 0 = .ok (.iconst 0, 1) := by decide +kernel
theorem d_Si_drawMasks_1 : decode (a_cc M_Si_drawMasks) 1 = .ok (.istore_n 3, 1) := by decide +kernel
theorem d_Si_drawMasks_2 : decode (a_cc M_Si_drawMasks) 2 = .ok (.iload_n 3, 1) := by decide +kernel
theorem d_Si_drawMasks_3 : decode (a_cc M_Si_drawMasks) 3 = .ok (.aload_n 1, 1) := by decide +kernel
theorem d_Si_drawMasks_4 : decode (a_cc M_Si_drawMasks) 4 = .ok (.getfield 56, 3) := by decide +kernel
theorem d_Si_drawMasks_7 : decode (a_cc M_Si_drawMasks) 7 = .ok (.if_icmp .ge 88, 3) := by decide +kernel
theorem d_Si_drawMasks_10 : decode (a_cc M_Si_drawMasks) 10 = .ok (.aload_n 0, 1) := by decide +kernel
theorem d_Si_drawMasks_11 : decode (a_cc M_Si_drawMasks) 11 = .ok (.getfield 38, 3) := by decide +kernel
theorem d_Si_drawMasks_14 : decode (a_cc M_Si_drawMasks) 14 = .ok (.getfield 91, 3) := by decide +kernel
theorem d_Si_drawMasks_17 : decode (a_cc M_Si_drawMasks) 17 = .ok (.aload_n 0, 1) := by decide +kernel
theorem d_Si_drawMasks_18 : decode (a_cc M_Si_drawMasks) 18 = .ok (.getfield 28, 3) := by decide +kernel
theorem d_Si_drawMasks_21 : decode (a_cc M_Si_drawMasks) 21 = .ok (.iconst 0, 1) := by decide +kernel
theorem d_Si_drawMasks_22 : decode (a_cc M_Si_drawMasks) 22 = .ok (.iload_n 2, 1) := by decide +kernel
theorem d_Si_drawMasks_23 : decode (a_cc M_Si_drawMasks) 23 = .ok (.iload_n 3, 1) := by decide +kernel
theorem d_Si_drawMasks_24 : decode (a_cc M_Si_drawMasks) 24 = .ok (.iadd, 1) := by decide +kernel
theorem d_Si_drawMasks_25 : decode (a_cc M_Si_drawMasks) 25 = .ok (.invokevirtual 165, 3) := by decide +kernel
theorem d_Si_drawMasks_28 : decode (a_cc M_Si_drawMasks) 28 = .ok (.aload_n 0, 1) := by decide +kernel
theorem d_Si_drawMasks_29 : decode (a_cc M_Si_drawMasks) 29 = .ok (.getfield 38, 3) := by decide +kernel
theorem d_Si_drawMasks_32 : decode (a_cc M_Si_drawMasks) 32 = .ok (.getfield 91, 3) := by decide +kernel
theorem d_Si_drawMasks_35 : decode (a_cc M_Si_drawMasks) 35 = .ok (.aload_n 1, 1) := by decide +kernel
theorem d_Si_drawMasks_36 : decode (a_cc M_Si_drawMasks) 36 = .ok (.aload_n 0, 1) := by decide +kernel
theorem d_Si_drawMasks_37 : decode (a_cc M_Si_drawMasks) 37 = .ok (.getfield 38, 3) := by decide +kernel
theorem d_Si_drawMasks_40 : decode (a_cc M_Si_drawMasks) 40 = .ok (.getfield 168, 3) := by decide +kernel
theorem d_Si_drawMasks_43 : decode (a_cc M_Si_drawMasks) 43 = .ok (.aload_n 0, 1) := by decide +kernel
theorem d_Si_drawMasks_44 : decode (a_cc M_Si_drawMasks) 44 = .ok (.getfield 20, 3) := by decide +kernel
theorem d_Si_drawMasks_47 : decode (a_cc M_Si_drawMasks) 47 = .ok (.iload_n 3, 1) := by decide +kernel
theorem d_Si_drawMasks_48 : decode (a_cc M_Si_drawMasks) 48 = .ok (.aaload, 1) := by decide +kernel
theorem d_Si_drawMasks_49 : decode (a_cc M_Si_drawMasks) 49 = .ok (.invokevirtual 171, 3) := by decide +kernel
theorem d_Si_drawMasks_52 : decode (a_cc M_Si_drawMasks) 52 = .ok (.aload_n 0, 1) := by decide +kernel
theorem d_Si_drawMasks_53 : decode (a_cc M_Si_drawMasks) 53 = .ok (.getfield 20, 3) := by decide +kernel
theorem d_Si_drawMasks_56 : decode (a_cc M_Si_drawMasks) 56 = .ok (.iload_n 3, 1) := by decide +kernel
theorem d_Si_drawMasks_57 : decode (a_cc M_Si_drawMasks) 57 = .ok (.aaload, 1) := by decide +kernel
theorem d_Si_drawMasks_58 : decode (a_cc M_Si_drawMasks) 58 = .ok (.aload_n 0, 1) := by decide +kernel
theorem d_Si_drawMasks_59 : decode (a_cc M_Si_drawMasks) 59 = .ok (.getfield 38, 3) := by decide +kernel
theorem d_Si_drawMasks_62 : decode (a_cc M_Si_drawMasks) 62 = .ok (.getfield 175, 3) := by decide +kernel
theorem d_Si_drawMasks_65 : decode (a_cc M_Si_drawMasks) 65 = .ok (.iload_n 3, 1) := by decide +kernel
theorem d_Si_drawMasks_66 : decode (a_cc M_Si_drawMasks) 66 = .ok (.aaload, 1) := by decide +kernel
theorem d_Si_drawMasks_67 : decode (a_cc M_Si_drawMasks) 67 = .ok (.invokestatic 178, 3) := by decide +kernel
theorem d_Si_drawMasks_70 : decode (a_cc M_Si_drawMasks) 70 = .ok (.aload_n 0, 1) := by decide +kernel
theorem d_Si_drawMasks_71 : decode (a_cc M_Si_drawMasks) 71 = .ok (.getfield 38, 3) := by decide +kernel
theorem d_Si_drawMasks_74 : decode (a_cc M_Si_drawMasks) 74 = .ok (.getfield 134, 3) := by decide +kernel
theorem d_Si_drawMasks_77 : decode (a_cc M_Si_drawMasks) 77 = .ok (.aload_n 0, 1) := by decide +kernel
theorem d_Si_drawMasks_78 : decode (a_cc M_Si_drawMasks) 78 = .ok (.getfield 38, 3) := by decide +kernel
theorem d_Si_drawMasks_81 : decode (a_cc M_Si_drawMasks) 81 = .ok (.getfield 175, 3) := by decide +kernel
theorem d_Si_drawMasks_84 : decode (a_cc M_Si_drawMasks) 84 = .ok (.iload_n 3, 1) := by decide +kernel
theorem d_Si_drawMasks_85 : decode (a_cc M_Si_drawMasks) 85 = .ok (.aaload, 1) := by decide +kernel
theorem d_Si_drawMasks_86 : decode (a_cc M_Si_drawMasks) 86 = .ok (.invokevirtual 138, 3) := by decide +kernel
theorem d_Si_drawMasks_89 : decode (a_cc M_Si_drawMasks) 89 = .ok (.iinc 3 1, 3) := by decide +kernel
theorem d_Si_drawMasks_92 : decode (a_cc M_Si_drawMasks) 92 = .ok (.goto (-90), 3) := by decide +kernel
theorem d_Si_drawMasks_95 : decode (a_cc M_Si_drawMasks) 95 = .ok (.return_, 1) := by decide +kernel
theorem cs_Si_drawMasks_25 : a_CV M_Si_drawMasks M_Sa_takeNumbered 165 8 4 0 3 := ⟨⟨ok_Sa_takeNumbered, by decide, by decide, by decide⟩, by decide, rfl, List.mem_append_right _ (List.mem_of_getElem? (i := 849) (by decide +kernel)), List.mem_append_right _ (List.mem_of_getElem? (i := 689) (by decide +kernel)), List.mem_append_right _ (List.mem_of_getElem? (i := 690) (by decide +kernel)), by decide +kernel⟩
theorem fd_Si_168 : a_Fd "ModuleSigner$Signer" 168 3 12 2 := ⟨by decide, by decide, rfl, List.mem_append_right _ (List.mem_of_getElem? (i := 265) (by decide +kernel))⟩
theorem cs_Si_drawMasks_49 : a_CV M_Si_drawMasks M_Sa_mask 171 8 4 0 3 := ⟨⟨ok_Sa_mask, by decide, by decide, by decide⟩, by decide, rfl, List.mem_append_right _ (List.mem_of_getElem? (i := 850) (by decide +kernel)), List.mem_append_right _ (List.mem_of_getElem? (i := 851) (by decide +kernel)), List.mem_append_right _ (List.mem_of_getElem? (i := 852) (by decide +kernel)), by decide +kernel⟩
theorem fd_Si_175 : a_Fd "ModuleSigner$Signer" 175 3 6 2 := ⟨by decide, by decide, rfl, List.mem_append_right _ (List.mem_of_getElem? (i := 246) (by decide +kernel))⟩
theorem cs_Si_drawMasks_67 : a_CS M_Si_drawMasks M_Ri_copyRow 178 2 0 2 := ⟨⟨ok_Ri_copyRow, by decide, by decide, by decide⟩, List.mem_append_right _ (List.mem_of_getElem? (i := 858) (by decide +kernel)), List.mem_append_right _ (List.mem_of_getElem? (i := 710) (by decide +kernel)), by decide +kernel⟩
theorem cs_Si_drawMasks_86 : a_CV M_Si_drawMasks M_Ri_forward 138 9 2 0 1 := ⟨⟨ok_Ri_forward, by decide, by decide, by decide⟩, by decide, rfl, List.mem_append_right _ (List.mem_of_getElem? (i := 826) (by decide +kernel)), List.mem_append_right _ (List.mem_of_getElem? (i := 714) (by decide +kernel)), List.mem_append_right _ (List.mem_of_getElem? (i := 715) (by decide +kernel)), by decide +kernel⟩
def M_Pa_plainLow : a_M := (⟨"ModuleSigner$Parameters", "plainLow", "(I)I"⟩, prog_5_method_5_code, 3, some .int, "ModuleSigner$Parameters", 0, 0, [])
theorem ok_Pa_plainLow : a_Ok M_Pa_plainLow := ⟨rfl, by decide +kernel, ⟨by decide, by decide⟩, List.mem_append_right _ (List.mem_of_getElem? (i := 3) (by decide +kernel)), Or.inl ⟨rfl, List.mem_append_right _ (List.mem_of_getElem? (i := 873) (by decide +kernel))⟩⟩
theorem d_Pa_plainLow_0 : decode (a_cc M_Pa_plainLow) 0 = .ok (.iload_n 1, 1) := by decide +kernel
theorem d_Pa_plainLow_1 : decode (a_cc M_Pa_plainLow) 1 = .ok (.iconst 2, 1) := by decide +kernel
theorem d_Pa_plainLow_2 : decode (a_cc M_Pa_plainLow) 2 = .ok (.aload_n 0, 1) := by decide +kernel
theorem d_Pa_plainLow_3 : decode (a_cc M_Pa_plainLow) 3 = .ok (.getfield 52, 3) := by decide +kernel
theorem d_Pa_plainLow_6 : decode (a_cc M_Pa_plainLow) 6 = .ok (.imul, 1) := by decide +kernel
theorem d_Pa_plainLow_7 : decode (a_cc M_Pa_plainLow) 7 = .ok (.irem, 1) := by decide +kernel
theorem d_Pa_plainLow_8 : decode (a_cc M_Pa_plainLow) 8 = .ok (.istore_n 2, 1) := by decide +kernel
theorem d_Pa_plainLow_9 : decode (a_cc M_Pa_plainLow) 9 = .ok (.iload_n 2, 1) := by decide +kernel
theorem d_Pa_plainLow_10 : decode (a_cc M_Pa_plainLow) 10 = .ok (.aload_n 0, 1) := by decide +kernel
theorem d_Pa_plainLow_11 : decode (a_cc M_Pa_plainLow) 11 = .ok (.getfield 52, 3) := by decide +kernel
theorem d_Pa_plainLow_14 : decode (a_cc M_Pa_plainLow) 14 = .ok (.if_icmp .le 14, 3) := by decide +kernel
theorem d_Pa_plainLow_17 : decode (a_cc M_Pa_plainLow) 17 = .ok (.iload_n 2, 1) := by decide +kernel
theorem d_Pa_plainLow_18 : decode (a_cc M_Pa_plainLow) 18 = .ok (.iconst 2, 1) := by decide +kernel
theorem d_Pa_plainLow_19 : decode (a_cc M_Pa_plainLow) 19 = .ok (.aload_n 0, 1) := by decide +kernel
theorem d_Pa_plainLow_20 : decode (a_cc M_Pa_plainLow) 20 = .ok (.getfield 52, 3) := by decide +kernel
theorem d_Pa_plainLow_23 : decode (a_cc M_Pa_plainLow) 23 = .ok (.imul, 1) := by decide +kernel
theorem d_Pa_plainLow_24 : decode (a_cc M_Pa_plainLow) 24 = .ok (.isub, 1) := by decide +kernel
theorem d_Pa_plainLow_25 : decode (a_cc M_Pa_plainLow) 25 = .ok (.goto 4, 3) := by decide +kernel
theorem d_Pa_plainLow_28 : decode (a_cc M_Pa_plainLow) 28 = .ok (.iload_n 2, 1) := by decide +kernel
theorem d_Pa_plainLow_29 : decode (a_cc M_Pa_plainLow) 29 = .ok (.ireturn, 1) := by decide +kernel
def M_Pa_high : a_M := (⟨"ModuleSigner$Parameters", "high", "(I)I"⟩, prog_5_method_3_code, 3, some .int, "ModuleSigner$Parameters", 1, 15, [])
theorem ok_Pa_high : a_Ok M_Pa_high := ⟨rfl, by decide +kernel, ⟨by decide, by decide⟩, List.mem_append_right _ (List.mem_of_getElem? (i := 3) (by decide +kernel)), Or.inl ⟨rfl, List.mem_append_right _ (List.mem_of_getElem? (i := 869) (by decide +kernel))⟩⟩
theorem d_Pa_high_0 : decode (a_cc M_Pa_high) 0 = .ok (.iload_n 1, 1) := by decide +kernel
theorem d_Pa_high_1 : decode (a_cc M_Pa_high) 1 = .ok (.aload_n 0, 1) := by decide +kernel
theorem d_Pa_high_2 : decode (a_cc M_Pa_high) 2 = .ok (.iload_n 1, 1) := by decide +kernel
theorem d_Pa_high_3 : decode (a_cc M_Pa_high) 3 = .ok (.invokevirtual 93, 3) := by decide +kernel
theorem d_Pa_high_6 : decode (a_cc M_Pa_high) 6 = .ok (.isub, 1) := by decide +kernel
theorem d_Pa_high_7 : decode (a_cc M_Pa_high) 7 = .ok (.istore_n 2, 1) := by decide +kernel
theorem d_Pa_high_8 : decode (a_cc M_Pa_high) 8 = .ok (.iload_n 2, 1) := by decide +kernel
theorem d_Pa_high_9 : decode (a_cc M_Pa_high) 9 = .ok (.ldc 51, 2) := by decide +kernel
theorem d_Pa_high_11 : decode (a_cc M_Pa_high) 11 = .ok (.if_icmp .ne 7, 3) := by decide +kernel
theorem d_Pa_high_14 : decode (a_cc M_Pa_high) 14 = .ok (.iconst 0, 1) := by decide +kernel
theorem d_Pa_high_15 : decode (a_cc M_Pa_high) 15 = .ok (.goto 11, 3) := by decide +kernel
theorem d_Pa_high_18 : decode (a_cc M_Pa_high) 18 = .ok (.iload_n 2, 1) := by decide +kernel
theorem d_Pa_high_19 : decode (a_cc M_Pa_high) 19 = .ok (.iconst 2, 1) := by decide +kernel
theorem d_Pa_high_20 : decode (a_cc M_Pa_high) 20 = .ok (.aload_n 0, 1) := by decide +kernel
theorem d_Pa_high_21 : decode (a_cc M_Pa_high) 21 = .ok (.getfield 52, 3) := by decide +kernel
theorem d_Pa_high_24 : decode (a_cc M_Pa_high) 24 = .ok (.imul, 1) := by decide +kernel
theorem d_Pa_high_25 : decode (a_cc M_Pa_high) 25 = .ok (.idiv, 1) := by decide +kernel
theorem d_Pa_high_26 : decode (a_cc M_Pa_high) 26 = .ok (.ireturn, 1) := by decide +kernel
theorem cs_Pa_high_3 : a_CV M_Pa_high M_Pa_plainLow 93 2 2 1 1 := ⟨⟨ok_Pa_plainLow, by decide, by decide, by decide⟩, by decide, rfl, List.mem_append_right _ (List.mem_of_getElem? (i := 870) (by decide +kernel)), List.mem_append_right _ (List.mem_of_getElem? (i := 872) (by decide +kernel)), List.mem_append_left _ (List.mem_of_getElem? (i := 18) (by decide +kernel)), by decide +kernel⟩
def M_Be_hashHighs : a_M := (⟨"ModuleSigner$Bench", "hashHighs", "(LModuleSigner$Parameters;LModuleSigner$Bytes;)V"⟩, prog_2_method_5_code, 3, none, "ModuleSigner$Bench", 3, 50, [])
theorem ok_Be_hashHighs : a_Ok M_Be_hashHighs := ⟨rfl, by decide +kernel, ⟨by decide, by decide⟩, List.mem_append_right _ (List.mem_of_getElem? (i := 5) (by decide +kernel)), Or.inl ⟨rfl, List.mem_append_right _ (List.mem_of_getElem? (i := 878) (by decide +kernel))⟩⟩
theorem d_Be_hashHighs_0 : decode (a_cc M_Be_hashHighs) 0 = .ok (.aload_n 0, 1) := by decide +kernel
theorem d_Be_hashHighs_1 : decode (a_cc M_Be_hashHighs) 1 = .ok (.getfield 22, 3) := by decide +kernel
theorem d_Be_hashHighs_4 : decode (a_cc M_Be_hashHighs) 4 = .ok (.invokevirtual 90, 3) := by decide +kernel
theorem d_Be_hashHighs_7 : decode (a_cc M_Be_hashHighs) 7 = .ok (.aload_n 0, 1) := by decide +kernel
theorem d_Be_hashHighs_8 : decode (a_cc M_Be_hashHighs) 8 = .ok (.getfield 22, 3) := by decide +kernel
theorem d_Be_hashHighs_11 : decode (a_cc M_Be_hashHighs) 11 = .ok (.aload_n 0, 1) := by decide +kernel
theorem d_Be_hashHighs_12 : decode (a_cc M_Be_hashHighs) 12 = .ok (.getfield 59, 3) := by decide +kernel
theorem d_Be_hashHighs_15 : decode (a_cc M_Be_hashHighs) 15 = .ok (.iconst 0, 1) := by decide +kernel
theorem d_Be_hashHighs_16 : decode (a_cc M_Be_hashHighs) 16 = .ok (.bipush 64, 2) := by decide +kernel
theorem d_Be_hashHighs_18 : decode (a_cc M_Be_hashHighs) 18 = .ok (.invokevirtual 95, 3) := by decide +kernel
theorem d_Be_hashHighs_21 : decode (a_cc M_Be_hashHighs) 21 = .ok (.aload_n 0, 1) := by decide +kernel
theorem d_Be_hashHighs_22 : decode (a_cc M_Be_hashHighs) 22 = .ok (.getfield 22, 3) := by decide +kernel
theorem d_Be_hashHighs_25 : decode (a_cc M_Be_hashHighs) 25 = .ok (.aload_n 0, 1) := by decide +kernel
theorem d_Be_hashHighs_26 : decode (a_cc M_Be_hashHighs) 26 = .ok (.getfield 66, 3) := by decide +kernel
theorem d_Be_hashHighs_29 : decode (a_cc M_Be_hashHighs) 29 = .ok (.iconst 0, 1) := by decide +kernel
theorem d_Be_hashHighs_30 : decode (a_cc M_Be_hashHighs) 30 = .ok (.aload_n 0, 1) := by decide +kernel
theorem d_Be_hashHighs_31 : decode (a_cc M_Be_hashHighs) 31 = .ok (.getfield 66, 3) := by decide +kernel
theorem d_Be_hashHighs_34 : decode (a_cc M_Be_hashHighs) 34 = .ok (.getfield 102, 3) := by decide +kernel
theorem d_Be_hashHighs_37 : decode (a_cc M_Be_hashHighs) 37 = .ok (.invokevirtual 95, 3) := by decide +kernel
theorem d_Be_hashHighs_40 : decode (a_cc M_Be_hashHighs) 40 = .ok (.aload_n 0, 1) := by decide +kernel
theorem d_Be_hashHighs_41 : decode (a_cc M_Be_hashHighs) 41 = .ok (.getfield 22, 3) := by decide +kernel
theorem d_Be_hashHighs_44 : decode (a_cc M_Be_hashHighs) 44 = .ok (.invokevirtual 105, 3) := by decide +kernel
theorem d_Be_hashHighs_47 : decode (a_cc M_Be_hashHighs) 47 = .ok (.aload_n 0, 1) := by decide +kernel
theorem d_Be_hashHighs_48 : decode (a_cc M_Be_hashHighs) 48 = .ok (.getfield 22, 3) := by decide +kernel
theorem d_Be_hashHighs_51 : decode (a_cc M_Be_hashHighs) 51 = .ok (.aload_n 2, 1) := by decide +kernel
theorem d_Be_hashHighs_52 : decode (a_cc M_Be_hashHighs) 52 = .ok (.aload_n 1, 1) := by decide +kernel
theorem d_Be_hashHighs_53 : decode (a_cc M_Be_hashHighs) 53 = .ok (.getfield 112, 3) := by decide +kernel
theorem d_Be_hashHighs_56 : decode (a_cc M_Be_hashHighs) 56 = .ok (.invokevirtual 108, 3) := by decide +kernel
theorem d_Be_hashHighs_59 : decode (a_cc M_Be_hashHighs) 59 = .ok (.return_, 1) := by decide +kernel
theorem cs_Be_hashHighs_4 : a_CV M_Be_hashHighs M_Sp_start256 90 7 1 0 0 := ⟨⟨ok_Sp_start256, by decide, by decide, by decide⟩, by decide, rfl, List.mem_append_right _ (List.mem_of_getElem? (i := 832) (by decide +kernel)), List.mem_append_right _ (List.mem_of_getElem? (i := 604) (by decide +kernel)), List.mem_append_right _ (List.mem_of_getElem? (i := 605) (by decide +kernel)), by decide +kernel⟩
theorem cs_Be_hashHighs_18 : a_CV M_Be_hashHighs M_Sp_takePart 95 7 4 0 3 := ⟨⟨ok_Sp_takePart, by decide, by decide, by decide⟩, by decide, rfl, List.mem_append_right _ (List.mem_of_getElem? (i := 833) (by decide +kernel)), List.mem_append_right _ (List.mem_of_getElem? (i := 612) (by decide +kernel)), List.mem_append_right _ (List.mem_of_getElem? (i := 613) (by decide +kernel)), by decide +kernel⟩
theorem cs_Be_hashHighs_37 : a_CV M_Be_hashHighs M_Sp_takePart 95 7 4 0 3 := ⟨⟨ok_Sp_takePart, by decide, by decide, by decide⟩, by decide, rfl, List.mem_append_right _ (List.mem_of_getElem? (i := 833) (by decide +kernel)), List.mem_append_right _ (List.mem_of_getElem? (i := 612) (by decide +kernel)), List.mem_append_right _ (List.mem_of_getElem? (i := 613) (by decide +kernel)), by decide +kernel⟩
theorem cs_Be_hashHighs_44 : a_CV M_Be_hashHighs M_Sp_turn 105 7 1 0 0 := ⟨⟨ok_Sp_turn, by decide, by decide, by decide⟩, by decide, rfl, List.mem_append_right _ (List.mem_of_getElem? (i := 835) (by decide +kernel)), List.mem_append_right _ (List.mem_of_getElem? (i := 638) (by decide +kernel)), List.mem_append_right _ (List.mem_of_getElem? (i := 639) (by decide +kernel)), by decide +kernel⟩
theorem fd_Be_112 : a_Fd "ModuleSigner$Bench" 112 2 7 0 := ⟨by decide, by decide, rfl, List.mem_append_right _ (List.mem_of_getElem? (i := 108) (by decide +kernel))⟩
theorem cs_Be_hashHighs_56 : a_CV M_Be_hashHighs M_Sp_giveTo 108 7 3 0 2 := ⟨⟨ok_Sp_giveTo, by decide, by decide, by decide⟩, by decide, rfl, List.mem_append_right _ (List.mem_of_getElem? (i := 836) (by decide +kernel)), List.mem_append_right _ (List.mem_of_getElem? (i := 642) (by decide +kernel)), List.mem_append_right _ (List.mem_of_getElem? (i := 643) (by decide +kernel)), by decide +kernel⟩
def M_Si_commit : a_M := (⟨"ModuleSigner$Signer", "commit", "(LModuleSigner$Parameters;)V"⟩, prog_8_method_7_code, 4, none, "ModuleSigner$Signer", 4, 64, [])
theorem ok_Si_commit : a_Ok M_Si_commit := ⟨rfl, by decide +kernel, ⟨by decide, by decide⟩, List.mem_append_right _ (List.mem_of_getElem? (i := 9) (by decide +kernel)), Or.inl ⟨rfl, List.mem_append_right _ (List.mem_of_getElem? (i := 862) (by decide +kernel))⟩⟩
theorem d_Si_commit_0 : decode (a_cc M_Si_commit) 0 = .ok (.aload_n 0, 1) := by decide +kernel
theorem d_Si_commit_1 : decode (a_cc M_Si_commit) 1 = .ok (.getfield 38, 3) := by decide +kernel
theorem d_Si_commit_4 : decode (a_cc M_Si_commit) 4 = .ok (.aload_n 1, 1) := by decide +kernel
theorem d_Si_commit_5 : decode (a_cc M_Si_commit) 5 = .ok (.invokevirtual 182, 3) := by decide +kernel
theorem d_Si_commit_8 : decode (a_cc M_Si_commit) 8 = .ok (.aload_n 0, 1) := by decide +kernel
theorem d_Si_commit_9 : decode (a_cc M_Si_commit) 9 = .ok (.getfield 38, 3) := by decide +kernel
theorem d_Si_commit_12 : decode (a_cc M_Si_commit) 12 = .ok (.getfield 168, 3) := by decide +kernel
theorem d_Si_commit_15 : decode (a_cc M_Si_commit) 15 = .ok (.invokevirtual 185, 3) := by decide +kernel
theorem d_Si_commit_18 : decode (a_cc M_Si_commit) 18 = .ok (.iconst 0, 1) := by decide +kernel
theorem d_Si_commit_19 : decode (a_cc M_Si_commit) 19 = .ok (.istore_n 2, 1) := by decide +kernel
theorem d_Si_commit_20 : decode (a_cc M_Si_commit) 20 = .ok (.iload_n 2, 1) := by decide +kernel
theorem d_Si_commit_21 : decode (a_cc M_Si_commit) 21 = .ok (.aload_n 1, 1) := by decide +kernel
theorem d_Si_commit_22 : decode (a_cc M_Si_commit) 22 = .ok (.getfield 120, 3) := by decide +kernel
theorem d_Si_commit_25 : decode (a_cc M_Si_commit) 25 = .ok (.if_icmp .ge 88, 3) := by decide +kernel
theorem d_Si_commit_28 : decode (a_cc M_Si_commit) 28 = .ok (.aload_n 0, 1) := by decide +kernel
theorem d_Si_commit_29 : decode (a_cc M_Si_commit) 29 = .ok (.getfield 38, 3) := by decide +kernel
theorem d_Si_commit_32 : decode (a_cc M_Si_commit) 32 = .ok (.getfield 134, 3) := by decide +kernel
theorem d_Si_commit_35 : decode (a_cc M_Si_commit) 35 = .ok (.aload_n 0, 1) := by decide +kernel
theorem d_Si_commit_36 : decode (a_cc M_Si_commit) 36 = .ok (.getfield 38, 3) := by decide +kernel
theorem d_Si_commit_39 : decode (a_cc M_Si_commit) 39 = .ok (.getfield 188, 3) := by decide +kernel
theorem d_Si_commit_42 : decode (a_cc M_Si_commit) 42 = .ok (.iload_n 2, 1) := by decide +kernel
theorem d_Si_commit_43 : decode (a_cc M_Si_commit) 43 = .ok (.aaload, 1) := by decide +kernel
theorem d_Si_commit_44 : decode (a_cc M_Si_commit) 44 = .ok (.invokevirtual 191, 3) := by decide +kernel
theorem d_Si_commit_47 : decode (a_cc M_Si_commit) 47 = .ok (.iconst 0, 1) := by decide +kernel
theorem d_Si_commit_48 : decode (a_cc M_Si_commit) 48 = .ok (.istore_n 3, 1) := by decide +kernel
theorem d_Si_commit_49 : decode (a_cc M_Si_commit) 49 = .ok (.iload_n 3, 1) := by decide +kernel
theorem d_Si_commit_50 : decode (a_cc M_Si_commit) 50 = .ok (.sipush 256, 3) := by decide +kernel
theorem d_Si_commit_53 : decode (a_cc M_Si_commit) 53 = .ok (.if_icmp .ge 33, 3) := by decide +kernel
theorem d_Si_commit_56 : decode (a_cc M_Si_commit) 56 = .ok (.aload_n 0, 1) := by decide +kernel
theorem d_Si_commit_57 : decode (a_cc M_Si_commit) 57 = .ok (.getfield 38, 3) := by decide +kernel
theorem d_Si_commit_60 : decode (a_cc M_Si_commit) 60 = .ok (.getfield 194, 3) := by decide +kernel
theorem d_Si_commit_63 : decode (a_cc M_Si_commit) 63 = .ok (.iload_n 3, 1) := by decide +kernel
theorem d_Si_commit_64 : decode (a_cc M_Si_commit) 64 = .ok (.aload_n 1, 1) := by decide +kernel
theorem d_Si_commit_65 : decode (a_cc M_Si_commit) 65 = .ok (.aload_n 0, 1) := by decide +kernel
theorem d_Si_commit_66 : decode (a_cc M_Si_commit) 66 = .ok (.getfield 38, 3) := by decide +kernel
theorem d_Si_commit_69 : decode (a_cc M_Si_commit) 69 = .ok (.getfield 188, 3) := by decide +kernel
theorem d_Si_commit_72 : decode (a_cc M_Si_commit) 72 = .ok (.iload_n 2, 1) := by decide +kernel
theorem d_Si_commit_73 : decode (a_cc M_Si_commit) 73 = .ok (.aaload, 1) := by decide +kernel
theorem d_Si_commit_74 : decode (a_cc M_Si_commit) 74 = .ok (.iload_n 3, 1) := by decide +kernel
theorem d_Si_commit_75 : decode (a_cc M_Si_commit) 75 = .ok (.iaload, 1) := by decide +kernel
theorem d_Si_commit_76 : decode (a_cc M_Si_commit) 76 = .ok (.invokevirtual 198, 3) := by decide +kernel
theorem d_Si_commit_79 : decode (a_cc M_Si_commit) 79 = .ok (.iastore, 1) := by decide +kernel
theorem d_Si_commit_80 : decode (a_cc M_Si_commit) 80 = .ok (.iinc 3 1, 3) := by decide +kernel
theorem d_Si_commit_83 : decode (a_cc M_Si_commit) 83 = .ok (.goto (-34), 3) := by decide +kernel
theorem d_Si_commit_86 : decode (a_cc M_Si_commit) 86 = .ok (.aload_n 0, 1) := by decide +kernel
theorem d_Si_commit_87 : decode (a_cc M_Si_commit) 87 = .ok (.getfield 38, 3) := by decide +kernel
theorem d_Si_commit_90 : decode (a_cc M_Si_commit) 90 = .ok (.getfield 168, 3) := by decide +kernel
theorem d_Si_commit_93 : decode (a_cc M_Si_commit) 93 = .ok (.aload_n 0, 1) := by decide +kernel
theorem d_Si_commit_94 : decode (a_cc M_Si_commit) 94 = .ok (.getfield 38, 3) := by decide +kernel
theorem d_Si_commit_97 : decode (a_cc M_Si_commit) 97 = .ok (.getfield 194, 3) := by decide +kernel
theorem d_Si_commit_100 : decode (a_cc M_Si_commit) 100 = .ok (.aload_n 1, 1) := by decide +kernel
theorem d_Si_commit_101 : decode (a_cc M_Si_commit) 101 = .ok (.getfield 201, 3) := by decide +kernel
theorem d_Si_commit_104 : decode (a_cc M_Si_commit) 104 = .ok (.invokevirtual 204, 3) := by decide +kernel
theorem d_Si_commit_107 : decode (a_cc M_Si_commit) 107 = .ok (.iinc 2 1, 3) := by decide +kernel
theorem d_Si_commit_110 : decode (a_cc M_Si_commit) 110 = .ok (.goto (-90), 3) := by decide +kernel
theorem d_Si_commit_113 : decode (a_cc M_Si_commit) 113 = .ok (.aload_n 0, 1) := by decide +kernel
theorem d_Si_commit_114 : decode (a_cc M_Si_commit) 114 = .ok (.getfield 38, 3) := by decide +kernel
theorem d_Si_commit_117 : decode (a_cc M_Si_commit) 117 = .ok (.aload_n 1, 1) := by decide +kernel
theorem d_Si_commit_118 : decode (a_cc M_Si_commit) 118 = .ok (.aload_n 0, 1) := by decide +kernel
theorem d_Si_commit_119 : decode (a_cc M_Si_commit) 119 = .ok (.getfield 38, 3) := by decide +kernel
theorem d_Si_commit_122 : decode (a_cc M_Si_commit) 122 = .ok (.getfield 207, 3) := by decide +kernel
theorem d_Si_commit_125 : decode (a_cc M_Si_commit) 125 = .ok (.invokevirtual 210, 3) := by decide +kernel
theorem d_Si_commit_128 : decode (a_cc M_Si_commit) 128 = .ok (.return_, 1) := by decide +kernel
theorem cs_Si_commit_5 : a_CV M_Si_commit M_Be_multiplyMatrix 182 3 2 0 1 := ⟨⟨ok_Be_multiplyMatrix, by decide, by decide, by decide⟩, by decide, rfl, List.mem_append_right _ (List.mem_of_getElem? (i := 863) (by decide +kernel)), List.mem_append_right _ (List.mem_of_getElem? (i := 725) (by decide +kernel)), List.mem_append_right _ (List.mem_of_getElem? (i := 726) (by decide +kernel)), by decide +kernel⟩
theorem cs_Si_commit_15 : a_CV M_Si_commit M_By_clear 185 1 1 0 0 := ⟨⟨ok_By_clear, by decide, by decide, by decide⟩, by decide, rfl, List.mem_append_right _ (List.mem_of_getElem? (i := 864) (by decide +kernel)), List.mem_append_right _ (List.mem_of_getElem? (i := 502) (by decide +kernel)), List.mem_append_right _ (List.mem_of_getElem? (i := 503) (by decide +kernel)), by decide +kernel⟩
theorem fd_Si_188 : a_Fd "ModuleSigner$Signer" 188 3 7 2 := ⟨by decide, by decide, rfl, List.mem_append_right _ (List.mem_of_getElem? (i := 250) (by decide +kernel))⟩
theorem cs_Si_commit_44 : a_CV M_Si_commit M_Ri_back 191 9 2 0 1 := ⟨⟨ok_Ri_back, by decide, by decide, by decide⟩, by decide, rfl, List.mem_append_right _ (List.mem_of_getElem? (i := 865) (by decide +kernel)), List.mem_append_right _ (List.mem_of_getElem? (i := 732) (by decide +kernel)), List.mem_append_right _ (List.mem_of_getElem? (i := 733) (by decide +kernel)), by decide +kernel⟩
theorem fd_Si_194 : a_Fd "ModuleSigner$Signer" 194 3 9 2 := ⟨by decide, by decide, rfl, List.mem_append_right _ (List.mem_of_getElem? (i := 256) (by decide +kernel))⟩
theorem cs_Si_commit_76 : a_CV M_Si_commit M_Pa_high 198 2 2 2 1 := ⟨⟨ok_Pa_high, by decide, by decide, by decide⟩, by decide, rfl, List.mem_append_right _ (List.mem_of_getElem? (i := 866) (by decide +kernel)), List.mem_append_right _ (List.mem_of_getElem? (i := 867) (by decide +kernel)), List.mem_append_right _ (List.mem_of_getElem? (i := 868) (by decide +kernel)), by decide +kernel⟩
theorem fd_Si_201 : a_Fd "ModuleSigner$Signer" 201 2 12 0 := ⟨by decide, by decide, rfl, List.mem_append_right _ (List.mem_of_getElem? (i := 121) (by decide +kernel))⟩
theorem cs_Si_commit_104 : a_CV M_Si_commit M_By_addBits 204 1 3 0 2 := ⟨⟨ok_By_addBits, by decide, by decide, by decide⟩, by decide, rfl, List.mem_append_right _ (List.mem_of_getElem? (i := 874) (by decide +kernel)), List.mem_append_right _ (List.mem_of_getElem? (i := 757) (by decide +kernel)), List.mem_append_right _ (List.mem_of_getElem? (i := 758) (by decide +kernel)), by decide +kernel⟩
theorem fd_Si_207 : a_Fd "ModuleSigner$Signer" 207 3 11 2 := ⟨by decide, by decide, rfl, List.mem_append_right _ (List.mem_of_getElem? (i := 263) (by decide +kernel))⟩
theorem cs_Si_commit_125 : a_CV M_Si_commit M_Be_hashHighs 210 3 3 0 2 := ⟨⟨ok_Be_hashHighs, by decide, by decide, by decide⟩, by decide, rfl, List.mem_append_right _ (List.mem_of_getElem? (i := 875) (by decide +kernel)), List.mem_append_right _ (List.mem_of_getElem? (i := 876) (by decide +kernel)), List.mem_append_right _ (List.mem_of_getElem? (i := 877) (by decide +kernel)), by decide +kernel⟩
def M_Sa_ball : a_M := (⟨"ModuleSigner$Sampler", "ball", "(LModuleSigner$Bytes;I[I)V"⟩, prog_7_method_6_code, 9, none, "ModuleSigner$Sampler", 6, 82, [])
theorem ok_Sa_ball : a_Ok M_Sa_ball := ⟨rfl, by decide +kernel, ⟨by decide, by decide⟩, List.mem_append_right _ (List.mem_of_getElem? (i := 6) (by decide +kernel)), Or.inl ⟨rfl, List.mem_append_right _ (List.mem_of_getElem? (i := 886) (by decide +kernel))⟩⟩
theorem d_Sa_ball_0 : decode (a_cc M_Sa_ball) 0 = .ok (.aload_n 0, 1) := by decide +kernel
theorem d_Sa_ball_1 : decode (a_cc M_Sa_ball) 1 = .ok (.getfield 12, 3) := by decide +kernel
theorem d_Sa_ball_4 : decode (a_cc M_Sa_ball) 4 = .ok (.invokevirtual 69, 3) := by decide +kernel
theorem d_Sa_ball_7 : decode (a_cc M_Sa_ball) 7 = .ok (.aload_n 0, 1) := by decide +kernel
theorem d_Sa_ball_8 : decode (a_cc M_Sa_ball) 8 = .ok (.getfield 12, 3) := by decide +kernel
theorem d_Sa_ball_11 : decode (a_cc M_Sa_ball) 11 = .ok (.aload_n 1, 1) := by decide +kernel
theorem d_Sa_ball_12 : decode (a_cc M_Sa_ball) 12 = .ok (.iconst 0, 1) := by decide +kernel
theorem d_Sa_ball_13 : decode (a_cc M_Sa_ball) 13 = .ok (.aload_n 1, 1) := by decide +kernel
theorem d_Sa_ball_14 : decode (a_cc M_Sa_ball) 14 = .ok (.getfield 72, 3) := by decide +kernel
theorem d_Sa_ball_17 : decode (a_cc M_Sa_ball) 17 = .ok (.invokevirtual 30, 3) := by decide +kernel
theorem d_Sa_ball_20 : decode (a_cc M_Sa_ball) 20 = .ok (.aload_n 0, 1) := by decide +kernel
theorem d_Sa_ball_21 : decode (a_cc M_Sa_ball) 21 = .ok (.getfield 12, 3) := by decide +kernel
theorem d_Sa_ball_24 : decode (a_cc M_Sa_ball) 24 = .ok (.invokevirtual 38, 3) := by decide +kernel
theorem d_Sa_ball_27 : decode (a_cc M_Sa_ball) 27 = .ok (.lconst 0, 1) := by decide +kernel
theorem d_Sa_ball_28 : decode (a_cc M_Sa_ball) 28 = .ok (.lstore 4, 2) := by decide +kernel
theorem d_Sa_ball_30 : decode (a_cc M_Sa_ball) 30 = .ok (.iconst 0, 1) := by decide +kernel
theorem d_Sa_ball_31 : decode (a_cc M_Sa_ball) 31 = .ok (.istore 6, 2) := by decide +kernel
theorem d_Sa_ball_33 : decode (a_cc M_Sa_ball) 33 = .ok (.iload 6, 2) := by decide +kernel
theorem d_Sa_ball_35 : decode (a_cc M_Sa_ball) 35 = .ok (.bipush 8, 2) := by decide +kernel
theorem d_Sa_ball_37 : decode (a_cc M_Sa_ball) 37 = .ok (.if_icmp .ge 28, 3) := by decide +kernel
theorem d_Sa_ball_40 : decode (a_cc M_Sa_ball) 40 = .ok (.lload 4, 2) := by decide +kernel
theorem d_Sa_ball_42 : decode (a_cc M_Sa_ball) 42 = .ok (.aload_n 0, 1) := by decide +kernel
theorem d_Sa_ball_43 : decode (a_cc M_Sa_ball) 43 = .ok (.getfield 12, 3) := by decide +kernel
theorem d_Sa_ball_46 : decode (a_cc M_Sa_ball) 46 = .ok (.invokevirtual 47, 3) := by decide +kernel
theorem d_Sa_ball_49 : decode (a_cc M_Sa_ball) 49 = .ok (.i2l, 1) := by decide +kernel
theorem d_Sa_ball_50 : decode (a_cc M_Sa_ball) 50 = .ok (.bipush 8, 2) := by decide +kernel
theorem d_Sa_ball_52 : decode (a_cc M_Sa_ball) 52 = .ok (.iload 6, 2) := by decide +kernel
theorem d_Sa_ball_54 : decode (a_cc M_Sa_ball) 54 = .ok (.imul, 1) := by decide +kernel
theorem d_Sa_ball_55 : decode (a_cc M_Sa_ball) 55 = .ok (.lshl, 1) := by decide +kernel
theorem d_Sa_ball_56 : decode (a_cc M_Sa_ball) 56 = .ok (.lor, 1) := by decide +kernel
theorem d_Sa_ball_57 : decode (a_cc M_Sa_ball) 57 = .ok (.lstore 4, 2) := by decide +kernel
theorem d_Sa_ball_59 : decode (a_cc M_Sa_ball) 59 = .ok (.iinc 6 1, 3) := by decide +kernel
theorem d_Sa_ball_62 : decode (a_cc M_Sa_ball) 62 = .ok (.goto (-29), 3) := by decide +kernel
theorem d_Sa_ball_65 : decode (a_cc M_Sa_ball) 65 = .ok (.iconst 0, 1) := by decide +kernel
theorem d_Sa_ball_66 : decode (a_cc M_Sa_ball) 66 = .ok (.istore 6, 2) := by decide +kernel
theorem d_Sa_ball_68 : decode (a_cc M_Sa_ball) 68 = .ok (.iload 6, 2) := by decide +kernel
theorem d_Sa_ball_70 : decode (a_cc M_Sa_ball) 70 = .ok (.sipush 256, 3) := by decide +kernel
theorem d_Sa_ball_73 : decode (a_cc M_Sa_ball) 73 = .ok (.if_icmp .ge 14, 3) := by decide +kernel
theorem d_Sa_ball_76 : decode (a_cc M_Sa_ball) 76 = .ok (.aload_n 3, 1) := by decide +kernel
theorem d_Sa_ball_77 : decode (a_cc M_Sa_ball) 77 = .ok (.iload 6, 2) := by decide +kernel
theorem d_Sa_ball_79 : decode (a_cc M_Sa_ball) 79 = .ok (.iconst 0, 1) := by decide +kernel
theorem d_Sa_ball_80 : decode (a_cc M_Sa_ball) 80 = .ok (.iastore, 1) := by decide +kernel
theorem d_Sa_ball_81 : decode (a_cc M_Sa_ball) 81 = .ok (.iinc 6 1, 3) := by decide +kernel
theorem d_Sa_ball_84 : decode (a_cc M_Sa_ball) 84 = .ok (.goto (-16), 3) := by decide +kernel
theorem d_Sa_ball_87 : decode (a_cc M_Sa_ball) 87 = .ok (.bipush 121, 2) := by decide +kernel
theorem d_Sa_ball_89 : decode (a_cc M_Sa_ball) 89 = .ok (.istore 6, 2) := by decide +kernel
theorem d_Sa_ball_91 : decode (a_cc M_Sa_ball) 91 = .ok (.sipush 256, 3) := by decide +kernel
theorem d_Sa_ball_94 : decode (a_cc M_Sa_ball) 94 = .ok (.iload_n 2, 1) := by decide +kernel
theorem d_Sa_ball_95 : decode (a_cc M_Sa_ball) 95 = .ok (.isub, 1) := by decide +kernel
theorem d_Sa_ball_96 : decode (a_cc M_Sa_ball) 96 = .ok (.istore 7, 2) := by decide +kernel
theorem d_Sa_ball_98 : decode (a_cc M_Sa_ball) 98 = .ok (.iload 7, 2) := by decide +kernel
theorem d_Sa_ball_100 : decode (a_cc M_Sa_ball) 100 = .ok (.sipush 256, 3) := by decide +kernel
theorem d_Sa_ball_103 : decode (a_cc M_Sa_ball) 103 = .ok (.if_icmp .ge 91, 3) := by decide +kernel
theorem d_Sa_ball_106 : decode (a_cc M_Sa_ball) 106 = .ok (.sipush 256, 3) := by decide +kernel
theorem d_Sa_ball_109 : decode (a_cc M_Sa_ball) 109 = .ok (.istore 8, 2) := by decide +kernel
theorem d_Sa_ball_111 : decode (a_cc M_Sa_ball) 111 = .ok (.iload 8, 2) := by decide +kernel
theorem d_Sa_ball_113 : decode (a_cc M_Sa_ball) 113 = .ok (.iload 7, 2) := by decide +kernel
theorem d_Sa_ball_115 : decode (a_cc M_Sa_ball) 115 = .ok (.if_icmp .le 23, 3) := by decide +kernel
theorem d_Sa_ball_118 : decode (a_cc M_Sa_ball) 118 = .ok (.iload 6, 2) := by decide +kernel
theorem d_Sa_ball_120 : decode (a_cc M_Sa_ball) 120 = .ok (.ifCond .le 18, 3) := by decide +kernel
theorem d_Sa_ball_123 : decode (a_cc M_Sa_ball) 123 = .ok (.aload_n 0, 1) := by decide +kernel
theorem d_Sa_ball_124 : decode (a_cc M_Sa_ball) 124 = .ok (.getfield 12, 3) := by decide +kernel
theorem d_Sa_ball_127 : decode (a_cc M_Sa_ball) 127 = .ok (.invokevirtual 47, 3) := by decide +kernel
theorem d_Sa_ball_130 : decode (a_cc M_Sa_ball) 130 = .ok (.istore 8, 2) := by decide +kernel
theorem d_Sa_ball_132 : decode (a_cc M_Sa_ball) 132 = .ok (.iinc 6 (-1), 3) := by decide +kernel
theorem d_Sa_ball_135 : decode (a_cc M_Sa_ball) 135 = .ok (.goto (-24), 3) := by decide +kernel
theorem d_Sa_ball_138 : decode (a_cc M_Sa_ball) 138 = .ok (.iload 8, 2) := by decide +kernel
theorem d_Sa_ball_140 : decode (a_cc M_Sa_ball) 140 = .ok (.iload 7, 2) := by decide +kernel
theorem d_Sa_ball_142 : decode (a_cc M_Sa_ball) 142 = .ok (.if_icmp .le 13, 3) := by decide +kernel
theorem d_Sa_ball_145 : decode (a_cc M_Sa_ball) 145 = .ok (.new 52, 3) := by decide +kernel
theorem d_Sa_ball_148 : decode (a_cc M_Sa_ball) 148 = .ok (.dup, 1) := by decide +kernel
theorem d_Sa_ball_149 : decode (a_cc M_Sa_ball) 149 = .ok (.ldc 77, 2) := by decide +kernel
theorem d_Sa_ball_151 : decode (a_cc M_Sa_ball) 151 = .ok (.invokespecial 56, 3) := by decide +kernel
theorem d_Sa_ball_154 : decode (a_cc M_Sa_ball) 154 = .ok (.athrow, 1) := by decide +kernel
theorem d_Sa_ball_155 : decode (a_cc M_Sa_ball) 155 = .ok (.aload_n 3, 1) := by decide +kernel
theorem d_Sa_ball_156 : decode (a_cc M_Sa_ball) 156 = .ok (.iload 7, 2) := by decide +kernel
theorem d_Sa_ball_158 : decode (a_cc M_Sa_ball) 158 = .ok (.aload_n 3, 1) := by decide +kernel
theorem d_Sa_ball_159 : decode (a_cc M_Sa_ball) 159 = .ok (.iload 8, 2) := by decide +kernel
theorem d_Sa_ball_161 : decode (a_cc M_Sa_ball) 161 = .ok (.iaload, 1) := by decide +kernel
theorem d_Sa_ball_162 : decode (a_cc M_Sa_ball) 162 = .ok (.iastore, 1) := by decide +kernel
theorem d_Sa_ball_163 : decode (a_cc M_Sa_ball) 163 = .ok (.aload_n 3, 1) := by decide +kernel
theorem d_Sa_ball_164 : decode (a_cc M_Sa_ball) 164 = .ok (.iload 8, 2) := by decide +kernel
theorem d_Sa_ball_166 : decode (a_cc M_Sa_ball) 166 = .ok (.lload 4, 2) := by decide +kernel
theorem d_Sa_ball_168 : decode (a_cc M_Sa_ball) 168 = .ok (.lconst 1, 1) := by decide +kernel
theorem d_Sa_ball_169 : decode (a_cc M_Sa_ball) 169 = .ok (.land, 1) := by decide +kernel
theorem d_Sa_ball_170 : decode (a_cc M_Sa_ball) 170 = .ok (.lconst 1, 1) := by decide +kernel
theorem d_Sa_ball_171 : decode (a_cc M_Sa_ball) 171 = .ok (.lcmp, 1) := by decide +kernel
theorem d_Sa_ball_172 : decode (a_cc M_Sa_ball) 172 = .ok (.ifCond .ne 8, 3) := by decide +kernel
theorem d_Sa_ball_175 : decode (a_cc M_Sa_ball) 175 = .ok (.ldc 79, 2) := by decide +kernel
theorem d_Sa_ball_177 : decode (a_cc M_Sa_ball) 177 = .ok (.goto 4, 3) := by decide +kernel
theorem d_Sa_ball_180 : decode (a_cc M_Sa_ball) 180 = .ok (.iconst 1, 1) := by decide +kernel
theorem d_Sa_ball_181 : decode (a_cc M_Sa_ball) 181 = .ok (.iastore, 1) := by decide +kernel
theorem d_Sa_ball_182 : decode (a_cc M_Sa_ball) 182 = .ok (.lload 4, 2) := by decide +kernel
theorem d_Sa_ball_184 : decode (a_cc M_Sa_ball) 184 = .ok (.iconst 1, 1) := by decide +kernel
theorem d_Sa_ball_185 : decode (a_cc M_Sa_ball) 185 = .ok (.lushr, 1) := by decide +kernel
theorem d_Sa_ball_186 : decode (a_cc M_Sa_ball) 186 = .ok (.lstore 4, 2) := by decide +kernel
theorem d_Sa_ball_188 : decode (a_cc M_Sa_ball) 188 = .ok (.iinc 7 1, 3) := by decide +kernel
theorem d_Sa_ball_191 : decode (a_cc M_Sa_ball) 191 = .ok (.goto (-93), 3) := by decide +kernel
theorem d_Sa_ball_194 : decode (a_cc M_Sa_ball) 194 = .ok (.return_, 1) := by decide +kernel
theorem cs_Sa_ball_4 : a_CV M_Sa_ball M_Sp_start256 69 7 1 0 0 := ⟨⟨ok_Sp_start256, by decide, by decide, by decide⟩, by decide, rfl, List.mem_append_right _ (List.mem_of_getElem? (i := 692) (by decide +kernel)), List.mem_append_right _ (List.mem_of_getElem? (i := 604) (by decide +kernel)), List.mem_append_right _ (List.mem_of_getElem? (i := 605) (by decide +kernel)), by decide +kernel⟩
theorem fd_Sa_72 : a_Fd "ModuleSigner$Sampler" 72 1 1 0 := ⟨by decide, by decide, rfl, List.mem_append_right _ (List.mem_of_getElem? (i := 43) (by decide +kernel))⟩
theorem cs_Sa_ball_17 : a_CV M_Sa_ball M_Sp_takePart 30 7 4 0 3 := ⟨⟨ok_Sp_takePart, by decide, by decide, by decide⟩, by decide, rfl, List.mem_append_right _ (List.mem_of_getElem? (i := 663) (by decide +kernel)), List.mem_append_right _ (List.mem_of_getElem? (i := 612) (by decide +kernel)), List.mem_append_right _ (List.mem_of_getElem? (i := 613) (by decide +kernel)), by decide +kernel⟩
theorem cs_Sa_ball_24 : a_CV M_Sa_ball M_Sp_turn 38 7 1 0 0 := ⟨⟨ok_Sp_turn, by decide, by decide, by decide⟩, by decide, rfl, List.mem_append_right _ (List.mem_of_getElem? (i := 665) (by decide +kernel)), List.mem_append_right _ (List.mem_of_getElem? (i := 638) (by decide +kernel)), List.mem_append_right _ (List.mem_of_getElem? (i := 639) (by decide +kernel)), by decide +kernel⟩
theorem cs_Sa_ball_46 : a_CV M_Sa_ball M_Sp_give 47 7 1 2 0 := ⟨⟨ok_Sp_give, by decide, by decide, by decide⟩, by decide, rfl, List.mem_append_right _ (List.mem_of_getElem? (i := 670) (by decide +kernel)), List.mem_append_right _ (List.mem_of_getElem? (i := 647) (by decide +kernel)), List.mem_append_right _ (List.mem_of_getElem? (i := 648) (by decide +kernel)), by decide +kernel⟩
theorem cs_Sa_ball_127 : a_CV M_Sa_ball M_Sp_give 47 7 1 0 0 := ⟨⟨ok_Sp_give, by decide, by decide, by decide⟩, by decide, rfl, List.mem_append_right _ (List.mem_of_getElem? (i := 670) (by decide +kernel)), List.mem_append_right _ (List.mem_of_getElem? (i := 647) (by decide +kernel)), List.mem_append_right _ (List.mem_of_getElem? (i := 648) (by decide +kernel)), by decide +kernel⟩
theorem th_Sa_ball_145 : a_Th M_Sa_ball 145 4 0 := ⟨_, _, _, "too few places in the ball", d_Sa_ball_145, d_Sa_ball_148, d_Sa_ball_149, d_Sa_ball_151, d_Sa_ball_154, List.mem_append_right _ (List.mem_of_getElem? (i := 887) (by decide +kernel)), by decide, List.mem_append_right _ (List.mem_of_getElem? (i := 672) (by decide +kernel)), List.mem_append_right _ (List.mem_of_getElem? (i := 682) (by decide +kernel)), rfl, by decide, by decide⟩
theorem lc_Sa_79 : Cond.constant "ModuleSigner$Sampler" 79 (Int32.ofInt (8380416)) ∈ lw_tbl := List.mem_append_right _ (List.mem_of_getElem? (i := 888) (by decide +kernel))
def M_Be_castBall : a_M := (⟨"ModuleSigner$Bench", "castBall", "(LModuleSigner$Parameters;)V"⟩, prog_2_method_6_code, 2, none, "ModuleSigner$Bench", 7, 102, [])
theorem ok_Be_castBall : a_Ok M_Be_castBall := ⟨rfl, by decide +kernel, ⟨by decide, by decide⟩, List.mem_append_right _ (List.mem_of_getElem? (i := 5) (by decide +kernel)), Or.inl ⟨rfl, List.mem_append_right _ (List.mem_of_getElem? (i := 882) (by decide +kernel))⟩⟩
theorem d_Be_castBall_0 : decode (a_cc M_Be_castBall) 0 = .ok (.aload_n 0, 1) := by decide +kernel
theorem d_Be_castBall_1 : decode (a_cc M_Be_castBall) 1 = .ok (.getfield 12, 3) := by decide +kernel
theorem d_Be_castBall_4 : decode (a_cc M_Be_castBall) 4 = .ok (.aload_n 0, 1) := by decide +kernel
theorem d_Be_castBall_5 : decode (a_cc M_Be_castBall) 5 = .ok (.getfield 63, 3) := by decide +kernel
theorem d_Be_castBall_8 : decode (a_cc M_Be_castBall) 8 = .ok (.aload_n 1, 1) := by decide +kernel
theorem d_Be_castBall_9 : decode (a_cc M_Be_castBall) 9 = .ok (.getfield 115, 3) := by decide +kernel
theorem d_Be_castBall_12 : decode (a_cc M_Be_castBall) 12 = .ok (.aload_n 0, 1) := by decide +kernel
theorem d_Be_castBall_13 : decode (a_cc M_Be_castBall) 13 = .ok (.getfield 47, 3) := by decide +kernel
theorem d_Be_castBall_16 : decode (a_cc M_Be_castBall) 16 = .ok (.invokevirtual 118, 3) := by decide +kernel
theorem d_Be_castBall_19 : decode (a_cc M_Be_castBall) 19 = .ok (.aload_n 0, 1) := by decide +kernel
theorem d_Be_castBall_20 : decode (a_cc M_Be_castBall) 20 = .ok (.getfield 26, 3) := by decide +kernel
theorem d_Be_castBall_23 : decode (a_cc M_Be_castBall) 23 = .ok (.aload_n 0, 1) := by decide +kernel
theorem d_Be_castBall_24 : decode (a_cc M_Be_castBall) 24 = .ok (.getfield 47, 3) := by decide +kernel
theorem d_Be_castBall_27 : decode (a_cc M_Be_castBall) 27 = .ok (.invokevirtual 121, 3) := by decide +kernel
theorem d_Be_castBall_30 : decode (a_cc M_Be_castBall) 30 = .ok (.return_, 1) := by decide +kernel
theorem fd_Be_115 : a_Fd "ModuleSigner$Bench" 115 2 3 0 := ⟨by decide, by decide, rfl, List.mem_append_right _ (List.mem_of_getElem? (i := 96) (by decide +kernel))⟩
theorem cs_Be_castBall_16 : a_CV M_Be_castBall M_Sa_ball 118 8 4 0 3 := ⟨⟨ok_Sa_ball, by decide, by decide, by decide⟩, by decide, rfl, List.mem_append_right _ (List.mem_of_getElem? (i := 883) (by decide +kernel)), List.mem_append_right _ (List.mem_of_getElem? (i := 884) (by decide +kernel)), List.mem_append_right _ (List.mem_of_getElem? (i := 885) (by decide +kernel)), by decide +kernel⟩
theorem cs_Be_castBall_27 : a_CV M_Be_castBall M_Ri_forward 121 9 2 0 1 := ⟨⟨ok_Ri_forward, by decide, by decide, by decide⟩, by decide, rfl, List.mem_append_right _ (List.mem_of_getElem? (i := 889) (by decide +kernel)), List.mem_append_right _ (List.mem_of_getElem? (i := 714) (by decide +kernel)), List.mem_append_right _ (List.mem_of_getElem? (i := 715) (by decide +kernel)), by decide +kernel⟩
def M_Ri_multiply : a_M := (⟨"ModuleSigner$Ring", "multiply", "([I[I[I)V"⟩, prog_6_method_14_code, 4, none, "ModuleSigner$Ring", 0, 0, [])
theorem ok_Ri_multiply : a_Ok M_Ri_multiply := ⟨rfl, by decide +kernel, ⟨by decide, by decide⟩, List.mem_append_right _ (List.mem_of_getElem? (i := 4) (by decide +kernel)), Or.inl ⟨rfl, List.mem_append_right _ (List.mem_of_getElem? (i := 900) (by decide +kernel))⟩⟩
theorem d_Ri_multiply_0 : decode (a_cc M_Ri_multiply) 0 = .ok (.iconst 0, 1) := by decide +kernel
theorem d_Ri_multiply_1 : decode (a_cc M_Ri_multiply) 1 = .ok (.istore_n 3, 1) := by decide +kernel
theorem d_Ri_multiply_2 : decode (a_cc M_Ri_multiply) 2 = .ok (.iload_n 3, 1) := by decide +kernel
theorem d_Ri_multiply_3 : decode (a_cc M_Ri_multiply) 3 = .ok (.sipush 256, 3) := by decide +kernel
theorem d_Ri_multiply_6 : decode (a_cc M_Ri_multiply) 6 = .ok (.if_icmp .ge 26, 3) := by decide +kernel
theorem d_Ri_multiply_9 : decode (a_cc M_Ri_multiply) 9 = .ok (.aload_n 2, 1) := by decide +kernel
theorem d_Ri_multiply_10 : decode (a_cc M_Ri_multiply) 10 = .ok (.iload_n 3, 1) := by decide +kernel
theorem d_Ri_multiply_11 : decode (a_cc M_Ri_multiply) 11 = .ok (.aload_n 0, 1) := by decide +kernel
theorem d_Ri_multiply_12 : decode (a_cc M_Ri_multiply) 12 = .ok (.iload_n 3, 1) := by decide +kernel
theorem d_Ri_multiply_13 : decode (a_cc M_Ri_multiply) 13 = .ok (.iaload, 1) := by decide +kernel
theorem d_Ri_multiply_14 : decode (a_cc M_Ri_multiply) 14 = .ok (.i2l, 1) := by decide +kernel
theorem d_Ri_multiply_15 : decode (a_cc M_Ri_multiply) 15 = .ok (.aload_n 1, 1) := by decide +kernel
theorem d_Ri_multiply_16 : decode (a_cc M_Ri_multiply) 16 = .ok (.iload_n 3, 1) := by decide +kernel
theorem d_Ri_multiply_17 : decode (a_cc M_Ri_multiply) 17 = .ok (.iaload, 1) := by decide +kernel
theorem d_Ri_multiply_18 : decode (a_cc M_Ri_multiply) 18 = .ok (.i2l, 1) := by decide +kernel
theorem d_Ri_multiply_19 : decode (a_cc M_Ri_multiply) 19 = .ok (.lmul, 1) := by decide +kernel
theorem d_Ri_multiply_20 : decode (a_cc M_Ri_multiply) 20 = .ok (.ldc2_w 19, 3) := by decide +kernel
theorem d_Ri_multiply_23 : decode (a_cc M_Ri_multiply) 23 = .ok (.lrem, 1) := by decide +kernel
theorem d_Ri_multiply_24 : decode (a_cc M_Ri_multiply) 24 = .ok (.l2i, 1) := by decide +kernel
theorem d_Ri_multiply_25 : decode (a_cc M_Ri_multiply) 25 = .ok (.iastore, 1) := by decide +kernel
theorem d_Ri_multiply_26 : decode (a_cc M_Ri_multiply) 26 = .ok (.iinc 3 1, 3) := by decide +kernel
theorem d_Ri_multiply_29 : decode (a_cc M_Ri_multiply) 29 = .ok (.goto (-27), 3) := by decide +kernel
theorem d_Ri_multiply_32 : decode (a_cc M_Ri_multiply) 32 = .ok (.return_, 1) := by decide +kernel
def M_Be_multiplyBall : a_M := (⟨"ModuleSigner$Bench", "multiplyBall", "([I)V"⟩, prog_2_method_3_code, 2, none, "ModuleSigner$Bench", 3, 52, [])
theorem ok_Be_multiplyBall : a_Ok M_Be_multiplyBall := ⟨rfl, by decide +kernel, ⟨by decide, by decide⟩, List.mem_append_right _ (List.mem_of_getElem? (i := 5) (by decide +kernel)), Or.inl ⟨rfl, List.mem_append_right _ (List.mem_of_getElem? (i := 897) (by decide +kernel))⟩⟩
theorem d_Be_multiplyBall_0 : decode (a_cc M_Be_multiplyBall) 0 = .ok (.aload_n 0, 1) := by decide +kernel
theorem d_Be_multiplyBall_1 : decode (a_cc M_Be_multiplyBall) 1 = .ok (.getfield 47, 3) := by decide +kernel
theorem d_Be_multiplyBall_4 : decode (a_cc M_Be_multiplyBall) 4 = .ok (.aload_n 1, 1) := by decide +kernel
theorem d_Be_multiplyBall_5 : decode (a_cc M_Be_multiplyBall) 5 = .ok (.aload_n 0, 1) := by decide +kernel
theorem d_Be_multiplyBall_6 : decode (a_cc M_Be_multiplyBall) 6 = .ok (.getfield 51, 3) := by decide +kernel
theorem d_Be_multiplyBall_9 : decode (a_cc M_Be_multiplyBall) 9 = .ok (.invokestatic 82, 3) := by decide +kernel
theorem d_Be_multiplyBall_12 : decode (a_cc M_Be_multiplyBall) 12 = .ok (.aload_n 0, 1) := by decide +kernel
theorem d_Be_multiplyBall_13 : decode (a_cc M_Be_multiplyBall) 13 = .ok (.getfield 26, 3) := by decide +kernel
theorem d_Be_multiplyBall_16 : decode (a_cc M_Be_multiplyBall) 16 = .ok (.aload_n 0, 1) := by decide +kernel
theorem d_Be_multiplyBall_17 : decode (a_cc M_Be_multiplyBall) 17 = .ok (.getfield 51, 3) := by decide +kernel
theorem d_Be_multiplyBall_20 : decode (a_cc M_Be_multiplyBall) 20 = .ok (.invokevirtual 86, 3) := by decide +kernel
theorem d_Be_multiplyBall_23 : decode (a_cc M_Be_multiplyBall) 23 = .ok (.return_, 1) := by decide +kernel
theorem cs_Be_multiplyBall_9 : a_CS M_Be_multiplyBall M_Ri_multiply 82 3 0 3 := ⟨⟨ok_Ri_multiply, by decide, by decide, by decide⟩, List.mem_append_right _ (List.mem_of_getElem? (i := 898) (by decide +kernel)), List.mem_append_right _ (List.mem_of_getElem? (i := 899) (by decide +kernel)), by decide +kernel⟩
theorem cs_Be_multiplyBall_20 : a_CV M_Be_multiplyBall M_Ri_back 86 9 2 0 1 := ⟨⟨ok_Ri_back, by decide, by decide, by decide⟩, by decide, rfl, List.mem_append_right _ (List.mem_of_getElem? (i := 901) (by decide +kernel)), List.mem_append_right _ (List.mem_of_getElem? (i := 732) (by decide +kernel)), List.mem_append_right _ (List.mem_of_getElem? (i := 733) (by decide +kernel)), by decide +kernel⟩
def M_Ri_within : a_M := (⟨"ModuleSigner$Ring", "within", "([II)Z"⟩, prog_6_method_16_code, 3, some .boolean, "ModuleSigner$Ring", 0, 0, [])
theorem ok_Ri_within : a_Ok M_Ri_within := ⟨rfl, by decide +kernel, ⟨by decide, by decide⟩, List.mem_append_right _ (List.mem_of_getElem? (i := 4) (by decide +kernel)), Or.inl ⟨rfl, List.mem_append_right _ (List.mem_of_getElem? (i := 905) (by decide +kernel))⟩⟩
theorem d_Ri_within_0 : decode (a_cc M_Ri_within) 0 = .ok (.iconst 0, 1) := by decide +kernel
theorem d_Ri_within_1 : decode (a_cc M_Ri_within) 1 = .ok (.istore_n 2, 1) := by decide +kernel
theorem d_Ri_within_2 : decode (a_cc M_Ri_within) 2 = .ok (.iload_n 2, 1) := by decide +kernel
theorem d_Ri_within_3 : decode (a_cc M_Ri_within) 3 = .ok (.sipush 256, 3) := by decide +kernel
theorem d_Ri_within_6 : decode (a_cc M_Ri_within) 6 = .ok (.if_icmp .ge 28, 3) := by decide +kernel
theorem d_Ri_within_9 : decode (a_cc M_Ri_within) 9 = .ok (.aload_n 0, 1) := by decide +kernel
theorem d_Ri_within_10 : decode (a_cc M_Ri_within) 10 = .ok (.iload_n 2, 1) := by decide +kernel
theorem d_Ri_within_11 : decode (a_cc M_Ri_within) 11 = .ok (.iaload, 1) := by decide +kernel
theorem d_Ri_within_12 : decode (a_cc M_Ri_within) 12 = .ok (.iload_n 1, 1) := by decide +kernel
theorem d_Ri_within_13 : decode (a_cc M_Ri_within) 13 = .ok (.if_icmp .lt 15, 3) := by decide +kernel
theorem d_Ri_within_16 : decode (a_cc M_Ri_within) 16 = .ok (.aload_n 0, 1) := by decide +kernel
theorem d_Ri_within_17 : decode (a_cc M_Ri_within) 17 = .ok (.iload_n 2, 1) := by decide +kernel
theorem d_Ri_within_18 : decode (a_cc M_Ri_within) 18 = .ok (.iaload, 1) := by decide +kernel
theorem d_Ri_within_19 : decode (a_cc M_Ri_within) 19 = .ok (.ldc 21, 2) := by decide +kernel
theorem d_Ri_within_21 : decode (a_cc M_Ri_within) 21 = .ok (.iload_n 1, 1) := by decide +kernel
theorem d_Ri_within_22 : decode (a_cc M_Ri_within) 22 = .ok (.isub, 1) := by decide +kernel
theorem d_Ri_within_23 : decode (a_cc M_Ri_within) 23 = .ok (.if_icmp .gt 5, 3) := by decide +kernel
theorem d_Ri_within_26 : decode (a_cc M_Ri_within) 26 = .ok (.iconst 0, 1) := by decide +kernel
theorem d_Ri_within_27 : decode (a_cc M_Ri_within) 27 = .ok (.ireturn, 1) := by decide +kernel
theorem d_Ri_within_28 : decode (a_cc M_Ri_within) 28 = .ok (.iinc 2 1, 3) := by decide +kernel
theorem d_Ri_within_31 : decode (a_cc M_Ri_within) 31 = .ok (.goto (-29), 3) := by decide +kernel
theorem d_Ri_within_34 : decode (a_cc M_Ri_within) 34 = .ok (.iconst 1, 1) := by decide +kernel
theorem d_Ri_within_35 : decode (a_cc M_Ri_within) 35 = .ok (.ireturn, 1) := by decide +kernel
def M_Si_answersHide : a_M := (⟨"ModuleSigner$Signer", "answersHide", "(LModuleSigner$Parameters;)Z"⟩, prog_8_method_8_code, 3, some .boolean, "ModuleSigner$Signer", 4, 65, [])
theorem ok_Si_answersHide : a_Ok M_Si_answersHide := ⟨rfl, by decide +kernel, ⟨by decide, by decide⟩, List.mem_append_right _ (List.mem_of_getElem? (i := 9) (by decide +kernel)), Or.inl ⟨rfl, List.mem_append_right _ (List.mem_of_getElem? (i := 893) (by decide +kernel))⟩⟩
theorem d_Si_answersHide_0 : decode (a_cc M_Si_answersHide) 0 = .ok (.iconst 0, 1) := by decide +kernel
theorem d_Si_answersHide_1 : decode (a_cc M_Si_answersHide) 1 = .ok (.istore_n 2, 1) := by decide +kernel
theorem d_Si_answersHide_2 : decode (a_cc M_Si_answersHide) 2 = .ok (.iload_n 2, 1) := by decide +kernel
theorem d_Si_answersHide_3 : decode (a_cc M_Si_answersHide) 3 = .ok (.aload_n 1, 1) := by decide +kernel
theorem d_Si_answersHide_4 : decode (a_cc M_Si_answersHide) 4 = .ok (.getfield 56, 3) := by decide +kernel
theorem d_Si_answersHide_7 : decode (a_cc M_Si_answersHide) 7 = .ok (.if_icmp .ge 88, 3) := by decide +kernel
theorem d_Si_answersHide_10 : decode (a_cc M_Si_answersHide) 10 = .ok (.aload_n 0, 1) := by decide +kernel
theorem d_Si_answersHide_11 : decode (a_cc M_Si_answersHide) 11 = .ok (.getfield 38, 3) := by decide +kernel
theorem d_Si_answersHide_14 : decode (a_cc M_Si_answersHide) 14 = .ok (.aload_n 0, 1) := by decide +kernel
theorem d_Si_answersHide_15 : decode (a_cc M_Si_answersHide) 15 = .ok (.getfield 38, 3) := by decide +kernel
theorem d_Si_answersHide_18 : decode (a_cc M_Si_answersHide) 18 = .ok (.getfield 109, 3) := by decide +kernel
theorem d_Si_answersHide_21 : decode (a_cc M_Si_answersHide) 21 = .ok (.iload_n 2, 1) := by decide +kernel
theorem d_Si_answersHide_22 : decode (a_cc M_Si_answersHide) 22 = .ok (.aaload, 1) := by decide +kernel
theorem d_Si_answersHide_23 : decode (a_cc M_Si_answersHide) 23 = .ok (.invokevirtual 214, 3) := by decide +kernel
theorem d_Si_answersHide_26 : decode (a_cc M_Si_answersHide) 26 = .ok (.aload_n 0, 1) := by decide +kernel
theorem d_Si_answersHide_27 : decode (a_cc M_Si_answersHide) 27 = .ok (.getfield 20, 3) := by decide +kernel
theorem d_Si_answersHide_30 : decode (a_cc M_Si_answersHide) 30 = .ok (.iload_n 2, 1) := by decide +kernel
theorem d_Si_answersHide_31 : decode (a_cc M_Si_answersHide) 31 = .ok (.aaload, 1) := by decide +kernel
theorem d_Si_answersHide_32 : decode (a_cc M_Si_answersHide) 32 = .ok (.aload_n 0, 1) := by decide +kernel
theorem d_Si_answersHide_33 : decode (a_cc M_Si_answersHide) 33 = .ok (.getfield 38, 3) := by decide +kernel
theorem d_Si_answersHide_36 : decode (a_cc M_Si_answersHide) 36 = .ok (.getfield 175, 3) := by decide +kernel
theorem d_Si_answersHide_39 : decode (a_cc M_Si_answersHide) 39 = .ok (.iload_n 2, 1) := by decide +kernel
theorem d_Si_answersHide_40 : decode (a_cc M_Si_answersHide) 40 = .ok (.aaload, 1) := by decide +kernel
theorem d_Si_answersHide_41 : decode (a_cc M_Si_answersHide) 41 = .ok (.invokestatic 178, 3) := by decide +kernel
theorem d_Si_answersHide_44 : decode (a_cc M_Si_answersHide) 44 = .ok (.aload_n 0, 1) := by decide +kernel
theorem d_Si_answersHide_45 : decode (a_cc M_Si_answersHide) 45 = .ok (.getfield 38, 3) := by decide +kernel
theorem d_Si_answersHide_48 : decode (a_cc M_Si_answersHide) 48 = .ok (.getfield 175, 3) := by decide +kernel
theorem d_Si_answersHide_51 : decode (a_cc M_Si_answersHide) 51 = .ok (.iload_n 2, 1) := by decide +kernel
theorem d_Si_answersHide_52 : decode (a_cc M_Si_answersHide) 52 = .ok (.aaload, 1) := by decide +kernel
theorem d_Si_answersHide_53 : decode (a_cc M_Si_answersHide) 53 = .ok (.aload_n 0, 1) := by decide +kernel
theorem d_Si_answersHide_54 : decode (a_cc M_Si_answersHide) 54 = .ok (.getfield 38, 3) := by decide +kernel
theorem d_Si_answersHide_57 : decode (a_cc M_Si_answersHide) 57 = .ok (.getfield 194, 3) := by decide +kernel
theorem d_Si_answersHide_60 : decode (a_cc M_Si_answersHide) 60 = .ok (.invokestatic 217, 3) := by decide +kernel
theorem d_Si_answersHide_63 : decode (a_cc M_Si_answersHide) 63 = .ok (.aload_n 0, 1) := by decide +kernel
theorem d_Si_answersHide_64 : decode (a_cc M_Si_answersHide) 64 = .ok (.getfield 38, 3) := by decide +kernel
theorem d_Si_answersHide_67 : decode (a_cc M_Si_answersHide) 67 = .ok (.getfield 175, 3) := by decide +kernel
theorem d_Si_answersHide_70 : decode (a_cc M_Si_answersHide) 70 = .ok (.iload_n 2, 1) := by decide +kernel
theorem d_Si_answersHide_71 : decode (a_cc M_Si_answersHide) 71 = .ok (.aaload, 1) := by decide +kernel
theorem d_Si_answersHide_72 : decode (a_cc M_Si_answersHide) 72 = .ok (.aload_n 1, 1) := by decide +kernel
theorem d_Si_answersHide_73 : decode (a_cc M_Si_answersHide) 73 = .ok (.getfield 220, 3) := by decide +kernel
theorem d_Si_answersHide_76 : decode (a_cc M_Si_answersHide) 76 = .ok (.aload_n 1, 1) := by decide +kernel
theorem d_Si_answersHide_77 : decode (a_cc M_Si_answersHide) 77 = .ok (.getfield 223, 3) := by decide +kernel
theorem d_Si_answersHide_80 : decode (a_cc M_Si_answersHide) 80 = .ok (.isub, 1) := by decide +kernel
theorem d_Si_answersHide_81 : decode (a_cc M_Si_answersHide) 81 = .ok (.invokestatic 226, 3) := by decide +kernel
theorem d_Si_answersHide_84 : decode (a_cc M_Si_answersHide) 84 = .ok (.ifCond .ne 5, 3) := by decide +kernel
theorem d_Si_answersHide_87 : decode (a_cc M_Si_answersHide) 87 = .ok (.iconst 0, 1) := by decide +kernel
theorem d_Si_answersHide_88 : decode (a_cc M_Si_answersHide) 88 = .ok (.ireturn, 1) := by decide +kernel
theorem d_Si_answersHide_89 : decode (a_cc M_Si_answersHide) 89 = .ok (.iinc 2 1, 3) := by decide +kernel
theorem d_Si_answersHide_92 : decode (a_cc M_Si_answersHide) 92 = .ok (.goto (-90), 3) := by decide +kernel
theorem d_Si_answersHide_95 : decode (a_cc M_Si_answersHide) 95 = .ok (.iconst 1, 1) := by decide +kernel
theorem d_Si_answersHide_96 : decode (a_cc M_Si_answersHide) 96 = .ok (.ireturn, 1) := by decide +kernel
theorem cs_Si_answersHide_23 : a_CV M_Si_answersHide M_Be_multiplyBall 214 3 2 0 1 := ⟨⟨ok_Be_multiplyBall, by decide, by decide, by decide⟩, by decide, rfl, List.mem_append_right _ (List.mem_of_getElem? (i := 894) (by decide +kernel)), List.mem_append_right _ (List.mem_of_getElem? (i := 895) (by decide +kernel)), List.mem_append_right _ (List.mem_of_getElem? (i := 896) (by decide +kernel)), by decide +kernel⟩
theorem cs_Si_answersHide_41 : a_CS M_Si_answersHide M_Ri_copyRow 178 2 0 2 := ⟨⟨ok_Ri_copyRow, by decide, by decide, by decide⟩, List.mem_append_right _ (List.mem_of_getElem? (i := 858) (by decide +kernel)), List.mem_append_right _ (List.mem_of_getElem? (i := 710) (by decide +kernel)), by decide +kernel⟩
theorem cs_Si_answersHide_60 : a_CS M_Si_answersHide M_Ri_addTo 217 2 0 2 := ⟨⟨ok_Ri_addTo, by decide, by decide, by decide⟩, List.mem_append_right _ (List.mem_of_getElem? (i := 902) (by decide +kernel)), List.mem_append_right _ (List.mem_of_getElem? (i := 740) (by decide +kernel)), by decide +kernel⟩
theorem fd_Si_220 : a_Fd "ModuleSigner$Signer" 220 2 4 0 := ⟨by decide, by decide, rfl, List.mem_append_right _ (List.mem_of_getElem? (i := 100) (by decide +kernel))⟩
theorem fd_Si_223 : a_Fd "ModuleSigner$Signer" 223 2 9 0 := ⟨by decide, by decide, rfl, List.mem_append_right _ (List.mem_of_getElem? (i := 112) (by decide +kernel))⟩
theorem cs_Si_answersHide_81 : a_CS M_Si_answersHide M_Ri_within 226 2 0 2 := ⟨⟨ok_Ri_within, by decide, by decide, by decide⟩, List.mem_append_right _ (List.mem_of_getElem? (i := 903) (by decide +kernel)), List.mem_append_right _ (List.mem_of_getElem? (i := 904) (by decide +kernel)), by decide +kernel⟩
def M_Ri_takeFrom : a_M := (⟨"ModuleSigner$Ring", "takeFrom", "([I[I)V"⟩, prog_6_method_12_code, 3, none, "ModuleSigner$Ring", 1, 16, [])
theorem ok_Ri_takeFrom : a_Ok M_Ri_takeFrom := ⟨rfl, by decide +kernel, ⟨by decide, by decide⟩, List.mem_append_right _ (List.mem_of_getElem? (i := 4) (by decide +kernel)), Or.inl ⟨rfl, List.mem_append_right _ (List.mem_of_getElem? (i := 912) (by decide +kernel))⟩⟩
theorem d_Ri_takeFrom_0 : decode (a_cc M_Ri_takeFrom) 0 = .ok (.iconst 0, 1) := by decide +kernel
theorem d_Ri_takeFrom_1 : decode (a_cc M_Ri_takeFrom) 1 = .ok (.istore_n 2, 1) := by decide +kernel
theorem d_Ri_takeFrom_2 : decode (a_cc M_Ri_takeFrom) 2 = .ok (.iload_n 2, 1) := by decide +kernel
theorem d_Ri_takeFrom_3 : decode (a_cc M_Ri_takeFrom) 3 = .ok (.sipush 256, 3) := by decide +kernel
theorem d_Ri_takeFrom_6 : decode (a_cc M_Ri_takeFrom) 6 = .ok (.if_icmp .ge 21, 3) := by decide +kernel
theorem d_Ri_takeFrom_9 : decode (a_cc M_Ri_takeFrom) 9 = .ok (.aload_n 0, 1) := by decide +kernel
theorem d_Ri_takeFrom_10 : decode (a_cc M_Ri_takeFrom) 10 = .ok (.iload_n 2, 1) := by decide +kernel
theorem d_Ri_takeFrom_11 : decode (a_cc M_Ri_takeFrom) 11 = .ok (.aload_n 0, 1) := by decide +kernel
theorem d_Ri_takeFrom_12 : decode (a_cc M_Ri_takeFrom) 12 = .ok (.iload_n 2, 1) := by decide +kernel
theorem d_Ri_takeFrom_13 : decode (a_cc M_Ri_takeFrom) 13 = .ok (.iaload, 1) := by decide +kernel
theorem d_Ri_takeFrom_14 : decode (a_cc M_Ri_takeFrom) 14 = .ok (.aload_n 1, 1) := by decide +kernel
theorem d_Ri_takeFrom_15 : decode (a_cc M_Ri_takeFrom) 15 = .ok (.iload_n 2, 1) := by decide +kernel
theorem d_Ri_takeFrom_16 : decode (a_cc M_Ri_takeFrom) 16 = .ok (.iaload, 1) := by decide +kernel
theorem d_Ri_takeFrom_17 : decode (a_cc M_Ri_takeFrom) 17 = .ok (.invokestatic 26, 3) := by decide +kernel
theorem d_Ri_takeFrom_20 : decode (a_cc M_Ri_takeFrom) 20 = .ok (.iastore, 1) := by decide +kernel
theorem d_Ri_takeFrom_21 : decode (a_cc M_Ri_takeFrom) 21 = .ok (.iinc 2 1, 3) := by decide +kernel
theorem d_Ri_takeFrom_24 : decode (a_cc M_Ri_takeFrom) 24 = .ok (.goto (-22), 3) := by decide +kernel
theorem d_Ri_takeFrom_27 : decode (a_cc M_Ri_takeFrom) 27 = .ok (.return_, 1) := by decide +kernel
theorem cs_Ri_takeFrom_17 : a_CS M_Ri_takeFrom M_Ri_minus 26 2 2 2 := ⟨⟨ok_Ri_minus, by decide, by decide, by decide⟩, List.mem_append_right _ (List.mem_of_getElem? (i := 720) (by decide +kernel)), List.mem_append_right _ (List.mem_of_getElem? (i := 701) (by decide +kernel)), by decide +kernel⟩
