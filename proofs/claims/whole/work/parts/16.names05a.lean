/-! names, printed by program: methods, their instructions, what they link -/
def M_Pa_low : a_M := (⟨"ModuleSigner$Parameters", "low", "(I)I"⟩, prog_5_method_2_code, 3, some .int, "ModuleSigner$Parameters", 1, 14, [])
theorem ok_Pa_low : a_Ok M_Pa_low := ⟨rfl, by decide +kernel, ⟨by decide, by decide⟩, List.mem_append_right _ (List.mem_of_getElem? (i := 3) (by decide +kernel)), Or.inl ⟨rfl, List.mem_append_right _ (List.mem_of_getElem? (i := 919) (by decide +kernel))⟩⟩
theorem d_Pa_low_0 : decode (a_cc M_Pa_low) 0 = .ok (.aload_n 0, 1) := by decide +kernel
theorem d_Pa_low_1 : decode (a_cc M_Pa_low) 1 = .ok (.iload_n 1, 1) := by decide +kernel
theorem d_Pa_low_2 : decode (a_cc M_Pa_low) 2 = .ok (.invokevirtual 93, 3) := by decide +kernel
theorem d_Pa_low_5 : decode (a_cc M_Pa_low) 5 = .ok (.istore_n 2, 1) := by decide +kernel
theorem d_Pa_low_6 : decode (a_cc M_Pa_low) 6 = .ok (.iload_n 1, 1) := by decide +kernel
theorem d_Pa_low_7 : decode (a_cc M_Pa_low) 7 = .ok (.iload_n 2, 1) := by decide +kernel
theorem d_Pa_low_8 : decode (a_cc M_Pa_low) 8 = .ok (.isub, 1) := by decide +kernel
theorem d_Pa_low_9 : decode (a_cc M_Pa_low) 9 = .ok (.ldc 51, 2) := by decide +kernel
theorem d_Pa_low_11 : decode (a_cc M_Pa_low) 11 = .ok (.if_icmp .ne 9, 3) := by decide +kernel
theorem d_Pa_low_14 : decode (a_cc M_Pa_low) 14 = .ok (.iload_n 2, 1) := by decide +kernel
theorem d_Pa_low_15 : decode (a_cc M_Pa_low) 15 = .ok (.iconst 1, 1) := by decide +kernel
theorem d_Pa_low_16 : decode (a_cc M_Pa_low) 16 = .ok (.isub, 1) := by decide +kernel
theorem d_Pa_low_17 : decode (a_cc M_Pa_low) 17 = .ok (.goto 4, 3) := by decide +kernel
theorem d_Pa_low_20 : decode (a_cc M_Pa_low) 20 = .ok (.iload_n 2, 1) := by decide +kernel
theorem d_Pa_low_21 : decode (a_cc M_Pa_low) 21 = .ok (.ireturn, 1) := by decide +kernel
theorem cs_Pa_low_2 : a_CV M_Pa_low M_Pa_plainLow 93 2 2 0 1 := ⟨⟨ok_Pa_plainLow, by decide, by decide, by decide⟩, by decide, rfl, List.mem_append_right _ (List.mem_of_getElem? (i := 870) (by decide +kernel)), List.mem_append_right _ (List.mem_of_getElem? (i := 872) (by decide +kernel)), List.mem_append_left _ (List.mem_of_getElem? (i := 18) (by decide +kernel)), by decide +kernel⟩
def M_Si_lowsWithin : a_M := (⟨"ModuleSigner$Signer", "lowsWithin", "([ILModuleSigner$Parameters;)Z"⟩, prog_8_method_10_code, 5, some .boolean, "ModuleSigner$Signer", 2, 28, [])
theorem ok_Si_lowsWithin : a_Ok M_Si_lowsWithin := ⟨rfl, by decide +kernel, ⟨by decide, by decide⟩, List.mem_append_right _ (List.mem_of_getElem? (i := 9) (by decide +kernel)), Or.inl ⟨rfl, List.mem_append_right _ (List.mem_of_getElem? (i := 915) (by decide +kernel))⟩⟩
theorem d_Si_lowsWithin_0 : decode (a_cc M_Si_lowsWithin) 0 = .ok (.aload_n 1, 1) := by decide +kernel
theorem d_Si_lowsWithin_1 : decode (a_cc M_Si_lowsWithin) 1 = .ok (.getfield 237, 3) := by decide +kernel
theorem d_Si_lowsWithin_4 : decode (a_cc M_Si_lowsWithin) 4 = .ok (.aload_n 1, 1) := by decide +kernel
theorem d_Si_lowsWithin_5 : decode (a_cc M_Si_lowsWithin) 5 = .ok (.getfield 223, 3) := by decide +kernel
theorem d_Si_lowsWithin_8 : decode (a_cc M_Si_lowsWithin) 8 = .ok (.isub, 1) := by decide +kernel
theorem d_Si_lowsWithin_9 : decode (a_cc M_Si_lowsWithin) 9 = .ok (.istore_n 2, 1) := by decide +kernel
theorem d_Si_lowsWithin_10 : decode (a_cc M_Si_lowsWithin) 10 = .ok (.iconst 0, 1) := by decide +kernel
theorem d_Si_lowsWithin_11 : decode (a_cc M_Si_lowsWithin) 11 = .ok (.istore_n 3, 1) := by decide +kernel
theorem d_Si_lowsWithin_12 : decode (a_cc M_Si_lowsWithin) 12 = .ok (.iload_n 3, 1) := by decide +kernel
theorem d_Si_lowsWithin_13 : decode (a_cc M_Si_lowsWithin) 13 = .ok (.sipush 256, 3) := by decide +kernel
theorem d_Si_lowsWithin_16 : decode (a_cc M_Si_lowsWithin) 16 = .ok (.if_icmp .ge 33, 3) := by decide +kernel
theorem d_Si_lowsWithin_19 : decode (a_cc M_Si_lowsWithin) 19 = .ok (.aload_n 1, 1) := by decide +kernel
theorem d_Si_lowsWithin_20 : decode (a_cc M_Si_lowsWithin) 20 = .ok (.aload_n 0, 1) := by decide +kernel
theorem d_Si_lowsWithin_21 : decode (a_cc M_Si_lowsWithin) 21 = .ok (.iload_n 3, 1) := by decide +kernel
theorem d_Si_lowsWithin_22 : decode (a_cc M_Si_lowsWithin) 22 = .ok (.iaload, 1) := by decide +kernel
theorem d_Si_lowsWithin_23 : decode (a_cc M_Si_lowsWithin) 23 = .ok (.invokevirtual 240, 3) := by decide +kernel
theorem d_Si_lowsWithin_26 : decode (a_cc M_Si_lowsWithin) 26 = .ok (.istore 4, 2) := by decide +kernel
theorem d_Si_lowsWithin_28 : decode (a_cc M_Si_lowsWithin) 28 = .ok (.iload 4, 2) := by decide +kernel
theorem d_Si_lowsWithin_30 : decode (a_cc M_Si_lowsWithin) 30 = .ok (.iload_n 2, 1) := by decide +kernel
theorem d_Si_lowsWithin_31 : decode (a_cc M_Si_lowsWithin) 31 = .ok (.if_icmp .ge 10, 3) := by decide +kernel
theorem d_Si_lowsWithin_34 : decode (a_cc M_Si_lowsWithin) 34 = .ok (.iload 4, 2) := by decide +kernel
theorem d_Si_lowsWithin_36 : decode (a_cc M_Si_lowsWithin) 36 = .ok (.iload_n 2, 1) := by decide +kernel
theorem d_Si_lowsWithin_37 : decode (a_cc M_Si_lowsWithin) 37 = .ok (.ineg, 1) := by decide +kernel
theorem d_Si_lowsWithin_38 : decode (a_cc M_Si_lowsWithin) 38 = .ok (.if_icmp .gt 5, 3) := by decide +kernel
theorem d_Si_lowsWithin_41 : decode (a_cc M_Si_lowsWithin) 41 = .ok (.iconst 0, 1) := by decide +kernel
theorem d_Si_lowsWithin_42 : decode (a_cc M_Si_lowsWithin) 42 = .ok (.ireturn, 1) := by decide +kernel
theorem d_Si_lowsWithin_43 : decode (a_cc M_Si_lowsWithin) 43 = .ok (.iinc 3 1, 3) := by decide +kernel
theorem d_Si_lowsWithin_46 : decode (a_cc M_Si_lowsWithin) 46 = .ok (.goto (-34), 3) := by decide +kernel
theorem d_Si_lowsWithin_49 : decode (a_cc M_Si_lowsWithin) 49 = .ok (.iconst 1, 1) := by decide +kernel
theorem d_Si_lowsWithin_50 : decode (a_cc M_Si_lowsWithin) 50 = .ok (.ireturn, 1) := by decide +kernel
theorem fd_Si_237 : a_Fd "ModuleSigner$Signer" 237 2 5 0 := ⟨by decide, by decide, rfl, List.mem_append_right _ (List.mem_of_getElem? (i := 102) (by decide +kernel))⟩
theorem cs_Si_lowsWithin_23 : a_CV M_Si_lowsWithin M_Pa_low 240 2 2 0 1 := ⟨⟨ok_Pa_low, by decide, by decide, by decide⟩, by decide, rfl, List.mem_append_right _ (List.mem_of_getElem? (i := 916) (by decide +kernel)), List.mem_append_right _ (List.mem_of_getElem? (i := 917) (by decide +kernel)), List.mem_append_right _ (List.mem_of_getElem? (i := 918) (by decide +kernel)), by decide +kernel⟩
def M_Si_lowsHide : a_M := (⟨"ModuleSigner$Signer", "lowsHide", "(LModuleSigner$Parameters;)Z"⟩, prog_8_method_9_code, 3, some .boolean, "ModuleSigner$Signer", 4, 65, [])
theorem ok_Si_lowsHide : a_Ok M_Si_lowsHide := ⟨rfl, by decide +kernel, ⟨by decide, by decide⟩, List.mem_append_right _ (List.mem_of_getElem? (i := 9) (by decide +kernel)), Or.inl ⟨rfl, List.mem_append_right _ (List.mem_of_getElem? (i := 909) (by decide +kernel))⟩⟩
theorem d_Si_lowsHide_0 : decode (a_cc M_Si_lowsHide) 0 = .ok (.iconst 0, 1) := by decide +kernel
theorem d_Si_lowsHide_1 : decode (a_cc M_Si_lowsHide) 1 = .ok (.istore_n 2, 1) := by decide +kernel
theorem d_Si_lowsHide_2 : decode (a_cc M_Si_lowsHide) 2 = .ok (.iload_n 2, 1) := by decide +kernel
theorem d_Si_lowsHide_3 : decode (a_cc M_Si_lowsHide) 3 = .ok (.aload_n 1, 1) := by decide +kernel
theorem d_Si_lowsHide_4 : decode (a_cc M_Si_lowsHide) 4 = .ok (.getfield 120, 3) := by decide +kernel
theorem d_Si_lowsHide_7 : decode (a_cc M_Si_lowsHide) 7 = .ok (.if_icmp .ge 62, 3) := by decide +kernel
theorem d_Si_lowsHide_10 : decode (a_cc M_Si_lowsHide) 10 = .ok (.aload_n 0, 1) := by decide +kernel
theorem d_Si_lowsHide_11 : decode (a_cc M_Si_lowsHide) 11 = .ok (.getfield 38, 3) := by decide +kernel
theorem d_Si_lowsHide_14 : decode (a_cc M_Si_lowsHide) 14 = .ok (.aload_n 0, 1) := by decide +kernel
theorem d_Si_lowsHide_15 : decode (a_cc M_Si_lowsHide) 15 = .ok (.getfield 38, 3) := by decide +kernel
theorem d_Si_lowsHide_18 : decode (a_cc M_Si_lowsHide) 18 = .ok (.getfield 123, 3) := by decide +kernel
theorem d_Si_lowsHide_21 : decode (a_cc M_Si_lowsHide) 21 = .ok (.iload_n 2, 1) := by decide +kernel
theorem d_Si_lowsHide_22 : decode (a_cc M_Si_lowsHide) 22 = .ok (.aaload, 1) := by decide +kernel
theorem d_Si_lowsHide_23 : decode (a_cc M_Si_lowsHide) 23 = .ok (.invokevirtual 214, 3) := by decide +kernel
theorem d_Si_lowsHide_26 : decode (a_cc M_Si_lowsHide) 26 = .ok (.aload_n 0, 1) := by decide +kernel
theorem d_Si_lowsHide_27 : decode (a_cc M_Si_lowsHide) 27 = .ok (.getfield 38, 3) := by decide +kernel
theorem d_Si_lowsHide_30 : decode (a_cc M_Si_lowsHide) 30 = .ok (.getfield 188, 3) := by decide +kernel
theorem d_Si_lowsHide_33 : decode (a_cc M_Si_lowsHide) 33 = .ok (.iload_n 2, 1) := by decide +kernel
theorem d_Si_lowsHide_34 : decode (a_cc M_Si_lowsHide) 34 = .ok (.aaload, 1) := by decide +kernel
theorem d_Si_lowsHide_35 : decode (a_cc M_Si_lowsHide) 35 = .ok (.aload_n 0, 1) := by decide +kernel
theorem d_Si_lowsHide_36 : decode (a_cc M_Si_lowsHide) 36 = .ok (.getfield 38, 3) := by decide +kernel
theorem d_Si_lowsHide_39 : decode (a_cc M_Si_lowsHide) 39 = .ok (.getfield 194, 3) := by decide +kernel
theorem d_Si_lowsHide_42 : decode (a_cc M_Si_lowsHide) 42 = .ok (.invokestatic 230, 3) := by decide +kernel
theorem d_Si_lowsHide_45 : decode (a_cc M_Si_lowsHide) 45 = .ok (.aload_n 0, 1) := by decide +kernel
theorem d_Si_lowsHide_46 : decode (a_cc M_Si_lowsHide) 46 = .ok (.getfield 38, 3) := by decide +kernel
theorem d_Si_lowsHide_49 : decode (a_cc M_Si_lowsHide) 49 = .ok (.getfield 188, 3) := by decide +kernel
theorem d_Si_lowsHide_52 : decode (a_cc M_Si_lowsHide) 52 = .ok (.iload_n 2, 1) := by decide +kernel
theorem d_Si_lowsHide_53 : decode (a_cc M_Si_lowsHide) 53 = .ok (.aaload, 1) := by decide +kernel
theorem d_Si_lowsHide_54 : decode (a_cc M_Si_lowsHide) 54 = .ok (.aload_n 1, 1) := by decide +kernel
theorem d_Si_lowsHide_55 : decode (a_cc M_Si_lowsHide) 55 = .ok (.invokestatic 233, 3) := by decide +kernel
theorem d_Si_lowsHide_58 : decode (a_cc M_Si_lowsHide) 58 = .ok (.ifCond .ne 5, 3) := by decide +kernel
theorem d_Si_lowsHide_61 : decode (a_cc M_Si_lowsHide) 61 = .ok (.iconst 0, 1) := by decide +kernel
theorem d_Si_lowsHide_62 : decode (a_cc M_Si_lowsHide) 62 = .ok (.ireturn, 1) := by decide +kernel
theorem d_Si_lowsHide_63 : decode (a_cc M_Si_lowsHide) 63 = .ok (.iinc 2 1, 3) := by decide +kernel
theorem d_Si_lowsHide_66 : decode (a_cc M_Si_lowsHide) 66 = .ok (.goto (-64), 3) := by decide +kernel
theorem d_Si_lowsHide_69 : decode (a_cc M_Si_lowsHide) 69 = .ok (.iconst 1, 1) := by decide +kernel
theorem d_Si_lowsHide_70 : decode (a_cc M_Si_lowsHide) 70 = .ok (.ireturn, 1) := by decide +kernel
theorem cs_Si_lowsHide_23 : a_CV M_Si_lowsHide M_Be_multiplyBall 214 3 2 0 1 := ⟨⟨ok_Be_multiplyBall, by decide, by decide, by decide⟩, by decide, rfl, List.mem_append_right _ (List.mem_of_getElem? (i := 894) (by decide +kernel)), List.mem_append_right _ (List.mem_of_getElem? (i := 895) (by decide +kernel)), List.mem_append_right _ (List.mem_of_getElem? (i := 896) (by decide +kernel)), by decide +kernel⟩
theorem cs_Si_lowsHide_42 : a_CS M_Si_lowsHide M_Ri_takeFrom 230 2 0 2 := ⟨⟨ok_Ri_takeFrom, by decide, by decide, by decide⟩, List.mem_append_right _ (List.mem_of_getElem? (i := 910) (by decide +kernel)), List.mem_append_right _ (List.mem_of_getElem? (i := 911) (by decide +kernel)), by decide +kernel⟩
theorem cs_Si_lowsHide_55 : a_CS M_Si_lowsHide M_Si_lowsWithin 233 2 0 2 := ⟨⟨ok_Si_lowsWithin, by decide, by decide, by decide⟩, List.mem_append_right _ (List.mem_of_getElem? (i := 913) (by decide +kernel)), List.mem_append_right _ (List.mem_of_getElem? (i := 914) (by decide +kernel)), by decide +kernel⟩
def M_Si_addHints : a_M := (⟨"ModuleSigner$Signer", "addHints", "([ILModuleSigner$Parameters;)Z"⟩, prog_8_method_12_code, 4, some .boolean, "ModuleSigner$Signer", 2, 30, [])
theorem ok_Si_addHints : a_Ok M_Si_addHints := ⟨rfl, by decide +kernel, ⟨by decide, by decide⟩, List.mem_append_right _ (List.mem_of_getElem? (i := 9) (by decide +kernel)), Or.inl ⟨rfl, List.mem_append_right _ (List.mem_of_getElem? (i := 927) (by decide +kernel))⟩⟩
theorem d_Si_addHints_0 : decode (a_cc M_Si_addHints) 0 = .ok (.iconst 0, 1) := by decide +kernel
theorem d_Si_addHints_1 : decode (a_cc M_Si_addHints) 1 = .ok (.istore_n 3, 1) := by decide +kernel
theorem d_Si_addHints_2 : decode (a_cc M_Si_addHints) 2 = .ok (.iload_n 3, 1) := by decide +kernel
theorem d_Si_addHints_3 : decode (a_cc M_Si_addHints) 3 = .ok (.sipush 256, 3) := by decide +kernel
theorem d_Si_addHints_6 : decode (a_cc M_Si_addHints) 6 = .ok (.if_icmp .ge 62, 3) := by decide +kernel
theorem d_Si_addHints_9 : decode (a_cc M_Si_addHints) 9 = .ok (.aload_n 2, 1) := by decide +kernel
theorem d_Si_addHints_10 : decode (a_cc M_Si_addHints) 10 = .ok (.aload_n 1, 1) := by decide +kernel
theorem d_Si_addHints_11 : decode (a_cc M_Si_addHints) 11 = .ok (.iload_n 3, 1) := by decide +kernel
theorem d_Si_addHints_12 : decode (a_cc M_Si_addHints) 12 = .ok (.iaload, 1) := by decide +kernel
theorem d_Si_addHints_13 : decode (a_cc M_Si_addHints) 13 = .ok (.aload_n 0, 1) := by decide +kernel
theorem d_Si_addHints_14 : decode (a_cc M_Si_addHints) 14 = .ok (.getfield 38, 3) := by decide +kernel
theorem d_Si_addHints_17 : decode (a_cc M_Si_addHints) 17 = .ok (.getfield 194, 3) := by decide +kernel
theorem d_Si_addHints_20 : decode (a_cc M_Si_addHints) 20 = .ok (.iload_n 3, 1) := by decide +kernel
theorem d_Si_addHints_21 : decode (a_cc M_Si_addHints) 21 = .ok (.iaload, 1) := by decide +kernel
theorem d_Si_addHints_22 : decode (a_cc M_Si_addHints) 22 = .ok (.invokestatic 252, 3) := by decide +kernel
theorem d_Si_addHints_25 : decode (a_cc M_Si_addHints) 25 = .ok (.invokevirtual 198, 3) := by decide +kernel
theorem d_Si_addHints_28 : decode (a_cc M_Si_addHints) 28 = .ok (.aload_n 2, 1) := by decide +kernel
theorem d_Si_addHints_29 : decode (a_cc M_Si_addHints) 29 = .ok (.aload_n 1, 1) := by decide +kernel
theorem d_Si_addHints_30 : decode (a_cc M_Si_addHints) 30 = .ok (.iload_n 3, 1) := by decide +kernel
theorem d_Si_addHints_31 : decode (a_cc M_Si_addHints) 31 = .ok (.iaload, 1) := by decide +kernel
theorem d_Si_addHints_32 : decode (a_cc M_Si_addHints) 32 = .ok (.invokevirtual 198, 3) := by decide +kernel
theorem d_Si_addHints_35 : decode (a_cc M_Si_addHints) 35 = .ok (.if_icmp .eq 27, 3) := by decide +kernel
theorem d_Si_addHints_38 : decode (a_cc M_Si_addHints) 38 = .ok (.aload_n 0, 1) := by decide +kernel
theorem d_Si_addHints_39 : decode (a_cc M_Si_addHints) 39 = .ok (.getfield 32, 3) := by decide +kernel
theorem d_Si_addHints_42 : decode (a_cc M_Si_addHints) 42 = .ok (.getfield 246, 3) := by decide +kernel
theorem d_Si_addHints_45 : decode (a_cc M_Si_addHints) 45 = .ok (.aload_n 2, 1) := by decide +kernel
theorem d_Si_addHints_46 : decode (a_cc M_Si_addHints) 46 = .ok (.getfield 256, 3) := by decide +kernel
theorem d_Si_addHints_49 : decode (a_cc M_Si_addHints) 49 = .ok (.if_icmp .lt 5, 3) := by decide +kernel
theorem d_Si_addHints_52 : decode (a_cc M_Si_addHints) 52 = .ok (.iconst 0, 1) := by decide +kernel
theorem d_Si_addHints_53 : decode (a_cc M_Si_addHints) 53 = .ok (.ireturn, 1) := by decide +kernel
theorem d_Si_addHints_54 : decode (a_cc M_Si_addHints) 54 = .ok (.aload_n 0, 1) := by decide +kernel
theorem d_Si_addHints_55 : decode (a_cc M_Si_addHints) 55 = .ok (.getfield 32, 3) := by decide +kernel
theorem d_Si_addHints_58 : decode (a_cc M_Si_addHints) 58 = .ok (.iload_n 3, 1) := by decide +kernel
theorem d_Si_addHints_59 : decode (a_cc M_Si_addHints) 59 = .ok (.invokevirtual 249, 3) := by decide +kernel
theorem d_Si_addHints_62 : decode (a_cc M_Si_addHints) 62 = .ok (.iinc 3 1, 3) := by decide +kernel
theorem d_Si_addHints_65 : decode (a_cc M_Si_addHints) 65 = .ok (.goto (-63), 3) := by decide +kernel
theorem d_Si_addHints_68 : decode (a_cc M_Si_addHints) 68 = .ok (.iconst 1, 1) := by decide +kernel
theorem d_Si_addHints_69 : decode (a_cc M_Si_addHints) 69 = .ok (.ireturn, 1) := by decide +kernel
theorem cs_Si_addHints_22 : a_CS M_Si_addHints M_Ri_plus 252 2 1 2 := ⟨⟨ok_Ri_plus, by decide, by decide, by decide⟩, List.mem_append_right _ (List.mem_of_getElem? (i := 928) (by decide +kernel)), List.mem_append_right _ (List.mem_of_getElem? (i := 722) (by decide +kernel)), by decide +kernel⟩
theorem cs_Si_addHints_25 : a_CV M_Si_addHints M_Pa_high 198 2 2 0 1 := ⟨⟨ok_Pa_high, by decide, by decide, by decide⟩, by decide, rfl, List.mem_append_right _ (List.mem_of_getElem? (i := 866) (by decide +kernel)), List.mem_append_right _ (List.mem_of_getElem? (i := 867) (by decide +kernel)), List.mem_append_right _ (List.mem_of_getElem? (i := 868) (by decide +kernel)), by decide +kernel⟩
theorem cs_Si_addHints_32 : a_CV M_Si_addHints M_Pa_high 198 2 2 1 1 := ⟨⟨ok_Pa_high, by decide, by decide, by decide⟩, by decide, rfl, List.mem_append_right _ (List.mem_of_getElem? (i := 866) (by decide +kernel)), List.mem_append_right _ (List.mem_of_getElem? (i := 867) (by decide +kernel)), List.mem_append_right _ (List.mem_of_getElem? (i := 868) (by decide +kernel)), by decide +kernel⟩
theorem fd_Si_246 : a_Fd "ModuleSigner$Signer" 246 1 1 0 := ⟨by decide, by decide, rfl, List.mem_append_right _ (List.mem_of_getElem? (i := 45) (by decide +kernel))⟩
theorem fd_Si_256 : a_Fd "ModuleSigner$Signer" 256 2 6 0 := ⟨by decide, by decide, rfl, List.mem_append_right _ (List.mem_of_getElem? (i := 105) (by decide +kernel))⟩
theorem cs_Si_addHints_59 : a_CV M_Si_addHints M_By_add 249 1 2 0 1 := ⟨⟨ok_By_add, by decide, by decide, by decide⟩, by decide, rfl, List.mem_append_right _ (List.mem_of_getElem? (i := 929) (by decide +kernel)), List.mem_append_right _ (List.mem_of_getElem? (i := 456) (by decide +kernel)), List.mem_append_right _ (List.mem_of_getElem? (i := 457) (by decide +kernel)), by decide +kernel⟩
def M_Si_hintsSuffice : a_M := (⟨"ModuleSigner$Signer", "hintsSuffice", "(LModuleSigner$Parameters;)Z"⟩, prog_8_method_11_code, 3, some .boolean, "ModuleSigner$Signer", 4, 65, [])
theorem ok_Si_hintsSuffice : a_Ok M_Si_hintsSuffice := ⟨rfl, by decide +kernel, ⟨by decide, by decide⟩, List.mem_append_right _ (List.mem_of_getElem? (i := 9) (by decide +kernel)), Or.inl ⟨rfl, List.mem_append_right _ (List.mem_of_getElem? (i := 923) (by decide +kernel))⟩⟩
theorem d_Si_hintsSuffice_0 : decode (a_cc M_Si_hintsSuffice) 0 = .ok (.aload_n 0, 1) := by decide +kernel
theorem d_Si_hintsSuffice_1 : decode (a_cc M_Si_hintsSuffice) 1 = .ok (.getfield 32, 3) := by decide +kernel
theorem d_Si_hintsSuffice_4 : decode (a_cc M_Si_hintsSuffice) 4 = .ok (.invokevirtual 185, 3) := by decide +kernel
theorem d_Si_hintsSuffice_7 : decode (a_cc M_Si_hintsSuffice) 7 = .ok (.aload_n 0, 1) := by decide +kernel
theorem d_Si_hintsSuffice_8 : decode (a_cc M_Si_hintsSuffice) 8 = .ok (.getfield 35, 3) := by decide +kernel
theorem d_Si_hintsSuffice_11 : decode (a_cc M_Si_hintsSuffice) 11 = .ok (.invokevirtual 185, 3) := by decide +kernel
theorem d_Si_hintsSuffice_14 : decode (a_cc M_Si_hintsSuffice) 14 = .ok (.iconst 0, 1) := by decide +kernel
theorem d_Si_hintsSuffice_15 : decode (a_cc M_Si_hintsSuffice) 15 = .ok (.istore_n 2, 1) := by decide +kernel
theorem d_Si_hintsSuffice_16 : decode (a_cc M_Si_hintsSuffice) 16 = .ok (.iload_n 2, 1) := by decide +kernel
theorem d_Si_hintsSuffice_17 : decode (a_cc M_Si_hintsSuffice) 17 = .ok (.aload_n 1, 1) := by decide +kernel
theorem d_Si_hintsSuffice_18 : decode (a_cc M_Si_hintsSuffice) 18 = .ok (.getfield 120, 3) := by decide +kernel
theorem d_Si_hintsSuffice_21 : decode (a_cc M_Si_hintsSuffice) 21 = .ok (.if_icmp .ge 72, 3) := by decide +kernel
theorem d_Si_hintsSuffice_24 : decode (a_cc M_Si_hintsSuffice) 24 = .ok (.aload_n 0, 1) := by decide +kernel
theorem d_Si_hintsSuffice_25 : decode (a_cc M_Si_hintsSuffice) 25 = .ok (.getfield 38, 3) := by decide +kernel
theorem d_Si_hintsSuffice_28 : decode (a_cc M_Si_hintsSuffice) 28 = .ok (.aload_n 0, 1) := by decide +kernel
theorem d_Si_hintsSuffice_29 : decode (a_cc M_Si_hintsSuffice) 29 = .ok (.getfield 15, 3) := by decide +kernel
theorem d_Si_hintsSuffice_32 : decode (a_cc M_Si_hintsSuffice) 32 = .ok (.iload_n 2, 1) := by decide +kernel
theorem d_Si_hintsSuffice_33 : decode (a_cc M_Si_hintsSuffice) 33 = .ok (.aaload, 1) := by decide +kernel
theorem d_Si_hintsSuffice_34 : decode (a_cc M_Si_hintsSuffice) 34 = .ok (.invokevirtual 214, 3) := by decide +kernel
theorem d_Si_hintsSuffice_37 : decode (a_cc M_Si_hintsSuffice) 37 = .ok (.aload_n 0, 1) := by decide +kernel
theorem d_Si_hintsSuffice_38 : decode (a_cc M_Si_hintsSuffice) 38 = .ok (.getfield 38, 3) := by decide +kernel
theorem d_Si_hintsSuffice_41 : decode (a_cc M_Si_hintsSuffice) 41 = .ok (.getfield 194, 3) := by decide +kernel
theorem d_Si_hintsSuffice_44 : decode (a_cc M_Si_hintsSuffice) 44 = .ok (.aload_n 1, 1) := by decide +kernel
theorem d_Si_hintsSuffice_45 : decode (a_cc M_Si_hintsSuffice) 45 = .ok (.getfield 237, 3) := by decide +kernel
theorem d_Si_hintsSuffice_48 : decode (a_cc M_Si_hintsSuffice) 48 = .ok (.invokestatic 226, 3) := by decide +kernel
theorem d_Si_hintsSuffice_51 : decode (a_cc M_Si_hintsSuffice) 51 = .ok (.ifCond .eq 20, 3) := by decide +kernel
theorem d_Si_hintsSuffice_54 : decode (a_cc M_Si_hintsSuffice) 54 = .ok (.aload_n 0, 1) := by decide +kernel
theorem d_Si_hintsSuffice_55 : decode (a_cc M_Si_hintsSuffice) 55 = .ok (.aload_n 0, 1) := by decide +kernel
theorem d_Si_hintsSuffice_56 : decode (a_cc M_Si_hintsSuffice) 56 = .ok (.getfield 38, 3) := by decide +kernel
theorem d_Si_hintsSuffice_59 : decode (a_cc M_Si_hintsSuffice) 59 = .ok (.getfield 188, 3) := by decide +kernel
theorem d_Si_hintsSuffice_62 : decode (a_cc M_Si_hintsSuffice) 62 = .ok (.iload_n 2, 1) := by decide +kernel
theorem d_Si_hintsSuffice_63 : decode (a_cc M_Si_hintsSuffice) 63 = .ok (.aaload, 1) := by decide +kernel
theorem d_Si_hintsSuffice_64 : decode (a_cc M_Si_hintsSuffice) 64 = .ok (.aload_n 1, 1) := by decide +kernel
theorem d_Si_hintsSuffice_65 : decode (a_cc M_Si_hintsSuffice) 65 = .ok (.invokevirtual 243, 3) := by decide +kernel
theorem d_Si_hintsSuffice_68 : decode (a_cc M_Si_hintsSuffice) 68 = .ok (.ifCond .ne 5, 3) := by decide +kernel
theorem d_Si_hintsSuffice_71 : decode (a_cc M_Si_hintsSuffice) 71 = .ok (.iconst 0, 1) := by decide +kernel
theorem d_Si_hintsSuffice_72 : decode (a_cc M_Si_hintsSuffice) 72 = .ok (.ireturn, 1) := by decide +kernel
theorem d_Si_hintsSuffice_73 : decode (a_cc M_Si_hintsSuffice) 73 = .ok (.aload_n 0, 1) := by decide +kernel
theorem d_Si_hintsSuffice_74 : decode (a_cc M_Si_hintsSuffice) 74 = .ok (.getfield 35, 3) := by decide +kernel
theorem d_Si_hintsSuffice_77 : decode (a_cc M_Si_hintsSuffice) 77 = .ok (.aload_n 0, 1) := by decide +kernel
theorem d_Si_hintsSuffice_78 : decode (a_cc M_Si_hintsSuffice) 78 = .ok (.getfield 32, 3) := by decide +kernel
theorem d_Si_hintsSuffice_81 : decode (a_cc M_Si_hintsSuffice) 81 = .ok (.getfield 246, 3) := by decide +kernel
theorem d_Si_hintsSuffice_84 : decode (a_cc M_Si_hintsSuffice) 84 = .ok (.invokevirtual 249, 3) := by decide +kernel
theorem d_Si_hintsSuffice_87 : decode (a_cc M_Si_hintsSuffice) 87 = .ok (.iinc 2 1, 3) := by decide +kernel
theorem d_Si_hintsSuffice_90 : decode (a_cc M_Si_hintsSuffice) 90 = .ok (.goto (-74), 3) := by decide +kernel
theorem d_Si_hintsSuffice_93 : decode (a_cc M_Si_hintsSuffice) 93 = .ok (.iconst 1, 1) := by decide +kernel
theorem d_Si_hintsSuffice_94 : decode (a_cc M_Si_hintsSuffice) 94 = .ok (.ireturn, 1) := by decide +kernel
theorem cs_Si_hintsSuffice_4 : a_CV M_Si_hintsSuffice M_By_clear 185 1 1 0 0 := ⟨⟨ok_By_clear, by decide, by decide, by decide⟩, by decide, rfl, List.mem_append_right _ (List.mem_of_getElem? (i := 864) (by decide +kernel)), List.mem_append_right _ (List.mem_of_getElem? (i := 502) (by decide +kernel)), List.mem_append_right _ (List.mem_of_getElem? (i := 503) (by decide +kernel)), by decide +kernel⟩
theorem cs_Si_hintsSuffice_11 : a_CV M_Si_hintsSuffice M_By_clear 185 1 1 0 0 := ⟨⟨ok_By_clear, by decide, by decide, by decide⟩, by decide, rfl, List.mem_append_right _ (List.mem_of_getElem? (i := 864) (by decide +kernel)), List.mem_append_right _ (List.mem_of_getElem? (i := 502) (by decide +kernel)), List.mem_append_right _ (List.mem_of_getElem? (i := 503) (by decide +kernel)), by decide +kernel⟩
theorem cs_Si_hintsSuffice_34 : a_CV M_Si_hintsSuffice M_Be_multiplyBall 214 3 2 0 1 := ⟨⟨ok_Be_multiplyBall, by decide, by decide, by decide⟩, by decide, rfl, List.mem_append_right _ (List.mem_of_getElem? (i := 894) (by decide +kernel)), List.mem_append_right _ (List.mem_of_getElem? (i := 895) (by decide +kernel)), List.mem_append_right _ (List.mem_of_getElem? (i := 896) (by decide +kernel)), by decide +kernel⟩
theorem cs_Si_hintsSuffice_48 : a_CS M_Si_hintsSuffice M_Ri_within 226 2 0 2 := ⟨⟨ok_Ri_within, by decide, by decide, by decide⟩, List.mem_append_right _ (List.mem_of_getElem? (i := 903) (by decide +kernel)), List.mem_append_right _ (List.mem_of_getElem? (i := 904) (by decide +kernel)), by decide +kernel⟩
theorem cs_Si_hintsSuffice_65 : a_CV M_Si_hintsSuffice M_Si_addHints 243 5 3 0 2 := ⟨⟨ok_Si_addHints, by decide, by decide, by decide⟩, by decide, rfl, List.mem_append_right _ (List.mem_of_getElem? (i := 924) (by decide +kernel)), List.mem_append_right _ (List.mem_of_getElem? (i := 926) (by decide +kernel)), List.mem_append_left _ (List.mem_of_getElem? (i := 22) (by decide +kernel)), by decide +kernel⟩
theorem cs_Si_hintsSuffice_84 : a_CV M_Si_hintsSuffice M_By_add 249 1 2 0 1 := ⟨⟨ok_By_add, by decide, by decide, by decide⟩, by decide, rfl, List.mem_append_right _ (List.mem_of_getElem? (i := 929) (by decide +kernel)), List.mem_append_right _ (List.mem_of_getElem? (i := 456) (by decide +kernel)), List.mem_append_right _ (List.mem_of_getElem? (i := 457) (by decide +kernel)), by decide +kernel⟩
def M_Si_writePacket : a_M := (⟨"ModuleSigner$Signer", "writePacket", "(LModuleSigner$Bytes;LModuleSigner$Parameters;)V"⟩, prog_8_method_13_code, 4, none, "ModuleSigner$Signer", 2, 30, [])
theorem ok_Si_writePacket : a_Ok M_Si_writePacket := ⟨rfl, by decide +kernel, ⟨by decide, by decide⟩, List.mem_append_right _ (List.mem_of_getElem? (i := 9) (by decide +kernel)), Or.inl ⟨rfl, List.mem_append_right _ (List.mem_of_getElem? (i := 933) (by decide +kernel))⟩⟩
theorem d_Si_writePacket_0 : decode (a_cc M_Si_writePacket) 0 = .ok (.aload_n 1, 1) := by decide +kernel
theorem d_Si_writePacket_1 : decode (a_cc M_Si_writePacket) 1 = .ok (.invokevirtual 185, 3) := by decide +kernel
theorem d_Si_writePacket_4 : decode (a_cc M_Si_writePacket) 4 = .ok (.aload_n 1, 1) := by decide +kernel
theorem d_Si_writePacket_5 : decode (a_cc M_Si_writePacket) 5 = .ok (.aload_n 0, 1) := by decide +kernel
theorem d_Si_writePacket_6 : decode (a_cc M_Si_writePacket) 6 = .ok (.getfield 38, 3) := by decide +kernel
theorem d_Si_writePacket_9 : decode (a_cc M_Si_writePacket) 9 = .ok (.getfield 207, 3) := by decide +kernel
theorem d_Si_writePacket_12 : decode (a_cc M_Si_writePacket) 12 = .ok (.invokevirtual 259, 3) := by decide +kernel
theorem d_Si_writePacket_15 : decode (a_cc M_Si_writePacket) 15 = .ok (.iconst 0, 1) := by decide +kernel
theorem d_Si_writePacket_16 : decode (a_cc M_Si_writePacket) 16 = .ok (.istore_n 3, 1) := by decide +kernel
theorem d_Si_writePacket_17 : decode (a_cc M_Si_writePacket) 17 = .ok (.iload_n 3, 1) := by decide +kernel
theorem d_Si_writePacket_18 : decode (a_cc M_Si_writePacket) 18 = .ok (.aload_n 2, 1) := by decide +kernel
theorem d_Si_writePacket_19 : decode (a_cc M_Si_writePacket) 19 = .ok (.getfield 56, 3) := by decide +kernel
theorem d_Si_writePacket_22 : decode (a_cc M_Si_writePacket) 22 = .ok (.if_icmp .ge 42, 3) := by decide +kernel
theorem d_Si_writePacket_25 : decode (a_cc M_Si_writePacket) 25 = .ok (.aload_n 0, 1) := by decide +kernel
theorem d_Si_writePacket_26 : decode (a_cc M_Si_writePacket) 26 = .ok (.getfield 38, 3) := by decide +kernel
theorem d_Si_writePacket_29 : decode (a_cc M_Si_writePacket) 29 = .ok (.getfield 175, 3) := by decide +kernel
theorem d_Si_writePacket_32 : decode (a_cc M_Si_writePacket) 32 = .ok (.iload_n 3, 1) := by decide +kernel
theorem d_Si_writePacket_33 : decode (a_cc M_Si_writePacket) 33 = .ok (.aaload, 1) := by decide +kernel
theorem d_Si_writePacket_34 : decode (a_cc M_Si_writePacket) 34 = .ok (.aload_n 2, 1) := by decide +kernel
theorem d_Si_writePacket_35 : decode (a_cc M_Si_writePacket) 35 = .ok (.getfield 220, 3) := by decide +kernel
theorem d_Si_writePacket_38 : decode (a_cc M_Si_writePacket) 38 = .ok (.invokestatic 130, 3) := by decide +kernel
theorem d_Si_writePacket_41 : decode (a_cc M_Si_writePacket) 41 = .ok (.aload_n 1, 1) := by decide +kernel
theorem d_Si_writePacket_42 : decode (a_cc M_Si_writePacket) 42 = .ok (.aload_n 0, 1) := by decide +kernel
theorem d_Si_writePacket_43 : decode (a_cc M_Si_writePacket) 43 = .ok (.getfield 38, 3) := by decide +kernel
theorem d_Si_writePacket_46 : decode (a_cc M_Si_writePacket) 46 = .ok (.getfield 175, 3) := by decide +kernel
theorem d_Si_writePacket_49 : decode (a_cc M_Si_writePacket) 49 = .ok (.iload_n 3, 1) := by decide +kernel
theorem d_Si_writePacket_50 : decode (a_cc M_Si_writePacket) 50 = .ok (.aaload, 1) := by decide +kernel
theorem d_Si_writePacket_51 : decode (a_cc M_Si_writePacket) 51 = .ok (.aload_n 2, 1) := by decide +kernel
theorem d_Si_writePacket_52 : decode (a_cc M_Si_writePacket) 52 = .ok (.getfield 263, 3) := by decide +kernel
theorem d_Si_writePacket_55 : decode (a_cc M_Si_writePacket) 55 = .ok (.invokevirtual 204, 3) := by decide +kernel
theorem d_Si_writePacket_58 : decode (a_cc M_Si_writePacket) 58 = .ok (.iinc 3 1, 3) := by decide +kernel
theorem d_Si_writePacket_61 : decode (a_cc M_Si_writePacket) 61 = .ok (.goto (-44), 3) := by decide +kernel
theorem d_Si_writePacket_64 : decode (a_cc M_Si_writePacket) 64 = .ok (.aload_n 0, 1) := by decide +kernel
theorem d_Si_writePacket_65 : decode (a_cc M_Si_writePacket) 65 = .ok (.getfield 32, 3) := by decide +kernel
theorem d_Si_writePacket_68 : decode (a_cc M_Si_writePacket) 68 = .ok (.aload_n 2, 1) := by decide +kernel
theorem d_Si_writePacket_69 : decode (a_cc M_Si_writePacket) 69 = .ok (.getfield 256, 3) := by decide +kernel
theorem d_Si_writePacket_72 : decode (a_cc M_Si_writePacket) 72 = .ok (.invokevirtual 266, 3) := by decide +kernel
theorem d_Si_writePacket_75 : decode (a_cc M_Si_writePacket) 75 = .ok (.aload_n 1, 1) := by decide +kernel
theorem d_Si_writePacket_76 : decode (a_cc M_Si_writePacket) 76 = .ok (.aload_n 0, 1) := by decide +kernel
theorem d_Si_writePacket_77 : decode (a_cc M_Si_writePacket) 77 = .ok (.getfield 32, 3) := by decide +kernel
theorem d_Si_writePacket_80 : decode (a_cc M_Si_writePacket) 80 = .ok (.invokevirtual 259, 3) := by decide +kernel
theorem d_Si_writePacket_83 : decode (a_cc M_Si_writePacket) 83 = .ok (.aload_n 1, 1) := by decide +kernel
theorem d_Si_writePacket_84 : decode (a_cc M_Si_writePacket) 84 = .ok (.aload_n 0, 1) := by decide +kernel
theorem d_Si_writePacket_85 : decode (a_cc M_Si_writePacket) 85 = .ok (.getfield 35, 3) := by decide +kernel
theorem d_Si_writePacket_88 : decode (a_cc M_Si_writePacket) 88 = .ok (.invokevirtual 259, 3) := by decide +kernel
theorem d_Si_writePacket_91 : decode (a_cc M_Si_writePacket) 91 = .ok (.return_, 1) := by decide +kernel
theorem cs_Si_writePacket_1 : a_CV M_Si_writePacket M_By_clear 185 1 1 0 0 := ⟨⟨ok_By_clear, by decide, by decide, by decide⟩, by decide, rfl, List.mem_append_right _ (List.mem_of_getElem? (i := 864) (by decide +kernel)), List.mem_append_right _ (List.mem_of_getElem? (i := 502) (by decide +kernel)), List.mem_append_right _ (List.mem_of_getElem? (i := 503) (by decide +kernel)), by decide +kernel⟩
theorem cs_Si_writePacket_12 : a_CV M_Si_writePacket M_By_addAll 259 1 2 0 1 := ⟨⟨ok_By_addAll, by decide, by decide, by decide⟩, by decide, rfl, List.mem_append_right _ (List.mem_of_getElem? (i := 934) (by decide +kernel)), List.mem_append_right _ (List.mem_of_getElem? (i := 765) (by decide +kernel)), List.mem_append_right _ (List.mem_of_getElem? (i := 766) (by decide +kernel)), by decide +kernel⟩
theorem cs_Si_writePacket_38 : a_CS M_Si_writePacket M_Ri_mirror 130 2 0 2 := ⟨⟨ok_Ri_mirror, by decide, by decide, by decide⟩, List.mem_append_right _ (List.mem_of_getElem? (i := 825) (by decide +kernel)), List.mem_append_right _ (List.mem_of_getElem? (i := 772) (by decide +kernel)), by decide +kernel⟩
theorem fd_Si_263 : a_Fd "ModuleSigner$Signer" 263 2 11 0 := ⟨by decide, by decide, rfl, List.mem_append_right _ (List.mem_of_getElem? (i := 119) (by decide +kernel))⟩
theorem cs_Si_writePacket_55 : a_CV M_Si_writePacket M_By_addBits 204 1 3 0 2 := ⟨⟨ok_By_addBits, by decide, by decide, by decide⟩, by decide, rfl, List.mem_append_right _ (List.mem_of_getElem? (i := 874) (by decide +kernel)), List.mem_append_right _ (List.mem_of_getElem? (i := 757) (by decide +kernel)), List.mem_append_right _ (List.mem_of_getElem? (i := 758) (by decide +kernel)), by decide +kernel⟩
theorem cs_Si_writePacket_72 : a_CV M_Si_writePacket M_By_stretch 266 1 2 0 1 := ⟨⟨ok_By_stretch, by decide, by decide, by decide⟩, by decide, rfl, List.mem_append_right _ (List.mem_of_getElem? (i := 935) (by decide +kernel)), List.mem_append_right _ (List.mem_of_getElem? (i := 520) (by decide +kernel)), List.mem_append_right _ (List.mem_of_getElem? (i := 521) (by decide +kernel)), by decide +kernel⟩
theorem cs_Si_writePacket_80 : a_CV M_Si_writePacket M_By_addAll 259 1 2 0 1 := ⟨⟨ok_By_addAll, by decide, by decide, by decide⟩, by decide, rfl, List.mem_append_right _ (List.mem_of_getElem? (i := 934) (by decide +kernel)), List.mem_append_right _ (List.mem_of_getElem? (i := 765) (by decide +kernel)), List.mem_append_right _ (List.mem_of_getElem? (i := 766) (by decide +kernel)), by decide +kernel⟩
theorem cs_Si_writePacket_88 : a_CV M_Si_writePacket M_By_addAll 259 1 2 0 1 := ⟨⟨ok_By_addAll, by decide, by decide, by decide⟩, by decide, rfl, List.mem_append_right _ (List.mem_of_getElem? (i := 934) (by decide +kernel)), List.mem_append_right _ (List.mem_of_getElem? (i := 765) (by decide +kernel)), List.mem_append_right _ (List.mem_of_getElem? (i := 766) (by decide +kernel)), by decide +kernel⟩
def M_Si_sign : a_M := (⟨"ModuleSigner$Signer", "sign", "([LModuleSigner$Bytes;LModuleSigner$Parameters;I)I"⟩, prog_8_method_2_code, 5, some .int, "ModuleSigner$Signer", 9, 131, [])
theorem ok_Si_sign : a_Ok M_Si_sign := ⟨rfl, by decide +kernel, ⟨by decide, by decide⟩, List.mem_append_right _ (List.mem_of_getElem? (i := 9) (by decide +kernel)), Or.inl ⟨rfl, List.mem_append_right _ (List.mem_of_getElem? (i := 811) (by decide +kernel))⟩⟩
theorem d_Si_sign_0 : decode (a_cc M_Si_sign) 0 = .ok (.aload_n 0, 1) := by decide +kernel
theorem d_Si_sign_1 : decode (a_cc M_Si_sign) 1 = .ok (.aload_n 1, 1) := by decide +kernel
theorem d_Si_sign_2 : decode (a_cc M_Si_sign) 2 = .ok (.iconst 2, 1) := by decide +kernel
theorem d_Si_sign_3 : decode (a_cc M_Si_sign) 3 = .ok (.aaload, 1) := by decide +kernel
theorem d_Si_sign_4 : decode (a_cc M_Si_sign) 4 = .ok (.aload_n 2, 1) := by decide +kernel
theorem d_Si_sign_5 : decode (a_cc M_Si_sign) 5 = .ok (.invokevirtual 42, 3) := by decide +kernel
theorem d_Si_sign_8 : decode (a_cc M_Si_sign) 8 = .ok (.aload_n 0, 1) := by decide +kernel
theorem d_Si_sign_9 : decode (a_cc M_Si_sign) 9 = .ok (.getfield 38, 3) := by decide +kernel
theorem d_Si_sign_12 : decode (a_cc M_Si_sign) 12 = .ok (.aload_n 1, 1) := by decide +kernel
theorem d_Si_sign_13 : decode (a_cc M_Si_sign) 13 = .ok (.iconst 2, 1) := by decide +kernel
theorem d_Si_sign_14 : decode (a_cc M_Si_sign) 14 = .ok (.aaload, 1) := by decide +kernel
theorem d_Si_sign_15 : decode (a_cc M_Si_sign) 15 = .ok (.bipush 64, 2) := by decide +kernel
theorem d_Si_sign_17 : decode (a_cc M_Si_sign) 17 = .ok (.aload_n 1, 1) := by decide +kernel
theorem d_Si_sign_18 : decode (a_cc M_Si_sign) 18 = .ok (.iload_n 3, 1) := by decide +kernel
theorem d_Si_sign_19 : decode (a_cc M_Si_sign) 19 = .ok (.invokevirtual 48, 3) := by decide +kernel
theorem d_Si_sign_22 : decode (a_cc M_Si_sign) 22 = .ok (.aload_n 0, 1) := by decide +kernel
theorem d_Si_sign_23 : decode (a_cc M_Si_sign) 23 = .ok (.aload_n 1, 1) := by decide +kernel
theorem d_Si_sign_24 : decode (a_cc M_Si_sign) 24 = .ok (.iconst 2, 1) := by decide +kernel
theorem d_Si_sign_25 : decode (a_cc M_Si_sign) 25 = .ok (.aaload, 1) := by decide +kernel
theorem d_Si_sign_26 : decode (a_cc M_Si_sign) 26 = .ok (.aload_n 1, 1) := by decide +kernel
theorem d_Si_sign_27 : decode (a_cc M_Si_sign) 27 = .ok (.iconst 0, 1) := by decide +kernel
theorem d_Si_sign_28 : decode (a_cc M_Si_sign) 28 = .ok (.aaload, 1) := by decide +kernel
theorem d_Si_sign_29 : decode (a_cc M_Si_sign) 29 = .ok (.invokevirtual 52, 3) := by decide +kernel
theorem d_Si_sign_32 : decode (a_cc M_Si_sign) 32 = .ok (.iconst 0, 1) := by decide +kernel
theorem d_Si_sign_33 : decode (a_cc M_Si_sign) 33 = .ok (.istore 4, 2) := by decide +kernel
theorem d_Si_sign_35 : decode (a_cc M_Si_sign) 35 = .ok (.iload 4, 2) := by decide +kernel
theorem d_Si_sign_37 : decode (a_cc M_Si_sign) 37 = .ok (.sipush 814, 3) := by decide +kernel
theorem d_Si_sign_40 : decode (a_cc M_Si_sign) 40 = .ok (.if_icmp .ge 71, 3) := by decide +kernel
theorem d_Si_sign_43 : decode (a_cc M_Si_sign) 43 = .ok (.aload_n 0, 1) := by decide +kernel
theorem d_Si_sign_44 : decode (a_cc M_Si_sign) 44 = .ok (.aload_n 2, 1) := by decide +kernel
theorem d_Si_sign_45 : decode (a_cc M_Si_sign) 45 = .ok (.iload 4, 2) := by decide +kernel
theorem d_Si_sign_47 : decode (a_cc M_Si_sign) 47 = .ok (.aload_n 2, 1) := by decide +kernel
theorem d_Si_sign_48 : decode (a_cc M_Si_sign) 48 = .ok (.getfield 56, 3) := by decide +kernel
theorem d_Si_sign_51 : decode (a_cc M_Si_sign) 51 = .ok (.imul, 1) := by decide +kernel
theorem d_Si_sign_52 : decode (a_cc M_Si_sign) 52 = .ok (.invokevirtual 60, 3) := by decide +kernel
theorem d_Si_sign_55 : decode (a_cc M_Si_sign) 55 = .ok (.aload_n 0, 1) := by decide +kernel
theorem d_Si_sign_56 : decode (a_cc M_Si_sign) 56 = .ok (.aload_n 2, 1) := by decide +kernel
theorem d_Si_sign_57 : decode (a_cc M_Si_sign) 57 = .ok (.invokevirtual 64, 3) := by decide +kernel
theorem d_Si_sign_60 : decode (a_cc M_Si_sign) 60 = .ok (.aload_n 0, 1) := by decide +kernel
theorem d_Si_sign_61 : decode (a_cc M_Si_sign) 61 = .ok (.getfield 38, 3) := by decide +kernel
theorem d_Si_sign_64 : decode (a_cc M_Si_sign) 64 = .ok (.aload_n 2, 1) := by decide +kernel
theorem d_Si_sign_65 : decode (a_cc M_Si_sign) 65 = .ok (.invokevirtual 68, 3) := by decide +kernel
theorem d_Si_sign_68 : decode (a_cc M_Si_sign) 68 = .ok (.aload_n 0, 1) := by decide +kernel
theorem d_Si_sign_69 : decode (a_cc M_Si_sign) 69 = .ok (.aload_n 2, 1) := by decide +kernel
theorem d_Si_sign_70 : decode (a_cc M_Si_sign) 70 = .ok (.invokevirtual 71, 3) := by decide +kernel
theorem d_Si_sign_73 : decode (a_cc M_Si_sign) 73 = .ok (.ifCond .eq 32, 3) := by decide +kernel
theorem d_Si_sign_76 : decode (a_cc M_Si_sign) 76 = .ok (.aload_n 0, 1) := by decide +kernel
theorem d_Si_sign_77 : decode (a_cc M_Si_sign) 77 = .ok (.aload_n 2, 1) := by decide +kernel
theorem d_Si_sign_78 : decode (a_cc M_Si_sign) 78 = .ok (.invokevirtual 75, 3) := by decide +kernel
theorem d_Si_sign_81 : decode (a_cc M_Si_sign) 81 = .ok (.ifCond .eq 24, 3) := by decide +kernel
theorem d_Si_sign_84 : decode (a_cc M_Si_sign) 84 = .ok (.aload_n 0, 1) := by decide +kernel
theorem d_Si_sign_85 : decode (a_cc M_Si_sign) 85 = .ok (.aload_n 2, 1) := by decide +kernel
theorem d_Si_sign_86 : decode (a_cc M_Si_sign) 86 = .ok (.invokevirtual 78, 3) := by decide +kernel
theorem d_Si_sign_89 : decode (a_cc M_Si_sign) 89 = .ok (.ifCond .eq 16, 3) := by decide +kernel
theorem d_Si_sign_92 : decode (a_cc M_Si_sign) 92 = .ok (.aload_n 0, 1) := by decide +kernel
theorem d_Si_sign_93 : decode (a_cc M_Si_sign) 93 = .ok (.aload_n 1, 1) := by decide +kernel
theorem d_Si_sign_94 : decode (a_cc M_Si_sign) 94 = .ok (.iconst 5, 1) := by decide +kernel
theorem d_Si_sign_95 : decode (a_cc M_Si_sign) 95 = .ok (.aaload, 1) := by decide +kernel
theorem d_Si_sign_96 : decode (a_cc M_Si_sign) 96 = .ok (.aload_n 2, 1) := by decide +kernel
theorem d_Si_sign_97 : decode (a_cc M_Si_sign) 97 = .ok (.invokevirtual 81, 3) := by decide +kernel
theorem d_Si_sign_100 : decode (a_cc M_Si_sign) 100 = .ok (.iload 4, 2) := by decide +kernel
theorem d_Si_sign_102 : decode (a_cc M_Si_sign) 102 = .ok (.iconst 1, 1) := by decide +kernel
theorem d_Si_sign_103 : decode (a_cc M_Si_sign) 103 = .ok (.iadd, 1) := by decide +kernel
theorem d_Si_sign_104 : decode (a_cc M_Si_sign) 104 = .ok (.ireturn, 1) := by decide +kernel
theorem d_Si_sign_105 : decode (a_cc M_Si_sign) 105 = .ok (.iinc 4 1, 3) := by decide +kernel
theorem d_Si_sign_108 : decode (a_cc M_Si_sign) 108 = .ok (.goto (-73), 3) := by decide +kernel
theorem d_Si_sign_111 : decode (a_cc M_Si_sign) 111 = .ok (.new 84, 3) := by decide +kernel
theorem d_Si_sign_114 : decode (a_cc M_Si_sign) 114 = .ok (.dup, 1) := by decide +kernel
theorem d_Si_sign_115 : decode (a_cc M_Si_sign) 115 = .ok (.ldc 86, 2) := by decide +kernel
theorem d_Si_sign_117 : decode (a_cc M_Si_sign) 117 = .ok (.invokespecial 88, 3) := by decide +kernel
theorem d_Si_sign_120 : decode (a_cc M_Si_sign) 120 = .ok (.athrow, 1) := by decide +kernel
theorem cs_Si_sign_5 : a_CV M_Si_sign M_Si_readSecret 42 5 3 0 2 := ⟨⟨ok_Si_readSecret, by decide, by decide, by decide⟩, by decide, rfl, List.mem_append_right _ (List.mem_of_getElem? (i := 812) (by decide +kernel)), List.mem_append_right _ (List.mem_of_getElem? (i := 814) (by decide +kernel)), List.mem_append_left _ (List.mem_of_getElem? (i := 13) (by decide +kernel)), by decide +kernel⟩
theorem cs_Si_sign_19 : a_CV M_Si_sign M_Be_digestSigned 48 3 5 0 4 := ⟨⟨ok_Be_digestSigned, by decide, by decide, by decide⟩, by decide, rfl, List.mem_append_right _ (List.mem_of_getElem? (i := 828) (by decide +kernel)), List.mem_append_right _ (List.mem_of_getElem? (i := 829) (by decide +kernel)), List.mem_append_right _ (List.mem_of_getElem? (i := 830) (by decide +kernel)), by decide +kernel⟩
theorem cs_Si_sign_29 : a_CV M_Si_sign M_Si_drawMaskSeed 52 5 3 0 2 := ⟨⟨ok_Si_drawMaskSeed, by decide, by decide, by decide⟩, by decide, rfl, List.mem_append_right _ (List.mem_of_getElem? (i := 837) (by decide +kernel)), List.mem_append_right _ (List.mem_of_getElem? (i := 839) (by decide +kernel)), List.mem_append_left _ (List.mem_of_getElem? (i := 15) (by decide +kernel)), by decide +kernel⟩
theorem cs_Si_sign_52 : a_CV M_Si_sign M_Si_drawMasks 60 5 3 0 2 := ⟨⟨ok_Si_drawMasks, by decide, by decide, by decide⟩, by decide, rfl, List.mem_append_right _ (List.mem_of_getElem? (i := 845) (by decide +kernel)), List.mem_append_right _ (List.mem_of_getElem? (i := 847) (by decide +kernel)), List.mem_append_left _ (List.mem_of_getElem? (i := 16) (by decide +kernel)), by decide +kernel⟩
theorem cs_Si_sign_57 : a_CV M_Si_sign M_Si_commit 64 5 2 0 1 := ⟨⟨ok_Si_commit, by decide, by decide, by decide⟩, by decide, rfl, List.mem_append_right _ (List.mem_of_getElem? (i := 859) (by decide +kernel)), List.mem_append_right _ (List.mem_of_getElem? (i := 861) (by decide +kernel)), List.mem_append_left _ (List.mem_of_getElem? (i := 17) (by decide +kernel)), by decide +kernel⟩
theorem cs_Si_sign_65 : a_CV M_Si_sign M_Be_castBall 68 3 2 0 1 := ⟨⟨ok_Be_castBall, by decide, by decide, by decide⟩, by decide, rfl, List.mem_append_right _ (List.mem_of_getElem? (i := 879) (by decide +kernel)), List.mem_append_right _ (List.mem_of_getElem? (i := 880) (by decide +kernel)), List.mem_append_right _ (List.mem_of_getElem? (i := 881) (by decide +kernel)), by decide +kernel⟩
theorem cs_Si_sign_70 : a_CV M_Si_sign M_Si_answersHide 71 5 2 0 1 := ⟨⟨ok_Si_answersHide, by decide, by decide, by decide⟩, by decide, rfl, List.mem_append_right _ (List.mem_of_getElem? (i := 890) (by decide +kernel)), List.mem_append_right _ (List.mem_of_getElem? (i := 892) (by decide +kernel)), List.mem_append_left _ (List.mem_of_getElem? (i := 19) (by decide +kernel)), by decide +kernel⟩
theorem cs_Si_sign_78 : a_CV M_Si_sign M_Si_lowsHide 75 5 2 0 1 := ⟨⟨ok_Si_lowsHide, by decide, by decide, by decide⟩, by decide, rfl, List.mem_append_right _ (List.mem_of_getElem? (i := 906) (by decide +kernel)), List.mem_append_right _ (List.mem_of_getElem? (i := 908) (by decide +kernel)), List.mem_append_left _ (List.mem_of_getElem? (i := 20) (by decide +kernel)), by decide +kernel⟩
theorem cs_Si_sign_86 : a_CV M_Si_sign M_Si_hintsSuffice 78 5 2 0 1 := ⟨⟨ok_Si_hintsSuffice, by decide, by decide, by decide⟩, by decide, rfl, List.mem_append_right _ (List.mem_of_getElem? (i := 920) (by decide +kernel)), List.mem_append_right _ (List.mem_of_getElem? (i := 922) (by decide +kernel)), List.mem_append_left _ (List.mem_of_getElem? (i := 21) (by decide +kernel)), by decide +kernel⟩
theorem cs_Si_sign_97 : a_CV M_Si_sign M_Si_writePacket 81 5 3 0 2 := ⟨⟨ok_Si_writePacket, by decide, by decide, by decide⟩, by decide, rfl, List.mem_append_right _ (List.mem_of_getElem? (i := 930) (by decide +kernel)), List.mem_append_right _ (List.mem_of_getElem? (i := 932) (by decide +kernel)), List.mem_append_left _ (List.mem_of_getElem? (i := 23) (by decide +kernel)), by decide +kernel⟩
theorem th_Si_sign_111 : a_Th M_Si_sign 111 4 0 := ⟨_, _, _, "no try held", d_Si_sign_111, d_Si_sign_114, d_Si_sign_115, d_Si_sign_117, d_Si_sign_120, List.mem_append_right _ (List.mem_of_getElem? (i := 937) (by decide +kernel)), by decide, List.mem_append_right _ (List.mem_of_getElem? (i := 936) (by decide +kernel)), List.mem_append_right _ (List.mem_of_getElem? (i := 938) (by decide +kernel)), rfl, by decide, by decide⟩
def M_MS_dsaSign : a_M := (⟨"ModuleSigner", "dsaSign", "(II)I"⟩, prog_1_method_11_code, 3, some .int, "ModuleSigner", 10, 147, [])
theorem ok_MS_dsaSign : a_Ok M_MS_dsaSign := ⟨rfl, by decide +kernel, ⟨by decide, by decide⟩, List.mem_append_right _ (List.mem_of_getElem? (i := 1) (by decide +kernel)), Or.inl ⟨rfl, List.mem_append_right _ (List.mem_of_getElem? (i := 781) (by decide +kernel))⟩⟩
theorem d_MS_dsaSign_0 : decode (a_cc M_MS_dsaSign) 0 = .ok (.iload_n 1, 1) := by decide +kernel
theorem d_MS_dsaSign_1 : decode (a_cc M_MS_dsaSign) 1 = .ok (.invokestatic 108, 3) := by decide +kernel
theorem d_MS_dsaSign_4 : decode (a_cc M_MS_dsaSign) 4 = .ok (.iload_n 2, 1) := by decide +kernel
theorem d_MS_dsaSign_5 : decode (a_cc M_MS_dsaSign) 5 = .ok (.invokestatic 120, 3) := by decide +kernel
theorem d_MS_dsaSign_8 : decode (a_cc M_MS_dsaSign) 8 = .ok (.aload_n 0, 1) := by decide +kernel
theorem d_MS_dsaSign_9 : decode (a_cc M_MS_dsaSign) 9 = .ok (.iload_n 2, 1) := by decide +kernel
theorem d_MS_dsaSign_10 : decode (a_cc M_MS_dsaSign) 10 = .ok (.invokevirtual 123, 3) := by decide +kernel
theorem d_MS_dsaSign_13 : decode (a_cc M_MS_dsaSign) 13 = .ok (.aload_n 0, 1) := by decide +kernel
theorem d_MS_dsaSign_14 : decode (a_cc M_MS_dsaSign) 14 = .ok (.getfield 11, 3) := by decide +kernel
theorem d_MS_dsaSign_17 : decode (a_cc M_MS_dsaSign) 17 = .ok (.iconst 0, 1) := by decide +kernel
theorem d_MS_dsaSign_18 : decode (a_cc M_MS_dsaSign) 18 = .ok (.aaload, 1) := by decide +kernel
theorem d_MS_dsaSign_19 : decode (a_cc M_MS_dsaSign) 19 = .ok (.getfield 55, 3) := by decide +kernel
theorem d_MS_dsaSign_22 : decode (a_cc M_MS_dsaSign) 22 = .ok (.bipush 32, 2) := by decide +kernel
theorem d_MS_dsaSign_24 : decode (a_cc M_MS_dsaSign) 24 = .ok (.if_icmp .eq 25, 3) := by decide +kernel
theorem d_MS_dsaSign_27 : decode (a_cc M_MS_dsaSign) 27 = .ok (.aload_n 0, 1) := by decide +kernel
theorem d_MS_dsaSign_28 : decode (a_cc M_MS_dsaSign) 28 = .ok (.getfield 11, 3) := by decide +kernel
theorem d_MS_dsaSign_31 : decode (a_cc M_MS_dsaSign) 31 = .ok (.iconst 0, 1) := by decide +kernel
theorem d_MS_dsaSign_32 : decode (a_cc M_MS_dsaSign) 32 = .ok (.aaload, 1) := by decide +kernel
theorem d_MS_dsaSign_33 : decode (a_cc M_MS_dsaSign) 33 = .ok (.getfield 55, 3) := by decide +kernel
theorem d_MS_dsaSign_36 : decode (a_cc M_MS_dsaSign) 36 = .ok (.ifCond .eq 13, 3) := by decide +kernel
theorem d_MS_dsaSign_39 : decode (a_cc M_MS_dsaSign) 39 = .ok (.new 111, 3) := by decide +kernel
theorem d_MS_dsaSign_42 : decode (a_cc M_MS_dsaSign) 42 = .ok (.dup, 1) := by decide +kernel
theorem d_MS_dsaSign_43 : decode (a_cc M_MS_dsaSign) 43 = .ok (.ldc 126, 2) := by decide +kernel
theorem d_MS_dsaSign_45 : decode (a_cc M_MS_dsaSign) 45 = .ok (.invokespecial 115, 3) := by decide +kernel
theorem d_MS_dsaSign_48 : decode (a_cc M_MS_dsaSign) 48 = .ok (.athrow, 1) := by decide +kernel
theorem d_MS_dsaSign_49 : decode (a_cc M_MS_dsaSign) 49 = .ok (.aload_n 0, 1) := by decide +kernel
theorem d_MS_dsaSign_50 : decode (a_cc M_MS_dsaSign) 50 = .ok (.getfield 11, 3) := by decide +kernel
theorem d_MS_dsaSign_53 : decode (a_cc M_MS_dsaSign) 53 = .ok (.iconst 2, 1) := by decide +kernel
theorem d_MS_dsaSign_54 : decode (a_cc M_MS_dsaSign) 54 = .ok (.aaload, 1) := by decide +kernel
theorem d_MS_dsaSign_55 : decode (a_cc M_MS_dsaSign) 55 = .ok (.getfield 55, 3) := by decide +kernel
theorem d_MS_dsaSign_58 : decode (a_cc M_MS_dsaSign) 58 = .ok (.aload_n 0, 1) := by decide +kernel
theorem d_MS_dsaSign_59 : decode (a_cc M_MS_dsaSign) 59 = .ok (.getfield 24, 3) := by decide +kernel
theorem d_MS_dsaSign_62 : decode (a_cc M_MS_dsaSign) 62 = .ok (.iload_n 1, 1) := by decide +kernel
theorem d_MS_dsaSign_63 : decode (a_cc M_MS_dsaSign) 63 = .ok (.aaload, 1) := by decide +kernel
theorem d_MS_dsaSign_64 : decode (a_cc M_MS_dsaSign) 64 = .ok (.getfield 128, 3) := by decide +kernel
theorem d_MS_dsaSign_67 : decode (a_cc M_MS_dsaSign) 67 = .ok (.if_icmp .eq 13, 3) := by decide +kernel
theorem d_MS_dsaSign_70 : decode (a_cc M_MS_dsaSign) 70 = .ok (.new 131, 3) := by decide +kernel
theorem d_MS_dsaSign_73 : decode (a_cc M_MS_dsaSign) 73 = .ok (.dup, 1) := by decide +kernel
theorem d_MS_dsaSign_74 : decode (a_cc M_MS_dsaSign) 74 = .ok (.ldc 133, 2) := by decide +kernel
theorem d_MS_dsaSign_76 : decode (a_cc M_MS_dsaSign) 76 = .ok (.invokespecial 135, 3) := by decide +kernel
theorem d_MS_dsaSign_79 : decode (a_cc M_MS_dsaSign) 79 = .ok (.athrow, 1) := by decide +kernel
theorem d_MS_dsaSign_80 : decode (a_cc M_MS_dsaSign) 80 = .ok (.aload_n 0, 1) := by decide +kernel
theorem d_MS_dsaSign_81 : decode (a_cc M_MS_dsaSign) 81 = .ok (.getfield 44, 3) := by decide +kernel
theorem d_MS_dsaSign_84 : decode (a_cc M_MS_dsaSign) 84 = .ok (.aload_n 0, 1) := by decide +kernel
theorem d_MS_dsaSign_85 : decode (a_cc M_MS_dsaSign) 85 = .ok (.getfield 11, 3) := by decide +kernel
theorem d_MS_dsaSign_88 : decode (a_cc M_MS_dsaSign) 88 = .ok (.aload_n 0, 1) := by decide +kernel
theorem d_MS_dsaSign_89 : decode (a_cc M_MS_dsaSign) 89 = .ok (.getfield 24, 3) := by decide +kernel
theorem d_MS_dsaSign_92 : decode (a_cc M_MS_dsaSign) 92 = .ok (.iload_n 1, 1) := by decide +kernel
theorem d_MS_dsaSign_93 : decode (a_cc M_MS_dsaSign) 93 = .ok (.aaload, 1) := by decide +kernel
theorem d_MS_dsaSign_94 : decode (a_cc M_MS_dsaSign) 94 = .ok (.iload_n 2, 1) := by decide +kernel
theorem d_MS_dsaSign_95 : decode (a_cc M_MS_dsaSign) 95 = .ok (.invokevirtual 136, 3) := by decide +kernel
theorem d_MS_dsaSign_98 : decode (a_cc M_MS_dsaSign) 98 = .ok (.ireturn, 1) := by decide +kernel
theorem cs_MS_dsaSign_1 : a_CS M_MS_dsaSign M_MS_needSet 108 1 0 1 := ⟨⟨ok_MS_needSet, by decide, by decide, by decide⟩, List.mem_append_right _ (List.mem_of_getElem? (i := 575) (by decide +kernel)), List.mem_append_right _ (List.mem_of_getElem? (i := 576) (by decide +kernel)), by decide +kernel⟩
theorem cs_MS_dsaSign_5 : a_CS M_MS_dsaSign M_MS_needHow 120 1 0 1 := ⟨⟨ok_MS_needHow, by decide, by decide, by decide⟩, List.mem_append_right _ (List.mem_of_getElem? (i := 782) (by decide +kernel)), List.mem_append_right _ (List.mem_of_getElem? (i := 783) (by decide +kernel)), by decide +kernel⟩
theorem cs_MS_dsaSign_10 : a_CV M_MS_dsaSign M_MS_needContext 123 0 2 0 1 := ⟨⟨ok_MS_needContext, by decide, by decide, by decide⟩, by decide, rfl, List.mem_append_right _ (List.mem_of_getElem? (i := 786) (by decide +kernel)), List.mem_append_right _ (List.mem_of_getElem? (i := 788) (by decide +kernel)), List.mem_append_left _ (List.mem_of_getElem? (i := 12) (by decide +kernel)), by decide +kernel⟩
theorem th_MS_dsaSign_39 : a_Th M_MS_dsaSign 39 2 0 := ⟨_, _, _, "RANDOM has neither 32 bytes nor none", d_MS_dsaSign_39, d_MS_dsaSign_42, d_MS_dsaSign_43, d_MS_dsaSign_45, d_MS_dsaSign_48, List.mem_append_right _ (List.mem_of_getElem? (i := 791) (by decide +kernel)), by decide, List.mem_append_right _ (List.mem_of_getElem? (i := 579) (by decide +kernel)), List.mem_append_right _ (List.mem_of_getElem? (i := 589) (by decide +kernel)), rfl, by decide, by decide⟩
theorem fd_MS_128 : a_Fd "ModuleSigner" 128 2 14 0 := ⟨by decide, by decide, rfl, List.mem_append_right _ (List.mem_of_getElem? (i := 126) (by decide +kernel))⟩
theorem th_MS_dsaSign_70 : a_Th M_MS_dsaSign 70 3 0 := ⟨_, _, _, "SECRET is no key of this set", d_MS_dsaSign_70, d_MS_dsaSign_73, d_MS_dsaSign_74, d_MS_dsaSign_76, d_MS_dsaSign_79, List.mem_append_right _ (List.mem_of_getElem? (i := 801) (by decide +kernel)), by decide, List.mem_append_right _ (List.mem_of_getElem? (i := 792) (by decide +kernel)), List.mem_append_right _ (List.mem_of_getElem? (i := 802) (by decide +kernel)), rfl, by decide, by decide⟩
theorem cs_MS_dsaSign_95 : a_CV M_MS_dsaSign M_Si_sign 136 5 4 0 3 := ⟨⟨ok_Si_sign, by decide, by decide, by decide⟩, by decide, rfl, List.mem_append_right _ (List.mem_of_getElem? (i := 808) (by decide +kernel)), List.mem_append_right _ (List.mem_of_getElem? (i := 809) (by decide +kernel)), List.mem_append_right _ (List.mem_of_getElem? (i := 810) (by decide +kernel)), by decide +kernel⟩
def M_La_dsaSign : a_M := (⟨"ModuleSignerLaw", "dsaSign", "(LModuleSigner;II[J)I"⟩, method_12_code, 5, some .int, "ModuleSignerLaw", 11, 163, [(0, 10, 13, 19), (0, 10, 17, 46), (0, 10, 21, 53), (0, 10, 25, 48)])
theorem ok_La_dsaSign : a_Ok M_La_dsaSign := ⟨rfl, by decide +kernel, ⟨by decide, by decide⟩, List.mem_append_right _ (List.mem_of_getElem? (i := 0) (by decide +kernel)), Or.inr (List.mem_append_right _ (List.mem_of_getElem? (i := 776) (by decide +kernel)))⟩
theorem d_La_dsaSign_0 : decode (a_cc M_La_dsaSign) 0 = .ok (.aload_n 3, 1) := by decide +kernel
theorem d_La_dsaSign_1 : decode (a_cc M_La_dsaSign) 1 = .ok (.iconst 0, 1) := by decide +kernel
theorem d_La_dsaSign_2 : decode (a_cc M_La_dsaSign) 2 = .ok (.aload_n 0, 1) := by decide +kernel
theorem d_La_dsaSign_3 : decode (a_cc M_La_dsaSign) 3 = .ok (.iload_n 1, 1) := by decide +kernel
theorem d_La_dsaSign_4 : decode (a_cc M_La_dsaSign) 4 = .ok (.iload_n 2, 1) := by decide +kernel
theorem d_La_dsaSign_5 : decode (a_cc M_La_dsaSign) 5 = .ok (.invokevirtual 50, 3) := by decide +kernel
theorem d_La_dsaSign_8 : decode (a_cc M_La_dsaSign) 8 = .ok (.i2l, 1) := by decide +kernel
theorem d_La_dsaSign_9 : decode (a_cc M_La_dsaSign) 9 = .ok (.lastore, 1) := by decide +kernel
theorem d_La_dsaSign_10 : decode (a_cc M_La_dsaSign) 10 = .ok (.goto 19, 3) := by decide +kernel
theorem d_La_dsaSign_13 : decode (a_cc M_La_dsaSign) 13 = .ok (.astore 4, 2) := by decide +kernel
theorem d_La_dsaSign_15 : decode (a_cc M_La_dsaSign) 15 = .ok (.iconst 1, 1) := by decide +kernel
theorem d_La_dsaSign_16 : decode (a_cc M_La_dsaSign) 16 = .ok (.ireturn, 1) := by decide +kernel
theorem d_La_dsaSign_17 : decode (a_cc M_La_dsaSign) 17 = .ok (.astore 4, 2) := by decide +kernel
theorem d_La_dsaSign_19 : decode (a_cc M_La_dsaSign) 19 = .ok (.iconst 2, 1) := by decide +kernel
theorem d_La_dsaSign_20 : decode (a_cc M_La_dsaSign) 20 = .ok (.ireturn, 1) := by decide +kernel
theorem d_La_dsaSign_21 : decode (a_cc M_La_dsaSign) 21 = .ok (.astore 4, 2) := by decide +kernel
theorem d_La_dsaSign_23 : decode (a_cc M_La_dsaSign) 23 = .ok (.iconst 3, 1) := by decide +kernel
theorem d_La_dsaSign_24 : decode (a_cc M_La_dsaSign) 24 = .ok (.ireturn, 1) := by decide +kernel
theorem d_La_dsaSign_25 : decode (a_cc M_La_dsaSign) 25 = .ok (.astore 4, 2) := by decide +kernel
theorem d_La_dsaSign_27 : decode (a_cc M_La_dsaSign) 27 = .ok (.iconst 4, 1) := by decide +kernel
theorem d_La_dsaSign_28 : decode (a_cc M_La_dsaSign) 28 = .ok (.ireturn, 1) := by decide +kernel
theorem d_La_dsaSign_29 : decode (a_cc M_La_dsaSign) 29 = .ok (.iconst 0, 1) := by decide +kernel
theorem d_La_dsaSign_30 : decode (a_cc M_La_dsaSign) 30 = .ok (.ireturn, 1) := by decide +kernel
theorem cs_La_dsaSign_5 : a_CV M_La_dsaSign M_MS_dsaSign 50 0 3 2 2 := ⟨⟨ok_MS_dsaSign, by decide, by decide, by decide⟩, by decide, rfl, List.mem_append_right _ (List.mem_of_getElem? (i := 778) (by decide +kernel)), List.mem_append_right _ (List.mem_of_getElem? (i := 779) (by decide +kernel)), List.mem_append_right _ (List.mem_of_getElem? (i := 780) (by decide +kernel)), by decide +kernel⟩
def M_Mo_context : a_M := (⟨"ModuleSignerModel", "context", "(I)Z"⟩, prog_12_method_62_code, 2, some .boolean, "ModuleSignerModel", 0, 0, [])
theorem ok_Mo_context : a_Ok M_Mo_context := ⟨rfl, by decide +kernel, ⟨by decide, by decide⟩, List.mem_append_right _ (List.mem_of_getElem? (i := 11) (by decide +kernel)), Or.inl ⟨rfl, List.mem_append_right _ (List.mem_of_getElem? (i := 1362) (by decide +kernel))⟩⟩
theorem d_Mo_context_0 : decode (a_cc M_Mo_context) 0 = .ok (.iload_n 1, 1) := by decide +kernel
theorem d_Mo_context_1 : decode (a_cc M_Mo_context) 1 = .ok (.ifCond .lt 15, 3) := by decide +kernel
theorem d_Mo_context_4 : decode (a_cc M_Mo_context) 4 = .ok (.aload_n 0, 1) := by decide +kernel
theorem d_Mo_context_5 : decode (a_cc M_Mo_context) 5 = .ok (.getfield 18, 3) := by decide +kernel
theorem d_Mo_context_8 : decode (a_cc M_Mo_context) 8 = .ok (.iconst 4, 1) := by decide +kernel
theorem d_Mo_context_9 : decode (a_cc M_Mo_context) 9 = .ok (.iaload, 1) := by decide +kernel
theorem d_Mo_context_10 : decode (a_cc M_Mo_context) 10 = .ok (.sipush 255, 3) := by decide +kernel
theorem d_Mo_context_13 : decode (a_cc M_Mo_context) 13 = .ok (.if_icmp .gt 7, 3) := by decide +kernel
theorem d_Mo_context_16 : decode (a_cc M_Mo_context) 16 = .ok (.iconst 1, 1) := by decide +kernel
theorem d_Mo_context_17 : decode (a_cc M_Mo_context) 17 = .ok (.goto 4, 3) := by decide +kernel
theorem d_Mo_context_20 : decode (a_cc M_Mo_context) 20 = .ok (.iconst 0, 1) := by decide +kernel
theorem d_Mo_context_21 : decode (a_cc M_Mo_context) 21 = .ok (.ireturn, 1) := by decide +kernel
def M_Mo_before : a_M := (⟨"ModuleSignerModel", "before", "(I)V"⟩, prog_12_method_60_code, 2, none, "ModuleSignerModel", 5, 97, [])
theorem ok_Mo_before : a_Ok M_Mo_before := ⟨rfl, by decide +kernel, ⟨by decide, by decide⟩, List.mem_append_right _ (List.mem_of_getElem? (i := 11) (by decide +kernel)), Or.inl ⟨rfl, List.mem_append_right _ (List.mem_of_getElem? (i := 1370) (by decide +kernel))⟩⟩
theorem d_Mo_before_0 : decode (a_cc M_Mo_before) 0 = .ok (.iload_n 1, 1) := by decide +kernel
theorem d_Mo_before_1 : decode (a_cc M_Mo_before) 1 = .ok (.iconst 1, 1) := by decide +kernel
theorem d_Mo_before_2 : decode (a_cc M_Mo_before) 2 = .ok (.if_icmp .ge 4, 3) := by decide +kernel
theorem d_Mo_before_5 : decode (a_cc M_Mo_before) 5 = .ok (.return_, 1) := by decide +kernel
theorem d_Mo_before_6 : decode (a_cc M_Mo_before) 6 = .ok (.aload_n 0, 1) := by decide +kernel
theorem d_Mo_before_7 : decode (a_cc M_Mo_before) 7 = .ok (.iload_n 1, 1) := by decide +kernel
theorem d_Mo_before_8 : decode (a_cc M_Mo_before) 8 = .ok (.invokevirtual 148, 3) := by decide +kernel
theorem d_Mo_before_11 : decode (a_cc M_Mo_before) 11 = .ok (.aload_n 0, 1) := by decide +kernel
theorem d_Mo_before_12 : decode (a_cc M_Mo_before) 12 = .ok (.aload_n 0, 1) := by decide +kernel
theorem d_Mo_before_13 : decode (a_cc M_Mo_before) 13 = .ok (.getfield 15, 3) := by decide +kernel
theorem d_Mo_before_16 : decode (a_cc M_Mo_before) 16 = .ok (.iconst 3, 1) := by decide +kernel
theorem d_Mo_before_17 : decode (a_cc M_Mo_before) 17 = .ok (.aaload, 1) := by decide +kernel
theorem d_Mo_before_18 : decode (a_cc M_Mo_before) 18 = .ok (.iconst 0, 1) := by decide +kernel
theorem d_Mo_before_19 : decode (a_cc M_Mo_before) 19 = .ok (.aload_n 0, 1) := by decide +kernel
theorem d_Mo_before_20 : decode (a_cc M_Mo_before) 20 = .ok (.getfield 18, 3) := by decide +kernel
theorem d_Mo_before_23 : decode (a_cc M_Mo_before) 23 = .ok (.iconst 3, 1) := by decide +kernel
theorem d_Mo_before_24 : decode (a_cc M_Mo_before) 24 = .ok (.iaload, 1) := by decide +kernel
theorem d_Mo_before_25 : decode (a_cc M_Mo_before) 25 = .ok (.invokevirtual 268, 3) := by decide +kernel
theorem d_Mo_before_28 : decode (a_cc M_Mo_before) 28 = .ok (.aload_n 0, 1) := by decide +kernel
theorem d_Mo_before_29 : decode (a_cc M_Mo_before) 29 = .ok (.aload_n 0, 1) := by decide +kernel
theorem d_Mo_before_30 : decode (a_cc M_Mo_before) 30 = .ok (.getfield 90, 3) := by decide +kernel
theorem d_Mo_before_33 : decode (a_cc M_Mo_before) 33 = .ok (.iconst 0, 1) := by decide +kernel
theorem d_Mo_before_34 : decode (a_cc M_Mo_before) 34 = .ok (.iload_n 1, 1) := by decide +kernel
theorem d_Mo_before_35 : decode (a_cc M_Mo_before) 35 = .ok (.invokestatic 169, 3) := by decide +kernel
theorem d_Mo_before_38 : decode (a_cc M_Mo_before) 38 = .ok (.invokevirtual 290, 3) := by decide +kernel
theorem d_Mo_before_41 : decode (a_cc M_Mo_before) 41 = .ok (.return_, 1) := by decide +kernel
theorem cs_Mo_before_8 : a_CV M_Mo_before M_Mo_begin 148 10 2 0 1 := ⟨⟨ok_Mo_begin, by decide, by decide, by decide⟩, by decide, rfl, List.mem_append_right _ (List.mem_of_getElem? (i := 1046) (by decide +kernel)), List.mem_append_right _ (List.mem_of_getElem? (i := 1048) (by decide +kernel)), List.mem_append_left _ (List.mem_of_getElem? (i := 33) (by decide +kernel)), by decide +kernel⟩
theorem cs_Mo_before_25 : a_CV M_Mo_before M_Mo_put3 268 10 4 0 3 := ⟨⟨ok_Mo_put3, by decide, by decide, by decide⟩, by decide, rfl, List.mem_append_right _ (List.mem_of_getElem? (i := 1293) (by decide +kernel)), List.mem_append_right _ (List.mem_of_getElem? (i := 1295) (by decide +kernel)), List.mem_append_left _ (List.mem_of_getElem? (i := 44) (by decide +kernel)), by decide +kernel⟩
theorem cs_Mo_before_35 : a_CS M_Mo_before M_Mo_digestOf 169 1 3 1 := ⟨⟨ok_Mo_digestOf, by decide, by decide, by decide⟩, List.mem_append_right _ (List.mem_of_getElem? (i := 1050) (by decide +kernel)), List.mem_append_right _ (List.mem_of_getElem? (i := 1051) (by decide +kernel)), by decide +kernel⟩
theorem cs_Mo_before_38 : a_CV M_Mo_before M_Mo_give 290 10 4 0 3 := ⟨⟨ok_Mo_give, by decide, by decide, by decide⟩, by decide, rfl, List.mem_append_right _ (List.mem_of_getElem? (i := 1297) (by decide +kernel)), List.mem_append_right _ (List.mem_of_getElem? (i := 1299) (by decide +kernel)), List.mem_append_left _ (List.mem_of_getElem? (i := 45) (by decide +kernel)), by decide +kernel⟩
def M_Mo_putSigned : a_M := (⟨"ModuleSignerModel", "putSigned", "(I)V"⟩, prog_12_method_61_code, 2, none, "ModuleSignerModel", 4, 82, [])
theorem ok_Mo_putSigned : a_Ok M_Mo_putSigned := ⟨rfl, by decide +kernel, ⟨by decide, by decide⟩, List.mem_append_right _ (List.mem_of_getElem? (i := 11) (by decide +kernel)), Or.inl ⟨rfl, List.mem_append_right _ (List.mem_of_getElem? (i := 1374) (by decide +kernel))⟩⟩
theorem d_Mo_putSigned_0 : decode (a_cc M_Mo_putSigned) 0 = .ok (.iload_n 1, 1) := by decide +kernel
theorem d_Mo_putSigned_1 : decode (a_cc M_Mo_putSigned) 1 = .ok (.ifCond .lt 43, 3) := by decide +kernel
theorem d_Mo_putSigned_4 : decode (a_cc M_Mo_putSigned) 4 = .ok (.aload_n 0, 1) := by decide +kernel
theorem d_Mo_putSigned_5 : decode (a_cc M_Mo_putSigned) 5 = .ok (.iload_n 1, 1) := by decide +kernel
theorem d_Mo_putSigned_6 : decode (a_cc M_Mo_putSigned) 6 = .ok (.ifCond .ne 7, 3) := by decide +kernel
theorem d_Mo_putSigned_9 : decode (a_cc M_Mo_putSigned) 9 = .ok (.iconst 0, 1) := by decide +kernel
theorem d_Mo_putSigned_10 : decode (a_cc M_Mo_putSigned) 10 = .ok (.goto 4, 3) := by decide +kernel
theorem d_Mo_putSigned_13 : decode (a_cc M_Mo_putSigned) 13 = .ok (.iconst 1, 1) := by decide +kernel
theorem d_Mo_putSigned_14 : decode (a_cc M_Mo_putSigned) 14 = .ok (.invokevirtual 153, 3) := by decide +kernel
theorem d_Mo_putSigned_17 : decode (a_cc M_Mo_putSigned) 17 = .ok (.aload_n 0, 1) := by decide +kernel
theorem d_Mo_putSigned_18 : decode (a_cc M_Mo_putSigned) 18 = .ok (.aload_n 0, 1) := by decide +kernel
theorem d_Mo_putSigned_19 : decode (a_cc M_Mo_putSigned) 19 = .ok (.getfield 18, 3) := by decide +kernel
theorem d_Mo_putSigned_22 : decode (a_cc M_Mo_putSigned) 22 = .ok (.iconst 4, 1) := by decide +kernel
theorem d_Mo_putSigned_23 : decode (a_cc M_Mo_putSigned) 23 = .ok (.iaload, 1) := by decide +kernel
theorem d_Mo_putSigned_24 : decode (a_cc M_Mo_putSigned) 24 = .ok (.invokevirtual 153, 3) := by decide +kernel
theorem d_Mo_putSigned_27 : decode (a_cc M_Mo_putSigned) 27 = .ok (.aload_n 0, 1) := by decide +kernel
theorem d_Mo_putSigned_28 : decode (a_cc M_Mo_putSigned) 28 = .ok (.aload_n 0, 1) := by decide +kernel
theorem d_Mo_putSigned_29 : decode (a_cc M_Mo_putSigned) 29 = .ok (.getfield 15, 3) := by decide +kernel
theorem d_Mo_putSigned_32 : decode (a_cc M_Mo_putSigned) 32 = .ok (.iconst 4, 1) := by decide +kernel
theorem d_Mo_putSigned_33 : decode (a_cc M_Mo_putSigned) 33 = .ok (.aaload, 1) := by decide +kernel
theorem d_Mo_putSigned_34 : decode (a_cc M_Mo_putSigned) 34 = .ok (.iconst 0, 1) := by decide +kernel
theorem d_Mo_putSigned_35 : decode (a_cc M_Mo_putSigned) 35 = .ok (.aload_n 0, 1) := by decide +kernel
theorem d_Mo_putSigned_36 : decode (a_cc M_Mo_putSigned) 36 = .ok (.getfield 18, 3) := by decide +kernel
theorem d_Mo_putSigned_39 : decode (a_cc M_Mo_putSigned) 39 = .ok (.iconst 4, 1) := by decide +kernel
theorem d_Mo_putSigned_40 : decode (a_cc M_Mo_putSigned) 40 = .ok (.iaload, 1) := by decide +kernel
theorem d_Mo_putSigned_41 : decode (a_cc M_Mo_putSigned) 41 = .ok (.invokevirtual 268, 3) := by decide +kernel
theorem d_Mo_putSigned_44 : decode (a_cc M_Mo_putSigned) 44 = .ok (.iload_n 1, 1) := by decide +kernel
theorem d_Mo_putSigned_45 : decode (a_cc M_Mo_putSigned) 45 = .ok (.ifCond .le 81, 3) := by decide +kernel
theorem d_Mo_putSigned_48 : decode (a_cc M_Mo_putSigned) 48 = .ok (.aload_n 0, 1) := by decide +kernel
theorem d_Mo_putSigned_49 : decode (a_cc M_Mo_putSigned) 49 = .ok (.bipush 6, 2) := by decide +kernel
theorem d_Mo_putSigned_51 : decode (a_cc M_Mo_putSigned) 51 = .ok (.invokevirtual 153, 3) := by decide +kernel
theorem d_Mo_putSigned_54 : decode (a_cc M_Mo_putSigned) 54 = .ok (.aload_n 0, 1) := by decide +kernel
theorem d_Mo_putSigned_55 : decode (a_cc M_Mo_putSigned) 55 = .ok (.bipush 9, 2) := by decide +kernel
theorem d_Mo_putSigned_57 : decode (a_cc M_Mo_putSigned) 57 = .ok (.invokevirtual 153, 3) := by decide +kernel
theorem d_Mo_putSigned_60 : decode (a_cc M_Mo_putSigned) 60 = .ok (.aload_n 0, 1) := by decide +kernel
theorem d_Mo_putSigned_61 : decode (a_cc M_Mo_putSigned) 61 = .ok (.bipush 96, 2) := by decide +kernel
theorem d_Mo_putSigned_63 : decode (a_cc M_Mo_putSigned) 63 = .ok (.invokevirtual 153, 3) := by decide +kernel
theorem d_Mo_putSigned_66 : decode (a_cc M_Mo_putSigned) 66 = .ok (.aload_n 0, 1) := by decide +kernel
theorem d_Mo_putSigned_67 : decode (a_cc M_Mo_putSigned) 67 = .ok (.sipush 134, 3) := by decide +kernel
theorem d_Mo_putSigned_70 : decode (a_cc M_Mo_putSigned) 70 = .ok (.invokevirtual 153, 3) := by decide +kernel
theorem d_Mo_putSigned_73 : decode (a_cc M_Mo_putSigned) 73 = .ok (.aload_n 0, 1) := by decide +kernel
theorem d_Mo_putSigned_74 : decode (a_cc M_Mo_putSigned) 74 = .ok (.bipush 72, 2) := by decide +kernel
theorem d_Mo_putSigned_76 : decode (a_cc M_Mo_putSigned) 76 = .ok (.invokevirtual 153, 3) := by decide +kernel
theorem d_Mo_putSigned_79 : decode (a_cc M_Mo_putSigned) 79 = .ok (.aload_n 0, 1) := by decide +kernel
theorem d_Mo_putSigned_80 : decode (a_cc M_Mo_putSigned) 80 = .ok (.iconst 1, 1) := by decide +kernel
theorem d_Mo_putSigned_81 : decode (a_cc M_Mo_putSigned) 81 = .ok (.invokevirtual 153, 3) := by decide +kernel
theorem d_Mo_putSigned_84 : decode (a_cc M_Mo_putSigned) 84 = .ok (.aload_n 0, 1) := by decide +kernel
theorem d_Mo_putSigned_85 : decode (a_cc M_Mo_putSigned) 85 = .ok (.bipush 101, 2) := by decide +kernel
theorem d_Mo_putSigned_87 : decode (a_cc M_Mo_putSigned) 87 = .ok (.invokevirtual 153, 3) := by decide +kernel
theorem d_Mo_putSigned_90 : decode (a_cc M_Mo_putSigned) 90 = .ok (.aload_n 0, 1) := by decide +kernel
theorem d_Mo_putSigned_91 : decode (a_cc M_Mo_putSigned) 91 = .ok (.iconst 3, 1) := by decide +kernel
theorem d_Mo_putSigned_92 : decode (a_cc M_Mo_putSigned) 92 = .ok (.invokevirtual 153, 3) := by decide +kernel
theorem d_Mo_putSigned_95 : decode (a_cc M_Mo_putSigned) 95 = .ok (.aload_n 0, 1) := by decide +kernel
theorem d_Mo_putSigned_96 : decode (a_cc M_Mo_putSigned) 96 = .ok (.iconst 4, 1) := by decide +kernel
theorem d_Mo_putSigned_97 : decode (a_cc M_Mo_putSigned) 97 = .ok (.invokevirtual 153, 3) := by decide +kernel
theorem d_Mo_putSigned_100 : decode (a_cc M_Mo_putSigned) 100 = .ok (.aload_n 0, 1) := by decide +kernel
theorem d_Mo_putSigned_101 : decode (a_cc M_Mo_putSigned) 101 = .ok (.iconst 2, 1) := by decide +kernel
theorem d_Mo_putSigned_102 : decode (a_cc M_Mo_putSigned) 102 = .ok (.invokevirtual 153, 3) := by decide +kernel
theorem d_Mo_putSigned_105 : decode (a_cc M_Mo_putSigned) 105 = .ok (.aload_n 0, 1) := by decide +kernel
theorem d_Mo_putSigned_106 : decode (a_cc M_Mo_putSigned) 106 = .ok (.iload_n 1, 1) := by decide +kernel
theorem d_Mo_putSigned_107 : decode (a_cc M_Mo_putSigned) 107 = .ok (.invokevirtual 153, 3) := by decide +kernel
theorem d_Mo_putSigned_110 : decode (a_cc M_Mo_putSigned) 110 = .ok (.aload_n 0, 1) := by decide +kernel
theorem d_Mo_putSigned_111 : decode (a_cc M_Mo_putSigned) 111 = .ok (.aload_n 0, 1) := by decide +kernel
theorem d_Mo_putSigned_112 : decode (a_cc M_Mo_putSigned) 112 = .ok (.getfield 90, 3) := by decide +kernel
theorem d_Mo_putSigned_115 : decode (a_cc M_Mo_putSigned) 115 = .ok (.iconst 0, 1) := by decide +kernel
theorem d_Mo_putSigned_116 : decode (a_cc M_Mo_putSigned) 116 = .ok (.iload_n 1, 1) := by decide +kernel
theorem d_Mo_putSigned_117 : decode (a_cc M_Mo_putSigned) 117 = .ok (.invokestatic 169, 3) := by decide +kernel
theorem d_Mo_putSigned_120 : decode (a_cc M_Mo_putSigned) 120 = .ok (.invokevirtual 268, 3) := by decide +kernel
theorem d_Mo_putSigned_123 : decode (a_cc M_Mo_putSigned) 123 = .ok (.goto 20, 3) := by decide +kernel
theorem d_Mo_putSigned_126 : decode (a_cc M_Mo_putSigned) 126 = .ok (.aload_n 0, 1) := by decide +kernel
theorem d_Mo_putSigned_127 : decode (a_cc M_Mo_putSigned) 127 = .ok (.aload_n 0, 1) := by decide +kernel
theorem d_Mo_putSigned_128 : decode (a_cc M_Mo_putSigned) 128 = .ok (.getfield 15, 3) := by decide +kernel
theorem d_Mo_putSigned_131 : decode (a_cc M_Mo_putSigned) 131 = .ok (.iconst 3, 1) := by decide +kernel
theorem d_Mo_putSigned_132 : decode (a_cc M_Mo_putSigned) 132 = .ok (.aaload, 1) := by decide +kernel
theorem d_Mo_putSigned_133 : decode (a_cc M_Mo_putSigned) 133 = .ok (.iconst 0, 1) := by decide +kernel
theorem d_Mo_putSigned_134 : decode (a_cc M_Mo_putSigned) 134 = .ok (.aload_n 0, 1) := by decide +kernel
theorem d_Mo_putSigned_135 : decode (a_cc M_Mo_putSigned) 135 = .ok (.getfield 18, 3) := by decide +kernel
theorem d_Mo_putSigned_138 : decode (a_cc M_Mo_putSigned) 138 = .ok (.iconst 3, 1) := by decide +kernel
theorem d_Mo_putSigned_139 : decode (a_cc M_Mo_putSigned) 139 = .ok (.iaload, 1) := by decide +kernel
theorem d_Mo_putSigned_140 : decode (a_cc M_Mo_putSigned) 140 = .ok (.invokevirtual 268, 3) := by decide +kernel
theorem d_Mo_putSigned_143 : decode (a_cc M_Mo_putSigned) 143 = .ok (.return_, 1) := by decide +kernel
theorem cs_Mo_putSigned_14 : a_CV M_Mo_putSigned M_Mo_put1 153 10 2 0 1 := ⟨⟨ok_Mo_put1, by decide, by decide, by decide⟩, by decide, rfl, List.mem_append_right _ (List.mem_of_getElem? (i := 1058) (by decide +kernel)), List.mem_append_right _ (List.mem_of_getElem? (i := 1060) (by decide +kernel)), List.mem_append_left _ (List.mem_of_getElem? (i := 34) (by decide +kernel)), by decide +kernel⟩
theorem cs_Mo_putSigned_24 : a_CV M_Mo_putSigned M_Mo_put1 153 10 2 0 1 := ⟨⟨ok_Mo_put1, by decide, by decide, by decide⟩, by decide, rfl, List.mem_append_right _ (List.mem_of_getElem? (i := 1058) (by decide +kernel)), List.mem_append_right _ (List.mem_of_getElem? (i := 1060) (by decide +kernel)), List.mem_append_left _ (List.mem_of_getElem? (i := 34) (by decide +kernel)), by decide +kernel⟩
theorem cs_Mo_putSigned_41 : a_CV M_Mo_putSigned M_Mo_put3 268 10 4 0 3 := ⟨⟨ok_Mo_put3, by decide, by decide, by decide⟩, by decide, rfl, List.mem_append_right _ (List.mem_of_getElem? (i := 1293) (by decide +kernel)), List.mem_append_right _ (List.mem_of_getElem? (i := 1295) (by decide +kernel)), List.mem_append_left _ (List.mem_of_getElem? (i := 44) (by decide +kernel)), by decide +kernel⟩
theorem cs_Mo_putSigned_51 : a_CV M_Mo_putSigned M_Mo_put1 153 10 2 0 1 := ⟨⟨ok_Mo_put1, by decide, by decide, by decide⟩, by decide, rfl, List.mem_append_right _ (List.mem_of_getElem? (i := 1058) (by decide +kernel)), List.mem_append_right _ (List.mem_of_getElem? (i := 1060) (by decide +kernel)), List.mem_append_left _ (List.mem_of_getElem? (i := 34) (by decide +kernel)), by decide +kernel⟩
theorem cs_Mo_putSigned_57 : a_CV M_Mo_putSigned M_Mo_put1 153 10 2 0 1 := ⟨⟨ok_Mo_put1, by decide, by decide, by decide⟩, by decide, rfl, List.mem_append_right _ (List.mem_of_getElem? (i := 1058) (by decide +kernel)), List.mem_append_right _ (List.mem_of_getElem? (i := 1060) (by decide +kernel)), List.mem_append_left _ (List.mem_of_getElem? (i := 34) (by decide +kernel)), by decide +kernel⟩
theorem cs_Mo_putSigned_63 : a_CV M_Mo_putSigned M_Mo_put1 153 10 2 0 1 := ⟨⟨ok_Mo_put1, by decide, by decide, by decide⟩, by decide, rfl, List.mem_append_right _ (List.mem_of_getElem? (i := 1058) (by decide +kernel)), List.mem_append_right _ (List.mem_of_getElem? (i := 1060) (by decide +kernel)), List.mem_append_left _ (List.mem_of_getElem? (i := 34) (by decide +kernel)), by decide +kernel⟩
theorem cs_Mo_putSigned_70 : a_CV M_Mo_putSigned M_Mo_put1 153 10 2 0 1 := ⟨⟨ok_Mo_put1, by decide, by decide, by decide⟩, by decide, rfl, List.mem_append_right _ (List.mem_of_getElem? (i := 1058) (by decide +kernel)), List.mem_append_right _ (List.mem_of_getElem? (i := 1060) (by decide +kernel)), List.mem_append_left _ (List.mem_of_getElem? (i := 34) (by decide +kernel)), by decide +kernel⟩
theorem cs_Mo_putSigned_76 : a_CV M_Mo_putSigned M_Mo_put1 153 10 2 0 1 := ⟨⟨ok_Mo_put1, by decide, by decide, by decide⟩, by decide, rfl, List.mem_append_right _ (List.mem_of_getElem? (i := 1058) (by decide +kernel)), List.mem_append_right _ (List.mem_of_getElem? (i := 1060) (by decide +kernel)), List.mem_append_left _ (List.mem_of_getElem? (i := 34) (by decide +kernel)), by decide +kernel⟩
theorem cs_Mo_putSigned_81 : a_CV M_Mo_putSigned M_Mo_put1 153 10 2 0 1 := ⟨⟨ok_Mo_put1, by decide, by decide, by decide⟩, by decide, rfl, List.mem_append_right _ (List.mem_of_getElem? (i := 1058) (by decide +kernel)), List.mem_append_right _ (List.mem_of_getElem? (i := 1060) (by decide +kernel)), List.mem_append_left _ (List.mem_of_getElem? (i := 34) (by decide +kernel)), by decide +kernel⟩
theorem cs_Mo_putSigned_87 : a_CV M_Mo_putSigned M_Mo_put1 153 10 2 0 1 := ⟨⟨ok_Mo_put1, by decide, by decide, by decide⟩, by decide, rfl, List.mem_append_right _ (List.mem_of_getElem? (i := 1058) (by decide +kernel)), List.mem_append_right _ (List.mem_of_getElem? (i := 1060) (by decide +kernel)), List.mem_append_left _ (List.mem_of_getElem? (i := 34) (by decide +kernel)), by decide +kernel⟩
theorem cs_Mo_putSigned_92 : a_CV M_Mo_putSigned M_Mo_put1 153 10 2 0 1 := ⟨⟨ok_Mo_put1, by decide, by decide, by decide⟩, by decide, rfl, List.mem_append_right _ (List.mem_of_getElem? (i := 1058) (by decide +kernel)), List.mem_append_right _ (List.mem_of_getElem? (i := 1060) (by decide +kernel)), List.mem_append_left _ (List.mem_of_getElem? (i := 34) (by decide +kernel)), by decide +kernel⟩
theorem cs_Mo_putSigned_97 : a_CV M_Mo_putSigned M_Mo_put1 153 10 2 0 1 := ⟨⟨ok_Mo_put1, by decide, by decide, by decide⟩, by decide, rfl, List.mem_append_right _ (List.mem_of_getElem? (i := 1058) (by decide +kernel)), List.mem_append_right _ (List.mem_of_getElem? (i := 1060) (by decide +kernel)), List.mem_append_left _ (List.mem_of_getElem? (i := 34) (by decide +kernel)), by decide +kernel⟩
theorem cs_Mo_putSigned_102 : a_CV M_Mo_putSigned M_Mo_put1 153 10 2 0 1 := ⟨⟨ok_Mo_put1, by decide, by decide, by decide⟩, by decide, rfl, List.mem_append_right _ (List.mem_of_getElem? (i := 1058) (by decide +kernel)), List.mem_append_right _ (List.mem_of_getElem? (i := 1060) (by decide +kernel)), List.mem_append_left _ (List.mem_of_getElem? (i := 34) (by decide +kernel)), by decide +kernel⟩
theorem cs_Mo_putSigned_107 : a_CV M_Mo_putSigned M_Mo_put1 153 10 2 0 1 := ⟨⟨ok_Mo_put1, by decide, by decide, by decide⟩, by decide, rfl, List.mem_append_right _ (List.mem_of_getElem? (i := 1058) (by decide +kernel)), List.mem_append_right _ (List.mem_of_getElem? (i := 1060) (by decide +kernel)), List.mem_append_left _ (List.mem_of_getElem? (i := 34) (by decide +kernel)), by decide +kernel⟩
theorem cs_Mo_putSigned_117 : a_CS M_Mo_putSigned M_Mo_digestOf 169 1 3 1 := ⟨⟨ok_Mo_digestOf, by decide, by decide, by decide⟩, List.mem_append_right _ (List.mem_of_getElem? (i := 1050) (by decide +kernel)), List.mem_append_right _ (List.mem_of_getElem? (i := 1051) (by decide +kernel)), by decide +kernel⟩
theorem cs_Mo_putSigned_120 : a_CV M_Mo_putSigned M_Mo_put3 268 10 4 0 3 := ⟨⟨ok_Mo_put3, by decide, by decide, by decide⟩, by decide, rfl, List.mem_append_right _ (List.mem_of_getElem? (i := 1293) (by decide +kernel)), List.mem_append_right _ (List.mem_of_getElem? (i := 1295) (by decide +kernel)), List.mem_append_left _ (List.mem_of_getElem? (i := 44) (by decide +kernel)), by decide +kernel⟩
theorem cs_Mo_putSigned_140 : a_CV M_Mo_putSigned M_Mo_put3 268 10 4 0 3 := ⟨⟨ok_Mo_put3, by decide, by decide, by decide⟩, by decide, rfl, List.mem_append_right _ (List.mem_of_getElem? (i := 1293) (by decide +kernel)), List.mem_append_right _ (List.mem_of_getElem? (i := 1295) (by decide +kernel)), List.mem_append_left _ (List.mem_of_getElem? (i := 44) (by decide +kernel)), by decide +kernel⟩
def M_Mo_digestMessage : a_M := (⟨"ModuleSignerModel", "digestMessage", "([BII)V"⟩, prog_12_method_63_code, 4, none, "ModuleSignerModel", 6, 110, [])
theorem ok_Mo_digestMessage : a_Ok M_Mo_digestMessage := ⟨rfl, by decide +kernel, ⟨by decide, by decide⟩, List.mem_append_right _ (List.mem_of_getElem? (i := 11) (by decide +kernel)), Or.inl ⟨rfl, List.mem_append_right _ (List.mem_of_getElem? (i := 1366) (by decide +kernel))⟩⟩
theorem d_Mo_digestMessage_0 : decode (a_cc M_Mo_digestMessage) 0 = .ok (.aload_n 0, 1) := by decide +kernel
theorem d_Mo_digestMessage_1 : decode (a_cc M_Mo_digestMessage) 1 = .ok (.iload_n 3, 1) := by decide +kernel
theorem d_Mo_digestMessage_2 : decode (a_cc M_Mo_digestMessage) 2 = .ok (.invokevirtual 325, 3) := by decide +kernel
theorem d_Mo_digestMessage_5 : decode (a_cc M_Mo_digestMessage) 5 = .ok (.aload_n 0, 1) := by decide +kernel
theorem d_Mo_digestMessage_6 : decode (a_cc M_Mo_digestMessage) 6 = .ok (.bipush 12, 2) := by decide +kernel
theorem d_Mo_digestMessage_8 : decode (a_cc M_Mo_digestMessage) 8 = .ok (.invokevirtual 148, 3) := by decide +kernel
theorem d_Mo_digestMessage_11 : decode (a_cc M_Mo_digestMessage) 11 = .ok (.aload_n 0, 1) := by decide +kernel
theorem d_Mo_digestMessage_12 : decode (a_cc M_Mo_digestMessage) 12 = .ok (.aload_n 1, 1) := by decide +kernel
theorem d_Mo_digestMessage_13 : decode (a_cc M_Mo_digestMessage) 13 = .ok (.iload_n 2, 1) := by decide +kernel
theorem d_Mo_digestMessage_14 : decode (a_cc M_Mo_digestMessage) 14 = .ok (.bipush 64, 2) := by decide +kernel
theorem d_Mo_digestMessage_16 : decode (a_cc M_Mo_digestMessage) 16 = .ok (.invokevirtual 268, 3) := by decide +kernel
theorem d_Mo_digestMessage_19 : decode (a_cc M_Mo_digestMessage) 19 = .ok (.aload_n 0, 1) := by decide +kernel
theorem d_Mo_digestMessage_20 : decode (a_cc M_Mo_digestMessage) 20 = .ok (.iload_n 3, 1) := by decide +kernel
theorem d_Mo_digestMessage_21 : decode (a_cc M_Mo_digestMessage) 21 = .ok (.invokevirtual 328, 3) := by decide +kernel
theorem d_Mo_digestMessage_24 : decode (a_cc M_Mo_digestMessage) 24 = .ok (.aload_n 0, 1) := by decide +kernel
theorem d_Mo_digestMessage_25 : decode (a_cc M_Mo_digestMessage) 25 = .ok (.aload_n 0, 1) := by decide +kernel
theorem d_Mo_digestMessage_26 : decode (a_cc M_Mo_digestMessage) 26 = .ok (.getfield 93, 3) := by decide +kernel
theorem d_Mo_digestMessage_29 : decode (a_cc M_Mo_digestMessage) 29 = .ok (.iconst 0, 1) := by decide +kernel
theorem d_Mo_digestMessage_30 : decode (a_cc M_Mo_digestMessage) 30 = .ok (.bipush 64, 2) := by decide +kernel
theorem d_Mo_digestMessage_32 : decode (a_cc M_Mo_digestMessage) 32 = .ok (.invokevirtual 290, 3) := by decide +kernel
theorem d_Mo_digestMessage_35 : decode (a_cc M_Mo_digestMessage) 35 = .ok (.return_, 1) := by decide +kernel
theorem cs_Mo_digestMessage_2 : a_CV M_Mo_digestMessage M_Mo_before 325 10 2 0 1 := ⟨⟨ok_Mo_before, by decide, by decide, by decide⟩, by decide, rfl, List.mem_append_right _ (List.mem_of_getElem? (i := 1367) (by decide +kernel)), List.mem_append_right _ (List.mem_of_getElem? (i := 1369) (by decide +kernel)), List.mem_append_left _ (List.mem_of_getElem? (i := 57) (by decide +kernel)), by decide +kernel⟩
theorem cs_Mo_digestMessage_8 : a_CV M_Mo_digestMessage M_Mo_begin 148 10 2 0 1 := ⟨⟨ok_Mo_begin, by decide, by decide, by decide⟩, by decide, rfl, List.mem_append_right _ (List.mem_of_getElem? (i := 1046) (by decide +kernel)), List.mem_append_right _ (List.mem_of_getElem? (i := 1048) (by decide +kernel)), List.mem_append_left _ (List.mem_of_getElem? (i := 33) (by decide +kernel)), by decide +kernel⟩
theorem cs_Mo_digestMessage_16 : a_CV M_Mo_digestMessage M_Mo_put3 268 10 4 0 3 := ⟨⟨ok_Mo_put3, by decide, by decide, by decide⟩, by decide, rfl, List.mem_append_right _ (List.mem_of_getElem? (i := 1293) (by decide +kernel)), List.mem_append_right _ (List.mem_of_getElem? (i := 1295) (by decide +kernel)), List.mem_append_left _ (List.mem_of_getElem? (i := 44) (by decide +kernel)), by decide +kernel⟩
theorem cs_Mo_digestMessage_21 : a_CV M_Mo_digestMessage M_Mo_putSigned 328 10 2 0 1 := ⟨⟨ok_Mo_putSigned, by decide, by decide, by decide⟩, by decide, rfl, List.mem_append_right _ (List.mem_of_getElem? (i := 1371) (by decide +kernel)), List.mem_append_right _ (List.mem_of_getElem? (i := 1373) (by decide +kernel)), List.mem_append_left _ (List.mem_of_getElem? (i := 58) (by decide +kernel)), by decide +kernel⟩
theorem cs_Mo_digestMessage_32 : a_CV M_Mo_digestMessage M_Mo_give 290 10 4 0 3 := ⟨⟨ok_Mo_give, by decide, by decide, by decide⟩, by decide, rfl, List.mem_append_right _ (List.mem_of_getElem? (i := 1297) (by decide +kernel)), List.mem_append_right _ (List.mem_of_getElem? (i := 1299) (by decide +kernel)), List.mem_append_left _ (List.mem_of_getElem? (i := 45) (by decide +kernel)), by decide +kernel⟩
def M_Mo_bitOf : a_M := (⟨"ModuleSignerModel", "bitOf", "([BII)I"⟩, prog_12_method_40_code, 3, some .int, "ModuleSignerModel", 0, 0, [])
theorem ok_Mo_bitOf : a_Ok M_Mo_bitOf := ⟨rfl, by decide +kernel, ⟨by decide, by decide⟩, List.mem_append_right _ (List.mem_of_getElem? (i := 11) (by decide +kernel)), Or.inl ⟨rfl, List.mem_append_right _ (List.mem_of_getElem? (i := 1385) (by decide +kernel))⟩⟩
theorem d_Mo_bitOf_0 : decode (a_cc M_Mo_bitOf) 0 = .ok (.aload_n 0, 1) := by decide +kernel
theorem d_Mo_bitOf_1 : decode (a_cc M_Mo_bitOf) 1 = .ok (.iload_n 1, 1) := by decide +kernel
theorem d_Mo_bitOf_2 : decode (a_cc M_Mo_bitOf) 2 = .ok (.iload_n 2, 1) := by decide +kernel
theorem d_Mo_bitOf_3 : decode (a_cc M_Mo_bitOf) 3 = .ok (.bipush 8, 2) := by decide +kernel
theorem d_Mo_bitOf_5 : decode (a_cc M_Mo_bitOf) 5 = .ok (.idiv, 1) := by decide +kernel
theorem d_Mo_bitOf_6 : decode (a_cc M_Mo_bitOf) 6 = .ok (.iadd, 1) := by decide +kernel
theorem d_Mo_bitOf_7 : decode (a_cc M_Mo_bitOf) 7 = .ok (.baload, 1) := by decide +kernel
theorem d_Mo_bitOf_8 : decode (a_cc M_Mo_bitOf) 8 = .ok (.iload_n 2, 1) := by decide +kernel
theorem d_Mo_bitOf_9 : decode (a_cc M_Mo_bitOf) 9 = .ok (.bipush 8, 2) := by decide +kernel
theorem d_Mo_bitOf_11 : decode (a_cc M_Mo_bitOf) 11 = .ok (.irem, 1) := by decide +kernel
theorem d_Mo_bitOf_12 : decode (a_cc M_Mo_bitOf) 12 = .ok (.ishr, 1) := by decide +kernel
theorem d_Mo_bitOf_13 : decode (a_cc M_Mo_bitOf) 13 = .ok (.iconst 1, 1) := by decide +kernel
theorem d_Mo_bitOf_14 : decode (a_cc M_Mo_bitOf) 14 = .ok (.iand, 1) := by decide +kernel
theorem d_Mo_bitOf_15 : decode (a_cc M_Mo_bitOf) 15 = .ok (.ireturn, 1) := by decide +kernel
def M_Mo_takeBits : a_M := (⟨"ModuleSignerModel", "takeBits", "([BII)I"⟩, prog_12_method_42_code, 6, some .int, "ModuleSignerModel", 1, 15, [])
theorem ok_Mo_takeBits : a_Ok M_Mo_takeBits := ⟨rfl, by decide +kernel, ⟨by decide, by decide⟩, List.mem_append_right _ (List.mem_of_getElem? (i := 11) (by decide +kernel)), Or.inl ⟨rfl, List.mem_append_right _ (List.mem_of_getElem? (i := 1382) (by decide +kernel))⟩⟩
theorem d_Mo_takeBits_0 : decode (a_cc M_Mo_takeBits) 0 = .ok (.iconst 0, 1) := by decide +kernel
theorem d_Mo_takeBits_1 : decode (a_cc M_Mo_takeBits) 1 = .ok (.istore 4, 2) := by decide +kernel
theorem d_Mo_takeBits_3 : decode (a_cc M_Mo_takeBits) 3 = .ok (.iconst 0, 1) := by decide +kernel
theorem d_Mo_takeBits_4 : decode (a_cc M_Mo_takeBits) 4 = .ok (.istore 5, 2) := by decide +kernel
theorem d_Mo_takeBits_6 : decode (a_cc M_Mo_takeBits) 6 = .ok (.iload 5, 2) := by decide +kernel
theorem d_Mo_takeBits_8 : decode (a_cc M_Mo_takeBits) 8 = .ok (.iload_n 3, 1) := by decide +kernel
theorem d_Mo_takeBits_9 : decode (a_cc M_Mo_takeBits) 9 = .ok (.if_icmp .ge 29, 3) := by decide +kernel
theorem d_Mo_takeBits_12 : decode (a_cc M_Mo_takeBits) 12 = .ok (.iload 4, 2) := by decide +kernel
theorem d_Mo_takeBits_14 : decode (a_cc M_Mo_takeBits) 14 = .ok (.aload_n 1, 1) := by decide +kernel
theorem d_Mo_takeBits_15 : decode (a_cc M_Mo_takeBits) 15 = .ok (.iload_n 2, 1) := by decide +kernel
theorem d_Mo_takeBits_16 : decode (a_cc M_Mo_takeBits) 16 = .ok (.aload_n 0, 1) := by decide +kernel
theorem d_Mo_takeBits_17 : decode (a_cc M_Mo_takeBits) 17 = .ok (.getfield 216, 3) := by decide +kernel
theorem d_Mo_takeBits_20 : decode (a_cc M_Mo_takeBits) 20 = .ok (.iload 5, 2) := by decide +kernel
theorem d_Mo_takeBits_22 : decode (a_cc M_Mo_takeBits) 22 = .ok (.iadd, 1) := by decide +kernel
theorem d_Mo_takeBits_23 : decode (a_cc M_Mo_takeBits) 23 = .ok (.invokestatic 219, 3) := by decide +kernel
theorem d_Mo_takeBits_26 : decode (a_cc M_Mo_takeBits) 26 = .ok (.iload 5, 2) := by decide +kernel
theorem d_Mo_takeBits_28 : decode (a_cc M_Mo_takeBits) 28 = .ok (.ishl, 1) := by decide +kernel
theorem d_Mo_takeBits_29 : decode (a_cc M_Mo_takeBits) 29 = .ok (.ior, 1) := by decide +kernel
theorem d_Mo_takeBits_30 : decode (a_cc M_Mo_takeBits) 30 = .ok (.istore 4, 2) := by decide +kernel
theorem d_Mo_takeBits_32 : decode (a_cc M_Mo_takeBits) 32 = .ok (.iinc 5 1, 3) := by decide +kernel
theorem d_Mo_takeBits_35 : decode (a_cc M_Mo_takeBits) 35 = .ok (.goto (-29), 3) := by decide +kernel
theorem d_Mo_takeBits_38 : decode (a_cc M_Mo_takeBits) 38 = .ok (.aload_n 0, 1) := by decide +kernel
theorem d_Mo_takeBits_39 : decode (a_cc M_Mo_takeBits) 39 = .ok (.dup, 1) := by decide +kernel
theorem d_Mo_takeBits_40 : decode (a_cc M_Mo_takeBits) 40 = .ok (.getfield 216, 3) := by decide +kernel
theorem d_Mo_takeBits_43 : decode (a_cc M_Mo_takeBits) 43 = .ok (.iload_n 3, 1) := by decide +kernel
theorem d_Mo_takeBits_44 : decode (a_cc M_Mo_takeBits) 44 = .ok (.iadd, 1) := by decide +kernel
theorem d_Mo_takeBits_45 : decode (a_cc M_Mo_takeBits) 45 = .ok (.putfield 216, 3) := by decide +kernel
theorem d_Mo_takeBits_48 : decode (a_cc M_Mo_takeBits) 48 = .ok (.iload 4, 2) := by decide +kernel
theorem d_Mo_takeBits_50 : decode (a_cc M_Mo_takeBits) 50 = .ok (.ireturn, 1) := by decide +kernel
theorem cs_Mo_takeBits_23 : a_CS M_Mo_takeBits M_Mo_bitOf 219 3 1 3 := ⟨⟨ok_Mo_bitOf, by decide, by decide, by decide⟩, List.mem_append_right _ (List.mem_of_getElem? (i := 1383) (by decide +kernel)), List.mem_append_right _ (List.mem_of_getElem? (i := 1384) (by decide +kernel)), by decide +kernel⟩
def M_Mo_unpack : a_M := (⟨"ModuleSignerModel", "unpack", "([BI[III)V"⟩, prog_12_method_56_code, 7, none, "ModuleSignerModel", 2, 35, [])
theorem ok_Mo_unpack : a_Ok M_Mo_unpack := ⟨rfl, by decide +kernel, ⟨by decide, by decide⟩, List.mem_append_right _ (List.mem_of_getElem? (i := 11) (by decide +kernel)), Or.inl ⟨rfl, List.mem_append_right _ (List.mem_of_getElem? (i := 1378) (by decide +kernel))⟩⟩
theorem d_Mo_unpack_0 : decode (a_cc M_Mo_unpack) 0 = .ok (.iconst 0, 1) := by decide +kernel
theorem d_Mo_unpack_1 : decode (a_cc M_Mo_unpack) 1 = .ok (.istore 6, 2) := by decide +kernel
theorem d_Mo_unpack_3 : decode (a_cc M_Mo_unpack) 3 = .ok (.iload 6, 2) := by decide +kernel
theorem d_Mo_unpack_5 : decode (a_cc M_Mo_unpack) 5 = .ok (.sipush 256, 3) := by decide +kernel
theorem d_Mo_unpack_8 : decode (a_cc M_Mo_unpack) 8 = .ok (.if_icmp .ge 24, 3) := by decide +kernel
theorem d_Mo_unpack_11 : decode (a_cc M_Mo_unpack) 11 = .ok (.aload_n 3, 1) := by decide +kernel
theorem d_Mo_unpack_12 : decode (a_cc M_Mo_unpack) 12 = .ok (.iload 6, 2) := by decide +kernel
theorem d_Mo_unpack_14 : decode (a_cc M_Mo_unpack) 14 = .ok (.iload 4, 2) := by decide +kernel
theorem d_Mo_unpack_16 : decode (a_cc M_Mo_unpack) 16 = .ok (.aload_n 0, 1) := by decide +kernel
theorem d_Mo_unpack_17 : decode (a_cc M_Mo_unpack) 17 = .ok (.aload_n 1, 1) := by decide +kernel
theorem d_Mo_unpack_18 : decode (a_cc M_Mo_unpack) 18 = .ok (.iload_n 2, 1) := by decide +kernel
theorem d_Mo_unpack_19 : decode (a_cc M_Mo_unpack) 19 = .ok (.iload 5, 2) := by decide +kernel
theorem d_Mo_unpack_21 : decode (a_cc M_Mo_unpack) 21 = .ok (.invokevirtual 284, 3) := by decide +kernel
theorem d_Mo_unpack_24 : decode (a_cc M_Mo_unpack) 24 = .ok (.isub, 1) := by decide +kernel
theorem d_Mo_unpack_25 : decode (a_cc M_Mo_unpack) 25 = .ok (.iastore, 1) := by decide +kernel
theorem d_Mo_unpack_26 : decode (a_cc M_Mo_unpack) 26 = .ok (.iinc 6 1, 3) := by decide +kernel
theorem d_Mo_unpack_29 : decode (a_cc M_Mo_unpack) 29 = .ok (.goto (-26), 3) := by decide +kernel
theorem d_Mo_unpack_32 : decode (a_cc M_Mo_unpack) 32 = .ok (.return_, 1) := by decide +kernel
theorem cs_Mo_unpack_21 : a_CV M_Mo_unpack M_Mo_takeBits 284 10 4 3 3 := ⟨⟨ok_Mo_takeBits, by decide, by decide, by decide⟩, by decide, rfl, List.mem_append_right _ (List.mem_of_getElem? (i := 1379) (by decide +kernel)), List.mem_append_right _ (List.mem_of_getElem? (i := 1381) (by decide +kernel)), List.mem_append_left _ (List.mem_of_getElem? (i := 60) (by decide +kernel)), by decide +kernel⟩
def M_Mo_high : a_M := (⟨"ModuleSignerModel", "high", "(I)I"⟩, prog_12_method_54_code, 3, some .int, "ModuleSignerModel", 0, 0, [])
theorem ok_Mo_high : a_Ok M_Mo_high := ⟨rfl, by decide +kernel, ⟨by decide, by decide⟩, List.mem_append_right _ (List.mem_of_getElem? (i := 11) (by decide +kernel)), Or.inl ⟨rfl, List.mem_append_right _ (List.mem_of_getElem? (i := 1393) (by decide +kernel))⟩⟩
theorem d_Mo_high_0 : decode (a_cc M_Mo_high) 0 = .ok (.iload_n 1, 1) := by decide +kernel
theorem d_Mo_high_1 : decode (a_cc M_Mo_high) 1 = .ok (.iconst 2, 1) := by decide +kernel
theorem d_Mo_high_2 : decode (a_cc M_Mo_high) 2 = .ok (.aload_n 0, 1) := by decide +kernel
theorem d_Mo_high_3 : decode (a_cc M_Mo_high) 3 = .ok (.getfield 242, 3) := by decide +kernel
theorem d_Mo_high_6 : decode (a_cc M_Mo_high) 6 = .ok (.imul, 1) := by decide +kernel
theorem d_Mo_high_7 : decode (a_cc M_Mo_high) 7 = .ok (.irem, 1) := by decide +kernel
theorem d_Mo_high_8 : decode (a_cc M_Mo_high) 8 = .ok (.istore_n 2, 1) := by decide +kernel
theorem d_Mo_high_9 : decode (a_cc M_Mo_high) 9 = .ok (.iload_n 2, 1) := by decide +kernel
theorem d_Mo_high_10 : decode (a_cc M_Mo_high) 10 = .ok (.aload_n 0, 1) := by decide +kernel
theorem d_Mo_high_11 : decode (a_cc M_Mo_high) 11 = .ok (.getfield 242, 3) := by decide +kernel
theorem d_Mo_high_14 : decode (a_cc M_Mo_high) 14 = .ok (.if_icmp .le 12, 3) := by decide +kernel
theorem d_Mo_high_17 : decode (a_cc M_Mo_high) 17 = .ok (.iload_n 2, 1) := by decide +kernel
theorem d_Mo_high_18 : decode (a_cc M_Mo_high) 18 = .ok (.iconst 2, 1) := by decide +kernel
theorem d_Mo_high_19 : decode (a_cc M_Mo_high) 19 = .ok (.aload_n 0, 1) := by decide +kernel
theorem d_Mo_high_20 : decode (a_cc M_Mo_high) 20 = .ok (.getfield 242, 3) := by decide +kernel
theorem d_Mo_high_23 : decode (a_cc M_Mo_high) 23 = .ok (.imul, 1) := by decide +kernel
theorem d_Mo_high_24 : decode (a_cc M_Mo_high) 24 = .ok (.isub, 1) := by decide +kernel
theorem d_Mo_high_25 : decode (a_cc M_Mo_high) 25 = .ok (.istore_n 2, 1) := by decide +kernel
theorem d_Mo_high_26 : decode (a_cc M_Mo_high) 26 = .ok (.iload_n 1, 1) := by decide +kernel
theorem d_Mo_high_27 : decode (a_cc M_Mo_high) 27 = .ok (.iload_n 2, 1) := by decide +kernel
theorem d_Mo_high_28 : decode (a_cc M_Mo_high) 28 = .ok (.isub, 1) := by decide +kernel
theorem d_Mo_high_29 : decode (a_cc M_Mo_high) 29 = .ok (.ldc_w 279, 3) := by decide +kernel
theorem d_Mo_high_32 : decode (a_cc M_Mo_high) 32 = .ok (.if_icmp .ne 7, 3) := by decide +kernel
theorem d_Mo_high_35 : decode (a_cc M_Mo_high) 35 = .ok (.iconst 0, 1) := by decide +kernel
theorem d_Mo_high_36 : decode (a_cc M_Mo_high) 36 = .ok (.goto 13, 3) := by decide +kernel
theorem d_Mo_high_39 : decode (a_cc M_Mo_high) 39 = .ok (.iload_n 1, 1) := by decide +kernel
theorem d_Mo_high_40 : decode (a_cc M_Mo_high) 40 = .ok (.iload_n 2, 1) := by decide +kernel
theorem d_Mo_high_41 : decode (a_cc M_Mo_high) 41 = .ok (.isub, 1) := by decide +kernel
theorem d_Mo_high_42 : decode (a_cc M_Mo_high) 42 = .ok (.iconst 2, 1) := by decide +kernel
theorem d_Mo_high_43 : decode (a_cc M_Mo_high) 43 = .ok (.aload_n 0, 1) := by decide +kernel
theorem d_Mo_high_44 : decode (a_cc M_Mo_high) 44 = .ok (.getfield 242, 3) := by decide +kernel
theorem d_Mo_high_47 : decode (a_cc M_Mo_high) 47 = .ok (.imul, 1) := by decide +kernel
theorem d_Mo_high_48 : decode (a_cc M_Mo_high) 48 = .ok (.idiv, 1) := by decide +kernel
theorem d_Mo_high_49 : decode (a_cc M_Mo_high) 49 = .ok (.ireturn, 1) := by decide +kernel
theorem lc_Mo_279 : Cond.constant "ModuleSignerModel" 279 (Int32.ofInt (8380416)) ∈ lw_tbl := List.mem_append_right _ (List.mem_of_getElem? (i := 1394) (by decide +kernel))
def M_Mo_challenge : a_M := (⟨"ModuleSignerModel", "challenge", "(I[B)V"⟩, prog_12_method_64_code, 6, none, "ModuleSignerModel", 5, 97, [])
theorem ok_Mo_challenge : a_Ok M_Mo_challenge := ⟨rfl, by decide +kernel, ⟨by decide, by decide⟩, List.mem_append_right _ (List.mem_of_getElem? (i := 11) (by decide +kernel)), Or.inl ⟨rfl, List.mem_append_right _ (List.mem_of_getElem? (i := 1398) (by decide +kernel))⟩⟩
theorem d_Mo_challenge_0 : decode (a_cc M_Mo_challenge) 0 = .ok (.aload_n 0, 1) := by decide +kernel
theorem d_Mo_challenge_1 : decode (a_cc M_Mo_challenge) 1 = .ok (.iconst 0, 1) := by decide +kernel
theorem d_Mo_challenge_2 : decode (a_cc M_Mo_challenge) 2 = .ok (.putfield 216, 3) := by decide +kernel
theorem d_Mo_challenge_5 : decode (a_cc M_Mo_challenge) 5 = .ok (.aload_n 0, 1) := by decide +kernel
theorem d_Mo_challenge_6 : decode (a_cc M_Mo_challenge) 6 = .ok (.getfield 242, 3) := by decide +kernel
theorem d_Mo_challenge_9 : decode (a_cc M_Mo_challenge) 9 = .ok (.ldc 241, 2) := by decide +kernel
theorem d_Mo_challenge_11 : decode (a_cc M_Mo_challenge) 11 = .ok (.if_icmp .ne 7, 3) := by decide +kernel
theorem d_Mo_challenge_14 : decode (a_cc M_Mo_challenge) 14 = .ok (.iconst 4, 1) := by decide +kernel
theorem d_Mo_challenge_15 : decode (a_cc M_Mo_challenge) 15 = .ok (.goto 5, 3) := by decide +kernel
theorem d_Mo_challenge_18 : decode (a_cc M_Mo_challenge) 18 = .ok (.bipush 6, 2) := by decide +kernel
theorem d_Mo_challenge_20 : decode (a_cc M_Mo_challenge) 20 = .ok (.istore_n 3, 1) := by decide +kernel
theorem d_Mo_challenge_21 : decode (a_cc M_Mo_challenge) 21 = .ok (.iconst 0, 1) := by decide +kernel
theorem d_Mo_challenge_22 : decode (a_cc M_Mo_challenge) 22 = .ok (.istore 4, 2) := by decide +kernel
theorem d_Mo_challenge_24 : decode (a_cc M_Mo_challenge) 24 = .ok (.iload 4, 2) := by decide +kernel
theorem d_Mo_challenge_26 : decode (a_cc M_Mo_challenge) 26 = .ok (.aload_n 0, 1) := by decide +kernel
theorem d_Mo_challenge_27 : decode (a_cc M_Mo_challenge) 27 = .ok (.getfield 223, 3) := by decide +kernel
theorem d_Mo_challenge_30 : decode (a_cc M_Mo_challenge) 30 = .ok (.if_icmp .ge 48, 3) := by decide +kernel
theorem d_Mo_challenge_33 : decode (a_cc M_Mo_challenge) 33 = .ok (.iconst 0, 1) := by decide +kernel
theorem d_Mo_challenge_34 : decode (a_cc M_Mo_challenge) 34 = .ok (.istore 5, 2) := by decide +kernel
theorem d_Mo_challenge_36 : decode (a_cc M_Mo_challenge) 36 = .ok (.iload 5, 2) := by decide +kernel
theorem d_Mo_challenge_38 : decode (a_cc M_Mo_challenge) 38 = .ok (.sipush 256, 3) := by decide +kernel
theorem d_Mo_challenge_41 : decode (a_cc M_Mo_challenge) 41 = .ok (.if_icmp .ge 31, 3) := by decide +kernel
theorem d_Mo_challenge_44 : decode (a_cc M_Mo_challenge) 44 = .ok (.aload_n 0, 1) := by decide +kernel
theorem d_Mo_challenge_45 : decode (a_cc M_Mo_challenge) 45 = .ok (.aload_n 0, 1) := by decide +kernel
theorem d_Mo_challenge_46 : decode (a_cc M_Mo_challenge) 46 = .ok (.getfield 84, 3) := by decide +kernel
theorem d_Mo_challenge_49 : decode (a_cc M_Mo_challenge) 49 = .ok (.iconst 0, 1) := by decide +kernel
theorem d_Mo_challenge_50 : decode (a_cc M_Mo_challenge) 50 = .ok (.aload_n 0, 1) := by decide +kernel
theorem d_Mo_challenge_51 : decode (a_cc M_Mo_challenge) 51 = .ok (.getfield 76, 3) := by decide +kernel
theorem d_Mo_challenge_54 : decode (a_cc M_Mo_challenge) 54 = .ok (.iload_n 1, 1) := by decide +kernel
theorem d_Mo_challenge_55 : decode (a_cc M_Mo_challenge) 55 = .ok (.iload 4, 2) := by decide +kernel
theorem d_Mo_challenge_57 : decode (a_cc M_Mo_challenge) 57 = .ok (.iadd, 1) := by decide +kernel
theorem d_Mo_challenge_58 : decode (a_cc M_Mo_challenge) 58 = .ok (.aaload, 1) := by decide +kernel
theorem d_Mo_challenge_59 : decode (a_cc M_Mo_challenge) 59 = .ok (.iload 5, 2) := by decide +kernel
theorem d_Mo_challenge_61 : decode (a_cc M_Mo_challenge) 61 = .ok (.iaload, 1) := by decide +kernel
theorem d_Mo_challenge_62 : decode (a_cc M_Mo_challenge) 62 = .ok (.iload_n 3, 1) := by decide +kernel
theorem d_Mo_challenge_63 : decode (a_cc M_Mo_challenge) 63 = .ok (.invokevirtual 280, 3) := by decide +kernel
theorem d_Mo_challenge_66 : decode (a_cc M_Mo_challenge) 66 = .ok (.iinc 5 1, 3) := by decide +kernel
theorem d_Mo_challenge_69 : decode (a_cc M_Mo_challenge) 69 = .ok (.goto (-33), 3) := by decide +kernel
theorem d_Mo_challenge_72 : decode (a_cc M_Mo_challenge) 72 = .ok (.iinc 4 1, 3) := by decide +kernel
theorem d_Mo_challenge_75 : decode (a_cc M_Mo_challenge) 75 = .ok (.goto (-51), 3) := by decide +kernel
theorem d_Mo_challenge_78 : decode (a_cc M_Mo_challenge) 78 = .ok (.aload_n 0, 1) := by decide +kernel
theorem d_Mo_challenge_79 : decode (a_cc M_Mo_challenge) 79 = .ok (.bipush 12, 2) := by decide +kernel
theorem d_Mo_challenge_81 : decode (a_cc M_Mo_challenge) 81 = .ok (.invokevirtual 148, 3) := by decide +kernel
theorem d_Mo_challenge_84 : decode (a_cc M_Mo_challenge) 84 = .ok (.aload_n 0, 1) := by decide +kernel
theorem d_Mo_challenge_85 : decode (a_cc M_Mo_challenge) 85 = .ok (.aload_n 0, 1) := by decide +kernel
theorem d_Mo_challenge_86 : decode (a_cc M_Mo_challenge) 86 = .ok (.getfield 93, 3) := by decide +kernel
theorem d_Mo_challenge_89 : decode (a_cc M_Mo_challenge) 89 = .ok (.iconst 0, 1) := by decide +kernel
theorem d_Mo_challenge_90 : decode (a_cc M_Mo_challenge) 90 = .ok (.bipush 64, 2) := by decide +kernel
theorem d_Mo_challenge_92 : decode (a_cc M_Mo_challenge) 92 = .ok (.invokevirtual 268, 3) := by decide +kernel
theorem d_Mo_challenge_95 : decode (a_cc M_Mo_challenge) 95 = .ok (.aload_n 0, 1) := by decide +kernel
theorem d_Mo_challenge_96 : decode (a_cc M_Mo_challenge) 96 = .ok (.aload_n 0, 1) := by decide +kernel
theorem d_Mo_challenge_97 : decode (a_cc M_Mo_challenge) 97 = .ok (.getfield 84, 3) := by decide +kernel
theorem d_Mo_challenge_100 : decode (a_cc M_Mo_challenge) 100 = .ok (.iconst 0, 1) := by decide +kernel
theorem d_Mo_challenge_101 : decode (a_cc M_Mo_challenge) 101 = .ok (.bipush 32, 2) := by decide +kernel
theorem d_Mo_challenge_103 : decode (a_cc M_Mo_challenge) 103 = .ok (.iload_n 3, 1) := by decide +kernel
theorem d_Mo_challenge_104 : decode (a_cc M_Mo_challenge) 104 = .ok (.imul, 1) := by decide +kernel
theorem d_Mo_challenge_105 : decode (a_cc M_Mo_challenge) 105 = .ok (.aload_n 0, 1) := by decide +kernel
theorem d_Mo_challenge_106 : decode (a_cc M_Mo_challenge) 106 = .ok (.getfield 223, 3) := by decide +kernel
theorem d_Mo_challenge_109 : decode (a_cc M_Mo_challenge) 109 = .ok (.imul, 1) := by decide +kernel
theorem d_Mo_challenge_110 : decode (a_cc M_Mo_challenge) 110 = .ok (.invokevirtual 268, 3) := by decide +kernel
theorem d_Mo_challenge_113 : decode (a_cc M_Mo_challenge) 113 = .ok (.aload_n 0, 1) := by decide +kernel
theorem d_Mo_challenge_114 : decode (a_cc M_Mo_challenge) 114 = .ok (.aload_n 2, 1) := by decide +kernel
theorem d_Mo_challenge_115 : decode (a_cc M_Mo_challenge) 115 = .ok (.iconst 0, 1) := by decide +kernel
theorem d_Mo_challenge_116 : decode (a_cc M_Mo_challenge) 116 = .ok (.aload_n 0, 1) := by decide +kernel
theorem d_Mo_challenge_117 : decode (a_cc M_Mo_challenge) 117 = .ok (.getfield 248, 3) := by decide +kernel
theorem d_Mo_challenge_120 : decode (a_cc M_Mo_challenge) 120 = .ok (.invokevirtual 290, 3) := by decide +kernel
theorem d_Mo_challenge_123 : decode (a_cc M_Mo_challenge) 123 = .ok (.return_, 1) := by decide +kernel
theorem cs_Mo_challenge_63 : a_CV M_Mo_challenge M_Mo_putBits 280 10 5 0 4 := ⟨⟨ok_Mo_putBits, by decide, by decide, by decide⟩, by decide, rfl, List.mem_append_right _ (List.mem_of_getElem? (i := 1317) (by decide +kernel)), List.mem_append_right _ (List.mem_of_getElem? (i := 1319) (by decide +kernel)), List.mem_append_left _ (List.mem_of_getElem? (i := 50) (by decide +kernel)), by decide +kernel⟩
theorem cs_Mo_challenge_81 : a_CV M_Mo_challenge M_Mo_begin 148 10 2 0 1 := ⟨⟨ok_Mo_begin, by decide, by decide, by decide⟩, by decide, rfl, List.mem_append_right _ (List.mem_of_getElem? (i := 1046) (by decide +kernel)), List.mem_append_right _ (List.mem_of_getElem? (i := 1048) (by decide +kernel)), List.mem_append_left _ (List.mem_of_getElem? (i := 33) (by decide +kernel)), by decide +kernel⟩
theorem cs_Mo_challenge_92 : a_CV M_Mo_challenge M_Mo_put3 268 10 4 0 3 := ⟨⟨ok_Mo_put3, by decide, by decide, by decide⟩, by decide, rfl, List.mem_append_right _ (List.mem_of_getElem? (i := 1293) (by decide +kernel)), List.mem_append_right _ (List.mem_of_getElem? (i := 1295) (by decide +kernel)), List.mem_append_left _ (List.mem_of_getElem? (i := 44) (by decide +kernel)), by decide +kernel⟩
theorem cs_Mo_challenge_110 : a_CV M_Mo_challenge M_Mo_put3 268 10 4 0 3 := ⟨⟨ok_Mo_put3, by decide, by decide, by decide⟩, by decide, rfl, List.mem_append_right _ (List.mem_of_getElem? (i := 1293) (by decide +kernel)), List.mem_append_right _ (List.mem_of_getElem? (i := 1295) (by decide +kernel)), List.mem_append_left _ (List.mem_of_getElem? (i := 44) (by decide +kernel)), by decide +kernel⟩
theorem cs_Mo_challenge_120 : a_CV M_Mo_challenge M_Mo_give 290 10 4 0 3 := ⟨⟨ok_Mo_give, by decide, by decide, by decide⟩, by decide, rfl, List.mem_append_right _ (List.mem_of_getElem? (i := 1297) (by decide +kernel)), List.mem_append_right _ (List.mem_of_getElem? (i := 1299) (by decide +kernel)), List.mem_append_left _ (List.mem_of_getElem? (i := 45) (by decide +kernel)), by decide +kernel⟩
def M_Mo_ball : a_M := (⟨"ModuleSignerModel", "ball", "([I[BI)Z"⟩, prog_12_method_52_code, 7, some .boolean, "ModuleSignerModel", 4, 82, [])
theorem ok_Mo_ball : a_Ok M_Mo_ball := ⟨rfl, by decide +kernel, ⟨by decide, by decide⟩, List.mem_append_right _ (List.mem_of_getElem? (i := 11) (by decide +kernel)), Or.inl ⟨rfl, List.mem_append_right _ (List.mem_of_getElem? (i := 1402) (by decide +kernel))⟩⟩
theorem d_Mo_ball_0 : decode (a_cc M_Mo_ball) 0 = .ok (.aload_n 0, 1) := by decide +kernel
theorem d_Mo_ball_1 : decode (a_cc M_Mo_ball) 1 = .ok (.bipush 12, 2) := by decide +kernel
theorem d_Mo_ball_3 : decode (a_cc M_Mo_ball) 3 = .ok (.invokevirtual 148, 3) := by decide +kernel
theorem d_Mo_ball_6 : decode (a_cc M_Mo_ball) 6 = .ok (.aload_n 0, 1) := by decide +kernel
theorem d_Mo_ball_7 : decode (a_cc M_Mo_ball) 7 = .ok (.aload_n 2, 1) := by decide +kernel
theorem d_Mo_ball_8 : decode (a_cc M_Mo_ball) 8 = .ok (.iload_n 3, 1) := by decide +kernel
theorem d_Mo_ball_9 : decode (a_cc M_Mo_ball) 9 = .ok (.aload_n 0, 1) := by decide +kernel
theorem d_Mo_ball_10 : decode (a_cc M_Mo_ball) 10 = .ok (.getfield 248, 3) := by decide +kernel
theorem d_Mo_ball_13 : decode (a_cc M_Mo_ball) 13 = .ok (.invokevirtual 268, 3) := by decide +kernel
theorem d_Mo_ball_16 : decode (a_cc M_Mo_ball) 16 = .ok (.aload_n 0, 1) := by decide +kernel
theorem d_Mo_ball_17 : decode (a_cc M_Mo_ball) 17 = .ok (.invokevirtual 156, 3) := by decide +kernel
theorem d_Mo_ball_20 : decode (a_cc M_Mo_ball) 20 = .ok (.iconst 0, 1) := by decide +kernel
theorem d_Mo_ball_21 : decode (a_cc M_Mo_ball) 21 = .ok (.istore 4, 2) := by decide +kernel
theorem d_Mo_ball_23 : decode (a_cc M_Mo_ball) 23 = .ok (.iload 4, 2) := by decide +kernel
theorem d_Mo_ball_25 : decode (a_cc M_Mo_ball) 25 = .ok (.bipush 8, 2) := by decide +kernel
theorem d_Mo_ball_27 : decode (a_cc M_Mo_ball) 27 = .ok (.if_icmp .ge 21, 3) := by decide +kernel
theorem d_Mo_ball_30 : decode (a_cc M_Mo_ball) 30 = .ok (.aload_n 0, 1) := by decide +kernel
theorem d_Mo_ball_31 : decode (a_cc M_Mo_ball) 31 = .ok (.getfield 62, 3) := by decide +kernel
theorem d_Mo_ball_34 : decode (a_cc M_Mo_ball) 34 = .ok (.iload 4, 2) := by decide +kernel
theorem d_Mo_ball_36 : decode (a_cc M_Mo_ball) 36 = .ok (.aload_n 0, 1) := by decide +kernel
theorem d_Mo_ball_37 : decode (a_cc M_Mo_ball) 37 = .ok (.invokevirtual 212, 3) := by decide +kernel
theorem d_Mo_ball_40 : decode (a_cc M_Mo_ball) 40 = .ok (.i2b, 1) := by decide +kernel
theorem d_Mo_ball_41 : decode (a_cc M_Mo_ball) 41 = .ok (.bastore, 1) := by decide +kernel
theorem d_Mo_ball_42 : decode (a_cc M_Mo_ball) 42 = .ok (.iinc 4 1, 3) := by decide +kernel
theorem d_Mo_ball_45 : decode (a_cc M_Mo_ball) 45 = .ok (.goto (-22), 3) := by decide +kernel
theorem d_Mo_ball_48 : decode (a_cc M_Mo_ball) 48 = .ok (.aload_n 1, 1) := by decide +kernel
theorem d_Mo_ball_49 : decode (a_cc M_Mo_ball) 49 = .ok (.invokestatic 275, 3) := by decide +kernel
theorem d_Mo_ball_52 : decode (a_cc M_Mo_ball) 52 = .ok (.iconst 0, 1) := by decide +kernel
theorem d_Mo_ball_53 : decode (a_cc M_Mo_ball) 53 = .ok (.istore 4, 2) := by decide +kernel
theorem d_Mo_ball_55 : decode (a_cc M_Mo_ball) 55 = .ok (.sipush 256, 3) := by decide +kernel
theorem d_Mo_ball_58 : decode (a_cc M_Mo_ball) 58 = .ok (.aload_n 0, 1) := by decide +kernel
theorem d_Mo_ball_59 : decode (a_cc M_Mo_ball) 59 = .ok (.getfield 232, 3) := by decide +kernel
theorem d_Mo_ball_62 : decode (a_cc M_Mo_ball) 62 = .ok (.isub, 1) := by decide +kernel
theorem d_Mo_ball_63 : decode (a_cc M_Mo_ball) 63 = .ok (.istore 5, 2) := by decide +kernel
theorem d_Mo_ball_65 : decode (a_cc M_Mo_ball) 65 = .ok (.iload 5, 2) := by decide +kernel
theorem d_Mo_ball_67 : decode (a_cc M_Mo_ball) 67 = .ok (.sipush 256, 3) := by decide +kernel
theorem d_Mo_ball_70 : decode (a_cc M_Mo_ball) 70 = .ok (.if_icmp .ge 82, 3) := by decide +kernel
theorem d_Mo_ball_73 : decode (a_cc M_Mo_ball) 73 = .ok (.sipush 256, 3) := by decide +kernel
theorem d_Mo_ball_76 : decode (a_cc M_Mo_ball) 76 = .ok (.istore 6, 2) := by decide +kernel
theorem d_Mo_ball_78 : decode (a_cc M_Mo_ball) 78 = .ok (.iload 6, 2) := by decide +kernel
theorem d_Mo_ball_80 : decode (a_cc M_Mo_ball) 80 = .ok (.iload 5, 2) := by decide +kernel
theorem d_Mo_ball_82 : decode (a_cc M_Mo_ball) 82 = .ok (.if_icmp .le 24, 3) := by decide +kernel
theorem d_Mo_ball_85 : decode (a_cc M_Mo_ball) 85 = .ok (.iload 4, 2) := by decide +kernel
theorem d_Mo_ball_87 : decode (a_cc M_Mo_ball) 87 = .ok (.bipush 121, 2) := by decide +kernel
theorem d_Mo_ball_89 : decode (a_cc M_Mo_ball) 89 = .ok (.if_icmp .ne 5, 3) := by decide +kernel
theorem d_Mo_ball_92 : decode (a_cc M_Mo_ball) 92 = .ok (.iconst 0, 1) := by decide +kernel
theorem d_Mo_ball_93 : decode (a_cc M_Mo_ball) 93 = .ok (.ireturn, 1) := by decide +kernel
theorem d_Mo_ball_94 : decode (a_cc M_Mo_ball) 94 = .ok (.aload_n 0, 1) := by decide +kernel
theorem d_Mo_ball_95 : decode (a_cc M_Mo_ball) 95 = .ok (.invokevirtual 212, 3) := by decide +kernel
theorem d_Mo_ball_98 : decode (a_cc M_Mo_ball) 98 = .ok (.istore 6, 2) := by decide +kernel
theorem d_Mo_ball_100 : decode (a_cc M_Mo_ball) 100 = .ok (.iinc 4 1, 3) := by decide +kernel
theorem d_Mo_ball_103 : decode (a_cc M_Mo_ball) 103 = .ok (.goto (-25), 3) := by decide +kernel
theorem d_Mo_ball_106 : decode (a_cc M_Mo_ball) 106 = .ok (.aload_n 1, 1) := by decide +kernel
theorem d_Mo_ball_107 : decode (a_cc M_Mo_ball) 107 = .ok (.iload 5, 2) := by decide +kernel
theorem d_Mo_ball_109 : decode (a_cc M_Mo_ball) 109 = .ok (.aload_n 1, 1) := by decide +kernel
theorem d_Mo_ball_110 : decode (a_cc M_Mo_ball) 110 = .ok (.iload 6, 2) := by decide +kernel
theorem d_Mo_ball_112 : decode (a_cc M_Mo_ball) 112 = .ok (.iaload, 1) := by decide +kernel
theorem d_Mo_ball_113 : decode (a_cc M_Mo_ball) 113 = .ok (.iastore, 1) := by decide +kernel
theorem d_Mo_ball_114 : decode (a_cc M_Mo_ball) 114 = .ok (.aload_n 1, 1) := by decide +kernel
theorem d_Mo_ball_115 : decode (a_cc M_Mo_ball) 115 = .ok (.iload 6, 2) := by decide +kernel
theorem d_Mo_ball_117 : decode (a_cc M_Mo_ball) 117 = .ok (.aload_n 0, 1) := by decide +kernel
theorem d_Mo_ball_118 : decode (a_cc M_Mo_ball) 118 = .ok (.getfield 62, 3) := by decide +kernel
theorem d_Mo_ball_121 : decode (a_cc M_Mo_ball) 121 = .ok (.iconst 0, 1) := by decide +kernel
theorem d_Mo_ball_122 : decode (a_cc M_Mo_ball) 122 = .ok (.iload 5, 2) := by decide +kernel
theorem d_Mo_ball_124 : decode (a_cc M_Mo_ball) 124 = .ok (.aload_n 0, 1) := by decide +kernel
theorem d_Mo_ball_125 : decode (a_cc M_Mo_ball) 125 = .ok (.getfield 232, 3) := by decide +kernel
theorem d_Mo_ball_128 : decode (a_cc M_Mo_ball) 128 = .ok (.iadd, 1) := by decide +kernel
theorem d_Mo_ball_129 : decode (a_cc M_Mo_ball) 129 = .ok (.sipush 256, 3) := by decide +kernel
theorem d_Mo_ball_132 : decode (a_cc M_Mo_ball) 132 = .ok (.isub, 1) := by decide +kernel
theorem d_Mo_ball_133 : decode (a_cc M_Mo_ball) 133 = .ok (.invokestatic 219, 3) := by decide +kernel
theorem d_Mo_ball_136 : decode (a_cc M_Mo_ball) 136 = .ok (.iconst 1, 1) := by decide +kernel
theorem d_Mo_ball_137 : decode (a_cc M_Mo_ball) 137 = .ok (.if_icmp .ne 7, 3) := by decide +kernel
theorem d_Mo_ball_140 : decode (a_cc M_Mo_ball) 140 = .ok (.iconst (-1), 1) := by decide +kernel
theorem d_Mo_ball_141 : decode (a_cc M_Mo_ball) 141 = .ok (.goto 4, 3) := by decide +kernel
theorem d_Mo_ball_144 : decode (a_cc M_Mo_ball) 144 = .ok (.iconst 1, 1) := by decide +kernel
theorem d_Mo_ball_145 : decode (a_cc M_Mo_ball) 145 = .ok (.iastore, 1) := by decide +kernel
theorem d_Mo_ball_146 : decode (a_cc M_Mo_ball) 146 = .ok (.iinc 5 1, 3) := by decide +kernel
theorem d_Mo_ball_149 : decode (a_cc M_Mo_ball) 149 = .ok (.goto (-84), 3) := by decide +kernel
theorem d_Mo_ball_152 : decode (a_cc M_Mo_ball) 152 = .ok (.iconst 1, 1) := by decide +kernel
theorem d_Mo_ball_153 : decode (a_cc M_Mo_ball) 153 = .ok (.ireturn, 1) := by decide +kernel
theorem cs_Mo_ball_3 : a_CV M_Mo_ball M_Mo_begin 148 10 2 0 1 := ⟨⟨ok_Mo_begin, by decide, by decide, by decide⟩, by decide, rfl, List.mem_append_right _ (List.mem_of_getElem? (i := 1046) (by decide +kernel)), List.mem_append_right _ (List.mem_of_getElem? (i := 1048) (by decide +kernel)), List.mem_append_left _ (List.mem_of_getElem? (i := 33) (by decide +kernel)), by decide +kernel⟩
theorem cs_Mo_ball_13 : a_CV M_Mo_ball M_Mo_put3 268 10 4 0 3 := ⟨⟨ok_Mo_put3, by decide, by decide, by decide⟩, by decide, rfl, List.mem_append_right _ (List.mem_of_getElem? (i := 1293) (by decide +kernel)), List.mem_append_right _ (List.mem_of_getElem? (i := 1295) (by decide +kernel)), List.mem_append_left _ (List.mem_of_getElem? (i := 44) (by decide +kernel)), by decide +kernel⟩
theorem cs_Mo_ball_17 : a_CV M_Mo_ball M_Mo_finish 156 10 1 0 0 := ⟨⟨ok_Mo_finish, by decide, by decide, by decide⟩, by decide, rfl, List.mem_append_right _ (List.mem_of_getElem? (i := 1093) (by decide +kernel)), List.mem_append_right _ (List.mem_of_getElem? (i := 1095) (by decide +kernel)), List.mem_append_left _ (List.mem_of_getElem? (i := 40) (by decide +kernel)), by decide +kernel⟩
theorem cs_Mo_ball_37 : a_CV M_Mo_ball M_Mo_squeeze 212 10 1 2 0 := ⟨⟨ok_Mo_squeeze, by decide, by decide, by decide⟩, by decide, rfl, List.mem_append_right _ (List.mem_of_getElem? (i := 1301) (by decide +kernel)), List.mem_append_right _ (List.mem_of_getElem? (i := 1303) (by decide +kernel)), List.mem_append_left _ (List.mem_of_getElem? (i := 46) (by decide +kernel)), by decide +kernel⟩
theorem cs_Mo_ball_49 : a_CS M_Mo_ball M_Mo_clear 275 1 0 1 := ⟨⟨ok_Mo_clear, by decide, by decide, by decide⟩, List.mem_append_right _ (List.mem_of_getElem? (i := 1332) (by decide +kernel)), List.mem_append_right _ (List.mem_of_getElem? (i := 1333) (by decide +kernel)), by decide +kernel⟩
theorem cs_Mo_ball_95 : a_CV M_Mo_ball M_Mo_squeeze 212 10 1 0 0 := ⟨⟨ok_Mo_squeeze, by decide, by decide, by decide⟩, by decide, rfl, List.mem_append_right _ (List.mem_of_getElem? (i := 1301) (by decide +kernel)), List.mem_append_right _ (List.mem_of_getElem? (i := 1303) (by decide +kernel)), List.mem_append_left _ (List.mem_of_getElem? (i := 46) (by decide +kernel)), by decide +kernel⟩
theorem cs_Mo_ball_133 : a_CS M_Mo_ball M_Mo_bitOf 219 3 2 3 := ⟨⟨ok_Mo_bitOf, by decide, by decide, by decide⟩, List.mem_append_right _ (List.mem_of_getElem? (i := 1383) (by decide +kernel)), List.mem_append_right _ (List.mem_of_getElem? (i := 1384) (by decide +kernel)), by decide +kernel⟩
def M_Mo_centre : a_M := (⟨"ModuleSignerModel", "centre", "(I)I"⟩, prog_12_method_47_code, 1, some .int, "ModuleSignerModel", 0, 0, [])
theorem ok_Mo_centre : a_Ok M_Mo_centre := ⟨rfl, by decide +kernel, ⟨by decide, by decide⟩, List.mem_append_right _ (List.mem_of_getElem? (i := 11) (by decide +kernel)), Or.inl ⟨rfl, List.mem_append_right _ (List.mem_of_getElem? (i := 1409) (by decide +kernel))⟩⟩
theorem d_Mo_centre_0 : decode (a_cc M_Mo_centre) 0 = .ok (.iload_n 0, 1) := by decide +kernel
theorem d_Mo_centre_1 : decode (a_cc M_Mo_centre) 1 = .ok (.ldc_w 263, 3) := by decide +kernel
theorem d_Mo_centre_4 : decode (a_cc M_Mo_centre) 4 = .ok (.if_icmp .le 11, 3) := by decide +kernel
theorem d_Mo_centre_7 : decode (a_cc M_Mo_centre) 7 = .ok (.iload_n 0, 1) := by decide +kernel
theorem d_Mo_centre_8 : decode (a_cc M_Mo_centre) 8 = .ok (.ldc_w 264, 3) := by decide +kernel
theorem d_Mo_centre_11 : decode (a_cc M_Mo_centre) 11 = .ok (.isub, 1) := by decide +kernel
theorem d_Mo_centre_12 : decode (a_cc M_Mo_centre) 12 = .ok (.goto 4, 3) := by decide +kernel
theorem d_Mo_centre_15 : decode (a_cc M_Mo_centre) 15 = .ok (.iload_n 0, 1) := by decide +kernel
theorem d_Mo_centre_16 : decode (a_cc M_Mo_centre) 16 = .ok (.ireturn, 1) := by decide +kernel
theorem lc_Mo_263 : Cond.constant "ModuleSignerModel" 263 (Int32.ofInt (4190208)) ∈ lw_tbl := List.mem_append_right _ (List.mem_of_getElem? (i := 1410) (by decide +kernel))
def M_Mo_few : a_M := (⟨"ModuleSignerModel", "few", "([I[I[I)V"⟩, prog_12_method_48_code, 8, none, "ModuleSignerModel", 1, 14, [])
theorem ok_Mo_few : a_Ok M_Mo_few := ⟨rfl, by decide +kernel, ⟨by decide, by decide⟩, List.mem_append_right _ (List.mem_of_getElem? (i := 11) (by decide +kernel)), Or.inl ⟨rfl, List.mem_append_right _ (List.mem_of_getElem? (i := 1406) (by decide +kernel))⟩⟩
theorem d_Mo_few_0 : decode (a_cc M_Mo_few) 0 = .ok (.iconst 0, 1) := by decide +kernel
theorem d_Mo_few_1 : decode (a_cc M_Mo_few) 1 = .ok (.istore 4, 2) := by decide +kernel
theorem d_Mo_few_3 : decode (a_cc M_Mo_few) 3 = .ok (.iload 4, 2) := by decide +kernel
theorem d_Mo_few_5 : decode (a_cc M_Mo_few) 5 = .ok (.sipush 256, 3) := by decide +kernel
theorem d_Mo_few_8 : decode (a_cc M_Mo_few) 8 = .ok (.if_icmp .ge 17, 3) := by decide +kernel
theorem d_Mo_few_11 : decode (a_cc M_Mo_few) 11 = .ok (.aload_n 0, 1) := by decide +kernel
theorem d_Mo_few_12 : decode (a_cc M_Mo_few) 12 = .ok (.getfield 65, 3) := by decide +kernel
theorem d_Mo_few_15 : decode (a_cc M_Mo_few) 15 = .ok (.iload 4, 2) := by decide +kernel
theorem d_Mo_few_17 : decode (a_cc M_Mo_few) 17 = .ok (.lconst 0, 1) := by decide +kernel
theorem d_Mo_few_18 : decode (a_cc M_Mo_few) 18 = .ok (.lastore, 1) := by decide +kernel
theorem d_Mo_few_19 : decode (a_cc M_Mo_few) 19 = .ok (.iinc 4 1, 3) := by decide +kernel
theorem d_Mo_few_22 : decode (a_cc M_Mo_few) 22 = .ok (.goto (-19), 3) := by decide +kernel
theorem d_Mo_few_25 : decode (a_cc M_Mo_few) 25 = .ok (.iconst 0, 1) := by decide +kernel
theorem d_Mo_few_26 : decode (a_cc M_Mo_few) 26 = .ok (.istore 4, 2) := by decide +kernel
theorem d_Mo_few_28 : decode (a_cc M_Mo_few) 28 = .ok (.iload 4, 2) := by decide +kernel
theorem d_Mo_few_30 : decode (a_cc M_Mo_few) 30 = .ok (.sipush 256, 3) := by decide +kernel
theorem d_Mo_few_33 : decode (a_cc M_Mo_few) 33 = .ok (.if_icmp .ge 94, 3) := by decide +kernel
theorem d_Mo_few_36 : decode (a_cc M_Mo_few) 36 = .ok (.iconst 0, 1) := by decide +kernel
theorem d_Mo_few_37 : decode (a_cc M_Mo_few) 37 = .ok (.istore 5, 2) := by decide +kernel
theorem d_Mo_few_39 : decode (a_cc M_Mo_few) 39 = .ok (.iload 5, 2) := by decide +kernel
theorem d_Mo_few_41 : decode (a_cc M_Mo_few) 41 = .ok (.sipush 256, 3) := by decide +kernel
theorem d_Mo_few_44 : decode (a_cc M_Mo_few) 44 = .ok (.if_icmp .ge 77, 3) := by decide +kernel
theorem d_Mo_few_47 : decode (a_cc M_Mo_few) 47 = .ok (.aload_n 2, 1) := by decide +kernel
theorem d_Mo_few_48 : decode (a_cc M_Mo_few) 48 = .ok (.iload 4, 2) := by decide +kernel
theorem d_Mo_few_50 : decode (a_cc M_Mo_few) 50 = .ok (.iaload, 1) := by decide +kernel
theorem d_Mo_few_51 : decode (a_cc M_Mo_few) 51 = .ok (.ifCond .eq 70, 3) := by decide +kernel
theorem d_Mo_few_54 : decode (a_cc M_Mo_few) 54 = .ok (.aload_n 2, 1) := by decide +kernel
theorem d_Mo_few_55 : decode (a_cc M_Mo_few) 55 = .ok (.iload 4, 2) := by decide +kernel
theorem d_Mo_few_57 : decode (a_cc M_Mo_few) 57 = .ok (.iaload, 1) := by decide +kernel
theorem d_Mo_few_58 : decode (a_cc M_Mo_few) 58 = .ok (.i2l, 1) := by decide +kernel
theorem d_Mo_few_59 : decode (a_cc M_Mo_few) 59 = .ok (.aload_n 3, 1) := by decide +kernel
theorem d_Mo_few_60 : decode (a_cc M_Mo_few) 60 = .ok (.iload 5, 2) := by decide +kernel
theorem d_Mo_few_62 : decode (a_cc M_Mo_few) 62 = .ok (.iaload, 1) := by decide +kernel
theorem d_Mo_few_63 : decode (a_cc M_Mo_few) 63 = .ok (.i2l, 1) := by decide +kernel
theorem d_Mo_few_64 : decode (a_cc M_Mo_few) 64 = .ok (.lmul, 1) := by decide +kernel
theorem d_Mo_few_65 : decode (a_cc M_Mo_few) 65 = .ok (.lstore 6, 2) := by decide +kernel
theorem d_Mo_few_67 : decode (a_cc M_Mo_few) 67 = .ok (.iload 4, 2) := by decide +kernel
theorem d_Mo_few_69 : decode (a_cc M_Mo_few) 69 = .ok (.iload 5, 2) := by decide +kernel
theorem d_Mo_few_71 : decode (a_cc M_Mo_few) 71 = .ok (.iadd, 1) := by decide +kernel
theorem d_Mo_few_72 : decode (a_cc M_Mo_few) 72 = .ok (.sipush 256, 3) := by decide +kernel
theorem d_Mo_few_75 : decode (a_cc M_Mo_few) 75 = .ok (.if_icmp .ge 21, 3) := by decide +kernel
theorem d_Mo_few_78 : decode (a_cc M_Mo_few) 78 = .ok (.aload_n 0, 1) := by decide +kernel
theorem d_Mo_few_79 : decode (a_cc M_Mo_few) 79 = .ok (.getfield 65, 3) := by decide +kernel
theorem d_Mo_few_82 : decode (a_cc M_Mo_few) 82 = .ok (.iload 4, 2) := by decide +kernel
theorem d_Mo_few_84 : decode (a_cc M_Mo_few) 84 = .ok (.iload 5, 2) := by decide +kernel
theorem d_Mo_few_86 : decode (a_cc M_Mo_few) 86 = .ok (.iadd, 1) := by decide +kernel
theorem d_Mo_few_87 : decode (a_cc M_Mo_few) 87 = .ok (.dup2, 1) := by decide +kernel
theorem d_Mo_few_88 : decode (a_cc M_Mo_few) 88 = .ok (.laload, 1) := by decide +kernel
theorem d_Mo_few_89 : decode (a_cc M_Mo_few) 89 = .ok (.lload 6, 2) := by decide +kernel
theorem d_Mo_few_91 : decode (a_cc M_Mo_few) 91 = .ok (.ladd, 1) := by decide +kernel
theorem d_Mo_few_92 : decode (a_cc M_Mo_few) 92 = .ok (.lastore, 1) := by decide +kernel
theorem d_Mo_few_93 : decode (a_cc M_Mo_few) 93 = .ok (.goto 22, 3) := by decide +kernel
theorem d_Mo_few_96 : decode (a_cc M_Mo_few) 96 = .ok (.aload_n 0, 1) := by decide +kernel
theorem d_Mo_few_97 : decode (a_cc M_Mo_few) 97 = .ok (.getfield 65, 3) := by decide +kernel
theorem d_Mo_few_100 : decode (a_cc M_Mo_few) 100 = .ok (.iload 4, 2) := by decide +kernel
theorem d_Mo_few_102 : decode (a_cc M_Mo_few) 102 = .ok (.iload 5, 2) := by decide +kernel
theorem d_Mo_few_104 : decode (a_cc M_Mo_few) 104 = .ok (.iadd, 1) := by decide +kernel
theorem d_Mo_few_105 : decode (a_cc M_Mo_few) 105 = .ok (.sipush 256, 3) := by decide +kernel
theorem d_Mo_few_108 : decode (a_cc M_Mo_few) 108 = .ok (.isub, 1) := by decide +kernel
theorem d_Mo_few_109 : decode (a_cc M_Mo_few) 109 = .ok (.dup2, 1) := by decide +kernel
theorem d_Mo_few_110 : decode (a_cc M_Mo_few) 110 = .ok (.laload, 1) := by decide +kernel
theorem d_Mo_few_111 : decode (a_cc M_Mo_few) 111 = .ok (.lload 6, 2) := by decide +kernel
theorem d_Mo_few_113 : decode (a_cc M_Mo_few) 113 = .ok (.lsub, 1) := by decide +kernel
theorem d_Mo_few_114 : decode (a_cc M_Mo_few) 114 = .ok (.lastore, 1) := by decide +kernel
theorem d_Mo_few_115 : decode (a_cc M_Mo_few) 115 = .ok (.iinc 5 1, 3) := by decide +kernel
theorem d_Mo_few_118 : decode (a_cc M_Mo_few) 118 = .ok (.goto (-79), 3) := by decide +kernel
theorem d_Mo_few_121 : decode (a_cc M_Mo_few) 121 = .ok (.iinc 4 1, 3) := by decide +kernel
theorem d_Mo_few_124 : decode (a_cc M_Mo_few) 124 = .ok (.goto (-96), 3) := by decide +kernel
theorem d_Mo_few_127 : decode (a_cc M_Mo_few) 127 = .ok (.iconst 0, 1) := by decide +kernel
theorem d_Mo_few_128 : decode (a_cc M_Mo_few) 128 = .ok (.istore 4, 2) := by decide +kernel
theorem d_Mo_few_130 : decode (a_cc M_Mo_few) 130 = .ok (.iload 4, 2) := by decide +kernel
theorem d_Mo_few_132 : decode (a_cc M_Mo_few) 132 = .ok (.sipush 256, 3) := by decide +kernel
theorem d_Mo_few_135 : decode (a_cc M_Mo_few) 135 = .ok (.if_icmp .ge 36, 3) := by decide +kernel
theorem d_Mo_few_138 : decode (a_cc M_Mo_few) 138 = .ok (.aload_n 1, 1) := by decide +kernel
theorem d_Mo_few_139 : decode (a_cc M_Mo_few) 139 = .ok (.iload 4, 2) := by decide +kernel
theorem d_Mo_few_141 : decode (a_cc M_Mo_few) 141 = .ok (.aload_n 0, 1) := by decide +kernel
theorem d_Mo_few_142 : decode (a_cc M_Mo_few) 142 = .ok (.getfield 65, 3) := by decide +kernel
theorem d_Mo_few_145 : decode (a_cc M_Mo_few) 145 = .ok (.iload 4, 2) := by decide +kernel
theorem d_Mo_few_147 : decode (a_cc M_Mo_few) 147 = .ok (.laload, 1) := by decide +kernel
theorem d_Mo_few_148 : decode (a_cc M_Mo_few) 148 = .ok (.ldc2_w 256, 3) := by decide +kernel
theorem d_Mo_few_151 : decode (a_cc M_Mo_few) 151 = .ok (.lrem, 1) := by decide +kernel
theorem d_Mo_few_152 : decode (a_cc M_Mo_few) 152 = .ok (.ldc2_w 256, 3) := by decide +kernel
theorem d_Mo_few_155 : decode (a_cc M_Mo_few) 155 = .ok (.ladd, 1) := by decide +kernel
theorem d_Mo_few_156 : decode (a_cc M_Mo_few) 156 = .ok (.ldc2_w 256, 3) := by decide +kernel
theorem d_Mo_few_159 : decode (a_cc M_Mo_few) 159 = .ok (.lrem, 1) := by decide +kernel
theorem d_Mo_few_160 : decode (a_cc M_Mo_few) 160 = .ok (.l2i, 1) := by decide +kernel
theorem d_Mo_few_161 : decode (a_cc M_Mo_few) 161 = .ok (.invokestatic 265, 3) := by decide +kernel
theorem d_Mo_few_164 : decode (a_cc M_Mo_few) 164 = .ok (.iastore, 1) := by decide +kernel
theorem d_Mo_few_165 : decode (a_cc M_Mo_few) 165 = .ok (.iinc 4 1, 3) := by decide +kernel
theorem d_Mo_few_168 : decode (a_cc M_Mo_few) 168 = .ok (.goto (-38), 3) := by decide +kernel
theorem d_Mo_few_171 : decode (a_cc M_Mo_few) 171 = .ok (.return_, 1) := by decide +kernel
theorem cs_Mo_few_161 : a_CS M_Mo_few M_Mo_centre 265 1 2 1 := ⟨⟨ok_Mo_centre, by decide, by decide, by decide⟩, List.mem_append_right _ (List.mem_of_getElem? (i := 1407) (by decide +kernel)), List.mem_append_right _ (List.mem_of_getElem? (i := 1408) (by decide +kernel)), by decide +kernel⟩
def M_Mo_low : a_M := (⟨"ModuleSignerModel", "low", "(I)I"⟩, prog_12_method_53_code, 3, some .int, "ModuleSignerModel", 0, 0, [])
theorem ok_Mo_low : a_Ok M_Mo_low := ⟨rfl, by decide +kernel, ⟨by decide, by decide⟩, List.mem_append_right _ (List.mem_of_getElem? (i := 11) (by decide +kernel)), Or.inl ⟨rfl, List.mem_append_right _ (List.mem_of_getElem? (i := 1414) (by decide +kernel))⟩⟩
theorem d_Mo_low_0 : decode (a_cc M_Mo_low) 0 = .ok (.iload_n 1, 1) := by decide +kernel
theorem d_Mo_low_1 : decode (a_cc M_Mo_low) 1 = .ok (.iconst 2, 1) := by decide +kernel
theorem d_Mo_low_2 : decode (a_cc M_Mo_low) 2 = .ok (.aload_n 0, 1) := by decide +kernel
theorem d_Mo_low_3 : decode (a_cc M_Mo_low) 3 = .ok (.getfield 242, 3) := by decide +kernel
theorem d_Mo_low_6 : decode (a_cc M_Mo_low) 6 = .ok (.imul, 1) := by decide +kernel
theorem d_Mo_low_7 : decode (a_cc M_Mo_low) 7 = .ok (.irem, 1) := by decide +kernel
theorem d_Mo_low_8 : decode (a_cc M_Mo_low) 8 = .ok (.istore_n 2, 1) := by decide +kernel
theorem d_Mo_low_9 : decode (a_cc M_Mo_low) 9 = .ok (.iload_n 2, 1) := by decide +kernel
theorem d_Mo_low_10 : decode (a_cc M_Mo_low) 10 = .ok (.aload_n 0, 1) := by decide +kernel
theorem d_Mo_low_11 : decode (a_cc M_Mo_low) 11 = .ok (.getfield 242, 3) := by decide +kernel
theorem d_Mo_low_14 : decode (a_cc M_Mo_low) 14 = .ok (.if_icmp .le 12, 3) := by decide +kernel
theorem d_Mo_low_17 : decode (a_cc M_Mo_low) 17 = .ok (.iload_n 2, 1) := by decide +kernel
theorem d_Mo_low_18 : decode (a_cc M_Mo_low) 18 = .ok (.iconst 2, 1) := by decide +kernel
theorem d_Mo_low_19 : decode (a_cc M_Mo_low) 19 = .ok (.aload_n 0, 1) := by decide +kernel
theorem d_Mo_low_20 : decode (a_cc M_Mo_low) 20 = .ok (.getfield 242, 3) := by decide +kernel
theorem d_Mo_low_23 : decode (a_cc M_Mo_low) 23 = .ok (.imul, 1) := by decide +kernel
theorem d_Mo_low_24 : decode (a_cc M_Mo_low) 24 = .ok (.isub, 1) := by decide +kernel
theorem d_Mo_low_25 : decode (a_cc M_Mo_low) 25 = .ok (.istore_n 2, 1) := by decide +kernel
theorem d_Mo_low_26 : decode (a_cc M_Mo_low) 26 = .ok (.iload_n 1, 1) := by decide +kernel
theorem d_Mo_low_27 : decode (a_cc M_Mo_low) 27 = .ok (.iload_n 2, 1) := by decide +kernel
theorem d_Mo_low_28 : decode (a_cc M_Mo_low) 28 = .ok (.isub, 1) := by decide +kernel
theorem d_Mo_low_29 : decode (a_cc M_Mo_low) 29 = .ok (.ldc_w 279, 3) := by decide +kernel
theorem d_Mo_low_32 : decode (a_cc M_Mo_low) 32 = .ok (.if_icmp .ne 9, 3) := by decide +kernel
theorem d_Mo_low_35 : decode (a_cc M_Mo_low) 35 = .ok (.iload_n 2, 1) := by decide +kernel
theorem d_Mo_low_36 : decode (a_cc M_Mo_low) 36 = .ok (.iconst 1, 1) := by decide +kernel
theorem d_Mo_low_37 : decode (a_cc M_Mo_low) 37 = .ok (.isub, 1) := by decide +kernel
theorem d_Mo_low_38 : decode (a_cc M_Mo_low) 38 = .ok (.goto 4, 3) := by decide +kernel
theorem d_Mo_low_41 : decode (a_cc M_Mo_low) 41 = .ok (.iload_n 2, 1) := by decide +kernel
theorem d_Mo_low_42 : decode (a_cc M_Mo_low) 42 = .ok (.ireturn, 1) := by decide +kernel
