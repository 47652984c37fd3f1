/-! names, printed by program: methods, their instructions, what they link -/
def M_Ve_hintsStart : a_M := (⟨"ModuleSigner$Verifier", "hintsStart", "(LModuleSigner$Parameters;)I"⟩, prog_10_method_3_code, 1, some .int, "ModuleSigner$Verifier", 0, 0, [])
theorem ok_Ve_hintsStart : a_Ok M_Ve_hintsStart := ⟨rfl, by decide +kernel, ⟨by decide, by decide⟩, List.mem_append_right _ (List.mem_of_getElem? (i := 10) (by decide +kernel)), Or.inl ⟨rfl, List.mem_append_right _ (List.mem_of_getElem? (i := 959) (by decide +kernel))⟩⟩
theorem d_Ve_hintsStart_0 : decode (a_cc M_Ve_hintsStart) 0 = .ok (.aload_n 0, 1) := by decide +kernel
theorem d_Ve_hintsStart_1 : decode (a_cc M_Ve_hintsStart) 1 = .ok (.getfield 31, 3) := by decide +kernel
theorem d_Ve_hintsStart_4 : decode (a_cc M_Ve_hintsStart) 4 = .ok (.aload_n 0, 1) := by decide +kernel
theorem d_Ve_hintsStart_5 : decode (a_cc M_Ve_hintsStart) 5 = .ok (.getfield 78, 3) := by decide +kernel
theorem d_Ve_hintsStart_8 : decode (a_cc M_Ve_hintsStart) 8 = .ok (.isub, 1) := by decide +kernel
theorem d_Ve_hintsStart_9 : decode (a_cc M_Ve_hintsStart) 9 = .ok (.aload_n 0, 1) := by decide +kernel
theorem d_Ve_hintsStart_10 : decode (a_cc M_Ve_hintsStart) 10 = .ok (.getfield 81, 3) := by decide +kernel
theorem d_Ve_hintsStart_13 : decode (a_cc M_Ve_hintsStart) 13 = .ok (.isub, 1) := by decide +kernel
theorem d_Ve_hintsStart_14 : decode (a_cc M_Ve_hintsStart) 14 = .ok (.ireturn, 1) := by decide +kernel
theorem fd_Ve_31 : a_Fd "ModuleSigner$Verifier" 31 2 15 0 := ⟨by decide, by decide, rfl, List.mem_append_right _ (List.mem_of_getElem? (i := 128) (by decide +kernel))⟩
theorem fd_Ve_78 : a_Fd "ModuleSigner$Verifier" 78 2 6 0 := ⟨by decide, by decide, rfl, List.mem_append_right _ (List.mem_of_getElem? (i := 104) (by decide +kernel))⟩
theorem fd_Ve_81 : a_Fd "ModuleSigner$Verifier" 81 2 0 0 := ⟨by decide, by decide, rfl, List.mem_append_right _ (List.mem_of_getElem? (i := 83) (by decide +kernel))⟩
def M_Ve_hintsEnd : a_M := (⟨"ModuleSigner$Verifier", "hintsEnd", "(LModuleSigner$Bytes;LModuleSigner$Parameters;I)I"⟩, prog_10_method_4_code, 3, some .int, "ModuleSigner$Verifier", 1, 13, [])
theorem ok_Ve_hintsEnd : a_Ok M_Ve_hintsEnd := ⟨rfl, by decide +kernel, ⟨by decide, by decide⟩, List.mem_append_right _ (List.mem_of_getElem? (i := 10) (by decide +kernel)), Or.inl ⟨rfl, List.mem_append_right _ (List.mem_of_getElem? (i := 956) (by decide +kernel))⟩⟩
theorem d_Ve_hintsEnd_0 : decode (a_cc M_Ve_hintsEnd) 0 = .ok (.iload_n 2, 1) := by decide +kernel
theorem d_Ve_hintsEnd_1 : decode (a_cc M_Ve_hintsEnd) 1 = .ok (.ifCond .ge 7, 3) := by decide +kernel
theorem d_Ve_hintsEnd_4 : decode (a_cc M_Ve_hintsEnd) 4 = .ok (.iconst 0, 1) := by decide +kernel
theorem d_Ve_hintsEnd_5 : decode (a_cc M_Ve_hintsEnd) 5 = .ok (.goto 18, 3) := by decide +kernel
theorem d_Ve_hintsEnd_8 : decode (a_cc M_Ve_hintsEnd) 8 = .ok (.aload_n 0, 1) := by decide +kernel
theorem d_Ve_hintsEnd_9 : decode (a_cc M_Ve_hintsEnd) 9 = .ok (.aload_n 1, 1) := by decide +kernel
theorem d_Ve_hintsEnd_10 : decode (a_cc M_Ve_hintsEnd) 10 = .ok (.invokestatic 84, 3) := by decide +kernel
theorem d_Ve_hintsEnd_13 : decode (a_cc M_Ve_hintsEnd) 13 = .ok (.aload_n 1, 1) := by decide +kernel
theorem d_Ve_hintsEnd_14 : decode (a_cc M_Ve_hintsEnd) 14 = .ok (.getfield 78, 3) := by decide +kernel
theorem d_Ve_hintsEnd_17 : decode (a_cc M_Ve_hintsEnd) 17 = .ok (.iadd, 1) := by decide +kernel
theorem d_Ve_hintsEnd_18 : decode (a_cc M_Ve_hintsEnd) 18 = .ok (.iload_n 2, 1) := by decide +kernel
theorem d_Ve_hintsEnd_19 : decode (a_cc M_Ve_hintsEnd) 19 = .ok (.iadd, 1) := by decide +kernel
theorem d_Ve_hintsEnd_20 : decode (a_cc M_Ve_hintsEnd) 20 = .ok (.invokevirtual 88, 3) := by decide +kernel
theorem d_Ve_hintsEnd_23 : decode (a_cc M_Ve_hintsEnd) 23 = .ok (.ireturn, 1) := by decide +kernel
theorem cs_Ve_hintsEnd_10 : a_CS M_Ve_hintsEnd M_Ve_hintsStart 84 1 1 1 := ⟨⟨ok_Ve_hintsStart, by decide, by decide, by decide⟩, List.mem_append_right _ (List.mem_of_getElem? (i := 957) (by decide +kernel)), List.mem_append_right _ (List.mem_of_getElem? (i := 958) (by decide +kernel)), by decide +kernel⟩
theorem cs_Ve_hintsEnd_20 : a_CV M_Ve_hintsEnd M_By_at 88 1 2 0 1 := ⟨⟨ok_By_at, by decide, by decide, by decide⟩, by decide, rfl, List.mem_append_right _ (List.mem_of_getElem? (i := 960) (by decide +kernel)), List.mem_append_right _ (List.mem_of_getElem? (i := 537) (by decide +kernel)), List.mem_append_right _ (List.mem_of_getElem? (i := 538) (by decide +kernel)), by decide +kernel⟩
def M_Ve_placesRise : a_M := (⟨"ModuleSigner$Verifier", "placesRise", "(LModuleSigner$Bytes;II)Z"⟩, prog_10_method_6_code, 4, some .boolean, "ModuleSigner$Verifier", 1, 14, [])
theorem ok_Ve_placesRise : a_Ok M_Ve_placesRise := ⟨rfl, by decide +kernel, ⟨by decide, by decide⟩, List.mem_append_right _ (List.mem_of_getElem? (i := 10) (by decide +kernel)), Or.inl ⟨rfl, List.mem_append_right _ (List.mem_of_getElem? (i := 963) (by decide +kernel))⟩⟩
theorem d_Ve_placesRise_0 : decode (a_cc M_Ve_placesRise) 0 = .ok (.iload_n 1, 1) := by decide +kernel
theorem d_Ve_placesRise_1 : decode (a_cc M_Ve_placesRise) 1 = .ok (.iconst 1, 1) := by decide +kernel
theorem d_Ve_placesRise_2 : decode (a_cc M_Ve_placesRise) 2 = .ok (.iadd, 1) := by decide +kernel
theorem d_Ve_placesRise_3 : decode (a_cc M_Ve_placesRise) 3 = .ok (.istore_n 3, 1) := by decide +kernel
theorem d_Ve_placesRise_4 : decode (a_cc M_Ve_placesRise) 4 = .ok (.iload_n 3, 1) := by decide +kernel
theorem d_Ve_placesRise_5 : decode (a_cc M_Ve_placesRise) 5 = .ok (.iload_n 2, 1) := by decide +kernel
theorem d_Ve_placesRise_6 : decode (a_cc M_Ve_placesRise) 6 = .ok (.if_icmp .ge 26, 3) := by decide +kernel
theorem d_Ve_placesRise_9 : decode (a_cc M_Ve_placesRise) 9 = .ok (.aload_n 0, 1) := by decide +kernel
theorem d_Ve_placesRise_10 : decode (a_cc M_Ve_placesRise) 10 = .ok (.iload_n 3, 1) := by decide +kernel
theorem d_Ve_placesRise_11 : decode (a_cc M_Ve_placesRise) 11 = .ok (.invokevirtual 88, 3) := by decide +kernel
theorem d_Ve_placesRise_14 : decode (a_cc M_Ve_placesRise) 14 = .ok (.aload_n 0, 1) := by decide +kernel
theorem d_Ve_placesRise_15 : decode (a_cc M_Ve_placesRise) 15 = .ok (.iload_n 3, 1) := by decide +kernel
theorem d_Ve_placesRise_16 : decode (a_cc M_Ve_placesRise) 16 = .ok (.iconst 1, 1) := by decide +kernel
theorem d_Ve_placesRise_17 : decode (a_cc M_Ve_placesRise) 17 = .ok (.isub, 1) := by decide +kernel
theorem d_Ve_placesRise_18 : decode (a_cc M_Ve_placesRise) 18 = .ok (.invokevirtual 88, 3) := by decide +kernel
theorem d_Ve_placesRise_21 : decode (a_cc M_Ve_placesRise) 21 = .ok (.if_icmp .gt 5, 3) := by decide +kernel
theorem d_Ve_placesRise_24 : decode (a_cc M_Ve_placesRise) 24 = .ok (.iconst 0, 1) := by decide +kernel
theorem d_Ve_placesRise_25 : decode (a_cc M_Ve_placesRise) 25 = .ok (.ireturn, 1) := by decide +kernel
theorem d_Ve_placesRise_26 : decode (a_cc M_Ve_placesRise) 26 = .ok (.iinc 3 1, 3) := by decide +kernel
theorem d_Ve_placesRise_29 : decode (a_cc M_Ve_placesRise) 29 = .ok (.goto (-25), 3) := by decide +kernel
theorem d_Ve_placesRise_32 : decode (a_cc M_Ve_placesRise) 32 = .ok (.iconst 1, 1) := by decide +kernel
theorem d_Ve_placesRise_33 : decode (a_cc M_Ve_placesRise) 33 = .ok (.ireturn, 1) := by decide +kernel
theorem cs_Ve_placesRise_11 : a_CV M_Ve_placesRise M_By_at 88 1 2 0 1 := ⟨⟨ok_By_at, by decide, by decide, by decide⟩, by decide, rfl, List.mem_append_right _ (List.mem_of_getElem? (i := 960) (by decide +kernel)), List.mem_append_right _ (List.mem_of_getElem? (i := 537) (by decide +kernel)), List.mem_append_right _ (List.mem_of_getElem? (i := 538) (by decide +kernel)), by decide +kernel⟩
theorem cs_Ve_placesRise_18 : a_CV M_Ve_placesRise M_By_at 88 1 2 1 1 := ⟨⟨ok_By_at, by decide, by decide, by decide⟩, by decide, rfl, List.mem_append_right _ (List.mem_of_getElem? (i := 960) (by decide +kernel)), List.mem_append_right _ (List.mem_of_getElem? (i := 537) (by decide +kernel)), List.mem_append_right _ (List.mem_of_getElem? (i := 538) (by decide +kernel)), by decide +kernel⟩
def M_Ve_hintsStand : a_M := (⟨"ModuleSigner$Verifier", "hintsStand", "(LModuleSigner$Bytes;LModuleSigner$Parameters;)Z"⟩, prog_10_method_5_code, 5, some .boolean, "ModuleSigner$Verifier", 2, 29, [])
theorem ok_Ve_hintsStand : a_Ok M_Ve_hintsStand := ⟨rfl, by decide +kernel, ⟨by decide, by decide⟩, List.mem_append_right _ (List.mem_of_getElem? (i := 10) (by decide +kernel)), Or.inl ⟨rfl, List.mem_append_right _ (List.mem_of_getElem? (i := 953) (by decide +kernel))⟩⟩
theorem d_Ve_hintsStand_0 : decode (a_cc M_Ve_hintsStand) 0 = .ok (.iconst 0, 1) := by decide +kernel
theorem d_Ve_hintsStand_1 : decode (a_cc M_Ve_hintsStand) 1 = .ok (.istore_n 2, 1) := by decide +kernel
theorem d_Ve_hintsStand_2 : decode (a_cc M_Ve_hintsStand) 2 = .ok (.iload_n 2, 1) := by decide +kernel
theorem d_Ve_hintsStand_3 : decode (a_cc M_Ve_hintsStand) 3 = .ok (.aload_n 1, 1) := by decide +kernel
theorem d_Ve_hintsStand_4 : decode (a_cc M_Ve_hintsStand) 4 = .ok (.getfield 81, 3) := by decide +kernel
theorem d_Ve_hintsStand_7 : decode (a_cc M_Ve_hintsStand) 7 = .ok (.if_icmp .ge 63, 3) := by decide +kernel
theorem d_Ve_hintsStand_10 : decode (a_cc M_Ve_hintsStand) 10 = .ok (.aload_n 0, 1) := by decide +kernel
theorem d_Ve_hintsStand_11 : decode (a_cc M_Ve_hintsStand) 11 = .ok (.aload_n 1, 1) := by decide +kernel
theorem d_Ve_hintsStand_12 : decode (a_cc M_Ve_hintsStand) 12 = .ok (.iload_n 2, 1) := by decide +kernel
theorem d_Ve_hintsStand_13 : decode (a_cc M_Ve_hintsStand) 13 = .ok (.iconst 1, 1) := by decide +kernel
theorem d_Ve_hintsStand_14 : decode (a_cc M_Ve_hintsStand) 14 = .ok (.isub, 1) := by decide +kernel
theorem d_Ve_hintsStand_15 : decode (a_cc M_Ve_hintsStand) 15 = .ok (.invokestatic 92, 3) := by decide +kernel
theorem d_Ve_hintsStand_18 : decode (a_cc M_Ve_hintsStand) 18 = .ok (.istore_n 3, 1) := by decide +kernel
theorem d_Ve_hintsStand_19 : decode (a_cc M_Ve_hintsStand) 19 = .ok (.aload_n 0, 1) := by decide +kernel
theorem d_Ve_hintsStand_20 : decode (a_cc M_Ve_hintsStand) 20 = .ok (.aload_n 1, 1) := by decide +kernel
theorem d_Ve_hintsStand_21 : decode (a_cc M_Ve_hintsStand) 21 = .ok (.iload_n 2, 1) := by decide +kernel
theorem d_Ve_hintsStand_22 : decode (a_cc M_Ve_hintsStand) 22 = .ok (.invokestatic 92, 3) := by decide +kernel
theorem d_Ve_hintsStand_25 : decode (a_cc M_Ve_hintsStand) 25 = .ok (.istore 4, 2) := by decide +kernel
theorem d_Ve_hintsStand_27 : decode (a_cc M_Ve_hintsStand) 27 = .ok (.iload 4, 2) := by decide +kernel
theorem d_Ve_hintsStand_29 : decode (a_cc M_Ve_hintsStand) 29 = .ok (.iload_n 3, 1) := by decide +kernel
theorem d_Ve_hintsStand_30 : decode (a_cc M_Ve_hintsStand) 30 = .ok (.if_icmp .lt 32, 3) := by decide +kernel
theorem d_Ve_hintsStand_33 : decode (a_cc M_Ve_hintsStand) 33 = .ok (.iload 4, 2) := by decide +kernel
theorem d_Ve_hintsStand_35 : decode (a_cc M_Ve_hintsStand) 35 = .ok (.aload_n 1, 1) := by decide +kernel
theorem d_Ve_hintsStand_36 : decode (a_cc M_Ve_hintsStand) 36 = .ok (.getfield 78, 3) := by decide +kernel
theorem d_Ve_hintsStand_39 : decode (a_cc M_Ve_hintsStand) 39 = .ok (.if_icmp .gt 23, 3) := by decide +kernel
theorem d_Ve_hintsStand_42 : decode (a_cc M_Ve_hintsStand) 42 = .ok (.aload_n 0, 1) := by decide +kernel
theorem d_Ve_hintsStand_43 : decode (a_cc M_Ve_hintsStand) 43 = .ok (.aload_n 1, 1) := by decide +kernel
theorem d_Ve_hintsStand_44 : decode (a_cc M_Ve_hintsStand) 44 = .ok (.invokestatic 84, 3) := by decide +kernel
theorem d_Ve_hintsStand_47 : decode (a_cc M_Ve_hintsStand) 47 = .ok (.iload_n 3, 1) := by decide +kernel
theorem d_Ve_hintsStand_48 : decode (a_cc M_Ve_hintsStand) 48 = .ok (.iadd, 1) := by decide +kernel
theorem d_Ve_hintsStand_49 : decode (a_cc M_Ve_hintsStand) 49 = .ok (.aload_n 1, 1) := by decide +kernel
theorem d_Ve_hintsStand_50 : decode (a_cc M_Ve_hintsStand) 50 = .ok (.invokestatic 84, 3) := by decide +kernel
theorem d_Ve_hintsStand_53 : decode (a_cc M_Ve_hintsStand) 53 = .ok (.iload 4, 2) := by decide +kernel
theorem d_Ve_hintsStand_55 : decode (a_cc M_Ve_hintsStand) 55 = .ok (.iadd, 1) := by decide +kernel
theorem d_Ve_hintsStand_56 : decode (a_cc M_Ve_hintsStand) 56 = .ok (.invokestatic 96, 3) := by decide +kernel
theorem d_Ve_hintsStand_59 : decode (a_cc M_Ve_hintsStand) 59 = .ok (.ifCond .ne 5, 3) := by decide +kernel
theorem d_Ve_hintsStand_62 : decode (a_cc M_Ve_hintsStand) 62 = .ok (.iconst 0, 1) := by decide +kernel
theorem d_Ve_hintsStand_63 : decode (a_cc M_Ve_hintsStand) 63 = .ok (.ireturn, 1) := by decide +kernel
theorem d_Ve_hintsStand_64 : decode (a_cc M_Ve_hintsStand) 64 = .ok (.iinc 2 1, 3) := by decide +kernel
theorem d_Ve_hintsStand_67 : decode (a_cc M_Ve_hintsStand) 67 = .ok (.goto (-65), 3) := by decide +kernel
theorem d_Ve_hintsStand_70 : decode (a_cc M_Ve_hintsStand) 70 = .ok (.aload_n 0, 1) := by decide +kernel
theorem d_Ve_hintsStand_71 : decode (a_cc M_Ve_hintsStand) 71 = .ok (.aload_n 1, 1) := by decide +kernel
theorem d_Ve_hintsStand_72 : decode (a_cc M_Ve_hintsStand) 72 = .ok (.aload_n 1, 1) := by decide +kernel
theorem d_Ve_hintsStand_73 : decode (a_cc M_Ve_hintsStand) 73 = .ok (.getfield 81, 3) := by decide +kernel
theorem d_Ve_hintsStand_76 : decode (a_cc M_Ve_hintsStand) 76 = .ok (.iconst 1, 1) := by decide +kernel
theorem d_Ve_hintsStand_77 : decode (a_cc M_Ve_hintsStand) 77 = .ok (.isub, 1) := by decide +kernel
theorem d_Ve_hintsStand_78 : decode (a_cc M_Ve_hintsStand) 78 = .ok (.invokestatic 92, 3) := by decide +kernel
theorem d_Ve_hintsStand_81 : decode (a_cc M_Ve_hintsStand) 81 = .ok (.istore_n 2, 1) := by decide +kernel
theorem d_Ve_hintsStand_82 : decode (a_cc M_Ve_hintsStand) 82 = .ok (.iload_n 2, 1) := by decide +kernel
theorem d_Ve_hintsStand_83 : decode (a_cc M_Ve_hintsStand) 83 = .ok (.aload_n 1, 1) := by decide +kernel
theorem d_Ve_hintsStand_84 : decode (a_cc M_Ve_hintsStand) 84 = .ok (.getfield 78, 3) := by decide +kernel
theorem d_Ve_hintsStand_87 : decode (a_cc M_Ve_hintsStand) 87 = .ok (.if_icmp .ge 24, 3) := by decide +kernel
theorem d_Ve_hintsStand_90 : decode (a_cc M_Ve_hintsStand) 90 = .ok (.aload_n 0, 1) := by decide +kernel
theorem d_Ve_hintsStand_91 : decode (a_cc M_Ve_hintsStand) 91 = .ok (.aload_n 1, 1) := by decide +kernel
theorem d_Ve_hintsStand_92 : decode (a_cc M_Ve_hintsStand) 92 = .ok (.invokestatic 84, 3) := by decide +kernel
theorem d_Ve_hintsStand_95 : decode (a_cc M_Ve_hintsStand) 95 = .ok (.iload_n 2, 1) := by decide +kernel
theorem d_Ve_hintsStand_96 : decode (a_cc M_Ve_hintsStand) 96 = .ok (.iadd, 1) := by decide +kernel
theorem d_Ve_hintsStand_97 : decode (a_cc M_Ve_hintsStand) 97 = .ok (.invokevirtual 88, 3) := by decide +kernel
theorem d_Ve_hintsStand_100 : decode (a_cc M_Ve_hintsStand) 100 = .ok (.ifCond .eq 5, 3) := by decide +kernel
theorem d_Ve_hintsStand_103 : decode (a_cc M_Ve_hintsStand) 103 = .ok (.iconst 0, 1) := by decide +kernel
theorem d_Ve_hintsStand_104 : decode (a_cc M_Ve_hintsStand) 104 = .ok (.ireturn, 1) := by decide +kernel
theorem d_Ve_hintsStand_105 : decode (a_cc M_Ve_hintsStand) 105 = .ok (.iinc 2 1, 3) := by decide +kernel
theorem d_Ve_hintsStand_108 : decode (a_cc M_Ve_hintsStand) 108 = .ok (.goto (-26), 3) := by decide +kernel
theorem d_Ve_hintsStand_111 : decode (a_cc M_Ve_hintsStand) 111 = .ok (.iconst 1, 1) := by decide +kernel
theorem d_Ve_hintsStand_112 : decode (a_cc M_Ve_hintsStand) 112 = .ok (.ireturn, 1) := by decide +kernel
theorem cs_Ve_hintsStand_15 : a_CS M_Ve_hintsStand M_Ve_hintsEnd 92 3 0 3 := ⟨⟨ok_Ve_hintsEnd, by decide, by decide, by decide⟩, List.mem_append_right _ (List.mem_of_getElem? (i := 954) (by decide +kernel)), List.mem_append_right _ (List.mem_of_getElem? (i := 955) (by decide +kernel)), by decide +kernel⟩
theorem cs_Ve_hintsStand_22 : a_CS M_Ve_hintsStand M_Ve_hintsEnd 92 3 0 3 := ⟨⟨ok_Ve_hintsEnd, by decide, by decide, by decide⟩, List.mem_append_right _ (List.mem_of_getElem? (i := 954) (by decide +kernel)), List.mem_append_right _ (List.mem_of_getElem? (i := 955) (by decide +kernel)), by decide +kernel⟩
theorem cs_Ve_hintsStand_44 : a_CS M_Ve_hintsStand M_Ve_hintsStart 84 1 1 1 := ⟨⟨ok_Ve_hintsStart, by decide, by decide, by decide⟩, List.mem_append_right _ (List.mem_of_getElem? (i := 957) (by decide +kernel)), List.mem_append_right _ (List.mem_of_getElem? (i := 958) (by decide +kernel)), by decide +kernel⟩
theorem cs_Ve_hintsStand_50 : a_CS M_Ve_hintsStand M_Ve_hintsStart 84 1 2 1 := ⟨⟨ok_Ve_hintsStart, by decide, by decide, by decide⟩, List.mem_append_right _ (List.mem_of_getElem? (i := 957) (by decide +kernel)), List.mem_append_right _ (List.mem_of_getElem? (i := 958) (by decide +kernel)), by decide +kernel⟩
theorem cs_Ve_hintsStand_56 : a_CS M_Ve_hintsStand M_Ve_placesRise 96 3 0 3 := ⟨⟨ok_Ve_placesRise, by decide, by decide, by decide⟩, List.mem_append_right _ (List.mem_of_getElem? (i := 961) (by decide +kernel)), List.mem_append_right _ (List.mem_of_getElem? (i := 962) (by decide +kernel)), by decide +kernel⟩
theorem cs_Ve_hintsStand_78 : a_CS M_Ve_hintsStand M_Ve_hintsEnd 92 3 0 3 := ⟨⟨ok_Ve_hintsEnd, by decide, by decide, by decide⟩, List.mem_append_right _ (List.mem_of_getElem? (i := 954) (by decide +kernel)), List.mem_append_right _ (List.mem_of_getElem? (i := 955) (by decide +kernel)), by decide +kernel⟩
theorem cs_Ve_hintsStand_92 : a_CS M_Ve_hintsStand M_Ve_hintsStart 84 1 1 1 := ⟨⟨ok_Ve_hintsStart, by decide, by decide, by decide⟩, List.mem_append_right _ (List.mem_of_getElem? (i := 957) (by decide +kernel)), List.mem_append_right _ (List.mem_of_getElem? (i := 958) (by decide +kernel)), by decide +kernel⟩
theorem cs_Ve_hintsStand_97 : a_CV M_Ve_hintsStand M_By_at 88 1 2 0 1 := ⟨⟨ok_By_at, by decide, by decide, by decide⟩, by decide, rfl, List.mem_append_right _ (List.mem_of_getElem? (i := 960) (by decide +kernel)), List.mem_append_right _ (List.mem_of_getElem? (i := 537) (by decide +kernel)), List.mem_append_right _ (List.mem_of_getElem? (i := 538) (by decide +kernel)), by decide +kernel⟩
def M_Ve_answersHide : a_M := (⟨"ModuleSigner$Verifier", "answersHide", "(LModuleSigner$Bytes;LModuleSigner$Parameters;)Z"⟩, prog_10_method_7_code, 4, some .boolean, "ModuleSigner$Verifier", 2, 34, [])
theorem ok_Ve_answersHide : a_Ok M_Ve_answersHide := ⟨rfl, by decide +kernel, ⟨by decide, by decide⟩, List.mem_append_right _ (List.mem_of_getElem? (i := 10) (by decide +kernel)), Or.inl ⟨rfl, List.mem_append_right _ (List.mem_of_getElem? (i := 967) (by decide +kernel))⟩⟩
theorem d_Ve_answersHide_0 : decode (a_cc M_Ve_answersHide) 0 = .ok (.iconst 0, 1) := by decide +kernel
theorem d_Ve_answersHide_1 : decode (a_cc M_Ve_answersHide) 1 = .ok (.istore_n 3, 1) := by decide +kernel
theorem d_Ve_answersHide_2 : decode (a_cc M_Ve_answersHide) 2 = .ok (.iload_n 3, 1) := by decide +kernel
theorem d_Ve_answersHide_3 : decode (a_cc M_Ve_answersHide) 3 = .ok (.aload_n 2, 1) := by decide +kernel
theorem d_Ve_answersHide_4 : decode (a_cc M_Ve_answersHide) 4 = .ok (.getfield 100, 3) := by decide +kernel
theorem d_Ve_answersHide_7 : decode (a_cc M_Ve_answersHide) 7 = .ok (.if_icmp .ge 82, 3) := by decide +kernel
theorem d_Ve_answersHide_10 : decode (a_cc M_Ve_answersHide) 10 = .ok (.aload_n 1, 1) := by decide +kernel
theorem d_Ve_answersHide_11 : decode (a_cc M_Ve_answersHide) 11 = .ok (.aload_n 2, 1) := by decide +kernel
theorem d_Ve_answersHide_12 : decode (a_cc M_Ve_answersHide) 12 = .ok (.getfield 52, 3) := by decide +kernel
theorem d_Ve_answersHide_15 : decode (a_cc M_Ve_answersHide) 15 = .ok (.iload_n 3, 1) := by decide +kernel
theorem d_Ve_answersHide_16 : decode (a_cc M_Ve_answersHide) 16 = .ok (.aload_n 2, 1) := by decide +kernel
theorem d_Ve_answersHide_17 : decode (a_cc M_Ve_answersHide) 17 = .ok (.getfield 103, 3) := by decide +kernel
theorem d_Ve_answersHide_20 : decode (a_cc M_Ve_answersHide) 20 = .ok (.invokestatic 106, 3) := by decide +kernel
theorem d_Ve_answersHide_23 : decode (a_cc M_Ve_answersHide) 23 = .ok (.imul, 1) := by decide +kernel
theorem d_Ve_answersHide_24 : decode (a_cc M_Ve_answersHide) 24 = .ok (.iadd, 1) := by decide +kernel
theorem d_Ve_answersHide_25 : decode (a_cc M_Ve_answersHide) 25 = .ok (.aload_n 2, 1) := by decide +kernel
theorem d_Ve_answersHide_26 : decode (a_cc M_Ve_answersHide) 26 = .ok (.getfield 103, 3) := by decide +kernel
theorem d_Ve_answersHide_29 : decode (a_cc M_Ve_answersHide) 29 = .ok (.aload_n 0, 1) := by decide +kernel
theorem d_Ve_answersHide_30 : decode (a_cc M_Ve_answersHide) 30 = .ok (.getfield 23, 3) := by decide +kernel
theorem d_Ve_answersHide_33 : decode (a_cc M_Ve_answersHide) 33 = .ok (.getfield 111, 3) := by decide +kernel
theorem d_Ve_answersHide_36 : decode (a_cc M_Ve_answersHide) 36 = .ok (.iload_n 3, 1) := by decide +kernel
theorem d_Ve_answersHide_37 : decode (a_cc M_Ve_answersHide) 37 = .ok (.aaload, 1) := by decide +kernel
theorem d_Ve_answersHide_38 : decode (a_cc M_Ve_answersHide) 38 = .ok (.invokevirtual 115, 3) := by decide +kernel
theorem d_Ve_answersHide_41 : decode (a_cc M_Ve_answersHide) 41 = .ok (.aload_n 0, 1) := by decide +kernel
theorem d_Ve_answersHide_42 : decode (a_cc M_Ve_answersHide) 42 = .ok (.getfield 23, 3) := by decide +kernel
theorem d_Ve_answersHide_45 : decode (a_cc M_Ve_answersHide) 45 = .ok (.getfield 111, 3) := by decide +kernel
theorem d_Ve_answersHide_48 : decode (a_cc M_Ve_answersHide) 48 = .ok (.iload_n 3, 1) := by decide +kernel
theorem d_Ve_answersHide_49 : decode (a_cc M_Ve_answersHide) 49 = .ok (.aaload, 1) := by decide +kernel
theorem d_Ve_answersHide_50 : decode (a_cc M_Ve_answersHide) 50 = .ok (.aload_n 2, 1) := by decide +kernel
theorem d_Ve_answersHide_51 : decode (a_cc M_Ve_answersHide) 51 = .ok (.getfield 119, 3) := by decide +kernel
theorem d_Ve_answersHide_54 : decode (a_cc M_Ve_answersHide) 54 = .ok (.invokestatic 122, 3) := by decide +kernel
theorem d_Ve_answersHide_57 : decode (a_cc M_Ve_answersHide) 57 = .ok (.aload_n 0, 1) := by decide +kernel
theorem d_Ve_answersHide_58 : decode (a_cc M_Ve_answersHide) 58 = .ok (.getfield 23, 3) := by decide +kernel
theorem d_Ve_answersHide_61 : decode (a_cc M_Ve_answersHide) 61 = .ok (.getfield 111, 3) := by decide +kernel
theorem d_Ve_answersHide_64 : decode (a_cc M_Ve_answersHide) 64 = .ok (.iload_n 3, 1) := by decide +kernel
theorem d_Ve_answersHide_65 : decode (a_cc M_Ve_answersHide) 65 = .ok (.aaload, 1) := by decide +kernel
theorem d_Ve_answersHide_66 : decode (a_cc M_Ve_answersHide) 66 = .ok (.aload_n 2, 1) := by decide +kernel
theorem d_Ve_answersHide_67 : decode (a_cc M_Ve_answersHide) 67 = .ok (.getfield 119, 3) := by decide +kernel
theorem d_Ve_answersHide_70 : decode (a_cc M_Ve_answersHide) 70 = .ok (.aload_n 2, 1) := by decide +kernel
theorem d_Ve_answersHide_71 : decode (a_cc M_Ve_answersHide) 71 = .ok (.getfield 126, 3) := by decide +kernel
theorem d_Ve_answersHide_74 : decode (a_cc M_Ve_answersHide) 74 = .ok (.isub, 1) := by decide +kernel
theorem d_Ve_answersHide_75 : decode (a_cc M_Ve_answersHide) 75 = .ok (.invokestatic 129, 3) := by decide +kernel
theorem d_Ve_answersHide_78 : decode (a_cc M_Ve_answersHide) 78 = .ok (.ifCond .ne 5, 3) := by decide +kernel
theorem d_Ve_answersHide_81 : decode (a_cc M_Ve_answersHide) 81 = .ok (.iconst 0, 1) := by decide +kernel
theorem d_Ve_answersHide_82 : decode (a_cc M_Ve_answersHide) 82 = .ok (.ireturn, 1) := by decide +kernel
theorem d_Ve_answersHide_83 : decode (a_cc M_Ve_answersHide) 83 = .ok (.iinc 3 1, 3) := by decide +kernel
theorem d_Ve_answersHide_86 : decode (a_cc M_Ve_answersHide) 86 = .ok (.goto (-84), 3) := by decide +kernel
theorem d_Ve_answersHide_89 : decode (a_cc M_Ve_answersHide) 89 = .ok (.iconst 1, 1) := by decide +kernel
theorem d_Ve_answersHide_90 : decode (a_cc M_Ve_answersHide) 90 = .ok (.ireturn, 1) := by decide +kernel
theorem fd_Ve_100 : a_Fd "ModuleSigner$Verifier" 100 2 1 0 := ⟨by decide, by decide, rfl, List.mem_append_right _ (List.mem_of_getElem? (i := 91) (by decide +kernel))⟩
theorem fd_Ve_52 : a_Fd "ModuleSigner$Verifier" 52 2 7 0 := ⟨by decide, by decide, rfl, List.mem_append_right _ (List.mem_of_getElem? (i := 107) (by decide +kernel))⟩
theorem fd_Ve_103 : a_Fd "ModuleSigner$Verifier" 103 2 11 0 := ⟨by decide, by decide, rfl, List.mem_append_right _ (List.mem_of_getElem? (i := 118) (by decide +kernel))⟩
theorem cs_Ve_answersHide_20 : a_CS M_Ve_answersHide M_Ri_packedSize 106 1 3 1 := ⟨⟨ok_Ri_packedSize, by decide, by decide, by decide⟩, List.mem_append_right _ (List.mem_of_getElem? (i := 968) (by decide +kernel)), List.mem_append_right _ (List.mem_of_getElem? (i := 78) (by decide +kernel)), by decide +kernel⟩
theorem fd_Ve_111 : a_Fd "ModuleSigner$Verifier" 111 3 6 2 := ⟨by decide, by decide, rfl, List.mem_append_right _ (List.mem_of_getElem? (i := 247) (by decide +kernel))⟩
theorem cs_Ve_answersHide_38 : a_CV M_Ve_answersHide M_By_readBits 115 1 4 0 3 := ⟨⟨ok_By_readBits, by decide, by decide, by decide⟩, by decide, rfl, List.mem_append_right _ (List.mem_of_getElem? (i := 969) (by decide +kernel)), List.mem_append_right _ (List.mem_of_getElem? (i := 822) (by decide +kernel)), List.mem_append_right _ (List.mem_of_getElem? (i := 823) (by decide +kernel)), by decide +kernel⟩
theorem fd_Ve_119 : a_Fd "ModuleSigner$Verifier" 119 2 4 0 := ⟨by decide, by decide, rfl, List.mem_append_right _ (List.mem_of_getElem? (i := 99) (by decide +kernel))⟩
theorem cs_Ve_answersHide_54 : a_CS M_Ve_answersHide M_Ri_mirror 122 2 0 2 := ⟨⟨ok_Ri_mirror, by decide, by decide, by decide⟩, List.mem_append_right _ (List.mem_of_getElem? (i := 970) (by decide +kernel)), List.mem_append_right _ (List.mem_of_getElem? (i := 772) (by decide +kernel)), by decide +kernel⟩
theorem fd_Ve_126 : a_Fd "ModuleSigner$Verifier" 126 2 9 0 := ⟨by decide, by decide, rfl, List.mem_append_right _ (List.mem_of_getElem? (i := 111) (by decide +kernel))⟩
theorem cs_Ve_answersHide_75 : a_CS M_Ve_answersHide M_Ri_within 129 2 0 2 := ⟨⟨ok_Ri_within, by decide, by decide, by decide⟩, List.mem_append_right _ (List.mem_of_getElem? (i := 971) (by decide +kernel)), List.mem_append_right _ (List.mem_of_getElem? (i := 904) (by decide +kernel)), by decide +kernel⟩
def M_Ve_digestMessage : a_M := (⟨"ModuleSigner$Verifier", "digestMessage", "([LModuleSigner$Bytes;I)V"⟩, prog_10_method_8_code, 3, none, "ModuleSigner$Verifier", 4, 66, [])
theorem ok_Ve_digestMessage : a_Ok M_Ve_digestMessage := ⟨rfl, by decide +kernel, ⟨by decide, by decide⟩, List.mem_append_right _ (List.mem_of_getElem? (i := 10) (by decide +kernel)), Or.inl ⟨rfl, List.mem_append_right _ (List.mem_of_getElem? (i := 975) (by decide +kernel))⟩⟩
theorem d_Ve_digestMessage_0 : decode (a_cc M_Ve_digestMessage) 0 = .ok (.aload_n 0, 1) := by decide +kernel
theorem d_Ve_digestMessage_1 : decode (a_cc M_Ve_digestMessage) 1 = .ok (.getfield 23, 3) := by decide +kernel
theorem d_Ve_digestMessage_4 : decode (a_cc M_Ve_digestMessage) 4 = .ok (.getfield 133, 3) := by decide +kernel
theorem d_Ve_digestMessage_7 : decode (a_cc M_Ve_digestMessage) 7 = .ok (.invokevirtual 137, 3) := by decide +kernel
theorem d_Ve_digestMessage_10 : decode (a_cc M_Ve_digestMessage) 10 = .ok (.aload_n 0, 1) := by decide +kernel
theorem d_Ve_digestMessage_11 : decode (a_cc M_Ve_digestMessage) 11 = .ok (.getfield 23, 3) := by decide +kernel
theorem d_Ve_digestMessage_14 : decode (a_cc M_Ve_digestMessage) 14 = .ok (.getfield 133, 3) := by decide +kernel
theorem d_Ve_digestMessage_17 : decode (a_cc M_Ve_digestMessage) 17 = .ok (.aload_n 1, 1) := by decide +kernel
theorem d_Ve_digestMessage_18 : decode (a_cc M_Ve_digestMessage) 18 = .ok (.iconst 1, 1) := by decide +kernel
theorem d_Ve_digestMessage_19 : decode (a_cc M_Ve_digestMessage) 19 = .ok (.aaload, 1) := by decide +kernel
theorem d_Ve_digestMessage_20 : decode (a_cc M_Ve_digestMessage) 20 = .ok (.iconst 0, 1) := by decide +kernel
theorem d_Ve_digestMessage_21 : decode (a_cc M_Ve_digestMessage) 21 = .ok (.aload_n 1, 1) := by decide +kernel
theorem d_Ve_digestMessage_22 : decode (a_cc M_Ve_digestMessage) 22 = .ok (.iconst 1, 1) := by decide +kernel
theorem d_Ve_digestMessage_23 : decode (a_cc M_Ve_digestMessage) 23 = .ok (.aaload, 1) := by decide +kernel
theorem d_Ve_digestMessage_24 : decode (a_cc M_Ve_digestMessage) 24 = .ok (.getfield 27, 3) := by decide +kernel
theorem d_Ve_digestMessage_27 : decode (a_cc M_Ve_digestMessage) 27 = .ok (.invokevirtual 142, 3) := by decide +kernel
theorem d_Ve_digestMessage_30 : decode (a_cc M_Ve_digestMessage) 30 = .ok (.aload_n 0, 1) := by decide +kernel
theorem d_Ve_digestMessage_31 : decode (a_cc M_Ve_digestMessage) 31 = .ok (.getfield 23, 3) := by decide +kernel
theorem d_Ve_digestMessage_34 : decode (a_cc M_Ve_digestMessage) 34 = .ok (.getfield 133, 3) := by decide +kernel
theorem d_Ve_digestMessage_37 : decode (a_cc M_Ve_digestMessage) 37 = .ok (.invokevirtual 146, 3) := by decide +kernel
theorem d_Ve_digestMessage_40 : decode (a_cc M_Ve_digestMessage) 40 = .ok (.aload_n 0, 1) := by decide +kernel
theorem d_Ve_digestMessage_41 : decode (a_cc M_Ve_digestMessage) 41 = .ok (.getfield 23, 3) := by decide +kernel
theorem d_Ve_digestMessage_44 : decode (a_cc M_Ve_digestMessage) 44 = .ok (.getfield 133, 3) := by decide +kernel
theorem d_Ve_digestMessage_47 : decode (a_cc M_Ve_digestMessage) 47 = .ok (.aload_n 0, 1) := by decide +kernel
theorem d_Ve_digestMessage_48 : decode (a_cc M_Ve_digestMessage) 48 = .ok (.getfield 14, 3) := by decide +kernel
theorem d_Ve_digestMessage_51 : decode (a_cc M_Ve_digestMessage) 51 = .ok (.bipush 64, 2) := by decide +kernel
theorem d_Ve_digestMessage_53 : decode (a_cc M_Ve_digestMessage) 53 = .ok (.invokevirtual 149, 3) := by decide +kernel
theorem d_Ve_digestMessage_56 : decode (a_cc M_Ve_digestMessage) 56 = .ok (.aload_n 0, 1) := by decide +kernel
theorem d_Ve_digestMessage_57 : decode (a_cc M_Ve_digestMessage) 57 = .ok (.getfield 23, 3) := by decide +kernel
theorem d_Ve_digestMessage_60 : decode (a_cc M_Ve_digestMessage) 60 = .ok (.aload_n 0, 1) := by decide +kernel
theorem d_Ve_digestMessage_61 : decode (a_cc M_Ve_digestMessage) 61 = .ok (.getfield 14, 3) := by decide +kernel
theorem d_Ve_digestMessage_64 : decode (a_cc M_Ve_digestMessage) 64 = .ok (.iconst 0, 1) := by decide +kernel
theorem d_Ve_digestMessage_65 : decode (a_cc M_Ve_digestMessage) 65 = .ok (.aload_n 1, 1) := by decide +kernel
theorem d_Ve_digestMessage_66 : decode (a_cc M_Ve_digestMessage) 66 = .ok (.iload_n 2, 1) := by decide +kernel
theorem d_Ve_digestMessage_67 : decode (a_cc M_Ve_digestMessage) 67 = .ok (.invokevirtual 152, 3) := by decide +kernel
theorem d_Ve_digestMessage_70 : decode (a_cc M_Ve_digestMessage) 70 = .ok (.return_, 1) := by decide +kernel
theorem fd_Ve_133 : a_Fd "ModuleSigner$Verifier" 133 3 1 2 := ⟨by decide, by decide, rfl, List.mem_append_right _ (List.mem_of_getElem? (i := 229) (by decide +kernel))⟩
theorem cs_Ve_digestMessage_7 : a_CV M_Ve_digestMessage M_Sp_start256 137 7 1 0 0 := ⟨⟨ok_Sp_start256, by decide, by decide, by decide⟩, by decide, rfl, List.mem_append_right _ (List.mem_of_getElem? (i := 976) (by decide +kernel)), List.mem_append_right _ (List.mem_of_getElem? (i := 604) (by decide +kernel)), List.mem_append_right _ (List.mem_of_getElem? (i := 605) (by decide +kernel)), by decide +kernel⟩
theorem fd_Ve_27 : a_Fd "ModuleSigner$Verifier" 27 1 1 0 := ⟨by decide, by decide, rfl, List.mem_append_right _ (List.mem_of_getElem? (i := 41) (by decide +kernel))⟩
theorem cs_Ve_digestMessage_27 : a_CV M_Ve_digestMessage M_Sp_takePart 142 7 4 0 3 := ⟨⟨ok_Sp_takePart, by decide, by decide, by decide⟩, by decide, rfl, List.mem_append_right _ (List.mem_of_getElem? (i := 977) (by decide +kernel)), List.mem_append_right _ (List.mem_of_getElem? (i := 612) (by decide +kernel)), List.mem_append_right _ (List.mem_of_getElem? (i := 613) (by decide +kernel)), by decide +kernel⟩
theorem cs_Ve_digestMessage_37 : a_CV M_Ve_digestMessage M_Sp_turn 146 7 1 0 0 := ⟨⟨ok_Sp_turn, by decide, by decide, by decide⟩, by decide, rfl, List.mem_append_right _ (List.mem_of_getElem? (i := 978) (by decide +kernel)), List.mem_append_right _ (List.mem_of_getElem? (i := 638) (by decide +kernel)), List.mem_append_right _ (List.mem_of_getElem? (i := 639) (by decide +kernel)), by decide +kernel⟩
theorem cs_Ve_digestMessage_53 : a_CV M_Ve_digestMessage M_Sp_giveTo 149 7 3 0 2 := ⟨⟨ok_Sp_giveTo, by decide, by decide, by decide⟩, by decide, rfl, List.mem_append_right _ (List.mem_of_getElem? (i := 979) (by decide +kernel)), List.mem_append_right _ (List.mem_of_getElem? (i := 642) (by decide +kernel)), List.mem_append_right _ (List.mem_of_getElem? (i := 643) (by decide +kernel)), by decide +kernel⟩
theorem cs_Ve_digestMessage_67 : a_CV M_Ve_digestMessage M_Be_digestSigned 152 3 5 0 4 := ⟨⟨ok_Be_digestSigned, by decide, by decide, by decide⟩, by decide, rfl, List.mem_append_right _ (List.mem_of_getElem? (i := 980) (by decide +kernel)), List.mem_append_right _ (List.mem_of_getElem? (i := 829) (by decide +kernel)), List.mem_append_right _ (List.mem_of_getElem? (i := 830) (by decide +kernel)), by decide +kernel⟩
def M_Ve_readTop : a_M := (⟨"ModuleSigner$Verifier", "readTop", "(LModuleSigner$Bytes;I)V"⟩, prog_10_method_10_code, 5, none, "ModuleSigner$Verifier", 3, 50, [])
theorem ok_Ve_readTop : a_Ok M_Ve_readTop := ⟨rfl, by decide +kernel, ⟨by decide, by decide⟩, List.mem_append_right _ (List.mem_of_getElem? (i := 10) (by decide +kernel)), Or.inl ⟨rfl, List.mem_append_right _ (List.mem_of_getElem? (i := 993) (by decide +kernel))⟩⟩
theorem d_Ve_readTop_0 : decode (a_cc M_Ve_readTop) 0 = .ok (.bipush 32, 2) := by decide +kernel
theorem d_Ve_readTop_2 : decode (a_cc M_Ve_readTop) 2 = .ok (.iload_n 2, 1) := by decide +kernel
theorem d_Ve_readTop_3 : decode (a_cc M_Ve_readTop) 3 = .ok (.bipush 10, 2) := by decide +kernel
theorem d_Ve_readTop_5 : decode (a_cc M_Ve_readTop) 5 = .ok (.invokestatic 106, 3) := by decide +kernel
theorem d_Ve_readTop_8 : decode (a_cc M_Ve_readTop) 8 = .ok (.imul, 1) := by decide +kernel
theorem d_Ve_readTop_9 : decode (a_cc M_Ve_readTop) 9 = .ok (.iadd, 1) := by decide +kernel
theorem d_Ve_readTop_10 : decode (a_cc M_Ve_readTop) 10 = .ok (.istore_n 3, 1) := by decide +kernel
theorem d_Ve_readTop_11 : decode (a_cc M_Ve_readTop) 11 = .ok (.aload_n 1, 1) := by decide +kernel
theorem d_Ve_readTop_12 : decode (a_cc M_Ve_readTop) 12 = .ok (.iload_n 3, 1) := by decide +kernel
theorem d_Ve_readTop_13 : decode (a_cc M_Ve_readTop) 13 = .ok (.bipush 10, 2) := by decide +kernel
theorem d_Ve_readTop_15 : decode (a_cc M_Ve_readTop) 15 = .ok (.aload_n 0, 1) := by decide +kernel
theorem d_Ve_readTop_16 : decode (a_cc M_Ve_readTop) 16 = .ok (.getfield 23, 3) := by decide +kernel
theorem d_Ve_readTop_19 : decode (a_cc M_Ve_readTop) 19 = .ok (.getfield 186, 3) := by decide +kernel
theorem d_Ve_readTop_22 : decode (a_cc M_Ve_readTop) 22 = .ok (.invokevirtual 115, 3) := by decide +kernel
theorem d_Ve_readTop_25 : decode (a_cc M_Ve_readTop) 25 = .ok (.iconst 0, 1) := by decide +kernel
theorem d_Ve_readTop_26 : decode (a_cc M_Ve_readTop) 26 = .ok (.istore 4, 2) := by decide +kernel
theorem d_Ve_readTop_28 : decode (a_cc M_Ve_readTop) 28 = .ok (.iload 4, 2) := by decide +kernel
theorem d_Ve_readTop_30 : decode (a_cc M_Ve_readTop) 30 = .ok (.sipush 256, 3) := by decide +kernel
theorem d_Ve_readTop_33 : decode (a_cc M_Ve_readTop) 33 = .ok (.if_icmp .ge 24, 3) := by decide +kernel
theorem d_Ve_readTop_36 : decode (a_cc M_Ve_readTop) 36 = .ok (.aload_n 0, 1) := by decide +kernel
theorem d_Ve_readTop_37 : decode (a_cc M_Ve_readTop) 37 = .ok (.getfield 23, 3) := by decide +kernel
theorem d_Ve_readTop_40 : decode (a_cc M_Ve_readTop) 40 = .ok (.getfield 186, 3) := by decide +kernel
theorem d_Ve_readTop_43 : decode (a_cc M_Ve_readTop) 43 = .ok (.iload 4, 2) := by decide +kernel
theorem d_Ve_readTop_45 : decode (a_cc M_Ve_readTop) 45 = .ok (.dup2, 1) := by decide +kernel
theorem d_Ve_readTop_46 : decode (a_cc M_Ve_readTop) 46 = .ok (.iaload, 1) := by decide +kernel
theorem d_Ve_readTop_47 : decode (a_cc M_Ve_readTop) 47 = .ok (.bipush 13, 2) := by decide +kernel
theorem d_Ve_readTop_49 : decode (a_cc M_Ve_readTop) 49 = .ok (.ishl, 1) := by decide +kernel
theorem d_Ve_readTop_50 : decode (a_cc M_Ve_readTop) 50 = .ok (.iastore, 1) := by decide +kernel
theorem d_Ve_readTop_51 : decode (a_cc M_Ve_readTop) 51 = .ok (.iinc 4 1, 3) := by decide +kernel
theorem d_Ve_readTop_54 : decode (a_cc M_Ve_readTop) 54 = .ok (.goto (-26), 3) := by decide +kernel
theorem d_Ve_readTop_57 : decode (a_cc M_Ve_readTop) 57 = .ok (.aload_n 0, 1) := by decide +kernel
theorem d_Ve_readTop_58 : decode (a_cc M_Ve_readTop) 58 = .ok (.getfield 23, 3) := by decide +kernel
theorem d_Ve_readTop_61 : decode (a_cc M_Ve_readTop) 61 = .ok (.getfield 168, 3) := by decide +kernel
theorem d_Ve_readTop_64 : decode (a_cc M_Ve_readTop) 64 = .ok (.aload_n 0, 1) := by decide +kernel
theorem d_Ve_readTop_65 : decode (a_cc M_Ve_readTop) 65 = .ok (.getfield 23, 3) := by decide +kernel
theorem d_Ve_readTop_68 : decode (a_cc M_Ve_readTop) 68 = .ok (.getfield 186, 3) := by decide +kernel
theorem d_Ve_readTop_71 : decode (a_cc M_Ve_readTop) 71 = .ok (.invokevirtual 172, 3) := by decide +kernel
theorem d_Ve_readTop_74 : decode (a_cc M_Ve_readTop) 74 = .ok (.return_, 1) := by decide +kernel
theorem cs_Ve_readTop_5 : a_CS M_Ve_readTop M_Ri_packedSize 106 1 2 1 := ⟨⟨ok_Ri_packedSize, by decide, by decide, by decide⟩, List.mem_append_right _ (List.mem_of_getElem? (i := 968) (by decide +kernel)), List.mem_append_right _ (List.mem_of_getElem? (i := 78) (by decide +kernel)), by decide +kernel⟩
theorem fd_Ve_186 : a_Fd "ModuleSigner$Verifier" 186 3 9 2 := ⟨by decide, by decide, rfl, List.mem_append_right _ (List.mem_of_getElem? (i := 257) (by decide +kernel))⟩
theorem cs_Ve_readTop_22 : a_CV M_Ve_readTop M_By_readBits 115 1 4 0 3 := ⟨⟨ok_By_readBits, by decide, by decide, by decide⟩, by decide, rfl, List.mem_append_right _ (List.mem_of_getElem? (i := 969) (by decide +kernel)), List.mem_append_right _ (List.mem_of_getElem? (i := 822) (by decide +kernel)), List.mem_append_right _ (List.mem_of_getElem? (i := 823) (by decide +kernel)), by decide +kernel⟩
theorem fd_Ve_168 : a_Fd "ModuleSigner$Verifier" 168 3 2 2 := ⟨by decide, by decide, rfl, List.mem_append_right _ (List.mem_of_getElem? (i := 233) (by decide +kernel))⟩
theorem cs_Ve_readTop_71 : a_CV M_Ve_readTop M_Ri_forward 172 9 2 0 1 := ⟨⟨ok_Ri_forward, by decide, by decide, by decide⟩, by decide, rfl, List.mem_append_right _ (List.mem_of_getElem? (i := 988) (by decide +kernel)), List.mem_append_right _ (List.mem_of_getElem? (i := 714) (by decide +kernel)), List.mem_append_right _ (List.mem_of_getElem? (i := 715) (by decide +kernel)), by decide +kernel⟩
def M_Ve_computeImages : a_M := (⟨"ModuleSigner$Verifier", "computeImages", "(LModuleSigner$Bytes;LModuleSigner$Parameters;)V"⟩, prog_10_method_9_code, 4, none, "ModuleSigner$Verifier", 8, 115, [])
theorem ok_Ve_computeImages : a_Ok M_Ve_computeImages := ⟨rfl, by decide +kernel, ⟨by decide, by decide⟩, List.mem_append_right _ (List.mem_of_getElem? (i := 10) (by decide +kernel)), Or.inl ⟨rfl, List.mem_append_right _ (List.mem_of_getElem? (i := 986) (by decide +kernel))⟩⟩
theorem d_Ve_computeImages_0 : decode (a_cc M_Ve_computeImages) 0 = .ok (.aload_n 0, 1) := by decide +kernel
theorem d_Ve_computeImages_1 : decode (a_cc M_Ve_computeImages) 1 = .ok (.getfield 23, 3) := by decide +kernel
theorem d_Ve_computeImages_4 : decode (a_cc M_Ve_computeImages) 4 = .ok (.getfield 156, 3) := by decide +kernel
theorem d_Ve_computeImages_7 : decode (a_cc M_Ve_computeImages) 7 = .ok (.aload_n 1, 1) := by decide +kernel
theorem d_Ve_computeImages_8 : decode (a_cc M_Ve_computeImages) 8 = .ok (.aload_n 2, 1) := by decide +kernel
theorem d_Ve_computeImages_9 : decode (a_cc M_Ve_computeImages) 9 = .ok (.aload_n 0, 1) := by decide +kernel
theorem d_Ve_computeImages_10 : decode (a_cc M_Ve_computeImages) 10 = .ok (.getfield 23, 3) := by decide +kernel
theorem d_Ve_computeImages_13 : decode (a_cc M_Ve_computeImages) 13 = .ok (.getfield 160, 3) := by decide +kernel
theorem d_Ve_computeImages_16 : decode (a_cc M_Ve_computeImages) 16 = .ok (.invokevirtual 163, 3) := by decide +kernel
theorem d_Ve_computeImages_19 : decode (a_cc M_Ve_computeImages) 19 = .ok (.iconst 0, 1) := by decide +kernel
theorem d_Ve_computeImages_20 : decode (a_cc M_Ve_computeImages) 20 = .ok (.istore_n 3, 1) := by decide +kernel
theorem d_Ve_computeImages_21 : decode (a_cc M_Ve_computeImages) 21 = .ok (.iload_n 3, 1) := by decide +kernel
theorem d_Ve_computeImages_22 : decode (a_cc M_Ve_computeImages) 22 = .ok (.aload_n 2, 1) := by decide +kernel
theorem d_Ve_computeImages_23 : decode (a_cc M_Ve_computeImages) 23 = .ok (.getfield 100, 3) := by decide +kernel
theorem d_Ve_computeImages_26 : decode (a_cc M_Ve_computeImages) 26 = .ok (.if_icmp .ge 28, 3) := by decide +kernel
theorem d_Ve_computeImages_29 : decode (a_cc M_Ve_computeImages) 29 = .ok (.aload_n 0, 1) := by decide +kernel
theorem d_Ve_computeImages_30 : decode (a_cc M_Ve_computeImages) 30 = .ok (.getfield 23, 3) := by decide +kernel
theorem d_Ve_computeImages_33 : decode (a_cc M_Ve_computeImages) 33 = .ok (.getfield 168, 3) := by decide +kernel
theorem d_Ve_computeImages_36 : decode (a_cc M_Ve_computeImages) 36 = .ok (.aload_n 0, 1) := by decide +kernel
theorem d_Ve_computeImages_37 : decode (a_cc M_Ve_computeImages) 37 = .ok (.getfield 23, 3) := by decide +kernel
theorem d_Ve_computeImages_40 : decode (a_cc M_Ve_computeImages) 40 = .ok (.getfield 111, 3) := by decide +kernel
theorem d_Ve_computeImages_43 : decode (a_cc M_Ve_computeImages) 43 = .ok (.iload_n 3, 1) := by decide +kernel
theorem d_Ve_computeImages_44 : decode (a_cc M_Ve_computeImages) 44 = .ok (.aaload, 1) := by decide +kernel
theorem d_Ve_computeImages_45 : decode (a_cc M_Ve_computeImages) 45 = .ok (.invokevirtual 172, 3) := by decide +kernel
theorem d_Ve_computeImages_48 : decode (a_cc M_Ve_computeImages) 48 = .ok (.iinc 3 1, 3) := by decide +kernel
theorem d_Ve_computeImages_51 : decode (a_cc M_Ve_computeImages) 51 = .ok (.goto (-30), 3) := by decide +kernel
theorem d_Ve_computeImages_54 : decode (a_cc M_Ve_computeImages) 54 = .ok (.aload_n 0, 1) := by decide +kernel
theorem d_Ve_computeImages_55 : decode (a_cc M_Ve_computeImages) 55 = .ok (.getfield 23, 3) := by decide +kernel
theorem d_Ve_computeImages_58 : decode (a_cc M_Ve_computeImages) 58 = .ok (.aload_n 2, 1) := by decide +kernel
theorem d_Ve_computeImages_59 : decode (a_cc M_Ve_computeImages) 59 = .ok (.invokevirtual 176, 3) := by decide +kernel
theorem d_Ve_computeImages_62 : decode (a_cc M_Ve_computeImages) 62 = .ok (.iconst 0, 1) := by decide +kernel
theorem d_Ve_computeImages_63 : decode (a_cc M_Ve_computeImages) 63 = .ok (.istore_n 3, 1) := by decide +kernel
theorem d_Ve_computeImages_64 : decode (a_cc M_Ve_computeImages) 64 = .ok (.iload_n 3, 1) := by decide +kernel
theorem d_Ve_computeImages_65 : decode (a_cc M_Ve_computeImages) 65 = .ok (.aload_n 2, 1) := by decide +kernel
theorem d_Ve_computeImages_66 : decode (a_cc M_Ve_computeImages) 66 = .ok (.getfield 81, 3) := by decide +kernel
theorem d_Ve_computeImages_69 : decode (a_cc M_Ve_computeImages) 69 = .ok (.if_icmp .ge 77, 3) := by decide +kernel
theorem d_Ve_computeImages_72 : decode (a_cc M_Ve_computeImages) 72 = .ok (.aload_n 0, 1) := by decide +kernel
theorem d_Ve_computeImages_73 : decode (a_cc M_Ve_computeImages) 73 = .ok (.aload_n 1, 1) := by decide +kernel
theorem d_Ve_computeImages_74 : decode (a_cc M_Ve_computeImages) 74 = .ok (.iload_n 3, 1) := by decide +kernel
theorem d_Ve_computeImages_75 : decode (a_cc M_Ve_computeImages) 75 = .ok (.invokevirtual 179, 3) := by decide +kernel
theorem d_Ve_computeImages_78 : decode (a_cc M_Ve_computeImages) 78 = .ok (.aload_n 0, 1) := by decide +kernel
theorem d_Ve_computeImages_79 : decode (a_cc M_Ve_computeImages) 79 = .ok (.getfield 23, 3) := by decide +kernel
theorem d_Ve_computeImages_82 : decode (a_cc M_Ve_computeImages) 82 = .ok (.getfield 182, 3) := by decide +kernel
theorem d_Ve_computeImages_85 : decode (a_cc M_Ve_computeImages) 85 = .ok (.aload_n 0, 1) := by decide +kernel
theorem d_Ve_computeImages_86 : decode (a_cc M_Ve_computeImages) 86 = .ok (.getfield 23, 3) := by decide +kernel
theorem d_Ve_computeImages_89 : decode (a_cc M_Ve_computeImages) 89 = .ok (.getfield 186, 3) := by decide +kernel
theorem d_Ve_computeImages_92 : decode (a_cc M_Ve_computeImages) 92 = .ok (.aload_n 0, 1) := by decide +kernel
theorem d_Ve_computeImages_93 : decode (a_cc M_Ve_computeImages) 93 = .ok (.getfield 23, 3) := by decide +kernel
theorem d_Ve_computeImages_96 : decode (a_cc M_Ve_computeImages) 96 = .ok (.getfield 186, 3) := by decide +kernel
theorem d_Ve_computeImages_99 : decode (a_cc M_Ve_computeImages) 99 = .ok (.invokestatic 189, 3) := by decide +kernel
theorem d_Ve_computeImages_102 : decode (a_cc M_Ve_computeImages) 102 = .ok (.aload_n 0, 1) := by decide +kernel
theorem d_Ve_computeImages_103 : decode (a_cc M_Ve_computeImages) 103 = .ok (.getfield 23, 3) := by decide +kernel
theorem d_Ve_computeImages_106 : decode (a_cc M_Ve_computeImages) 106 = .ok (.getfield 193, 3) := by decide +kernel
theorem d_Ve_computeImages_109 : decode (a_cc M_Ve_computeImages) 109 = .ok (.iload_n 3, 1) := by decide +kernel
theorem d_Ve_computeImages_110 : decode (a_cc M_Ve_computeImages) 110 = .ok (.aaload, 1) := by decide +kernel
theorem d_Ve_computeImages_111 : decode (a_cc M_Ve_computeImages) 111 = .ok (.aload_n 0, 1) := by decide +kernel
theorem d_Ve_computeImages_112 : decode (a_cc M_Ve_computeImages) 112 = .ok (.getfield 23, 3) := by decide +kernel
theorem d_Ve_computeImages_115 : decode (a_cc M_Ve_computeImages) 115 = .ok (.getfield 186, 3) := by decide +kernel
theorem d_Ve_computeImages_118 : decode (a_cc M_Ve_computeImages) 118 = .ok (.invokestatic 196, 3) := by decide +kernel
theorem d_Ve_computeImages_121 : decode (a_cc M_Ve_computeImages) 121 = .ok (.aload_n 0, 1) := by decide +kernel
theorem d_Ve_computeImages_122 : decode (a_cc M_Ve_computeImages) 122 = .ok (.getfield 23, 3) := by decide +kernel
theorem d_Ve_computeImages_125 : decode (a_cc M_Ve_computeImages) 125 = .ok (.getfield 168, 3) := by decide +kernel
theorem d_Ve_computeImages_128 : decode (a_cc M_Ve_computeImages) 128 = .ok (.aload_n 0, 1) := by decide +kernel
theorem d_Ve_computeImages_129 : decode (a_cc M_Ve_computeImages) 129 = .ok (.getfield 23, 3) := by decide +kernel
theorem d_Ve_computeImages_132 : decode (a_cc M_Ve_computeImages) 132 = .ok (.getfield 193, 3) := by decide +kernel
theorem d_Ve_computeImages_135 : decode (a_cc M_Ve_computeImages) 135 = .ok (.iload_n 3, 1) := by decide +kernel
theorem d_Ve_computeImages_136 : decode (a_cc M_Ve_computeImages) 136 = .ok (.aaload, 1) := by decide +kernel
theorem d_Ve_computeImages_137 : decode (a_cc M_Ve_computeImages) 137 = .ok (.invokevirtual 200, 3) := by decide +kernel
theorem d_Ve_computeImages_140 : decode (a_cc M_Ve_computeImages) 140 = .ok (.iinc 3 1, 3) := by decide +kernel
theorem d_Ve_computeImages_143 : decode (a_cc M_Ve_computeImages) 143 = .ok (.goto (-79), 3) := by decide +kernel
theorem d_Ve_computeImages_146 : decode (a_cc M_Ve_computeImages) 146 = .ok (.return_, 1) := by decide +kernel
theorem fd_Ve_156 : a_Fd "ModuleSigner$Verifier" 156 3 0 2 := ⟨by decide, by decide, rfl, List.mem_append_right _ (List.mem_of_getElem? (i := 225) (by decide +kernel))⟩
theorem fd_Ve_160 : a_Fd "ModuleSigner$Verifier" 160 3 3 2 := ⟨by decide, by decide, rfl, List.mem_append_right _ (List.mem_of_getElem? (i := 237) (by decide +kernel))⟩
theorem cs_Ve_computeImages_16 : a_CV M_Ve_computeImages M_Sa_matrix 163 8 4 0 3 := ⟨⟨ok_Sa_matrix, by decide, by decide, by decide⟩, by decide, rfl, List.mem_append_right _ (List.mem_of_getElem? (i := 987) (by decide +kernel)), List.mem_append_right _ (List.mem_of_getElem? (i := 656) (by decide +kernel)), List.mem_append_right _ (List.mem_of_getElem? (i := 657) (by decide +kernel)), by decide +kernel⟩
theorem cs_Ve_computeImages_45 : a_CV M_Ve_computeImages M_Ri_forward 172 9 2 0 1 := ⟨⟨ok_Ri_forward, by decide, by decide, by decide⟩, by decide, rfl, List.mem_append_right _ (List.mem_of_getElem? (i := 988) (by decide +kernel)), List.mem_append_right _ (List.mem_of_getElem? (i := 714) (by decide +kernel)), List.mem_append_right _ (List.mem_of_getElem? (i := 715) (by decide +kernel)), by decide +kernel⟩
theorem cs_Ve_computeImages_59 : a_CV M_Ve_computeImages M_Be_multiplyMatrix 176 3 2 0 1 := ⟨⟨ok_Be_multiplyMatrix, by decide, by decide, by decide⟩, by decide, rfl, List.mem_append_right _ (List.mem_of_getElem? (i := 989) (by decide +kernel)), List.mem_append_right _ (List.mem_of_getElem? (i := 725) (by decide +kernel)), List.mem_append_right _ (List.mem_of_getElem? (i := 726) (by decide +kernel)), by decide +kernel⟩
theorem cs_Ve_computeImages_75 : a_CV M_Ve_computeImages M_Ve_readTop 179 6 3 0 2 := ⟨⟨ok_Ve_readTop, by decide, by decide, by decide⟩, by decide, rfl, List.mem_append_right _ (List.mem_of_getElem? (i := 990) (by decide +kernel)), List.mem_append_right _ (List.mem_of_getElem? (i := 992) (by decide +kernel)), List.mem_append_left _ (List.mem_of_getElem? (i := 27) (by decide +kernel)), by decide +kernel⟩
theorem fd_Ve_182 : a_Fd "ModuleSigner$Verifier" 182 3 8 2 := ⟨by decide, by decide, rfl, List.mem_append_right _ (List.mem_of_getElem? (i := 253) (by decide +kernel))⟩
theorem cs_Ve_computeImages_99 : a_CS M_Ve_computeImages M_Ri_multiply 189 3 0 3 := ⟨⟨ok_Ri_multiply, by decide, by decide, by decide⟩, List.mem_append_right _ (List.mem_of_getElem? (i := 994) (by decide +kernel)), List.mem_append_right _ (List.mem_of_getElem? (i := 899) (by decide +kernel)), by decide +kernel⟩
theorem fd_Ve_193 : a_Fd "ModuleSigner$Verifier" 193 3 7 2 := ⟨by decide, by decide, rfl, List.mem_append_right _ (List.mem_of_getElem? (i := 251) (by decide +kernel))⟩
theorem cs_Ve_computeImages_118 : a_CS M_Ve_computeImages M_Ri_takeFrom 196 2 0 2 := ⟨⟨ok_Ri_takeFrom, by decide, by decide, by decide⟩, List.mem_append_right _ (List.mem_of_getElem? (i := 995) (by decide +kernel)), List.mem_append_right _ (List.mem_of_getElem? (i := 911) (by decide +kernel)), by decide +kernel⟩
theorem cs_Ve_computeImages_137 : a_CV M_Ve_computeImages M_Ri_back 200 9 2 0 1 := ⟨⟨ok_Ri_back, by decide, by decide, by decide⟩, by decide, rfl, List.mem_append_right _ (List.mem_of_getElem? (i := 996) (by decide +kernel)), List.mem_append_right _ (List.mem_of_getElem? (i := 732) (by decide +kernel)), List.mem_append_right _ (List.mem_of_getElem? (i := 733) (by decide +kernel)), by decide +kernel⟩
def M_Pa_hintedHigh : a_M := (⟨"ModuleSigner$Parameters", "hintedHigh", "(I)I"⟩, prog_5_method_4_code, 3, some .int, "ModuleSigner$Parameters", 2, 29, [])
theorem ok_Pa_hintedHigh : a_Ok M_Pa_hintedHigh := ⟨rfl, by decide +kernel, ⟨by decide, by decide⟩, List.mem_append_right _ (List.mem_of_getElem? (i := 3) (by decide +kernel)), Or.inl ⟨rfl, List.mem_append_right _ (List.mem_of_getElem? (i := 1005) (by decide +kernel))⟩⟩
theorem d_Pa_hintedHigh_0 : decode (a_cc M_Pa_hintedHigh) 0 = .ok (.aload_n 0, 1) := by decide +kernel
theorem d_Pa_hintedHigh_1 : decode (a_cc M_Pa_hintedHigh) 1 = .ok (.iload_n 1, 1) := by decide +kernel
theorem d_Pa_hintedHigh_2 : decode (a_cc M_Pa_hintedHigh) 2 = .ok (.invokevirtual 96, 3) := by decide +kernel
theorem d_Pa_hintedHigh_5 : decode (a_cc M_Pa_hintedHigh) 5 = .ok (.ifCond .le 7, 3) := by decide +kernel
theorem d_Pa_hintedHigh_8 : decode (a_cc M_Pa_hintedHigh) 8 = .ok (.iconst 1, 1) := by decide +kernel
theorem d_Pa_hintedHigh_9 : decode (a_cc M_Pa_hintedHigh) 9 = .ok (.goto 9, 3) := by decide +kernel
theorem d_Pa_hintedHigh_12 : decode (a_cc M_Pa_hintedHigh) 12 = .ok (.aload_n 0, 1) := by decide +kernel
theorem d_Pa_hintedHigh_13 : decode (a_cc M_Pa_hintedHigh) 13 = .ok (.getfield 46, 3) := by decide +kernel
theorem d_Pa_hintedHigh_16 : decode (a_cc M_Pa_hintedHigh) 16 = .ok (.iconst 1, 1) := by decide +kernel
theorem d_Pa_hintedHigh_17 : decode (a_cc M_Pa_hintedHigh) 17 = .ok (.isub, 1) := by decide +kernel
theorem d_Pa_hintedHigh_18 : decode (a_cc M_Pa_hintedHigh) 18 = .ok (.istore_n 2, 1) := by decide +kernel
theorem d_Pa_hintedHigh_19 : decode (a_cc M_Pa_hintedHigh) 19 = .ok (.aload_n 0, 1) := by decide +kernel
theorem d_Pa_hintedHigh_20 : decode (a_cc M_Pa_hintedHigh) 20 = .ok (.iload_n 1, 1) := by decide +kernel
theorem d_Pa_hintedHigh_21 : decode (a_cc M_Pa_hintedHigh) 21 = .ok (.invokevirtual 99, 3) := by decide +kernel
theorem d_Pa_hintedHigh_24 : decode (a_cc M_Pa_hintedHigh) 24 = .ok (.iload_n 2, 1) := by decide +kernel
theorem d_Pa_hintedHigh_25 : decode (a_cc M_Pa_hintedHigh) 25 = .ok (.iadd, 1) := by decide +kernel
theorem d_Pa_hintedHigh_26 : decode (a_cc M_Pa_hintedHigh) 26 = .ok (.aload_n 0, 1) := by decide +kernel
theorem d_Pa_hintedHigh_27 : decode (a_cc M_Pa_hintedHigh) 27 = .ok (.getfield 46, 3) := by decide +kernel
theorem d_Pa_hintedHigh_30 : decode (a_cc M_Pa_hintedHigh) 30 = .ok (.irem, 1) := by decide +kernel
theorem d_Pa_hintedHigh_31 : decode (a_cc M_Pa_hintedHigh) 31 = .ok (.ireturn, 1) := by decide +kernel
theorem cs_Pa_hintedHigh_2 : a_CV M_Pa_hintedHigh M_Pa_low 96 2 2 0 1 := ⟨⟨ok_Pa_low, by decide, by decide, by decide⟩, by decide, rfl, List.mem_append_right _ (List.mem_of_getElem? (i := 1006) (by decide +kernel)), List.mem_append_right _ (List.mem_of_getElem? (i := 917) (by decide +kernel)), List.mem_append_right _ (List.mem_of_getElem? (i := 918) (by decide +kernel)), by decide +kernel⟩
theorem cs_Pa_hintedHigh_21 : a_CV M_Pa_hintedHigh M_Pa_high 99 2 2 0 1 := ⟨⟨ok_Pa_high, by decide, by decide, by decide⟩, by decide, rfl, List.mem_append_right _ (List.mem_of_getElem? (i := 1007) (by decide +kernel)), List.mem_append_right _ (List.mem_of_getElem? (i := 867) (by decide +kernel)), List.mem_append_right _ (List.mem_of_getElem? (i := 868) (by decide +kernel)), by decide +kernel⟩
def M_Ve_packHighs : a_M := (⟨"ModuleSigner$Verifier", "packHighs", "(LModuleSigner$Bytes;LModuleSigner$Parameters;)V"⟩, prog_10_method_11_code, 9, none, "ModuleSigner$Verifier", 3, 45, [])
theorem ok_Ve_packHighs : a_Ok M_Ve_packHighs := ⟨rfl, by decide +kernel, ⟨by decide, by decide⟩, List.mem_append_right _ (List.mem_of_getElem? (i := 10) (by decide +kernel)), Or.inl ⟨rfl, List.mem_append_right _ (List.mem_of_getElem? (i := 1000) (by decide +kernel))⟩⟩
theorem d_Ve_packHighs_0 : decode (a_cc M_Ve_packHighs) 0 = .ok (.aload_n 0, 1) := by decide +kernel
theorem d_Ve_packHighs_1 : decode (a_cc M_Ve_packHighs) 1 = .ok (.getfield 23, 3) := by decide +kernel
theorem d_Ve_packHighs_4 : decode (a_cc M_Ve_packHighs) 4 = .ok (.getfield 203, 3) := by decide +kernel
theorem d_Ve_packHighs_7 : decode (a_cc M_Ve_packHighs) 7 = .ok (.invokevirtual 206, 3) := by decide +kernel
theorem d_Ve_packHighs_10 : decode (a_cc M_Ve_packHighs) 10 = .ok (.iconst 0, 1) := by decide +kernel
theorem d_Ve_packHighs_11 : decode (a_cc M_Ve_packHighs) 11 = .ok (.istore_n 3, 1) := by decide +kernel
theorem d_Ve_packHighs_12 : decode (a_cc M_Ve_packHighs) 12 = .ok (.iload_n 3, 1) := by decide +kernel
theorem d_Ve_packHighs_13 : decode (a_cc M_Ve_packHighs) 13 = .ok (.aload_n 2, 1) := by decide +kernel
theorem d_Ve_packHighs_14 : decode (a_cc M_Ve_packHighs) 14 = .ok (.getfield 81, 3) := by decide +kernel
theorem d_Ve_packHighs_17 : decode (a_cc M_Ve_packHighs) 17 = .ok (.if_icmp .ge 154, 3) := by decide +kernel
theorem d_Ve_packHighs_20 : decode (a_cc M_Ve_packHighs) 20 = .ok (.aload_n 1, 1) := by decide +kernel
theorem d_Ve_packHighs_21 : decode (a_cc M_Ve_packHighs) 21 = .ok (.aload_n 2, 1) := by decide +kernel
theorem d_Ve_packHighs_22 : decode (a_cc M_Ve_packHighs) 22 = .ok (.iload_n 3, 1) := by decide +kernel
theorem d_Ve_packHighs_23 : decode (a_cc M_Ve_packHighs) 23 = .ok (.iconst 1, 1) := by decide +kernel
theorem d_Ve_packHighs_24 : decode (a_cc M_Ve_packHighs) 24 = .ok (.isub, 1) := by decide +kernel
theorem d_Ve_packHighs_25 : decode (a_cc M_Ve_packHighs) 25 = .ok (.invokestatic 92, 3) := by decide +kernel
theorem d_Ve_packHighs_28 : decode (a_cc M_Ve_packHighs) 28 = .ok (.istore 4, 2) := by decide +kernel
theorem d_Ve_packHighs_30 : decode (a_cc M_Ve_packHighs) 30 = .ok (.aload_n 1, 1) := by decide +kernel
theorem d_Ve_packHighs_31 : decode (a_cc M_Ve_packHighs) 31 = .ok (.aload_n 2, 1) := by decide +kernel
theorem d_Ve_packHighs_32 : decode (a_cc M_Ve_packHighs) 32 = .ok (.iload_n 3, 1) := by decide +kernel
theorem d_Ve_packHighs_33 : decode (a_cc M_Ve_packHighs) 33 = .ok (.invokestatic 92, 3) := by decide +kernel
theorem d_Ve_packHighs_36 : decode (a_cc M_Ve_packHighs) 36 = .ok (.istore 5, 2) := by decide +kernel
theorem d_Ve_packHighs_38 : decode (a_cc M_Ve_packHighs) 38 = .ok (.iconst 0, 1) := by decide +kernel
theorem d_Ve_packHighs_39 : decode (a_cc M_Ve_packHighs) 39 = .ok (.istore 6, 2) := by decide +kernel
theorem d_Ve_packHighs_41 : decode (a_cc M_Ve_packHighs) 41 = .ok (.iload 6, 2) := by decide +kernel
theorem d_Ve_packHighs_43 : decode (a_cc M_Ve_packHighs) 43 = .ok (.sipush 256, 3) := by decide +kernel
theorem d_Ve_packHighs_46 : decode (a_cc M_Ve_packHighs) 46 = .ok (.if_icmp .ge 98, 3) := by decide +kernel
theorem d_Ve_packHighs_49 : decode (a_cc M_Ve_packHighs) 49 = .ok (.aload_n 0, 1) := by decide +kernel
theorem d_Ve_packHighs_50 : decode (a_cc M_Ve_packHighs) 50 = .ok (.getfield 23, 3) := by decide +kernel
theorem d_Ve_packHighs_53 : decode (a_cc M_Ve_packHighs) 53 = .ok (.getfield 193, 3) := by decide +kernel
theorem d_Ve_packHighs_56 : decode (a_cc M_Ve_packHighs) 56 = .ok (.iload_n 3, 1) := by decide +kernel
theorem d_Ve_packHighs_57 : decode (a_cc M_Ve_packHighs) 57 = .ok (.aaload, 1) := by decide +kernel
theorem d_Ve_packHighs_58 : decode (a_cc M_Ve_packHighs) 58 = .ok (.iload 6, 2) := by decide +kernel
theorem d_Ve_packHighs_60 : decode (a_cc M_Ve_packHighs) 60 = .ok (.iaload, 1) := by decide +kernel
theorem d_Ve_packHighs_61 : decode (a_cc M_Ve_packHighs) 61 = .ok (.istore 7, 2) := by decide +kernel
theorem d_Ve_packHighs_63 : decode (a_cc M_Ve_packHighs) 63 = .ok (.iload 4, 2) := by decide +kernel
theorem d_Ve_packHighs_65 : decode (a_cc M_Ve_packHighs) 65 = .ok (.iload 5, 2) := by decide +kernel
theorem d_Ve_packHighs_67 : decode (a_cc M_Ve_packHighs) 67 = .ok (.if_icmp .ge 23, 3) := by decide +kernel
theorem d_Ve_packHighs_70 : decode (a_cc M_Ve_packHighs) 70 = .ok (.aload_n 1, 1) := by decide +kernel
theorem d_Ve_packHighs_71 : decode (a_cc M_Ve_packHighs) 71 = .ok (.aload_n 2, 1) := by decide +kernel
theorem d_Ve_packHighs_72 : decode (a_cc M_Ve_packHighs) 72 = .ok (.invokestatic 84, 3) := by decide +kernel
theorem d_Ve_packHighs_75 : decode (a_cc M_Ve_packHighs) 75 = .ok (.iload 4, 2) := by decide +kernel
theorem d_Ve_packHighs_77 : decode (a_cc M_Ve_packHighs) 77 = .ok (.iadd, 1) := by decide +kernel
theorem d_Ve_packHighs_78 : decode (a_cc M_Ve_packHighs) 78 = .ok (.invokevirtual 88, 3) := by decide +kernel
theorem d_Ve_packHighs_81 : decode (a_cc M_Ve_packHighs) 81 = .ok (.iload 6, 2) := by decide +kernel
theorem d_Ve_packHighs_83 : decode (a_cc M_Ve_packHighs) 83 = .ok (.if_icmp .ne 7, 3) := by decide +kernel
theorem d_Ve_packHighs_86 : decode (a_cc M_Ve_packHighs) 86 = .ok (.iconst 1, 1) := by decide +kernel
theorem d_Ve_packHighs_87 : decode (a_cc M_Ve_packHighs) 87 = .ok (.goto 4, 3) := by decide +kernel
theorem d_Ve_packHighs_90 : decode (a_cc M_Ve_packHighs) 90 = .ok (.iconst 0, 1) := by decide +kernel
theorem d_Ve_packHighs_91 : decode (a_cc M_Ve_packHighs) 91 = .ok (.istore 8, 2) := by decide +kernel
theorem d_Ve_packHighs_93 : decode (a_cc M_Ve_packHighs) 93 = .ok (.aload_n 0, 1) := by decide +kernel
theorem d_Ve_packHighs_94 : decode (a_cc M_Ve_packHighs) 94 = .ok (.getfield 23, 3) := by decide +kernel
theorem d_Ve_packHighs_97 : decode (a_cc M_Ve_packHighs) 97 = .ok (.getfield 186, 3) := by decide +kernel
theorem d_Ve_packHighs_100 : decode (a_cc M_Ve_packHighs) 100 = .ok (.iload 6, 2) := by decide +kernel
theorem d_Ve_packHighs_102 : decode (a_cc M_Ve_packHighs) 102 = .ok (.iload 8, 2) := by decide +kernel
theorem d_Ve_packHighs_104 : decode (a_cc M_Ve_packHighs) 104 = .ok (.ifCond .eq 12, 3) := by decide +kernel
theorem d_Ve_packHighs_107 : decode (a_cc M_Ve_packHighs) 107 = .ok (.aload_n 2, 1) := by decide +kernel
theorem d_Ve_packHighs_108 : decode (a_cc M_Ve_packHighs) 108 = .ok (.iload 7, 2) := by decide +kernel
theorem d_Ve_packHighs_110 : decode (a_cc M_Ve_packHighs) 110 = .ok (.invokevirtual 209, 3) := by decide +kernel
theorem d_Ve_packHighs_113 : decode (a_cc M_Ve_packHighs) 113 = .ok (.goto 9, 3) := by decide +kernel
theorem d_Ve_packHighs_116 : decode (a_cc M_Ve_packHighs) 116 = .ok (.aload_n 2, 1) := by decide +kernel
theorem d_Ve_packHighs_117 : decode (a_cc M_Ve_packHighs) 117 = .ok (.iload 7, 2) := by decide +kernel
theorem d_Ve_packHighs_119 : decode (a_cc M_Ve_packHighs) 119 = .ok (.invokevirtual 212, 3) := by decide +kernel
theorem d_Ve_packHighs_122 : decode (a_cc M_Ve_packHighs) 122 = .ok (.iastore, 1) := by decide +kernel
theorem d_Ve_packHighs_123 : decode (a_cc M_Ve_packHighs) 123 = .ok (.iload 4, 2) := by decide +kernel
theorem d_Ve_packHighs_125 : decode (a_cc M_Ve_packHighs) 125 = .ok (.iload 8, 2) := by decide +kernel
theorem d_Ve_packHighs_127 : decode (a_cc M_Ve_packHighs) 127 = .ok (.ifCond .eq 7, 3) := by decide +kernel
theorem d_Ve_packHighs_130 : decode (a_cc M_Ve_packHighs) 130 = .ok (.iconst 1, 1) := by decide +kernel
theorem d_Ve_packHighs_131 : decode (a_cc M_Ve_packHighs) 131 = .ok (.goto 4, 3) := by decide +kernel
theorem d_Ve_packHighs_134 : decode (a_cc M_Ve_packHighs) 134 = .ok (.iconst 0, 1) := by decide +kernel
theorem d_Ve_packHighs_135 : decode (a_cc M_Ve_packHighs) 135 = .ok (.iadd, 1) := by decide +kernel
theorem d_Ve_packHighs_136 : decode (a_cc M_Ve_packHighs) 136 = .ok (.istore 4, 2) := by decide +kernel
theorem d_Ve_packHighs_138 : decode (a_cc M_Ve_packHighs) 138 = .ok (.iinc 6 1, 3) := by decide +kernel
theorem d_Ve_packHighs_141 : decode (a_cc M_Ve_packHighs) 141 = .ok (.goto (-100), 3) := by decide +kernel
theorem d_Ve_packHighs_144 : decode (a_cc M_Ve_packHighs) 144 = .ok (.aload_n 0, 1) := by decide +kernel
theorem d_Ve_packHighs_145 : decode (a_cc M_Ve_packHighs) 145 = .ok (.getfield 23, 3) := by decide +kernel
theorem d_Ve_packHighs_148 : decode (a_cc M_Ve_packHighs) 148 = .ok (.getfield 203, 3) := by decide +kernel
theorem d_Ve_packHighs_151 : decode (a_cc M_Ve_packHighs) 151 = .ok (.aload_n 0, 1) := by decide +kernel
theorem d_Ve_packHighs_152 : decode (a_cc M_Ve_packHighs) 152 = .ok (.getfield 23, 3) := by decide +kernel
theorem d_Ve_packHighs_155 : decode (a_cc M_Ve_packHighs) 155 = .ok (.getfield 186, 3) := by decide +kernel
theorem d_Ve_packHighs_158 : decode (a_cc M_Ve_packHighs) 158 = .ok (.aload_n 2, 1) := by decide +kernel
theorem d_Ve_packHighs_159 : decode (a_cc M_Ve_packHighs) 159 = .ok (.getfield 215, 3) := by decide +kernel
theorem d_Ve_packHighs_162 : decode (a_cc M_Ve_packHighs) 162 = .ok (.invokevirtual 218, 3) := by decide +kernel
theorem d_Ve_packHighs_165 : decode (a_cc M_Ve_packHighs) 165 = .ok (.iinc 3 1, 3) := by decide +kernel
theorem d_Ve_packHighs_168 : decode (a_cc M_Ve_packHighs) 168 = .ok (.goto (-156), 3) := by decide +kernel
theorem d_Ve_packHighs_171 : decode (a_cc M_Ve_packHighs) 171 = .ok (.return_, 1) := by decide +kernel
theorem fd_Ve_203 : a_Fd "ModuleSigner$Verifier" 203 3 12 2 := ⟨by decide, by decide, rfl, List.mem_append_right _ (List.mem_of_getElem? (i := 266) (by decide +kernel))⟩
theorem cs_Ve_packHighs_7 : a_CV M_Ve_packHighs M_By_clear 206 1 1 0 0 := ⟨⟨ok_By_clear, by decide, by decide, by decide⟩, by decide, rfl, List.mem_append_right _ (List.mem_of_getElem? (i := 1001) (by decide +kernel)), List.mem_append_right _ (List.mem_of_getElem? (i := 502) (by decide +kernel)), List.mem_append_right _ (List.mem_of_getElem? (i := 503) (by decide +kernel)), by decide +kernel⟩
theorem cs_Ve_packHighs_25 : a_CS M_Ve_packHighs M_Ve_hintsEnd 92 3 0 3 := ⟨⟨ok_Ve_hintsEnd, by decide, by decide, by decide⟩, List.mem_append_right _ (List.mem_of_getElem? (i := 954) (by decide +kernel)), List.mem_append_right _ (List.mem_of_getElem? (i := 955) (by decide +kernel)), by decide +kernel⟩
theorem cs_Ve_packHighs_33 : a_CS M_Ve_packHighs M_Ve_hintsEnd 92 3 0 3 := ⟨⟨ok_Ve_hintsEnd, by decide, by decide, by decide⟩, List.mem_append_right _ (List.mem_of_getElem? (i := 954) (by decide +kernel)), List.mem_append_right _ (List.mem_of_getElem? (i := 955) (by decide +kernel)), by decide +kernel⟩
theorem cs_Ve_packHighs_72 : a_CS M_Ve_packHighs M_Ve_hintsStart 84 1 1 1 := ⟨⟨ok_Ve_hintsStart, by decide, by decide, by decide⟩, List.mem_append_right _ (List.mem_of_getElem? (i := 957) (by decide +kernel)), List.mem_append_right _ (List.mem_of_getElem? (i := 958) (by decide +kernel)), by decide +kernel⟩
theorem cs_Ve_packHighs_78 : a_CV M_Ve_packHighs M_By_at 88 1 2 0 1 := ⟨⟨ok_By_at, by decide, by decide, by decide⟩, by decide, rfl, List.mem_append_right _ (List.mem_of_getElem? (i := 960) (by decide +kernel)), List.mem_append_right _ (List.mem_of_getElem? (i := 537) (by decide +kernel)), List.mem_append_right _ (List.mem_of_getElem? (i := 538) (by decide +kernel)), by decide +kernel⟩
theorem cs_Ve_packHighs_110 : a_CV M_Ve_packHighs M_Pa_hintedHigh 209 2 2 2 1 := ⟨⟨ok_Pa_hintedHigh, by decide, by decide, by decide⟩, by decide, rfl, List.mem_append_right _ (List.mem_of_getElem? (i := 1002) (by decide +kernel)), List.mem_append_right _ (List.mem_of_getElem? (i := 1003) (by decide +kernel)), List.mem_append_right _ (List.mem_of_getElem? (i := 1004) (by decide +kernel)), by decide +kernel⟩
theorem cs_Ve_packHighs_119 : a_CV M_Ve_packHighs M_Pa_high 212 2 2 2 1 := ⟨⟨ok_Pa_high, by decide, by decide, by decide⟩, by decide, rfl, List.mem_append_right _ (List.mem_of_getElem? (i := 1008) (by decide +kernel)), List.mem_append_right _ (List.mem_of_getElem? (i := 867) (by decide +kernel)), List.mem_append_right _ (List.mem_of_getElem? (i := 868) (by decide +kernel)), by decide +kernel⟩
theorem fd_Ve_215 : a_Fd "ModuleSigner$Verifier" 215 2 12 0 := ⟨by decide, by decide, rfl, List.mem_append_right _ (List.mem_of_getElem? (i := 122) (by decide +kernel))⟩
theorem cs_Ve_packHighs_162 : a_CV M_Ve_packHighs M_By_addBits 218 1 3 0 2 := ⟨⟨ok_By_addBits, by decide, by decide, by decide⟩, by decide, rfl, List.mem_append_right _ (List.mem_of_getElem? (i := 1009) (by decide +kernel)), List.mem_append_right _ (List.mem_of_getElem? (i := 757) (by decide +kernel)), List.mem_append_right _ (List.mem_of_getElem? (i := 758) (by decide +kernel)), by decide +kernel⟩
def M_Ve_verify : a_M := (⟨"ModuleSigner$Verifier", "verify", "([LModuleSigner$Bytes;LModuleSigner$Parameters;I)Z"⟩, prog_10_method_2_code, 5, some .boolean, "ModuleSigner$Verifier", 9, 130, [])
theorem ok_Ve_verify : a_Ok M_Ve_verify := ⟨rfl, by decide +kernel, ⟨by decide, by decide⟩, List.mem_append_right _ (List.mem_of_getElem? (i := 10) (by decide +kernel)), Or.inl ⟨rfl, List.mem_append_right _ (List.mem_of_getElem? (i := 950) (by decide +kernel))⟩⟩
theorem d_Ve_verify_0 : decode (a_cc M_Ve_verify) 0 = .ok (.aload_n 1, 1) := by decide +kernel
theorem d_Ve_verify_1 : decode (a_cc M_Ve_verify) 1 = .ok (.iconst 5, 1) := by decide +kernel
theorem d_Ve_verify_2 : decode (a_cc M_Ve_verify) 2 = .ok (.aaload, 1) := by decide +kernel
theorem d_Ve_verify_3 : decode (a_cc M_Ve_verify) 3 = .ok (.astore 4, 2) := by decide +kernel
theorem d_Ve_verify_5 : decode (a_cc M_Ve_verify) 5 = .ok (.aload 4, 2) := by decide +kernel
theorem d_Ve_verify_7 : decode (a_cc M_Ve_verify) 7 = .ok (.getfield 27, 3) := by decide +kernel
theorem d_Ve_verify_10 : decode (a_cc M_Ve_verify) 10 = .ok (.aload_n 2, 1) := by decide +kernel
theorem d_Ve_verify_11 : decode (a_cc M_Ve_verify) 11 = .ok (.getfield 31, 3) := by decide +kernel
theorem d_Ve_verify_14 : decode (a_cc M_Ve_verify) 14 = .ok (.if_icmp .ne 22, 3) := by decide +kernel
theorem d_Ve_verify_17 : decode (a_cc M_Ve_verify) 17 = .ok (.aload 4, 2) := by decide +kernel
theorem d_Ve_verify_19 : decode (a_cc M_Ve_verify) 19 = .ok (.aload_n 2, 1) := by decide +kernel
theorem d_Ve_verify_20 : decode (a_cc M_Ve_verify) 20 = .ok (.invokestatic 36, 3) := by decide +kernel
theorem d_Ve_verify_23 : decode (a_cc M_Ve_verify) 23 = .ok (.ifCond .eq 13, 3) := by decide +kernel
theorem d_Ve_verify_26 : decode (a_cc M_Ve_verify) 26 = .ok (.aload_n 0, 1) := by decide +kernel
theorem d_Ve_verify_27 : decode (a_cc M_Ve_verify) 27 = .ok (.aload 4, 2) := by decide +kernel
theorem d_Ve_verify_29 : decode (a_cc M_Ve_verify) 29 = .ok (.aload_n 2, 1) := by decide +kernel
theorem d_Ve_verify_30 : decode (a_cc M_Ve_verify) 30 = .ok (.invokevirtual 40, 3) := by decide +kernel
theorem d_Ve_verify_33 : decode (a_cc M_Ve_verify) 33 = .ok (.ifCond .ne 5, 3) := by decide +kernel
theorem d_Ve_verify_36 : decode (a_cc M_Ve_verify) 36 = .ok (.iconst 0, 1) := by decide +kernel
theorem d_Ve_verify_37 : decode (a_cc M_Ve_verify) 37 = .ok (.ireturn, 1) := by decide +kernel
theorem d_Ve_verify_38 : decode (a_cc M_Ve_verify) 38 = .ok (.aload_n 0, 1) := by decide +kernel
theorem d_Ve_verify_39 : decode (a_cc M_Ve_verify) 39 = .ok (.aload_n 1, 1) := by decide +kernel
theorem d_Ve_verify_40 : decode (a_cc M_Ve_verify) 40 = .ok (.iload_n 3, 1) := by decide +kernel
theorem d_Ve_verify_41 : decode (a_cc M_Ve_verify) 41 = .ok (.invokevirtual 43, 3) := by decide +kernel
theorem d_Ve_verify_44 : decode (a_cc M_Ve_verify) 44 = .ok (.aload_n 0, 1) := by decide +kernel
theorem d_Ve_verify_45 : decode (a_cc M_Ve_verify) 45 = .ok (.getfield 23, 3) := by decide +kernel
theorem d_Ve_verify_48 : decode (a_cc M_Ve_verify) 48 = .ok (.getfield 47, 3) := by decide +kernel
theorem d_Ve_verify_51 : decode (a_cc M_Ve_verify) 51 = .ok (.aload 4, 2) := by decide +kernel
theorem d_Ve_verify_53 : decode (a_cc M_Ve_verify) 53 = .ok (.aload_n 2, 1) := by decide +kernel
theorem d_Ve_verify_54 : decode (a_cc M_Ve_verify) 54 = .ok (.getfield 52, 3) := by decide +kernel
theorem d_Ve_verify_57 : decode (a_cc M_Ve_verify) 57 = .ok (.invokevirtual 55, 3) := by decide +kernel
theorem d_Ve_verify_60 : decode (a_cc M_Ve_verify) 60 = .ok (.aload_n 0, 1) := by decide +kernel
theorem d_Ve_verify_61 : decode (a_cc M_Ve_verify) 61 = .ok (.getfield 23, 3) := by decide +kernel
theorem d_Ve_verify_64 : decode (a_cc M_Ve_verify) 64 = .ok (.aload_n 2, 1) := by decide +kernel
theorem d_Ve_verify_65 : decode (a_cc M_Ve_verify) 65 = .ok (.invokevirtual 59, 3) := by decide +kernel
theorem d_Ve_verify_68 : decode (a_cc M_Ve_verify) 68 = .ok (.aload_n 0, 1) := by decide +kernel
theorem d_Ve_verify_69 : decode (a_cc M_Ve_verify) 69 = .ok (.aload_n 1, 1) := by decide +kernel
theorem d_Ve_verify_70 : decode (a_cc M_Ve_verify) 70 = .ok (.iconst 1, 1) := by decide +kernel
theorem d_Ve_verify_71 : decode (a_cc M_Ve_verify) 71 = .ok (.aaload, 1) := by decide +kernel
theorem d_Ve_verify_72 : decode (a_cc M_Ve_verify) 72 = .ok (.aload_n 2, 1) := by decide +kernel
theorem d_Ve_verify_73 : decode (a_cc M_Ve_verify) 73 = .ok (.invokevirtual 63, 3) := by decide +kernel
theorem d_Ve_verify_76 : decode (a_cc M_Ve_verify) 76 = .ok (.aload_n 0, 1) := by decide +kernel
theorem d_Ve_verify_77 : decode (a_cc M_Ve_verify) 77 = .ok (.aload 4, 2) := by decide +kernel
theorem d_Ve_verify_79 : decode (a_cc M_Ve_verify) 79 = .ok (.aload_n 2, 1) := by decide +kernel
theorem d_Ve_verify_80 : decode (a_cc M_Ve_verify) 80 = .ok (.invokevirtual 67, 3) := by decide +kernel
theorem d_Ve_verify_83 : decode (a_cc M_Ve_verify) 83 = .ok (.aload_n 0, 1) := by decide +kernel
theorem d_Ve_verify_84 : decode (a_cc M_Ve_verify) 84 = .ok (.getfield 23, 3) := by decide +kernel
theorem d_Ve_verify_87 : decode (a_cc M_Ve_verify) 87 = .ok (.aload_n 2, 1) := by decide +kernel
theorem d_Ve_verify_88 : decode (a_cc M_Ve_verify) 88 = .ok (.aload_n 0, 1) := by decide +kernel
theorem d_Ve_verify_89 : decode (a_cc M_Ve_verify) 89 = .ok (.getfield 20, 3) := by decide +kernel
theorem d_Ve_verify_92 : decode (a_cc M_Ve_verify) 92 = .ok (.invokevirtual 70, 3) := by decide +kernel
theorem d_Ve_verify_95 : decode (a_cc M_Ve_verify) 95 = .ok (.aload_n 1, 1) := by decide +kernel
theorem d_Ve_verify_96 : decode (a_cc M_Ve_verify) 96 = .ok (.bipush 6, 2) := by decide +kernel
theorem d_Ve_verify_98 : decode (a_cc M_Ve_verify) 98 = .ok (.aaload, 1) := by decide +kernel
theorem d_Ve_verify_99 : decode (a_cc M_Ve_verify) 99 = .ok (.aload_n 0, 1) := by decide +kernel
theorem d_Ve_verify_100 : decode (a_cc M_Ve_verify) 100 = .ok (.getfield 20, 3) := by decide +kernel
theorem d_Ve_verify_103 : decode (a_cc M_Ve_verify) 103 = .ok (.aload_n 2, 1) := by decide +kernel
theorem d_Ve_verify_104 : decode (a_cc M_Ve_verify) 104 = .ok (.getfield 52, 3) := by decide +kernel
theorem d_Ve_verify_107 : decode (a_cc M_Ve_verify) 107 = .ok (.invokevirtual 55, 3) := by decide +kernel
theorem d_Ve_verify_110 : decode (a_cc M_Ve_verify) 110 = .ok (.aload_n 0, 1) := by decide +kernel
theorem d_Ve_verify_111 : decode (a_cc M_Ve_verify) 111 = .ok (.getfield 20, 3) := by decide +kernel
theorem d_Ve_verify_114 : decode (a_cc M_Ve_verify) 114 = .ok (.aload 4, 2) := by decide +kernel
theorem d_Ve_verify_116 : decode (a_cc M_Ve_verify) 116 = .ok (.aload_n 2, 1) := by decide +kernel
theorem d_Ve_verify_117 : decode (a_cc M_Ve_verify) 117 = .ok (.getfield 52, 3) := by decide +kernel
theorem d_Ve_verify_120 : decode (a_cc M_Ve_verify) 120 = .ok (.invokevirtual 74, 3) := by decide +kernel
theorem d_Ve_verify_123 : decode (a_cc M_Ve_verify) 123 = .ok (.ireturn, 1) := by decide +kernel
theorem cs_Ve_verify_20 : a_CS M_Ve_verify M_Ve_hintsStand 36 2 0 2 := ⟨⟨ok_Ve_hintsStand, by decide, by decide, by decide⟩, List.mem_append_right _ (List.mem_of_getElem? (i := 951) (by decide +kernel)), List.mem_append_right _ (List.mem_of_getElem? (i := 952) (by decide +kernel)), by decide +kernel⟩
theorem cs_Ve_verify_30 : a_CV M_Ve_verify M_Ve_answersHide 40 6 3 0 2 := ⟨⟨ok_Ve_answersHide, by decide, by decide, by decide⟩, by decide, rfl, List.mem_append_right _ (List.mem_of_getElem? (i := 964) (by decide +kernel)), List.mem_append_right _ (List.mem_of_getElem? (i := 966) (by decide +kernel)), List.mem_append_left _ (List.mem_of_getElem? (i := 24) (by decide +kernel)), by decide +kernel⟩
theorem cs_Ve_verify_41 : a_CV M_Ve_verify M_Ve_digestMessage 43 6 3 0 2 := ⟨⟨ok_Ve_digestMessage, by decide, by decide, by decide⟩, by decide, rfl, List.mem_append_right _ (List.mem_of_getElem? (i := 972) (by decide +kernel)), List.mem_append_right _ (List.mem_of_getElem? (i := 974) (by decide +kernel)), List.mem_append_left _ (List.mem_of_getElem? (i := 25) (by decide +kernel)), by decide +kernel⟩
theorem fd_Ve_47 : a_Fd "ModuleSigner$Verifier" 47 3 11 2 := ⟨by decide, by decide, rfl, List.mem_append_right _ (List.mem_of_getElem? (i := 262) (by decide +kernel))⟩
theorem cs_Ve_verify_57 : a_CV M_Ve_verify M_By_become 55 1 3 0 2 := ⟨⟨ok_By_become, by decide, by decide, by decide⟩, by decide, rfl, List.mem_append_right _ (List.mem_of_getElem? (i := 981) (by decide +kernel)), List.mem_append_right _ (List.mem_of_getElem? (i := 492) (by decide +kernel)), List.mem_append_right _ (List.mem_of_getElem? (i := 493) (by decide +kernel)), by decide +kernel⟩
theorem cs_Ve_verify_65 : a_CV M_Ve_verify M_Be_castBall 59 3 2 0 1 := ⟨⟨ok_Be_castBall, by decide, by decide, by decide⟩, by decide, rfl, List.mem_append_right _ (List.mem_of_getElem? (i := 982) (by decide +kernel)), List.mem_append_right _ (List.mem_of_getElem? (i := 880) (by decide +kernel)), List.mem_append_right _ (List.mem_of_getElem? (i := 881) (by decide +kernel)), by decide +kernel⟩
theorem cs_Ve_verify_73 : a_CV M_Ve_verify M_Ve_computeImages 63 6 3 0 2 := ⟨⟨ok_Ve_computeImages, by decide, by decide, by decide⟩, by decide, rfl, List.mem_append_right _ (List.mem_of_getElem? (i := 983) (by decide +kernel)), List.mem_append_right _ (List.mem_of_getElem? (i := 985) (by decide +kernel)), List.mem_append_left _ (List.mem_of_getElem? (i := 26) (by decide +kernel)), by decide +kernel⟩
theorem cs_Ve_verify_80 : a_CV M_Ve_verify M_Ve_packHighs 67 6 3 0 2 := ⟨⟨ok_Ve_packHighs, by decide, by decide, by decide⟩, by decide, rfl, List.mem_append_right _ (List.mem_of_getElem? (i := 997) (by decide +kernel)), List.mem_append_right _ (List.mem_of_getElem? (i := 999) (by decide +kernel)), List.mem_append_left _ (List.mem_of_getElem? (i := 28) (by decide +kernel)), by decide +kernel⟩
theorem cs_Ve_verify_92 : a_CV M_Ve_verify M_Be_hashHighs 70 3 3 0 2 := ⟨⟨ok_Be_hashHighs, by decide, by decide, by decide⟩, by decide, rfl, List.mem_append_right _ (List.mem_of_getElem? (i := 1010) (by decide +kernel)), List.mem_append_right _ (List.mem_of_getElem? (i := 876) (by decide +kernel)), List.mem_append_right _ (List.mem_of_getElem? (i := 877) (by decide +kernel)), by decide +kernel⟩
theorem cs_Ve_verify_107 : a_CV M_Ve_verify M_By_become 55 1 3 0 2 := ⟨⟨ok_By_become, by decide, by decide, by decide⟩, by decide, rfl, List.mem_append_right _ (List.mem_of_getElem? (i := 981) (by decide +kernel)), List.mem_append_right _ (List.mem_of_getElem? (i := 492) (by decide +kernel)), List.mem_append_right _ (List.mem_of_getElem? (i := 493) (by decide +kernel)), by decide +kernel⟩
theorem cs_Ve_verify_120 : a_CV M_Ve_verify M_By_matches 74 1 3 0 2 := ⟨⟨ok_By_matches, by decide, by decide, by decide⟩, by decide, rfl, List.mem_append_right _ (List.mem_of_getElem? (i := 1011) (by decide +kernel)), List.mem_append_right _ (List.mem_of_getElem? (i := 562) (by decide +kernel)), List.mem_append_right _ (List.mem_of_getElem? (i := 563) (by decide +kernel)), by decide +kernel⟩
