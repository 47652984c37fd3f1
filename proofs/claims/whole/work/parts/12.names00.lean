/-! names, printed by program: methods, their instructions, what they link -/
def M_By_init : a_M := (⟨"ModuleSigner$Bytes", "<init>", "(I)V"⟩, prog_3_method_1_code, 2, none, "ModuleSigner$Bytes", 1, 12, [])
theorem ok_By_init : a_Ok M_By_init := ⟨rfl, by decide +kernel, ⟨by decide, by decide⟩, List.mem_append_right _ (List.mem_of_getElem? (i := 2) (by decide +kernel)), Or.inl ⟨rfl, List.mem_append_right _ (List.mem_of_getElem? (i := 35) (by decide +kernel))⟩⟩
theorem d_By_init_0 : decode (a_cc M_By_init) 0 = .ok (.aload_n 0, 1) := by decide +kernel
theorem d_By_init_1 : decode (a_cc M_By_init) 1 = .ok (.invokespecial 1, 3) := by decide +kernel
theorem d_By_init_4 : decode (a_cc M_By_init) 4 = .ok (.aload_n 0, 1) := by decide +kernel
theorem d_By_init_5 : decode (a_cc M_By_init) 5 = .ok (.iload_n 1, 1) := by decide +kernel
theorem d_By_init_6 : decode (a_cc M_By_init) 6 = .ok (.newarray .byte, 2) := by decide +kernel
theorem d_By_init_8 : decode (a_cc M_By_init) 8 = .ok (.putfield 7, 3) := by decide +kernel
theorem d_By_init_11 : decode (a_cc M_By_init) 11 = .ok (.aload_n 0, 1) := by decide +kernel
theorem d_By_init_12 : decode (a_cc M_By_init) 12 = .ok (.iconst 0, 1) := by decide +kernel
theorem d_By_init_13 : decode (a_cc M_By_init) 13 = .ok (.putfield 13, 3) := by decide +kernel
theorem d_By_init_16 : decode (a_cc M_By_init) 16 = .ok (.return_, 1) := by decide +kernel
theorem ml_By_1 : Cond.methodLink "ModuleSigner$Bytes" 1 Lib.objectInit ∈ lw_tbl := List.mem_append_right _ (List.mem_of_getElem? (i := 36) (by decide +kernel))
theorem fd_By_7 : a_Fd "ModuleSigner$Bytes" 7 1 0 2 := ⟨by decide, by decide, rfl, List.mem_append_right _ (List.mem_of_getElem? (i := 37) (by decide +kernel))⟩
theorem fd_By_13 : a_Fd "ModuleSigner$Bytes" 13 1 1 0 := ⟨by decide, by decide, rfl, List.mem_append_right _ (List.mem_of_getElem? (i := 39) (by decide +kernel))⟩
def M_Ri_packedSize : a_M := (⟨"ModuleSigner$Ring", "packedSize", "(I)I"⟩, prog_6_method_3_code, 1, some .int, "ModuleSigner$Ring", 0, 0, [])
theorem ok_Ri_packedSize : a_Ok M_Ri_packedSize := ⟨rfl, by decide +kernel, ⟨by decide, by decide⟩, List.mem_append_right _ (List.mem_of_getElem? (i := 4) (by decide +kernel)), Or.inl ⟨rfl, List.mem_append_right _ (List.mem_of_getElem? (i := 79) (by decide +kernel))⟩⟩
theorem d_Ri_packedSize_0 : decode (a_cc M_Ri_packedSize) 0 = .ok (.bipush 32, 2) := by decide +kernel
theorem d_Ri_packedSize_2 : decode (a_cc M_Ri_packedSize) 2 = .ok (.iload_n 0, 1) := by decide +kernel
theorem d_Ri_packedSize_3 : decode (a_cc M_Ri_packedSize) 3 = .ok (.imul, 1) := by decide +kernel
theorem d_Ri_packedSize_4 : decode (a_cc M_Ri_packedSize) 4 = .ok (.ireturn, 1) := by decide +kernel
def M_Pa_init : a_M := (⟨"ModuleSigner$Parameters", "<init>", "(I)V"⟩, prog_5_method_1_code, 2, none, "ModuleSigner$Parameters", 1, 15, [])
theorem ok_Pa_init : a_Ok M_Pa_init := ⟨rfl, by decide +kernel, ⟨by decide, by decide⟩, List.mem_append_right _ (List.mem_of_getElem? (i := 3) (by decide +kernel)), Or.inl ⟨rfl, List.mem_append_right _ (List.mem_of_getElem? (i := 57) (by decide +kernel))⟩⟩
theorem d_Pa_init_0 : decode (a_cc M_Pa_init) 0 = .ok (.aload_n 0, 1) := by decide +kernel
theorem d_Pa_init_1 : decode (a_cc M_Pa_init) 1 = .ok (.invokespecial 5, 3) := by decide +kernel
theorem d_Pa_init_4 : decode (a_cc M_Pa_init) 4 = .ok (.aload_n 0, 1) := by decide +kernel
theorem d_Pa_init_5 : decode (a_cc M_Pa_init) 5 = .ok (.getstatic 11, 3) := by decide +kernel
theorem d_Pa_init_8 : decode (a_cc M_Pa_init) 8 = .ok (.iload_n 1, 1) := by decide +kernel
theorem d_Pa_init_9 : decode (a_cc M_Pa_init) 9 = .ok (.iaload, 1) := by decide +kernel
theorem d_Pa_init_10 : decode (a_cc M_Pa_init) 10 = .ok (.putfield 15, 3) := by decide +kernel
theorem d_Pa_init_13 : decode (a_cc M_Pa_init) 13 = .ok (.aload_n 0, 1) := by decide +kernel
theorem d_Pa_init_14 : decode (a_cc M_Pa_init) 14 = .ok (.getstatic 19, 3) := by decide +kernel
theorem d_Pa_init_17 : decode (a_cc M_Pa_init) 17 = .ok (.iload_n 1, 1) := by decide +kernel
theorem d_Pa_init_18 : decode (a_cc M_Pa_init) 18 = .ok (.iaload, 1) := by decide +kernel
theorem d_Pa_init_19 : decode (a_cc M_Pa_init) 19 = .ok (.putfield 22, 3) := by decide +kernel
theorem d_Pa_init_22 : decode (a_cc M_Pa_init) 22 = .ok (.aload_n 0, 1) := by decide +kernel
theorem d_Pa_init_23 : decode (a_cc M_Pa_init) 23 = .ok (.getstatic 25, 3) := by decide +kernel
theorem d_Pa_init_26 : decode (a_cc M_Pa_init) 26 = .ok (.iload_n 1, 1) := by decide +kernel
theorem d_Pa_init_27 : decode (a_cc M_Pa_init) 27 = .ok (.iaload, 1) := by decide +kernel
theorem d_Pa_init_28 : decode (a_cc M_Pa_init) 28 = .ok (.putfield 28, 3) := by decide +kernel
theorem d_Pa_init_31 : decode (a_cc M_Pa_init) 31 = .ok (.aload_n 0, 1) := by decide +kernel
theorem d_Pa_init_32 : decode (a_cc M_Pa_init) 32 = .ok (.getstatic 31, 3) := by decide +kernel
theorem d_Pa_init_35 : decode (a_cc M_Pa_init) 35 = .ok (.iload_n 1, 1) := by decide +kernel
theorem d_Pa_init_36 : decode (a_cc M_Pa_init) 36 = .ok (.iaload, 1) := by decide +kernel
theorem d_Pa_init_37 : decode (a_cc M_Pa_init) 37 = .ok (.putfield 34, 3) := by decide +kernel
theorem d_Pa_init_40 : decode (a_cc M_Pa_init) 40 = .ok (.aload_n 0, 1) := by decide +kernel
theorem d_Pa_init_41 : decode (a_cc M_Pa_init) 41 = .ok (.getstatic 37, 3) := by decide +kernel
theorem d_Pa_init_44 : decode (a_cc M_Pa_init) 44 = .ok (.iload_n 1, 1) := by decide +kernel
theorem d_Pa_init_45 : decode (a_cc M_Pa_init) 45 = .ok (.iaload, 1) := by decide +kernel
theorem d_Pa_init_46 : decode (a_cc M_Pa_init) 46 = .ok (.putfield 40, 3) := by decide +kernel
theorem d_Pa_init_49 : decode (a_cc M_Pa_init) 49 = .ok (.aload_n 0, 1) := by decide +kernel
theorem d_Pa_init_50 : decode (a_cc M_Pa_init) 50 = .ok (.getstatic 43, 3) := by decide +kernel
theorem d_Pa_init_53 : decode (a_cc M_Pa_init) 53 = .ok (.iload_n 1, 1) := by decide +kernel
theorem d_Pa_init_54 : decode (a_cc M_Pa_init) 54 = .ok (.iaload, 1) := by decide +kernel
theorem d_Pa_init_55 : decode (a_cc M_Pa_init) 55 = .ok (.putfield 46, 3) := by decide +kernel
theorem d_Pa_init_58 : decode (a_cc M_Pa_init) 58 = .ok (.aload_n 0, 1) := by decide +kernel
theorem d_Pa_init_59 : decode (a_cc M_Pa_init) 59 = .ok (.ldc 51, 2) := by decide +kernel
theorem d_Pa_init_61 : decode (a_cc M_Pa_init) 61 = .ok (.iconst 2, 1) := by decide +kernel
theorem d_Pa_init_62 : decode (a_cc M_Pa_init) 62 = .ok (.getstatic 43, 3) := by decide +kernel
theorem d_Pa_init_65 : decode (a_cc M_Pa_init) 65 = .ok (.iload_n 1, 1) := by decide +kernel
theorem d_Pa_init_66 : decode (a_cc M_Pa_init) 66 = .ok (.iaload, 1) := by decide +kernel
theorem d_Pa_init_67 : decode (a_cc M_Pa_init) 67 = .ok (.imul, 1) := by decide +kernel
theorem d_Pa_init_68 : decode (a_cc M_Pa_init) 68 = .ok (.idiv, 1) := by decide +kernel
theorem d_Pa_init_69 : decode (a_cc M_Pa_init) 69 = .ok (.putfield 52, 3) := by decide +kernel
theorem d_Pa_init_72 : decode (a_cc M_Pa_init) 72 = .ok (.aload_n 0, 1) := by decide +kernel
theorem d_Pa_init_73 : decode (a_cc M_Pa_init) 73 = .ok (.getstatic 55, 3) := by decide +kernel
theorem d_Pa_init_76 : decode (a_cc M_Pa_init) 76 = .ok (.iload_n 1, 1) := by decide +kernel
theorem d_Pa_init_77 : decode (a_cc M_Pa_init) 77 = .ok (.iaload, 1) := by decide +kernel
theorem d_Pa_init_78 : decode (a_cc M_Pa_init) 78 = .ok (.putfield 58, 3) := by decide +kernel
theorem d_Pa_init_81 : decode (a_cc M_Pa_init) 81 = .ok (.aload_n 0, 1) := by decide +kernel
theorem d_Pa_init_82 : decode (a_cc M_Pa_init) 82 = .ok (.getstatic 61, 3) := by decide +kernel
theorem d_Pa_init_85 : decode (a_cc M_Pa_init) 85 = .ok (.iload_n 1, 1) := by decide +kernel
theorem d_Pa_init_86 : decode (a_cc M_Pa_init) 86 = .ok (.iaload, 1) := by decide +kernel
theorem d_Pa_init_87 : decode (a_cc M_Pa_init) 87 = .ok (.putfield 64, 3) := by decide +kernel
theorem d_Pa_init_90 : decode (a_cc M_Pa_init) 90 = .ok (.aload_n 0, 1) := by decide +kernel
theorem d_Pa_init_91 : decode (a_cc M_Pa_init) 91 = .ok (.getstatic 31, 3) := by decide +kernel
theorem d_Pa_init_94 : decode (a_cc M_Pa_init) 94 = .ok (.iload_n 1, 1) := by decide +kernel
theorem d_Pa_init_95 : decode (a_cc M_Pa_init) 95 = .ok (.iaload, 1) := by decide +kernel
theorem d_Pa_init_96 : decode (a_cc M_Pa_init) 96 = .ok (.getstatic 25, 3) := by decide +kernel
theorem d_Pa_init_99 : decode (a_cc M_Pa_init) 99 = .ok (.iload_n 1, 1) := by decide +kernel
theorem d_Pa_init_100 : decode (a_cc M_Pa_init) 100 = .ok (.iaload, 1) := by decide +kernel
theorem d_Pa_init_101 : decode (a_cc M_Pa_init) 101 = .ok (.imul, 1) := by decide +kernel
theorem d_Pa_init_102 : decode (a_cc M_Pa_init) 102 = .ok (.putfield 67, 3) := by decide +kernel
theorem d_Pa_init_105 : decode (a_cc M_Pa_init) 105 = .ok (.aload_n 0, 1) := by decide +kernel
theorem d_Pa_init_106 : decode (a_cc M_Pa_init) 106 = .ok (.getstatic 25, 3) := by decide +kernel
theorem d_Pa_init_109 : decode (a_cc M_Pa_init) 109 = .ok (.iload_n 1, 1) := by decide +kernel
theorem d_Pa_init_110 : decode (a_cc M_Pa_init) 110 = .ok (.iaload, 1) := by decide +kernel
theorem d_Pa_init_111 : decode (a_cc M_Pa_init) 111 = .ok (.iconst 4, 1) := by decide +kernel
theorem d_Pa_init_112 : decode (a_cc M_Pa_init) 112 = .ok (.if_icmp .ne 7, 3) := by decide +kernel
theorem d_Pa_init_115 : decode (a_cc M_Pa_init) 115 = .ok (.iconst 4, 1) := by decide +kernel
theorem d_Pa_init_116 : decode (a_cc M_Pa_init) 116 = .ok (.goto 4, 3) := by decide +kernel
theorem d_Pa_init_119 : decode (a_cc M_Pa_init) 119 = .ok (.iconst 3, 1) := by decide +kernel
theorem d_Pa_init_120 : decode (a_cc M_Pa_init) 120 = .ok (.putfield 70, 3) := by decide +kernel
theorem d_Pa_init_123 : decode (a_cc M_Pa_init) 123 = .ok (.aload_n 0, 1) := by decide +kernel
theorem d_Pa_init_124 : decode (a_cc M_Pa_init) 124 = .ok (.getstatic 37, 3) := by decide +kernel
theorem d_Pa_init_127 : decode (a_cc M_Pa_init) 127 = .ok (.iload_n 1, 1) := by decide +kernel
theorem d_Pa_init_128 : decode (a_cc M_Pa_init) 128 = .ok (.iaload, 1) := by decide +kernel
theorem d_Pa_init_129 : decode (a_cc M_Pa_init) 129 = .ok (.ldc 73, 2) := by decide +kernel
theorem d_Pa_init_131 : decode (a_cc M_Pa_init) 131 = .ok (.if_icmp .ne 8, 3) := by decide +kernel
theorem d_Pa_init_134 : decode (a_cc M_Pa_init) 134 = .ok (.bipush 20, 2) := by decide +kernel
theorem d_Pa_init_136 : decode (a_cc M_Pa_init) 136 = .ok (.goto 5, 3) := by decide +kernel
theorem d_Pa_init_139 : decode (a_cc M_Pa_init) 139 = .ok (.bipush 18, 2) := by decide +kernel
theorem d_Pa_init_141 : decode (a_cc M_Pa_init) 141 = .ok (.putfield 74, 3) := by decide +kernel
theorem d_Pa_init_144 : decode (a_cc M_Pa_init) 144 = .ok (.aload_n 0, 1) := by decide +kernel
theorem d_Pa_init_145 : decode (a_cc M_Pa_init) 145 = .ok (.getstatic 43, 3) := by decide +kernel
theorem d_Pa_init_148 : decode (a_cc M_Pa_init) 148 = .ok (.iload_n 1, 1) := by decide +kernel
theorem d_Pa_init_149 : decode (a_cc M_Pa_init) 149 = .ok (.iaload, 1) := by decide +kernel
theorem d_Pa_init_150 : decode (a_cc M_Pa_init) 150 = .ok (.bipush 16, 2) := by decide +kernel
theorem d_Pa_init_152 : decode (a_cc M_Pa_init) 152 = .ok (.if_icmp .ne 7, 3) := by decide +kernel
theorem d_Pa_init_155 : decode (a_cc M_Pa_init) 155 = .ok (.iconst 4, 1) := by decide +kernel
theorem d_Pa_init_156 : decode (a_cc M_Pa_init) 156 = .ok (.goto 5, 3) := by decide +kernel
theorem d_Pa_init_159 : decode (a_cc M_Pa_init) 159 = .ok (.bipush 6, 2) := by decide +kernel
theorem d_Pa_init_161 : decode (a_cc M_Pa_init) 161 = .ok (.putfield 77, 3) := by decide +kernel
theorem d_Pa_init_164 : decode (a_cc M_Pa_init) 164 = .ok (.aload_n 0, 1) := by decide +kernel
theorem d_Pa_init_165 : decode (a_cc M_Pa_init) 165 = .ok (.bipush 32, 2) := by decide +kernel
theorem d_Pa_init_167 : decode (a_cc M_Pa_init) 167 = .ok (.aload_n 0, 1) := by decide +kernel
theorem d_Pa_init_168 : decode (a_cc M_Pa_init) 168 = .ok (.getfield 15, 3) := by decide +kernel
theorem d_Pa_init_171 : decode (a_cc M_Pa_init) 171 = .ok (.bipush 10, 2) := by decide +kernel
theorem d_Pa_init_173 : decode (a_cc M_Pa_init) 173 = .ok (.invokestatic 80, 3) := by decide +kernel
theorem d_Pa_init_176 : decode (a_cc M_Pa_init) 176 = .ok (.imul, 1) := by decide +kernel
theorem d_Pa_init_177 : decode (a_cc M_Pa_init) 177 = .ok (.iadd, 1) := by decide +kernel
theorem d_Pa_init_178 : decode (a_cc M_Pa_init) 178 = .ok (.putfield 84, 3) := by decide +kernel
theorem d_Pa_init_181 : decode (a_cc M_Pa_init) 181 = .ok (.aload_n 0, 1) := by decide +kernel
theorem d_Pa_init_182 : decode (a_cc M_Pa_init) 182 = .ok (.sipush 128, 3) := by decide +kernel
theorem d_Pa_init_185 : decode (a_cc M_Pa_init) 185 = .ok (.aload_n 0, 1) := by decide +kernel
theorem d_Pa_init_186 : decode (a_cc M_Pa_init) 186 = .ok (.getfield 15, 3) := by decide +kernel
theorem d_Pa_init_189 : decode (a_cc M_Pa_init) 189 = .ok (.aload_n 0, 1) := by decide +kernel
theorem d_Pa_init_190 : decode (a_cc M_Pa_init) 190 = .ok (.getfield 22, 3) := by decide +kernel
theorem d_Pa_init_193 : decode (a_cc M_Pa_init) 193 = .ok (.iadd, 1) := by decide +kernel
theorem d_Pa_init_194 : decode (a_cc M_Pa_init) 194 = .ok (.aload_n 0, 1) := by decide +kernel
theorem d_Pa_init_195 : decode (a_cc M_Pa_init) 195 = .ok (.getfield 70, 3) := by decide +kernel
theorem d_Pa_init_198 : decode (a_cc M_Pa_init) 198 = .ok (.invokestatic 80, 3) := by decide +kernel
theorem d_Pa_init_201 : decode (a_cc M_Pa_init) 201 = .ok (.imul, 1) := by decide +kernel
theorem d_Pa_init_202 : decode (a_cc M_Pa_init) 202 = .ok (.iadd, 1) := by decide +kernel
theorem d_Pa_init_203 : decode (a_cc M_Pa_init) 203 = .ok (.aload_n 0, 1) := by decide +kernel
theorem d_Pa_init_204 : decode (a_cc M_Pa_init) 204 = .ok (.getfield 15, 3) := by decide +kernel
theorem d_Pa_init_207 : decode (a_cc M_Pa_init) 207 = .ok (.bipush 13, 2) := by decide +kernel
theorem d_Pa_init_209 : decode (a_cc M_Pa_init) 209 = .ok (.invokestatic 80, 3) := by decide +kernel
theorem d_Pa_init_212 : decode (a_cc M_Pa_init) 212 = .ok (.imul, 1) := by decide +kernel
theorem d_Pa_init_213 : decode (a_cc M_Pa_init) 213 = .ok (.iadd, 1) := by decide +kernel
theorem d_Pa_init_214 : decode (a_cc M_Pa_init) 214 = .ok (.putfield 87, 3) := by decide +kernel
theorem d_Pa_init_217 : decode (a_cc M_Pa_init) 217 = .ok (.aload_n 0, 1) := by decide +kernel
theorem d_Pa_init_218 : decode (a_cc M_Pa_init) 218 = .ok (.aload_n 0, 1) := by decide +kernel
theorem d_Pa_init_219 : decode (a_cc M_Pa_init) 219 = .ok (.getfield 64, 3) := by decide +kernel
theorem d_Pa_init_222 : decode (a_cc M_Pa_init) 222 = .ok (.aload_n 0, 1) := by decide +kernel
theorem d_Pa_init_223 : decode (a_cc M_Pa_init) 223 = .ok (.getfield 22, 3) := by decide +kernel
theorem d_Pa_init_226 : decode (a_cc M_Pa_init) 226 = .ok (.aload_n 0, 1) := by decide +kernel
theorem d_Pa_init_227 : decode (a_cc M_Pa_init) 227 = .ok (.getfield 74, 3) := by decide +kernel
theorem d_Pa_init_230 : decode (a_cc M_Pa_init) 230 = .ok (.invokestatic 80, 3) := by decide +kernel
theorem d_Pa_init_233 : decode (a_cc M_Pa_init) 233 = .ok (.imul, 1) := by decide +kernel
theorem d_Pa_init_234 : decode (a_cc M_Pa_init) 234 = .ok (.iadd, 1) := by decide +kernel
theorem d_Pa_init_235 : decode (a_cc M_Pa_init) 235 = .ok (.aload_n 0, 1) := by decide +kernel
theorem d_Pa_init_236 : decode (a_cc M_Pa_init) 236 = .ok (.getfield 58, 3) := by decide +kernel
theorem d_Pa_init_239 : decode (a_cc M_Pa_init) 239 = .ok (.iadd, 1) := by decide +kernel
theorem d_Pa_init_240 : decode (a_cc M_Pa_init) 240 = .ok (.aload_n 0, 1) := by decide +kernel
theorem d_Pa_init_241 : decode (a_cc M_Pa_init) 241 = .ok (.getfield 15, 3) := by decide +kernel
theorem d_Pa_init_244 : decode (a_cc M_Pa_init) 244 = .ok (.iadd, 1) := by decide +kernel
theorem d_Pa_init_245 : decode (a_cc M_Pa_init) 245 = .ok (.putfield 90, 3) := by decide +kernel
theorem d_Pa_init_248 : decode (a_cc M_Pa_init) 248 = .ok (.return_, 1) := by decide +kernel
theorem ml_Pa_5 : Cond.methodLink "ModuleSigner$Parameters" 5 Lib.objectInit ∈ lw_tbl := List.mem_append_right _ (List.mem_of_getElem? (i := 58) (by decide +kernel))
theorem gs_Pa_11 : Cond.fieldLink "ModuleSigner$Parameters" 11 (a_sn 0).1 (a_sn 0).2.1 (a_sn 0).2.2 ∈ lw_tbl := List.mem_append_right _ (List.mem_of_getElem? (i := 59) (by decide +kernel))
theorem fd_Pa_15 : a_Fd "ModuleSigner$Parameters" 15 2 0 0 := ⟨by decide, by decide, rfl, List.mem_append_right _ (List.mem_of_getElem? (i := 80) (by decide +kernel))⟩
theorem gs_Pa_19 : Cond.fieldLink "ModuleSigner$Parameters" 19 (a_sn 1).1 (a_sn 1).2.1 (a_sn 1).2.2 ∈ lw_tbl := List.mem_append_right _ (List.mem_of_getElem? (i := 61) (by decide +kernel))
theorem fd_Pa_22 : a_Fd "ModuleSigner$Parameters" 22 2 1 0 := ⟨by decide, by decide, rfl, List.mem_append_right _ (List.mem_of_getElem? (i := 86) (by decide +kernel))⟩
theorem gs_Pa_25 : Cond.fieldLink "ModuleSigner$Parameters" 25 (a_sn 2).1 (a_sn 2).2.1 (a_sn 2).2.2 ∈ lw_tbl := List.mem_append_right _ (List.mem_of_getElem? (i := 63) (by decide +kernel))
theorem fd_Pa_28 : a_Fd "ModuleSigner$Parameters" 28 2 2 0 := ⟨by decide, by decide, rfl, List.mem_append_right _ (List.mem_of_getElem? (i := 92) (by decide +kernel))⟩
theorem gs_Pa_31 : Cond.fieldLink "ModuleSigner$Parameters" 31 (a_sn 3).1 (a_sn 3).2.1 (a_sn 3).2.2 ∈ lw_tbl := List.mem_append_right _ (List.mem_of_getElem? (i := 65) (by decide +kernel))
theorem fd_Pa_34 : a_Fd "ModuleSigner$Parameters" 34 2 3 0 := ⟨by decide, by decide, rfl, List.mem_append_right _ (List.mem_of_getElem? (i := 95) (by decide +kernel))⟩
theorem gs_Pa_37 : Cond.fieldLink "ModuleSigner$Parameters" 37 (a_sn 4).1 (a_sn 4).2.1 (a_sn 4).2.2 ∈ lw_tbl := List.mem_append_right _ (List.mem_of_getElem? (i := 67) (by decide +kernel))
theorem fd_Pa_40 : a_Fd "ModuleSigner$Parameters" 40 2 4 0 := ⟨by decide, by decide, rfl, List.mem_append_right _ (List.mem_of_getElem? (i := 97) (by decide +kernel))⟩
theorem gs_Pa_43 : Cond.fieldLink "ModuleSigner$Parameters" 43 (a_sn 5).1 (a_sn 5).2.1 (a_sn 5).2.2 ∈ lw_tbl := List.mem_append_right _ (List.mem_of_getElem? (i := 69) (by decide +kernel))
theorem fd_Pa_46 : a_Fd "ModuleSigner$Parameters" 46 2 8 0 := ⟨by decide, by decide, rfl, List.mem_append_right _ (List.mem_of_getElem? (i := 109) (by decide +kernel))⟩
theorem lc_Pa_51 : Cond.constant "ModuleSigner$Parameters" 51 (Int32.ofInt (8380416)) ∈ lw_tbl := List.mem_append_right _ (List.mem_of_getElem? (i := 71) (by decide +kernel))
theorem fd_Pa_52 : a_Fd "ModuleSigner$Parameters" 52 2 5 0 := ⟨by decide, by decide, rfl, List.mem_append_right _ (List.mem_of_getElem? (i := 101) (by decide +kernel))⟩
theorem gs_Pa_55 : Cond.fieldLink "ModuleSigner$Parameters" 55 (a_sn 6).1 (a_sn 6).2.1 (a_sn 6).2.2 ∈ lw_tbl := List.mem_append_right _ (List.mem_of_getElem? (i := 72) (by decide +kernel))
theorem fd_Pa_58 : a_Fd "ModuleSigner$Parameters" 58 2 6 0 := ⟨by decide, by decide, rfl, List.mem_append_right _ (List.mem_of_getElem? (i := 103) (by decide +kernel))⟩
theorem gs_Pa_61 : Cond.fieldLink "ModuleSigner$Parameters" 61 (a_sn 7).1 (a_sn 7).2.1 (a_sn 7).2.2 ∈ lw_tbl := List.mem_append_right _ (List.mem_of_getElem? (i := 74) (by decide +kernel))
theorem fd_Pa_64 : a_Fd "ModuleSigner$Parameters" 64 2 7 0 := ⟨by decide, by decide, rfl, List.mem_append_right _ (List.mem_of_getElem? (i := 106) (by decide +kernel))⟩
theorem fd_Pa_67 : a_Fd "ModuleSigner$Parameters" 67 2 9 0 := ⟨by decide, by decide, rfl, List.mem_append_right _ (List.mem_of_getElem? (i := 110) (by decide +kernel))⟩
theorem fd_Pa_70 : a_Fd "ModuleSigner$Parameters" 70 2 10 0 := ⟨by decide, by decide, rfl, List.mem_append_right _ (List.mem_of_getElem? (i := 113) (by decide +kernel))⟩
theorem lc_Pa_73 : Cond.constant "ModuleSigner$Parameters" 73 (Int32.ofInt (524288)) ∈ lw_tbl := List.mem_append_right _ (List.mem_of_getElem? (i := 76) (by decide +kernel))
theorem fd_Pa_74 : a_Fd "ModuleSigner$Parameters" 74 2 11 0 := ⟨by decide, by decide, rfl, List.mem_append_right _ (List.mem_of_getElem? (i := 116) (by decide +kernel))⟩
theorem fd_Pa_77 : a_Fd "ModuleSigner$Parameters" 77 2 12 0 := ⟨by decide, by decide, rfl, List.mem_append_right _ (List.mem_of_getElem? (i := 120) (by decide +kernel))⟩
theorem cs_Pa_init_173 : a_CS M_Pa_init M_Ri_packedSize 80 1 3 1 := ⟨⟨ok_Ri_packedSize, by decide, by decide, by decide⟩, List.mem_append_right _ (List.mem_of_getElem? (i := 77) (by decide +kernel)), List.mem_append_right _ (List.mem_of_getElem? (i := 78) (by decide +kernel)), by decide +kernel⟩
theorem fd_Pa_84 : a_Fd "ModuleSigner$Parameters" 84 2 13 0 := ⟨by decide, by decide, rfl, List.mem_append_right _ (List.mem_of_getElem? (i := 123) (by decide +kernel))⟩
theorem cs_Pa_init_198 : a_CS M_Pa_init M_Ri_packedSize 80 1 3 1 := ⟨⟨ok_Ri_packedSize, by decide, by decide, by decide⟩, List.mem_append_right _ (List.mem_of_getElem? (i := 77) (by decide +kernel)), List.mem_append_right _ (List.mem_of_getElem? (i := 78) (by decide +kernel)), by decide +kernel⟩
theorem cs_Pa_init_209 : a_CS M_Pa_init M_Ri_packedSize 80 1 3 1 := ⟨⟨ok_Ri_packedSize, by decide, by decide, by decide⟩, List.mem_append_right _ (List.mem_of_getElem? (i := 77) (by decide +kernel)), List.mem_append_right _ (List.mem_of_getElem? (i := 78) (by decide +kernel)), by decide +kernel⟩
theorem fd_Pa_87 : a_Fd "ModuleSigner$Parameters" 87 2 14 0 := ⟨by decide, by decide, rfl, List.mem_append_right _ (List.mem_of_getElem? (i := 125) (by decide +kernel))⟩
theorem cs_Pa_init_230 : a_CS M_Pa_init M_Ri_packedSize 80 1 3 1 := ⟨⟨ok_Ri_packedSize, by decide, by decide, by decide⟩, List.mem_append_right _ (List.mem_of_getElem? (i := 77) (by decide +kernel)), List.mem_append_right _ (List.mem_of_getElem? (i := 78) (by decide +kernel)), by decide +kernel⟩
theorem fd_Pa_90 : a_Fd "ModuleSigner$Parameters" 90 2 15 0 := ⟨by decide, by decide, rfl, List.mem_append_right _ (List.mem_of_getElem? (i := 127) (by decide +kernel))⟩
def M_Sp_init : a_M := (⟨"ModuleSigner$Sponge", "<init>", "()V"⟩, prog_9_method_1_code, 1, none, "ModuleSigner$Sponge", 1, 12, [])
theorem ok_Sp_init : a_Ok M_Sp_init := ⟨rfl, by decide +kernel, ⟨by decide, by decide⟩, List.mem_append_right _ (List.mem_of_getElem? (i := 7) (by decide +kernel)), Or.inl ⟨rfl, List.mem_append_right _ (List.mem_of_getElem? (i := 178) (by decide +kernel))⟩⟩
theorem d_Sp_init_0 : decode (a_cc M_Sp_init) 0 = .ok (.aload_n 0, 1) := by decide +kernel
theorem d_Sp_init_1 : decode (a_cc M_Sp_init) 1 = .ok (.invokespecial 1, 3) := by decide +kernel
theorem d_Sp_init_4 : decode (a_cc M_Sp_init) 4 = .ok (.aload_n 0, 1) := by decide +kernel
theorem d_Sp_init_5 : decode (a_cc M_Sp_init) 5 = .ok (.bipush 25, 2) := by decide +kernel
theorem d_Sp_init_7 : decode (a_cc M_Sp_init) 7 = .ok (.newarray .long, 2) := by decide +kernel
theorem d_Sp_init_9 : decode (a_cc M_Sp_init) 9 = .ok (.putfield 9, 3) := by decide +kernel
theorem d_Sp_init_12 : decode (a_cc M_Sp_init) 12 = .ok (.aload_n 0, 1) := by decide +kernel
theorem d_Sp_init_13 : decode (a_cc M_Sp_init) 13 = .ok (.bipush 25, 2) := by decide +kernel
theorem d_Sp_init_15 : decode (a_cc M_Sp_init) 15 = .ok (.newarray .long, 2) := by decide +kernel
theorem d_Sp_init_17 : decode (a_cc M_Sp_init) 17 = .ok (.putfield 13, 3) := by decide +kernel
theorem d_Sp_init_20 : decode (a_cc M_Sp_init) 20 = .ok (.aload_n 0, 1) := by decide +kernel
theorem d_Sp_init_21 : decode (a_cc M_Sp_init) 21 = .ok (.iconst 5, 1) := by decide +kernel
theorem d_Sp_init_22 : decode (a_cc M_Sp_init) 22 = .ok (.newarray .long, 2) := by decide +kernel
theorem d_Sp_init_24 : decode (a_cc M_Sp_init) 24 = .ok (.putfield 16, 3) := by decide +kernel
theorem d_Sp_init_27 : decode (a_cc M_Sp_init) 27 = .ok (.aload_n 0, 1) := by decide +kernel
theorem d_Sp_init_28 : decode (a_cc M_Sp_init) 28 = .ok (.sipush 136, 3) := by decide +kernel
theorem d_Sp_init_31 : decode (a_cc M_Sp_init) 31 = .ok (.putfield 19, 3) := by decide +kernel
theorem d_Sp_init_34 : decode (a_cc M_Sp_init) 34 = .ok (.aload_n 0, 1) := by decide +kernel
theorem d_Sp_init_35 : decode (a_cc M_Sp_init) 35 = .ok (.iconst 0, 1) := by decide +kernel
theorem d_Sp_init_36 : decode (a_cc M_Sp_init) 36 = .ok (.putfield 23, 3) := by decide +kernel
theorem d_Sp_init_39 : decode (a_cc M_Sp_init) 39 = .ok (.return_, 1) := by decide +kernel
theorem ml_Sp_1 : Cond.methodLink "ModuleSigner$Sponge" 1 Lib.objectInit ∈ lw_tbl := List.mem_append_right _ (List.mem_of_getElem? (i := 179) (by decide +kernel))
theorem fd_Sp_9 : a_Fd "ModuleSigner$Sponge" 9 7 0 2 := ⟨by decide, by decide, rfl, List.mem_append_right _ (List.mem_of_getElem? (i := 180) (by decide +kernel))⟩
theorem fd_Sp_13 : a_Fd "ModuleSigner$Sponge" 13 7 1 2 := ⟨by decide, by decide, rfl, List.mem_append_right _ (List.mem_of_getElem? (i := 181) (by decide +kernel))⟩
theorem fd_Sp_16 : a_Fd "ModuleSigner$Sponge" 16 7 2 2 := ⟨by decide, by decide, rfl, List.mem_append_right _ (List.mem_of_getElem? (i := 182) (by decide +kernel))⟩
theorem fd_Sp_19 : a_Fd "ModuleSigner$Sponge" 19 7 3 0 := ⟨by decide, by decide, rfl, List.mem_append_right _ (List.mem_of_getElem? (i := 183) (by decide +kernel))⟩
theorem fd_Sp_23 : a_Fd "ModuleSigner$Sponge" 23 7 4 0 := ⟨by decide, by decide, rfl, List.mem_append_right _ (List.mem_of_getElem? (i := 184) (by decide +kernel))⟩
def M_Sa_init : a_M := (⟨"ModuleSigner$Sampler", "<init>", "()V"⟩, prog_7_method_1_code, 1, none, "ModuleSigner$Sampler", 2, 26, [])
theorem ok_Sa_init : a_Ok M_Sa_init := ⟨rfl, by decide +kernel, ⟨by decide, by decide⟩, List.mem_append_right _ (List.mem_of_getElem? (i := 6) (by decide +kernel)), Or.inl ⟨rfl, List.mem_append_right _ (List.mem_of_getElem? (i := 172) (by decide +kernel))⟩⟩
theorem d_Sa_init_0 : decode (a_cc M_Sa_init) 0 = .ok (.aload_n 0, 1) := by decide +kernel
theorem d_Sa_init_1 : decode (a_cc M_Sa_init) 1 = .ok (.invokespecial 3, 3) := by decide +kernel
theorem d_Sa_init_4 : decode (a_cc M_Sa_init) 4 = .ok (.aload_n 0, 1) := by decide +kernel
theorem d_Sa_init_5 : decode (a_cc M_Sa_init) 5 = .ok (.new 9, 3) := by decide +kernel
theorem d_Sa_init_8 : decode (a_cc M_Sa_init) 8 = .ok (.dup, 1) := by decide +kernel
theorem d_Sa_init_9 : decode (a_cc M_Sa_init) 9 = .ok (.invokespecial 11, 3) := by decide +kernel
theorem d_Sa_init_12 : decode (a_cc M_Sa_init) 12 = .ok (.putfield 12, 3) := by decide +kernel
theorem d_Sa_init_15 : decode (a_cc M_Sa_init) 15 = .ok (.return_, 1) := by decide +kernel
theorem ml_Sa_3 : Cond.methodLink "ModuleSigner$Sampler" 3 Lib.objectInit ∈ lw_tbl := List.mem_append_right _ (List.mem_of_getElem? (i := 173) (by decide +kernel))
theorem nw_Sa_9 : Cond.classLink "ModuleSigner$Sampler" 9 (a_cn 7) ∈ lw_tbl := List.mem_append_right _ (List.mem_of_getElem? (i := 174) (by decide +kernel))
theorem cs_Sa_init_9 : a_CN M_Sa_init M_Sp_init 11 1 2 0 := ⟨⟨ok_Sp_init, by decide, by decide, by decide⟩, rfl, rfl, List.mem_append_right _ (List.mem_of_getElem? (i := 178) (by decide +kernel)), List.mem_append_right _ (List.mem_of_getElem? (i := 176) (by decide +kernel)), List.mem_append_right _ (List.mem_of_getElem? (i := 177) (by decide +kernel)), by decide +kernel⟩
theorem fd_Sa_12 : a_Fd "ModuleSigner$Sampler" 12 8 0 2 := ⟨by decide, by decide, rfl, List.mem_append_right _ (List.mem_of_getElem? (i := 197) (by decide +kernel))⟩
def M_Ri_reversed : a_M := (⟨"ModuleSigner$Ring", "reversed", "(I)I"⟩, prog_6_method_2_code, 3, some .int, "ModuleSigner$Ring", 0, 0, [])
theorem ok_Ri_reversed : a_Ok M_Ri_reversed := ⟨rfl, by decide +kernel, ⟨by decide, by decide⟩, List.mem_append_right _ (List.mem_of_getElem? (i := 4) (by decide +kernel)), Or.inl ⟨rfl, List.mem_append_right _ (List.mem_of_getElem? (i := 210) (by decide +kernel))⟩⟩
theorem d_Ri_reversed_0 : decode (a_cc M_Ri_reversed) 0 = .ok (.iconst 0, 1) := by decide +kernel
theorem d_Ri_reversed_1 : decode (a_cc M_Ri_reversed) 1 = .ok (.istore_n 1, 1) := by decide +kernel
theorem d_Ri_reversed_2 : decode (a_cc M_Ri_reversed) 2 = .ok (.iconst 0, 1) := by decide +kernel
theorem d_Ri_reversed_3 : decode (a_cc M_Ri_reversed) 3 = .ok (.istore_n 2, 1) := by decide +kernel
theorem d_Ri_reversed_4 : decode (a_cc M_Ri_reversed) 4 = .ok (.iload_n 2, 1) := by decide +kernel
theorem d_Ri_reversed_5 : decode (a_cc M_Ri_reversed) 5 = .ok (.bipush 8, 2) := by decide +kernel
theorem d_Ri_reversed_7 : decode (a_cc M_Ri_reversed) 7 = .ok (.if_icmp .ge 19, 3) := by decide +kernel
theorem d_Ri_reversed_10 : decode (a_cc M_Ri_reversed) 10 = .ok (.iload_n 1, 1) := by decide +kernel
theorem d_Ri_reversed_11 : decode (a_cc M_Ri_reversed) 11 = .ok (.iconst 1, 1) := by decide +kernel
theorem d_Ri_reversed_12 : decode (a_cc M_Ri_reversed) 12 = .ok (.ishl, 1) := by decide +kernel
theorem d_Ri_reversed_13 : decode (a_cc M_Ri_reversed) 13 = .ok (.iload_n 0, 1) := by decide +kernel
theorem d_Ri_reversed_14 : decode (a_cc M_Ri_reversed) 14 = .ok (.iload_n 2, 1) := by decide +kernel
theorem d_Ri_reversed_15 : decode (a_cc M_Ri_reversed) 15 = .ok (.ishr, 1) := by decide +kernel
theorem d_Ri_reversed_16 : decode (a_cc M_Ri_reversed) 16 = .ok (.iconst 1, 1) := by decide +kernel
theorem d_Ri_reversed_17 : decode (a_cc M_Ri_reversed) 17 = .ok (.iand, 1) := by decide +kernel
theorem d_Ri_reversed_18 : decode (a_cc M_Ri_reversed) 18 = .ok (.ior, 1) := by decide +kernel
theorem d_Ri_reversed_19 : decode (a_cc M_Ri_reversed) 19 = .ok (.istore_n 1, 1) := by decide +kernel
theorem d_Ri_reversed_20 : decode (a_cc M_Ri_reversed) 20 = .ok (.iinc 2 1, 3) := by decide +kernel
theorem d_Ri_reversed_23 : decode (a_cc M_Ri_reversed) 23 = .ok (.goto (-19), 3) := by decide +kernel
theorem d_Ri_reversed_26 : decode (a_cc M_Ri_reversed) 26 = .ok (.iload_n 1, 1) := by decide +kernel
theorem d_Ri_reversed_27 : decode (a_cc M_Ri_reversed) 27 = .ok (.ireturn, 1) := by decide +kernel
def M_Ri_init : a_M := (⟨"ModuleSigner$Ring", "<init>", "()V"⟩, prog_6_method_1_code, 4, none, "ModuleSigner$Ring", 1, 15, [])
theorem ok_Ri_init : a_Ok M_Ri_init := ⟨rfl, by decide +kernel, ⟨by decide, by decide⟩, List.mem_append_right _ (List.mem_of_getElem? (i := 4) (by decide +kernel)), Or.inl ⟨rfl, List.mem_append_right _ (List.mem_of_getElem? (i := 206) (by decide +kernel))⟩⟩
theorem d_Ri_init_0 : decode (a_cc M_Ri_init) 0 = .ok (.aload_n 0, 1) := by decide +kernel
theorem d_Ri_init_1 : decode (a_cc M_Ri_init) 1 = .ok (.invokespecial 1, 3) := by decide +kernel
theorem d_Ri_init_4 : decode (a_cc M_Ri_init) 4 = .ok (.aload_n 0, 1) := by decide +kernel
theorem d_Ri_init_5 : decode (a_cc M_Ri_init) 5 = .ok (.sipush 256, 3) := by decide +kernel
theorem d_Ri_init_8 : decode (a_cc M_Ri_init) 8 = .ok (.newarray .int, 2) := by decide +kernel
theorem d_Ri_init_10 : decode (a_cc M_Ri_init) 10 = .ok (.putfield 9, 3) := by decide +kernel
theorem d_Ri_init_13 : decode (a_cc M_Ri_init) 13 = .ok (.lconst 1, 1) := by decide +kernel
theorem d_Ri_init_14 : decode (a_cc M_Ri_init) 14 = .ok (.lstore_n 1, 1) := by decide +kernel
theorem d_Ri_init_15 : decode (a_cc M_Ri_init) 15 = .ok (.iconst 0, 1) := by decide +kernel
theorem d_Ri_init_16 : decode (a_cc M_Ri_init) 16 = .ok (.istore_n 3, 1) := by decide +kernel
theorem d_Ri_init_17 : decode (a_cc M_Ri_init) 17 = .ok (.iload_n 3, 1) := by decide +kernel
theorem d_Ri_init_18 : decode (a_cc M_Ri_init) 18 = .ok (.sipush 256, 3) := by decide +kernel
theorem d_Ri_init_21 : decode (a_cc M_Ri_init) 21 = .ok (.if_icmp .ge 30, 3) := by decide +kernel
theorem d_Ri_init_24 : decode (a_cc M_Ri_init) 24 = .ok (.aload_n 0, 1) := by decide +kernel
theorem d_Ri_init_25 : decode (a_cc M_Ri_init) 25 = .ok (.getfield 9, 3) := by decide +kernel
theorem d_Ri_init_28 : decode (a_cc M_Ri_init) 28 = .ok (.iload_n 3, 1) := by decide +kernel
theorem d_Ri_init_29 : decode (a_cc M_Ri_init) 29 = .ok (.invokestatic 13, 3) := by decide +kernel
theorem d_Ri_init_32 : decode (a_cc M_Ri_init) 32 = .ok (.lload_n 1, 1) := by decide +kernel
theorem d_Ri_init_33 : decode (a_cc M_Ri_init) 33 = .ok (.l2i, 1) := by decide +kernel
theorem d_Ri_init_34 : decode (a_cc M_Ri_init) 34 = .ok (.iastore, 1) := by decide +kernel
theorem d_Ri_init_35 : decode (a_cc M_Ri_init) 35 = .ok (.lload_n 1, 1) := by decide +kernel
theorem d_Ri_init_36 : decode (a_cc M_Ri_init) 36 = .ok (.ldc2_w 17, 3) := by decide +kernel
theorem d_Ri_init_39 : decode (a_cc M_Ri_init) 39 = .ok (.lmul, 1) := by decide +kernel
theorem d_Ri_init_40 : decode (a_cc M_Ri_init) 40 = .ok (.ldc2_w 19, 3) := by decide +kernel
theorem d_Ri_init_43 : decode (a_cc M_Ri_init) 43 = .ok (.lrem, 1) := by decide +kernel
theorem d_Ri_init_44 : decode (a_cc M_Ri_init) 44 = .ok (.lstore_n 1, 1) := by decide +kernel
theorem d_Ri_init_45 : decode (a_cc M_Ri_init) 45 = .ok (.iinc 3 1, 3) := by decide +kernel
theorem d_Ri_init_48 : decode (a_cc M_Ri_init) 48 = .ok (.goto (-31), 3) := by decide +kernel
theorem d_Ri_init_51 : decode (a_cc M_Ri_init) 51 = .ok (.return_, 1) := by decide +kernel
theorem ml_Ri_1 : Cond.methodLink "ModuleSigner$Ring" 1 Lib.objectInit ∈ lw_tbl := List.mem_append_right _ (List.mem_of_getElem? (i := 207) (by decide +kernel))
theorem fd_Ri_9 : a_Fd "ModuleSigner$Ring" 9 9 0 2 := ⟨by decide, by decide, rfl, List.mem_append_right _ (List.mem_of_getElem? (i := 213) (by decide +kernel))⟩
theorem cs_Ri_init_29 : a_CS M_Ri_init M_Ri_reversed 13 1 1 1 := ⟨⟨ok_Ri_reversed, by decide, by decide, by decide⟩, List.mem_append_right _ (List.mem_of_getElem? (i := 208) (by decide +kernel)), List.mem_append_right _ (List.mem_of_getElem? (i := 209) (by decide +kernel)), by decide +kernel⟩
theorem lc_Ri_17 : Cond.constantLong "ModuleSigner$Ring" 17 (Int64.ofInt (1753)) ∈ lw_tbl := List.mem_append_right _ (List.mem_of_getElem? (i := 211) (by decide +kernel))
theorem lc_Ri_19 : Cond.constantLong "ModuleSigner$Ring" 19 (Int64.ofInt (8380417)) ∈ lw_tbl := List.mem_append_right _ (List.mem_of_getElem? (i := 212) (by decide +kernel))
def M_Be_init : a_M := (⟨"ModuleSigner$Bench", "<init>", "()V"⟩, prog_2_method_1_code, 1, none, "ModuleSigner$Bench", 3, 40, [])
theorem ok_Be_init : a_Ok M_Be_init := ⟨rfl, by decide +kernel, ⟨by decide, by decide⟩, List.mem_append_right _ (List.mem_of_getElem? (i := 5) (by decide +kernel)), Or.inl ⟨rfl, List.mem_append_right _ (List.mem_of_getElem? (i := 166) (by decide +kernel))⟩⟩
theorem d_Be_init_0 : decode (a_cc M_Be_init) 0 = .ok (.aload_n 0, 1) := by decide +kernel
theorem d_Be_init_1 : decode (a_cc M_Be_init) 1 = .ok (.invokespecial 3, 3) := by decide +kernel
theorem d_Be_init_4 : decode (a_cc M_Be_init) 4 = .ok (.aload_n 0, 1) := by decide +kernel
theorem d_Be_init_5 : decode (a_cc M_Be_init) 5 = .ok (.new 9, 3) := by decide +kernel
theorem d_Be_init_8 : decode (a_cc M_Be_init) 8 = .ok (.dup, 1) := by decide +kernel
theorem d_Be_init_9 : decode (a_cc M_Be_init) 9 = .ok (.invokespecial 11, 3) := by decide +kernel
theorem d_Be_init_12 : decode (a_cc M_Be_init) 12 = .ok (.putfield 12, 3) := by decide +kernel
theorem d_Be_init_15 : decode (a_cc M_Be_init) 15 = .ok (.aload_n 0, 1) := by decide +kernel
theorem d_Be_init_16 : decode (a_cc M_Be_init) 16 = .ok (.aload_n 0, 1) := by decide +kernel
theorem d_Be_init_17 : decode (a_cc M_Be_init) 17 = .ok (.getfield 12, 3) := by decide +kernel
theorem d_Be_init_20 : decode (a_cc M_Be_init) 20 = .ok (.getfield 18, 3) := by decide +kernel
theorem d_Be_init_23 : decode (a_cc M_Be_init) 23 = .ok (.putfield 22, 3) := by decide +kernel
theorem d_Be_init_26 : decode (a_cc M_Be_init) 26 = .ok (.aload_n 0, 1) := by decide +kernel
theorem d_Be_init_27 : decode (a_cc M_Be_init) 27 = .ok (.new 23, 3) := by decide +kernel
theorem d_Be_init_30 : decode (a_cc M_Be_init) 30 = .ok (.dup, 1) := by decide +kernel
theorem d_Be_init_31 : decode (a_cc M_Be_init) 31 = .ok (.invokespecial 25, 3) := by decide +kernel
theorem d_Be_init_34 : decode (a_cc M_Be_init) 34 = .ok (.putfield 26, 3) := by decide +kernel
theorem d_Be_init_37 : decode (a_cc M_Be_init) 37 = .ok (.aload_n 0, 1) := by decide +kernel
theorem d_Be_init_38 : decode (a_cc M_Be_init) 38 = .ok (.bipush 56, 2) := by decide +kernel
theorem d_Be_init_40 : decode (a_cc M_Be_init) 40 = .ok (.sipush 256, 3) := by decide +kernel
theorem d_Be_init_43 : decode (a_cc M_Be_init) 43 = .ok (.multianewarray 30 2, 4) := by decide +kernel
theorem d_Be_init_47 : decode (a_cc M_Be_init) 47 = .ok (.putfield 32, 3) := by decide +kernel
theorem d_Be_init_50 : decode (a_cc M_Be_init) 50 = .ok (.aload_n 0, 1) := by decide +kernel
theorem d_Be_init_51 : decode (a_cc M_Be_init) 51 = .ok (.bipush 7, 2) := by decide +kernel
theorem d_Be_init_53 : decode (a_cc M_Be_init) 53 = .ok (.sipush 256, 3) := by decide +kernel
theorem d_Be_init_56 : decode (a_cc M_Be_init) 56 = .ok (.multianewarray 30 2, 4) := by decide +kernel
theorem d_Be_init_60 : decode (a_cc M_Be_init) 60 = .ok (.putfield 35, 3) := by decide +kernel
theorem d_Be_init_63 : decode (a_cc M_Be_init) 63 = .ok (.aload_n 0, 1) := by decide +kernel
theorem d_Be_init_64 : decode (a_cc M_Be_init) 64 = .ok (.bipush 8, 2) := by decide +kernel
theorem d_Be_init_66 : decode (a_cc M_Be_init) 66 = .ok (.sipush 256, 3) := by decide +kernel
theorem d_Be_init_69 : decode (a_cc M_Be_init) 69 = .ok (.multianewarray 30 2, 4) := by decide +kernel
theorem d_Be_init_73 : decode (a_cc M_Be_init) 73 = .ok (.putfield 38, 3) := by decide +kernel
theorem d_Be_init_76 : decode (a_cc M_Be_init) 76 = .ok (.aload_n 0, 1) := by decide +kernel
theorem d_Be_init_77 : decode (a_cc M_Be_init) 77 = .ok (.bipush 7, 2) := by decide +kernel
theorem d_Be_init_79 : decode (a_cc M_Be_init) 79 = .ok (.sipush 256, 3) := by decide +kernel
theorem d_Be_init_82 : decode (a_cc M_Be_init) 82 = .ok (.multianewarray 30 2, 4) := by decide +kernel
theorem d_Be_init_86 : decode (a_cc M_Be_init) 86 = .ok (.putfield 41, 3) := by decide +kernel
theorem d_Be_init_89 : decode (a_cc M_Be_init) 89 = .ok (.aload_n 0, 1) := by decide +kernel
theorem d_Be_init_90 : decode (a_cc M_Be_init) 90 = .ok (.bipush 8, 2) := by decide +kernel
theorem d_Be_init_92 : decode (a_cc M_Be_init) 92 = .ok (.sipush 256, 3) := by decide +kernel
theorem d_Be_init_95 : decode (a_cc M_Be_init) 95 = .ok (.multianewarray 30 2, 4) := by decide +kernel
theorem d_Be_init_99 : decode (a_cc M_Be_init) 99 = .ok (.putfield 44, 3) := by decide +kernel
theorem d_Be_init_102 : decode (a_cc M_Be_init) 102 = .ok (.aload_n 0, 1) := by decide +kernel
theorem d_Be_init_103 : decode (a_cc M_Be_init) 103 = .ok (.sipush 256, 3) := by decide +kernel
theorem d_Be_init_106 : decode (a_cc M_Be_init) 106 = .ok (.newarray .int, 2) := by decide +kernel
theorem d_Be_init_108 : decode (a_cc M_Be_init) 108 = .ok (.putfield 47, 3) := by decide +kernel
theorem d_Be_init_111 : decode (a_cc M_Be_init) 111 = .ok (.aload_n 0, 1) := by decide +kernel
theorem d_Be_init_112 : decode (a_cc M_Be_init) 112 = .ok (.sipush 256, 3) := by decide +kernel
theorem d_Be_init_115 : decode (a_cc M_Be_init) 115 = .ok (.newarray .int, 2) := by decide +kernel
theorem d_Be_init_117 : decode (a_cc M_Be_init) 117 = .ok (.putfield 51, 3) := by decide +kernel
theorem d_Be_init_120 : decode (a_cc M_Be_init) 120 = .ok (.aload_n 0, 1) := by decide +kernel
theorem d_Be_init_121 : decode (a_cc M_Be_init) 121 = .ok (.new 54, 3) := by decide +kernel
theorem d_Be_init_124 : decode (a_cc M_Be_init) 124 = .ok (.dup, 1) := by decide +kernel
theorem d_Be_init_125 : decode (a_cc M_Be_init) 125 = .ok (.bipush 64, 2) := by decide +kernel
theorem d_Be_init_127 : decode (a_cc M_Be_init) 127 = .ok (.invokespecial 56, 3) := by decide +kernel
theorem d_Be_init_130 : decode (a_cc M_Be_init) 130 = .ok (.putfield 59, 3) := by decide +kernel
theorem d_Be_init_133 : decode (a_cc M_Be_init) 133 = .ok (.aload_n 0, 1) := by decide +kernel
theorem d_Be_init_134 : decode (a_cc M_Be_init) 134 = .ok (.new 54, 3) := by decide +kernel
theorem d_Be_init_137 : decode (a_cc M_Be_init) 137 = .ok (.dup, 1) := by decide +kernel
theorem d_Be_init_138 : decode (a_cc M_Be_init) 138 = .ok (.bipush 64, 2) := by decide +kernel
theorem d_Be_init_140 : decode (a_cc M_Be_init) 140 = .ok (.invokespecial 56, 3) := by decide +kernel
theorem d_Be_init_143 : decode (a_cc M_Be_init) 143 = .ok (.putfield 63, 3) := by decide +kernel
theorem d_Be_init_146 : decode (a_cc M_Be_init) 146 = .ok (.aload_n 0, 1) := by decide +kernel
theorem d_Be_init_147 : decode (a_cc M_Be_init) 147 = .ok (.new 54, 3) := by decide +kernel
theorem d_Be_init_150 : decode (a_cc M_Be_init) 150 = .ok (.dup, 1) := by decide +kernel
theorem d_Be_init_151 : decode (a_cc M_Be_init) 151 = .ok (.sipush 1024, 3) := by decide +kernel
theorem d_Be_init_154 : decode (a_cc M_Be_init) 154 = .ok (.invokespecial 56, 3) := by decide +kernel
theorem d_Be_init_157 : decode (a_cc M_Be_init) 157 = .ok (.putfield 66, 3) := by decide +kernel
theorem d_Be_init_160 : decode (a_cc M_Be_init) 160 = .ok (.return_, 1) := by decide +kernel
theorem ml_Be_3 : Cond.methodLink "ModuleSigner$Bench" 3 Lib.objectInit ∈ lw_tbl := List.mem_append_right _ (List.mem_of_getElem? (i := 167) (by decide +kernel))
theorem nw_Be_9 : Cond.classLink "ModuleSigner$Bench" 9 (a_cn 8) ∈ lw_tbl := List.mem_append_right _ (List.mem_of_getElem? (i := 168) (by decide +kernel))
theorem cs_Be_init_9 : a_CN M_Be_init M_Sa_init 11 1 2 0 := ⟨⟨ok_Sa_init, by decide, by decide, by decide⟩, rfl, rfl, List.mem_append_right _ (List.mem_of_getElem? (i := 172) (by decide +kernel)), List.mem_append_right _ (List.mem_of_getElem? (i := 170) (by decide +kernel)), List.mem_append_right _ (List.mem_of_getElem? (i := 171) (by decide +kernel)), by decide +kernel⟩
theorem fd_Be_12 : a_Fd "ModuleSigner$Bench" 12 3 0 2 := ⟨by decide, by decide, rfl, List.mem_append_right _ (List.mem_of_getElem? (i := 222) (by decide +kernel))⟩
theorem fd_Be_18 : a_Fd "ModuleSigner$Bench" 18 8 0 2 := ⟨by decide, by decide, rfl, List.mem_append_right _ (List.mem_of_getElem? (i := 198) (by decide +kernel))⟩
theorem fd_Be_22 : a_Fd "ModuleSigner$Bench" 22 3 1 2 := ⟨by decide, by decide, rfl, List.mem_append_right _ (List.mem_of_getElem? (i := 226) (by decide +kernel))⟩
theorem nw_Be_23 : Cond.classLink "ModuleSigner$Bench" 23 (a_cn 9) ∈ lw_tbl := List.mem_append_right _ (List.mem_of_getElem? (i := 202) (by decide +kernel))
theorem cs_Be_init_31 : a_CI M_Be_init M_Ri_init 25 1 2 0 := ⟨⟨ok_Ri_init, by decide, by decide, by decide⟩, rfl, rfl, List.mem_append_right _ (List.mem_of_getElem? (i := 206) (by decide +kernel)), List.mem_append_right _ (List.mem_of_getElem? (i := 204) (by decide +kernel)), List.mem_append_right _ (List.mem_of_getElem? (i := 205) (by decide +kernel)), by decide +kernel⟩
theorem fd_Be_26 : a_Fd "ModuleSigner$Bench" 26 3 2 2 := ⟨by decide, by decide, rfl, List.mem_append_right _ (List.mem_of_getElem? (i := 230) (by decide +kernel))⟩
theorem nm_Be_30 : Cond.classLink "ModuleSigner$Bench" 30 ("[" ++ (FieldType.array (a_ft 1)).toString) ∈ lw_tbl := List.mem_append_right _ (List.mem_of_getElem? (i := 218) (by decide +kernel))
theorem fd_Be_32 : a_Fd "ModuleSigner$Bench" 32 3 3 2 := ⟨by decide, by decide, rfl, List.mem_append_right _ (List.mem_of_getElem? (i := 234) (by decide +kernel))⟩
theorem fd_Be_35 : a_Fd "ModuleSigner$Bench" 35 3 4 2 := ⟨by decide, by decide, rfl, List.mem_append_right _ (List.mem_of_getElem? (i := 238) (by decide +kernel))⟩
theorem fd_Be_38 : a_Fd "ModuleSigner$Bench" 38 3 5 2 := ⟨by decide, by decide, rfl, List.mem_append_right _ (List.mem_of_getElem? (i := 241) (by decide +kernel))⟩
theorem fd_Be_41 : a_Fd "ModuleSigner$Bench" 41 3 6 2 := ⟨by decide, by decide, rfl, List.mem_append_right _ (List.mem_of_getElem? (i := 244) (by decide +kernel))⟩
theorem fd_Be_44 : a_Fd "ModuleSigner$Bench" 44 3 7 2 := ⟨by decide, by decide, rfl, List.mem_append_right _ (List.mem_of_getElem? (i := 248) (by decide +kernel))⟩
theorem fd_Be_47 : a_Fd "ModuleSigner$Bench" 47 3 8 2 := ⟨by decide, by decide, rfl, List.mem_append_right _ (List.mem_of_getElem? (i := 252) (by decide +kernel))⟩
theorem fd_Be_51 : a_Fd "ModuleSigner$Bench" 51 3 9 2 := ⟨by decide, by decide, rfl, List.mem_append_right _ (List.mem_of_getElem? (i := 254) (by decide +kernel))⟩
theorem nw_Be_54 : Cond.classLink "ModuleSigner$Bench" 54 (a_cn 1) ∈ lw_tbl := List.mem_append_right _ (List.mem_of_getElem? (i := 220) (by decide +kernel))
theorem cs_Be_init_127 : a_CI M_Be_init M_By_init 56 2 2 1 := ⟨⟨ok_By_init, by decide, by decide, by decide⟩, rfl, rfl, List.mem_append_right _ (List.mem_of_getElem? (i := 35) (by decide +kernel)), List.mem_append_right _ (List.mem_of_getElem? (i := 221) (by decide +kernel)), List.mem_append_right _ (List.mem_of_getElem? (i := 34) (by decide +kernel)), by decide +kernel⟩
theorem fd_Be_59 : a_Fd "ModuleSigner$Bench" 59 3 10 2 := ⟨by decide, by decide, rfl, List.mem_append_right _ (List.mem_of_getElem? (i := 258) (by decide +kernel))⟩
theorem cs_Be_init_140 : a_CI M_Be_init M_By_init 56 2 2 1 := ⟨⟨ok_By_init, by decide, by decide, by decide⟩, rfl, rfl, List.mem_append_right _ (List.mem_of_getElem? (i := 35) (by decide +kernel)), List.mem_append_right _ (List.mem_of_getElem? (i := 221) (by decide +kernel)), List.mem_append_right _ (List.mem_of_getElem? (i := 34) (by decide +kernel)), by decide +kernel⟩
theorem fd_Be_63 : a_Fd "ModuleSigner$Bench" 63 3 11 2 := ⟨by decide, by decide, rfl, List.mem_append_right _ (List.mem_of_getElem? (i := 261) (by decide +kernel))⟩
theorem cs_Be_init_154 : a_CI M_Be_init M_By_init 56 2 2 1 := ⟨⟨ok_By_init, by decide, by decide, by decide⟩, rfl, rfl, List.mem_append_right _ (List.mem_of_getElem? (i := 35) (by decide +kernel)), List.mem_append_right _ (List.mem_of_getElem? (i := 221) (by decide +kernel)), List.mem_append_right _ (List.mem_of_getElem? (i := 34) (by decide +kernel)), by decide +kernel⟩
theorem fd_Be_66 : a_Fd "ModuleSigner$Bench" 66 3 12 2 := ⟨by decide, by decide, rfl, List.mem_append_right _ (List.mem_of_getElem? (i := 264) (by decide +kernel))⟩
def M_KM_init : a_M := (⟨"ModuleSigner$KeyMaker", "<init>", "(LModuleSigner$Bench;)V"⟩, prog_4_method_1_code, 2, none, "ModuleSigner$KeyMaker", 2, 27, [])
theorem ok_KM_init : a_Ok M_KM_init := ⟨rfl, by decide +kernel, ⟨by decide, by decide⟩, List.mem_append_right _ (List.mem_of_getElem? (i := 8) (by decide +kernel)), Or.inl ⟨rfl, List.mem_append_right _ (List.mem_of_getElem? (i := 298) (by decide +kernel))⟩⟩
theorem d_KM_init_0 : decode (a_cc M_KM_init) 0 = .ok (.aload_n 0, 1) := by decide +kernel
theorem d_KM_init_1 : decode (a_cc M_KM_init) 1 = .ok (.invokespecial 3, 3) := by decide +kernel
theorem d_KM_init_4 : decode (a_cc M_KM_init) 4 = .ok (.aload_n 0, 1) := by decide +kernel
theorem d_KM_init_5 : decode (a_cc M_KM_init) 5 = .ok (.new 9, 3) := by decide +kernel
theorem d_KM_init_8 : decode (a_cc M_KM_init) 8 = .ok (.dup, 1) := by decide +kernel
theorem d_KM_init_9 : decode (a_cc M_KM_init) 9 = .ok (.sipush 128, 3) := by decide +kernel
theorem d_KM_init_12 : decode (a_cc M_KM_init) 12 = .ok (.invokespecial 13, 3) := by decide +kernel
theorem d_KM_init_15 : decode (a_cc M_KM_init) 15 = .ok (.putfield 16, 3) := by decide +kernel
theorem d_KM_init_18 : decode (a_cc M_KM_init) 18 = .ok (.aload_n 0, 1) := by decide +kernel
theorem d_KM_init_19 : decode (a_cc M_KM_init) 19 = .ok (.aload_n 1, 1) := by decide +kernel
theorem d_KM_init_20 : decode (a_cc M_KM_init) 20 = .ok (.putfield 20, 3) := by decide +kernel
theorem d_KM_init_23 : decode (a_cc M_KM_init) 23 = .ok (.return_, 1) := by decide +kernel
theorem ml_KM_3 : Cond.methodLink "ModuleSigner$KeyMaker" 3 Lib.objectInit ∈ lw_tbl := List.mem_append_right _ (List.mem_of_getElem? (i := 299) (by decide +kernel))
theorem nw_KM_9 : Cond.classLink "ModuleSigner$KeyMaker" 9 (a_cn 1) ∈ lw_tbl := List.mem_append_right _ (List.mem_of_getElem? (i := 300) (by decide +kernel))
theorem cs_KM_init_12 : a_CI M_KM_init M_By_init 13 2 2 1 := ⟨⟨ok_By_init, by decide, by decide, by decide⟩, rfl, rfl, List.mem_append_right _ (List.mem_of_getElem? (i := 35) (by decide +kernel)), List.mem_append_right _ (List.mem_of_getElem? (i := 301) (by decide +kernel)), List.mem_append_right _ (List.mem_of_getElem? (i := 34) (by decide +kernel)), by decide +kernel⟩
theorem fd_KM_16 : a_Fd "ModuleSigner$KeyMaker" 16 4 1 2 := ⟨by decide, by decide, rfl, List.mem_append_right _ (List.mem_of_getElem? (i := 303) (by decide +kernel))⟩
theorem fd_KM_20 : a_Fd "ModuleSigner$KeyMaker" 20 4 0 2 := ⟨by decide, by decide, rfl, List.mem_append_right _ (List.mem_of_getElem? (i := 302) (by decide +kernel))⟩
def M_Si_init : a_M := (⟨"ModuleSigner$Signer", "<init>", "(LModuleSigner$Bench;)V"⟩, prog_8_method_1_code, 2, none, "ModuleSigner$Signer", 2, 27, [])
theorem ok_Si_init : a_Ok M_Si_init := ⟨rfl, by decide +kernel, ⟨by decide, by decide⟩, List.mem_append_right _ (List.mem_of_getElem? (i := 9) (by decide +kernel)), Or.inl ⟨rfl, List.mem_append_right _ (List.mem_of_getElem? (i := 313) (by decide +kernel))⟩⟩
theorem d_Si_init_0 : decode (a_cc M_Si_init) 0 = .ok (.aload_n 0, 1) := by decide +kernel
theorem d_Si_init_1 : decode (a_cc M_Si_init) 1 = .ok (.invokespecial 3, 3) := by decide +kernel
theorem d_Si_init_4 : decode (a_cc M_Si_init) 4 = .ok (.aload_n 0, 1) := by decide +kernel
theorem d_Si_init_5 : decode (a_cc M_Si_init) 5 = .ok (.bipush 8, 2) := by decide +kernel
theorem d_Si_init_7 : decode (a_cc M_Si_init) 7 = .ok (.sipush 256, 3) := by decide +kernel
theorem d_Si_init_10 : decode (a_cc M_Si_init) 10 = .ok (.multianewarray 13 2, 4) := by decide +kernel
theorem d_Si_init_14 : decode (a_cc M_Si_init) 14 = .ok (.putfield 15, 3) := by decide +kernel
theorem d_Si_init_17 : decode (a_cc M_Si_init) 17 = .ok (.aload_n 0, 1) := by decide +kernel
theorem d_Si_init_18 : decode (a_cc M_Si_init) 18 = .ok (.bipush 7, 2) := by decide +kernel
theorem d_Si_init_20 : decode (a_cc M_Si_init) 20 = .ok (.sipush 256, 3) := by decide +kernel
theorem d_Si_init_23 : decode (a_cc M_Si_init) 23 = .ok (.multianewarray 13 2, 4) := by decide +kernel
theorem d_Si_init_27 : decode (a_cc M_Si_init) 27 = .ok (.putfield 20, 3) := by decide +kernel
theorem d_Si_init_30 : decode (a_cc M_Si_init) 30 = .ok (.aload_n 0, 1) := by decide +kernel
theorem d_Si_init_31 : decode (a_cc M_Si_init) 31 = .ok (.new 23, 3) := by decide +kernel
theorem d_Si_init_34 : decode (a_cc M_Si_init) 34 = .ok (.dup, 1) := by decide +kernel
theorem d_Si_init_35 : decode (a_cc M_Si_init) 35 = .ok (.bipush 64, 2) := by decide +kernel
theorem d_Si_init_37 : decode (a_cc M_Si_init) 37 = .ok (.invokespecial 25, 3) := by decide +kernel
theorem d_Si_init_40 : decode (a_cc M_Si_init) 40 = .ok (.putfield 28, 3) := by decide +kernel
theorem d_Si_init_43 : decode (a_cc M_Si_init) 43 = .ok (.aload_n 0, 1) := by decide +kernel
theorem d_Si_init_44 : decode (a_cc M_Si_init) 44 = .ok (.new 23, 3) := by decide +kernel
theorem d_Si_init_47 : decode (a_cc M_Si_init) 47 = .ok (.dup, 1) := by decide +kernel
theorem d_Si_init_48 : decode (a_cc M_Si_init) 48 = .ok (.bipush 80, 2) := by decide +kernel
theorem d_Si_init_50 : decode (a_cc M_Si_init) 50 = .ok (.invokespecial 25, 3) := by decide +kernel
theorem d_Si_init_53 : decode (a_cc M_Si_init) 53 = .ok (.putfield 32, 3) := by decide +kernel
theorem d_Si_init_56 : decode (a_cc M_Si_init) 56 = .ok (.aload_n 0, 1) := by decide +kernel
theorem d_Si_init_57 : decode (a_cc M_Si_init) 57 = .ok (.new 23, 3) := by decide +kernel
theorem d_Si_init_60 : decode (a_cc M_Si_init) 60 = .ok (.dup, 1) := by decide +kernel
theorem d_Si_init_61 : decode (a_cc M_Si_init) 61 = .ok (.bipush 8, 2) := by decide +kernel
theorem d_Si_init_63 : decode (a_cc M_Si_init) 63 = .ok (.invokespecial 25, 3) := by decide +kernel
theorem d_Si_init_66 : decode (a_cc M_Si_init) 66 = .ok (.putfield 35, 3) := by decide +kernel
theorem d_Si_init_69 : decode (a_cc M_Si_init) 69 = .ok (.aload_n 0, 1) := by decide +kernel
theorem d_Si_init_70 : decode (a_cc M_Si_init) 70 = .ok (.aload_n 1, 1) := by decide +kernel
theorem d_Si_init_71 : decode (a_cc M_Si_init) 71 = .ok (.putfield 38, 3) := by decide +kernel
theorem d_Si_init_74 : decode (a_cc M_Si_init) 74 = .ok (.return_, 1) := by decide +kernel
theorem ml_Si_3 : Cond.methodLink "ModuleSigner$Signer" 3 Lib.objectInit ∈ lw_tbl := List.mem_append_right _ (List.mem_of_getElem? (i := 314) (by decide +kernel))
theorem nm_Si_13 : Cond.classLink "ModuleSigner$Signer" 13 ("[" ++ (FieldType.array (a_ft 1)).toString) ∈ lw_tbl := List.mem_append_right _ (List.mem_of_getElem? (i := 315) (by decide +kernel))
theorem fd_Si_15 : a_Fd "ModuleSigner$Signer" 15 5 1 2 := ⟨by decide, by decide, rfl, List.mem_append_right _ (List.mem_of_getElem? (i := 319) (by decide +kernel))⟩
theorem fd_Si_20 : a_Fd "ModuleSigner$Signer" 20 5 2 2 := ⟨by decide, by decide, rfl, List.mem_append_right _ (List.mem_of_getElem? (i := 320) (by decide +kernel))⟩
theorem nw_Si_23 : Cond.classLink "ModuleSigner$Signer" 23 (a_cn 1) ∈ lw_tbl := List.mem_append_right _ (List.mem_of_getElem? (i := 316) (by decide +kernel))
theorem cs_Si_init_37 : a_CI M_Si_init M_By_init 25 2 2 1 := ⟨⟨ok_By_init, by decide, by decide, by decide⟩, rfl, rfl, List.mem_append_right _ (List.mem_of_getElem? (i := 35) (by decide +kernel)), List.mem_append_right _ (List.mem_of_getElem? (i := 317) (by decide +kernel)), List.mem_append_right _ (List.mem_of_getElem? (i := 34) (by decide +kernel)), by decide +kernel⟩
theorem fd_Si_28 : a_Fd "ModuleSigner$Signer" 28 5 3 2 := ⟨by decide, by decide, rfl, List.mem_append_right _ (List.mem_of_getElem? (i := 321) (by decide +kernel))⟩
theorem cs_Si_init_50 : a_CI M_Si_init M_By_init 25 2 2 1 := ⟨⟨ok_By_init, by decide, by decide, by decide⟩, rfl, rfl, List.mem_append_right _ (List.mem_of_getElem? (i := 35) (by decide +kernel)), List.mem_append_right _ (List.mem_of_getElem? (i := 317) (by decide +kernel)), List.mem_append_right _ (List.mem_of_getElem? (i := 34) (by decide +kernel)), by decide +kernel⟩
theorem fd_Si_32 : a_Fd "ModuleSigner$Signer" 32 5 4 2 := ⟨by decide, by decide, rfl, List.mem_append_right _ (List.mem_of_getElem? (i := 322) (by decide +kernel))⟩
theorem cs_Si_init_63 : a_CI M_Si_init M_By_init 25 2 2 1 := ⟨⟨ok_By_init, by decide, by decide, by decide⟩, rfl, rfl, List.mem_append_right _ (List.mem_of_getElem? (i := 35) (by decide +kernel)), List.mem_append_right _ (List.mem_of_getElem? (i := 317) (by decide +kernel)), List.mem_append_right _ (List.mem_of_getElem? (i := 34) (by decide +kernel)), by decide +kernel⟩
theorem fd_Si_35 : a_Fd "ModuleSigner$Signer" 35 5 5 2 := ⟨by decide, by decide, rfl, List.mem_append_right _ (List.mem_of_getElem? (i := 323) (by decide +kernel))⟩
theorem fd_Si_38 : a_Fd "ModuleSigner$Signer" 38 5 0 2 := ⟨by decide, by decide, rfl, List.mem_append_right _ (List.mem_of_getElem? (i := 318) (by decide +kernel))⟩
def M_Ve_init : a_M := (⟨"ModuleSigner$Verifier", "<init>", "(LModuleSigner$Bench;)V"⟩, prog_10_method_1_code, 2, none, "ModuleSigner$Verifier", 2, 27, [])
theorem ok_Ve_init : a_Ok M_Ve_init := ⟨rfl, by decide +kernel, ⟨by decide, by decide⟩, List.mem_append_right _ (List.mem_of_getElem? (i := 10) (by decide +kernel)), Or.inl ⟨rfl, List.mem_append_right _ (List.mem_of_getElem? (i := 341) (by decide +kernel))⟩⟩
theorem d_Ve_init_0 : decode (a_cc M_Ve_init) 0 = .ok (.aload_n 0, 1) := by decide +kernel
theorem d_Ve_init_1 : decode (a_cc M_Ve_init) 1 = .ok (.invokespecial 3, 3) := by decide +kernel
theorem d_Ve_init_4 : decode (a_cc M_Ve_init) 4 = .ok (.aload_n 0, 1) := by decide +kernel
theorem d_Ve_init_5 : decode (a_cc M_Ve_init) 5 = .ok (.new 9, 3) := by decide +kernel
theorem d_Ve_init_8 : decode (a_cc M_Ve_init) 8 = .ok (.dup, 1) := by decide +kernel
theorem d_Ve_init_9 : decode (a_cc M_Ve_init) 9 = .ok (.bipush 64, 2) := by decide +kernel
theorem d_Ve_init_11 : decode (a_cc M_Ve_init) 11 = .ok (.invokespecial 11, 3) := by decide +kernel
theorem d_Ve_init_14 : decode (a_cc M_Ve_init) 14 = .ok (.putfield 14, 3) := by decide +kernel
theorem d_Ve_init_17 : decode (a_cc M_Ve_init) 17 = .ok (.aload_n 0, 1) := by decide +kernel
theorem d_Ve_init_18 : decode (a_cc M_Ve_init) 18 = .ok (.new 9, 3) := by decide +kernel
theorem d_Ve_init_21 : decode (a_cc M_Ve_init) 21 = .ok (.dup, 1) := by decide +kernel
theorem d_Ve_init_22 : decode (a_cc M_Ve_init) 22 = .ok (.bipush 64, 2) := by decide +kernel
theorem d_Ve_init_24 : decode (a_cc M_Ve_init) 24 = .ok (.invokespecial 11, 3) := by decide +kernel
theorem d_Ve_init_27 : decode (a_cc M_Ve_init) 27 = .ok (.putfield 20, 3) := by decide +kernel
theorem d_Ve_init_30 : decode (a_cc M_Ve_init) 30 = .ok (.aload_n 0, 1) := by decide +kernel
theorem d_Ve_init_31 : decode (a_cc M_Ve_init) 31 = .ok (.aload_n 1, 1) := by decide +kernel
theorem d_Ve_init_32 : decode (a_cc M_Ve_init) 32 = .ok (.putfield 23, 3) := by decide +kernel
theorem d_Ve_init_35 : decode (a_cc M_Ve_init) 35 = .ok (.return_, 1) := by decide +kernel
theorem ml_Ve_3 : Cond.methodLink "ModuleSigner$Verifier" 3 Lib.objectInit ∈ lw_tbl := List.mem_append_right _ (List.mem_of_getElem? (i := 342) (by decide +kernel))
theorem nw_Ve_9 : Cond.classLink "ModuleSigner$Verifier" 9 (a_cn 1) ∈ lw_tbl := List.mem_append_right _ (List.mem_of_getElem? (i := 343) (by decide +kernel))
theorem cs_Ve_init_11 : a_CI M_Ve_init M_By_init 11 2 2 1 := ⟨⟨ok_By_init, by decide, by decide, by decide⟩, rfl, rfl, List.mem_append_right _ (List.mem_of_getElem? (i := 35) (by decide +kernel)), List.mem_append_right _ (List.mem_of_getElem? (i := 344) (by decide +kernel)), List.mem_append_right _ (List.mem_of_getElem? (i := 34) (by decide +kernel)), by decide +kernel⟩
theorem fd_Ve_14 : a_Fd "ModuleSigner$Verifier" 14 6 1 2 := ⟨by decide, by decide, rfl, List.mem_append_right _ (List.mem_of_getElem? (i := 346) (by decide +kernel))⟩
theorem cs_Ve_init_24 : a_CI M_Ve_init M_By_init 11 2 2 1 := ⟨⟨ok_By_init, by decide, by decide, by decide⟩, rfl, rfl, List.mem_append_right _ (List.mem_of_getElem? (i := 35) (by decide +kernel)), List.mem_append_right _ (List.mem_of_getElem? (i := 344) (by decide +kernel)), List.mem_append_right _ (List.mem_of_getElem? (i := 34) (by decide +kernel)), by decide +kernel⟩
theorem fd_Ve_20 : a_Fd "ModuleSigner$Verifier" 20 6 2 2 := ⟨by decide, by decide, rfl, List.mem_append_right _ (List.mem_of_getElem? (i := 347) (by decide +kernel))⟩
theorem fd_Ve_23 : a_Fd "ModuleSigner$Verifier" 23 6 0 2 := ⟨by decide, by decide, rfl, List.mem_append_right _ (List.mem_of_getElem? (i := 345) (by decide +kernel))⟩
def M_MS_init : a_M := (⟨"ModuleSigner", "<init>", "()V"⟩, prog_1_method_1_code, 2, none, "ModuleSigner", 4, 53, [])
theorem ok_MS_init : a_Ok M_MS_init := ⟨rfl, by decide +kernel, ⟨by decide, by decide⟩, List.mem_append_right _ (List.mem_of_getElem? (i := 1) (by decide +kernel)), Or.inl ⟨rfl, List.mem_append_right _ (List.mem_of_getElem? (i := 26) (by decide +kernel))⟩⟩
theorem d_MS_init_0 : decode (a_cc M_MS_init) 0 = .ok (.aload_n 0, 1) := by decide +kernel
theorem d_MS_init_1 : decode (a_cc M_MS_init) 1 = .ok (.invokespecial 1, 3) := by decide +kernel
theorem d_MS_init_4 : decode (a_cc M_MS_init) 4 = .ok (.aload_n 0, 1) := by decide +kernel
theorem d_MS_init_5 : decode (a_cc M_MS_init) 5 = .ok (.bipush 8, 2) := by decide +kernel
theorem d_MS_init_7 : decode (a_cc M_MS_init) 7 = .ok (.anewarray 9, 3) := by decide +kernel
theorem d_MS_init_10 : decode (a_cc M_MS_init) 10 = .ok (.putfield 11, 3) := by decide +kernel
theorem d_MS_init_13 : decode (a_cc M_MS_init) 13 = .ok (.iconst 0, 1) := by decide +kernel
theorem d_MS_init_14 : decode (a_cc M_MS_init) 14 = .ok (.istore_n 1, 1) := by decide +kernel
theorem d_MS_init_15 : decode (a_cc M_MS_init) 15 = .ok (.iload_n 1, 1) := by decide +kernel
theorem d_MS_init_16 : decode (a_cc M_MS_init) 16 = .ok (.bipush 8, 2) := by decide +kernel
theorem d_MS_init_18 : decode (a_cc M_MS_init) 18 = .ok (.if_icmp .ge 25, 3) := by decide +kernel
theorem d_MS_init_21 : decode (a_cc M_MS_init) 21 = .ok (.aload_n 0, 1) := by decide +kernel
theorem d_MS_init_22 : decode (a_cc M_MS_init) 22 = .ok (.getfield 11, 3) := by decide +kernel
theorem d_MS_init_25 : decode (a_cc M_MS_init) 25 = .ok (.iload_n 1, 1) := by decide +kernel
theorem d_MS_init_26 : decode (a_cc M_MS_init) 26 = .ok (.new 9, 3) := by decide +kernel
theorem d_MS_init_29 : decode (a_cc M_MS_init) 29 = .ok (.dup, 1) := by decide +kernel
theorem d_MS_init_30 : decode (a_cc M_MS_init) 30 = .ok (.sipush 8192, 3) := by decide +kernel
theorem d_MS_init_33 : decode (a_cc M_MS_init) 33 = .ok (.invokespecial 15, 3) := by decide +kernel
theorem d_MS_init_36 : decode (a_cc M_MS_init) 36 = .ok (.aastore, 1) := by decide +kernel
theorem d_MS_init_37 : decode (a_cc M_MS_init) 37 = .ok (.iinc 1 1, 3) := by decide +kernel
theorem d_MS_init_40 : decode (a_cc M_MS_init) 40 = .ok (.goto (-25), 3) := by decide +kernel
theorem d_MS_init_43 : decode (a_cc M_MS_init) 43 = .ok (.aload_n 0, 1) := by decide +kernel
theorem d_MS_init_44 : decode (a_cc M_MS_init) 44 = .ok (.new 9, 3) := by decide +kernel
theorem d_MS_init_47 : decode (a_cc M_MS_init) 47 = .ok (.dup, 1) := by decide +kernel
theorem d_MS_init_48 : decode (a_cc M_MS_init) 48 = .ok (.sipush 8192, 3) := by decide +kernel
theorem d_MS_init_51 : decode (a_cc M_MS_init) 51 = .ok (.invokespecial 15, 3) := by decide +kernel
theorem d_MS_init_54 : decode (a_cc M_MS_init) 54 = .ok (.putfield 18, 3) := by decide +kernel
theorem d_MS_init_57 : decode (a_cc M_MS_init) 57 = .ok (.aload_n 0, 1) := by decide +kernel
theorem d_MS_init_58 : decode (a_cc M_MS_init) 58 = .ok (.iconst 3, 1) := by decide +kernel
theorem d_MS_init_59 : decode (a_cc M_MS_init) 59 = .ok (.anewarray 22, 3) := by decide +kernel
theorem d_MS_init_62 : decode (a_cc M_MS_init) 62 = .ok (.putfield 24, 3) := by decide +kernel
theorem d_MS_init_65 : decode (a_cc M_MS_init) 65 = .ok (.iconst 0, 1) := by decide +kernel
theorem d_MS_init_66 : decode (a_cc M_MS_init) 66 = .ok (.istore_n 1, 1) := by decide +kernel
theorem d_MS_init_67 : decode (a_cc M_MS_init) 67 = .ok (.iload_n 1, 1) := by decide +kernel
theorem d_MS_init_68 : decode (a_cc M_MS_init) 68 = .ok (.iconst 3, 1) := by decide +kernel
theorem d_MS_init_69 : decode (a_cc M_MS_init) 69 = .ok (.if_icmp .ge 23, 3) := by decide +kernel
theorem d_MS_init_72 : decode (a_cc M_MS_init) 72 = .ok (.aload_n 0, 1) := by decide +kernel
theorem d_MS_init_73 : decode (a_cc M_MS_init) 73 = .ok (.getfield 24, 3) := by decide +kernel
theorem d_MS_init_76 : decode (a_cc M_MS_init) 76 = .ok (.iload_n 1, 1) := by decide +kernel
theorem d_MS_init_77 : decode (a_cc M_MS_init) 77 = .ok (.new 22, 3) := by decide +kernel
theorem d_MS_init_80 : decode (a_cc M_MS_init) 80 = .ok (.dup, 1) := by decide +kernel
theorem d_MS_init_81 : decode (a_cc M_MS_init) 81 = .ok (.iload_n 1, 1) := by decide +kernel
theorem d_MS_init_82 : decode (a_cc M_MS_init) 82 = .ok (.invokespecial 28, 3) := by decide +kernel
theorem d_MS_init_85 : decode (a_cc M_MS_init) 85 = .ok (.aastore, 1) := by decide +kernel
theorem d_MS_init_86 : decode (a_cc M_MS_init) 86 = .ok (.iinc 1 1, 3) := by decide +kernel
theorem d_MS_init_89 : decode (a_cc M_MS_init) 89 = .ok (.goto (-22), 3) := by decide +kernel
theorem d_MS_init_92 : decode (a_cc M_MS_init) 92 = .ok (.new 29, 3) := by decide +kernel
theorem d_MS_init_95 : decode (a_cc M_MS_init) 95 = .ok (.dup, 1) := by decide +kernel
theorem d_MS_init_96 : decode (a_cc M_MS_init) 96 = .ok (.invokespecial 31, 3) := by decide +kernel
theorem d_MS_init_99 : decode (a_cc M_MS_init) 99 = .ok (.astore_n 1, 1) := by decide +kernel
theorem d_MS_init_100 : decode (a_cc M_MS_init) 100 = .ok (.aload_n 0, 1) := by decide +kernel
theorem d_MS_init_101 : decode (a_cc M_MS_init) 101 = .ok (.new 32, 3) := by decide +kernel
theorem d_MS_init_104 : decode (a_cc M_MS_init) 104 = .ok (.dup, 1) := by decide +kernel
theorem d_MS_init_105 : decode (a_cc M_MS_init) 105 = .ok (.aload_n 1, 1) := by decide +kernel
theorem d_MS_init_106 : decode (a_cc M_MS_init) 106 = .ok (.invokespecial 34, 3) := by decide +kernel
theorem d_MS_init_109 : decode (a_cc M_MS_init) 109 = .ok (.putfield 37, 3) := by decide +kernel
theorem d_MS_init_112 : decode (a_cc M_MS_init) 112 = .ok (.aload_n 0, 1) := by decide +kernel
theorem d_MS_init_113 : decode (a_cc M_MS_init) 113 = .ok (.new 41, 3) := by decide +kernel
theorem d_MS_init_116 : decode (a_cc M_MS_init) 116 = .ok (.dup, 1) := by decide +kernel
theorem d_MS_init_117 : decode (a_cc M_MS_init) 117 = .ok (.aload_n 1, 1) := by decide +kernel
theorem d_MS_init_118 : decode (a_cc M_MS_init) 118 = .ok (.invokespecial 43, 3) := by decide +kernel
theorem d_MS_init_121 : decode (a_cc M_MS_init) 121 = .ok (.putfield 44, 3) := by decide +kernel
theorem d_MS_init_124 : decode (a_cc M_MS_init) 124 = .ok (.aload_n 0, 1) := by decide +kernel
theorem d_MS_init_125 : decode (a_cc M_MS_init) 125 = .ok (.new 48, 3) := by decide +kernel
theorem d_MS_init_128 : decode (a_cc M_MS_init) 128 = .ok (.dup, 1) := by decide +kernel
theorem d_MS_init_129 : decode (a_cc M_MS_init) 129 = .ok (.aload_n 1, 1) := by decide +kernel
theorem d_MS_init_130 : decode (a_cc M_MS_init) 130 = .ok (.invokespecial 50, 3) := by decide +kernel
theorem d_MS_init_133 : decode (a_cc M_MS_init) 133 = .ok (.putfield 51, 3) := by decide +kernel
theorem d_MS_init_136 : decode (a_cc M_MS_init) 136 = .ok (.return_, 1) := by decide +kernel
theorem ml_MS_1 : Cond.methodLink "ModuleSigner" 1 Lib.objectInit ∈ lw_tbl := List.mem_append_right _ (List.mem_of_getElem? (i := 27) (by decide +kernel))
theorem nw_MS_9 : Cond.classLink "ModuleSigner" 9 "ModuleSigner$Bytes" ∈ lw_tbl := List.mem_append_right _ (List.mem_of_getElem? (i := 30) (by decide +kernel))
theorem fd_MS_11 : a_Fd "ModuleSigner" 11 0 0 2 := ⟨by decide, by decide, rfl, List.mem_append_right _ (List.mem_of_getElem? (i := 355) (by decide +kernel))⟩
theorem cs_MS_init_33 : a_CI M_MS_init M_By_init 15 2 3 1 := ⟨⟨ok_By_init, by decide, by decide, by decide⟩, rfl, rfl, List.mem_append_right _ (List.mem_of_getElem? (i := 35) (by decide +kernel)), List.mem_append_right _ (List.mem_of_getElem? (i := 33) (by decide +kernel)), List.mem_append_right _ (List.mem_of_getElem? (i := 34) (by decide +kernel)), by decide +kernel⟩
theorem cs_MS_init_51 : a_CI M_MS_init M_By_init 15 2 2 1 := ⟨⟨ok_By_init, by decide, by decide, by decide⟩, rfl, rfl, List.mem_append_right _ (List.mem_of_getElem? (i := 35) (by decide +kernel)), List.mem_append_right _ (List.mem_of_getElem? (i := 33) (by decide +kernel)), List.mem_append_right _ (List.mem_of_getElem? (i := 34) (by decide +kernel)), by decide +kernel⟩
theorem fd_MS_18 : a_Fd "ModuleSigner" 18 0 1 2 := ⟨by decide, by decide, rfl, List.mem_append_right _ (List.mem_of_getElem? (i := 356) (by decide +kernel))⟩
theorem nw_MS_22 : Cond.classLink "ModuleSigner" 22 "ModuleSigner$Parameters" ∈ lw_tbl := List.mem_append_right _ (List.mem_of_getElem? (i := 52) (by decide +kernel))
theorem fd_MS_24 : a_Fd "ModuleSigner" 24 0 2 2 := ⟨by decide, by decide, rfl, List.mem_append_right _ (List.mem_of_getElem? (i := 357) (by decide +kernel))⟩
theorem cs_MS_init_82 : a_CI M_MS_init M_Pa_init 28 2 3 1 := ⟨⟨ok_Pa_init, by decide, by decide, by decide⟩, rfl, rfl, List.mem_append_right _ (List.mem_of_getElem? (i := 57) (by decide +kernel)), List.mem_append_right _ (List.mem_of_getElem? (i := 55) (by decide +kernel)), List.mem_append_right _ (List.mem_of_getElem? (i := 56) (by decide +kernel)), by decide +kernel⟩
theorem nw_MS_29 : Cond.classLink "ModuleSigner" 29 (a_cn 3) ∈ lw_tbl := List.mem_append_right _ (List.mem_of_getElem? (i := 162) (by decide +kernel))
theorem cs_MS_init_96 : a_CN M_MS_init M_Be_init 31 1 1 0 := ⟨⟨ok_Be_init, by decide, by decide, by decide⟩, rfl, rfl, List.mem_append_right _ (List.mem_of_getElem? (i := 166) (by decide +kernel)), List.mem_append_right _ (List.mem_of_getElem? (i := 164) (by decide +kernel)), List.mem_append_right _ (List.mem_of_getElem? (i := 165) (by decide +kernel)), by decide +kernel⟩
theorem nw_MS_32 : Cond.classLink "ModuleSigner" 32 (a_cn 4) ∈ lw_tbl := List.mem_append_right _ (List.mem_of_getElem? (i := 294) (by decide +kernel))
theorem cs_MS_init_106 : a_CI M_MS_init M_KM_init 34 2 2 1 := ⟨⟨ok_KM_init, by decide, by decide, by decide⟩, rfl, rfl, List.mem_append_right _ (List.mem_of_getElem? (i := 298) (by decide +kernel)), List.mem_append_right _ (List.mem_of_getElem? (i := 296) (by decide +kernel)), List.mem_append_right _ (List.mem_of_getElem? (i := 297) (by decide +kernel)), by decide +kernel⟩
theorem fd_MS_37 : a_Fd "ModuleSigner" 37 0 3 2 := ⟨by decide, by decide, rfl, List.mem_append_right _ (List.mem_of_getElem? (i := 358) (by decide +kernel))⟩
theorem nw_MS_41 : Cond.classLink "ModuleSigner" 41 (a_cn 5) ∈ lw_tbl := List.mem_append_right _ (List.mem_of_getElem? (i := 309) (by decide +kernel))
theorem cs_MS_init_118 : a_CI M_MS_init M_Si_init 43 2 2 1 := ⟨⟨ok_Si_init, by decide, by decide, by decide⟩, rfl, rfl, List.mem_append_right _ (List.mem_of_getElem? (i := 313) (by decide +kernel)), List.mem_append_right _ (List.mem_of_getElem? (i := 311) (by decide +kernel)), List.mem_append_right _ (List.mem_of_getElem? (i := 312) (by decide +kernel)), by decide +kernel⟩
theorem fd_MS_44 : a_Fd "ModuleSigner" 44 0 4 2 := ⟨by decide, by decide, rfl, List.mem_append_right _ (List.mem_of_getElem? (i := 359) (by decide +kernel))⟩
theorem nw_MS_48 : Cond.classLink "ModuleSigner" 48 (a_cn 6) ∈ lw_tbl := List.mem_append_right _ (List.mem_of_getElem? (i := 337) (by decide +kernel))
theorem cs_MS_init_130 : a_CI M_MS_init M_Ve_init 50 2 2 1 := ⟨⟨ok_Ve_init, by decide, by decide, by decide⟩, rfl, rfl, List.mem_append_right _ (List.mem_of_getElem? (i := 341) (by decide +kernel)), List.mem_append_right _ (List.mem_of_getElem? (i := 339) (by decide +kernel)), List.mem_append_right _ (List.mem_of_getElem? (i := 340) (by decide +kernel)), by decide +kernel⟩
theorem fd_MS_51 : a_Fd "ModuleSigner" 51 0 5 2 := ⟨by decide, by decide, rfl, List.mem_append_right _ (List.mem_of_getElem? (i := 360) (by decide +kernel))⟩
def M_Mo_prime : a_M := (⟨"ModuleSignerModel", "prime", "(I)Z"⟩, prog_12_method_16_code, 2, some .boolean, "ModuleSignerModel", 0, 0, [])
theorem ok_Mo_prime : a_Ok M_Mo_prime := ⟨rfl, by decide +kernel, ⟨by decide, by decide⟩, List.mem_append_right _ (List.mem_of_getElem? (i := 11) (by decide +kernel)), Or.inl ⟨rfl, List.mem_append_right _ (List.mem_of_getElem? (i := 1029) (by decide +kernel))⟩⟩
theorem d_Mo_prime_0 : decode (a_cc M_Mo_prime) 0 = .ok (.iconst 2, 1) := by decide +kernel
theorem d_Mo_prime_1 : decode (a_cc M_Mo_prime) 1 = .ok (.istore_n 1, 1) := by decide +kernel
theorem d_Mo_prime_2 : decode (a_cc M_Mo_prime) 2 = .ok (.iload_n 1, 1) := by decide +kernel
theorem d_Mo_prime_3 : decode (a_cc M_Mo_prime) 3 = .ok (.iload_n 1, 1) := by decide +kernel
theorem d_Mo_prime_4 : decode (a_cc M_Mo_prime) 4 = .ok (.imul, 1) := by decide +kernel
theorem d_Mo_prime_5 : decode (a_cc M_Mo_prime) 5 = .ok (.iload_n 0, 1) := by decide +kernel
theorem d_Mo_prime_6 : decode (a_cc M_Mo_prime) 6 = .ok (.if_icmp .gt 17, 3) := by decide +kernel
theorem d_Mo_prime_9 : decode (a_cc M_Mo_prime) 9 = .ok (.iload_n 0, 1) := by decide +kernel
theorem d_Mo_prime_10 : decode (a_cc M_Mo_prime) 10 = .ok (.iload_n 1, 1) := by decide +kernel
theorem d_Mo_prime_11 : decode (a_cc M_Mo_prime) 11 = .ok (.irem, 1) := by decide +kernel
theorem d_Mo_prime_12 : decode (a_cc M_Mo_prime) 12 = .ok (.ifCond .ne 5, 3) := by decide +kernel
theorem d_Mo_prime_15 : decode (a_cc M_Mo_prime) 15 = .ok (.iconst 0, 1) := by decide +kernel
theorem d_Mo_prime_16 : decode (a_cc M_Mo_prime) 16 = .ok (.ireturn, 1) := by decide +kernel
theorem d_Mo_prime_17 : decode (a_cc M_Mo_prime) 17 = .ok (.iinc 1 1, 3) := by decide +kernel
theorem d_Mo_prime_20 : decode (a_cc M_Mo_prime) 20 = .ok (.goto (-18), 3) := by decide +kernel
theorem d_Mo_prime_23 : decode (a_cc M_Mo_prime) 23 = .ok (.iconst 1, 1) := by decide +kernel
theorem d_Mo_prime_24 : decode (a_cc M_Mo_prime) 24 = .ok (.ireturn, 1) := by decide +kernel
def M_Mo_above : a_M := (⟨"ModuleSignerModel", "above", "(IJII)Z"⟩, prog_12_method_17_code, 10, some .boolean, "ModuleSignerModel", 0, 0, [])
theorem ok_Mo_above : a_Ok M_Mo_above := ⟨rfl, by decide +kernel, ⟨by decide, by decide⟩, List.mem_append_right _ (List.mem_of_getElem? (i := 11) (by decide +kernel)), Or.inl ⟨rfl, List.mem_append_right _ (List.mem_of_getElem? (i := 1037) (by decide +kernel))⟩⟩
theorem d_Mo_above_0 : decode (a_cc M_Mo_above) 0 = .ok (.iconst 0, 1) := by decide +kernel
theorem d_Mo_above_1 : decode (a_cc M_Mo_above) 1 = .ok (.istore 6, 2) := by decide +kernel
theorem d_Mo_above_3 : decode (a_cc M_Mo_above) 3 = .ok (.iload 6, 2) := by decide +kernel
theorem d_Mo_above_5 : decode (a_cc M_Mo_above) 5 = .ok (.bipush 16, 2) := by decide +kernel
theorem d_Mo_above_7 : decode (a_cc M_Mo_above) 7 = .ok (.if_icmp .ge 26, 3) := by decide +kernel
theorem d_Mo_above_10 : decode (a_cc M_Mo_above) 10 = .ok (.aload_n 0, 1) := by decide +kernel
theorem d_Mo_above_11 : decode (a_cc M_Mo_above) 11 = .ok (.getfield 38, 3) := by decide +kernel
theorem d_Mo_above_14 : decode (a_cc M_Mo_above) 14 = .ok (.iload 6, 2) := by decide +kernel
theorem d_Mo_above_16 : decode (a_cc M_Mo_above) 16 = .ok (.iload 6, 2) := by decide +kernel
theorem d_Mo_above_18 : decode (a_cc M_Mo_above) 18 = .ok (.ifCond .ne 7, 3) := by decide +kernel
theorem d_Mo_above_21 : decode (a_cc M_Mo_above) 21 = .ok (.lconst 1, 1) := by decide +kernel
theorem d_Mo_above_22 : decode (a_cc M_Mo_above) 22 = .ok (.goto 4, 3) := by decide +kernel
theorem d_Mo_above_25 : decode (a_cc M_Mo_above) 25 = .ok (.lconst 0, 1) := by decide +kernel
theorem d_Mo_above_26 : decode (a_cc M_Mo_above) 26 = .ok (.lastore, 1) := by decide +kernel
theorem d_Mo_above_27 : decode (a_cc M_Mo_above) 27 = .ok (.iinc 6 1, 3) := by decide +kernel
theorem d_Mo_above_30 : decode (a_cc M_Mo_above) 30 = .ok (.goto (-27), 3) := by decide +kernel
theorem d_Mo_above_33 : decode (a_cc M_Mo_above) 33 = .ok (.iconst 0, 1) := by decide +kernel
theorem d_Mo_above_34 : decode (a_cc M_Mo_above) 34 = .ok (.istore 6, 2) := by decide +kernel
theorem d_Mo_above_36 : decode (a_cc M_Mo_above) 36 = .ok (.iload 6, 2) := by decide +kernel
theorem d_Mo_above_38 : decode (a_cc M_Mo_above) 38 = .ok (.iload 4, 2) := by decide +kernel
theorem d_Mo_above_40 : decode (a_cc M_Mo_above) 40 = .ok (.if_icmp .ge 168, 3) := by decide +kernel
theorem d_Mo_above_43 : decode (a_cc M_Mo_above) 43 = .ok (.iconst 0, 1) := by decide +kernel
theorem d_Mo_above_44 : decode (a_cc M_Mo_above) 44 = .ok (.istore 7, 2) := by decide +kernel
theorem d_Mo_above_46 : decode (a_cc M_Mo_above) 46 = .ok (.iload 7, 2) := by decide +kernel
theorem d_Mo_above_48 : decode (a_cc M_Mo_above) 48 = .ok (.bipush 16, 2) := by decide +kernel
theorem d_Mo_above_50 : decode (a_cc M_Mo_above) 50 = .ok (.if_icmp .ge 17, 3) := by decide +kernel
theorem d_Mo_above_53 : decode (a_cc M_Mo_above) 53 = .ok (.aload_n 0, 1) := by decide +kernel
theorem d_Mo_above_54 : decode (a_cc M_Mo_above) 54 = .ok (.getfield 35, 3) := by decide +kernel
theorem d_Mo_above_57 : decode (a_cc M_Mo_above) 57 = .ok (.iload 7, 2) := by decide +kernel
theorem d_Mo_above_59 : decode (a_cc M_Mo_above) 59 = .ok (.lconst 0, 1) := by decide +kernel
theorem d_Mo_above_60 : decode (a_cc M_Mo_above) 60 = .ok (.lastore, 1) := by decide +kernel
theorem d_Mo_above_61 : decode (a_cc M_Mo_above) 61 = .ok (.iinc 7 1, 3) := by decide +kernel
theorem d_Mo_above_64 : decode (a_cc M_Mo_above) 64 = .ok (.goto (-18), 3) := by decide +kernel
theorem d_Mo_above_67 : decode (a_cc M_Mo_above) 67 = .ok (.iconst 0, 1) := by decide +kernel
theorem d_Mo_above_68 : decode (a_cc M_Mo_above) 68 = .ok (.istore 7, 2) := by decide +kernel
theorem d_Mo_above_70 : decode (a_cc M_Mo_above) 70 = .ok (.iload 7, 2) := by decide +kernel
theorem d_Mo_above_72 : decode (a_cc M_Mo_above) 72 = .ok (.bipush 16, 2) := by decide +kernel
theorem d_Mo_above_74 : decode (a_cc M_Mo_above) 74 = .ok (.if_icmp .ge 77, 3) := by decide +kernel
theorem d_Mo_above_77 : decode (a_cc M_Mo_above) 77 = .ok (.iconst 0, 1) := by decide +kernel
theorem d_Mo_above_78 : decode (a_cc M_Mo_above) 78 = .ok (.istore 8, 2) := by decide +kernel
theorem d_Mo_above_80 : decode (a_cc M_Mo_above) 80 = .ok (.iload 8, 2) := by decide +kernel
theorem d_Mo_above_82 : decode (a_cc M_Mo_above) 82 = .ok (.iconst 5, 1) := by decide +kernel
theorem d_Mo_above_83 : decode (a_cc M_Mo_above) 83 = .ok (.if_icmp .ge 62, 3) := by decide +kernel
theorem d_Mo_above_86 : decode (a_cc M_Mo_above) 86 = .ok (.iload 7, 2) := by decide +kernel
theorem d_Mo_above_88 : decode (a_cc M_Mo_above) 88 = .ok (.iload 8, 2) := by decide +kernel
theorem d_Mo_above_90 : decode (a_cc M_Mo_above) 90 = .ok (.iadd, 1) := by decide +kernel
theorem d_Mo_above_91 : decode (a_cc M_Mo_above) 91 = .ok (.bipush 16, 2) := by decide +kernel
theorem d_Mo_above_93 : decode (a_cc M_Mo_above) 93 = .ok (.if_icmp .ge 52, 3) := by decide +kernel
theorem d_Mo_above_96 : decode (a_cc M_Mo_above) 96 = .ok (.aload_n 0, 1) := by decide +kernel
theorem d_Mo_above_97 : decode (a_cc M_Mo_above) 97 = .ok (.getfield 35, 3) := by decide +kernel
theorem d_Mo_above_100 : decode (a_cc M_Mo_above) 100 = .ok (.iload 7, 2) := by decide +kernel
theorem d_Mo_above_102 : decode (a_cc M_Mo_above) 102 = .ok (.iload 8, 2) := by decide +kernel
theorem d_Mo_above_104 : decode (a_cc M_Mo_above) 104 = .ok (.iadd, 1) := by decide +kernel
theorem d_Mo_above_105 : decode (a_cc M_Mo_above) 105 = .ok (.dup2, 1) := by decide +kernel
theorem d_Mo_above_106 : decode (a_cc M_Mo_above) 106 = .ok (.laload, 1) := by decide +kernel
theorem d_Mo_above_107 : decode (a_cc M_Mo_above) 107 = .ok (.aload_n 0, 1) := by decide +kernel
theorem d_Mo_above_108 : decode (a_cc M_Mo_above) 108 = .ok (.getfield 38, 3) := by decide +kernel
theorem d_Mo_above_111 : decode (a_cc M_Mo_above) 111 = .ok (.iload 7, 2) := by decide +kernel
theorem d_Mo_above_113 : decode (a_cc M_Mo_above) 113 = .ok (.laload, 1) := by decide +kernel
theorem d_Mo_above_114 : decode (a_cc M_Mo_above) 114 = .ok (.iload 8, 2) := by decide +kernel
theorem d_Mo_above_116 : decode (a_cc M_Mo_above) 116 = .ok (.iconst 4, 1) := by decide +kernel
theorem d_Mo_above_117 : decode (a_cc M_Mo_above) 117 = .ok (.if_icmp .ge 17, 3) := by decide +kernel
theorem d_Mo_above_120 : decode (a_cc M_Mo_above) 120 = .ok (.lload_n 2, 1) := by decide +kernel
theorem d_Mo_above_121 : decode (a_cc M_Mo_above) 121 = .ok (.bipush 16, 2) := by decide +kernel
theorem d_Mo_above_123 : decode (a_cc M_Mo_above) 123 = .ok (.iload 8, 2) := by decide +kernel
theorem d_Mo_above_125 : decode (a_cc M_Mo_above) 125 = .ok (.imul, 1) := by decide +kernel
theorem d_Mo_above_126 : decode (a_cc M_Mo_above) 126 = .ok (.lushr, 1) := by decide +kernel
theorem d_Mo_above_127 : decode (a_cc M_Mo_above) 127 = .ok (.ldc2_w 126, 3) := by decide +kernel
theorem d_Mo_above_130 : decode (a_cc M_Mo_above) 130 = .ok (.land, 1) := by decide +kernel
theorem d_Mo_above_131 : decode (a_cc M_Mo_above) 131 = .ok (.goto 5, 3) := by decide +kernel
theorem d_Mo_above_134 : decode (a_cc M_Mo_above) 134 = .ok (.iload_n 1, 1) := by decide +kernel
theorem d_Mo_above_135 : decode (a_cc M_Mo_above) 135 = .ok (.i2l, 1) := by decide +kernel
theorem d_Mo_above_136 : decode (a_cc M_Mo_above) 136 = .ok (.lmul, 1) := by decide +kernel
theorem d_Mo_above_137 : decode (a_cc M_Mo_above) 137 = .ok (.ladd, 1) := by decide +kernel
theorem d_Mo_above_138 : decode (a_cc M_Mo_above) 138 = .ok (.lastore, 1) := by decide +kernel
theorem d_Mo_above_139 : decode (a_cc M_Mo_above) 139 = .ok (.iinc 8 1, 3) := by decide +kernel
theorem d_Mo_above_142 : decode (a_cc M_Mo_above) 142 = .ok (.goto (-62), 3) := by decide +kernel
theorem d_Mo_above_145 : decode (a_cc M_Mo_above) 145 = .ok (.iinc 7 1, 3) := by decide +kernel
theorem d_Mo_above_148 : decode (a_cc M_Mo_above) 148 = .ok (.goto (-78), 3) := by decide +kernel
theorem d_Mo_above_151 : decode (a_cc M_Mo_above) 151 = .ok (.lconst 0, 1) := by decide +kernel
theorem d_Mo_above_152 : decode (a_cc M_Mo_above) 152 = .ok (.lstore 7, 2) := by decide +kernel
theorem d_Mo_above_154 : decode (a_cc M_Mo_above) 154 = .ok (.iconst 0, 1) := by decide +kernel
theorem d_Mo_above_155 : decode (a_cc M_Mo_above) 155 = .ok (.istore 9, 2) := by decide +kernel
theorem d_Mo_above_157 : decode (a_cc M_Mo_above) 157 = .ok (.iload 9, 2) := by decide +kernel
theorem d_Mo_above_159 : decode (a_cc M_Mo_above) 159 = .ok (.bipush 16, 2) := by decide +kernel
theorem d_Mo_above_161 : decode (a_cc M_Mo_above) 161 = .ok (.if_icmp .ge 41, 3) := by decide +kernel
theorem d_Mo_above_164 : decode (a_cc M_Mo_above) 164 = .ok (.lload 7, 2) := by decide +kernel
theorem d_Mo_above_166 : decode (a_cc M_Mo_above) 166 = .ok (.aload_n 0, 1) := by decide +kernel
theorem d_Mo_above_167 : decode (a_cc M_Mo_above) 167 = .ok (.getfield 35, 3) := by decide +kernel
theorem d_Mo_above_170 : decode (a_cc M_Mo_above) 170 = .ok (.iload 9, 2) := by decide +kernel
theorem d_Mo_above_172 : decode (a_cc M_Mo_above) 172 = .ok (.laload, 1) := by decide +kernel
theorem d_Mo_above_173 : decode (a_cc M_Mo_above) 173 = .ok (.ladd, 1) := by decide +kernel
theorem d_Mo_above_174 : decode (a_cc M_Mo_above) 174 = .ok (.lstore 7, 2) := by decide +kernel
theorem d_Mo_above_176 : decode (a_cc M_Mo_above) 176 = .ok (.aload_n 0, 1) := by decide +kernel
theorem d_Mo_above_177 : decode (a_cc M_Mo_above) 177 = .ok (.getfield 38, 3) := by decide +kernel
theorem d_Mo_above_180 : decode (a_cc M_Mo_above) 180 = .ok (.iload 9, 2) := by decide +kernel
theorem d_Mo_above_182 : decode (a_cc M_Mo_above) 182 = .ok (.lload 7, 2) := by decide +kernel
theorem d_Mo_above_184 : decode (a_cc M_Mo_above) 184 = .ok (.ldc2_w 126, 3) := by decide +kernel
theorem d_Mo_above_187 : decode (a_cc M_Mo_above) 187 = .ok (.land, 1) := by decide +kernel
theorem d_Mo_above_188 : decode (a_cc M_Mo_above) 188 = .ok (.lastore, 1) := by decide +kernel
theorem d_Mo_above_189 : decode (a_cc M_Mo_above) 189 = .ok (.lload 7, 2) := by decide +kernel
theorem d_Mo_above_191 : decode (a_cc M_Mo_above) 191 = .ok (.bipush 16, 2) := by decide +kernel
theorem d_Mo_above_193 : decode (a_cc M_Mo_above) 193 = .ok (.lushr, 1) := by decide +kernel
theorem d_Mo_above_194 : decode (a_cc M_Mo_above) 194 = .ok (.lstore 7, 2) := by decide +kernel
theorem d_Mo_above_196 : decode (a_cc M_Mo_above) 196 = .ok (.iinc 9 1, 3) := by decide +kernel
theorem d_Mo_above_199 : decode (a_cc M_Mo_above) 199 = .ok (.goto (-42), 3) := by decide +kernel
theorem d_Mo_above_202 : decode (a_cc M_Mo_above) 202 = .ok (.iinc 6 1, 3) := by decide +kernel
theorem d_Mo_above_205 : decode (a_cc M_Mo_above) 205 = .ok (.goto (-169), 3) := by decide +kernel
theorem d_Mo_above_208 : decode (a_cc M_Mo_above) 208 = .ok (.aload_n 0, 1) := by decide +kernel
theorem d_Mo_above_209 : decode (a_cc M_Mo_above) 209 = .ok (.getfield 38, 3) := by decide +kernel
theorem d_Mo_above_212 : decode (a_cc M_Mo_above) 212 = .ok (.iconst 4, 1) := by decide +kernel
theorem d_Mo_above_213 : decode (a_cc M_Mo_above) 213 = .ok (.iload 4, 2) := by decide +kernel
theorem d_Mo_above_215 : decode (a_cc M_Mo_above) 215 = .ok (.imul, 1) := by decide +kernel
theorem d_Mo_above_216 : decode (a_cc M_Mo_above) 216 = .ok (.laload, 1) := by decide +kernel
theorem d_Mo_above_217 : decode (a_cc M_Mo_above) 217 = .ok (.aload_n 0, 1) := by decide +kernel
theorem d_Mo_above_218 : decode (a_cc M_Mo_above) 218 = .ok (.getfield 38, 3) := by decide +kernel
theorem d_Mo_above_221 : decode (a_cc M_Mo_above) 221 = .ok (.iconst 4, 1) := by decide +kernel
theorem d_Mo_above_222 : decode (a_cc M_Mo_above) 222 = .ok (.iload 4, 2) := by decide +kernel
theorem d_Mo_above_224 : decode (a_cc M_Mo_above) 224 = .ok (.imul, 1) := by decide +kernel
theorem d_Mo_above_225 : decode (a_cc M_Mo_above) 225 = .ok (.iconst 1, 1) := by decide +kernel
theorem d_Mo_above_226 : decode (a_cc M_Mo_above) 226 = .ok (.iadd, 1) := by decide +kernel
theorem d_Mo_above_227 : decode (a_cc M_Mo_above) 227 = .ok (.laload, 1) := by decide +kernel
theorem d_Mo_above_228 : decode (a_cc M_Mo_above) 228 = .ok (.bipush 16, 2) := by decide +kernel
theorem d_Mo_above_230 : decode (a_cc M_Mo_above) 230 = .ok (.lshl, 1) := by decide +kernel
theorem d_Mo_above_231 : decode (a_cc M_Mo_above) 231 = .ok (.ladd, 1) := by decide +kernel
theorem d_Mo_above_232 : decode (a_cc M_Mo_above) 232 = .ok (.lstore 6, 2) := by decide +kernel
theorem d_Mo_above_234 : decode (a_cc M_Mo_above) 234 = .ok (.iconst 0, 1) := by decide +kernel
theorem d_Mo_above_235 : decode (a_cc M_Mo_above) 235 = .ok (.istore 8, 2) := by decide +kernel
theorem d_Mo_above_237 : decode (a_cc M_Mo_above) 237 = .ok (.iconst 0, 1) := by decide +kernel
theorem d_Mo_above_238 : decode (a_cc M_Mo_above) 238 = .ok (.istore 9, 2) := by decide +kernel
theorem d_Mo_above_240 : decode (a_cc M_Mo_above) 240 = .ok (.iload 9, 2) := by decide +kernel
theorem d_Mo_above_242 : decode (a_cc M_Mo_above) 242 = .ok (.iconst 4, 1) := by decide +kernel
theorem d_Mo_above_243 : decode (a_cc M_Mo_above) 243 = .ok (.iload 4, 2) := by decide +kernel
theorem d_Mo_above_245 : decode (a_cc M_Mo_above) 245 = .ok (.imul, 1) := by decide +kernel
theorem d_Mo_above_246 : decode (a_cc M_Mo_above) 246 = .ok (.if_icmp .ge 24, 3) := by decide +kernel
theorem d_Mo_above_249 : decode (a_cc M_Mo_above) 249 = .ok (.aload_n 0, 1) := by decide +kernel
theorem d_Mo_above_250 : decode (a_cc M_Mo_above) 250 = .ok (.getfield 38, 3) := by decide +kernel
theorem d_Mo_above_253 : decode (a_cc M_Mo_above) 253 = .ok (.iload 9, 2) := by decide +kernel
theorem d_Mo_above_255 : decode (a_cc M_Mo_above) 255 = .ok (.laload, 1) := by decide +kernel
theorem d_Mo_above_256 : decode (a_cc M_Mo_above) 256 = .ok (.lconst 0, 1) := by decide +kernel
theorem d_Mo_above_257 : decode (a_cc M_Mo_above) 257 = .ok (.lcmp, 1) := by decide +kernel
theorem d_Mo_above_258 : decode (a_cc M_Mo_above) 258 = .ok (.ifCond .eq 6, 3) := by decide +kernel
theorem d_Mo_above_261 : decode (a_cc M_Mo_above) 261 = .ok (.iconst 1, 1) := by decide +kernel
theorem d_Mo_above_262 : decode (a_cc M_Mo_above) 262 = .ok (.istore 8, 2) := by decide +kernel
theorem d_Mo_above_264 : decode (a_cc M_Mo_above) 264 = .ok (.iinc 9 1, 3) := by decide +kernel
theorem d_Mo_above_267 : decode (a_cc M_Mo_above) 267 = .ok (.goto (-27), 3) := by decide +kernel
theorem d_Mo_above_270 : decode (a_cc M_Mo_above) 270 = .ok (.lload 6, 2) := by decide +kernel
theorem d_Mo_above_272 : decode (a_cc M_Mo_above) 272 = .ok (.iload 5, 2) := by decide +kernel
theorem d_Mo_above_274 : decode (a_cc M_Mo_above) 274 = .ok (.i2l, 1) := by decide +kernel
theorem d_Mo_above_275 : decode (a_cc M_Mo_above) 275 = .ok (.lcmp, 1) := by decide +kernel
theorem d_Mo_above_276 : decode (a_cc M_Mo_above) 276 = .ok (.ifCond .gt 17, 3) := by decide +kernel
theorem d_Mo_above_279 : decode (a_cc M_Mo_above) 279 = .ok (.lload 6, 2) := by decide +kernel
theorem d_Mo_above_281 : decode (a_cc M_Mo_above) 281 = .ok (.iload 5, 2) := by decide +kernel
theorem d_Mo_above_283 : decode (a_cc M_Mo_above) 283 = .ok (.i2l, 1) := by decide +kernel
theorem d_Mo_above_284 : decode (a_cc M_Mo_above) 284 = .ok (.lcmp, 1) := by decide +kernel
theorem d_Mo_above_285 : decode (a_cc M_Mo_above) 285 = .ok (.ifCond .ne 12, 3) := by decide +kernel
theorem d_Mo_above_288 : decode (a_cc M_Mo_above) 288 = .ok (.iload 8, 2) := by decide +kernel
theorem d_Mo_above_290 : decode (a_cc M_Mo_above) 290 = .ok (.ifCond .eq 7, 3) := by decide +kernel
theorem d_Mo_above_293 : decode (a_cc M_Mo_above) 293 = .ok (.iconst 1, 1) := by decide +kernel
theorem d_Mo_above_294 : decode (a_cc M_Mo_above) 294 = .ok (.goto 4, 3) := by decide +kernel
theorem d_Mo_above_297 : decode (a_cc M_Mo_above) 297 = .ok (.iconst 0, 1) := by decide +kernel
theorem d_Mo_above_298 : decode (a_cc M_Mo_above) 298 = .ok (.ireturn, 1) := by decide +kernel
theorem fd_Mo_38 : a_Fd "ModuleSignerModel" 38 10 10 2 := ⟨by decide, by decide, rfl, List.mem_append_right _ (List.mem_of_getElem? (i := 1108) (by decide +kernel))⟩
theorem fd_Mo_35 : a_Fd "ModuleSignerModel" 35 10 9 2 := ⟨by decide, by decide, rfl, List.mem_append_right _ (List.mem_of_getElem? (i := 1107) (by decide +kernel))⟩
theorem lc_Mo_126 : Cond.constantLong "ModuleSignerModel" 126 (Int64.ofInt (65535)) ∈ lw_tbl := List.mem_append_right _ (List.mem_of_getElem? (i := 1038) (by decide +kernel))
def M_Mo_root : a_M := (⟨"ModuleSignerModel", "root", "(II)J"⟩, prog_12_method_18_code, 7, some .long, "ModuleSignerModel", 1, 21, [])
theorem ok_Mo_root : a_Ok M_Mo_root := ⟨rfl, by decide +kernel, ⟨by decide, by decide⟩, List.mem_append_right _ (List.mem_of_getElem? (i := 11) (by decide +kernel)), Or.inl ⟨rfl, List.mem_append_right _ (List.mem_of_getElem? (i := 1033) (by decide +kernel))⟩⟩
theorem d_Mo_root_0 : decode (a_cc M_Mo_root) 0 = .ok (.iconst 1, 1) := by decide +kernel
theorem d_Mo_root_1 : decode (a_cc M_Mo_root) 1 = .ok (.istore_n 3, 1) := by decide +kernel
theorem d_Mo_root_2 : decode (a_cc M_Mo_root) 2 = .ok (.aload_n 0, 1) := by decide +kernel
theorem d_Mo_root_3 : decode (a_cc M_Mo_root) 3 = .ok (.iload_n 3, 1) := by decide +kernel
theorem d_Mo_root_4 : decode (a_cc M_Mo_root) 4 = .ok (.iconst 1, 1) := by decide +kernel
theorem d_Mo_root_5 : decode (a_cc M_Mo_root) 5 = .ok (.iadd, 1) := by decide +kernel
theorem d_Mo_root_6 : decode (a_cc M_Mo_root) 6 = .ok (.lconst 0, 1) := by decide +kernel
theorem d_Mo_root_7 : decode (a_cc M_Mo_root) 7 = .ok (.iload_n 2, 1) := by decide +kernel
theorem d_Mo_root_8 : decode (a_cc M_Mo_root) 8 = .ok (.iload_n 1, 1) := by decide +kernel
theorem d_Mo_root_9 : decode (a_cc M_Mo_root) 9 = .ok (.invokevirtual 128, 3) := by decide +kernel
theorem d_Mo_root_12 : decode (a_cc M_Mo_root) 12 = .ok (.ifCond .ne 9, 3) := by decide +kernel
theorem d_Mo_root_15 : decode (a_cc M_Mo_root) 15 = .ok (.iinc 3 1, 3) := by decide +kernel
theorem d_Mo_root_18 : decode (a_cc M_Mo_root) 18 = .ok (.goto (-16), 3) := by decide +kernel
theorem d_Mo_root_21 : decode (a_cc M_Mo_root) 21 = .ok (.lconst 0, 1) := by decide +kernel
theorem d_Mo_root_22 : decode (a_cc M_Mo_root) 22 = .ok (.lstore 4, 2) := by decide +kernel
theorem d_Mo_root_24 : decode (a_cc M_Mo_root) 24 = .ok (.bipush 63, 2) := by decide +kernel
theorem d_Mo_root_26 : decode (a_cc M_Mo_root) 26 = .ok (.istore 6, 2) := by decide +kernel
theorem d_Mo_root_28 : decode (a_cc M_Mo_root) 28 = .ok (.iload 6, 2) := by decide +kernel
theorem d_Mo_root_30 : decode (a_cc M_Mo_root) 30 = .ok (.ifCond .lt 35, 3) := by decide +kernel
theorem d_Mo_root_33 : decode (a_cc M_Mo_root) 33 = .ok (.aload_n 0, 1) := by decide +kernel
theorem d_Mo_root_34 : decode (a_cc M_Mo_root) 34 = .ok (.iload_n 3, 1) := by decide +kernel
theorem d_Mo_root_35 : decode (a_cc M_Mo_root) 35 = .ok (.lload 4, 2) := by decide +kernel
theorem d_Mo_root_37 : decode (a_cc M_Mo_root) 37 = .ok (.lconst 1, 1) := by decide +kernel
theorem d_Mo_root_38 : decode (a_cc M_Mo_root) 38 = .ok (.iload 6, 2) := by decide +kernel
theorem d_Mo_root_40 : decode (a_cc M_Mo_root) 40 = .ok (.lshl, 1) := by decide +kernel
theorem d_Mo_root_41 : decode (a_cc M_Mo_root) 41 = .ok (.lor, 1) := by decide +kernel
theorem d_Mo_root_42 : decode (a_cc M_Mo_root) 42 = .ok (.iload_n 2, 1) := by decide +kernel
theorem d_Mo_root_43 : decode (a_cc M_Mo_root) 43 = .ok (.iload_n 1, 1) := by decide +kernel
theorem d_Mo_root_44 : decode (a_cc M_Mo_root) 44 = .ok (.invokevirtual 128, 3) := by decide +kernel
theorem d_Mo_root_47 : decode (a_cc M_Mo_root) 47 = .ok (.ifCond .ne 12, 3) := by decide +kernel
theorem d_Mo_root_50 : decode (a_cc M_Mo_root) 50 = .ok (.lload 4, 2) := by decide +kernel
theorem d_Mo_root_52 : decode (a_cc M_Mo_root) 52 = .ok (.lconst 1, 1) := by decide +kernel
theorem d_Mo_root_53 : decode (a_cc M_Mo_root) 53 = .ok (.iload 6, 2) := by decide +kernel
theorem d_Mo_root_55 : decode (a_cc M_Mo_root) 55 = .ok (.lshl, 1) := by decide +kernel
theorem d_Mo_root_56 : decode (a_cc M_Mo_root) 56 = .ok (.lor, 1) := by decide +kernel
theorem d_Mo_root_57 : decode (a_cc M_Mo_root) 57 = .ok (.lstore 4, 2) := by decide +kernel
theorem d_Mo_root_59 : decode (a_cc M_Mo_root) 59 = .ok (.iinc 6 (-1), 3) := by decide +kernel
theorem d_Mo_root_62 : decode (a_cc M_Mo_root) 62 = .ok (.goto (-34), 3) := by decide +kernel
theorem d_Mo_root_65 : decode (a_cc M_Mo_root) 65 = .ok (.lload 4, 2) := by decide +kernel
theorem d_Mo_root_67 : decode (a_cc M_Mo_root) 67 = .ok (.lreturn, 1) := by decide +kernel
theorem cs_Mo_root_9 : a_CV M_Mo_root M_Mo_above 128 10 6 0 4 := ⟨⟨ok_Mo_above, by decide, by decide, by decide⟩, by decide, rfl, List.mem_append_right _ (List.mem_of_getElem? (i := 1034) (by decide +kernel)), List.mem_append_right _ (List.mem_of_getElem? (i := 1036) (by decide +kernel)), List.mem_append_left _ (List.mem_of_getElem? (i := 31) (by decide +kernel)), by decide +kernel⟩
theorem cs_Mo_root_44 : a_CV M_Mo_root M_Mo_above 128 10 6 0 4 := ⟨⟨ok_Mo_above, by decide, by decide, by decide⟩, by decide, rfl, List.mem_append_right _ (List.mem_of_getElem? (i := 1034) (by decide +kernel)), List.mem_append_right _ (List.mem_of_getElem? (i := 1036) (by decide +kernel)), List.mem_append_left _ (List.mem_of_getElem? (i := 31) (by decide +kernel)), by decide +kernel⟩
def M_Mo_bit : a_M := (⟨"ModuleSignerModel", "bit", "(I)I"⟩, prog_12_method_20_code, 3, some .int, "ModuleSignerModel", 0, 0, [])
theorem ok_Mo_bit : a_Ok M_Mo_bit := ⟨rfl, by decide +kernel, ⟨by decide, by decide⟩, List.mem_append_right _ (List.mem_of_getElem? (i := 11) (by decide +kernel)), Or.inl ⟨rfl, List.mem_append_right _ (List.mem_of_getElem? (i := 1041) (by decide +kernel))⟩⟩
theorem d_Mo_bit_0 : decode (a_cc M_Mo_bit) 0 = .ok (.iconst 1, 1) := by decide +kernel
theorem d_Mo_bit_1 : decode (a_cc M_Mo_bit) 1 = .ok (.istore_n 1, 1) := by decide +kernel
theorem d_Mo_bit_2 : decode (a_cc M_Mo_bit) 2 = .ok (.iconst 0, 1) := by decide +kernel
theorem d_Mo_bit_3 : decode (a_cc M_Mo_bit) 3 = .ok (.istore_n 2, 1) := by decide +kernel
theorem d_Mo_bit_4 : decode (a_cc M_Mo_bit) 4 = .ok (.iload_n 2, 1) := by decide +kernel
theorem d_Mo_bit_5 : decode (a_cc M_Mo_bit) 5 = .ok (.iload_n 0, 1) := by decide +kernel
theorem d_Mo_bit_6 : decode (a_cc M_Mo_bit) 6 = .ok (.sipush 255, 3) := by decide +kernel
theorem d_Mo_bit_9 : decode (a_cc M_Mo_bit) 9 = .ok (.irem, 1) := by decide +kernel
theorem d_Mo_bit_10 : decode (a_cc M_Mo_bit) 10 = .ok (.if_icmp .ge 33, 3) := by decide +kernel
theorem d_Mo_bit_13 : decode (a_cc M_Mo_bit) 13 = .ok (.iload_n 1, 1) := by decide +kernel
theorem d_Mo_bit_14 : decode (a_cc M_Mo_bit) 14 = .ok (.sipush 128, 3) := by decide +kernel
theorem d_Mo_bit_17 : decode (a_cc M_Mo_bit) 17 = .ok (.if_icmp .ge 9, 3) := by decide +kernel
theorem d_Mo_bit_20 : decode (a_cc M_Mo_bit) 20 = .ok (.iconst 2, 1) := by decide +kernel
theorem d_Mo_bit_21 : decode (a_cc M_Mo_bit) 21 = .ok (.iload_n 1, 1) := by decide +kernel
theorem d_Mo_bit_22 : decode (a_cc M_Mo_bit) 22 = .ok (.imul, 1) := by decide +kernel
theorem d_Mo_bit_23 : decode (a_cc M_Mo_bit) 23 = .ok (.goto 13, 3) := by decide +kernel
theorem d_Mo_bit_26 : decode (a_cc M_Mo_bit) 26 = .ok (.iconst 2, 1) := by decide +kernel
theorem d_Mo_bit_27 : decode (a_cc M_Mo_bit) 27 = .ok (.iload_n 1, 1) := by decide +kernel
theorem d_Mo_bit_28 : decode (a_cc M_Mo_bit) 28 = .ok (.imul, 1) := by decide +kernel
theorem d_Mo_bit_29 : decode (a_cc M_Mo_bit) 29 = .ok (.sipush 255, 3) := by decide +kernel
theorem d_Mo_bit_32 : decode (a_cc M_Mo_bit) 32 = .ok (.iand, 1) := by decide +kernel
theorem d_Mo_bit_33 : decode (a_cc M_Mo_bit) 33 = .ok (.bipush 113, 2) := by decide +kernel
theorem d_Mo_bit_35 : decode (a_cc M_Mo_bit) 35 = .ok (.ixor, 1) := by decide +kernel
theorem d_Mo_bit_36 : decode (a_cc M_Mo_bit) 36 = .ok (.istore_n 1, 1) := by decide +kernel
theorem d_Mo_bit_37 : decode (a_cc M_Mo_bit) 37 = .ok (.iinc 2 1, 3) := by decide +kernel
theorem d_Mo_bit_40 : decode (a_cc M_Mo_bit) 40 = .ok (.goto (-36), 3) := by decide +kernel
theorem d_Mo_bit_43 : decode (a_cc M_Mo_bit) 43 = .ok (.iload_n 1, 1) := by decide +kernel
theorem d_Mo_bit_44 : decode (a_cc M_Mo_bit) 44 = .ok (.iconst 1, 1) := by decide +kernel
theorem d_Mo_bit_45 : decode (a_cc M_Mo_bit) 45 = .ok (.iand, 1) := by decide +kernel
theorem d_Mo_bit_46 : decode (a_cc M_Mo_bit) 46 = .ok (.ireturn, 1) := by decide +kernel
def M_Mo_digestOf : a_M := (⟨"ModuleSignerModel", "digestOf", "(I)I"⟩, prog_12_method_24_code, 1, some .int, "ModuleSignerModel", 0, 0, [])
theorem ok_Mo_digestOf : a_Ok M_Mo_digestOf := ⟨rfl, by decide +kernel, ⟨by decide, by decide⟩, List.mem_append_right _ (List.mem_of_getElem? (i := 11) (by decide +kernel)), Or.inl ⟨rfl, List.mem_append_right _ (List.mem_of_getElem? (i := 1052) (by decide +kernel))⟩⟩
theorem d_Mo_digestOf_0 : decode (a_cc M_Mo_digestOf) 0 = .ok (.iload_n 0, 1) := by decide +kernel
theorem d_Mo_digestOf_1 : decode (a_cc M_Mo_digestOf) 1 = .ok (.tableswitch 72 1 12 #[63, 66, 69, 72, 72, 63, 72, 63, 66, 69, 63, 69], 63) := by decide +kernel
theorem d_Mo_digestOf_64 : decode (a_cc M_Mo_digestOf) 64 = .ok (.bipush 32, 2) := by decide +kernel
theorem d_Mo_digestOf_66 : decode (a_cc M_Mo_digestOf) 66 = .ok (.ireturn, 1) := by decide +kernel
theorem d_Mo_digestOf_67 : decode (a_cc M_Mo_digestOf) 67 = .ok (.bipush 48, 2) := by decide +kernel
theorem d_Mo_digestOf_69 : decode (a_cc M_Mo_digestOf) 69 = .ok (.ireturn, 1) := by decide +kernel
theorem d_Mo_digestOf_70 : decode (a_cc M_Mo_digestOf) 70 = .ok (.bipush 64, 2) := by decide +kernel
theorem d_Mo_digestOf_72 : decode (a_cc M_Mo_digestOf) 72 = .ok (.ireturn, 1) := by decide +kernel
theorem d_Mo_digestOf_73 : decode (a_cc M_Mo_digestOf) 73 = .ok (.bipush 28, 2) := by decide +kernel
theorem d_Mo_digestOf_75 : decode (a_cc M_Mo_digestOf) 75 = .ok (.ireturn, 1) := by decide +kernel
def M_Mo_blockOf : a_M := (⟨"ModuleSignerModel", "blockOf", "(I)I"⟩, prog_12_method_23_code, 1, some .int, "ModuleSignerModel", 0, 0, [])
theorem ok_Mo_blockOf : a_Ok M_Mo_blockOf := ⟨rfl, by decide +kernel, ⟨by decide, by decide⟩, List.mem_append_right _ (List.mem_of_getElem? (i := 11) (by decide +kernel)), Or.inl ⟨rfl, List.mem_append_right _ (List.mem_of_getElem? (i := 1055) (by decide +kernel))⟩⟩
theorem d_Mo_blockOf_0 : decode (a_cc M_Mo_blockOf) 0 = .ok (.iload_n 0, 1) := by decide +kernel
theorem d_Mo_blockOf_1 : decode (a_cc M_Mo_blockOf) 1 = .ok (.iconst 1, 1) := by decide +kernel
theorem d_Mo_blockOf_2 : decode (a_cc M_Mo_blockOf) 2 = .ok (.if_icmp .eq 8, 3) := by decide +kernel
theorem d_Mo_blockOf_5 : decode (a_cc M_Mo_blockOf) 5 = .ok (.iload_n 0, 1) := by decide +kernel
theorem d_Mo_blockOf_6 : decode (a_cc M_Mo_blockOf) 6 = .ok (.iconst 4, 1) := by decide +kernel
theorem d_Mo_blockOf_7 : decode (a_cc M_Mo_blockOf) 7 = .ok (.if_icmp .ne 8, 3) := by decide +kernel
theorem d_Mo_blockOf_10 : decode (a_cc M_Mo_blockOf) 10 = .ok (.bipush 64, 2) := by decide +kernel
theorem d_Mo_blockOf_12 : decode (a_cc M_Mo_blockOf) 12 = .ok (.goto 6, 3) := by decide +kernel
theorem d_Mo_blockOf_15 : decode (a_cc M_Mo_blockOf) 15 = .ok (.sipush 128, 3) := by decide +kernel
theorem d_Mo_blockOf_18 : decode (a_cc M_Mo_blockOf) 18 = .ok (.ireturn, 1) := by decide +kernel
def M_Mo_begin : a_M := (⟨"ModuleSignerModel", "begin", "(I)V"⟩, prog_12_method_25_code, 3, none, "ModuleSignerModel", 1, 15, [])
theorem ok_Mo_begin : a_Ok M_Mo_begin := ⟨rfl, by decide +kernel, ⟨by decide, by decide⟩, List.mem_append_right _ (List.mem_of_getElem? (i := 11) (by decide +kernel)), Or.inl ⟨rfl, List.mem_append_right _ (List.mem_of_getElem? (i := 1049) (by decide +kernel))⟩⟩
theorem d_Mo_begin_0 : decode (a_cc M_Mo_begin) 0 = .ok (.aload_n 0, 1) := by decide +kernel
theorem d_Mo_begin_1 : decode (a_cc M_Mo_begin) 1 = .ok (.iload_n 1, 1) := by decide +kernel
theorem d_Mo_begin_2 : decode (a_cc M_Mo_begin) 2 = .ok (.putfield 159, 3) := by decide +kernel
theorem d_Mo_begin_5 : decode (a_cc M_Mo_begin) 5 = .ok (.aload_n 0, 1) := by decide +kernel
theorem d_Mo_begin_6 : decode (a_cc M_Mo_begin) 6 = .ok (.iconst 0, 1) := by decide +kernel
theorem d_Mo_begin_7 : decode (a_cc M_Mo_begin) 7 = .ok (.putfield 162, 3) := by decide +kernel
theorem d_Mo_begin_10 : decode (a_cc M_Mo_begin) 10 = .ok (.aload_n 0, 1) := by decide +kernel
theorem d_Mo_begin_11 : decode (a_cc M_Mo_begin) 11 = .ok (.lconst 0, 1) := by decide +kernel
theorem d_Mo_begin_12 : decode (a_cc M_Mo_begin) 12 = .ok (.putfield 165, 3) := by decide +kernel
theorem d_Mo_begin_15 : decode (a_cc M_Mo_begin) 15 = .ok (.iconst 0, 1) := by decide +kernel
theorem d_Mo_begin_16 : decode (a_cc M_Mo_begin) 16 = .ok (.istore_n 2, 1) := by decide +kernel
theorem d_Mo_begin_17 : decode (a_cc M_Mo_begin) 17 = .ok (.iload_n 2, 1) := by decide +kernel
theorem d_Mo_begin_18 : decode (a_cc M_Mo_begin) 18 = .ok (.bipush 25, 2) := by decide +kernel
theorem d_Mo_begin_20 : decode (a_cc M_Mo_begin) 20 = .ok (.if_icmp .ge 16, 3) := by decide +kernel
theorem d_Mo_begin_23 : decode (a_cc M_Mo_begin) 23 = .ok (.aload_n 0, 1) := by decide +kernel
theorem d_Mo_begin_24 : decode (a_cc M_Mo_begin) 24 = .ok (.getfield 47, 3) := by decide +kernel
theorem d_Mo_begin_27 : decode (a_cc M_Mo_begin) 27 = .ok (.iload_n 2, 1) := by decide +kernel
theorem d_Mo_begin_28 : decode (a_cc M_Mo_begin) 28 = .ok (.lconst 0, 1) := by decide +kernel
theorem d_Mo_begin_29 : decode (a_cc M_Mo_begin) 29 = .ok (.lastore, 1) := by decide +kernel
theorem d_Mo_begin_30 : decode (a_cc M_Mo_begin) 30 = .ok (.iinc 2 1, 3) := by decide +kernel
theorem d_Mo_begin_33 : decode (a_cc M_Mo_begin) 33 = .ok (.goto (-16), 3) := by decide +kernel
theorem d_Mo_begin_36 : decode (a_cc M_Mo_begin) 36 = .ok (.aload_n 0, 1) := by decide +kernel
theorem d_Mo_begin_37 : decode (a_cc M_Mo_begin) 37 = .ok (.iload_n 1, 1) := by decide +kernel
theorem d_Mo_begin_38 : decode (a_cc M_Mo_begin) 38 = .ok (.bipush 11, 2) := by decide +kernel
theorem d_Mo_begin_40 : decode (a_cc M_Mo_begin) 40 = .ok (.if_icmp .ne 9, 3) := by decide +kernel
theorem d_Mo_begin_43 : decode (a_cc M_Mo_begin) 43 = .ok (.sipush 168, 3) := by decide +kernel
theorem d_Mo_begin_46 : decode (a_cc M_Mo_begin) 46 = .ok (.goto 38, 3) := by decide +kernel
theorem d_Mo_begin_49 : decode (a_cc M_Mo_begin) 49 = .ok (.iload_n 1, 1) := by decide +kernel
theorem d_Mo_begin_50 : decode (a_cc M_Mo_begin) 50 = .ok (.bipush 12, 2) := by decide +kernel
theorem d_Mo_begin_52 : decode (a_cc M_Mo_begin) 52 = .ok (.if_icmp .ne 9, 3) := by decide +kernel
theorem d_Mo_begin_55 : decode (a_cc M_Mo_begin) 55 = .ok (.sipush 136, 3) := by decide +kernel
theorem d_Mo_begin_58 : decode (a_cc M_Mo_begin) 58 = .ok (.goto 26, 3) := by decide +kernel
theorem d_Mo_begin_61 : decode (a_cc M_Mo_begin) 61 = .ok (.iload_n 1, 1) := by decide +kernel
theorem d_Mo_begin_62 : decode (a_cc M_Mo_begin) 62 = .ok (.bipush 6, 2) := by decide +kernel
theorem d_Mo_begin_64 : decode (a_cc M_Mo_begin) 64 = .ok (.if_icmp .le 16, 3) := by decide +kernel
theorem d_Mo_begin_67 : decode (a_cc M_Mo_begin) 67 = .ok (.sipush 200, 3) := by decide +kernel
theorem d_Mo_begin_70 : decode (a_cc M_Mo_begin) 70 = .ok (.iconst 2, 1) := by decide +kernel
theorem d_Mo_begin_71 : decode (a_cc M_Mo_begin) 71 = .ok (.iload_n 1, 1) := by decide +kernel
theorem d_Mo_begin_72 : decode (a_cc M_Mo_begin) 72 = .ok (.invokestatic 169, 3) := by decide +kernel
theorem d_Mo_begin_75 : decode (a_cc M_Mo_begin) 75 = .ok (.imul, 1) := by decide +kernel
theorem d_Mo_begin_76 : decode (a_cc M_Mo_begin) 76 = .ok (.isub, 1) := by decide +kernel
theorem d_Mo_begin_77 : decode (a_cc M_Mo_begin) 77 = .ok (.goto 7, 3) := by decide +kernel
theorem d_Mo_begin_80 : decode (a_cc M_Mo_begin) 80 = .ok (.iload_n 1, 1) := by decide +kernel
theorem d_Mo_begin_81 : decode (a_cc M_Mo_begin) 81 = .ok (.invokestatic 172, 3) := by decide +kernel
theorem d_Mo_begin_84 : decode (a_cc M_Mo_begin) 84 = .ok (.putfield 175, 3) := by decide +kernel
theorem d_Mo_begin_87 : decode (a_cc M_Mo_begin) 87 = .ok (.iconst 0, 1) := by decide +kernel
theorem d_Mo_begin_88 : decode (a_cc M_Mo_begin) 88 = .ok (.istore_n 2, 1) := by decide +kernel
theorem d_Mo_begin_89 : decode (a_cc M_Mo_begin) 89 = .ok (.iload_n 2, 1) := by decide +kernel
theorem d_Mo_begin_90 : decode (a_cc M_Mo_begin) 90 = .ok (.bipush 8, 2) := by decide +kernel
theorem d_Mo_begin_92 : decode (a_cc M_Mo_begin) 92 = .ok (.if_icmp .ge 111, 3) := by decide +kernel
theorem d_Mo_begin_95 : decode (a_cc M_Mo_begin) 95 = .ok (.iload_n 1, 1) := by decide +kernel
theorem d_Mo_begin_96 : decode (a_cc M_Mo_begin) 96 = .ok (.bipush 7, 2) := by decide +kernel
theorem d_Mo_begin_98 : decode (a_cc M_Mo_begin) 98 = .ok (.if_icmp .ge 105, 3) := by decide +kernel
theorem d_Mo_begin_101 : decode (a_cc M_Mo_begin) 101 = .ok (.aload_n 0, 1) := by decide +kernel
theorem d_Mo_begin_102 : decode (a_cc M_Mo_begin) 102 = .ok (.getfield 47, 3) := by decide +kernel
theorem d_Mo_begin_105 : decode (a_cc M_Mo_begin) 105 = .ok (.iload_n 2, 1) := by decide +kernel
theorem d_Mo_begin_106 : decode (a_cc M_Mo_begin) 106 = .ok (.iload_n 1, 1) := by decide +kernel
theorem d_Mo_begin_107 : decode (a_cc M_Mo_begin) 107 = .ok (.iconst 1, 1) := by decide +kernel
theorem d_Mo_begin_108 : decode (a_cc M_Mo_begin) 108 = .ok (.if_icmp .ne 15, 3) := by decide +kernel
theorem d_Mo_begin_111 : decode (a_cc M_Mo_begin) 111 = .ok (.aload_n 0, 1) := by decide +kernel
theorem d_Mo_begin_112 : decode (a_cc M_Mo_begin) 112 = .ok (.getfield 22, 3) := by decide +kernel
theorem d_Mo_begin_115 : decode (a_cc M_Mo_begin) 115 = .ok (.iload_n 2, 1) := by decide +kernel
theorem d_Mo_begin_116 : decode (a_cc M_Mo_begin) 116 = .ok (.laload, 1) := by decide +kernel
theorem d_Mo_begin_117 : decode (a_cc M_Mo_begin) 117 = .ok (.bipush 32, 2) := by decide +kernel
theorem d_Mo_begin_119 : decode (a_cc M_Mo_begin) 119 = .ok (.lushr, 1) := by decide +kernel
theorem d_Mo_begin_120 : decode (a_cc M_Mo_begin) 120 = .ok (.goto 76, 3) := by decide +kernel
theorem d_Mo_begin_123 : decode (a_cc M_Mo_begin) 123 = .ok (.iload_n 1, 1) := by decide +kernel
theorem d_Mo_begin_124 : decode (a_cc M_Mo_begin) 124 = .ok (.iconst 4, 1) := by decide +kernel
theorem d_Mo_begin_125 : decode (a_cc M_Mo_begin) 125 = .ok (.if_icmp .ne 19, 3) := by decide +kernel
theorem d_Mo_begin_128 : decode (a_cc M_Mo_begin) 128 = .ok (.aload_n 0, 1) := by decide +kernel
theorem d_Mo_begin_129 : decode (a_cc M_Mo_begin) 129 = .ok (.getfield 22, 3) := by decide +kernel
theorem d_Mo_begin_132 : decode (a_cc M_Mo_begin) 132 = .ok (.bipush 8, 2) := by decide +kernel
theorem d_Mo_begin_134 : decode (a_cc M_Mo_begin) 134 = .ok (.iload_n 2, 1) := by decide +kernel
theorem d_Mo_begin_135 : decode (a_cc M_Mo_begin) 135 = .ok (.iadd, 1) := by decide +kernel
theorem d_Mo_begin_136 : decode (a_cc M_Mo_begin) 136 = .ok (.laload, 1) := by decide +kernel
theorem d_Mo_begin_137 : decode (a_cc M_Mo_begin) 137 = .ok (.ldc2_w 178, 3) := by decide +kernel
theorem d_Mo_begin_140 : decode (a_cc M_Mo_begin) 140 = .ok (.land, 1) := by decide +kernel
theorem d_Mo_begin_141 : decode (a_cc M_Mo_begin) 141 = .ok (.goto 55, 3) := by decide +kernel
theorem d_Mo_begin_144 : decode (a_cc M_Mo_begin) 144 = .ok (.iload_n 1, 1) := by decide +kernel
theorem d_Mo_begin_145 : decode (a_cc M_Mo_begin) 145 = .ok (.iconst 2, 1) := by decide +kernel
theorem d_Mo_begin_146 : decode (a_cc M_Mo_begin) 146 = .ok (.if_icmp .ne 15, 3) := by decide +kernel
theorem d_Mo_begin_149 : decode (a_cc M_Mo_begin) 149 = .ok (.aload_n 0, 1) := by decide +kernel
theorem d_Mo_begin_150 : decode (a_cc M_Mo_begin) 150 = .ok (.getfield 22, 3) := by decide +kernel
theorem d_Mo_begin_153 : decode (a_cc M_Mo_begin) 153 = .ok (.bipush 8, 2) := by decide +kernel
theorem d_Mo_begin_155 : decode (a_cc M_Mo_begin) 155 = .ok (.iload_n 2, 1) := by decide +kernel
theorem d_Mo_begin_156 : decode (a_cc M_Mo_begin) 156 = .ok (.iadd, 1) := by decide +kernel
theorem d_Mo_begin_157 : decode (a_cc M_Mo_begin) 157 = .ok (.laload, 1) := by decide +kernel
theorem d_Mo_begin_158 : decode (a_cc M_Mo_begin) 158 = .ok (.goto 38, 3) := by decide +kernel
theorem d_Mo_begin_161 : decode (a_cc M_Mo_begin) 161 = .ok (.iload_n 1, 1) := by decide +kernel
theorem d_Mo_begin_162 : decode (a_cc M_Mo_begin) 162 = .ok (.iconst 5, 1) := by decide +kernel
theorem d_Mo_begin_163 : decode (a_cc M_Mo_begin) 163 = .ok (.if_icmp .ne 12, 3) := by decide +kernel
theorem d_Mo_begin_166 : decode (a_cc M_Mo_begin) 166 = .ok (.aload_n 0, 1) := by decide +kernel
theorem d_Mo_begin_167 : decode (a_cc M_Mo_begin) 167 = .ok (.getfield 29, 3) := by decide +kernel
theorem d_Mo_begin_170 : decode (a_cc M_Mo_begin) 170 = .ok (.iload_n 2, 1) := by decide +kernel
theorem d_Mo_begin_171 : decode (a_cc M_Mo_begin) 171 = .ok (.laload, 1) := by decide +kernel
theorem d_Mo_begin_172 : decode (a_cc M_Mo_begin) 172 = .ok (.goto 24, 3) := by decide +kernel
theorem d_Mo_begin_175 : decode (a_cc M_Mo_begin) 175 = .ok (.iload_n 1, 1) := by decide +kernel
theorem d_Mo_begin_176 : decode (a_cc M_Mo_begin) 176 = .ok (.bipush 6, 2) := by decide +kernel
theorem d_Mo_begin_178 : decode (a_cc M_Mo_begin) 178 = .ok (.if_icmp .ne 12, 3) := by decide +kernel
theorem d_Mo_begin_181 : decode (a_cc M_Mo_begin) 181 = .ok (.aload_n 0, 1) := by decide +kernel
theorem d_Mo_begin_182 : decode (a_cc M_Mo_begin) 182 = .ok (.getfield 32, 3) := by decide +kernel
theorem d_Mo_begin_185 : decode (a_cc M_Mo_begin) 185 = .ok (.iload_n 2, 1) := by decide +kernel
theorem d_Mo_begin_186 : decode (a_cc M_Mo_begin) 186 = .ok (.laload, 1) := by decide +kernel
theorem d_Mo_begin_187 : decode (a_cc M_Mo_begin) 187 = .ok (.goto 9, 3) := by decide +kernel
theorem d_Mo_begin_190 : decode (a_cc M_Mo_begin) 190 = .ok (.aload_n 0, 1) := by decide +kernel
theorem d_Mo_begin_191 : decode (a_cc M_Mo_begin) 191 = .ok (.getfield 22, 3) := by decide +kernel
theorem d_Mo_begin_194 : decode (a_cc M_Mo_begin) 194 = .ok (.iload_n 2, 1) := by decide +kernel
theorem d_Mo_begin_195 : decode (a_cc M_Mo_begin) 195 = .ok (.laload, 1) := by decide +kernel
theorem d_Mo_begin_196 : decode (a_cc M_Mo_begin) 196 = .ok (.lastore, 1) := by decide +kernel
theorem d_Mo_begin_197 : decode (a_cc M_Mo_begin) 197 = .ok (.iinc 2 1, 3) := by decide +kernel
theorem d_Mo_begin_200 : decode (a_cc M_Mo_begin) 200 = .ok (.goto (-111), 3) := by decide +kernel
theorem d_Mo_begin_203 : decode (a_cc M_Mo_begin) 203 = .ok (.return_, 1) := by decide +kernel
theorem fd_Mo_159 : a_Fd "ModuleSignerModel" 159 10 18 0 := ⟨by decide, by decide, rfl, List.mem_append_right _ (List.mem_of_getElem? (i := 1116) (by decide +kernel))⟩
theorem fd_Mo_162 : a_Fd "ModuleSignerModel" 162 10 20 0 := ⟨by decide, by decide, rfl, List.mem_append_right _ (List.mem_of_getElem? (i := 1118) (by decide +kernel))⟩
theorem fd_Mo_165 : a_Fd "ModuleSignerModel" 165 10 21 1 := ⟨by decide, by decide, rfl, List.mem_append_right _ (List.mem_of_getElem? (i := 1119) (by decide +kernel))⟩
theorem fd_Mo_47 : a_Fd "ModuleSignerModel" 47 10 13 2 := ⟨by decide, by decide, rfl, List.mem_append_right _ (List.mem_of_getElem? (i := 1111) (by decide +kernel))⟩
theorem cs_Mo_begin_72 : a_CS M_Mo_begin M_Mo_digestOf 169 1 3 1 := ⟨⟨ok_Mo_digestOf, by decide, by decide, by decide⟩, List.mem_append_right _ (List.mem_of_getElem? (i := 1050) (by decide +kernel)), List.mem_append_right _ (List.mem_of_getElem? (i := 1051) (by decide +kernel)), by decide +kernel⟩
theorem cs_Mo_begin_81 : a_CS M_Mo_begin M_Mo_blockOf 172 1 1 1 := ⟨⟨ok_Mo_blockOf, by decide, by decide, by decide⟩, List.mem_append_right _ (List.mem_of_getElem? (i := 1053) (by decide +kernel)), List.mem_append_right _ (List.mem_of_getElem? (i := 1054) (by decide +kernel)), by decide +kernel⟩
theorem fd_Mo_175 : a_Fd "ModuleSignerModel" 175 10 19 0 := ⟨by decide, by decide, rfl, List.mem_append_right _ (List.mem_of_getElem? (i := 1117) (by decide +kernel))⟩
theorem fd_Mo_22 : a_Fd "ModuleSignerModel" 22 10 5 2 := ⟨by decide, by decide, rfl, List.mem_append_right _ (List.mem_of_getElem? (i := 1103) (by decide +kernel))⟩
theorem lc_Mo_178 : Cond.constantLong "ModuleSignerModel" 178 (Int64.ofInt (4294967295)) ∈ lw_tbl := List.mem_append_right _ (List.mem_of_getElem? (i := 1056) (by decide +kernel))
theorem fd_Mo_29 : a_Fd "ModuleSignerModel" 29 10 7 2 := ⟨by decide, by decide, rfl, List.mem_append_right _ (List.mem_of_getElem? (i := 1105) (by decide +kernel))⟩
theorem fd_Mo_32 : a_Fd "ModuleSignerModel" 32 10 8 2 := ⟨by decide, by decide, rfl, List.mem_append_right _ (List.mem_of_getElem? (i := 1106) (by decide +kernel))⟩
def M_Mo_sponge : a_M := (⟨"ModuleSignerModel", "sponge", "()Z"⟩, prog_12_method_22_code, 1, some .boolean, "ModuleSignerModel", 0, 0, [])
theorem ok_Mo_sponge : a_Ok M_Mo_sponge := ⟨rfl, by decide +kernel, ⟨by decide, by decide⟩, List.mem_append_right _ (List.mem_of_getElem? (i := 11) (by decide +kernel)), Or.inl ⟨rfl, List.mem_append_right _ (List.mem_of_getElem? (i := 1065) (by decide +kernel))⟩⟩
theorem d_Mo_sponge_0 : decode (a_cc M_Mo_sponge) 0 = .ok (.aload_n 0, 1) := by decide +kernel
theorem d_Mo_sponge_1 : decode (a_cc M_Mo_sponge) 1 = .ok (.getfield 159, 3) := by decide +kernel
theorem d_Mo_sponge_4 : decode (a_cc M_Mo_sponge) 4 = .ok (.bipush 6, 2) := by decide +kernel
theorem d_Mo_sponge_6 : decode (a_cc M_Mo_sponge) 6 = .ok (.if_icmp .le 7, 3) := by decide +kernel
theorem d_Mo_sponge_9 : decode (a_cc M_Mo_sponge) 9 = .ok (.iconst 1, 1) := by decide +kernel
theorem d_Mo_sponge_10 : decode (a_cc M_Mo_sponge) 10 = .ok (.goto 4, 3) := by decide +kernel
theorem d_Mo_sponge_13 : decode (a_cc M_Mo_sponge) 13 = .ok (.iconst 0, 1) := by decide +kernel
theorem d_Mo_sponge_14 : decode (a_cc M_Mo_sponge) 14 = .ok (.ireturn, 1) := by decide +kernel
def M_Mo_flip : a_M := (⟨"ModuleSignerModel", "flip", "(II)V"⟩, prog_12_method_26_code, 3, none, "ModuleSignerModel", 0, 0, [])
theorem ok_Mo_flip : a_Ok M_Mo_flip := ⟨rfl, by decide +kernel, ⟨by decide, by decide⟩, List.mem_append_right _ (List.mem_of_getElem? (i := 11) (by decide +kernel)), Or.inl ⟨rfl, List.mem_append_right _ (List.mem_of_getElem? (i := 1069) (by decide +kernel))⟩⟩
theorem d_Mo_flip_0 : decode (a_cc M_Mo_flip) 0 = .ok (.aload_n 0, 1) := by decide +kernel
theorem d_Mo_flip_1 : decode (a_cc M_Mo_flip) 1 = .ok (.getfield 47, 3) := by decide +kernel
theorem d_Mo_flip_4 : decode (a_cc M_Mo_flip) 4 = .ok (.iload_n 1, 1) := by decide +kernel
theorem d_Mo_flip_5 : decode (a_cc M_Mo_flip) 5 = .ok (.bipush 8, 2) := by decide +kernel
theorem d_Mo_flip_7 : decode (a_cc M_Mo_flip) 7 = .ok (.idiv, 1) := by decide +kernel
theorem d_Mo_flip_8 : decode (a_cc M_Mo_flip) 8 = .ok (.dup2, 1) := by decide +kernel
theorem d_Mo_flip_9 : decode (a_cc M_Mo_flip) 9 = .ok (.laload, 1) := by decide +kernel
theorem d_Mo_flip_10 : decode (a_cc M_Mo_flip) 10 = .ok (.iload_n 2, 1) := by decide +kernel
theorem d_Mo_flip_11 : decode (a_cc M_Mo_flip) 11 = .ok (.i2l, 1) := by decide +kernel
theorem d_Mo_flip_12 : decode (a_cc M_Mo_flip) 12 = .ok (.ldc2_w 124, 3) := by decide +kernel
theorem d_Mo_flip_15 : decode (a_cc M_Mo_flip) 15 = .ok (.land, 1) := by decide +kernel
theorem d_Mo_flip_16 : decode (a_cc M_Mo_flip) 16 = .ok (.bipush 8, 2) := by decide +kernel
theorem d_Mo_flip_18 : decode (a_cc M_Mo_flip) 18 = .ok (.iload_n 1, 1) := by decide +kernel
theorem d_Mo_flip_19 : decode (a_cc M_Mo_flip) 19 = .ok (.bipush 8, 2) := by decide +kernel
theorem d_Mo_flip_21 : decode (a_cc M_Mo_flip) 21 = .ok (.irem, 1) := by decide +kernel
theorem d_Mo_flip_22 : decode (a_cc M_Mo_flip) 22 = .ok (.imul, 1) := by decide +kernel
theorem d_Mo_flip_23 : decode (a_cc M_Mo_flip) 23 = .ok (.lshl, 1) := by decide +kernel
theorem d_Mo_flip_24 : decode (a_cc M_Mo_flip) 24 = .ok (.lxor, 1) := by decide +kernel
theorem d_Mo_flip_25 : decode (a_cc M_Mo_flip) 25 = .ok (.lastore, 1) := by decide +kernel
theorem d_Mo_flip_26 : decode (a_cc M_Mo_flip) 26 = .ok (.return_, 1) := by decide +kernel
theorem lc_Mo_124 : Cond.constantLong "ModuleSignerModel" 124 (Int64.ofInt (255)) ∈ lw_tbl := List.mem_append_right _ (List.mem_of_getElem? (i := 1070) (by decide +kernel))
def M_Mo_left : a_M := (⟨"ModuleSignerModel", "left", "(JI)J"⟩, prog_12_method_30_code, 3, some .long, "ModuleSignerModel", 0, 0, [])
theorem ok_Mo_left : a_Ok M_Mo_left := ⟨rfl, by decide +kernel, ⟨by decide, by decide⟩, List.mem_append_right _ (List.mem_of_getElem? (i := 11) (by decide +kernel)), Or.inl ⟨rfl, List.mem_append_right _ (List.mem_of_getElem? (i := 1077) (by decide +kernel))⟩⟩
theorem d_Mo_left_0 : decode (a_cc M_Mo_left) 0 = .ok (.iload_n 2, 1) := by decide +kernel
theorem d_Mo_left_1 : decode (a_cc M_Mo_left) 1 = .ok (.ifCond .ne 7, 3) := by decide +kernel
theorem d_Mo_left_4 : decode (a_cc M_Mo_left) 4 = .ok (.lload_n 0, 1) := by decide +kernel
theorem d_Mo_left_5 : decode (a_cc M_Mo_left) 5 = .ok (.goto 13, 3) := by decide +kernel
theorem d_Mo_left_8 : decode (a_cc M_Mo_left) 8 = .ok (.lload_n 0, 1) := by decide +kernel
theorem d_Mo_left_9 : decode (a_cc M_Mo_left) 9 = .ok (.iload_n 2, 1) := by decide +kernel
theorem d_Mo_left_10 : decode (a_cc M_Mo_left) 10 = .ok (.lshl, 1) := by decide +kernel
theorem d_Mo_left_11 : decode (a_cc M_Mo_left) 11 = .ok (.lload_n 0, 1) := by decide +kernel
theorem d_Mo_left_12 : decode (a_cc M_Mo_left) 12 = .ok (.bipush 64, 2) := by decide +kernel
theorem d_Mo_left_14 : decode (a_cc M_Mo_left) 14 = .ok (.iload_n 2, 1) := by decide +kernel
theorem d_Mo_left_15 : decode (a_cc M_Mo_left) 15 = .ok (.isub, 1) := by decide +kernel
theorem d_Mo_left_16 : decode (a_cc M_Mo_left) 16 = .ok (.lushr, 1) := by decide +kernel
theorem d_Mo_left_17 : decode (a_cc M_Mo_left) 17 = .ok (.lor, 1) := by decide +kernel
theorem d_Mo_left_18 : decode (a_cc M_Mo_left) 18 = .ok (.lreturn, 1) := by decide +kernel
def M_Mo_permute : a_M := (⟨"ModuleSignerModel", "permute", "()V"⟩, prog_12_method_29_code, 4, none, "ModuleSignerModel", 1, 20, [])
theorem ok_Mo_permute : a_Ok M_Mo_permute := ⟨rfl, by decide +kernel, ⟨by decide, by decide⟩, List.mem_append_right _ (List.mem_of_getElem? (i := 11) (by decide +kernel)), Or.inl ⟨rfl, List.mem_append_right _ (List.mem_of_getElem? (i := 1074) (by decide +kernel))⟩⟩
theorem d_Mo_permute_0 : decode (a_cc M_Mo_permute) 0 = .ok (.iconst 0, 1) := by decide +kernel
theorem d_Mo_permute_1 : decode (a_cc M_Mo_permute) 1 = .ok (.istore_n 1, 1) := by decide +kernel
theorem d_Mo_permute_2 : decode (a_cc M_Mo_permute) 2 = .ok (.iload_n 1, 1) := by decide +kernel
theorem d_Mo_permute_3 : decode (a_cc M_Mo_permute) 3 = .ok (.bipush 24, 2) := by decide +kernel
theorem d_Mo_permute_5 : decode (a_cc M_Mo_permute) 5 = .ok (.if_icmp .ge 287, 3) := by decide +kernel
theorem d_Mo_permute_8 : decode (a_cc M_Mo_permute) 8 = .ok (.iconst 0, 1) := by decide +kernel
theorem d_Mo_permute_9 : decode (a_cc M_Mo_permute) 9 = .ok (.istore_n 2, 1) := by decide +kernel
theorem d_Mo_permute_10 : decode (a_cc M_Mo_permute) 10 = .ok (.iload_n 2, 1) := by decide +kernel
theorem d_Mo_permute_11 : decode (a_cc M_Mo_permute) 11 = .ok (.iconst 5, 1) := by decide +kernel
theorem d_Mo_permute_12 : decode (a_cc M_Mo_permute) 12 = .ok (.if_icmp .ge 48, 3) := by decide +kernel
theorem d_Mo_permute_15 : decode (a_cc M_Mo_permute) 15 = .ok (.aload_n 0, 1) := by decide +kernel
theorem d_Mo_permute_16 : decode (a_cc M_Mo_permute) 16 = .ok (.getfield 53, 3) := by decide +kernel
theorem d_Mo_permute_19 : decode (a_cc M_Mo_permute) 19 = .ok (.iload_n 2, 1) := by decide +kernel
theorem d_Mo_permute_20 : decode (a_cc M_Mo_permute) 20 = .ok (.lconst 0, 1) := by decide +kernel
theorem d_Mo_permute_21 : decode (a_cc M_Mo_permute) 21 = .ok (.lastore, 1) := by decide +kernel
theorem d_Mo_permute_22 : decode (a_cc M_Mo_permute) 22 = .ok (.iconst 0, 1) := by decide +kernel
theorem d_Mo_permute_23 : decode (a_cc M_Mo_permute) 23 = .ok (.istore_n 3, 1) := by decide +kernel
theorem d_Mo_permute_24 : decode (a_cc M_Mo_permute) 24 = .ok (.iload_n 3, 1) := by decide +kernel
theorem d_Mo_permute_25 : decode (a_cc M_Mo_permute) 25 = .ok (.iconst 5, 1) := by decide +kernel
theorem d_Mo_permute_26 : decode (a_cc M_Mo_permute) 26 = .ok (.if_icmp .ge 28, 3) := by decide +kernel
theorem d_Mo_permute_29 : decode (a_cc M_Mo_permute) 29 = .ok (.aload_n 0, 1) := by decide +kernel
theorem d_Mo_permute_30 : decode (a_cc M_Mo_permute) 30 = .ok (.getfield 53, 3) := by decide +kernel
theorem d_Mo_permute_33 : decode (a_cc M_Mo_permute) 33 = .ok (.iload_n 2, 1) := by decide +kernel
theorem d_Mo_permute_34 : decode (a_cc M_Mo_permute) 34 = .ok (.dup2, 1) := by decide +kernel
theorem d_Mo_permute_35 : decode (a_cc M_Mo_permute) 35 = .ok (.laload, 1) := by decide +kernel
theorem d_Mo_permute_36 : decode (a_cc M_Mo_permute) 36 = .ok (.aload_n 0, 1) := by decide +kernel
theorem d_Mo_permute_37 : decode (a_cc M_Mo_permute) 37 = .ok (.getfield 47, 3) := by decide +kernel
theorem d_Mo_permute_40 : decode (a_cc M_Mo_permute) 40 = .ok (.iload_n 2, 1) := by decide +kernel
theorem d_Mo_permute_41 : decode (a_cc M_Mo_permute) 41 = .ok (.iconst 5, 1) := by decide +kernel
theorem d_Mo_permute_42 : decode (a_cc M_Mo_permute) 42 = .ok (.iload_n 3, 1) := by decide +kernel
theorem d_Mo_permute_43 : decode (a_cc M_Mo_permute) 43 = .ok (.imul, 1) := by decide +kernel
theorem d_Mo_permute_44 : decode (a_cc M_Mo_permute) 44 = .ok (.iadd, 1) := by decide +kernel
theorem d_Mo_permute_45 : decode (a_cc M_Mo_permute) 45 = .ok (.laload, 1) := by decide +kernel
theorem d_Mo_permute_46 : decode (a_cc M_Mo_permute) 46 = .ok (.lxor, 1) := by decide +kernel
theorem d_Mo_permute_47 : decode (a_cc M_Mo_permute) 47 = .ok (.lastore, 1) := by decide +kernel
theorem d_Mo_permute_48 : decode (a_cc M_Mo_permute) 48 = .ok (.iinc 3 1, 3) := by decide +kernel
theorem d_Mo_permute_51 : decode (a_cc M_Mo_permute) 51 = .ok (.goto (-27), 3) := by decide +kernel
theorem d_Mo_permute_54 : decode (a_cc M_Mo_permute) 54 = .ok (.iinc 2 1, 3) := by decide +kernel
theorem d_Mo_permute_57 : decode (a_cc M_Mo_permute) 57 = .ok (.goto (-47), 3) := by decide +kernel
theorem d_Mo_permute_60 : decode (a_cc M_Mo_permute) 60 = .ok (.iconst 0, 1) := by decide +kernel
theorem d_Mo_permute_61 : decode (a_cc M_Mo_permute) 61 = .ok (.istore_n 2, 1) := by decide +kernel
theorem d_Mo_permute_62 : decode (a_cc M_Mo_permute) 62 = .ok (.iload_n 2, 1) := by decide +kernel
theorem d_Mo_permute_63 : decode (a_cc M_Mo_permute) 63 = .ok (.iconst 5, 1) := by decide +kernel
theorem d_Mo_permute_64 : decode (a_cc M_Mo_permute) 64 = .ok (.if_icmp .ge 60, 3) := by decide +kernel
theorem d_Mo_permute_67 : decode (a_cc M_Mo_permute) 67 = .ok (.iconst 0, 1) := by decide +kernel
theorem d_Mo_permute_68 : decode (a_cc M_Mo_permute) 68 = .ok (.istore_n 3, 1) := by decide +kernel
theorem d_Mo_permute_69 : decode (a_cc M_Mo_permute) 69 = .ok (.iload_n 3, 1) := by decide +kernel
theorem d_Mo_permute_70 : decode (a_cc M_Mo_permute) 70 = .ok (.iconst 5, 1) := by decide +kernel
theorem d_Mo_permute_71 : decode (a_cc M_Mo_permute) 71 = .ok (.if_icmp .ge 47, 3) := by decide +kernel
theorem d_Mo_permute_74 : decode (a_cc M_Mo_permute) 74 = .ok (.aload_n 0, 1) := by decide +kernel
theorem d_Mo_permute_75 : decode (a_cc M_Mo_permute) 75 = .ok (.getfield 47, 3) := by decide +kernel
theorem d_Mo_permute_78 : decode (a_cc M_Mo_permute) 78 = .ok (.iload_n 2, 1) := by decide +kernel
theorem d_Mo_permute_79 : decode (a_cc M_Mo_permute) 79 = .ok (.iconst 5, 1) := by decide +kernel
theorem d_Mo_permute_80 : decode (a_cc M_Mo_permute) 80 = .ok (.iload_n 3, 1) := by decide +kernel
theorem d_Mo_permute_81 : decode (a_cc M_Mo_permute) 81 = .ok (.imul, 1) := by decide +kernel
theorem d_Mo_permute_82 : decode (a_cc M_Mo_permute) 82 = .ok (.iadd, 1) := by decide +kernel
theorem d_Mo_permute_83 : decode (a_cc M_Mo_permute) 83 = .ok (.dup2, 1) := by decide +kernel
theorem d_Mo_permute_84 : decode (a_cc M_Mo_permute) 84 = .ok (.laload, 1) := by decide +kernel
theorem d_Mo_permute_85 : decode (a_cc M_Mo_permute) 85 = .ok (.aload_n 0, 1) := by decide +kernel
theorem d_Mo_permute_86 : decode (a_cc M_Mo_permute) 86 = .ok (.getfield 53, 3) := by decide +kernel
theorem d_Mo_permute_89 : decode (a_cc M_Mo_permute) 89 = .ok (.iload_n 2, 1) := by decide +kernel
theorem d_Mo_permute_90 : decode (a_cc M_Mo_permute) 90 = .ok (.iconst 4, 1) := by decide +kernel
theorem d_Mo_permute_91 : decode (a_cc M_Mo_permute) 91 = .ok (.iadd, 1) := by decide +kernel
theorem d_Mo_permute_92 : decode (a_cc M_Mo_permute) 92 = .ok (.iconst 5, 1) := by decide +kernel
theorem d_Mo_permute_93 : decode (a_cc M_Mo_permute) 93 = .ok (.irem, 1) := by decide +kernel
theorem d_Mo_permute_94 : decode (a_cc M_Mo_permute) 94 = .ok (.laload, 1) := by decide +kernel
theorem d_Mo_permute_95 : decode (a_cc M_Mo_permute) 95 = .ok (.aload_n 0, 1) := by decide +kernel
theorem d_Mo_permute_96 : decode (a_cc M_Mo_permute) 96 = .ok (.getfield 53, 3) := by decide +kernel
theorem d_Mo_permute_99 : decode (a_cc M_Mo_permute) 99 = .ok (.iload_n 2, 1) := by decide +kernel
theorem d_Mo_permute_100 : decode (a_cc M_Mo_permute) 100 = .ok (.iconst 1, 1) := by decide +kernel
theorem d_Mo_permute_101 : decode (a_cc M_Mo_permute) 101 = .ok (.iadd, 1) := by decide +kernel
theorem d_Mo_permute_102 : decode (a_cc M_Mo_permute) 102 = .ok (.iconst 5, 1) := by decide +kernel
theorem d_Mo_permute_103 : decode (a_cc M_Mo_permute) 103 = .ok (.irem, 1) := by decide +kernel
theorem d_Mo_permute_104 : decode (a_cc M_Mo_permute) 104 = .ok (.laload, 1) := by decide +kernel
theorem d_Mo_permute_105 : decode (a_cc M_Mo_permute) 105 = .ok (.iconst 1, 1) := by decide +kernel
theorem d_Mo_permute_106 : decode (a_cc M_Mo_permute) 106 = .ok (.invokestatic 197, 3) := by decide +kernel
theorem d_Mo_permute_109 : decode (a_cc M_Mo_permute) 109 = .ok (.lxor, 1) := by decide +kernel
theorem d_Mo_permute_110 : decode (a_cc M_Mo_permute) 110 = .ok (.lxor, 1) := by decide +kernel
theorem d_Mo_permute_111 : decode (a_cc M_Mo_permute) 111 = .ok (.lastore, 1) := by decide +kernel
theorem d_Mo_permute_112 : decode (a_cc M_Mo_permute) 112 = .ok (.iinc 3 1, 3) := by decide +kernel
theorem d_Mo_permute_115 : decode (a_cc M_Mo_permute) 115 = .ok (.goto (-46), 3) := by decide +kernel
theorem d_Mo_permute_118 : decode (a_cc M_Mo_permute) 118 = .ok (.iinc 2 1, 3) := by decide +kernel
theorem d_Mo_permute_121 : decode (a_cc M_Mo_permute) 121 = .ok (.goto (-59), 3) := by decide +kernel
theorem d_Mo_permute_124 : decode (a_cc M_Mo_permute) 124 = .ok (.iconst 0, 1) := by decide +kernel
theorem d_Mo_permute_125 : decode (a_cc M_Mo_permute) 125 = .ok (.istore_n 2, 1) := by decide +kernel
theorem d_Mo_permute_126 : decode (a_cc M_Mo_permute) 126 = .ok (.iload_n 2, 1) := by decide +kernel
theorem d_Mo_permute_127 : decode (a_cc M_Mo_permute) 127 = .ok (.iconst 5, 1) := by decide +kernel
theorem d_Mo_permute_128 : decode (a_cc M_Mo_permute) 128 = .ok (.if_icmp .ge 63, 3) := by decide +kernel
theorem d_Mo_permute_131 : decode (a_cc M_Mo_permute) 131 = .ok (.iconst 0, 1) := by decide +kernel
theorem d_Mo_permute_132 : decode (a_cc M_Mo_permute) 132 = .ok (.istore_n 3, 1) := by decide +kernel
theorem d_Mo_permute_133 : decode (a_cc M_Mo_permute) 133 = .ok (.iload_n 3, 1) := by decide +kernel
theorem d_Mo_permute_134 : decode (a_cc M_Mo_permute) 134 = .ok (.iconst 5, 1) := by decide +kernel
theorem d_Mo_permute_135 : decode (a_cc M_Mo_permute) 135 = .ok (.if_icmp .ge 50, 3) := by decide +kernel
theorem d_Mo_permute_138 : decode (a_cc M_Mo_permute) 138 = .ok (.aload_n 0, 1) := by decide +kernel
theorem d_Mo_permute_139 : decode (a_cc M_Mo_permute) 139 = .ok (.getfield 50, 3) := by decide +kernel
theorem d_Mo_permute_142 : decode (a_cc M_Mo_permute) 142 = .ok (.iload_n 3, 1) := by decide +kernel
theorem d_Mo_permute_143 : decode (a_cc M_Mo_permute) 143 = .ok (.iconst 5, 1) := by decide +kernel
theorem d_Mo_permute_144 : decode (a_cc M_Mo_permute) 144 = .ok (.iconst 2, 1) := by decide +kernel
theorem d_Mo_permute_145 : decode (a_cc M_Mo_permute) 145 = .ok (.iload_n 2, 1) := by decide +kernel
theorem d_Mo_permute_146 : decode (a_cc M_Mo_permute) 146 = .ok (.imul, 1) := by decide +kernel
theorem d_Mo_permute_147 : decode (a_cc M_Mo_permute) 147 = .ok (.iconst 3, 1) := by decide +kernel
theorem d_Mo_permute_148 : decode (a_cc M_Mo_permute) 148 = .ok (.iload_n 3, 1) := by decide +kernel
theorem d_Mo_permute_149 : decode (a_cc M_Mo_permute) 149 = .ok (.imul, 1) := by decide +kernel
theorem d_Mo_permute_150 : decode (a_cc M_Mo_permute) 150 = .ok (.iadd, 1) := by decide +kernel
theorem d_Mo_permute_151 : decode (a_cc M_Mo_permute) 151 = .ok (.iconst 5, 1) := by decide +kernel
theorem d_Mo_permute_152 : decode (a_cc M_Mo_permute) 152 = .ok (.irem, 1) := by decide +kernel
theorem d_Mo_permute_153 : decode (a_cc M_Mo_permute) 153 = .ok (.imul, 1) := by decide +kernel
theorem d_Mo_permute_154 : decode (a_cc M_Mo_permute) 154 = .ok (.iadd, 1) := by decide +kernel
theorem d_Mo_permute_155 : decode (a_cc M_Mo_permute) 155 = .ok (.aload_n 0, 1) := by decide +kernel
theorem d_Mo_permute_156 : decode (a_cc M_Mo_permute) 156 = .ok (.getfield 47, 3) := by decide +kernel
theorem d_Mo_permute_159 : decode (a_cc M_Mo_permute) 159 = .ok (.iload_n 2, 1) := by decide +kernel
theorem d_Mo_permute_160 : decode (a_cc M_Mo_permute) 160 = .ok (.iconst 5, 1) := by decide +kernel
theorem d_Mo_permute_161 : decode (a_cc M_Mo_permute) 161 = .ok (.iload_n 3, 1) := by decide +kernel
theorem d_Mo_permute_162 : decode (a_cc M_Mo_permute) 162 = .ok (.imul, 1) := by decide +kernel
theorem d_Mo_permute_163 : decode (a_cc M_Mo_permute) 163 = .ok (.iadd, 1) := by decide +kernel
theorem d_Mo_permute_164 : decode (a_cc M_Mo_permute) 164 = .ok (.laload, 1) := by decide +kernel
theorem d_Mo_permute_165 : decode (a_cc M_Mo_permute) 165 = .ok (.aload_n 0, 1) := by decide +kernel
theorem d_Mo_permute_166 : decode (a_cc M_Mo_permute) 166 = .ok (.getfield 41, 3) := by decide +kernel
theorem d_Mo_permute_169 : decode (a_cc M_Mo_permute) 169 = .ok (.iload_n 2, 1) := by decide +kernel
theorem d_Mo_permute_170 : decode (a_cc M_Mo_permute) 170 = .ok (.iconst 5, 1) := by decide +kernel
theorem d_Mo_permute_171 : decode (a_cc M_Mo_permute) 171 = .ok (.iload_n 3, 1) := by decide +kernel
theorem d_Mo_permute_172 : decode (a_cc M_Mo_permute) 172 = .ok (.imul, 1) := by decide +kernel
theorem d_Mo_permute_173 : decode (a_cc M_Mo_permute) 173 = .ok (.iadd, 1) := by decide +kernel
theorem d_Mo_permute_174 : decode (a_cc M_Mo_permute) 174 = .ok (.iaload, 1) := by decide +kernel
theorem d_Mo_permute_175 : decode (a_cc M_Mo_permute) 175 = .ok (.invokestatic 197, 3) := by decide +kernel
theorem d_Mo_permute_178 : decode (a_cc M_Mo_permute) 178 = .ok (.lastore, 1) := by decide +kernel
theorem d_Mo_permute_179 : decode (a_cc M_Mo_permute) 179 = .ok (.iinc 3 1, 3) := by decide +kernel
theorem d_Mo_permute_182 : decode (a_cc M_Mo_permute) 182 = .ok (.goto (-49), 3) := by decide +kernel
theorem d_Mo_permute_185 : decode (a_cc M_Mo_permute) 185 = .ok (.iinc 2 1, 3) := by decide +kernel
theorem d_Mo_permute_188 : decode (a_cc M_Mo_permute) 188 = .ok (.goto (-62), 3) := by decide +kernel
theorem d_Mo_permute_191 : decode (a_cc M_Mo_permute) 191 = .ok (.iconst 0, 1) := by decide +kernel
theorem d_Mo_permute_192 : decode (a_cc M_Mo_permute) 192 = .ok (.istore_n 2, 1) := by decide +kernel
theorem d_Mo_permute_193 : decode (a_cc M_Mo_permute) 193 = .ok (.iload_n 2, 1) := by decide +kernel
theorem d_Mo_permute_194 : decode (a_cc M_Mo_permute) 194 = .ok (.iconst 5, 1) := by decide +kernel
theorem d_Mo_permute_195 : decode (a_cc M_Mo_permute) 195 = .ok (.if_icmp .ge 76, 3) := by decide +kernel
theorem d_Mo_permute_198 : decode (a_cc M_Mo_permute) 198 = .ok (.iconst 0, 1) := by decide +kernel
theorem d_Mo_permute_199 : decode (a_cc M_Mo_permute) 199 = .ok (.istore_n 3, 1) := by decide +kernel
theorem d_Mo_permute_200 : decode (a_cc M_Mo_permute) 200 = .ok (.iload_n 3, 1) := by decide +kernel
theorem d_Mo_permute_201 : decode (a_cc M_Mo_permute) 201 = .ok (.iconst 5, 1) := by decide +kernel
theorem d_Mo_permute_202 : decode (a_cc M_Mo_permute) 202 = .ok (.if_icmp .ge 63, 3) := by decide +kernel
theorem d_Mo_permute_205 : decode (a_cc M_Mo_permute) 205 = .ok (.aload_n 0, 1) := by decide +kernel
theorem d_Mo_permute_206 : decode (a_cc M_Mo_permute) 206 = .ok (.getfield 47, 3) := by decide +kernel
theorem d_Mo_permute_209 : decode (a_cc M_Mo_permute) 209 = .ok (.iload_n 2, 1) := by decide +kernel
theorem d_Mo_permute_210 : decode (a_cc M_Mo_permute) 210 = .ok (.iconst 5, 1) := by decide +kernel
theorem d_Mo_permute_211 : decode (a_cc M_Mo_permute) 211 = .ok (.iload_n 3, 1) := by decide +kernel
theorem d_Mo_permute_212 : decode (a_cc M_Mo_permute) 212 = .ok (.imul, 1) := by decide +kernel
theorem d_Mo_permute_213 : decode (a_cc M_Mo_permute) 213 = .ok (.iadd, 1) := by decide +kernel
theorem d_Mo_permute_214 : decode (a_cc M_Mo_permute) 214 = .ok (.aload_n 0, 1) := by decide +kernel
theorem d_Mo_permute_215 : decode (a_cc M_Mo_permute) 215 = .ok (.getfield 50, 3) := by decide +kernel
theorem d_Mo_permute_218 : decode (a_cc M_Mo_permute) 218 = .ok (.iload_n 2, 1) := by decide +kernel
theorem d_Mo_permute_219 : decode (a_cc M_Mo_permute) 219 = .ok (.iconst 5, 1) := by decide +kernel
theorem d_Mo_permute_220 : decode (a_cc M_Mo_permute) 220 = .ok (.iload_n 3, 1) := by decide +kernel
theorem d_Mo_permute_221 : decode (a_cc M_Mo_permute) 221 = .ok (.imul, 1) := by decide +kernel
theorem d_Mo_permute_222 : decode (a_cc M_Mo_permute) 222 = .ok (.iadd, 1) := by decide +kernel
theorem d_Mo_permute_223 : decode (a_cc M_Mo_permute) 223 = .ok (.laload, 1) := by decide +kernel
theorem d_Mo_permute_224 : decode (a_cc M_Mo_permute) 224 = .ok (.aload_n 0, 1) := by decide +kernel
theorem d_Mo_permute_225 : decode (a_cc M_Mo_permute) 225 = .ok (.getfield 50, 3) := by decide +kernel
theorem d_Mo_permute_228 : decode (a_cc M_Mo_permute) 228 = .ok (.iload_n 2, 1) := by decide +kernel
theorem d_Mo_permute_229 : decode (a_cc M_Mo_permute) 229 = .ok (.iconst 1, 1) := by decide +kernel
theorem d_Mo_permute_230 : decode (a_cc M_Mo_permute) 230 = .ok (.iadd, 1) := by decide +kernel
theorem d_Mo_permute_231 : decode (a_cc M_Mo_permute) 231 = .ok (.iconst 5, 1) := by decide +kernel
theorem d_Mo_permute_232 : decode (a_cc M_Mo_permute) 232 = .ok (.irem, 1) := by decide +kernel
theorem d_Mo_permute_233 : decode (a_cc M_Mo_permute) 233 = .ok (.iconst 5, 1) := by decide +kernel
theorem d_Mo_permute_234 : decode (a_cc M_Mo_permute) 234 = .ok (.iload_n 3, 1) := by decide +kernel
theorem d_Mo_permute_235 : decode (a_cc M_Mo_permute) 235 = .ok (.imul, 1) := by decide +kernel
theorem d_Mo_permute_236 : decode (a_cc M_Mo_permute) 236 = .ok (.iadd, 1) := by decide +kernel
theorem d_Mo_permute_237 : decode (a_cc M_Mo_permute) 237 = .ok (.laload, 1) := by decide +kernel
theorem d_Mo_permute_238 : decode (a_cc M_Mo_permute) 238 = .ok (.ldc2_w 201, 3) := by decide +kernel
theorem d_Mo_permute_241 : decode (a_cc M_Mo_permute) 241 = .ok (.lxor, 1) := by decide +kernel
theorem d_Mo_permute_242 : decode (a_cc M_Mo_permute) 242 = .ok (.aload_n 0, 1) := by decide +kernel
theorem d_Mo_permute_243 : decode (a_cc M_Mo_permute) 243 = .ok (.getfield 50, 3) := by decide +kernel
theorem d_Mo_permute_246 : decode (a_cc M_Mo_permute) 246 = .ok (.iload_n 2, 1) := by decide +kernel
theorem d_Mo_permute_247 : decode (a_cc M_Mo_permute) 247 = .ok (.iconst 2, 1) := by decide +kernel
theorem d_Mo_permute_248 : decode (a_cc M_Mo_permute) 248 = .ok (.iadd, 1) := by decide +kernel
theorem d_Mo_permute_249 : decode (a_cc M_Mo_permute) 249 = .ok (.iconst 5, 1) := by decide +kernel
theorem d_Mo_permute_250 : decode (a_cc M_Mo_permute) 250 = .ok (.irem, 1) := by decide +kernel
theorem d_Mo_permute_251 : decode (a_cc M_Mo_permute) 251 = .ok (.iconst 5, 1) := by decide +kernel
theorem d_Mo_permute_252 : decode (a_cc M_Mo_permute) 252 = .ok (.iload_n 3, 1) := by decide +kernel
theorem d_Mo_permute_253 : decode (a_cc M_Mo_permute) 253 = .ok (.imul, 1) := by decide +kernel
theorem d_Mo_permute_254 : decode (a_cc M_Mo_permute) 254 = .ok (.iadd, 1) := by decide +kernel
theorem d_Mo_permute_255 : decode (a_cc M_Mo_permute) 255 = .ok (.laload, 1) := by decide +kernel
theorem d_Mo_permute_256 : decode (a_cc M_Mo_permute) 256 = .ok (.land, 1) := by decide +kernel
theorem d_Mo_permute_257 : decode (a_cc M_Mo_permute) 257 = .ok (.lxor, 1) := by decide +kernel
theorem d_Mo_permute_258 : decode (a_cc M_Mo_permute) 258 = .ok (.lastore, 1) := by decide +kernel
theorem d_Mo_permute_259 : decode (a_cc M_Mo_permute) 259 = .ok (.iinc 3 1, 3) := by decide +kernel
theorem d_Mo_permute_262 : decode (a_cc M_Mo_permute) 262 = .ok (.goto (-62), 3) := by decide +kernel
theorem d_Mo_permute_265 : decode (a_cc M_Mo_permute) 265 = .ok (.iinc 2 1, 3) := by decide +kernel
theorem d_Mo_permute_268 : decode (a_cc M_Mo_permute) 268 = .ok (.goto (-75), 3) := by decide +kernel
theorem d_Mo_permute_271 : decode (a_cc M_Mo_permute) 271 = .ok (.aload_n 0, 1) := by decide +kernel
theorem d_Mo_permute_272 : decode (a_cc M_Mo_permute) 272 = .ok (.getfield 47, 3) := by decide +kernel
theorem d_Mo_permute_275 : decode (a_cc M_Mo_permute) 275 = .ok (.iconst 0, 1) := by decide +kernel
theorem d_Mo_permute_276 : decode (a_cc M_Mo_permute) 276 = .ok (.dup2, 1) := by decide +kernel
theorem d_Mo_permute_277 : decode (a_cc M_Mo_permute) 277 = .ok (.laload, 1) := by decide +kernel
theorem d_Mo_permute_278 : decode (a_cc M_Mo_permute) 278 = .ok (.aload_n 0, 1) := by decide +kernel
theorem d_Mo_permute_279 : decode (a_cc M_Mo_permute) 279 = .ok (.getfield 44, 3) := by decide +kernel
theorem d_Mo_permute_282 : decode (a_cc M_Mo_permute) 282 = .ok (.iload_n 1, 1) := by decide +kernel
theorem d_Mo_permute_283 : decode (a_cc M_Mo_permute) 283 = .ok (.laload, 1) := by decide +kernel
theorem d_Mo_permute_284 : decode (a_cc M_Mo_permute) 284 = .ok (.lxor, 1) := by decide +kernel
theorem d_Mo_permute_285 : decode (a_cc M_Mo_permute) 285 = .ok (.lastore, 1) := by decide +kernel
theorem d_Mo_permute_286 : decode (a_cc M_Mo_permute) 286 = .ok (.iinc 1 1, 3) := by decide +kernel
theorem d_Mo_permute_289 : decode (a_cc M_Mo_permute) 289 = .ok (.goto (-287), 3) := by decide +kernel
theorem d_Mo_permute_292 : decode (a_cc M_Mo_permute) 292 = .ok (.return_, 1) := by decide +kernel
theorem fd_Mo_53 : a_Fd "ModuleSignerModel" 53 10 15 2 := ⟨by decide, by decide, rfl, List.mem_append_right _ (List.mem_of_getElem? (i := 1113) (by decide +kernel))⟩
theorem cs_Mo_permute_106 : a_CS M_Mo_permute M_Mo_left 197 3 6 2 := ⟨⟨ok_Mo_left, by decide, by decide, by decide⟩, List.mem_append_right _ (List.mem_of_getElem? (i := 1075) (by decide +kernel)), List.mem_append_right _ (List.mem_of_getElem? (i := 1076) (by decide +kernel)), by decide +kernel⟩
theorem fd_Mo_50 : a_Fd "ModuleSignerModel" 50 10 14 2 := ⟨by decide, by decide, rfl, List.mem_append_right _ (List.mem_of_getElem? (i := 1112) (by decide +kernel))⟩
theorem fd_Mo_41 : a_Fd "ModuleSignerModel" 41 10 11 2 := ⟨by decide, by decide, rfl, List.mem_append_right _ (List.mem_of_getElem? (i := 1109) (by decide +kernel))⟩
theorem cs_Mo_permute_175 : a_CS M_Mo_permute M_Mo_left 197 3 2 2 := ⟨⟨ok_Mo_left, by decide, by decide, by decide⟩, List.mem_append_right _ (List.mem_of_getElem? (i := 1075) (by decide +kernel)), List.mem_append_right _ (List.mem_of_getElem? (i := 1076) (by decide +kernel)), by decide +kernel⟩
theorem lc_Mo_201 : Cond.constantLong "ModuleSignerModel" 201 (Int64.ofInt (-1)) ∈ lw_tbl := List.mem_append_right _ (List.mem_of_getElem? (i := 1078) (by decide +kernel))
theorem fd_Mo_44 : a_Fd "ModuleSignerModel" 44 10 12 2 := ⟨by decide, by decide, rfl, List.mem_append_right _ (List.mem_of_getElem? (i := 1110) (by decide +kernel))⟩
def M_Mo_turn : a_M := (⟨"ModuleSignerModel", "turn", "(II)I"⟩, prog_12_method_32_code, 2, some .int, "ModuleSignerModel", 0, 0, [])
theorem ok_Mo_turn : a_Ok M_Mo_turn := ⟨rfl, by decide +kernel, ⟨by decide, by decide⟩, List.mem_append_right _ (List.mem_of_getElem? (i := 11) (by decide +kernel)), Or.inl ⟨rfl, List.mem_append_right _ (List.mem_of_getElem? (i := 1085) (by decide +kernel))⟩⟩
theorem d_Mo_turn_0 : decode (a_cc M_Mo_turn) 0 = .ok (.iload_n 0, 1) := by decide +kernel
theorem d_Mo_turn_1 : decode (a_cc M_Mo_turn) 1 = .ok (.iload_n 1, 1) := by decide +kernel
theorem d_Mo_turn_2 : decode (a_cc M_Mo_turn) 2 = .ok (.iushr, 1) := by decide +kernel
theorem d_Mo_turn_3 : decode (a_cc M_Mo_turn) 3 = .ok (.iload_n 0, 1) := by decide +kernel
theorem d_Mo_turn_4 : decode (a_cc M_Mo_turn) 4 = .ok (.bipush 32, 2) := by decide +kernel
theorem d_Mo_turn_6 : decode (a_cc M_Mo_turn) 6 = .ok (.iload_n 1, 1) := by decide +kernel
theorem d_Mo_turn_7 : decode (a_cc M_Mo_turn) 7 = .ok (.isub, 1) := by decide +kernel
theorem d_Mo_turn_8 : decode (a_cc M_Mo_turn) 8 = .ok (.ishl, 1) := by decide +kernel
theorem d_Mo_turn_9 : decode (a_cc M_Mo_turn) 9 = .ok (.ior, 1) := by decide +kernel
theorem d_Mo_turn_10 : decode (a_cc M_Mo_turn) 10 = .ok (.ireturn, 1) := by decide +kernel
