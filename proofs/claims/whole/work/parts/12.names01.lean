/-! names, printed by program: methods, their instructions, what they link -/
def M_Mo_compress32 : a_M := (⟨"ModuleSignerModel", "compress32", "()V"⟩, prog_12_method_34_code, 12, none, "ModuleSignerModel", 1, 17, [])
theorem ok_Mo_compress32 : a_Ok M_Mo_compress32 := ⟨rfl, by decide +kernel, ⟨by decide, by decide⟩, List.mem_append_right _ (List.mem_of_getElem? (i := 11) (by decide +kernel)), Or.inl ⟨rfl, List.mem_append_right _ (List.mem_of_getElem? (i := 1082) (by decide +kernel))⟩⟩
theorem d_Mo_compress32_0 : decode (a_cc M_Mo_compress32) 0 = .ok (.iconst 0, 1) := by decide +kernel
theorem d_Mo_compress32_1 : decode (a_cc M_Mo_compress32) 1 = .ok (.istore_n 1, 1) := by decide +kernel
theorem d_Mo_compress32_2 : decode (a_cc M_Mo_compress32) 2 = .ok (.iload_n 1, 1) := by decide +kernel
theorem d_Mo_compress32_3 : decode (a_cc M_Mo_compress32) 3 = .ok (.bipush 16, 2) := by decide +kernel
theorem d_Mo_compress32_5 : decode (a_cc M_Mo_compress32) 5 = .ok (.if_icmp .ge 52, 3) := by decide +kernel
theorem d_Mo_compress32_8 : decode (a_cc M_Mo_compress32) 8 = .ok (.iconst 0, 1) := by decide +kernel
theorem d_Mo_compress32_9 : decode (a_cc M_Mo_compress32) 9 = .ok (.istore_n 2, 1) := by decide +kernel
theorem d_Mo_compress32_10 : decode (a_cc M_Mo_compress32) 10 = .ok (.iconst 0, 1) := by decide +kernel
theorem d_Mo_compress32_11 : decode (a_cc M_Mo_compress32) 11 = .ok (.istore_n 3, 1) := by decide +kernel
theorem d_Mo_compress32_12 : decode (a_cc M_Mo_compress32) 12 = .ok (.iload_n 3, 1) := by decide +kernel
theorem d_Mo_compress32_13 : decode (a_cc M_Mo_compress32) 13 = .ok (.iconst 4, 1) := by decide +kernel
theorem d_Mo_compress32_14 : decode (a_cc M_Mo_compress32) 14 = .ok (.if_icmp .ge 29, 3) := by decide +kernel
theorem d_Mo_compress32_17 : decode (a_cc M_Mo_compress32) 17 = .ok (.iload_n 2, 1) := by decide +kernel
theorem d_Mo_compress32_18 : decode (a_cc M_Mo_compress32) 18 = .ok (.bipush 8, 2) := by decide +kernel
theorem d_Mo_compress32_20 : decode (a_cc M_Mo_compress32) 20 = .ok (.ishl, 1) := by decide +kernel
theorem d_Mo_compress32_21 : decode (a_cc M_Mo_compress32) 21 = .ok (.aload_n 0, 1) := by decide +kernel
theorem d_Mo_compress32_22 : decode (a_cc M_Mo_compress32) 22 = .ok (.getfield 59, 3) := by decide +kernel
theorem d_Mo_compress32_25 : decode (a_cc M_Mo_compress32) 25 = .ok (.iconst 4, 1) := by decide +kernel
theorem d_Mo_compress32_26 : decode (a_cc M_Mo_compress32) 26 = .ok (.iload_n 1, 1) := by decide +kernel
theorem d_Mo_compress32_27 : decode (a_cc M_Mo_compress32) 27 = .ok (.imul, 1) := by decide +kernel
theorem d_Mo_compress32_28 : decode (a_cc M_Mo_compress32) 28 = .ok (.iload_n 3, 1) := by decide +kernel
theorem d_Mo_compress32_29 : decode (a_cc M_Mo_compress32) 29 = .ok (.iadd, 1) := by decide +kernel
theorem d_Mo_compress32_30 : decode (a_cc M_Mo_compress32) 30 = .ok (.baload, 1) := by decide +kernel
theorem d_Mo_compress32_31 : decode (a_cc M_Mo_compress32) 31 = .ok (.sipush 255, 3) := by decide +kernel
theorem d_Mo_compress32_34 : decode (a_cc M_Mo_compress32) 34 = .ok (.iand, 1) := by decide +kernel
theorem d_Mo_compress32_35 : decode (a_cc M_Mo_compress32) 35 = .ok (.ior, 1) := by decide +kernel
theorem d_Mo_compress32_36 : decode (a_cc M_Mo_compress32) 36 = .ok (.istore_n 2, 1) := by decide +kernel
theorem d_Mo_compress32_37 : decode (a_cc M_Mo_compress32) 37 = .ok (.iinc 3 1, 3) := by decide +kernel
theorem d_Mo_compress32_40 : decode (a_cc M_Mo_compress32) 40 = .ok (.goto (-28), 3) := by decide +kernel
theorem d_Mo_compress32_43 : decode (a_cc M_Mo_compress32) 43 = .ok (.aload_n 0, 1) := by decide +kernel
theorem d_Mo_compress32_44 : decode (a_cc M_Mo_compress32) 44 = .ok (.getfield 56, 3) := by decide +kernel
theorem d_Mo_compress32_47 : decode (a_cc M_Mo_compress32) 47 = .ok (.iload_n 1, 1) := by decide +kernel
theorem d_Mo_compress32_48 : decode (a_cc M_Mo_compress32) 48 = .ok (.iload_n 2, 1) := by decide +kernel
theorem d_Mo_compress32_49 : decode (a_cc M_Mo_compress32) 49 = .ok (.i2l, 1) := by decide +kernel
theorem d_Mo_compress32_50 : decode (a_cc M_Mo_compress32) 50 = .ok (.lastore, 1) := by decide +kernel
theorem d_Mo_compress32_51 : decode (a_cc M_Mo_compress32) 51 = .ok (.iinc 1 1, 3) := by decide +kernel
theorem d_Mo_compress32_54 : decode (a_cc M_Mo_compress32) 54 = .ok (.goto (-52), 3) := by decide +kernel
theorem d_Mo_compress32_57 : decode (a_cc M_Mo_compress32) 57 = .ok (.bipush 16, 2) := by decide +kernel
theorem d_Mo_compress32_59 : decode (a_cc M_Mo_compress32) 59 = .ok (.istore_n 1, 1) := by decide +kernel
theorem d_Mo_compress32_60 : decode (a_cc M_Mo_compress32) 60 = .ok (.iload_n 1, 1) := by decide +kernel
theorem d_Mo_compress32_61 : decode (a_cc M_Mo_compress32) 61 = .ok (.bipush 64, 2) := by decide +kernel
theorem d_Mo_compress32_63 : decode (a_cc M_Mo_compress32) 63 = .ok (.if_icmp .ge 95, 3) := by decide +kernel
theorem d_Mo_compress32_66 : decode (a_cc M_Mo_compress32) 66 = .ok (.aload_n 0, 1) := by decide +kernel
theorem d_Mo_compress32_67 : decode (a_cc M_Mo_compress32) 67 = .ok (.getfield 56, 3) := by decide +kernel
theorem d_Mo_compress32_70 : decode (a_cc M_Mo_compress32) 70 = .ok (.iload_n 1, 1) := by decide +kernel
theorem d_Mo_compress32_71 : decode (a_cc M_Mo_compress32) 71 = .ok (.iconst 2, 1) := by decide +kernel
theorem d_Mo_compress32_72 : decode (a_cc M_Mo_compress32) 72 = .ok (.isub, 1) := by decide +kernel
theorem d_Mo_compress32_73 : decode (a_cc M_Mo_compress32) 73 = .ok (.laload, 1) := by decide +kernel
theorem d_Mo_compress32_74 : decode (a_cc M_Mo_compress32) 74 = .ok (.l2i, 1) := by decide +kernel
theorem d_Mo_compress32_75 : decode (a_cc M_Mo_compress32) 75 = .ok (.istore_n 2, 1) := by decide +kernel
theorem d_Mo_compress32_76 : decode (a_cc M_Mo_compress32) 76 = .ok (.aload_n 0, 1) := by decide +kernel
theorem d_Mo_compress32_77 : decode (a_cc M_Mo_compress32) 77 = .ok (.getfield 56, 3) := by decide +kernel
theorem d_Mo_compress32_80 : decode (a_cc M_Mo_compress32) 80 = .ok (.iload_n 1, 1) := by decide +kernel
theorem d_Mo_compress32_81 : decode (a_cc M_Mo_compress32) 81 = .ok (.bipush 15, 2) := by decide +kernel
theorem d_Mo_compress32_83 : decode (a_cc M_Mo_compress32) 83 = .ok (.isub, 1) := by decide +kernel
theorem d_Mo_compress32_84 : decode (a_cc M_Mo_compress32) 84 = .ok (.laload, 1) := by decide +kernel
theorem d_Mo_compress32_85 : decode (a_cc M_Mo_compress32) 85 = .ok (.l2i, 1) := by decide +kernel
theorem d_Mo_compress32_86 : decode (a_cc M_Mo_compress32) 86 = .ok (.istore_n 3, 1) := by decide +kernel
theorem d_Mo_compress32_87 : decode (a_cc M_Mo_compress32) 87 = .ok (.aload_n 0, 1) := by decide +kernel
theorem d_Mo_compress32_88 : decode (a_cc M_Mo_compress32) 88 = .ok (.getfield 56, 3) := by decide +kernel
theorem d_Mo_compress32_91 : decode (a_cc M_Mo_compress32) 91 = .ok (.iload_n 1, 1) := by decide +kernel
theorem d_Mo_compress32_92 : decode (a_cc M_Mo_compress32) 92 = .ok (.iload_n 2, 1) := by decide +kernel
theorem d_Mo_compress32_93 : decode (a_cc M_Mo_compress32) 93 = .ok (.bipush 17, 2) := by decide +kernel
theorem d_Mo_compress32_95 : decode (a_cc M_Mo_compress32) 95 = .ok (.invokestatic 206, 3) := by decide +kernel
theorem d_Mo_compress32_98 : decode (a_cc M_Mo_compress32) 98 = .ok (.iload_n 2, 1) := by decide +kernel
theorem d_Mo_compress32_99 : decode (a_cc M_Mo_compress32) 99 = .ok (.bipush 19, 2) := by decide +kernel
theorem d_Mo_compress32_101 : decode (a_cc M_Mo_compress32) 101 = .ok (.invokestatic 206, 3) := by decide +kernel
theorem d_Mo_compress32_104 : decode (a_cc M_Mo_compress32) 104 = .ok (.ixor, 1) := by decide +kernel
theorem d_Mo_compress32_105 : decode (a_cc M_Mo_compress32) 105 = .ok (.iload_n 2, 1) := by decide +kernel
theorem d_Mo_compress32_106 : decode (a_cc M_Mo_compress32) 106 = .ok (.bipush 10, 2) := by decide +kernel
theorem d_Mo_compress32_108 : decode (a_cc M_Mo_compress32) 108 = .ok (.iushr, 1) := by decide +kernel
theorem d_Mo_compress32_109 : decode (a_cc M_Mo_compress32) 109 = .ok (.ixor, 1) := by decide +kernel
theorem d_Mo_compress32_110 : decode (a_cc M_Mo_compress32) 110 = .ok (.aload_n 0, 1) := by decide +kernel
theorem d_Mo_compress32_111 : decode (a_cc M_Mo_compress32) 111 = .ok (.getfield 56, 3) := by decide +kernel
theorem d_Mo_compress32_114 : decode (a_cc M_Mo_compress32) 114 = .ok (.iload_n 1, 1) := by decide +kernel
theorem d_Mo_compress32_115 : decode (a_cc M_Mo_compress32) 115 = .ok (.bipush 7, 2) := by decide +kernel
theorem d_Mo_compress32_117 : decode (a_cc M_Mo_compress32) 117 = .ok (.isub, 1) := by decide +kernel
theorem d_Mo_compress32_118 : decode (a_cc M_Mo_compress32) 118 = .ok (.laload, 1) := by decide +kernel
theorem d_Mo_compress32_119 : decode (a_cc M_Mo_compress32) 119 = .ok (.l2i, 1) := by decide +kernel
theorem d_Mo_compress32_120 : decode (a_cc M_Mo_compress32) 120 = .ok (.iadd, 1) := by decide +kernel
theorem d_Mo_compress32_121 : decode (a_cc M_Mo_compress32) 121 = .ok (.iload_n 3, 1) := by decide +kernel
theorem d_Mo_compress32_122 : decode (a_cc M_Mo_compress32) 122 = .ok (.bipush 7, 2) := by decide +kernel
theorem d_Mo_compress32_124 : decode (a_cc M_Mo_compress32) 124 = .ok (.invokestatic 206, 3) := by decide +kernel
theorem d_Mo_compress32_127 : decode (a_cc M_Mo_compress32) 127 = .ok (.iload_n 3, 1) := by decide +kernel
theorem d_Mo_compress32_128 : decode (a_cc M_Mo_compress32) 128 = .ok (.bipush 18, 2) := by decide +kernel
theorem d_Mo_compress32_130 : decode (a_cc M_Mo_compress32) 130 = .ok (.invokestatic 206, 3) := by decide +kernel
theorem d_Mo_compress32_133 : decode (a_cc M_Mo_compress32) 133 = .ok (.ixor, 1) := by decide +kernel
theorem d_Mo_compress32_134 : decode (a_cc M_Mo_compress32) 134 = .ok (.iload_n 3, 1) := by decide +kernel
theorem d_Mo_compress32_135 : decode (a_cc M_Mo_compress32) 135 = .ok (.iconst 3, 1) := by decide +kernel
theorem d_Mo_compress32_136 : decode (a_cc M_Mo_compress32) 136 = .ok (.iushr, 1) := by decide +kernel
theorem d_Mo_compress32_137 : decode (a_cc M_Mo_compress32) 137 = .ok (.ixor, 1) := by decide +kernel
theorem d_Mo_compress32_138 : decode (a_cc M_Mo_compress32) 138 = .ok (.iadd, 1) := by decide +kernel
theorem d_Mo_compress32_139 : decode (a_cc M_Mo_compress32) 139 = .ok (.aload_n 0, 1) := by decide +kernel
theorem d_Mo_compress32_140 : decode (a_cc M_Mo_compress32) 140 = .ok (.getfield 56, 3) := by decide +kernel
theorem d_Mo_compress32_143 : decode (a_cc M_Mo_compress32) 143 = .ok (.iload_n 1, 1) := by decide +kernel
theorem d_Mo_compress32_144 : decode (a_cc M_Mo_compress32) 144 = .ok (.bipush 16, 2) := by decide +kernel
theorem d_Mo_compress32_146 : decode (a_cc M_Mo_compress32) 146 = .ok (.isub, 1) := by decide +kernel
theorem d_Mo_compress32_147 : decode (a_cc M_Mo_compress32) 147 = .ok (.laload, 1) := by decide +kernel
theorem d_Mo_compress32_148 : decode (a_cc M_Mo_compress32) 148 = .ok (.l2i, 1) := by decide +kernel
theorem d_Mo_compress32_149 : decode (a_cc M_Mo_compress32) 149 = .ok (.iadd, 1) := by decide +kernel
theorem d_Mo_compress32_150 : decode (a_cc M_Mo_compress32) 150 = .ok (.i2l, 1) := by decide +kernel
theorem d_Mo_compress32_151 : decode (a_cc M_Mo_compress32) 151 = .ok (.lastore, 1) := by decide +kernel
theorem d_Mo_compress32_152 : decode (a_cc M_Mo_compress32) 152 = .ok (.iinc 1 1, 3) := by decide +kernel
theorem d_Mo_compress32_155 : decode (a_cc M_Mo_compress32) 155 = .ok (.goto (-95), 3) := by decide +kernel
theorem d_Mo_compress32_158 : decode (a_cc M_Mo_compress32) 158 = .ok (.aload_n 0, 1) := by decide +kernel
theorem d_Mo_compress32_159 : decode (a_cc M_Mo_compress32) 159 = .ok (.getfield 47, 3) := by decide +kernel
theorem d_Mo_compress32_162 : decode (a_cc M_Mo_compress32) 162 = .ok (.iconst 0, 1) := by decide +kernel
theorem d_Mo_compress32_163 : decode (a_cc M_Mo_compress32) 163 = .ok (.laload, 1) := by decide +kernel
theorem d_Mo_compress32_164 : decode (a_cc M_Mo_compress32) 164 = .ok (.l2i, 1) := by decide +kernel
theorem d_Mo_compress32_165 : decode (a_cc M_Mo_compress32) 165 = .ok (.istore_n 1, 1) := by decide +kernel
theorem d_Mo_compress32_166 : decode (a_cc M_Mo_compress32) 166 = .ok (.aload_n 0, 1) := by decide +kernel
theorem d_Mo_compress32_167 : decode (a_cc M_Mo_compress32) 167 = .ok (.getfield 47, 3) := by decide +kernel
theorem d_Mo_compress32_170 : decode (a_cc M_Mo_compress32) 170 = .ok (.iconst 1, 1) := by decide +kernel
theorem d_Mo_compress32_171 : decode (a_cc M_Mo_compress32) 171 = .ok (.laload, 1) := by decide +kernel
theorem d_Mo_compress32_172 : decode (a_cc M_Mo_compress32) 172 = .ok (.l2i, 1) := by decide +kernel
theorem d_Mo_compress32_173 : decode (a_cc M_Mo_compress32) 173 = .ok (.istore_n 2, 1) := by decide +kernel
theorem d_Mo_compress32_174 : decode (a_cc M_Mo_compress32) 174 = .ok (.aload_n 0, 1) := by decide +kernel
theorem d_Mo_compress32_175 : decode (a_cc M_Mo_compress32) 175 = .ok (.getfield 47, 3) := by decide +kernel
theorem d_Mo_compress32_178 : decode (a_cc M_Mo_compress32) 178 = .ok (.iconst 2, 1) := by decide +kernel
theorem d_Mo_compress32_179 : decode (a_cc M_Mo_compress32) 179 = .ok (.laload, 1) := by decide +kernel
theorem d_Mo_compress32_180 : decode (a_cc M_Mo_compress32) 180 = .ok (.l2i, 1) := by decide +kernel
theorem d_Mo_compress32_181 : decode (a_cc M_Mo_compress32) 181 = .ok (.istore_n 3, 1) := by decide +kernel
theorem d_Mo_compress32_182 : decode (a_cc M_Mo_compress32) 182 = .ok (.aload_n 0, 1) := by decide +kernel
theorem d_Mo_compress32_183 : decode (a_cc M_Mo_compress32) 183 = .ok (.getfield 47, 3) := by decide +kernel
theorem d_Mo_compress32_186 : decode (a_cc M_Mo_compress32) 186 = .ok (.iconst 3, 1) := by decide +kernel
theorem d_Mo_compress32_187 : decode (a_cc M_Mo_compress32) 187 = .ok (.laload, 1) := by decide +kernel
theorem d_Mo_compress32_188 : decode (a_cc M_Mo_compress32) 188 = .ok (.l2i, 1) := by decide +kernel
theorem d_Mo_compress32_189 : decode (a_cc M_Mo_compress32) 189 = .ok (.istore 4, 2) := by decide +kernel
theorem d_Mo_compress32_191 : decode (a_cc M_Mo_compress32) 191 = .ok (.aload_n 0, 1) := by decide +kernel
theorem d_Mo_compress32_192 : decode (a_cc M_Mo_compress32) 192 = .ok (.getfield 47, 3) := by decide +kernel
theorem d_Mo_compress32_195 : decode (a_cc M_Mo_compress32) 195 = .ok (.iconst 4, 1) := by decide +kernel
theorem d_Mo_compress32_196 : decode (a_cc M_Mo_compress32) 196 = .ok (.laload, 1) := by decide +kernel
theorem d_Mo_compress32_197 : decode (a_cc M_Mo_compress32) 197 = .ok (.l2i, 1) := by decide +kernel
theorem d_Mo_compress32_198 : decode (a_cc M_Mo_compress32) 198 = .ok (.istore 5, 2) := by decide +kernel
theorem d_Mo_compress32_200 : decode (a_cc M_Mo_compress32) 200 = .ok (.aload_n 0, 1) := by decide +kernel
theorem d_Mo_compress32_201 : decode (a_cc M_Mo_compress32) 201 = .ok (.getfield 47, 3) := by decide +kernel
theorem d_Mo_compress32_204 : decode (a_cc M_Mo_compress32) 204 = .ok (.iconst 5, 1) := by decide +kernel
theorem d_Mo_compress32_205 : decode (a_cc M_Mo_compress32) 205 = .ok (.laload, 1) := by decide +kernel
theorem d_Mo_compress32_206 : decode (a_cc M_Mo_compress32) 206 = .ok (.l2i, 1) := by decide +kernel
theorem d_Mo_compress32_207 : decode (a_cc M_Mo_compress32) 207 = .ok (.istore 6, 2) := by decide +kernel
theorem d_Mo_compress32_209 : decode (a_cc M_Mo_compress32) 209 = .ok (.aload_n 0, 1) := by decide +kernel
theorem d_Mo_compress32_210 : decode (a_cc M_Mo_compress32) 210 = .ok (.getfield 47, 3) := by decide +kernel
theorem d_Mo_compress32_213 : decode (a_cc M_Mo_compress32) 213 = .ok (.bipush 6, 2) := by decide +kernel
theorem d_Mo_compress32_215 : decode (a_cc M_Mo_compress32) 215 = .ok (.laload, 1) := by decide +kernel
theorem d_Mo_compress32_216 : decode (a_cc M_Mo_compress32) 216 = .ok (.l2i, 1) := by decide +kernel
theorem d_Mo_compress32_217 : decode (a_cc M_Mo_compress32) 217 = .ok (.istore 7, 2) := by decide +kernel
theorem d_Mo_compress32_219 : decode (a_cc M_Mo_compress32) 219 = .ok (.aload_n 0, 1) := by decide +kernel
theorem d_Mo_compress32_220 : decode (a_cc M_Mo_compress32) 220 = .ok (.getfield 47, 3) := by decide +kernel
theorem d_Mo_compress32_223 : decode (a_cc M_Mo_compress32) 223 = .ok (.bipush 7, 2) := by decide +kernel
theorem d_Mo_compress32_225 : decode (a_cc M_Mo_compress32) 225 = .ok (.laload, 1) := by decide +kernel
theorem d_Mo_compress32_226 : decode (a_cc M_Mo_compress32) 226 = .ok (.l2i, 1) := by decide +kernel
theorem d_Mo_compress32_227 : decode (a_cc M_Mo_compress32) 227 = .ok (.istore 8, 2) := by decide +kernel
theorem d_Mo_compress32_229 : decode (a_cc M_Mo_compress32) 229 = .ok (.iconst 0, 1) := by decide +kernel
theorem d_Mo_compress32_230 : decode (a_cc M_Mo_compress32) 230 = .ok (.istore 9, 2) := by decide +kernel
theorem d_Mo_compress32_232 : decode (a_cc M_Mo_compress32) 232 = .ok (.iload 9, 2) := by decide +kernel
theorem d_Mo_compress32_234 : decode (a_cc M_Mo_compress32) 234 = .ok (.bipush 64, 2) := by decide +kernel
theorem d_Mo_compress32_236 : decode (a_cc M_Mo_compress32) 236 = .ok (.if_icmp .ge 137, 3) := by decide +kernel
theorem d_Mo_compress32_239 : decode (a_cc M_Mo_compress32) 239 = .ok (.iload 8, 2) := by decide +kernel
theorem d_Mo_compress32_241 : decode (a_cc M_Mo_compress32) 241 = .ok (.iload 5, 2) := by decide +kernel
theorem d_Mo_compress32_243 : decode (a_cc M_Mo_compress32) 243 = .ok (.bipush 6, 2) := by decide +kernel
theorem d_Mo_compress32_245 : decode (a_cc M_Mo_compress32) 245 = .ok (.invokestatic 206, 3) := by decide +kernel
theorem d_Mo_compress32_248 : decode (a_cc M_Mo_compress32) 248 = .ok (.iload 5, 2) := by decide +kernel
theorem d_Mo_compress32_250 : decode (a_cc M_Mo_compress32) 250 = .ok (.bipush 11, 2) := by decide +kernel
theorem d_Mo_compress32_252 : decode (a_cc M_Mo_compress32) 252 = .ok (.invokestatic 206, 3) := by decide +kernel
theorem d_Mo_compress32_255 : decode (a_cc M_Mo_compress32) 255 = .ok (.ixor, 1) := by decide +kernel
theorem d_Mo_compress32_256 : decode (a_cc M_Mo_compress32) 256 = .ok (.iload 5, 2) := by decide +kernel
theorem d_Mo_compress32_258 : decode (a_cc M_Mo_compress32) 258 = .ok (.bipush 25, 2) := by decide +kernel
theorem d_Mo_compress32_260 : decode (a_cc M_Mo_compress32) 260 = .ok (.invokestatic 206, 3) := by decide +kernel
theorem d_Mo_compress32_263 : decode (a_cc M_Mo_compress32) 263 = .ok (.ixor, 1) := by decide +kernel
theorem d_Mo_compress32_264 : decode (a_cc M_Mo_compress32) 264 = .ok (.iadd, 1) := by decide +kernel
theorem d_Mo_compress32_265 : decode (a_cc M_Mo_compress32) 265 = .ok (.iload 5, 2) := by decide +kernel
theorem d_Mo_compress32_267 : decode (a_cc M_Mo_compress32) 267 = .ok (.iload 6, 2) := by decide +kernel
theorem d_Mo_compress32_269 : decode (a_cc M_Mo_compress32) 269 = .ok (.iand, 1) := by decide +kernel
theorem d_Mo_compress32_270 : decode (a_cc M_Mo_compress32) 270 = .ok (.iload 5, 2) := by decide +kernel
theorem d_Mo_compress32_272 : decode (a_cc M_Mo_compress32) 272 = .ok (.iconst (-1), 1) := by decide +kernel
theorem d_Mo_compress32_273 : decode (a_cc M_Mo_compress32) 273 = .ok (.ixor, 1) := by decide +kernel
theorem d_Mo_compress32_274 : decode (a_cc M_Mo_compress32) 274 = .ok (.iload 7, 2) := by decide +kernel
theorem d_Mo_compress32_276 : decode (a_cc M_Mo_compress32) 276 = .ok (.iand, 1) := by decide +kernel
theorem d_Mo_compress32_277 : decode (a_cc M_Mo_compress32) 277 = .ok (.ixor, 1) := by decide +kernel
theorem d_Mo_compress32_278 : decode (a_cc M_Mo_compress32) 278 = .ok (.iadd, 1) := by decide +kernel
theorem d_Mo_compress32_279 : decode (a_cc M_Mo_compress32) 279 = .ok (.aload_n 0, 1) := by decide +kernel
theorem d_Mo_compress32_280 : decode (a_cc M_Mo_compress32) 280 = .ok (.getfield 26, 3) := by decide +kernel
theorem d_Mo_compress32_283 : decode (a_cc M_Mo_compress32) 283 = .ok (.iload 9, 2) := by decide +kernel
theorem d_Mo_compress32_285 : decode (a_cc M_Mo_compress32) 285 = .ok (.laload, 1) := by decide +kernel
theorem d_Mo_compress32_286 : decode (a_cc M_Mo_compress32) 286 = .ok (.bipush 32, 2) := by decide +kernel
theorem d_Mo_compress32_288 : decode (a_cc M_Mo_compress32) 288 = .ok (.lushr, 1) := by decide +kernel
theorem d_Mo_compress32_289 : decode (a_cc M_Mo_compress32) 289 = .ok (.l2i, 1) := by decide +kernel
theorem d_Mo_compress32_290 : decode (a_cc M_Mo_compress32) 290 = .ok (.iadd, 1) := by decide +kernel
theorem d_Mo_compress32_291 : decode (a_cc M_Mo_compress32) 291 = .ok (.aload_n 0, 1) := by decide +kernel
theorem d_Mo_compress32_292 : decode (a_cc M_Mo_compress32) 292 = .ok (.getfield 56, 3) := by decide +kernel
theorem d_Mo_compress32_295 : decode (a_cc M_Mo_compress32) 295 = .ok (.iload 9, 2) := by decide +kernel
theorem d_Mo_compress32_297 : decode (a_cc M_Mo_compress32) 297 = .ok (.laload, 1) := by decide +kernel
theorem d_Mo_compress32_298 : decode (a_cc M_Mo_compress32) 298 = .ok (.l2i, 1) := by decide +kernel
theorem d_Mo_compress32_299 : decode (a_cc M_Mo_compress32) 299 = .ok (.iadd, 1) := by decide +kernel
theorem d_Mo_compress32_300 : decode (a_cc M_Mo_compress32) 300 = .ok (.istore 10, 2) := by decide +kernel
theorem d_Mo_compress32_302 : decode (a_cc M_Mo_compress32) 302 = .ok (.iload_n 1, 1) := by decide +kernel
theorem d_Mo_compress32_303 : decode (a_cc M_Mo_compress32) 303 = .ok (.iconst 2, 1) := by decide +kernel
theorem d_Mo_compress32_304 : decode (a_cc M_Mo_compress32) 304 = .ok (.invokestatic 206, 3) := by decide +kernel
theorem d_Mo_compress32_307 : decode (a_cc M_Mo_compress32) 307 = .ok (.iload_n 1, 1) := by decide +kernel
theorem d_Mo_compress32_308 : decode (a_cc M_Mo_compress32) 308 = .ok (.bipush 13, 2) := by decide +kernel
theorem d_Mo_compress32_310 : decode (a_cc M_Mo_compress32) 310 = .ok (.invokestatic 206, 3) := by decide +kernel
theorem d_Mo_compress32_313 : decode (a_cc M_Mo_compress32) 313 = .ok (.ixor, 1) := by decide +kernel
theorem d_Mo_compress32_314 : decode (a_cc M_Mo_compress32) 314 = .ok (.iload_n 1, 1) := by decide +kernel
theorem d_Mo_compress32_315 : decode (a_cc M_Mo_compress32) 315 = .ok (.bipush 22, 2) := by decide +kernel
theorem d_Mo_compress32_317 : decode (a_cc M_Mo_compress32) 317 = .ok (.invokestatic 206, 3) := by decide +kernel
theorem d_Mo_compress32_320 : decode (a_cc M_Mo_compress32) 320 = .ok (.ixor, 1) := by decide +kernel
theorem d_Mo_compress32_321 : decode (a_cc M_Mo_compress32) 321 = .ok (.iload_n 1, 1) := by decide +kernel
theorem d_Mo_compress32_322 : decode (a_cc M_Mo_compress32) 322 = .ok (.iload_n 2, 1) := by decide +kernel
theorem d_Mo_compress32_323 : decode (a_cc M_Mo_compress32) 323 = .ok (.iand, 1) := by decide +kernel
theorem d_Mo_compress32_324 : decode (a_cc M_Mo_compress32) 324 = .ok (.iload_n 1, 1) := by decide +kernel
theorem d_Mo_compress32_325 : decode (a_cc M_Mo_compress32) 325 = .ok (.iload_n 3, 1) := by decide +kernel
theorem d_Mo_compress32_326 : decode (a_cc M_Mo_compress32) 326 = .ok (.iand, 1) := by decide +kernel
theorem d_Mo_compress32_327 : decode (a_cc M_Mo_compress32) 327 = .ok (.ixor, 1) := by decide +kernel
theorem d_Mo_compress32_328 : decode (a_cc M_Mo_compress32) 328 = .ok (.iload_n 2, 1) := by decide +kernel
theorem d_Mo_compress32_329 : decode (a_cc M_Mo_compress32) 329 = .ok (.iload_n 3, 1) := by decide +kernel
theorem d_Mo_compress32_330 : decode (a_cc M_Mo_compress32) 330 = .ok (.iand, 1) := by decide +kernel
theorem d_Mo_compress32_331 : decode (a_cc M_Mo_compress32) 331 = .ok (.ixor, 1) := by decide +kernel
theorem d_Mo_compress32_332 : decode (a_cc M_Mo_compress32) 332 = .ok (.iadd, 1) := by decide +kernel
theorem d_Mo_compress32_333 : decode (a_cc M_Mo_compress32) 333 = .ok (.istore 11, 2) := by decide +kernel
theorem d_Mo_compress32_335 : decode (a_cc M_Mo_compress32) 335 = .ok (.iload 7, 2) := by decide +kernel
theorem d_Mo_compress32_337 : decode (a_cc M_Mo_compress32) 337 = .ok (.istore 8, 2) := by decide +kernel
theorem d_Mo_compress32_339 : decode (a_cc M_Mo_compress32) 339 = .ok (.iload 6, 2) := by decide +kernel
theorem d_Mo_compress32_341 : decode (a_cc M_Mo_compress32) 341 = .ok (.istore 7, 2) := by decide +kernel
theorem d_Mo_compress32_343 : decode (a_cc M_Mo_compress32) 343 = .ok (.iload 5, 2) := by decide +kernel
theorem d_Mo_compress32_345 : decode (a_cc M_Mo_compress32) 345 = .ok (.istore 6, 2) := by decide +kernel
theorem d_Mo_compress32_347 : decode (a_cc M_Mo_compress32) 347 = .ok (.iload 4, 2) := by decide +kernel
theorem d_Mo_compress32_349 : decode (a_cc M_Mo_compress32) 349 = .ok (.iload 10, 2) := by decide +kernel
theorem d_Mo_compress32_351 : decode (a_cc M_Mo_compress32) 351 = .ok (.iadd, 1) := by decide +kernel
theorem d_Mo_compress32_352 : decode (a_cc M_Mo_compress32) 352 = .ok (.istore 5, 2) := by decide +kernel
theorem d_Mo_compress32_354 : decode (a_cc M_Mo_compress32) 354 = .ok (.iload_n 3, 1) := by decide +kernel
theorem d_Mo_compress32_355 : decode (a_cc M_Mo_compress32) 355 = .ok (.istore 4, 2) := by decide +kernel
theorem d_Mo_compress32_357 : decode (a_cc M_Mo_compress32) 357 = .ok (.iload_n 2, 1) := by decide +kernel
theorem d_Mo_compress32_358 : decode (a_cc M_Mo_compress32) 358 = .ok (.istore_n 3, 1) := by decide +kernel
theorem d_Mo_compress32_359 : decode (a_cc M_Mo_compress32) 359 = .ok (.iload_n 1, 1) := by decide +kernel
theorem d_Mo_compress32_360 : decode (a_cc M_Mo_compress32) 360 = .ok (.istore_n 2, 1) := by decide +kernel
theorem d_Mo_compress32_361 : decode (a_cc M_Mo_compress32) 361 = .ok (.iload 10, 2) := by decide +kernel
theorem d_Mo_compress32_363 : decode (a_cc M_Mo_compress32) 363 = .ok (.iload 11, 2) := by decide +kernel
theorem d_Mo_compress32_365 : decode (a_cc M_Mo_compress32) 365 = .ok (.iadd, 1) := by decide +kernel
theorem d_Mo_compress32_366 : decode (a_cc M_Mo_compress32) 366 = .ok (.istore_n 1, 1) := by decide +kernel
theorem d_Mo_compress32_367 : decode (a_cc M_Mo_compress32) 367 = .ok (.iinc 9 1, 3) := by decide +kernel
theorem d_Mo_compress32_370 : decode (a_cc M_Mo_compress32) 370 = .ok (.goto (-138), 3) := by decide +kernel
theorem d_Mo_compress32_373 : decode (a_cc M_Mo_compress32) 373 = .ok (.aload_n 0, 1) := by decide +kernel
theorem d_Mo_compress32_374 : decode (a_cc M_Mo_compress32) 374 = .ok (.getfield 47, 3) := by decide +kernel
theorem d_Mo_compress32_377 : decode (a_cc M_Mo_compress32) 377 = .ok (.iconst 0, 1) := by decide +kernel
theorem d_Mo_compress32_378 : decode (a_cc M_Mo_compress32) 378 = .ok (.dup2, 1) := by decide +kernel
theorem d_Mo_compress32_379 : decode (a_cc M_Mo_compress32) 379 = .ok (.laload, 1) := by decide +kernel
theorem d_Mo_compress32_380 : decode (a_cc M_Mo_compress32) 380 = .ok (.iload_n 1, 1) := by decide +kernel
theorem d_Mo_compress32_381 : decode (a_cc M_Mo_compress32) 381 = .ok (.i2l, 1) := by decide +kernel
theorem d_Mo_compress32_382 : decode (a_cc M_Mo_compress32) 382 = .ok (.ladd, 1) := by decide +kernel
theorem d_Mo_compress32_383 : decode (a_cc M_Mo_compress32) 383 = .ok (.lastore, 1) := by decide +kernel
theorem d_Mo_compress32_384 : decode (a_cc M_Mo_compress32) 384 = .ok (.aload_n 0, 1) := by decide +kernel
theorem d_Mo_compress32_385 : decode (a_cc M_Mo_compress32) 385 = .ok (.getfield 47, 3) := by decide +kernel
theorem d_Mo_compress32_388 : decode (a_cc M_Mo_compress32) 388 = .ok (.iconst 1, 1) := by decide +kernel
theorem d_Mo_compress32_389 : decode (a_cc M_Mo_compress32) 389 = .ok (.dup2, 1) := by decide +kernel
theorem d_Mo_compress32_390 : decode (a_cc M_Mo_compress32) 390 = .ok (.laload, 1) := by decide +kernel
theorem d_Mo_compress32_391 : decode (a_cc M_Mo_compress32) 391 = .ok (.iload_n 2, 1) := by decide +kernel
theorem d_Mo_compress32_392 : decode (a_cc M_Mo_compress32) 392 = .ok (.i2l, 1) := by decide +kernel
theorem d_Mo_compress32_393 : decode (a_cc M_Mo_compress32) 393 = .ok (.ladd, 1) := by decide +kernel
theorem d_Mo_compress32_394 : decode (a_cc M_Mo_compress32) 394 = .ok (.lastore, 1) := by decide +kernel
theorem d_Mo_compress32_395 : decode (a_cc M_Mo_compress32) 395 = .ok (.aload_n 0, 1) := by decide +kernel
theorem d_Mo_compress32_396 : decode (a_cc M_Mo_compress32) 396 = .ok (.getfield 47, 3) := by decide +kernel
theorem d_Mo_compress32_399 : decode (a_cc M_Mo_compress32) 399 = .ok (.iconst 2, 1) := by decide +kernel
theorem d_Mo_compress32_400 : decode (a_cc M_Mo_compress32) 400 = .ok (.dup2, 1) := by decide +kernel
theorem d_Mo_compress32_401 : decode (a_cc M_Mo_compress32) 401 = .ok (.laload, 1) := by decide +kernel
theorem d_Mo_compress32_402 : decode (a_cc M_Mo_compress32) 402 = .ok (.iload_n 3, 1) := by decide +kernel
theorem d_Mo_compress32_403 : decode (a_cc M_Mo_compress32) 403 = .ok (.i2l, 1) := by decide +kernel
theorem d_Mo_compress32_404 : decode (a_cc M_Mo_compress32) 404 = .ok (.ladd, 1) := by decide +kernel
theorem d_Mo_compress32_405 : decode (a_cc M_Mo_compress32) 405 = .ok (.lastore, 1) := by decide +kernel
theorem d_Mo_compress32_406 : decode (a_cc M_Mo_compress32) 406 = .ok (.aload_n 0, 1) := by decide +kernel
theorem d_Mo_compress32_407 : decode (a_cc M_Mo_compress32) 407 = .ok (.getfield 47, 3) := by decide +kernel
theorem d_Mo_compress32_410 : decode (a_cc M_Mo_compress32) 410 = .ok (.iconst 3, 1) := by decide +kernel
theorem d_Mo_compress32_411 : decode (a_cc M_Mo_compress32) 411 = .ok (.dup2, 1) := by decide +kernel
theorem d_Mo_compress32_412 : decode (a_cc M_Mo_compress32) 412 = .ok (.laload, 1) := by decide +kernel
theorem d_Mo_compress32_413 : decode (a_cc M_Mo_compress32) 413 = .ok (.iload 4, 2) := by decide +kernel
theorem d_Mo_compress32_415 : decode (a_cc M_Mo_compress32) 415 = .ok (.i2l, 1) := by decide +kernel
theorem d_Mo_compress32_416 : decode (a_cc M_Mo_compress32) 416 = .ok (.ladd, 1) := by decide +kernel
theorem d_Mo_compress32_417 : decode (a_cc M_Mo_compress32) 417 = .ok (.lastore, 1) := by decide +kernel
theorem d_Mo_compress32_418 : decode (a_cc M_Mo_compress32) 418 = .ok (.aload_n 0, 1) := by decide +kernel
theorem d_Mo_compress32_419 : decode (a_cc M_Mo_compress32) 419 = .ok (.getfield 47, 3) := by decide +kernel
theorem d_Mo_compress32_422 : decode (a_cc M_Mo_compress32) 422 = .ok (.iconst 4, 1) := by decide +kernel
theorem d_Mo_compress32_423 : decode (a_cc M_Mo_compress32) 423 = .ok (.dup2, 1) := by decide +kernel
theorem d_Mo_compress32_424 : decode (a_cc M_Mo_compress32) 424 = .ok (.laload, 1) := by decide +kernel
theorem d_Mo_compress32_425 : decode (a_cc M_Mo_compress32) 425 = .ok (.iload 5, 2) := by decide +kernel
theorem d_Mo_compress32_427 : decode (a_cc M_Mo_compress32) 427 = .ok (.i2l, 1) := by decide +kernel
theorem d_Mo_compress32_428 : decode (a_cc M_Mo_compress32) 428 = .ok (.ladd, 1) := by decide +kernel
theorem d_Mo_compress32_429 : decode (a_cc M_Mo_compress32) 429 = .ok (.lastore, 1) := by decide +kernel
theorem d_Mo_compress32_430 : decode (a_cc M_Mo_compress32) 430 = .ok (.aload_n 0, 1) := by decide +kernel
theorem d_Mo_compress32_431 : decode (a_cc M_Mo_compress32) 431 = .ok (.getfield 47, 3) := by decide +kernel
theorem d_Mo_compress32_434 : decode (a_cc M_Mo_compress32) 434 = .ok (.iconst 5, 1) := by decide +kernel
theorem d_Mo_compress32_435 : decode (a_cc M_Mo_compress32) 435 = .ok (.dup2, 1) := by decide +kernel
theorem d_Mo_compress32_436 : decode (a_cc M_Mo_compress32) 436 = .ok (.laload, 1) := by decide +kernel
theorem d_Mo_compress32_437 : decode (a_cc M_Mo_compress32) 437 = .ok (.iload 6, 2) := by decide +kernel
theorem d_Mo_compress32_439 : decode (a_cc M_Mo_compress32) 439 = .ok (.i2l, 1) := by decide +kernel
theorem d_Mo_compress32_440 : decode (a_cc M_Mo_compress32) 440 = .ok (.ladd, 1) := by decide +kernel
theorem d_Mo_compress32_441 : decode (a_cc M_Mo_compress32) 441 = .ok (.lastore, 1) := by decide +kernel
theorem d_Mo_compress32_442 : decode (a_cc M_Mo_compress32) 442 = .ok (.aload_n 0, 1) := by decide +kernel
theorem d_Mo_compress32_443 : decode (a_cc M_Mo_compress32) 443 = .ok (.getfield 47, 3) := by decide +kernel
theorem d_Mo_compress32_446 : decode (a_cc M_Mo_compress32) 446 = .ok (.bipush 6, 2) := by decide +kernel
theorem d_Mo_compress32_448 : decode (a_cc M_Mo_compress32) 448 = .ok (.dup2, 1) := by decide +kernel
theorem d_Mo_compress32_449 : decode (a_cc M_Mo_compress32) 449 = .ok (.laload, 1) := by decide +kernel
theorem d_Mo_compress32_450 : decode (a_cc M_Mo_compress32) 450 = .ok (.iload 7, 2) := by decide +kernel
theorem d_Mo_compress32_452 : decode (a_cc M_Mo_compress32) 452 = .ok (.i2l, 1) := by decide +kernel
theorem d_Mo_compress32_453 : decode (a_cc M_Mo_compress32) 453 = .ok (.ladd, 1) := by decide +kernel
theorem d_Mo_compress32_454 : decode (a_cc M_Mo_compress32) 454 = .ok (.lastore, 1) := by decide +kernel
theorem d_Mo_compress32_455 : decode (a_cc M_Mo_compress32) 455 = .ok (.aload_n 0, 1) := by decide +kernel
theorem d_Mo_compress32_456 : decode (a_cc M_Mo_compress32) 456 = .ok (.getfield 47, 3) := by decide +kernel
theorem d_Mo_compress32_459 : decode (a_cc M_Mo_compress32) 459 = .ok (.bipush 7, 2) := by decide +kernel
theorem d_Mo_compress32_461 : decode (a_cc M_Mo_compress32) 461 = .ok (.dup2, 1) := by decide +kernel
theorem d_Mo_compress32_462 : decode (a_cc M_Mo_compress32) 462 = .ok (.laload, 1) := by decide +kernel
theorem d_Mo_compress32_463 : decode (a_cc M_Mo_compress32) 463 = .ok (.iload 8, 2) := by decide +kernel
theorem d_Mo_compress32_465 : decode (a_cc M_Mo_compress32) 465 = .ok (.i2l, 1) := by decide +kernel
theorem d_Mo_compress32_466 : decode (a_cc M_Mo_compress32) 466 = .ok (.ladd, 1) := by decide +kernel
theorem d_Mo_compress32_467 : decode (a_cc M_Mo_compress32) 467 = .ok (.lastore, 1) := by decide +kernel
theorem d_Mo_compress32_468 : decode (a_cc M_Mo_compress32) 468 = .ok (.return_, 1) := by decide +kernel
theorem fd_Mo_59 : a_Fd "ModuleSignerModel" 59 10 17 2 := ⟨by decide, by decide, rfl, List.mem_append_right _ (List.mem_of_getElem? (i := 1115) (by decide +kernel))⟩
theorem fd_Mo_56 : a_Fd "ModuleSignerModel" 56 10 16 2 := ⟨by decide, by decide, rfl, List.mem_append_right _ (List.mem_of_getElem? (i := 1114) (by decide +kernel))⟩
theorem cs_Mo_compress32_95 : a_CS M_Mo_compress32 M_Mo_turn 206 2 2 2 := ⟨⟨ok_Mo_turn, by decide, by decide, by decide⟩, List.mem_append_right _ (List.mem_of_getElem? (i := 1083) (by decide +kernel)), List.mem_append_right _ (List.mem_of_getElem? (i := 1084) (by decide +kernel)), by decide +kernel⟩
theorem cs_Mo_compress32_101 : a_CS M_Mo_compress32 M_Mo_turn 206 2 3 2 := ⟨⟨ok_Mo_turn, by decide, by decide, by decide⟩, List.mem_append_right _ (List.mem_of_getElem? (i := 1083) (by decide +kernel)), List.mem_append_right _ (List.mem_of_getElem? (i := 1084) (by decide +kernel)), by decide +kernel⟩
theorem cs_Mo_compress32_124 : a_CS M_Mo_compress32 M_Mo_turn 206 2 3 2 := ⟨⟨ok_Mo_turn, by decide, by decide, by decide⟩, List.mem_append_right _ (List.mem_of_getElem? (i := 1083) (by decide +kernel)), List.mem_append_right _ (List.mem_of_getElem? (i := 1084) (by decide +kernel)), by decide +kernel⟩
theorem cs_Mo_compress32_130 : a_CS M_Mo_compress32 M_Mo_turn 206 2 4 2 := ⟨⟨ok_Mo_turn, by decide, by decide, by decide⟩, List.mem_append_right _ (List.mem_of_getElem? (i := 1083) (by decide +kernel)), List.mem_append_right _ (List.mem_of_getElem? (i := 1084) (by decide +kernel)), by decide +kernel⟩
theorem cs_Mo_compress32_245 : a_CS M_Mo_compress32 M_Mo_turn 206 2 1 2 := ⟨⟨ok_Mo_turn, by decide, by decide, by decide⟩, List.mem_append_right _ (List.mem_of_getElem? (i := 1083) (by decide +kernel)), List.mem_append_right _ (List.mem_of_getElem? (i := 1084) (by decide +kernel)), by decide +kernel⟩
theorem cs_Mo_compress32_252 : a_CS M_Mo_compress32 M_Mo_turn 206 2 2 2 := ⟨⟨ok_Mo_turn, by decide, by decide, by decide⟩, List.mem_append_right _ (List.mem_of_getElem? (i := 1083) (by decide +kernel)), List.mem_append_right _ (List.mem_of_getElem? (i := 1084) (by decide +kernel)), by decide +kernel⟩
theorem cs_Mo_compress32_260 : a_CS M_Mo_compress32 M_Mo_turn 206 2 2 2 := ⟨⟨ok_Mo_turn, by decide, by decide, by decide⟩, List.mem_append_right _ (List.mem_of_getElem? (i := 1083) (by decide +kernel)), List.mem_append_right _ (List.mem_of_getElem? (i := 1084) (by decide +kernel)), by decide +kernel⟩
theorem fd_Mo_26 : a_Fd "ModuleSignerModel" 26 10 6 2 := ⟨by decide, by decide, rfl, List.mem_append_right _ (List.mem_of_getElem? (i := 1104) (by decide +kernel))⟩
theorem cs_Mo_compress32_304 : a_CS M_Mo_compress32 M_Mo_turn 206 2 0 2 := ⟨⟨ok_Mo_turn, by decide, by decide, by decide⟩, List.mem_append_right _ (List.mem_of_getElem? (i := 1083) (by decide +kernel)), List.mem_append_right _ (List.mem_of_getElem? (i := 1084) (by decide +kernel)), by decide +kernel⟩
theorem cs_Mo_compress32_310 : a_CS M_Mo_compress32 M_Mo_turn 206 2 1 2 := ⟨⟨ok_Mo_turn, by decide, by decide, by decide⟩, List.mem_append_right _ (List.mem_of_getElem? (i := 1083) (by decide +kernel)), List.mem_append_right _ (List.mem_of_getElem? (i := 1084) (by decide +kernel)), by decide +kernel⟩
theorem cs_Mo_compress32_317 : a_CS M_Mo_compress32 M_Mo_turn 206 2 1 2 := ⟨⟨ok_Mo_turn, by decide, by decide, by decide⟩, List.mem_append_right _ (List.mem_of_getElem? (i := 1083) (by decide +kernel)), List.mem_append_right _ (List.mem_of_getElem? (i := 1084) (by decide +kernel)), by decide +kernel⟩
def M_Mo_right : a_M := (⟨"ModuleSignerModel", "right", "(JI)J"⟩, prog_12_method_31_code, 3, some .long, "ModuleSignerModel", 0, 0, [])
theorem ok_Mo_right : a_Ok M_Mo_right := ⟨rfl, by decide +kernel, ⟨by decide, by decide⟩, List.mem_append_right _ (List.mem_of_getElem? (i := 11) (by decide +kernel)), Or.inl ⟨rfl, List.mem_append_right _ (List.mem_of_getElem? (i := 1092) (by decide +kernel))⟩⟩
theorem d_Mo_right_0 : decode (a_cc M_Mo_right) 0 = .ok (.lload_n 0, 1) := by decide +kernel
theorem d_Mo_right_1 : decode (a_cc M_Mo_right) 1 = .ok (.iload_n 2, 1) := by decide +kernel
theorem d_Mo_right_2 : decode (a_cc M_Mo_right) 2 = .ok (.lushr, 1) := by decide +kernel
theorem d_Mo_right_3 : decode (a_cc M_Mo_right) 3 = .ok (.lload_n 0, 1) := by decide +kernel
theorem d_Mo_right_4 : decode (a_cc M_Mo_right) 4 = .ok (.bipush 64, 2) := by decide +kernel
theorem d_Mo_right_6 : decode (a_cc M_Mo_right) 6 = .ok (.iload_n 2, 1) := by decide +kernel
theorem d_Mo_right_7 : decode (a_cc M_Mo_right) 7 = .ok (.isub, 1) := by decide +kernel
theorem d_Mo_right_8 : decode (a_cc M_Mo_right) 8 = .ok (.lshl, 1) := by decide +kernel
theorem d_Mo_right_9 : decode (a_cc M_Mo_right) 9 = .ok (.lor, 1) := by decide +kernel
theorem d_Mo_right_10 : decode (a_cc M_Mo_right) 10 = .ok (.lreturn, 1) := by decide +kernel
def M_Mo_compress64 : a_M := (⟨"ModuleSignerModel", "compress64", "()V"⟩, prog_12_method_33_code, 22, none, "ModuleSignerModel", 1, 20, [])
theorem ok_Mo_compress64 : a_Ok M_Mo_compress64 := ⟨rfl, by decide +kernel, ⟨by decide, by decide⟩, List.mem_append_right _ (List.mem_of_getElem? (i := 11) (by decide +kernel)), Or.inl ⟨rfl, List.mem_append_right _ (List.mem_of_getElem? (i := 1089) (by decide +kernel))⟩⟩
theorem d_Mo_compress64_0 : decode (a_cc M_Mo_compress64) 0 = .ok (.iconst 0, 1) := by decide +kernel
theorem d_Mo_compress64_1 : decode (a_cc M_Mo_compress64) 1 = .ok (.istore_n 1, 1) := by decide +kernel
theorem d_Mo_compress64_2 : decode (a_cc M_Mo_compress64) 2 = .ok (.iload_n 1, 1) := by decide +kernel
theorem d_Mo_compress64_3 : decode (a_cc M_Mo_compress64) 3 = .ok (.bipush 16, 2) := by decide +kernel
theorem d_Mo_compress64_5 : decode (a_cc M_Mo_compress64) 5 = .ok (.if_icmp .ge 62, 3) := by decide +kernel
theorem d_Mo_compress64_8 : decode (a_cc M_Mo_compress64) 8 = .ok (.aload_n 0, 1) := by decide +kernel
theorem d_Mo_compress64_9 : decode (a_cc M_Mo_compress64) 9 = .ok (.getfield 56, 3) := by decide +kernel
theorem d_Mo_compress64_12 : decode (a_cc M_Mo_compress64) 12 = .ok (.iload_n 1, 1) := by decide +kernel
theorem d_Mo_compress64_13 : decode (a_cc M_Mo_compress64) 13 = .ok (.lconst 0, 1) := by decide +kernel
theorem d_Mo_compress64_14 : decode (a_cc M_Mo_compress64) 14 = .ok (.lastore, 1) := by decide +kernel
theorem d_Mo_compress64_15 : decode (a_cc M_Mo_compress64) 15 = .ok (.iconst 0, 1) := by decide +kernel
theorem d_Mo_compress64_16 : decode (a_cc M_Mo_compress64) 16 = .ok (.istore_n 2, 1) := by decide +kernel
theorem d_Mo_compress64_17 : decode (a_cc M_Mo_compress64) 17 = .ok (.iload_n 2, 1) := by decide +kernel
theorem d_Mo_compress64_18 : decode (a_cc M_Mo_compress64) 18 = .ok (.bipush 8, 2) := by decide +kernel
theorem d_Mo_compress64_20 : decode (a_cc M_Mo_compress64) 20 = .ok (.if_icmp .ge 41, 3) := by decide +kernel
theorem d_Mo_compress64_23 : decode (a_cc M_Mo_compress64) 23 = .ok (.aload_n 0, 1) := by decide +kernel
theorem d_Mo_compress64_24 : decode (a_cc M_Mo_compress64) 24 = .ok (.getfield 56, 3) := by decide +kernel
theorem d_Mo_compress64_27 : decode (a_cc M_Mo_compress64) 27 = .ok (.iload_n 1, 1) := by decide +kernel
theorem d_Mo_compress64_28 : decode (a_cc M_Mo_compress64) 28 = .ok (.aload_n 0, 1) := by decide +kernel
theorem d_Mo_compress64_29 : decode (a_cc M_Mo_compress64) 29 = .ok (.getfield 56, 3) := by decide +kernel
theorem d_Mo_compress64_32 : decode (a_cc M_Mo_compress64) 32 = .ok (.iload_n 1, 1) := by decide +kernel
theorem d_Mo_compress64_33 : decode (a_cc M_Mo_compress64) 33 = .ok (.laload, 1) := by decide +kernel
theorem d_Mo_compress64_34 : decode (a_cc M_Mo_compress64) 34 = .ok (.bipush 8, 2) := by decide +kernel
theorem d_Mo_compress64_36 : decode (a_cc M_Mo_compress64) 36 = .ok (.lshl, 1) := by decide +kernel
theorem d_Mo_compress64_37 : decode (a_cc M_Mo_compress64) 37 = .ok (.aload_n 0, 1) := by decide +kernel
theorem d_Mo_compress64_38 : decode (a_cc M_Mo_compress64) 38 = .ok (.getfield 59, 3) := by decide +kernel
theorem d_Mo_compress64_41 : decode (a_cc M_Mo_compress64) 41 = .ok (.bipush 8, 2) := by decide +kernel
theorem d_Mo_compress64_43 : decode (a_cc M_Mo_compress64) 43 = .ok (.iload_n 1, 1) := by decide +kernel
theorem d_Mo_compress64_44 : decode (a_cc M_Mo_compress64) 44 = .ok (.imul, 1) := by decide +kernel
theorem d_Mo_compress64_45 : decode (a_cc M_Mo_compress64) 45 = .ok (.iload_n 2, 1) := by decide +kernel
theorem d_Mo_compress64_46 : decode (a_cc M_Mo_compress64) 46 = .ok (.iadd, 1) := by decide +kernel
theorem d_Mo_compress64_47 : decode (a_cc M_Mo_compress64) 47 = .ok (.baload, 1) := by decide +kernel
theorem d_Mo_compress64_48 : decode (a_cc M_Mo_compress64) 48 = .ok (.i2l, 1) := by decide +kernel
theorem d_Mo_compress64_49 : decode (a_cc M_Mo_compress64) 49 = .ok (.ldc2_w 124, 3) := by decide +kernel
theorem d_Mo_compress64_52 : decode (a_cc M_Mo_compress64) 52 = .ok (.land, 1) := by decide +kernel
theorem d_Mo_compress64_53 : decode (a_cc M_Mo_compress64) 53 = .ok (.lor, 1) := by decide +kernel
theorem d_Mo_compress64_54 : decode (a_cc M_Mo_compress64) 54 = .ok (.lastore, 1) := by decide +kernel
theorem d_Mo_compress64_55 : decode (a_cc M_Mo_compress64) 55 = .ok (.iinc 2 1, 3) := by decide +kernel
theorem d_Mo_compress64_58 : decode (a_cc M_Mo_compress64) 58 = .ok (.goto (-41), 3) := by decide +kernel
theorem d_Mo_compress64_61 : decode (a_cc M_Mo_compress64) 61 = .ok (.iinc 1 1, 3) := by decide +kernel
theorem d_Mo_compress64_64 : decode (a_cc M_Mo_compress64) 64 = .ok (.goto (-62), 3) := by decide +kernel
theorem d_Mo_compress64_67 : decode (a_cc M_Mo_compress64) 67 = .ok (.bipush 16, 2) := by decide +kernel
theorem d_Mo_compress64_69 : decode (a_cc M_Mo_compress64) 69 = .ok (.istore_n 1, 1) := by decide +kernel
theorem d_Mo_compress64_70 : decode (a_cc M_Mo_compress64) 70 = .ok (.iload_n 1, 1) := by decide +kernel
theorem d_Mo_compress64_71 : decode (a_cc M_Mo_compress64) 71 = .ok (.bipush 80, 2) := by decide +kernel
theorem d_Mo_compress64_73 : decode (a_cc M_Mo_compress64) 73 = .ok (.if_icmp .ge 94, 3) := by decide +kernel
theorem d_Mo_compress64_76 : decode (a_cc M_Mo_compress64) 76 = .ok (.aload_n 0, 1) := by decide +kernel
theorem d_Mo_compress64_77 : decode (a_cc M_Mo_compress64) 77 = .ok (.getfield 56, 3) := by decide +kernel
theorem d_Mo_compress64_80 : decode (a_cc M_Mo_compress64) 80 = .ok (.iload_n 1, 1) := by decide +kernel
theorem d_Mo_compress64_81 : decode (a_cc M_Mo_compress64) 81 = .ok (.iconst 2, 1) := by decide +kernel
theorem d_Mo_compress64_82 : decode (a_cc M_Mo_compress64) 82 = .ok (.isub, 1) := by decide +kernel
theorem d_Mo_compress64_83 : decode (a_cc M_Mo_compress64) 83 = .ok (.laload, 1) := by decide +kernel
theorem d_Mo_compress64_84 : decode (a_cc M_Mo_compress64) 84 = .ok (.lstore_n 2, 1) := by decide +kernel
theorem d_Mo_compress64_85 : decode (a_cc M_Mo_compress64) 85 = .ok (.aload_n 0, 1) := by decide +kernel
theorem d_Mo_compress64_86 : decode (a_cc M_Mo_compress64) 86 = .ok (.getfield 56, 3) := by decide +kernel
theorem d_Mo_compress64_89 : decode (a_cc M_Mo_compress64) 89 = .ok (.iload_n 1, 1) := by decide +kernel
theorem d_Mo_compress64_90 : decode (a_cc M_Mo_compress64) 90 = .ok (.bipush 15, 2) := by decide +kernel
theorem d_Mo_compress64_92 : decode (a_cc M_Mo_compress64) 92 = .ok (.isub, 1) := by decide +kernel
theorem d_Mo_compress64_93 : decode (a_cc M_Mo_compress64) 93 = .ok (.laload, 1) := by decide +kernel
theorem d_Mo_compress64_94 : decode (a_cc M_Mo_compress64) 94 = .ok (.lstore 4, 2) := by decide +kernel
theorem d_Mo_compress64_96 : decode (a_cc M_Mo_compress64) 96 = .ok (.aload_n 0, 1) := by decide +kernel
theorem d_Mo_compress64_97 : decode (a_cc M_Mo_compress64) 97 = .ok (.getfield 56, 3) := by decide +kernel
theorem d_Mo_compress64_100 : decode (a_cc M_Mo_compress64) 100 = .ok (.iload_n 1, 1) := by decide +kernel
theorem d_Mo_compress64_101 : decode (a_cc M_Mo_compress64) 101 = .ok (.lload_n 2, 1) := by decide +kernel
theorem d_Mo_compress64_102 : decode (a_cc M_Mo_compress64) 102 = .ok (.bipush 19, 2) := by decide +kernel
theorem d_Mo_compress64_104 : decode (a_cc M_Mo_compress64) 104 = .ok (.invokestatic 203, 3) := by decide +kernel
theorem d_Mo_compress64_107 : decode (a_cc M_Mo_compress64) 107 = .ok (.lload_n 2, 1) := by decide +kernel
theorem d_Mo_compress64_108 : decode (a_cc M_Mo_compress64) 108 = .ok (.bipush 61, 2) := by decide +kernel
theorem d_Mo_compress64_110 : decode (a_cc M_Mo_compress64) 110 = .ok (.invokestatic 203, 3) := by decide +kernel
theorem d_Mo_compress64_113 : decode (a_cc M_Mo_compress64) 113 = .ok (.lxor, 1) := by decide +kernel
theorem d_Mo_compress64_114 : decode (a_cc M_Mo_compress64) 114 = .ok (.lload_n 2, 1) := by decide +kernel
theorem d_Mo_compress64_115 : decode (a_cc M_Mo_compress64) 115 = .ok (.bipush 6, 2) := by decide +kernel
theorem d_Mo_compress64_117 : decode (a_cc M_Mo_compress64) 117 = .ok (.lushr, 1) := by decide +kernel
theorem d_Mo_compress64_118 : decode (a_cc M_Mo_compress64) 118 = .ok (.lxor, 1) := by decide +kernel
theorem d_Mo_compress64_119 : decode (a_cc M_Mo_compress64) 119 = .ok (.aload_n 0, 1) := by decide +kernel
theorem d_Mo_compress64_120 : decode (a_cc M_Mo_compress64) 120 = .ok (.getfield 56, 3) := by decide +kernel
theorem d_Mo_compress64_123 : decode (a_cc M_Mo_compress64) 123 = .ok (.iload_n 1, 1) := by decide +kernel
theorem d_Mo_compress64_124 : decode (a_cc M_Mo_compress64) 124 = .ok (.bipush 7, 2) := by decide +kernel
theorem d_Mo_compress64_126 : decode (a_cc M_Mo_compress64) 126 = .ok (.isub, 1) := by decide +kernel
theorem d_Mo_compress64_127 : decode (a_cc M_Mo_compress64) 127 = .ok (.laload, 1) := by decide +kernel
theorem d_Mo_compress64_128 : decode (a_cc M_Mo_compress64) 128 = .ok (.ladd, 1) := by decide +kernel
theorem d_Mo_compress64_129 : decode (a_cc M_Mo_compress64) 129 = .ok (.lload 4, 2) := by decide +kernel
theorem d_Mo_compress64_131 : decode (a_cc M_Mo_compress64) 131 = .ok (.iconst 1, 1) := by decide +kernel
theorem d_Mo_compress64_132 : decode (a_cc M_Mo_compress64) 132 = .ok (.invokestatic 203, 3) := by decide +kernel
theorem d_Mo_compress64_135 : decode (a_cc M_Mo_compress64) 135 = .ok (.lload 4, 2) := by decide +kernel
theorem d_Mo_compress64_137 : decode (a_cc M_Mo_compress64) 137 = .ok (.bipush 8, 2) := by decide +kernel
theorem d_Mo_compress64_139 : decode (a_cc M_Mo_compress64) 139 = .ok (.invokestatic 203, 3) := by decide +kernel
theorem d_Mo_compress64_142 : decode (a_cc M_Mo_compress64) 142 = .ok (.lxor, 1) := by decide +kernel
theorem d_Mo_compress64_143 : decode (a_cc M_Mo_compress64) 143 = .ok (.lload 4, 2) := by decide +kernel
theorem d_Mo_compress64_145 : decode (a_cc M_Mo_compress64) 145 = .ok (.bipush 7, 2) := by decide +kernel
theorem d_Mo_compress64_147 : decode (a_cc M_Mo_compress64) 147 = .ok (.lushr, 1) := by decide +kernel
theorem d_Mo_compress64_148 : decode (a_cc M_Mo_compress64) 148 = .ok (.lxor, 1) := by decide +kernel
theorem d_Mo_compress64_149 : decode (a_cc M_Mo_compress64) 149 = .ok (.ladd, 1) := by decide +kernel
theorem d_Mo_compress64_150 : decode (a_cc M_Mo_compress64) 150 = .ok (.aload_n 0, 1) := by decide +kernel
theorem d_Mo_compress64_151 : decode (a_cc M_Mo_compress64) 151 = .ok (.getfield 56, 3) := by decide +kernel
theorem d_Mo_compress64_154 : decode (a_cc M_Mo_compress64) 154 = .ok (.iload_n 1, 1) := by decide +kernel
theorem d_Mo_compress64_155 : decode (a_cc M_Mo_compress64) 155 = .ok (.bipush 16, 2) := by decide +kernel
theorem d_Mo_compress64_157 : decode (a_cc M_Mo_compress64) 157 = .ok (.isub, 1) := by decide +kernel
theorem d_Mo_compress64_158 : decode (a_cc M_Mo_compress64) 158 = .ok (.laload, 1) := by decide +kernel
theorem d_Mo_compress64_159 : decode (a_cc M_Mo_compress64) 159 = .ok (.ladd, 1) := by decide +kernel
theorem d_Mo_compress64_160 : decode (a_cc M_Mo_compress64) 160 = .ok (.lastore, 1) := by decide +kernel
theorem d_Mo_compress64_161 : decode (a_cc M_Mo_compress64) 161 = .ok (.iinc 1 1, 3) := by decide +kernel
theorem d_Mo_compress64_164 : decode (a_cc M_Mo_compress64) 164 = .ok (.goto (-94), 3) := by decide +kernel
theorem d_Mo_compress64_167 : decode (a_cc M_Mo_compress64) 167 = .ok (.aload_n 0, 1) := by decide +kernel
theorem d_Mo_compress64_168 : decode (a_cc M_Mo_compress64) 168 = .ok (.getfield 47, 3) := by decide +kernel
theorem d_Mo_compress64_171 : decode (a_cc M_Mo_compress64) 171 = .ok (.iconst 0, 1) := by decide +kernel
theorem d_Mo_compress64_172 : decode (a_cc M_Mo_compress64) 172 = .ok (.laload, 1) := by decide +kernel
theorem d_Mo_compress64_173 : decode (a_cc M_Mo_compress64) 173 = .ok (.lstore_n 1, 1) := by decide +kernel
theorem d_Mo_compress64_174 : decode (a_cc M_Mo_compress64) 174 = .ok (.aload_n 0, 1) := by decide +kernel
theorem d_Mo_compress64_175 : decode (a_cc M_Mo_compress64) 175 = .ok (.getfield 47, 3) := by decide +kernel
theorem d_Mo_compress64_178 : decode (a_cc M_Mo_compress64) 178 = .ok (.iconst 1, 1) := by decide +kernel
theorem d_Mo_compress64_179 : decode (a_cc M_Mo_compress64) 179 = .ok (.laload, 1) := by decide +kernel
theorem d_Mo_compress64_180 : decode (a_cc M_Mo_compress64) 180 = .ok (.lstore_n 3, 1) := by decide +kernel
theorem d_Mo_compress64_181 : decode (a_cc M_Mo_compress64) 181 = .ok (.aload_n 0, 1) := by decide +kernel
theorem d_Mo_compress64_182 : decode (a_cc M_Mo_compress64) 182 = .ok (.getfield 47, 3) := by decide +kernel
theorem d_Mo_compress64_185 : decode (a_cc M_Mo_compress64) 185 = .ok (.iconst 2, 1) := by decide +kernel
theorem d_Mo_compress64_186 : decode (a_cc M_Mo_compress64) 186 = .ok (.laload, 1) := by decide +kernel
theorem d_Mo_compress64_187 : decode (a_cc M_Mo_compress64) 187 = .ok (.lstore 5, 2) := by decide +kernel
theorem d_Mo_compress64_189 : decode (a_cc M_Mo_compress64) 189 = .ok (.aload_n 0, 1) := by decide +kernel
theorem d_Mo_compress64_190 : decode (a_cc M_Mo_compress64) 190 = .ok (.getfield 47, 3) := by decide +kernel
theorem d_Mo_compress64_193 : decode (a_cc M_Mo_compress64) 193 = .ok (.iconst 3, 1) := by decide +kernel
theorem d_Mo_compress64_194 : decode (a_cc M_Mo_compress64) 194 = .ok (.laload, 1) := by decide +kernel
theorem d_Mo_compress64_195 : decode (a_cc M_Mo_compress64) 195 = .ok (.lstore 7, 2) := by decide +kernel
theorem d_Mo_compress64_197 : decode (a_cc M_Mo_compress64) 197 = .ok (.aload_n 0, 1) := by decide +kernel
theorem d_Mo_compress64_198 : decode (a_cc M_Mo_compress64) 198 = .ok (.getfield 47, 3) := by decide +kernel
theorem d_Mo_compress64_201 : decode (a_cc M_Mo_compress64) 201 = .ok (.iconst 4, 1) := by decide +kernel
theorem d_Mo_compress64_202 : decode (a_cc M_Mo_compress64) 202 = .ok (.laload, 1) := by decide +kernel
theorem d_Mo_compress64_203 : decode (a_cc M_Mo_compress64) 203 = .ok (.lstore 9, 2) := by decide +kernel
theorem d_Mo_compress64_205 : decode (a_cc M_Mo_compress64) 205 = .ok (.aload_n 0, 1) := by decide +kernel
theorem d_Mo_compress64_206 : decode (a_cc M_Mo_compress64) 206 = .ok (.getfield 47, 3) := by decide +kernel
theorem d_Mo_compress64_209 : decode (a_cc M_Mo_compress64) 209 = .ok (.iconst 5, 1) := by decide +kernel
theorem d_Mo_compress64_210 : decode (a_cc M_Mo_compress64) 210 = .ok (.laload, 1) := by decide +kernel
theorem d_Mo_compress64_211 : decode (a_cc M_Mo_compress64) 211 = .ok (.lstore 11, 2) := by decide +kernel
theorem d_Mo_compress64_213 : decode (a_cc M_Mo_compress64) 213 = .ok (.aload_n 0, 1) := by decide +kernel
theorem d_Mo_compress64_214 : decode (a_cc M_Mo_compress64) 214 = .ok (.getfield 47, 3) := by decide +kernel
theorem d_Mo_compress64_217 : decode (a_cc M_Mo_compress64) 217 = .ok (.bipush 6, 2) := by decide +kernel
theorem d_Mo_compress64_219 : decode (a_cc M_Mo_compress64) 219 = .ok (.laload, 1) := by decide +kernel
theorem d_Mo_compress64_220 : decode (a_cc M_Mo_compress64) 220 = .ok (.lstore 13, 2) := by decide +kernel
theorem d_Mo_compress64_222 : decode (a_cc M_Mo_compress64) 222 = .ok (.aload_n 0, 1) := by decide +kernel
theorem d_Mo_compress64_223 : decode (a_cc M_Mo_compress64) 223 = .ok (.getfield 47, 3) := by decide +kernel
theorem d_Mo_compress64_226 : decode (a_cc M_Mo_compress64) 226 = .ok (.bipush 7, 2) := by decide +kernel
theorem d_Mo_compress64_228 : decode (a_cc M_Mo_compress64) 228 = .ok (.laload, 1) := by decide +kernel
theorem d_Mo_compress64_229 : decode (a_cc M_Mo_compress64) 229 = .ok (.lstore 15, 2) := by decide +kernel
theorem d_Mo_compress64_231 : decode (a_cc M_Mo_compress64) 231 = .ok (.iconst 0, 1) := by decide +kernel
theorem d_Mo_compress64_232 : decode (a_cc M_Mo_compress64) 232 = .ok (.istore 17, 2) := by decide +kernel
theorem d_Mo_compress64_234 : decode (a_cc M_Mo_compress64) 234 = .ok (.iload 17, 2) := by decide +kernel
theorem d_Mo_compress64_236 : decode (a_cc M_Mo_compress64) 236 = .ok (.bipush 80, 2) := by decide +kernel
theorem d_Mo_compress64_238 : decode (a_cc M_Mo_compress64) 238 = .ok (.if_icmp .ge 139, 3) := by decide +kernel
theorem d_Mo_compress64_241 : decode (a_cc M_Mo_compress64) 241 = .ok (.lload 15, 2) := by decide +kernel
theorem d_Mo_compress64_243 : decode (a_cc M_Mo_compress64) 243 = .ok (.lload 9, 2) := by decide +kernel
theorem d_Mo_compress64_245 : decode (a_cc M_Mo_compress64) 245 = .ok (.bipush 14, 2) := by decide +kernel
theorem d_Mo_compress64_247 : decode (a_cc M_Mo_compress64) 247 = .ok (.invokestatic 203, 3) := by decide +kernel
theorem d_Mo_compress64_250 : decode (a_cc M_Mo_compress64) 250 = .ok (.lload 9, 2) := by decide +kernel
theorem d_Mo_compress64_252 : decode (a_cc M_Mo_compress64) 252 = .ok (.bipush 18, 2) := by decide +kernel
theorem d_Mo_compress64_254 : decode (a_cc M_Mo_compress64) 254 = .ok (.invokestatic 203, 3) := by decide +kernel
theorem d_Mo_compress64_257 : decode (a_cc M_Mo_compress64) 257 = .ok (.lxor, 1) := by decide +kernel
theorem d_Mo_compress64_258 : decode (a_cc M_Mo_compress64) 258 = .ok (.lload 9, 2) := by decide +kernel
theorem d_Mo_compress64_260 : decode (a_cc M_Mo_compress64) 260 = .ok (.bipush 41, 2) := by decide +kernel
theorem d_Mo_compress64_262 : decode (a_cc M_Mo_compress64) 262 = .ok (.invokestatic 203, 3) := by decide +kernel
theorem d_Mo_compress64_265 : decode (a_cc M_Mo_compress64) 265 = .ok (.lxor, 1) := by decide +kernel
theorem d_Mo_compress64_266 : decode (a_cc M_Mo_compress64) 266 = .ok (.ladd, 1) := by decide +kernel
theorem d_Mo_compress64_267 : decode (a_cc M_Mo_compress64) 267 = .ok (.lload 9, 2) := by decide +kernel
theorem d_Mo_compress64_269 : decode (a_cc M_Mo_compress64) 269 = .ok (.lload 11, 2) := by decide +kernel
theorem d_Mo_compress64_271 : decode (a_cc M_Mo_compress64) 271 = .ok (.land, 1) := by decide +kernel
theorem d_Mo_compress64_272 : decode (a_cc M_Mo_compress64) 272 = .ok (.lload 9, 2) := by decide +kernel
theorem d_Mo_compress64_274 : decode (a_cc M_Mo_compress64) 274 = .ok (.ldc2_w 201, 3) := by decide +kernel
theorem d_Mo_compress64_277 : decode (a_cc M_Mo_compress64) 277 = .ok (.lxor, 1) := by decide +kernel
theorem d_Mo_compress64_278 : decode (a_cc M_Mo_compress64) 278 = .ok (.lload 13, 2) := by decide +kernel
theorem d_Mo_compress64_280 : decode (a_cc M_Mo_compress64) 280 = .ok (.land, 1) := by decide +kernel
theorem d_Mo_compress64_281 : decode (a_cc M_Mo_compress64) 281 = .ok (.lxor, 1) := by decide +kernel
theorem d_Mo_compress64_282 : decode (a_cc M_Mo_compress64) 282 = .ok (.ladd, 1) := by decide +kernel
theorem d_Mo_compress64_283 : decode (a_cc M_Mo_compress64) 283 = .ok (.aload_n 0, 1) := by decide +kernel
theorem d_Mo_compress64_284 : decode (a_cc M_Mo_compress64) 284 = .ok (.getfield 26, 3) := by decide +kernel
theorem d_Mo_compress64_287 : decode (a_cc M_Mo_compress64) 287 = .ok (.iload 17, 2) := by decide +kernel
theorem d_Mo_compress64_289 : decode (a_cc M_Mo_compress64) 289 = .ok (.laload, 1) := by decide +kernel
theorem d_Mo_compress64_290 : decode (a_cc M_Mo_compress64) 290 = .ok (.ladd, 1) := by decide +kernel
theorem d_Mo_compress64_291 : decode (a_cc M_Mo_compress64) 291 = .ok (.aload_n 0, 1) := by decide +kernel
theorem d_Mo_compress64_292 : decode (a_cc M_Mo_compress64) 292 = .ok (.getfield 56, 3) := by decide +kernel
theorem d_Mo_compress64_295 : decode (a_cc M_Mo_compress64) 295 = .ok (.iload 17, 2) := by decide +kernel
theorem d_Mo_compress64_297 : decode (a_cc M_Mo_compress64) 297 = .ok (.laload, 1) := by decide +kernel
theorem d_Mo_compress64_298 : decode (a_cc M_Mo_compress64) 298 = .ok (.ladd, 1) := by decide +kernel
theorem d_Mo_compress64_299 : decode (a_cc M_Mo_compress64) 299 = .ok (.lstore 18, 2) := by decide +kernel
theorem d_Mo_compress64_301 : decode (a_cc M_Mo_compress64) 301 = .ok (.lload_n 1, 1) := by decide +kernel
theorem d_Mo_compress64_302 : decode (a_cc M_Mo_compress64) 302 = .ok (.bipush 28, 2) := by decide +kernel
theorem d_Mo_compress64_304 : decode (a_cc M_Mo_compress64) 304 = .ok (.invokestatic 203, 3) := by decide +kernel
theorem d_Mo_compress64_307 : decode (a_cc M_Mo_compress64) 307 = .ok (.lload_n 1, 1) := by decide +kernel
theorem d_Mo_compress64_308 : decode (a_cc M_Mo_compress64) 308 = .ok (.bipush 34, 2) := by decide +kernel
theorem d_Mo_compress64_310 : decode (a_cc M_Mo_compress64) 310 = .ok (.invokestatic 203, 3) := by decide +kernel
theorem d_Mo_compress64_313 : decode (a_cc M_Mo_compress64) 313 = .ok (.lxor, 1) := by decide +kernel
theorem d_Mo_compress64_314 : decode (a_cc M_Mo_compress64) 314 = .ok (.lload_n 1, 1) := by decide +kernel
theorem d_Mo_compress64_315 : decode (a_cc M_Mo_compress64) 315 = .ok (.bipush 39, 2) := by decide +kernel
theorem d_Mo_compress64_317 : decode (a_cc M_Mo_compress64) 317 = .ok (.invokestatic 203, 3) := by decide +kernel
theorem d_Mo_compress64_320 : decode (a_cc M_Mo_compress64) 320 = .ok (.lxor, 1) := by decide +kernel
theorem d_Mo_compress64_321 : decode (a_cc M_Mo_compress64) 321 = .ok (.lload_n 1, 1) := by decide +kernel
theorem d_Mo_compress64_322 : decode (a_cc M_Mo_compress64) 322 = .ok (.lload_n 3, 1) := by decide +kernel
theorem d_Mo_compress64_323 : decode (a_cc M_Mo_compress64) 323 = .ok (.land, 1) := by decide +kernel
theorem d_Mo_compress64_324 : decode (a_cc M_Mo_compress64) 324 = .ok (.lload_n 1, 1) := by decide +kernel
theorem d_Mo_compress64_325 : decode (a_cc M_Mo_compress64) 325 = .ok (.lload 5, 2) := by decide +kernel
theorem d_Mo_compress64_327 : decode (a_cc M_Mo_compress64) 327 = .ok (.land, 1) := by decide +kernel
theorem d_Mo_compress64_328 : decode (a_cc M_Mo_compress64) 328 = .ok (.lxor, 1) := by decide +kernel
theorem d_Mo_compress64_329 : decode (a_cc M_Mo_compress64) 329 = .ok (.lload_n 3, 1) := by decide +kernel
theorem d_Mo_compress64_330 : decode (a_cc M_Mo_compress64) 330 = .ok (.lload 5, 2) := by decide +kernel
theorem d_Mo_compress64_332 : decode (a_cc M_Mo_compress64) 332 = .ok (.land, 1) := by decide +kernel
theorem d_Mo_compress64_333 : decode (a_cc M_Mo_compress64) 333 = .ok (.lxor, 1) := by decide +kernel
theorem d_Mo_compress64_334 : decode (a_cc M_Mo_compress64) 334 = .ok (.ladd, 1) := by decide +kernel
theorem d_Mo_compress64_335 : decode (a_cc M_Mo_compress64) 335 = .ok (.lstore 20, 2) := by decide +kernel
theorem d_Mo_compress64_337 : decode (a_cc M_Mo_compress64) 337 = .ok (.lload 13, 2) := by decide +kernel
theorem d_Mo_compress64_339 : decode (a_cc M_Mo_compress64) 339 = .ok (.lstore 15, 2) := by decide +kernel
theorem d_Mo_compress64_341 : decode (a_cc M_Mo_compress64) 341 = .ok (.lload 11, 2) := by decide +kernel
theorem d_Mo_compress64_343 : decode (a_cc M_Mo_compress64) 343 = .ok (.lstore 13, 2) := by decide +kernel
theorem d_Mo_compress64_345 : decode (a_cc M_Mo_compress64) 345 = .ok (.lload 9, 2) := by decide +kernel
theorem d_Mo_compress64_347 : decode (a_cc M_Mo_compress64) 347 = .ok (.lstore 11, 2) := by decide +kernel
theorem d_Mo_compress64_349 : decode (a_cc M_Mo_compress64) 349 = .ok (.lload 7, 2) := by decide +kernel
theorem d_Mo_compress64_351 : decode (a_cc M_Mo_compress64) 351 = .ok (.lload 18, 2) := by decide +kernel
theorem d_Mo_compress64_353 : decode (a_cc M_Mo_compress64) 353 = .ok (.ladd, 1) := by decide +kernel
theorem d_Mo_compress64_354 : decode (a_cc M_Mo_compress64) 354 = .ok (.lstore 9, 2) := by decide +kernel
theorem d_Mo_compress64_356 : decode (a_cc M_Mo_compress64) 356 = .ok (.lload 5, 2) := by decide +kernel
theorem d_Mo_compress64_358 : decode (a_cc M_Mo_compress64) 358 = .ok (.lstore 7, 2) := by decide +kernel
theorem d_Mo_compress64_360 : decode (a_cc M_Mo_compress64) 360 = .ok (.lload_n 3, 1) := by decide +kernel
theorem d_Mo_compress64_361 : decode (a_cc M_Mo_compress64) 361 = .ok (.lstore 5, 2) := by decide +kernel
theorem d_Mo_compress64_363 : decode (a_cc M_Mo_compress64) 363 = .ok (.lload_n 1, 1) := by decide +kernel
theorem d_Mo_compress64_364 : decode (a_cc M_Mo_compress64) 364 = .ok (.lstore_n 3, 1) := by decide +kernel
theorem d_Mo_compress64_365 : decode (a_cc M_Mo_compress64) 365 = .ok (.lload 18, 2) := by decide +kernel
theorem d_Mo_compress64_367 : decode (a_cc M_Mo_compress64) 367 = .ok (.lload 20, 2) := by decide +kernel
theorem d_Mo_compress64_369 : decode (a_cc M_Mo_compress64) 369 = .ok (.ladd, 1) := by decide +kernel
theorem d_Mo_compress64_370 : decode (a_cc M_Mo_compress64) 370 = .ok (.lstore_n 1, 1) := by decide +kernel
theorem d_Mo_compress64_371 : decode (a_cc M_Mo_compress64) 371 = .ok (.iinc 17 1, 3) := by decide +kernel
theorem d_Mo_compress64_374 : decode (a_cc M_Mo_compress64) 374 = .ok (.goto (-140), 3) := by decide +kernel
theorem d_Mo_compress64_377 : decode (a_cc M_Mo_compress64) 377 = .ok (.aload_n 0, 1) := by decide +kernel
theorem d_Mo_compress64_378 : decode (a_cc M_Mo_compress64) 378 = .ok (.getfield 47, 3) := by decide +kernel
theorem d_Mo_compress64_381 : decode (a_cc M_Mo_compress64) 381 = .ok (.iconst 0, 1) := by decide +kernel
theorem d_Mo_compress64_382 : decode (a_cc M_Mo_compress64) 382 = .ok (.dup2, 1) := by decide +kernel
theorem d_Mo_compress64_383 : decode (a_cc M_Mo_compress64) 383 = .ok (.laload, 1) := by decide +kernel
theorem d_Mo_compress64_384 : decode (a_cc M_Mo_compress64) 384 = .ok (.lload_n 1, 1) := by decide +kernel
theorem d_Mo_compress64_385 : decode (a_cc M_Mo_compress64) 385 = .ok (.ladd, 1) := by decide +kernel
theorem d_Mo_compress64_386 : decode (a_cc M_Mo_compress64) 386 = .ok (.lastore, 1) := by decide +kernel
theorem d_Mo_compress64_387 : decode (a_cc M_Mo_compress64) 387 = .ok (.aload_n 0, 1) := by decide +kernel
theorem d_Mo_compress64_388 : decode (a_cc M_Mo_compress64) 388 = .ok (.getfield 47, 3) := by decide +kernel
theorem d_Mo_compress64_391 : decode (a_cc M_Mo_compress64) 391 = .ok (.iconst 1, 1) := by decide +kernel
theorem d_Mo_compress64_392 : decode (a_cc M_Mo_compress64) 392 = .ok (.dup2, 1) := by decide +kernel
theorem d_Mo_compress64_393 : decode (a_cc M_Mo_compress64) 393 = .ok (.laload, 1) := by decide +kernel
theorem d_Mo_compress64_394 : decode (a_cc M_Mo_compress64) 394 = .ok (.lload_n 3, 1) := by decide +kernel
theorem d_Mo_compress64_395 : decode (a_cc M_Mo_compress64) 395 = .ok (.ladd, 1) := by decide +kernel
theorem d_Mo_compress64_396 : decode (a_cc M_Mo_compress64) 396 = .ok (.lastore, 1) := by decide +kernel
theorem d_Mo_compress64_397 : decode (a_cc M_Mo_compress64) 397 = .ok (.aload_n 0, 1) := by decide +kernel
theorem d_Mo_compress64_398 : decode (a_cc M_Mo_compress64) 398 = .ok (.getfield 47, 3) := by decide +kernel
theorem d_Mo_compress64_401 : decode (a_cc M_Mo_compress64) 401 = .ok (.iconst 2, 1) := by decide +kernel
theorem d_Mo_compress64_402 : decode (a_cc M_Mo_compress64) 402 = .ok (.dup2, 1) := by decide +kernel
theorem d_Mo_compress64_403 : decode (a_cc M_Mo_compress64) 403 = .ok (.laload, 1) := by decide +kernel
theorem d_Mo_compress64_404 : decode (a_cc M_Mo_compress64) 404 = .ok (.lload 5, 2) := by decide +kernel
theorem d_Mo_compress64_406 : decode (a_cc M_Mo_compress64) 406 = .ok (.ladd, 1) := by decide +kernel
theorem d_Mo_compress64_407 : decode (a_cc M_Mo_compress64) 407 = .ok (.lastore, 1) := by decide +kernel
theorem d_Mo_compress64_408 : decode (a_cc M_Mo_compress64) 408 = .ok (.aload_n 0, 1) := by decide +kernel
theorem d_Mo_compress64_409 : decode (a_cc M_Mo_compress64) 409 = .ok (.getfield 47, 3) := by decide +kernel
theorem d_Mo_compress64_412 : decode (a_cc M_Mo_compress64) 412 = .ok (.iconst 3, 1) := by decide +kernel
theorem d_Mo_compress64_413 : decode (a_cc M_Mo_compress64) 413 = .ok (.dup2, 1) := by decide +kernel
theorem d_Mo_compress64_414 : decode (a_cc M_Mo_compress64) 414 = .ok (.laload, 1) := by decide +kernel
theorem d_Mo_compress64_415 : decode (a_cc M_Mo_compress64) 415 = .ok (.lload 7, 2) := by decide +kernel
theorem d_Mo_compress64_417 : decode (a_cc M_Mo_compress64) 417 = .ok (.ladd, 1) := by decide +kernel
theorem d_Mo_compress64_418 : decode (a_cc M_Mo_compress64) 418 = .ok (.lastore, 1) := by decide +kernel
theorem d_Mo_compress64_419 : decode (a_cc M_Mo_compress64) 419 = .ok (.aload_n 0, 1) := by decide +kernel
theorem d_Mo_compress64_420 : decode (a_cc M_Mo_compress64) 420 = .ok (.getfield 47, 3) := by decide +kernel
theorem d_Mo_compress64_423 : decode (a_cc M_Mo_compress64) 423 = .ok (.iconst 4, 1) := by decide +kernel
theorem d_Mo_compress64_424 : decode (a_cc M_Mo_compress64) 424 = .ok (.dup2, 1) := by decide +kernel
theorem d_Mo_compress64_425 : decode (a_cc M_Mo_compress64) 425 = .ok (.laload, 1) := by decide +kernel
theorem d_Mo_compress64_426 : decode (a_cc M_Mo_compress64) 426 = .ok (.lload 9, 2) := by decide +kernel
theorem d_Mo_compress64_428 : decode (a_cc M_Mo_compress64) 428 = .ok (.ladd, 1) := by decide +kernel
theorem d_Mo_compress64_429 : decode (a_cc M_Mo_compress64) 429 = .ok (.lastore, 1) := by decide +kernel
theorem d_Mo_compress64_430 : decode (a_cc M_Mo_compress64) 430 = .ok (.aload_n 0, 1) := by decide +kernel
theorem d_Mo_compress64_431 : decode (a_cc M_Mo_compress64) 431 = .ok (.getfield 47, 3) := by decide +kernel
theorem d_Mo_compress64_434 : decode (a_cc M_Mo_compress64) 434 = .ok (.iconst 5, 1) := by decide +kernel
theorem d_Mo_compress64_435 : decode (a_cc M_Mo_compress64) 435 = .ok (.dup2, 1) := by decide +kernel
theorem d_Mo_compress64_436 : decode (a_cc M_Mo_compress64) 436 = .ok (.laload, 1) := by decide +kernel
theorem d_Mo_compress64_437 : decode (a_cc M_Mo_compress64) 437 = .ok (.lload 11, 2) := by decide +kernel
theorem d_Mo_compress64_439 : decode (a_cc M_Mo_compress64) 439 = .ok (.ladd, 1) := by decide +kernel
theorem d_Mo_compress64_440 : decode (a_cc M_Mo_compress64) 440 = .ok (.lastore, 1) := by decide +kernel
theorem d_Mo_compress64_441 : decode (a_cc M_Mo_compress64) 441 = .ok (.aload_n 0, 1) := by decide +kernel
theorem d_Mo_compress64_442 : decode (a_cc M_Mo_compress64) 442 = .ok (.getfield 47, 3) := by decide +kernel
theorem d_Mo_compress64_445 : decode (a_cc M_Mo_compress64) 445 = .ok (.bipush 6, 2) := by decide +kernel
theorem d_Mo_compress64_447 : decode (a_cc M_Mo_compress64) 447 = .ok (.dup2, 1) := by decide +kernel
theorem d_Mo_compress64_448 : decode (a_cc M_Mo_compress64) 448 = .ok (.laload, 1) := by decide +kernel
theorem d_Mo_compress64_449 : decode (a_cc M_Mo_compress64) 449 = .ok (.lload 13, 2) := by decide +kernel
theorem d_Mo_compress64_451 : decode (a_cc M_Mo_compress64) 451 = .ok (.ladd, 1) := by decide +kernel
theorem d_Mo_compress64_452 : decode (a_cc M_Mo_compress64) 452 = .ok (.lastore, 1) := by decide +kernel
theorem d_Mo_compress64_453 : decode (a_cc M_Mo_compress64) 453 = .ok (.aload_n 0, 1) := by decide +kernel
theorem d_Mo_compress64_454 : decode (a_cc M_Mo_compress64) 454 = .ok (.getfield 47, 3) := by decide +kernel
theorem d_Mo_compress64_457 : decode (a_cc M_Mo_compress64) 457 = .ok (.bipush 7, 2) := by decide +kernel
theorem d_Mo_compress64_459 : decode (a_cc M_Mo_compress64) 459 = .ok (.dup2, 1) := by decide +kernel
theorem d_Mo_compress64_460 : decode (a_cc M_Mo_compress64) 460 = .ok (.laload, 1) := by decide +kernel
theorem d_Mo_compress64_461 : decode (a_cc M_Mo_compress64) 461 = .ok (.lload 15, 2) := by decide +kernel
theorem d_Mo_compress64_463 : decode (a_cc M_Mo_compress64) 463 = .ok (.ladd, 1) := by decide +kernel
theorem d_Mo_compress64_464 : decode (a_cc M_Mo_compress64) 464 = .ok (.lastore, 1) := by decide +kernel
theorem d_Mo_compress64_465 : decode (a_cc M_Mo_compress64) 465 = .ok (.return_, 1) := by decide +kernel
theorem cs_Mo_compress64_104 : a_CS M_Mo_compress64 M_Mo_right 203 3 2 2 := ⟨⟨ok_Mo_right, by decide, by decide, by decide⟩, List.mem_append_right _ (List.mem_of_getElem? (i := 1090) (by decide +kernel)), List.mem_append_right _ (List.mem_of_getElem? (i := 1091) (by decide +kernel)), by decide +kernel⟩
theorem cs_Mo_compress64_110 : a_CS M_Mo_compress64 M_Mo_right 203 3 4 2 := ⟨⟨ok_Mo_right, by decide, by decide, by decide⟩, List.mem_append_right _ (List.mem_of_getElem? (i := 1090) (by decide +kernel)), List.mem_append_right _ (List.mem_of_getElem? (i := 1091) (by decide +kernel)), by decide +kernel⟩
theorem cs_Mo_compress64_132 : a_CS M_Mo_compress64 M_Mo_right 203 3 4 2 := ⟨⟨ok_Mo_right, by decide, by decide, by decide⟩, List.mem_append_right _ (List.mem_of_getElem? (i := 1090) (by decide +kernel)), List.mem_append_right _ (List.mem_of_getElem? (i := 1091) (by decide +kernel)), by decide +kernel⟩
theorem cs_Mo_compress64_139 : a_CS M_Mo_compress64 M_Mo_right 203 3 6 2 := ⟨⟨ok_Mo_right, by decide, by decide, by decide⟩, List.mem_append_right _ (List.mem_of_getElem? (i := 1090) (by decide +kernel)), List.mem_append_right _ (List.mem_of_getElem? (i := 1091) (by decide +kernel)), by decide +kernel⟩
theorem cs_Mo_compress64_247 : a_CS M_Mo_compress64 M_Mo_right 203 3 2 2 := ⟨⟨ok_Mo_right, by decide, by decide, by decide⟩, List.mem_append_right _ (List.mem_of_getElem? (i := 1090) (by decide +kernel)), List.mem_append_right _ (List.mem_of_getElem? (i := 1091) (by decide +kernel)), by decide +kernel⟩
theorem cs_Mo_compress64_254 : a_CS M_Mo_compress64 M_Mo_right 203 3 4 2 := ⟨⟨ok_Mo_right, by decide, by decide, by decide⟩, List.mem_append_right _ (List.mem_of_getElem? (i := 1090) (by decide +kernel)), List.mem_append_right _ (List.mem_of_getElem? (i := 1091) (by decide +kernel)), by decide +kernel⟩
theorem cs_Mo_compress64_262 : a_CS M_Mo_compress64 M_Mo_right 203 3 4 2 := ⟨⟨ok_Mo_right, by decide, by decide, by decide⟩, List.mem_append_right _ (List.mem_of_getElem? (i := 1090) (by decide +kernel)), List.mem_append_right _ (List.mem_of_getElem? (i := 1091) (by decide +kernel)), by decide +kernel⟩
theorem cs_Mo_compress64_304 : a_CS M_Mo_compress64 M_Mo_right 203 3 0 2 := ⟨⟨ok_Mo_right, by decide, by decide, by decide⟩, List.mem_append_right _ (List.mem_of_getElem? (i := 1090) (by decide +kernel)), List.mem_append_right _ (List.mem_of_getElem? (i := 1091) (by decide +kernel)), by decide +kernel⟩
theorem cs_Mo_compress64_310 : a_CS M_Mo_compress64 M_Mo_right 203 3 2 2 := ⟨⟨ok_Mo_right, by decide, by decide, by decide⟩, List.mem_append_right _ (List.mem_of_getElem? (i := 1090) (by decide +kernel)), List.mem_append_right _ (List.mem_of_getElem? (i := 1091) (by decide +kernel)), by decide +kernel⟩
theorem cs_Mo_compress64_317 : a_CS M_Mo_compress64 M_Mo_right 203 3 2 2 := ⟨⟨ok_Mo_right, by decide, by decide, by decide⟩, List.mem_append_right _ (List.mem_of_getElem? (i := 1090) (by decide +kernel)), List.mem_append_right _ (List.mem_of_getElem? (i := 1091) (by decide +kernel)), by decide +kernel⟩
def M_Mo_put1 : a_M := (⟨"ModuleSignerModel", "put", "(I)V"⟩, prog_12_method_27_code, 2, none, "ModuleSignerModel", 2, 53, [])
theorem ok_Mo_put1 : a_Ok M_Mo_put1 := ⟨rfl, by decide +kernel, ⟨by decide, by decide⟩, List.mem_append_right _ (List.mem_of_getElem? (i := 11) (by decide +kernel)), Or.inl ⟨rfl, List.mem_append_right _ (List.mem_of_getElem? (i := 1061) (by decide +kernel))⟩⟩
theorem d_Mo_put1_0 : decode (a_cc M_Mo_put1) 0 = .ok (.aload_n 0, 1) := by decide +kernel
theorem d_Mo_put1_1 : decode (a_cc M_Mo_put1) 1 = .ok (.invokevirtual 180, 3) := by decide +kernel
theorem d_Mo_put1_4 : decode (a_cc M_Mo_put1) 4 = .ok (.ifCond .eq 15, 3) := by decide +kernel
theorem d_Mo_put1_7 : decode (a_cc M_Mo_put1) 7 = .ok (.aload_n 0, 1) := by decide +kernel
theorem d_Mo_put1_8 : decode (a_cc M_Mo_put1) 8 = .ok (.aload_n 0, 1) := by decide +kernel
theorem d_Mo_put1_9 : decode (a_cc M_Mo_put1) 9 = .ok (.getfield 162, 3) := by decide +kernel
theorem d_Mo_put1_12 : decode (a_cc M_Mo_put1) 12 = .ok (.iload_n 1, 1) := by decide +kernel
theorem d_Mo_put1_13 : decode (a_cc M_Mo_put1) 13 = .ok (.invokevirtual 184, 3) := by decide +kernel
theorem d_Mo_put1_16 : decode (a_cc M_Mo_put1) 16 = .ok (.goto 14, 3) := by decide +kernel
theorem d_Mo_put1_19 : decode (a_cc M_Mo_put1) 19 = .ok (.aload_n 0, 1) := by decide +kernel
theorem d_Mo_put1_20 : decode (a_cc M_Mo_put1) 20 = .ok (.getfield 59, 3) := by decide +kernel
theorem d_Mo_put1_23 : decode (a_cc M_Mo_put1) 23 = .ok (.aload_n 0, 1) := by decide +kernel
theorem d_Mo_put1_24 : decode (a_cc M_Mo_put1) 24 = .ok (.getfield 162, 3) := by decide +kernel
theorem d_Mo_put1_27 : decode (a_cc M_Mo_put1) 27 = .ok (.iload_n 1, 1) := by decide +kernel
theorem d_Mo_put1_28 : decode (a_cc M_Mo_put1) 28 = .ok (.i2b, 1) := by decide +kernel
theorem d_Mo_put1_29 : decode (a_cc M_Mo_put1) 29 = .ok (.bastore, 1) := by decide +kernel
theorem d_Mo_put1_30 : decode (a_cc M_Mo_put1) 30 = .ok (.aload_n 0, 1) := by decide +kernel
theorem d_Mo_put1_31 : decode (a_cc M_Mo_put1) 31 = .ok (.dup, 1) := by decide +kernel
theorem d_Mo_put1_32 : decode (a_cc M_Mo_put1) 32 = .ok (.getfield 162, 3) := by decide +kernel
theorem d_Mo_put1_35 : decode (a_cc M_Mo_put1) 35 = .ok (.iconst 1, 1) := by decide +kernel
theorem d_Mo_put1_36 : decode (a_cc M_Mo_put1) 36 = .ok (.iadd, 1) := by decide +kernel
theorem d_Mo_put1_37 : decode (a_cc M_Mo_put1) 37 = .ok (.putfield 162, 3) := by decide +kernel
theorem d_Mo_put1_40 : decode (a_cc M_Mo_put1) 40 = .ok (.aload_n 0, 1) := by decide +kernel
theorem d_Mo_put1_41 : decode (a_cc M_Mo_put1) 41 = .ok (.dup, 1) := by decide +kernel
theorem d_Mo_put1_42 : decode (a_cc M_Mo_put1) 42 = .ok (.getfield 165, 3) := by decide +kernel
theorem d_Mo_put1_45 : decode (a_cc M_Mo_put1) 45 = .ok (.lconst 1, 1) := by decide +kernel
theorem d_Mo_put1_46 : decode (a_cc M_Mo_put1) 46 = .ok (.ladd, 1) := by decide +kernel
theorem d_Mo_put1_47 : decode (a_cc M_Mo_put1) 47 = .ok (.putfield 165, 3) := by decide +kernel
theorem d_Mo_put1_50 : decode (a_cc M_Mo_put1) 50 = .ok (.aload_n 0, 1) := by decide +kernel
theorem d_Mo_put1_51 : decode (a_cc M_Mo_put1) 51 = .ok (.getfield 162, 3) := by decide +kernel
theorem d_Mo_put1_54 : decode (a_cc M_Mo_put1) 54 = .ok (.aload_n 0, 1) := by decide +kernel
theorem d_Mo_put1_55 : decode (a_cc M_Mo_put1) 55 = .ok (.getfield 175, 3) := by decide +kernel
theorem d_Mo_put1_58 : decode (a_cc M_Mo_put1) 58 = .ok (.if_icmp .ne 42, 3) := by decide +kernel
theorem d_Mo_put1_61 : decode (a_cc M_Mo_put1) 61 = .ok (.aload_n 0, 1) := by decide +kernel
theorem d_Mo_put1_62 : decode (a_cc M_Mo_put1) 62 = .ok (.invokevirtual 180, 3) := by decide +kernel
theorem d_Mo_put1_65 : decode (a_cc M_Mo_put1) 65 = .ok (.ifCond .eq 10, 3) := by decide +kernel
theorem d_Mo_put1_68 : decode (a_cc M_Mo_put1) 68 = .ok (.aload_n 0, 1) := by decide +kernel
theorem d_Mo_put1_69 : decode (a_cc M_Mo_put1) 69 = .ok (.invokevirtual 188, 3) := by decide +kernel
theorem d_Mo_put1_72 : decode (a_cc M_Mo_put1) 72 = .ok (.goto 23, 3) := by decide +kernel
theorem d_Mo_put1_75 : decode (a_cc M_Mo_put1) 75 = .ok (.aload_n 0, 1) := by decide +kernel
theorem d_Mo_put1_76 : decode (a_cc M_Mo_put1) 76 = .ok (.getfield 175, 3) := by decide +kernel
theorem d_Mo_put1_79 : decode (a_cc M_Mo_put1) 79 = .ok (.bipush 64, 2) := by decide +kernel
theorem d_Mo_put1_81 : decode (a_cc M_Mo_put1) 81 = .ok (.if_icmp .ne 10, 3) := by decide +kernel
theorem d_Mo_put1_84 : decode (a_cc M_Mo_put1) 84 = .ok (.aload_n 0, 1) := by decide +kernel
theorem d_Mo_put1_85 : decode (a_cc M_Mo_put1) 85 = .ok (.invokevirtual 191, 3) := by decide +kernel
theorem d_Mo_put1_88 : decode (a_cc M_Mo_put1) 88 = .ok (.goto 7, 3) := by decide +kernel
theorem d_Mo_put1_91 : decode (a_cc M_Mo_put1) 91 = .ok (.aload_n 0, 1) := by decide +kernel
theorem d_Mo_put1_92 : decode (a_cc M_Mo_put1) 92 = .ok (.invokevirtual 194, 3) := by decide +kernel
theorem d_Mo_put1_95 : decode (a_cc M_Mo_put1) 95 = .ok (.aload_n 0, 1) := by decide +kernel
theorem d_Mo_put1_96 : decode (a_cc M_Mo_put1) 96 = .ok (.iconst 0, 1) := by decide +kernel
theorem d_Mo_put1_97 : decode (a_cc M_Mo_put1) 97 = .ok (.putfield 162, 3) := by decide +kernel
theorem d_Mo_put1_100 : decode (a_cc M_Mo_put1) 100 = .ok (.return_, 1) := by decide +kernel
theorem cs_Mo_put1_1 : a_CV M_Mo_put1 M_Mo_sponge 180 10 1 0 0 := ⟨⟨ok_Mo_sponge, by decide, by decide, by decide⟩, by decide, rfl, List.mem_append_right _ (List.mem_of_getElem? (i := 1062) (by decide +kernel)), List.mem_append_right _ (List.mem_of_getElem? (i := 1064) (by decide +kernel)), List.mem_append_left _ (List.mem_of_getElem? (i := 35) (by decide +kernel)), by decide +kernel⟩
theorem cs_Mo_put1_13 : a_CV M_Mo_put1 M_Mo_flip 184 10 3 0 2 := ⟨⟨ok_Mo_flip, by decide, by decide, by decide⟩, by decide, rfl, List.mem_append_right _ (List.mem_of_getElem? (i := 1066) (by decide +kernel)), List.mem_append_right _ (List.mem_of_getElem? (i := 1068) (by decide +kernel)), List.mem_append_left _ (List.mem_of_getElem? (i := 36) (by decide +kernel)), by decide +kernel⟩
theorem cs_Mo_put1_62 : a_CV M_Mo_put1 M_Mo_sponge 180 10 1 0 0 := ⟨⟨ok_Mo_sponge, by decide, by decide, by decide⟩, by decide, rfl, List.mem_append_right _ (List.mem_of_getElem? (i := 1062) (by decide +kernel)), List.mem_append_right _ (List.mem_of_getElem? (i := 1064) (by decide +kernel)), List.mem_append_left _ (List.mem_of_getElem? (i := 35) (by decide +kernel)), by decide +kernel⟩
theorem cs_Mo_put1_69 : a_CV M_Mo_put1 M_Mo_permute 188 10 1 0 0 := ⟨⟨ok_Mo_permute, by decide, by decide, by decide⟩, by decide, rfl, List.mem_append_right _ (List.mem_of_getElem? (i := 1071) (by decide +kernel)), List.mem_append_right _ (List.mem_of_getElem? (i := 1073) (by decide +kernel)), List.mem_append_left _ (List.mem_of_getElem? (i := 37) (by decide +kernel)), by decide +kernel⟩
theorem cs_Mo_put1_85 : a_CV M_Mo_put1 M_Mo_compress32 191 10 1 0 0 := ⟨⟨ok_Mo_compress32, by decide, by decide, by decide⟩, by decide, rfl, List.mem_append_right _ (List.mem_of_getElem? (i := 1079) (by decide +kernel)), List.mem_append_right _ (List.mem_of_getElem? (i := 1081) (by decide +kernel)), List.mem_append_left _ (List.mem_of_getElem? (i := 38) (by decide +kernel)), by decide +kernel⟩
theorem cs_Mo_put1_92 : a_CV M_Mo_put1 M_Mo_compress64 194 10 1 0 0 := ⟨⟨ok_Mo_compress64, by decide, by decide, by decide⟩, by decide, rfl, List.mem_append_right _ (List.mem_of_getElem? (i := 1086) (by decide +kernel)), List.mem_append_right _ (List.mem_of_getElem? (i := 1088) (by decide +kernel)), List.mem_append_left _ (List.mem_of_getElem? (i := 39) (by decide +kernel)), by decide +kernel⟩
def M_Mo_finish : a_M := (⟨"ModuleSignerModel", "finish", "()V"⟩, prog_12_method_35_code, 4, none, "ModuleSignerModel", 3, 66, [])
theorem ok_Mo_finish : a_Ok M_Mo_finish := ⟨rfl, by decide +kernel, ⟨by decide, by decide⟩, List.mem_append_right _ (List.mem_of_getElem? (i := 11) (by decide +kernel)), Or.inl ⟨rfl, List.mem_append_right _ (List.mem_of_getElem? (i := 1096) (by decide +kernel))⟩⟩
theorem d_Mo_finish_0 : decode (a_cc M_Mo_finish) 0 = .ok (.aload_n 0, 1) := by decide +kernel
theorem d_Mo_finish_1 : decode (a_cc M_Mo_finish) 1 = .ok (.invokevirtual 180, 3) := by decide +kernel
theorem d_Mo_finish_4 : decode (a_cc M_Mo_finish) 4 = .ok (.ifCond .eq 50, 3) := by decide +kernel
theorem d_Mo_finish_7 : decode (a_cc M_Mo_finish) 7 = .ok (.aload_n 0, 1) := by decide +kernel
theorem d_Mo_finish_8 : decode (a_cc M_Mo_finish) 8 = .ok (.aload_n 0, 1) := by decide +kernel
theorem d_Mo_finish_9 : decode (a_cc M_Mo_finish) 9 = .ok (.getfield 162, 3) := by decide +kernel
theorem d_Mo_finish_12 : decode (a_cc M_Mo_finish) 12 = .ok (.aload_n 0, 1) := by decide +kernel
theorem d_Mo_finish_13 : decode (a_cc M_Mo_finish) 13 = .ok (.getfield 159, 3) := by decide +kernel
theorem d_Mo_finish_16 : decode (a_cc M_Mo_finish) 16 = .ok (.bipush 10, 2) := by decide +kernel
theorem d_Mo_finish_18 : decode (a_cc M_Mo_finish) 18 = .ok (.if_icmp .le 8, 3) := by decide +kernel
theorem d_Mo_finish_21 : decode (a_cc M_Mo_finish) 21 = .ok (.bipush 31, 2) := by decide +kernel
theorem d_Mo_finish_23 : decode (a_cc M_Mo_finish) 23 = .ok (.goto 5, 3) := by decide +kernel
theorem d_Mo_finish_26 : decode (a_cc M_Mo_finish) 26 = .ok (.bipush 6, 2) := by decide +kernel
theorem d_Mo_finish_28 : decode (a_cc M_Mo_finish) 28 = .ok (.invokevirtual 184, 3) := by decide +kernel
theorem d_Mo_finish_31 : decode (a_cc M_Mo_finish) 31 = .ok (.aload_n 0, 1) := by decide +kernel
theorem d_Mo_finish_32 : decode (a_cc M_Mo_finish) 32 = .ok (.aload_n 0, 1) := by decide +kernel
theorem d_Mo_finish_33 : decode (a_cc M_Mo_finish) 33 = .ok (.getfield 175, 3) := by decide +kernel
theorem d_Mo_finish_36 : decode (a_cc M_Mo_finish) 36 = .ok (.iconst 1, 1) := by decide +kernel
theorem d_Mo_finish_37 : decode (a_cc M_Mo_finish) 37 = .ok (.isub, 1) := by decide +kernel
theorem d_Mo_finish_38 : decode (a_cc M_Mo_finish) 38 = .ok (.sipush 128, 3) := by decide +kernel
theorem d_Mo_finish_41 : decode (a_cc M_Mo_finish) 41 = .ok (.invokevirtual 184, 3) := by decide +kernel
theorem d_Mo_finish_44 : decode (a_cc M_Mo_finish) 44 = .ok (.aload_n 0, 1) := by decide +kernel
theorem d_Mo_finish_45 : decode (a_cc M_Mo_finish) 45 = .ok (.invokevirtual 188, 3) := by decide +kernel
theorem d_Mo_finish_48 : decode (a_cc M_Mo_finish) 48 = .ok (.aload_n 0, 1) := by decide +kernel
theorem d_Mo_finish_49 : decode (a_cc M_Mo_finish) 49 = .ok (.iconst 0, 1) := by decide +kernel
theorem d_Mo_finish_50 : decode (a_cc M_Mo_finish) 50 = .ok (.putfield 162, 3) := by decide +kernel
theorem d_Mo_finish_53 : decode (a_cc M_Mo_finish) 53 = .ok (.return_, 1) := by decide +kernel
theorem d_Mo_finish_54 : decode (a_cc M_Mo_finish) 54 = .ok (.ldc2_w 210, 3) := by decide +kernel
theorem d_Mo_finish_57 : decode (a_cc M_Mo_finish) 57 = .ok (.aload_n 0, 1) := by decide +kernel
theorem d_Mo_finish_58 : decode (a_cc M_Mo_finish) 58 = .ok (.getfield 165, 3) := by decide +kernel
theorem d_Mo_finish_61 : decode (a_cc M_Mo_finish) 61 = .ok (.lmul, 1) := by decide +kernel
theorem d_Mo_finish_62 : decode (a_cc M_Mo_finish) 62 = .ok (.lstore_n 1, 1) := by decide +kernel
theorem d_Mo_finish_63 : decode (a_cc M_Mo_finish) 63 = .ok (.aload_n 0, 1) := by decide +kernel
theorem d_Mo_finish_64 : decode (a_cc M_Mo_finish) 64 = .ok (.sipush 128, 3) := by decide +kernel
theorem d_Mo_finish_67 : decode (a_cc M_Mo_finish) 67 = .ok (.invokevirtual 153, 3) := by decide +kernel
theorem d_Mo_finish_70 : decode (a_cc M_Mo_finish) 70 = .ok (.aload_n 0, 1) := by decide +kernel
theorem d_Mo_finish_71 : decode (a_cc M_Mo_finish) 71 = .ok (.getfield 162, 3) := by decide +kernel
theorem d_Mo_finish_74 : decode (a_cc M_Mo_finish) 74 = .ok (.aload_n 0, 1) := by decide +kernel
theorem d_Mo_finish_75 : decode (a_cc M_Mo_finish) 75 = .ok (.getfield 175, 3) := by decide +kernel
theorem d_Mo_finish_78 : decode (a_cc M_Mo_finish) 78 = .ok (.aload_n 0, 1) := by decide +kernel
theorem d_Mo_finish_79 : decode (a_cc M_Mo_finish) 79 = .ok (.getfield 175, 3) := by decide +kernel
theorem d_Mo_finish_82 : decode (a_cc M_Mo_finish) 82 = .ok (.bipush 8, 2) := by decide +kernel
theorem d_Mo_finish_84 : decode (a_cc M_Mo_finish) 84 = .ok (.idiv, 1) := by decide +kernel
theorem d_Mo_finish_85 : decode (a_cc M_Mo_finish) 85 = .ok (.isub, 1) := by decide +kernel
theorem d_Mo_finish_86 : decode (a_cc M_Mo_finish) 86 = .ok (.if_icmp .eq 11, 3) := by decide +kernel
theorem d_Mo_finish_89 : decode (a_cc M_Mo_finish) 89 = .ok (.aload_n 0, 1) := by decide +kernel
theorem d_Mo_finish_90 : decode (a_cc M_Mo_finish) 90 = .ok (.iconst 0, 1) := by decide +kernel
theorem d_Mo_finish_91 : decode (a_cc M_Mo_finish) 91 = .ok (.invokevirtual 153, 3) := by decide +kernel
theorem d_Mo_finish_94 : decode (a_cc M_Mo_finish) 94 = .ok (.goto (-24), 3) := by decide +kernel
theorem d_Mo_finish_97 : decode (a_cc M_Mo_finish) 97 = .ok (.aload_n 0, 1) := by decide +kernel
theorem d_Mo_finish_98 : decode (a_cc M_Mo_finish) 98 = .ok (.getfield 175, 3) := by decide +kernel
theorem d_Mo_finish_101 : decode (a_cc M_Mo_finish) 101 = .ok (.bipush 8, 2) := by decide +kernel
theorem d_Mo_finish_103 : decode (a_cc M_Mo_finish) 103 = .ok (.idiv, 1) := by decide +kernel
theorem d_Mo_finish_104 : decode (a_cc M_Mo_finish) 104 = .ok (.iconst 1, 1) := by decide +kernel
theorem d_Mo_finish_105 : decode (a_cc M_Mo_finish) 105 = .ok (.isub, 1) := by decide +kernel
theorem d_Mo_finish_106 : decode (a_cc M_Mo_finish) 106 = .ok (.istore_n 3, 1) := by decide +kernel
theorem d_Mo_finish_107 : decode (a_cc M_Mo_finish) 107 = .ok (.iload_n 3, 1) := by decide +kernel
theorem d_Mo_finish_108 : decode (a_cc M_Mo_finish) 108 = .ok (.ifCond .lt 30, 3) := by decide +kernel
theorem d_Mo_finish_111 : decode (a_cc M_Mo_finish) 111 = .ok (.aload_n 0, 1) := by decide +kernel
theorem d_Mo_finish_112 : decode (a_cc M_Mo_finish) 112 = .ok (.iload_n 3, 1) := by decide +kernel
theorem d_Mo_finish_113 : decode (a_cc M_Mo_finish) 113 = .ok (.bipush 8, 2) := by decide +kernel
theorem d_Mo_finish_115 : decode (a_cc M_Mo_finish) 115 = .ok (.if_icmp .ge 13, 3) := by decide +kernel
theorem d_Mo_finish_118 : decode (a_cc M_Mo_finish) 118 = .ok (.lload_n 1, 1) := by decide +kernel
theorem d_Mo_finish_119 : decode (a_cc M_Mo_finish) 119 = .ok (.bipush 8, 2) := by decide +kernel
theorem d_Mo_finish_121 : decode (a_cc M_Mo_finish) 121 = .ok (.iload_n 3, 1) := by decide +kernel
theorem d_Mo_finish_122 : decode (a_cc M_Mo_finish) 122 = .ok (.imul, 1) := by decide +kernel
theorem d_Mo_finish_123 : decode (a_cc M_Mo_finish) 123 = .ok (.lushr, 1) := by decide +kernel
theorem d_Mo_finish_124 : decode (a_cc M_Mo_finish) 124 = .ok (.l2i, 1) := by decide +kernel
theorem d_Mo_finish_125 : decode (a_cc M_Mo_finish) 125 = .ok (.goto 4, 3) := by decide +kernel
theorem d_Mo_finish_128 : decode (a_cc M_Mo_finish) 128 = .ok (.iconst 0, 1) := by decide +kernel
theorem d_Mo_finish_129 : decode (a_cc M_Mo_finish) 129 = .ok (.invokevirtual 153, 3) := by decide +kernel
theorem d_Mo_finish_132 : decode (a_cc M_Mo_finish) 132 = .ok (.iinc 3 (-1), 3) := by decide +kernel
theorem d_Mo_finish_135 : decode (a_cc M_Mo_finish) 135 = .ok (.goto (-28), 3) := by decide +kernel
theorem d_Mo_finish_138 : decode (a_cc M_Mo_finish) 138 = .ok (.return_, 1) := by decide +kernel
theorem cs_Mo_finish_1 : a_CV M_Mo_finish M_Mo_sponge 180 10 1 0 0 := ⟨⟨ok_Mo_sponge, by decide, by decide, by decide⟩, by decide, rfl, List.mem_append_right _ (List.mem_of_getElem? (i := 1062) (by decide +kernel)), List.mem_append_right _ (List.mem_of_getElem? (i := 1064) (by decide +kernel)), List.mem_append_left _ (List.mem_of_getElem? (i := 35) (by decide +kernel)), by decide +kernel⟩
theorem cs_Mo_finish_28 : a_CV M_Mo_finish M_Mo_flip 184 10 3 0 2 := ⟨⟨ok_Mo_flip, by decide, by decide, by decide⟩, by decide, rfl, List.mem_append_right _ (List.mem_of_getElem? (i := 1066) (by decide +kernel)), List.mem_append_right _ (List.mem_of_getElem? (i := 1068) (by decide +kernel)), List.mem_append_left _ (List.mem_of_getElem? (i := 36) (by decide +kernel)), by decide +kernel⟩
theorem cs_Mo_finish_41 : a_CV M_Mo_finish M_Mo_flip 184 10 3 0 2 := ⟨⟨ok_Mo_flip, by decide, by decide, by decide⟩, by decide, rfl, List.mem_append_right _ (List.mem_of_getElem? (i := 1066) (by decide +kernel)), List.mem_append_right _ (List.mem_of_getElem? (i := 1068) (by decide +kernel)), List.mem_append_left _ (List.mem_of_getElem? (i := 36) (by decide +kernel)), by decide +kernel⟩
theorem cs_Mo_finish_45 : a_CV M_Mo_finish M_Mo_permute 188 10 1 0 0 := ⟨⟨ok_Mo_permute, by decide, by decide, by decide⟩, by decide, rfl, List.mem_append_right _ (List.mem_of_getElem? (i := 1071) (by decide +kernel)), List.mem_append_right _ (List.mem_of_getElem? (i := 1073) (by decide +kernel)), List.mem_append_left _ (List.mem_of_getElem? (i := 37) (by decide +kernel)), by decide +kernel⟩
theorem lc_Mo_210 : Cond.constantLong "ModuleSignerModel" 210 (Int64.ofInt (8)) ∈ lw_tbl := List.mem_append_right _ (List.mem_of_getElem? (i := 1097) (by decide +kernel))
theorem cs_Mo_finish_67 : a_CV M_Mo_finish M_Mo_put1 153 10 2 0 1 := ⟨⟨ok_Mo_put1, by decide, by decide, by decide⟩, by decide, rfl, List.mem_append_right _ (List.mem_of_getElem? (i := 1058) (by decide +kernel)), List.mem_append_right _ (List.mem_of_getElem? (i := 1060) (by decide +kernel)), List.mem_append_left _ (List.mem_of_getElem? (i := 34) (by decide +kernel)), by decide +kernel⟩
theorem cs_Mo_finish_91 : a_CV M_Mo_finish M_Mo_put1 153 10 2 0 1 := ⟨⟨ok_Mo_put1, by decide, by decide, by decide⟩, by decide, rfl, List.mem_append_right _ (List.mem_of_getElem? (i := 1058) (by decide +kernel)), List.mem_append_right _ (List.mem_of_getElem? (i := 1060) (by decide +kernel)), List.mem_append_left _ (List.mem_of_getElem? (i := 34) (by decide +kernel)), by decide +kernel⟩
theorem cs_Mo_finish_129 : a_CV M_Mo_finish M_Mo_put1 153 10 2 0 1 := ⟨⟨ok_Mo_put1, by decide, by decide, by decide⟩, by decide, rfl, List.mem_append_right _ (List.mem_of_getElem? (i := 1058) (by decide +kernel)), List.mem_append_right _ (List.mem_of_getElem? (i := 1060) (by decide +kernel)), List.mem_append_left _ (List.mem_of_getElem? (i := 34) (by decide +kernel)), by decide +kernel⟩
def M_Mo_named : a_M := (⟨"ModuleSignerModel", "named", "([JII)V"⟩, prog_12_method_21_code, 5, none, "ModuleSignerModel", 4, 81, [])
theorem ok_Mo_named : a_Ok M_Mo_named := ⟨rfl, by decide +kernel, ⟨by decide, by decide⟩, List.mem_append_right _ (List.mem_of_getElem? (i := 11) (by decide +kernel)), Or.inl ⟨rfl, List.mem_append_right _ (List.mem_of_getElem? (i := 1045) (by decide +kernel))⟩⟩
theorem d_Mo_named_0 : decode (a_cc M_Mo_named) 0 = .ok (.aload_n 0, 1) := by decide +kernel
theorem d_Mo_named_1 : decode (a_cc M_Mo_named) 1 = .ok (.iconst 3, 1) := by decide +kernel
theorem d_Mo_named_2 : decode (a_cc M_Mo_named) 2 = .ok (.invokevirtual 148, 3) := by decide +kernel
theorem d_Mo_named_5 : decode (a_cc M_Mo_named) 5 = .ok (.iconst 0, 1) := by decide +kernel
theorem d_Mo_named_6 : decode (a_cc M_Mo_named) 6 = .ok (.istore 4, 2) := by decide +kernel
theorem d_Mo_named_8 : decode (a_cc M_Mo_named) 8 = .ok (.iload 4, 2) := by decide +kernel
theorem d_Mo_named_10 : decode (a_cc M_Mo_named) 10 = .ok (.bipush 8, 2) := by decide +kernel
theorem d_Mo_named_12 : decode (a_cc M_Mo_named) 12 = .ok (.if_icmp .ge 22, 3) := by decide +kernel
theorem d_Mo_named_15 : decode (a_cc M_Mo_named) 15 = .ok (.aload_n 0, 1) := by decide +kernel
theorem d_Mo_named_16 : decode (a_cc M_Mo_named) 16 = .ok (.getfield 47, 3) := by decide +kernel
theorem d_Mo_named_19 : decode (a_cc M_Mo_named) 19 = .ok (.iload 4, 2) := by decide +kernel
theorem d_Mo_named_21 : decode (a_cc M_Mo_named) 21 = .ok (.dup2, 1) := by decide +kernel
theorem d_Mo_named_22 : decode (a_cc M_Mo_named) 22 = .ok (.laload, 1) := by decide +kernel
theorem d_Mo_named_23 : decode (a_cc M_Mo_named) 23 = .ok (.ldc2_w 151, 3) := by decide +kernel
theorem d_Mo_named_26 : decode (a_cc M_Mo_named) 26 = .ok (.lxor, 1) := by decide +kernel
theorem d_Mo_named_27 : decode (a_cc M_Mo_named) 27 = .ok (.lastore, 1) := by decide +kernel
theorem d_Mo_named_28 : decode (a_cc M_Mo_named) 28 = .ok (.iinc 4 1, 3) := by decide +kernel
theorem d_Mo_named_31 : decode (a_cc M_Mo_named) 31 = .ok (.goto (-23), 3) := by decide +kernel
theorem d_Mo_named_34 : decode (a_cc M_Mo_named) 34 = .ok (.aload_n 0, 1) := by decide +kernel
theorem d_Mo_named_35 : decode (a_cc M_Mo_named) 35 = .ok (.bipush 83, 2) := by decide +kernel
theorem d_Mo_named_37 : decode (a_cc M_Mo_named) 37 = .ok (.invokevirtual 153, 3) := by decide +kernel
theorem d_Mo_named_40 : decode (a_cc M_Mo_named) 40 = .ok (.aload_n 0, 1) := by decide +kernel
theorem d_Mo_named_41 : decode (a_cc M_Mo_named) 41 = .ok (.bipush 72, 2) := by decide +kernel
theorem d_Mo_named_43 : decode (a_cc M_Mo_named) 43 = .ok (.invokevirtual 153, 3) := by decide +kernel
theorem d_Mo_named_46 : decode (a_cc M_Mo_named) 46 = .ok (.aload_n 0, 1) := by decide +kernel
theorem d_Mo_named_47 : decode (a_cc M_Mo_named) 47 = .ok (.bipush 65, 2) := by decide +kernel
theorem d_Mo_named_49 : decode (a_cc M_Mo_named) 49 = .ok (.invokevirtual 153, 3) := by decide +kernel
theorem d_Mo_named_52 : decode (a_cc M_Mo_named) 52 = .ok (.aload_n 0, 1) := by decide +kernel
theorem d_Mo_named_53 : decode (a_cc M_Mo_named) 53 = .ok (.bipush 45, 2) := by decide +kernel
theorem d_Mo_named_55 : decode (a_cc M_Mo_named) 55 = .ok (.invokevirtual 153, 3) := by decide +kernel
theorem d_Mo_named_58 : decode (a_cc M_Mo_named) 58 = .ok (.aload_n 0, 1) := by decide +kernel
theorem d_Mo_named_59 : decode (a_cc M_Mo_named) 59 = .ok (.bipush 53, 2) := by decide +kernel
theorem d_Mo_named_61 : decode (a_cc M_Mo_named) 61 = .ok (.invokevirtual 153, 3) := by decide +kernel
theorem d_Mo_named_64 : decode (a_cc M_Mo_named) 64 = .ok (.aload_n 0, 1) := by decide +kernel
theorem d_Mo_named_65 : decode (a_cc M_Mo_named) 65 = .ok (.bipush 49, 2) := by decide +kernel
theorem d_Mo_named_67 : decode (a_cc M_Mo_named) 67 = .ok (.invokevirtual 153, 3) := by decide +kernel
theorem d_Mo_named_70 : decode (a_cc M_Mo_named) 70 = .ok (.aload_n 0, 1) := by decide +kernel
theorem d_Mo_named_71 : decode (a_cc M_Mo_named) 71 = .ok (.bipush 50, 2) := by decide +kernel
theorem d_Mo_named_73 : decode (a_cc M_Mo_named) 73 = .ok (.invokevirtual 153, 3) := by decide +kernel
theorem d_Mo_named_76 : decode (a_cc M_Mo_named) 76 = .ok (.aload_n 0, 1) := by decide +kernel
theorem d_Mo_named_77 : decode (a_cc M_Mo_named) 77 = .ok (.bipush 47, 2) := by decide +kernel
theorem d_Mo_named_79 : decode (a_cc M_Mo_named) 79 = .ok (.invokevirtual 153, 3) := by decide +kernel
theorem d_Mo_named_82 : decode (a_cc M_Mo_named) 82 = .ok (.aload_n 0, 1) := by decide +kernel
theorem d_Mo_named_83 : decode (a_cc M_Mo_named) 83 = .ok (.bipush 50, 2) := by decide +kernel
theorem d_Mo_named_85 : decode (a_cc M_Mo_named) 85 = .ok (.invokevirtual 153, 3) := by decide +kernel
theorem d_Mo_named_88 : decode (a_cc M_Mo_named) 88 = .ok (.aload_n 0, 1) := by decide +kernel
theorem d_Mo_named_89 : decode (a_cc M_Mo_named) 89 = .ok (.iload_n 2, 1) := by decide +kernel
theorem d_Mo_named_90 : decode (a_cc M_Mo_named) 90 = .ok (.invokevirtual 153, 3) := by decide +kernel
theorem d_Mo_named_93 : decode (a_cc M_Mo_named) 93 = .ok (.aload_n 0, 1) := by decide +kernel
theorem d_Mo_named_94 : decode (a_cc M_Mo_named) 94 = .ok (.iload_n 3, 1) := by decide +kernel
theorem d_Mo_named_95 : decode (a_cc M_Mo_named) 95 = .ok (.invokevirtual 153, 3) := by decide +kernel
theorem d_Mo_named_98 : decode (a_cc M_Mo_named) 98 = .ok (.aload_n 0, 1) := by decide +kernel
theorem d_Mo_named_99 : decode (a_cc M_Mo_named) 99 = .ok (.invokevirtual 156, 3) := by decide +kernel
theorem d_Mo_named_102 : decode (a_cc M_Mo_named) 102 = .ok (.iconst 0, 1) := by decide +kernel
theorem d_Mo_named_103 : decode (a_cc M_Mo_named) 103 = .ok (.istore 4, 2) := by decide +kernel
theorem d_Mo_named_105 : decode (a_cc M_Mo_named) 105 = .ok (.iload 4, 2) := by decide +kernel
theorem d_Mo_named_107 : decode (a_cc M_Mo_named) 107 = .ok (.bipush 8, 2) := by decide +kernel
theorem d_Mo_named_109 : decode (a_cc M_Mo_named) 109 = .ok (.if_icmp .ge 20, 3) := by decide +kernel
theorem d_Mo_named_112 : decode (a_cc M_Mo_named) 112 = .ok (.aload_n 1, 1) := by decide +kernel
theorem d_Mo_named_113 : decode (a_cc M_Mo_named) 113 = .ok (.iload 4, 2) := by decide +kernel
theorem d_Mo_named_115 : decode (a_cc M_Mo_named) 115 = .ok (.aload_n 0, 1) := by decide +kernel
theorem d_Mo_named_116 : decode (a_cc M_Mo_named) 116 = .ok (.getfield 47, 3) := by decide +kernel
theorem d_Mo_named_119 : decode (a_cc M_Mo_named) 119 = .ok (.iload 4, 2) := by decide +kernel
theorem d_Mo_named_121 : decode (a_cc M_Mo_named) 121 = .ok (.laload, 1) := by decide +kernel
theorem d_Mo_named_122 : decode (a_cc M_Mo_named) 122 = .ok (.lastore, 1) := by decide +kernel
theorem d_Mo_named_123 : decode (a_cc M_Mo_named) 123 = .ok (.iinc 4 1, 3) := by decide +kernel
theorem d_Mo_named_126 : decode (a_cc M_Mo_named) 126 = .ok (.goto (-21), 3) := by decide +kernel
theorem d_Mo_named_129 : decode (a_cc M_Mo_named) 129 = .ok (.return_, 1) := by decide +kernel
theorem cs_Mo_named_2 : a_CV M_Mo_named M_Mo_begin 148 10 2 0 1 := ⟨⟨ok_Mo_begin, by decide, by decide, by decide⟩, by decide, rfl, List.mem_append_right _ (List.mem_of_getElem? (i := 1046) (by decide +kernel)), List.mem_append_right _ (List.mem_of_getElem? (i := 1048) (by decide +kernel)), List.mem_append_left _ (List.mem_of_getElem? (i := 33) (by decide +kernel)), by decide +kernel⟩
theorem lc_Mo_151 : Cond.constantLong "ModuleSignerModel" 151 (Int64.ofInt (-6510615555426900571)) ∈ lw_tbl := List.mem_append_right _ (List.mem_of_getElem? (i := 1057) (by decide +kernel))
theorem cs_Mo_named_37 : a_CV M_Mo_named M_Mo_put1 153 10 2 0 1 := ⟨⟨ok_Mo_put1, by decide, by decide, by decide⟩, by decide, rfl, List.mem_append_right _ (List.mem_of_getElem? (i := 1058) (by decide +kernel)), List.mem_append_right _ (List.mem_of_getElem? (i := 1060) (by decide +kernel)), List.mem_append_left _ (List.mem_of_getElem? (i := 34) (by decide +kernel)), by decide +kernel⟩
theorem cs_Mo_named_43 : a_CV M_Mo_named M_Mo_put1 153 10 2 0 1 := ⟨⟨ok_Mo_put1, by decide, by decide, by decide⟩, by decide, rfl, List.mem_append_right _ (List.mem_of_getElem? (i := 1058) (by decide +kernel)), List.mem_append_right _ (List.mem_of_getElem? (i := 1060) (by decide +kernel)), List.mem_append_left _ (List.mem_of_getElem? (i := 34) (by decide +kernel)), by decide +kernel⟩
theorem cs_Mo_named_49 : a_CV M_Mo_named M_Mo_put1 153 10 2 0 1 := ⟨⟨ok_Mo_put1, by decide, by decide, by decide⟩, by decide, rfl, List.mem_append_right _ (List.mem_of_getElem? (i := 1058) (by decide +kernel)), List.mem_append_right _ (List.mem_of_getElem? (i := 1060) (by decide +kernel)), List.mem_append_left _ (List.mem_of_getElem? (i := 34) (by decide +kernel)), by decide +kernel⟩
theorem cs_Mo_named_55 : a_CV M_Mo_named M_Mo_put1 153 10 2 0 1 := ⟨⟨ok_Mo_put1, by decide, by decide, by decide⟩, by decide, rfl, List.mem_append_right _ (List.mem_of_getElem? (i := 1058) (by decide +kernel)), List.mem_append_right _ (List.mem_of_getElem? (i := 1060) (by decide +kernel)), List.mem_append_left _ (List.mem_of_getElem? (i := 34) (by decide +kernel)), by decide +kernel⟩
theorem cs_Mo_named_61 : a_CV M_Mo_named M_Mo_put1 153 10 2 0 1 := ⟨⟨ok_Mo_put1, by decide, by decide, by decide⟩, by decide, rfl, List.mem_append_right _ (List.mem_of_getElem? (i := 1058) (by decide +kernel)), List.mem_append_right _ (List.mem_of_getElem? (i := 1060) (by decide +kernel)), List.mem_append_left _ (List.mem_of_getElem? (i := 34) (by decide +kernel)), by decide +kernel⟩
theorem cs_Mo_named_67 : a_CV M_Mo_named M_Mo_put1 153 10 2 0 1 := ⟨⟨ok_Mo_put1, by decide, by decide, by decide⟩, by decide, rfl, List.mem_append_right _ (List.mem_of_getElem? (i := 1058) (by decide +kernel)), List.mem_append_right _ (List.mem_of_getElem? (i := 1060) (by decide +kernel)), List.mem_append_left _ (List.mem_of_getElem? (i := 34) (by decide +kernel)), by decide +kernel⟩
theorem cs_Mo_named_73 : a_CV M_Mo_named M_Mo_put1 153 10 2 0 1 := ⟨⟨ok_Mo_put1, by decide, by decide, by decide⟩, by decide, rfl, List.mem_append_right _ (List.mem_of_getElem? (i := 1058) (by decide +kernel)), List.mem_append_right _ (List.mem_of_getElem? (i := 1060) (by decide +kernel)), List.mem_append_left _ (List.mem_of_getElem? (i := 34) (by decide +kernel)), by decide +kernel⟩
theorem cs_Mo_named_79 : a_CV M_Mo_named M_Mo_put1 153 10 2 0 1 := ⟨⟨ok_Mo_put1, by decide, by decide, by decide⟩, by decide, rfl, List.mem_append_right _ (List.mem_of_getElem? (i := 1058) (by decide +kernel)), List.mem_append_right _ (List.mem_of_getElem? (i := 1060) (by decide +kernel)), List.mem_append_left _ (List.mem_of_getElem? (i := 34) (by decide +kernel)), by decide +kernel⟩
theorem cs_Mo_named_85 : a_CV M_Mo_named M_Mo_put1 153 10 2 0 1 := ⟨⟨ok_Mo_put1, by decide, by decide, by decide⟩, by decide, rfl, List.mem_append_right _ (List.mem_of_getElem? (i := 1058) (by decide +kernel)), List.mem_append_right _ (List.mem_of_getElem? (i := 1060) (by decide +kernel)), List.mem_append_left _ (List.mem_of_getElem? (i := 34) (by decide +kernel)), by decide +kernel⟩
theorem cs_Mo_named_90 : a_CV M_Mo_named M_Mo_put1 153 10 2 0 1 := ⟨⟨ok_Mo_put1, by decide, by decide, by decide⟩, by decide, rfl, List.mem_append_right _ (List.mem_of_getElem? (i := 1058) (by decide +kernel)), List.mem_append_right _ (List.mem_of_getElem? (i := 1060) (by decide +kernel)), List.mem_append_left _ (List.mem_of_getElem? (i := 34) (by decide +kernel)), by decide +kernel⟩
theorem cs_Mo_named_95 : a_CV M_Mo_named M_Mo_put1 153 10 2 0 1 := ⟨⟨ok_Mo_put1, by decide, by decide, by decide⟩, by decide, rfl, List.mem_append_right _ (List.mem_of_getElem? (i := 1058) (by decide +kernel)), List.mem_append_right _ (List.mem_of_getElem? (i := 1060) (by decide +kernel)), List.mem_append_left _ (List.mem_of_getElem? (i := 34) (by decide +kernel)), by decide +kernel⟩
theorem cs_Mo_named_99 : a_CV M_Mo_named M_Mo_finish 156 10 1 0 0 := ⟨⟨ok_Mo_finish, by decide, by decide, by decide⟩, by decide, rfl, List.mem_append_right _ (List.mem_of_getElem? (i := 1093) (by decide +kernel)), List.mem_append_right _ (List.mem_of_getElem? (i := 1095) (by decide +kernel)), List.mem_append_left _ (List.mem_of_getElem? (i := 40) (by decide +kernel)), by decide +kernel⟩
def M_Mo_constants : a_M := (⟨"ModuleSignerModel", "constants", "()V"⟩, prog_12_method_19_code, 6, none, "ModuleSignerModel", 5, 97, [])
theorem ok_Mo_constants : a_Ok M_Mo_constants := ⟨rfl, by decide +kernel, ⟨by decide, by decide⟩, List.mem_append_right _ (List.mem_of_getElem? (i := 11) (by decide +kernel)), Or.inl ⟨rfl, List.mem_append_right _ (List.mem_of_getElem? (i := 1026) (by decide +kernel))⟩⟩
theorem d_Mo_constants_0 : decode (a_cc M_Mo_constants) 0 = .ok (.iconst 0, 1) := by decide +kernel
theorem d_Mo_constants_1 : decode (a_cc M_Mo_constants) 1 = .ok (.istore_n 1, 1) := by decide +kernel
theorem d_Mo_constants_2 : decode (a_cc M_Mo_constants) 2 = .ok (.iconst 2, 1) := by decide +kernel
theorem d_Mo_constants_3 : decode (a_cc M_Mo_constants) 3 = .ok (.istore_n 2, 1) := by decide +kernel
theorem d_Mo_constants_4 : decode (a_cc M_Mo_constants) 4 = .ok (.iload_n 1, 1) := by decide +kernel
theorem d_Mo_constants_5 : decode (a_cc M_Mo_constants) 5 = .ok (.bipush 80, 2) := by decide +kernel
theorem d_Mo_constants_7 : decode (a_cc M_Mo_constants) 7 = .ok (.if_icmp .ge 52, 3) := by decide +kernel
theorem d_Mo_constants_10 : decode (a_cc M_Mo_constants) 10 = .ok (.iload_n 2, 1) := by decide +kernel
theorem d_Mo_constants_11 : decode (a_cc M_Mo_constants) 11 = .ok (.invokestatic 132, 3) := by decide +kernel
theorem d_Mo_constants_14 : decode (a_cc M_Mo_constants) 14 = .ok (.ifCond .ne 6, 3) := by decide +kernel
theorem d_Mo_constants_17 : decode (a_cc M_Mo_constants) 17 = .ok (.goto 36, 3) := by decide +kernel
theorem d_Mo_constants_20 : decode (a_cc M_Mo_constants) 20 = .ok (.iload_n 1, 1) := by decide +kernel
theorem d_Mo_constants_21 : decode (a_cc M_Mo_constants) 21 = .ok (.bipush 16, 2) := by decide +kernel
theorem d_Mo_constants_23 : decode (a_cc M_Mo_constants) 23 = .ok (.if_icmp .ge 15, 3) := by decide +kernel
theorem d_Mo_constants_26 : decode (a_cc M_Mo_constants) 26 = .ok (.aload_n 0, 1) := by decide +kernel
theorem d_Mo_constants_27 : decode (a_cc M_Mo_constants) 27 = .ok (.getfield 22, 3) := by decide +kernel
theorem d_Mo_constants_30 : decode (a_cc M_Mo_constants) 30 = .ok (.iload_n 1, 1) := by decide +kernel
theorem d_Mo_constants_31 : decode (a_cc M_Mo_constants) 31 = .ok (.aload_n 0, 1) := by decide +kernel
theorem d_Mo_constants_32 : decode (a_cc M_Mo_constants) 32 = .ok (.iload_n 2, 1) := by decide +kernel
theorem d_Mo_constants_33 : decode (a_cc M_Mo_constants) 33 = .ok (.iconst 2, 1) := by decide +kernel
theorem d_Mo_constants_34 : decode (a_cc M_Mo_constants) 34 = .ok (.invokevirtual 136, 3) := by decide +kernel
theorem d_Mo_constants_37 : decode (a_cc M_Mo_constants) 37 = .ok (.lastore, 1) := by decide +kernel
theorem d_Mo_constants_38 : decode (a_cc M_Mo_constants) 38 = .ok (.aload_n 0, 1) := by decide +kernel
theorem d_Mo_constants_39 : decode (a_cc M_Mo_constants) 39 = .ok (.getfield 26, 3) := by decide +kernel
theorem d_Mo_constants_42 : decode (a_cc M_Mo_constants) 42 = .ok (.iload_n 1, 1) := by decide +kernel
theorem d_Mo_constants_43 : decode (a_cc M_Mo_constants) 43 = .ok (.aload_n 0, 1) := by decide +kernel
theorem d_Mo_constants_44 : decode (a_cc M_Mo_constants) 44 = .ok (.iload_n 2, 1) := by decide +kernel
theorem d_Mo_constants_45 : decode (a_cc M_Mo_constants) 45 = .ok (.iconst 3, 1) := by decide +kernel
theorem d_Mo_constants_46 : decode (a_cc M_Mo_constants) 46 = .ok (.invokevirtual 136, 3) := by decide +kernel
theorem d_Mo_constants_49 : decode (a_cc M_Mo_constants) 49 = .ok (.lastore, 1) := by decide +kernel
theorem d_Mo_constants_50 : decode (a_cc M_Mo_constants) 50 = .ok (.iinc 1 1, 3) := by decide +kernel
theorem d_Mo_constants_53 : decode (a_cc M_Mo_constants) 53 = .ok (.iinc 2 1, 3) := by decide +kernel
theorem d_Mo_constants_56 : decode (a_cc M_Mo_constants) 56 = .ok (.goto (-52), 3) := by decide +kernel
theorem d_Mo_constants_59 : decode (a_cc M_Mo_constants) 59 = .ok (.iconst 1, 1) := by decide +kernel
theorem d_Mo_constants_60 : decode (a_cc M_Mo_constants) 60 = .ok (.istore_n 2, 1) := by decide +kernel
theorem d_Mo_constants_61 : decode (a_cc M_Mo_constants) 61 = .ok (.iconst 0, 1) := by decide +kernel
theorem d_Mo_constants_62 : decode (a_cc M_Mo_constants) 62 = .ok (.istore_n 3, 1) := by decide +kernel
theorem d_Mo_constants_63 : decode (a_cc M_Mo_constants) 63 = .ok (.iconst 0, 1) := by decide +kernel
theorem d_Mo_constants_64 : decode (a_cc M_Mo_constants) 64 = .ok (.istore 4, 2) := by decide +kernel
theorem d_Mo_constants_66 : decode (a_cc M_Mo_constants) 66 = .ok (.iload 4, 2) := by decide +kernel
theorem d_Mo_constants_68 : decode (a_cc M_Mo_constants) 68 = .ok (.bipush 24, 2) := by decide +kernel
theorem d_Mo_constants_70 : decode (a_cc M_Mo_constants) 70 = .ok (.if_icmp .ge 49, 3) := by decide +kernel
theorem d_Mo_constants_73 : decode (a_cc M_Mo_constants) 73 = .ok (.aload_n 0, 1) := by decide +kernel
theorem d_Mo_constants_74 : decode (a_cc M_Mo_constants) 74 = .ok (.getfield 41, 3) := by decide +kernel
theorem d_Mo_constants_77 : decode (a_cc M_Mo_constants) 77 = .ok (.iload_n 2, 1) := by decide +kernel
theorem d_Mo_constants_78 : decode (a_cc M_Mo_constants) 78 = .ok (.iconst 5, 1) := by decide +kernel
theorem d_Mo_constants_79 : decode (a_cc M_Mo_constants) 79 = .ok (.iload_n 3, 1) := by decide +kernel
theorem d_Mo_constants_80 : decode (a_cc M_Mo_constants) 80 = .ok (.imul, 1) := by decide +kernel
theorem d_Mo_constants_81 : decode (a_cc M_Mo_constants) 81 = .ok (.iadd, 1) := by decide +kernel
theorem d_Mo_constants_82 : decode (a_cc M_Mo_constants) 82 = .ok (.iload 4, 2) := by decide +kernel
theorem d_Mo_constants_84 : decode (a_cc M_Mo_constants) 84 = .ok (.iconst 1, 1) := by decide +kernel
theorem d_Mo_constants_85 : decode (a_cc M_Mo_constants) 85 = .ok (.iadd, 1) := by decide +kernel
theorem d_Mo_constants_86 : decode (a_cc M_Mo_constants) 86 = .ok (.iload 4, 2) := by decide +kernel
theorem d_Mo_constants_88 : decode (a_cc M_Mo_constants) 88 = .ok (.iconst 2, 1) := by decide +kernel
theorem d_Mo_constants_89 : decode (a_cc M_Mo_constants) 89 = .ok (.iadd, 1) := by decide +kernel
theorem d_Mo_constants_90 : decode (a_cc M_Mo_constants) 90 = .ok (.imul, 1) := by decide +kernel
theorem d_Mo_constants_91 : decode (a_cc M_Mo_constants) 91 = .ok (.iconst 2, 1) := by decide +kernel
theorem d_Mo_constants_92 : decode (a_cc M_Mo_constants) 92 = .ok (.idiv, 1) := by decide +kernel
theorem d_Mo_constants_93 : decode (a_cc M_Mo_constants) 93 = .ok (.bipush 64, 2) := by decide +kernel
theorem d_Mo_constants_95 : decode (a_cc M_Mo_constants) 95 = .ok (.irem, 1) := by decide +kernel
theorem d_Mo_constants_96 : decode (a_cc M_Mo_constants) 96 = .ok (.iastore, 1) := by decide +kernel
theorem d_Mo_constants_97 : decode (a_cc M_Mo_constants) 97 = .ok (.iconst 2, 1) := by decide +kernel
theorem d_Mo_constants_98 : decode (a_cc M_Mo_constants) 98 = .ok (.iload_n 2, 1) := by decide +kernel
theorem d_Mo_constants_99 : decode (a_cc M_Mo_constants) 99 = .ok (.imul, 1) := by decide +kernel
theorem d_Mo_constants_100 : decode (a_cc M_Mo_constants) 100 = .ok (.iconst 3, 1) := by decide +kernel
theorem d_Mo_constants_101 : decode (a_cc M_Mo_constants) 101 = .ok (.iload_n 3, 1) := by decide +kernel
theorem d_Mo_constants_102 : decode (a_cc M_Mo_constants) 102 = .ok (.imul, 1) := by decide +kernel
theorem d_Mo_constants_103 : decode (a_cc M_Mo_constants) 103 = .ok (.iadd, 1) := by decide +kernel
theorem d_Mo_constants_104 : decode (a_cc M_Mo_constants) 104 = .ok (.iconst 5, 1) := by decide +kernel
theorem d_Mo_constants_105 : decode (a_cc M_Mo_constants) 105 = .ok (.irem, 1) := by decide +kernel
theorem d_Mo_constants_106 : decode (a_cc M_Mo_constants) 106 = .ok (.istore 5, 2) := by decide +kernel
theorem d_Mo_constants_108 : decode (a_cc M_Mo_constants) 108 = .ok (.iload_n 3, 1) := by decide +kernel
theorem d_Mo_constants_109 : decode (a_cc M_Mo_constants) 109 = .ok (.istore_n 2, 1) := by decide +kernel
theorem d_Mo_constants_110 : decode (a_cc M_Mo_constants) 110 = .ok (.iload 5, 2) := by decide +kernel
theorem d_Mo_constants_112 : decode (a_cc M_Mo_constants) 112 = .ok (.istore_n 3, 1) := by decide +kernel
theorem d_Mo_constants_113 : decode (a_cc M_Mo_constants) 113 = .ok (.iinc 4 1, 3) := by decide +kernel
theorem d_Mo_constants_116 : decode (a_cc M_Mo_constants) 116 = .ok (.goto (-50), 3) := by decide +kernel
theorem d_Mo_constants_119 : decode (a_cc M_Mo_constants) 119 = .ok (.iconst 0, 1) := by decide +kernel
theorem d_Mo_constants_120 : decode (a_cc M_Mo_constants) 120 = .ok (.istore 4, 2) := by decide +kernel
theorem d_Mo_constants_122 : decode (a_cc M_Mo_constants) 122 = .ok (.iload 4, 2) := by decide +kernel
theorem d_Mo_constants_124 : decode (a_cc M_Mo_constants) 124 = .ok (.bipush 24, 2) := by decide +kernel
theorem d_Mo_constants_126 : decode (a_cc M_Mo_constants) 126 = .ok (.if_icmp .ge 58, 3) := by decide +kernel
theorem d_Mo_constants_129 : decode (a_cc M_Mo_constants) 129 = .ok (.iconst 0, 1) := by decide +kernel
theorem d_Mo_constants_130 : decode (a_cc M_Mo_constants) 130 = .ok (.istore 5, 2) := by decide +kernel
theorem d_Mo_constants_132 : decode (a_cc M_Mo_constants) 132 = .ok (.iload 5, 2) := by decide +kernel
theorem d_Mo_constants_134 : decode (a_cc M_Mo_constants) 134 = .ok (.bipush 6, 2) := by decide +kernel
theorem d_Mo_constants_136 : decode (a_cc M_Mo_constants) 136 = .ok (.if_icmp .gt 42, 3) := by decide +kernel
theorem d_Mo_constants_139 : decode (a_cc M_Mo_constants) 139 = .ok (.iload 5, 2) := by decide +kernel
theorem d_Mo_constants_141 : decode (a_cc M_Mo_constants) 141 = .ok (.bipush 7, 2) := by decide +kernel
theorem d_Mo_constants_143 : decode (a_cc M_Mo_constants) 143 = .ok (.iload 4, 2) := by decide +kernel
theorem d_Mo_constants_145 : decode (a_cc M_Mo_constants) 145 = .ok (.imul, 1) := by decide +kernel
theorem d_Mo_constants_146 : decode (a_cc M_Mo_constants) 146 = .ok (.iadd, 1) := by decide +kernel
theorem d_Mo_constants_147 : decode (a_cc M_Mo_constants) 147 = .ok (.invokestatic 140, 3) := by decide +kernel
theorem d_Mo_constants_150 : decode (a_cc M_Mo_constants) 150 = .ok (.iconst 1, 1) := by decide +kernel
theorem d_Mo_constants_151 : decode (a_cc M_Mo_constants) 151 = .ok (.if_icmp .ne 21, 3) := by decide +kernel
theorem d_Mo_constants_154 : decode (a_cc M_Mo_constants) 154 = .ok (.aload_n 0, 1) := by decide +kernel
theorem d_Mo_constants_155 : decode (a_cc M_Mo_constants) 155 = .ok (.getfield 44, 3) := by decide +kernel
theorem d_Mo_constants_158 : decode (a_cc M_Mo_constants) 158 = .ok (.iload 4, 2) := by decide +kernel
theorem d_Mo_constants_160 : decode (a_cc M_Mo_constants) 160 = .ok (.dup2, 1) := by decide +kernel
theorem d_Mo_constants_161 : decode (a_cc M_Mo_constants) 161 = .ok (.laload, 1) := by decide +kernel
theorem d_Mo_constants_162 : decode (a_cc M_Mo_constants) 162 = .ok (.lconst 1, 1) := by decide +kernel
theorem d_Mo_constants_163 : decode (a_cc M_Mo_constants) 163 = .ok (.iconst 1, 1) := by decide +kernel
theorem d_Mo_constants_164 : decode (a_cc M_Mo_constants) 164 = .ok (.iload 5, 2) := by decide +kernel
theorem d_Mo_constants_166 : decode (a_cc M_Mo_constants) 166 = .ok (.ishl, 1) := by decide +kernel
theorem d_Mo_constants_167 : decode (a_cc M_Mo_constants) 167 = .ok (.iconst 1, 1) := by decide +kernel
theorem d_Mo_constants_168 : decode (a_cc M_Mo_constants) 168 = .ok (.isub, 1) := by decide +kernel
theorem d_Mo_constants_169 : decode (a_cc M_Mo_constants) 169 = .ok (.lshl, 1) := by decide +kernel
theorem d_Mo_constants_170 : decode (a_cc M_Mo_constants) 170 = .ok (.lor, 1) := by decide +kernel
theorem d_Mo_constants_171 : decode (a_cc M_Mo_constants) 171 = .ok (.lastore, 1) := by decide +kernel
theorem d_Mo_constants_172 : decode (a_cc M_Mo_constants) 172 = .ok (.iinc 5 1, 3) := by decide +kernel
theorem d_Mo_constants_175 : decode (a_cc M_Mo_constants) 175 = .ok (.goto (-43), 3) := by decide +kernel
theorem d_Mo_constants_178 : decode (a_cc M_Mo_constants) 178 = .ok (.iinc 4 1, 3) := by decide +kernel
theorem d_Mo_constants_181 : decode (a_cc M_Mo_constants) 181 = .ok (.goto (-59), 3) := by decide +kernel
theorem d_Mo_constants_184 : decode (a_cc M_Mo_constants) 184 = .ok (.aload_n 0, 1) := by decide +kernel
theorem d_Mo_constants_185 : decode (a_cc M_Mo_constants) 185 = .ok (.aload_n 0, 1) := by decide +kernel
theorem d_Mo_constants_186 : decode (a_cc M_Mo_constants) 186 = .ok (.getfield 29, 3) := by decide +kernel
theorem d_Mo_constants_189 : decode (a_cc M_Mo_constants) 189 = .ok (.bipush 50, 2) := by decide +kernel
theorem d_Mo_constants_191 : decode (a_cc M_Mo_constants) 191 = .ok (.bipush 52, 2) := by decide +kernel
theorem d_Mo_constants_193 : decode (a_cc M_Mo_constants) 193 = .ok (.invokevirtual 144, 3) := by decide +kernel
theorem d_Mo_constants_196 : decode (a_cc M_Mo_constants) 196 = .ok (.aload_n 0, 1) := by decide +kernel
theorem d_Mo_constants_197 : decode (a_cc M_Mo_constants) 197 = .ok (.aload_n 0, 1) := by decide +kernel
theorem d_Mo_constants_198 : decode (a_cc M_Mo_constants) 198 = .ok (.getfield 32, 3) := by decide +kernel
theorem d_Mo_constants_201 : decode (a_cc M_Mo_constants) 201 = .ok (.bipush 53, 2) := by decide +kernel
theorem d_Mo_constants_203 : decode (a_cc M_Mo_constants) 203 = .ok (.bipush 54, 2) := by decide +kernel
theorem d_Mo_constants_205 : decode (a_cc M_Mo_constants) 205 = .ok (.invokevirtual 144, 3) := by decide +kernel
theorem d_Mo_constants_208 : decode (a_cc M_Mo_constants) 208 = .ok (.return_, 1) := by decide +kernel
theorem cs_Mo_constants_11 : a_CS M_Mo_constants M_Mo_prime 132 1 0 1 := ⟨⟨ok_Mo_prime, by decide, by decide, by decide⟩, List.mem_append_right _ (List.mem_of_getElem? (i := 1027) (by decide +kernel)), List.mem_append_right _ (List.mem_of_getElem? (i := 1028) (by decide +kernel)), by decide +kernel⟩
theorem cs_Mo_constants_34 : a_CV M_Mo_constants M_Mo_root 136 10 3 2 2 := ⟨⟨ok_Mo_root, by decide, by decide, by decide⟩, by decide, rfl, List.mem_append_right _ (List.mem_of_getElem? (i := 1030) (by decide +kernel)), List.mem_append_right _ (List.mem_of_getElem? (i := 1032) (by decide +kernel)), List.mem_append_left _ (List.mem_of_getElem? (i := 30) (by decide +kernel)), by decide +kernel⟩
theorem cs_Mo_constants_46 : a_CV M_Mo_constants M_Mo_root 136 10 3 2 2 := ⟨⟨ok_Mo_root, by decide, by decide, by decide⟩, by decide, rfl, List.mem_append_right _ (List.mem_of_getElem? (i := 1030) (by decide +kernel)), List.mem_append_right _ (List.mem_of_getElem? (i := 1032) (by decide +kernel)), List.mem_append_left _ (List.mem_of_getElem? (i := 30) (by decide +kernel)), by decide +kernel⟩
theorem cs_Mo_constants_147 : a_CS M_Mo_constants M_Mo_bit 140 1 0 1 := ⟨⟨ok_Mo_bit, by decide, by decide, by decide⟩, List.mem_append_right _ (List.mem_of_getElem? (i := 1039) (by decide +kernel)), List.mem_append_right _ (List.mem_of_getElem? (i := 1040) (by decide +kernel)), by decide +kernel⟩
theorem cs_Mo_constants_193 : a_CV M_Mo_constants M_Mo_named 144 10 4 0 3 := ⟨⟨ok_Mo_named, by decide, by decide, by decide⟩, by decide, rfl, List.mem_append_right _ (List.mem_of_getElem? (i := 1042) (by decide +kernel)), List.mem_append_right _ (List.mem_of_getElem? (i := 1044) (by decide +kernel)), List.mem_append_left _ (List.mem_of_getElem? (i := 32) (by decide +kernel)), by decide +kernel⟩
theorem cs_Mo_constants_205 : a_CV M_Mo_constants M_Mo_named 144 10 4 0 3 := ⟨⟨ok_Mo_named, by decide, by decide, by decide⟩, by decide, rfl, List.mem_append_right _ (List.mem_of_getElem? (i := 1042) (by decide +kernel)), List.mem_append_right _ (List.mem_of_getElem? (i := 1044) (by decide +kernel)), List.mem_append_left _ (List.mem_of_getElem? (i := 32) (by decide +kernel)), by decide +kernel⟩
def M_Mo_init : a_M := (⟨"ModuleSignerModel", "<init>", "()V"⟩, prog_12_method_1_code, 1, none, "ModuleSignerModel", 6, 114, [])
theorem ok_Mo_init : a_Ok M_Mo_init := ⟨rfl, by decide +kernel, ⟨by decide, by decide⟩, List.mem_append_right _ (List.mem_of_getElem? (i := 11) (by decide +kernel)), Or.inl ⟨rfl, List.mem_append_right _ (List.mem_of_getElem? (i := 1016) (by decide +kernel))⟩⟩
theorem d_Mo_init_0 : decode (a_cc M_Mo_init) 0 = .ok (.aload_n 0, 1) := by decide +kernel
theorem d_Mo_init_1 : decode (a_cc M_Mo_init) 1 = .ok (.invokespecial 1, 3) := by decide +kernel
theorem d_Mo_init_4 : decode (a_cc M_Mo_init) 4 = .ok (.aload_n 0, 1) := by decide +kernel
theorem d_Mo_init_5 : decode (a_cc M_Mo_init) 5 = .ok (.sipush 8192, 3) := by decide +kernel
theorem d_Mo_init_8 : decode (a_cc M_Mo_init) 8 = .ok (.newarray .byte, 2) := by decide +kernel
theorem d_Mo_init_10 : decode (a_cc M_Mo_init) 10 = .ok (.putfield 9, 3) := by decide +kernel
theorem d_Mo_init_13 : decode (a_cc M_Mo_init) 13 = .ok (.aload_n 0, 1) := by decide +kernel
theorem d_Mo_init_14 : decode (a_cc M_Mo_init) 14 = .ok (.bipush 8, 2) := by decide +kernel
theorem d_Mo_init_16 : decode (a_cc M_Mo_init) 16 = .ok (.sipush 8192, 3) := by decide +kernel
theorem d_Mo_init_19 : decode (a_cc M_Mo_init) 19 = .ok (.multianewarray 13 2, 4) := by decide +kernel
theorem d_Mo_init_23 : decode (a_cc M_Mo_init) 23 = .ok (.putfield 15, 3) := by decide +kernel
theorem d_Mo_init_26 : decode (a_cc M_Mo_init) 26 = .ok (.aload_n 0, 1) := by decide +kernel
theorem d_Mo_init_27 : decode (a_cc M_Mo_init) 27 = .ok (.bipush 8, 2) := by decide +kernel
theorem d_Mo_init_29 : decode (a_cc M_Mo_init) 29 = .ok (.newarray .int, 2) := by decide +kernel
theorem d_Mo_init_31 : decode (a_cc M_Mo_init) 31 = .ok (.putfield 18, 3) := by decide +kernel
theorem d_Mo_init_34 : decode (a_cc M_Mo_init) 34 = .ok (.aload_n 0, 1) := by decide +kernel
theorem d_Mo_init_35 : decode (a_cc M_Mo_init) 35 = .ok (.bipush 16, 2) := by decide +kernel
theorem d_Mo_init_37 : decode (a_cc M_Mo_init) 37 = .ok (.newarray .long, 2) := by decide +kernel
theorem d_Mo_init_39 : decode (a_cc M_Mo_init) 39 = .ok (.putfield 22, 3) := by decide +kernel
theorem d_Mo_init_42 : decode (a_cc M_Mo_init) 42 = .ok (.aload_n 0, 1) := by decide +kernel
theorem d_Mo_init_43 : decode (a_cc M_Mo_init) 43 = .ok (.bipush 80, 2) := by decide +kernel
theorem d_Mo_init_45 : decode (a_cc M_Mo_init) 45 = .ok (.newarray .long, 2) := by decide +kernel
theorem d_Mo_init_47 : decode (a_cc M_Mo_init) 47 = .ok (.putfield 26, 3) := by decide +kernel
theorem d_Mo_init_50 : decode (a_cc M_Mo_init) 50 = .ok (.aload_n 0, 1) := by decide +kernel
theorem d_Mo_init_51 : decode (a_cc M_Mo_init) 51 = .ok (.bipush 8, 2) := by decide +kernel
theorem d_Mo_init_53 : decode (a_cc M_Mo_init) 53 = .ok (.newarray .long, 2) := by decide +kernel
theorem d_Mo_init_55 : decode (a_cc M_Mo_init) 55 = .ok (.putfield 29, 3) := by decide +kernel
theorem d_Mo_init_58 : decode (a_cc M_Mo_init) 58 = .ok (.aload_n 0, 1) := by decide +kernel
theorem d_Mo_init_59 : decode (a_cc M_Mo_init) 59 = .ok (.bipush 8, 2) := by decide +kernel
theorem d_Mo_init_61 : decode (a_cc M_Mo_init) 61 = .ok (.newarray .long, 2) := by decide +kernel
theorem d_Mo_init_63 : decode (a_cc M_Mo_init) 63 = .ok (.putfield 32, 3) := by decide +kernel
theorem d_Mo_init_66 : decode (a_cc M_Mo_init) 66 = .ok (.aload_n 0, 1) := by decide +kernel
theorem d_Mo_init_67 : decode (a_cc M_Mo_init) 67 = .ok (.bipush 16, 2) := by decide +kernel
theorem d_Mo_init_69 : decode (a_cc M_Mo_init) 69 = .ok (.newarray .long, 2) := by decide +kernel
theorem d_Mo_init_71 : decode (a_cc M_Mo_init) 71 = .ok (.putfield 35, 3) := by decide +kernel
theorem d_Mo_init_74 : decode (a_cc M_Mo_init) 74 = .ok (.aload_n 0, 1) := by decide +kernel
theorem d_Mo_init_75 : decode (a_cc M_Mo_init) 75 = .ok (.bipush 16, 2) := by decide +kernel
theorem d_Mo_init_77 : decode (a_cc M_Mo_init) 77 = .ok (.newarray .long, 2) := by decide +kernel
theorem d_Mo_init_79 : decode (a_cc M_Mo_init) 79 = .ok (.putfield 38, 3) := by decide +kernel
theorem d_Mo_init_82 : decode (a_cc M_Mo_init) 82 = .ok (.aload_n 0, 1) := by decide +kernel
theorem d_Mo_init_83 : decode (a_cc M_Mo_init) 83 = .ok (.bipush 25, 2) := by decide +kernel
theorem d_Mo_init_85 : decode (a_cc M_Mo_init) 85 = .ok (.newarray .int, 2) := by decide +kernel
theorem d_Mo_init_87 : decode (a_cc M_Mo_init) 87 = .ok (.putfield 41, 3) := by decide +kernel
theorem d_Mo_init_90 : decode (a_cc M_Mo_init) 90 = .ok (.aload_n 0, 1) := by decide +kernel
theorem d_Mo_init_91 : decode (a_cc M_Mo_init) 91 = .ok (.bipush 24, 2) := by decide +kernel
theorem d_Mo_init_93 : decode (a_cc M_Mo_init) 93 = .ok (.newarray .long, 2) := by decide +kernel
theorem d_Mo_init_95 : decode (a_cc M_Mo_init) 95 = .ok (.putfield 44, 3) := by decide +kernel
theorem d_Mo_init_98 : decode (a_cc M_Mo_init) 98 = .ok (.aload_n 0, 1) := by decide +kernel
theorem d_Mo_init_99 : decode (a_cc M_Mo_init) 99 = .ok (.bipush 25, 2) := by decide +kernel
theorem d_Mo_init_101 : decode (a_cc M_Mo_init) 101 = .ok (.newarray .long, 2) := by decide +kernel
theorem d_Mo_init_103 : decode (a_cc M_Mo_init) 103 = .ok (.putfield 47, 3) := by decide +kernel
theorem d_Mo_init_106 : decode (a_cc M_Mo_init) 106 = .ok (.aload_n 0, 1) := by decide +kernel
theorem d_Mo_init_107 : decode (a_cc M_Mo_init) 107 = .ok (.bipush 25, 2) := by decide +kernel
theorem d_Mo_init_109 : decode (a_cc M_Mo_init) 109 = .ok (.newarray .long, 2) := by decide +kernel
theorem d_Mo_init_111 : decode (a_cc M_Mo_init) 111 = .ok (.putfield 50, 3) := by decide +kernel
theorem d_Mo_init_114 : decode (a_cc M_Mo_init) 114 = .ok (.aload_n 0, 1) := by decide +kernel
theorem d_Mo_init_115 : decode (a_cc M_Mo_init) 115 = .ok (.iconst 5, 1) := by decide +kernel
theorem d_Mo_init_116 : decode (a_cc M_Mo_init) 116 = .ok (.newarray .long, 2) := by decide +kernel
theorem d_Mo_init_118 : decode (a_cc M_Mo_init) 118 = .ok (.putfield 53, 3) := by decide +kernel
theorem d_Mo_init_121 : decode (a_cc M_Mo_init) 121 = .ok (.aload_n 0, 1) := by decide +kernel
theorem d_Mo_init_122 : decode (a_cc M_Mo_init) 122 = .ok (.bipush 80, 2) := by decide +kernel
theorem d_Mo_init_124 : decode (a_cc M_Mo_init) 124 = .ok (.newarray .long, 2) := by decide +kernel
theorem d_Mo_init_126 : decode (a_cc M_Mo_init) 126 = .ok (.putfield 56, 3) := by decide +kernel
theorem d_Mo_init_129 : decode (a_cc M_Mo_init) 129 = .ok (.aload_n 0, 1) := by decide +kernel
theorem d_Mo_init_130 : decode (a_cc M_Mo_init) 130 = .ok (.sipush 128, 3) := by decide +kernel
theorem d_Mo_init_133 : decode (a_cc M_Mo_init) 133 = .ok (.newarray .byte, 2) := by decide +kernel
theorem d_Mo_init_135 : decode (a_cc M_Mo_init) 135 = .ok (.putfield 59, 3) := by decide +kernel
theorem d_Mo_init_138 : decode (a_cc M_Mo_init) 138 = .ok (.aload_n 0, 1) := by decide +kernel
theorem d_Mo_init_139 : decode (a_cc M_Mo_init) 139 = .ok (.bipush 64, 2) := by decide +kernel
theorem d_Mo_init_141 : decode (a_cc M_Mo_init) 141 = .ok (.newarray .byte, 2) := by decide +kernel
theorem d_Mo_init_143 : decode (a_cc M_Mo_init) 143 = .ok (.putfield 62, 3) := by decide +kernel
theorem d_Mo_init_146 : decode (a_cc M_Mo_init) 146 = .ok (.aload_n 0, 1) := by decide +kernel
theorem d_Mo_init_147 : decode (a_cc M_Mo_init) 147 = .ok (.sipush 256, 3) := by decide +kernel
theorem d_Mo_init_150 : decode (a_cc M_Mo_init) 150 = .ok (.newarray .long, 2) := by decide +kernel
theorem d_Mo_init_152 : decode (a_cc M_Mo_init) 152 = .ok (.putfield 65, 3) := by decide +kernel
theorem d_Mo_init_155 : decode (a_cc M_Mo_init) 155 = .ok (.aload_n 0, 1) := by decide +kernel
theorem d_Mo_init_156 : decode (a_cc M_Mo_init) 156 = .ok (.sipush 256, 3) := by decide +kernel
theorem d_Mo_init_159 : decode (a_cc M_Mo_init) 159 = .ok (.newarray .byte, 2) := by decide +kernel
theorem d_Mo_init_161 : decode (a_cc M_Mo_init) 161 = .ok (.putfield 68, 3) := by decide +kernel
theorem d_Mo_init_164 : decode (a_cc M_Mo_init) 164 = .ok (.aload_n 0, 1) := by decide +kernel
theorem d_Mo_init_165 : decode (a_cc M_Mo_init) 165 = .ok (.sipush 512, 3) := by decide +kernel
theorem d_Mo_init_168 : decode (a_cc M_Mo_init) 168 = .ok (.newarray .int, 2) := by decide +kernel
theorem d_Mo_init_170 : decode (a_cc M_Mo_init) 170 = .ok (.putfield 71, 3) := by decide +kernel
theorem d_Mo_init_173 : decode (a_cc M_Mo_init) 173 = .ok (.aload_n 0, 1) := by decide +kernel
theorem d_Mo_init_174 : decode (a_cc M_Mo_init) 174 = .ok (.bipush 48, 2) := by decide +kernel
theorem d_Mo_init_176 : decode (a_cc M_Mo_init) 176 = .ok (.sipush 256, 3) := by decide +kernel
theorem d_Mo_init_179 : decode (a_cc M_Mo_init) 179 = .ok (.multianewarray 74 2, 4) := by decide +kernel
theorem d_Mo_init_183 : decode (a_cc M_Mo_init) 183 = .ok (.putfield 76, 3) := by decide +kernel
theorem d_Mo_init_186 : decode (a_cc M_Mo_init) 186 = .ok (.aload_n 0, 1) := by decide +kernel
theorem d_Mo_init_187 : decode (a_cc M_Mo_init) 187 = .ok (.bipush 8, 2) := by decide +kernel
theorem d_Mo_init_189 : decode (a_cc M_Mo_init) 189 = .ok (.sipush 256, 3) := by decide +kernel
theorem d_Mo_init_192 : decode (a_cc M_Mo_init) 192 = .ok (.multianewarray 79 2, 4) := by decide +kernel
theorem d_Mo_init_196 : decode (a_cc M_Mo_init) 196 = .ok (.putfield 81, 3) := by decide +kernel
theorem d_Mo_init_199 : decode (a_cc M_Mo_init) 199 = .ok (.aload_n 0, 1) := by decide +kernel
theorem d_Mo_init_200 : decode (a_cc M_Mo_init) 200 = .ok (.sipush 16384, 3) := by decide +kernel
theorem d_Mo_init_203 : decode (a_cc M_Mo_init) 203 = .ok (.newarray .byte, 2) := by decide +kernel
theorem d_Mo_init_205 : decode (a_cc M_Mo_init) 205 = .ok (.putfield 84, 3) := by decide +kernel
theorem d_Mo_init_208 : decode (a_cc M_Mo_init) 208 = .ok (.aload_n 0, 1) := by decide +kernel
theorem d_Mo_init_209 : decode (a_cc M_Mo_init) 209 = .ok (.sipush 8192, 3) := by decide +kernel
theorem d_Mo_init_212 : decode (a_cc M_Mo_init) 212 = .ok (.newarray .byte, 2) := by decide +kernel
theorem d_Mo_init_214 : decode (a_cc M_Mo_init) 214 = .ok (.putfield 87, 3) := by decide +kernel
theorem d_Mo_init_217 : decode (a_cc M_Mo_init) 217 = .ok (.aload_n 0, 1) := by decide +kernel
theorem d_Mo_init_218 : decode (a_cc M_Mo_init) 218 = .ok (.bipush 64, 2) := by decide +kernel
theorem d_Mo_init_220 : decode (a_cc M_Mo_init) 220 = .ok (.newarray .byte, 2) := by decide +kernel
theorem d_Mo_init_222 : decode (a_cc M_Mo_init) 222 = .ok (.putfield 90, 3) := by decide +kernel
theorem d_Mo_init_225 : decode (a_cc M_Mo_init) 225 = .ok (.aload_n 0, 1) := by decide +kernel
theorem d_Mo_init_226 : decode (a_cc M_Mo_init) 226 = .ok (.bipush 64, 2) := by decide +kernel
theorem d_Mo_init_228 : decode (a_cc M_Mo_init) 228 = .ok (.newarray .byte, 2) := by decide +kernel
theorem d_Mo_init_230 : decode (a_cc M_Mo_init) 230 = .ok (.putfield 93, 3) := by decide +kernel
theorem d_Mo_init_233 : decode (a_cc M_Mo_init) 233 = .ok (.aload_n 0, 1) := by decide +kernel
theorem d_Mo_init_234 : decode (a_cc M_Mo_init) 234 = .ok (.bipush 64, 2) := by decide +kernel
theorem d_Mo_init_236 : decode (a_cc M_Mo_init) 236 = .ok (.newarray .byte, 2) := by decide +kernel
theorem d_Mo_init_238 : decode (a_cc M_Mo_init) 238 = .ok (.putfield 96, 3) := by decide +kernel
theorem d_Mo_init_241 : decode (a_cc M_Mo_init) 241 = .ok (.aload_n 0, 1) := by decide +kernel
theorem d_Mo_init_242 : decode (a_cc M_Mo_init) 242 = .ok (.bipush 64, 2) := by decide +kernel
theorem d_Mo_init_244 : decode (a_cc M_Mo_init) 244 = .ok (.newarray .byte, 2) := by decide +kernel
theorem d_Mo_init_246 : decode (a_cc M_Mo_init) 246 = .ok (.putfield 99, 3) := by decide +kernel
theorem d_Mo_init_249 : decode (a_cc M_Mo_init) 249 = .ok (.aload_n 0, 1) := by decide +kernel
theorem d_Mo_init_250 : decode (a_cc M_Mo_init) 250 = .ok (.invokevirtual 102, 3) := by decide +kernel
theorem d_Mo_init_253 : decode (a_cc M_Mo_init) 253 = .ok (.return_, 1) := by decide +kernel
theorem ml_Mo_1 : Cond.methodLink "ModuleSignerModel" 1 Lib.objectInit ∈ lw_tbl := List.mem_append_right _ (List.mem_of_getElem? (i := 1017) (by decide +kernel))
theorem fd_Mo_9 : a_Fd "ModuleSignerModel" 9 10 0 2 := ⟨by decide, by decide, rfl, List.mem_append_right _ (List.mem_of_getElem? (i := 1098) (by decide +kernel))⟩
theorem nm_Mo_13 : Cond.classLink "ModuleSignerModel" 13 ("[" ++ (FieldType.array (a_ft 2)).toString) ∈ lw_tbl := List.mem_append_right _ (List.mem_of_getElem? (i := 1018) (by decide +kernel))
theorem fd_Mo_15 : a_Fd "ModuleSignerModel" 15 10 1 2 := ⟨by decide, by decide, rfl, List.mem_append_right _ (List.mem_of_getElem? (i := 1099) (by decide +kernel))⟩
theorem fd_Mo_18 : a_Fd "ModuleSignerModel" 18 10 2 2 := ⟨by decide, by decide, rfl, List.mem_append_right _ (List.mem_of_getElem? (i := 1100) (by decide +kernel))⟩
theorem fd_Mo_62 : a_Fd "ModuleSignerModel" 62 10 22 2 := ⟨by decide, by decide, rfl, List.mem_append_right _ (List.mem_of_getElem? (i := 1120) (by decide +kernel))⟩
theorem fd_Mo_65 : a_Fd "ModuleSignerModel" 65 10 24 2 := ⟨by decide, by decide, rfl, List.mem_append_right _ (List.mem_of_getElem? (i := 1122) (by decide +kernel))⟩
theorem fd_Mo_68 : a_Fd "ModuleSignerModel" 68 10 25 2 := ⟨by decide, by decide, rfl, List.mem_append_right _ (List.mem_of_getElem? (i := 1123) (by decide +kernel))⟩
theorem fd_Mo_71 : a_Fd "ModuleSignerModel" 71 10 27 2 := ⟨by decide, by decide, rfl, List.mem_append_right _ (List.mem_of_getElem? (i := 1125) (by decide +kernel))⟩
theorem nm_Mo_74 : Cond.classLink "ModuleSignerModel" 74 ("[" ++ (FieldType.array (a_ft 1)).toString) ∈ lw_tbl := List.mem_append_right _ (List.mem_of_getElem? (i := 1020) (by decide +kernel))
theorem fd_Mo_76 : a_Fd "ModuleSignerModel" 76 10 28 2 := ⟨by decide, by decide, rfl, List.mem_append_right _ (List.mem_of_getElem? (i := 1126) (by decide +kernel))⟩
theorem nm_Mo_79 : Cond.classLink "ModuleSignerModel" 79 ("[" ++ (FieldType.array (a_ft 3)).toString) ∈ lw_tbl := List.mem_append_right _ (List.mem_of_getElem? (i := 1021) (by decide +kernel))
theorem fd_Mo_81 : a_Fd "ModuleSignerModel" 81 10 29 2 := ⟨by decide, by decide, rfl, List.mem_append_right _ (List.mem_of_getElem? (i := 1127) (by decide +kernel))⟩
theorem fd_Mo_84 : a_Fd "ModuleSignerModel" 84 10 30 2 := ⟨by decide, by decide, rfl, List.mem_append_right _ (List.mem_of_getElem? (i := 1128) (by decide +kernel))⟩
theorem fd_Mo_87 : a_Fd "ModuleSignerModel" 87 10 31 2 := ⟨by decide, by decide, rfl, List.mem_append_right _ (List.mem_of_getElem? (i := 1129) (by decide +kernel))⟩
theorem fd_Mo_90 : a_Fd "ModuleSignerModel" 90 10 40 2 := ⟨by decide, by decide, rfl, List.mem_append_right _ (List.mem_of_getElem? (i := 1138) (by decide +kernel))⟩
theorem fd_Mo_93 : a_Fd "ModuleSignerModel" 93 10 41 2 := ⟨by decide, by decide, rfl, List.mem_append_right _ (List.mem_of_getElem? (i := 1139) (by decide +kernel))⟩
theorem fd_Mo_96 : a_Fd "ModuleSignerModel" 96 10 42 2 := ⟨by decide, by decide, rfl, List.mem_append_right _ (List.mem_of_getElem? (i := 1140) (by decide +kernel))⟩
theorem fd_Mo_99 : a_Fd "ModuleSignerModel" 99 10 43 2 := ⟨by decide, by decide, rfl, List.mem_append_right _ (List.mem_of_getElem? (i := 1141) (by decide +kernel))⟩
theorem cs_Mo_init_250 : a_CV M_Mo_init M_Mo_constants 102 10 1 0 0 := ⟨⟨ok_Mo_constants, by decide, by decide, by decide⟩, by decide, rfl, List.mem_append_right _ (List.mem_of_getElem? (i := 1023) (by decide +kernel)), List.mem_append_right _ (List.mem_of_getElem? (i := 1025) (by decide +kernel)), List.mem_append_left _ (List.mem_of_getElem? (i := 29) (by decide +kernel)), by decide +kernel⟩
def M_By_add : a_M := (⟨"ModuleSigner$Bytes", "add", "(I)V"⟩, prog_3_method_4_code, 2, none, "ModuleSigner$Bytes", 0, 0, [])
theorem ok_By_add : a_Ok M_By_add := ⟨rfl, by decide +kernel, ⟨by decide, by decide⟩, List.mem_append_right _ (List.mem_of_getElem? (i := 2) (by decide +kernel)), Or.inl ⟨rfl, List.mem_append_right _ (List.mem_of_getElem? (i := 458) (by decide +kernel))⟩⟩
theorem d_By_add_0 : decode (a_cc M_By_add) 0 = .ok (.aload_n 0, 1) := by decide +kernel
theorem d_By_add_1 : decode (a_cc M_By_add) 1 = .ok (.getfield 13, 3) := by decide +kernel
theorem d_By_add_4 : decode (a_cc M_By_add) 4 = .ok (.aload_n 0, 1) := by decide +kernel
theorem d_By_add_5 : decode (a_cc M_By_add) 5 = .ok (.getfield 7, 3) := by decide +kernel
theorem d_By_add_8 : decode (a_cc M_By_add) 8 = .ok (.arraylength, 1) := by decide +kernel
theorem d_By_add_9 : decode (a_cc M_By_add) 9 = .ok (.if_icmp .ge 24, 3) := by decide +kernel
theorem d_By_add_12 : decode (a_cc M_By_add) 12 = .ok (.aload_n 0, 1) := by decide +kernel
theorem d_By_add_13 : decode (a_cc M_By_add) 13 = .ok (.getfield 7, 3) := by decide +kernel
theorem d_By_add_16 : decode (a_cc M_By_add) 16 = .ok (.aload_n 0, 1) := by decide +kernel
theorem d_By_add_17 : decode (a_cc M_By_add) 17 = .ok (.getfield 13, 3) := by decide +kernel
theorem d_By_add_20 : decode (a_cc M_By_add) 20 = .ok (.iload_n 1, 1) := by decide +kernel
theorem d_By_add_21 : decode (a_cc M_By_add) 21 = .ok (.i2b, 1) := by decide +kernel
theorem d_By_add_22 : decode (a_cc M_By_add) 22 = .ok (.bastore, 1) := by decide +kernel
theorem d_By_add_23 : decode (a_cc M_By_add) 23 = .ok (.aload_n 0, 1) := by decide +kernel
theorem d_By_add_24 : decode (a_cc M_By_add) 24 = .ok (.dup, 1) := by decide +kernel
theorem d_By_add_25 : decode (a_cc M_By_add) 25 = .ok (.getfield 13, 3) := by decide +kernel
theorem d_By_add_28 : decode (a_cc M_By_add) 28 = .ok (.iconst 1, 1) := by decide +kernel
theorem d_By_add_29 : decode (a_cc M_By_add) 29 = .ok (.iadd, 1) := by decide +kernel
theorem d_By_add_30 : decode (a_cc M_By_add) 30 = .ok (.putfield 13, 3) := by decide +kernel
theorem d_By_add_33 : decode (a_cc M_By_add) 33 = .ok (.return_, 1) := by decide +kernel
def M_By_addInt : a_M := (⟨"ModuleSigner$Bytes", "addInt", "(I)V"⟩, prog_3_method_5_code, 3, none, "ModuleSigner$Bytes", 1, 13, [])
theorem ok_By_addInt : a_Ok M_By_addInt := ⟨rfl, by decide +kernel, ⟨by decide, by decide⟩, List.mem_append_right _ (List.mem_of_getElem? (i := 2) (by decide +kernel)), Or.inl ⟨rfl, List.mem_append_right _ (List.mem_of_getElem? (i := 454) (by decide +kernel))⟩⟩
theorem d_By_addInt_0 : decode (a_cc M_By_addInt) 0 = .ok (.bipush 24, 2) := by decide +kernel
theorem d_By_addInt_2 : decode (a_cc M_By_addInt) 2 = .ok (.istore_n 2, 1) := by decide +kernel
theorem d_By_addInt_3 : decode (a_cc M_By_addInt) 3 = .ok (.iload_n 2, 1) := by decide +kernel
theorem d_By_addInt_4 : decode (a_cc M_By_addInt) 4 = .ok (.ifCond .lt 16, 3) := by decide +kernel
theorem d_By_addInt_7 : decode (a_cc M_By_addInt) 7 = .ok (.aload_n 0, 1) := by decide +kernel
theorem d_By_addInt_8 : decode (a_cc M_By_addInt) 8 = .ok (.iload_n 1, 1) := by decide +kernel
theorem d_By_addInt_9 : decode (a_cc M_By_addInt) 9 = .ok (.iload_n 2, 1) := by decide +kernel
theorem d_By_addInt_10 : decode (a_cc M_By_addInt) 10 = .ok (.ishr, 1) := by decide +kernel
theorem d_By_addInt_11 : decode (a_cc M_By_addInt) 11 = .ok (.invokevirtual 17, 3) := by decide +kernel
theorem d_By_addInt_14 : decode (a_cc M_By_addInt) 14 = .ok (.iinc 2 (-8), 3) := by decide +kernel
theorem d_By_addInt_17 : decode (a_cc M_By_addInt) 17 = .ok (.goto (-14), 3) := by decide +kernel
theorem d_By_addInt_20 : decode (a_cc M_By_addInt) 20 = .ok (.return_, 1) := by decide +kernel
theorem cs_By_addInt_11 : a_CV M_By_addInt M_By_add 17 1 2 0 1 := ⟨⟨ok_By_add, by decide, by decide, by decide⟩, by decide, rfl, List.mem_append_right _ (List.mem_of_getElem? (i := 455) (by decide +kernel)), List.mem_append_right _ (List.mem_of_getElem? (i := 456) (by decide +kernel)), List.mem_append_right _ (List.mem_of_getElem? (i := 457) (by decide +kernel)), by decide +kernel⟩
def M_MS_feed : a_M := (⟨"ModuleSigner", "feed", "(IIIII)I"⟩, prog_1_method_2_code, 6, some .int, "ModuleSigner", 6, 82, [])
theorem ok_MS_feed : a_Ok M_MS_feed := ⟨rfl, by decide +kernel, ⟨by decide, by decide⟩, List.mem_append_right _ (List.mem_of_getElem? (i := 1) (by decide +kernel)), Or.inl ⟨rfl, List.mem_append_right _ (List.mem_of_getElem? (i := 381) (by decide +kernel))⟩⟩
theorem d_MS_feed_0 : decode (a_cc M_MS_feed) 0 = .ok (.aload_n 0, 1) := by decide +kernel
theorem d_MS_feed_1 : decode (a_cc M_MS_feed) 1 = .ok (.getfield 18, 3) := by decide +kernel
theorem d_MS_feed_4 : decode (a_cc M_MS_feed) 4 = .ok (.getfield 55, 3) := by decide +kernel
theorem d_MS_feed_7 : decode (a_cc M_MS_feed) 7 = .ok (.sipush 8172, 3) := by decide +kernel
theorem d_MS_feed_10 : decode (a_cc M_MS_feed) 10 = .ok (.if_icmp .le 13, 3) := by decide +kernel
theorem d_MS_feed_13 : decode (a_cc M_MS_feed) 13 = .ok (.new 59, 3) := by decide +kernel
theorem d_MS_feed_16 : decode (a_cc M_MS_feed) 16 = .ok (.dup, 1) := by decide +kernel
theorem d_MS_feed_17 : decode (a_cc M_MS_feed) 17 = .ok (.ldc 61, 2) := by decide +kernel
theorem d_MS_feed_19 : decode (a_cc M_MS_feed) 19 = .ok (.invokespecial 63, 3) := by decide +kernel
theorem d_MS_feed_22 : decode (a_cc M_MS_feed) 22 = .ok (.athrow, 1) := by decide +kernel
theorem d_MS_feed_23 : decode (a_cc M_MS_feed) 23 = .ok (.aload_n 0, 1) := by decide +kernel
theorem d_MS_feed_24 : decode (a_cc M_MS_feed) 24 = .ok (.getfield 18, 3) := by decide +kernel
theorem d_MS_feed_27 : decode (a_cc M_MS_feed) 27 = .ok (.iload_n 1, 1) := by decide +kernel
theorem d_MS_feed_28 : decode (a_cc M_MS_feed) 28 = .ok (.invokevirtual 66, 3) := by decide +kernel
theorem d_MS_feed_31 : decode (a_cc M_MS_feed) 31 = .ok (.aload_n 0, 1) := by decide +kernel
theorem d_MS_feed_32 : decode (a_cc M_MS_feed) 32 = .ok (.getfield 18, 3) := by decide +kernel
theorem d_MS_feed_35 : decode (a_cc M_MS_feed) 35 = .ok (.iload_n 2, 1) := by decide +kernel
theorem d_MS_feed_36 : decode (a_cc M_MS_feed) 36 = .ok (.invokevirtual 66, 3) := by decide +kernel
theorem d_MS_feed_39 : decode (a_cc M_MS_feed) 39 = .ok (.aload_n 0, 1) := by decide +kernel
theorem d_MS_feed_40 : decode (a_cc M_MS_feed) 40 = .ok (.getfield 18, 3) := by decide +kernel
theorem d_MS_feed_43 : decode (a_cc M_MS_feed) 43 = .ok (.iload_n 3, 1) := by decide +kernel
theorem d_MS_feed_44 : decode (a_cc M_MS_feed) 44 = .ok (.invokevirtual 66, 3) := by decide +kernel
theorem d_MS_feed_47 : decode (a_cc M_MS_feed) 47 = .ok (.aload_n 0, 1) := by decide +kernel
theorem d_MS_feed_48 : decode (a_cc M_MS_feed) 48 = .ok (.getfield 18, 3) := by decide +kernel
theorem d_MS_feed_51 : decode (a_cc M_MS_feed) 51 = .ok (.iload 4, 2) := by decide +kernel
theorem d_MS_feed_53 : decode (a_cc M_MS_feed) 53 = .ok (.invokevirtual 66, 3) := by decide +kernel
theorem d_MS_feed_56 : decode (a_cc M_MS_feed) 56 = .ok (.aload_n 0, 1) := by decide +kernel
theorem d_MS_feed_57 : decode (a_cc M_MS_feed) 57 = .ok (.getfield 18, 3) := by decide +kernel
theorem d_MS_feed_60 : decode (a_cc M_MS_feed) 60 = .ok (.iload 5, 2) := by decide +kernel
theorem d_MS_feed_62 : decode (a_cc M_MS_feed) 62 = .ok (.invokevirtual 66, 3) := by decide +kernel
theorem d_MS_feed_65 : decode (a_cc M_MS_feed) 65 = .ok (.aload_n 0, 1) := by decide +kernel
theorem d_MS_feed_66 : decode (a_cc M_MS_feed) 66 = .ok (.getfield 18, 3) := by decide +kernel
theorem d_MS_feed_69 : decode (a_cc M_MS_feed) 69 = .ok (.getfield 55, 3) := by decide +kernel
theorem d_MS_feed_72 : decode (a_cc M_MS_feed) 72 = .ok (.ireturn, 1) := by decide +kernel
theorem fd_MS_55 : a_Fd "ModuleSigner" 55 1 1 0 := ⟨by decide, by decide, rfl, List.mem_append_right _ (List.mem_of_getElem? (i := 40) (by decide +kernel))⟩
theorem th_MS_feed_13 : a_Th M_MS_feed 13 1 0 := ⟨_, _, _, "the tape is full", d_MS_feed_13, d_MS_feed_16, d_MS_feed_17, d_MS_feed_19, d_MS_feed_22, List.mem_append_right _ (List.mem_of_getElem? (i := 425) (by decide +kernel)), by decide, List.mem_append_right _ (List.mem_of_getElem? (i := 382) (by decide +kernel)), List.mem_append_right _ (List.mem_of_getElem? (i := 426) (by decide +kernel)), rfl, by decide, by decide⟩
theorem cs_MS_feed_28 : a_CV M_MS_feed M_By_addInt 66 1 2 0 1 := ⟨⟨ok_By_addInt, by decide, by decide, by decide⟩, by decide, rfl, List.mem_append_right _ (List.mem_of_getElem? (i := 451) (by decide +kernel)), List.mem_append_right _ (List.mem_of_getElem? (i := 452) (by decide +kernel)), List.mem_append_right _ (List.mem_of_getElem? (i := 453) (by decide +kernel)), by decide +kernel⟩
theorem cs_MS_feed_36 : a_CV M_MS_feed M_By_addInt 66 1 2 0 1 := ⟨⟨ok_By_addInt, by decide, by decide, by decide⟩, by decide, rfl, List.mem_append_right _ (List.mem_of_getElem? (i := 451) (by decide +kernel)), List.mem_append_right _ (List.mem_of_getElem? (i := 452) (by decide +kernel)), List.mem_append_right _ (List.mem_of_getElem? (i := 453) (by decide +kernel)), by decide +kernel⟩
theorem cs_MS_feed_44 : a_CV M_MS_feed M_By_addInt 66 1 2 0 1 := ⟨⟨ok_By_addInt, by decide, by decide, by decide⟩, by decide, rfl, List.mem_append_right _ (List.mem_of_getElem? (i := 451) (by decide +kernel)), List.mem_append_right _ (List.mem_of_getElem? (i := 452) (by decide +kernel)), List.mem_append_right _ (List.mem_of_getElem? (i := 453) (by decide +kernel)), by decide +kernel⟩
theorem cs_MS_feed_53 : a_CV M_MS_feed M_By_addInt 66 1 2 0 1 := ⟨⟨ok_By_addInt, by decide, by decide, by decide⟩, by decide, rfl, List.mem_append_right _ (List.mem_of_getElem? (i := 451) (by decide +kernel)), List.mem_append_right _ (List.mem_of_getElem? (i := 452) (by decide +kernel)), List.mem_append_right _ (List.mem_of_getElem? (i := 453) (by decide +kernel)), by decide +kernel⟩
theorem cs_MS_feed_62 : a_CV M_MS_feed M_By_addInt 66 1 2 0 1 := ⟨⟨ok_By_addInt, by decide, by decide, by decide⟩, by decide, rfl, List.mem_append_right _ (List.mem_of_getElem? (i := 451) (by decide +kernel)), List.mem_append_right _ (List.mem_of_getElem? (i := 452) (by decide +kernel)), List.mem_append_right _ (List.mem_of_getElem? (i := 453) (by decide +kernel)), by decide +kernel⟩
def M_La_feed : a_M := (⟨"ModuleSignerLaw", "feed", "(LModuleSigner;IIIII[J)I"⟩, method_3_code, 8, some .int, "ModuleSignerLaw", 7, 101, [(0, 16, 19, 13)])
theorem ok_La_feed : a_Ok M_La_feed := ⟨rfl, by decide +kernel, ⟨by decide, by decide⟩, List.mem_append_right _ (List.mem_of_getElem? (i := 0) (by decide +kernel)), Or.inr (List.mem_append_right _ (List.mem_of_getElem? (i := 376) (by decide +kernel)))⟩
theorem d_La_feed_0 : decode (a_cc M_La_feed) 0 = .ok (.aload 6, 2) := by decide +kernel
theorem d_La_feed_2 : decode (a_cc M_La_feed) 2 = .ok (.iconst 0, 1) := by decide +kernel
theorem d_La_feed_3 : decode (a_cc M_La_feed) 3 = .ok (.aload_n 0, 1) := by decide +kernel
theorem d_La_feed_4 : decode (a_cc M_La_feed) 4 = .ok (.iload_n 1, 1) := by decide +kernel
theorem d_La_feed_5 : decode (a_cc M_La_feed) 5 = .ok (.iload_n 2, 1) := by decide +kernel
theorem d_La_feed_6 : decode (a_cc M_La_feed) 6 = .ok (.iload_n 3, 1) := by decide +kernel
theorem d_La_feed_7 : decode (a_cc M_La_feed) 7 = .ok (.iload 4, 2) := by decide +kernel
theorem d_La_feed_9 : decode (a_cc M_La_feed) 9 = .ok (.iload 5, 2) := by decide +kernel
theorem d_La_feed_11 : decode (a_cc M_La_feed) 11 = .ok (.invokevirtual 7, 3) := by decide +kernel
theorem d_La_feed_14 : decode (a_cc M_La_feed) 14 = .ok (.i2l, 1) := by decide +kernel
theorem d_La_feed_15 : decode (a_cc M_La_feed) 15 = .ok (.lastore, 1) := by decide +kernel
theorem d_La_feed_16 : decode (a_cc M_La_feed) 16 = .ok (.goto 7, 3) := by decide +kernel
theorem d_La_feed_19 : decode (a_cc M_La_feed) 19 = .ok (.astore 7, 2) := by decide +kernel
theorem d_La_feed_21 : decode (a_cc M_La_feed) 21 = .ok (.iconst 1, 1) := by decide +kernel
theorem d_La_feed_22 : decode (a_cc M_La_feed) 22 = .ok (.ireturn, 1) := by decide +kernel
theorem d_La_feed_23 : decode (a_cc M_La_feed) 23 = .ok (.iconst 0, 1) := by decide +kernel
theorem d_La_feed_24 : decode (a_cc M_La_feed) 24 = .ok (.ireturn, 1) := by decide +kernel
theorem cs_La_feed_11 : a_CV M_La_feed M_MS_feed 7 0 6 2 5 := ⟨⟨ok_MS_feed, by decide, by decide, by decide⟩, by decide, rfl, List.mem_append_right _ (List.mem_of_getElem? (i := 378) (by decide +kernel)), List.mem_append_right _ (List.mem_of_getElem? (i := 379) (by decide +kernel)), List.mem_append_right _ (List.mem_of_getElem? (i := 380) (by decide +kernel)), by decide +kernel⟩
def M_Mo_good : a_M := (⟨"ModuleSignerModel", "good", "(ZI)Z"⟩, prog_12_method_4_code, 3, some .boolean, "ModuleSignerModel", 0, 0, [])
theorem ok_Mo_good : a_Ok M_Mo_good := ⟨rfl, by decide +kernel, ⟨by decide, by decide⟩, List.mem_append_right _ (List.mem_of_getElem? (i := 11) (by decide +kernel)), Or.inl ⟨rfl, List.mem_append_right _ (List.mem_of_getElem? (i := 1243) (by decide +kernel))⟩⟩
theorem d_Mo_good_0 : decode (a_cc M_Mo_good) 0 = .ok (.aload_n 0, 1) := by decide +kernel
theorem d_Mo_good_1 : decode (a_cc M_Mo_good) 1 = .ok (.iload_n 1, 1) := by decide +kernel
theorem d_Mo_good_2 : decode (a_cc M_Mo_good) 2 = .ok (.ifCond .eq 7, 3) := by decide +kernel
theorem d_Mo_good_5 : decode (a_cc M_Mo_good) 5 = .ok (.iconst 0, 1) := by decide +kernel
theorem d_Mo_good_6 : decode (a_cc M_Mo_good) 6 = .ok (.goto 4, 3) := by decide +kernel
theorem d_Mo_good_9 : decode (a_cc M_Mo_good) 9 = .ok (.iload_n 2, 1) := by decide +kernel
theorem d_Mo_good_10 : decode (a_cc M_Mo_good) 10 = .ok (.putfield 105, 3) := by decide +kernel
theorem d_Mo_good_13 : decode (a_cc M_Mo_good) 13 = .ok (.iload_n 1, 1) := by decide +kernel
theorem d_Mo_good_14 : decode (a_cc M_Mo_good) 14 = .ok (.ireturn, 1) := by decide +kernel
theorem fd_Mo_105 : a_Fd "ModuleSignerModel" 105 10 4 0 := ⟨by decide, by decide, rfl, List.mem_append_right _ (List.mem_of_getElem? (i := 1102) (by decide +kernel))⟩
def M_Mo_word1 : a_M := (⟨"ModuleSignerModel", "word", "(I)V"⟩, prog_12_method_6_code, 3, none, "ModuleSignerModel", 0, 0, [])
theorem ok_Mo_word1 : a_Ok M_Mo_word1 := ⟨rfl, by decide +kernel, ⟨by decide, by decide⟩, List.mem_append_right _ (List.mem_of_getElem? (i := 11) (by decide +kernel)), Or.inl ⟨rfl, List.mem_append_right _ (List.mem_of_getElem? (i := 1247) (by decide +kernel))⟩⟩
theorem d_Mo_word1_0 : decode (a_cc M_Mo_word1) 0 = .ok (.iconst 0, 1) := by decide +kernel
theorem d_Mo_word1_1 : decode (a_cc M_Mo_word1) 1 = .ok (.istore_n 2, 1) := by decide +kernel
theorem d_Mo_word1_2 : decode (a_cc M_Mo_word1) 2 = .ok (.iload_n 2, 1) := by decide +kernel
theorem d_Mo_word1_3 : decode (a_cc M_Mo_word1) 3 = .ok (.iconst 4, 1) := by decide +kernel
theorem d_Mo_word1_4 : decode (a_cc M_Mo_word1) 4 = .ok (.if_icmp .ge 30, 3) := by decide +kernel
theorem d_Mo_word1_7 : decode (a_cc M_Mo_word1) 7 = .ok (.aload_n 0, 1) := by decide +kernel
theorem d_Mo_word1_8 : decode (a_cc M_Mo_word1) 8 = .ok (.getfield 9, 3) := by decide +kernel
theorem d_Mo_word1_11 : decode (a_cc M_Mo_word1) 11 = .ok (.aload_n 0, 1) := by decide +kernel
theorem d_Mo_word1_12 : decode (a_cc M_Mo_word1) 12 = .ok (.getfield 109, 3) := by decide +kernel
theorem d_Mo_word1_15 : decode (a_cc M_Mo_word1) 15 = .ok (.iload_n 2, 1) := by decide +kernel
theorem d_Mo_word1_16 : decode (a_cc M_Mo_word1) 16 = .ok (.iadd, 1) := by decide +kernel
theorem d_Mo_word1_17 : decode (a_cc M_Mo_word1) 17 = .ok (.iload_n 1, 1) := by decide +kernel
theorem d_Mo_word1_18 : decode (a_cc M_Mo_word1) 18 = .ok (.bipush 24, 2) := by decide +kernel
theorem d_Mo_word1_20 : decode (a_cc M_Mo_word1) 20 = .ok (.bipush 8, 2) := by decide +kernel
theorem d_Mo_word1_22 : decode (a_cc M_Mo_word1) 22 = .ok (.iload_n 2, 1) := by decide +kernel
theorem d_Mo_word1_23 : decode (a_cc M_Mo_word1) 23 = .ok (.imul, 1) := by decide +kernel
theorem d_Mo_word1_24 : decode (a_cc M_Mo_word1) 24 = .ok (.isub, 1) := by decide +kernel
theorem d_Mo_word1_25 : decode (a_cc M_Mo_word1) 25 = .ok (.ishr, 1) := by decide +kernel
theorem d_Mo_word1_26 : decode (a_cc M_Mo_word1) 26 = .ok (.i2b, 1) := by decide +kernel
theorem d_Mo_word1_27 : decode (a_cc M_Mo_word1) 27 = .ok (.bastore, 1) := by decide +kernel
theorem d_Mo_word1_28 : decode (a_cc M_Mo_word1) 28 = .ok (.iinc 2 1, 3) := by decide +kernel
theorem d_Mo_word1_31 : decode (a_cc M_Mo_word1) 31 = .ok (.goto (-29), 3) := by decide +kernel
theorem d_Mo_word1_34 : decode (a_cc M_Mo_word1) 34 = .ok (.aload_n 0, 1) := by decide +kernel
theorem d_Mo_word1_35 : decode (a_cc M_Mo_word1) 35 = .ok (.dup, 1) := by decide +kernel
theorem d_Mo_word1_36 : decode (a_cc M_Mo_word1) 36 = .ok (.getfield 109, 3) := by decide +kernel
theorem d_Mo_word1_39 : decode (a_cc M_Mo_word1) 39 = .ok (.iconst 4, 1) := by decide +kernel
theorem d_Mo_word1_40 : decode (a_cc M_Mo_word1) 40 = .ok (.iadd, 1) := by decide +kernel
theorem d_Mo_word1_41 : decode (a_cc M_Mo_word1) 41 = .ok (.putfield 109, 3) := by decide +kernel
theorem d_Mo_word1_44 : decode (a_cc M_Mo_word1) 44 = .ok (.return_, 1) := by decide +kernel
theorem fd_Mo_109 : a_Fd "ModuleSignerModel" 109 10 3 0 := ⟨by decide, by decide, rfl, List.mem_append_right _ (List.mem_of_getElem? (i := 1101) (by decide +kernel))⟩
def M_Mo_feed : a_M := (⟨"ModuleSignerModel", "feed", "(IIIII)I"⟩, prog_12_method_5_code, 6, some .int, "ModuleSignerModel", 1, 14, [])
theorem ok_Mo_feed : a_Ok M_Mo_feed := ⟨rfl, by decide +kernel, ⟨by decide, by decide⟩, List.mem_append_right _ (List.mem_of_getElem? (i := 11) (by decide +kernel)), Or.inl ⟨rfl, List.mem_append_right _ (List.mem_of_getElem? (i := 1239) (by decide +kernel))⟩⟩
theorem d_Mo_feed_0 : decode (a_cc M_Mo_feed) 0 = .ok (.aload_n 0, 1) := by decide +kernel
theorem d_Mo_feed_1 : decode (a_cc M_Mo_feed) 1 = .ok (.aload_n 0, 1) := by decide +kernel
theorem d_Mo_feed_2 : decode (a_cc M_Mo_feed) 2 = .ok (.getfield 109, 3) := by decide +kernel
theorem d_Mo_feed_5 : decode (a_cc M_Mo_feed) 5 = .ok (.bipush 20, 2) := by decide +kernel
theorem d_Mo_feed_7 : decode (a_cc M_Mo_feed) 7 = .ok (.iadd, 1) := by decide +kernel
theorem d_Mo_feed_8 : decode (a_cc M_Mo_feed) 8 = .ok (.sipush 8192, 3) := by decide +kernel
theorem d_Mo_feed_11 : decode (a_cc M_Mo_feed) 11 = .ok (.if_icmp .gt 7, 3) := by decide +kernel
theorem d_Mo_feed_14 : decode (a_cc M_Mo_feed) 14 = .ok (.iconst 1, 1) := by decide +kernel
theorem d_Mo_feed_15 : decode (a_cc M_Mo_feed) 15 = .ok (.goto 4, 3) := by decide +kernel
theorem d_Mo_feed_18 : decode (a_cc M_Mo_feed) 18 = .ok (.iconst 0, 1) := by decide +kernel
theorem d_Mo_feed_19 : decode (a_cc M_Mo_feed) 19 = .ok (.iconst 1, 1) := by decide +kernel
theorem d_Mo_feed_20 : decode (a_cc M_Mo_feed) 20 = .ok (.invokevirtual 112, 3) := by decide +kernel
theorem d_Mo_feed_23 : decode (a_cc M_Mo_feed) 23 = .ok (.ifCond .ne 5, 3) := by decide +kernel
theorem d_Mo_feed_26 : decode (a_cc M_Mo_feed) 26 = .ok (.iconst 0, 1) := by decide +kernel
theorem d_Mo_feed_27 : decode (a_cc M_Mo_feed) 27 = .ok (.ireturn, 1) := by decide +kernel
theorem d_Mo_feed_28 : decode (a_cc M_Mo_feed) 28 = .ok (.aload_n 0, 1) := by decide +kernel
theorem d_Mo_feed_29 : decode (a_cc M_Mo_feed) 29 = .ok (.iload_n 1, 1) := by decide +kernel
theorem d_Mo_feed_30 : decode (a_cc M_Mo_feed) 30 = .ok (.invokevirtual 116, 3) := by decide +kernel
theorem d_Mo_feed_33 : decode (a_cc M_Mo_feed) 33 = .ok (.aload_n 0, 1) := by decide +kernel
theorem d_Mo_feed_34 : decode (a_cc M_Mo_feed) 34 = .ok (.iload_n 2, 1) := by decide +kernel
theorem d_Mo_feed_35 : decode (a_cc M_Mo_feed) 35 = .ok (.invokevirtual 116, 3) := by decide +kernel
theorem d_Mo_feed_38 : decode (a_cc M_Mo_feed) 38 = .ok (.aload_n 0, 1) := by decide +kernel
theorem d_Mo_feed_39 : decode (a_cc M_Mo_feed) 39 = .ok (.iload_n 3, 1) := by decide +kernel
theorem d_Mo_feed_40 : decode (a_cc M_Mo_feed) 40 = .ok (.invokevirtual 116, 3) := by decide +kernel
theorem d_Mo_feed_43 : decode (a_cc M_Mo_feed) 43 = .ok (.aload_n 0, 1) := by decide +kernel
theorem d_Mo_feed_44 : decode (a_cc M_Mo_feed) 44 = .ok (.iload 4, 2) := by decide +kernel
theorem d_Mo_feed_46 : decode (a_cc M_Mo_feed) 46 = .ok (.invokevirtual 116, 3) := by decide +kernel
theorem d_Mo_feed_49 : decode (a_cc M_Mo_feed) 49 = .ok (.aload_n 0, 1) := by decide +kernel
theorem d_Mo_feed_50 : decode (a_cc M_Mo_feed) 50 = .ok (.iload 5, 2) := by decide +kernel
theorem d_Mo_feed_52 : decode (a_cc M_Mo_feed) 52 = .ok (.invokevirtual 116, 3) := by decide +kernel
theorem d_Mo_feed_55 : decode (a_cc M_Mo_feed) 55 = .ok (.aload_n 0, 1) := by decide +kernel
theorem d_Mo_feed_56 : decode (a_cc M_Mo_feed) 56 = .ok (.getfield 109, 3) := by decide +kernel
theorem d_Mo_feed_59 : decode (a_cc M_Mo_feed) 59 = .ok (.ireturn, 1) := by decide +kernel
theorem cs_Mo_feed_20 : a_CV M_Mo_feed M_Mo_good 112 10 3 0 2 := ⟨⟨ok_Mo_good, by decide, by decide, by decide⟩, by decide, rfl, List.mem_append_right _ (List.mem_of_getElem? (i := 1240) (by decide +kernel)), List.mem_append_right _ (List.mem_of_getElem? (i := 1242) (by decide +kernel)), List.mem_append_left _ (List.mem_of_getElem? (i := 41) (by decide +kernel)), by decide +kernel⟩
theorem cs_Mo_feed_30 : a_CV M_Mo_feed M_Mo_word1 116 10 2 0 1 := ⟨⟨ok_Mo_word1, by decide, by decide, by decide⟩, by decide, rfl, List.mem_append_right _ (List.mem_of_getElem? (i := 1244) (by decide +kernel)), List.mem_append_right _ (List.mem_of_getElem? (i := 1246) (by decide +kernel)), List.mem_append_left _ (List.mem_of_getElem? (i := 42) (by decide +kernel)), by decide +kernel⟩
theorem cs_Mo_feed_35 : a_CV M_Mo_feed M_Mo_word1 116 10 2 0 1 := ⟨⟨ok_Mo_word1, by decide, by decide, by decide⟩, by decide, rfl, List.mem_append_right _ (List.mem_of_getElem? (i := 1244) (by decide +kernel)), List.mem_append_right _ (List.mem_of_getElem? (i := 1246) (by decide +kernel)), List.mem_append_left _ (List.mem_of_getElem? (i := 42) (by decide +kernel)), by decide +kernel⟩
theorem cs_Mo_feed_40 : a_CV M_Mo_feed M_Mo_word1 116 10 2 0 1 := ⟨⟨ok_Mo_word1, by decide, by decide, by decide⟩, by decide, rfl, List.mem_append_right _ (List.mem_of_getElem? (i := 1244) (by decide +kernel)), List.mem_append_right _ (List.mem_of_getElem? (i := 1246) (by decide +kernel)), List.mem_append_left _ (List.mem_of_getElem? (i := 42) (by decide +kernel)), by decide +kernel⟩
theorem cs_Mo_feed_46 : a_CV M_Mo_feed M_Mo_word1 116 10 2 0 1 := ⟨⟨ok_Mo_word1, by decide, by decide, by decide⟩, by decide, rfl, List.mem_append_right _ (List.mem_of_getElem? (i := 1244) (by decide +kernel)), List.mem_append_right _ (List.mem_of_getElem? (i := 1246) (by decide +kernel)), List.mem_append_left _ (List.mem_of_getElem? (i := 42) (by decide +kernel)), by decide +kernel⟩
theorem cs_Mo_feed_52 : a_CV M_Mo_feed M_Mo_word1 116 10 2 0 1 := ⟨⟨ok_Mo_word1, by decide, by decide, by decide⟩, by decide, rfl, List.mem_append_right _ (List.mem_of_getElem? (i := 1244) (by decide +kernel)), List.mem_append_right _ (List.mem_of_getElem? (i := 1246) (by decide +kernel)), List.mem_append_left _ (List.mem_of_getElem? (i := 42) (by decide +kernel)), by decide +kernel⟩
def M_Mo_thrown : a_M := (⟨"ModuleSignerModel", "thrown", "()I"⟩, prog_12_method_2_code, 1, some .int, "ModuleSignerModel", 0, 0, [])
theorem ok_Mo_thrown : a_Ok M_Mo_thrown := ⟨rfl, by decide +kernel, ⟨by decide, by decide⟩, List.mem_append_right _ (List.mem_of_getElem? (i := 11) (by decide +kernel)), Or.inl ⟨rfl, List.mem_append_right _ (List.mem_of_getElem? (i := 1235) (by decide +kernel))⟩⟩
theorem d_Mo_thrown_0 : decode (a_cc M_Mo_thrown) 0 = .ok (.aload_n 0, 1) := by decide +kernel
theorem d_Mo_thrown_1 : decode (a_cc M_Mo_thrown) 1 = .ok (.getfield 105, 3) := by decide +kernel
theorem d_Mo_thrown_4 : decode (a_cc M_Mo_thrown) 4 = .ok (.ireturn, 1) := by decide +kernel
def M_MS_needSlot : a_M := (⟨"ModuleSigner", "needSlot", "(I)V"⟩, prog_1_method_13_code, 1, none, "ModuleSigner", 6, 82, [])
theorem ok_MS_needSlot : a_Ok M_MS_needSlot := ⟨rfl, by decide +kernel, ⟨by decide, by decide⟩, List.mem_append_right _ (List.mem_of_getElem? (i := 1) (by decide +kernel)), Or.inl ⟨rfl, List.mem_append_right _ (List.mem_of_getElem? (i := 469) (by decide +kernel))⟩⟩
theorem d_MS_needSlot_0 : decode (a_cc M_MS_needSlot) 0 = .ok (.iload_n 0, 1) := by decide +kernel
theorem d_MS_needSlot_1 : decode (a_cc M_MS_needSlot) 1 = .ok (.ifCond .lt 9, 3) := by decide +kernel
theorem d_MS_needSlot_4 : decode (a_cc M_MS_needSlot) 4 = .ok (.iload_n 0, 1) := by decide +kernel
theorem d_MS_needSlot_5 : decode (a_cc M_MS_needSlot) 5 = .ok (.bipush 8, 2) := by decide +kernel
theorem d_MS_needSlot_7 : decode (a_cc M_MS_needSlot) 7 = .ok (.if_icmp .lt 13, 3) := by decide +kernel
theorem d_MS_needSlot_10 : decode (a_cc M_MS_needSlot) 10 = .ok (.new 87, 3) := by decide +kernel
theorem d_MS_needSlot_13 : decode (a_cc M_MS_needSlot) 13 = .ok (.dup, 1) := by decide +kernel
theorem d_MS_needSlot_14 : decode (a_cc M_MS_needSlot) 14 = .ok (.ldc 149, 2) := by decide +kernel
theorem d_MS_needSlot_16 : decode (a_cc M_MS_needSlot) 16 = .ok (.invokespecial 91, 3) := by decide +kernel
theorem d_MS_needSlot_19 : decode (a_cc M_MS_needSlot) 19 = .ok (.athrow, 1) := by decide +kernel
theorem d_MS_needSlot_20 : decode (a_cc M_MS_needSlot) 20 = .ok (.return_, 1) := by decide +kernel
theorem th_MS_needSlot_10 : a_Th M_MS_needSlot 10 0 0 := ⟨_, _, _, "no such slot", d_MS_needSlot_10, d_MS_needSlot_13, d_MS_needSlot_14, d_MS_needSlot_16, d_MS_needSlot_19, List.mem_append_right _ (List.mem_of_getElem? (i := 479) (by decide +kernel)), by decide, List.mem_append_right _ (List.mem_of_getElem? (i := 470) (by decide +kernel)), List.mem_append_right _ (List.mem_of_getElem? (i := 480) (by decide +kernel)), rfl, by decide, by decide⟩
def M_MS_needSize : a_M := (⟨"ModuleSigner", "needSize", "(I)V"⟩, prog_1_method_14_code, 1, none, "ModuleSigner", 6, 82, [])
theorem ok_MS_needSize : a_Ok M_MS_needSize := ⟨rfl, by decide +kernel, ⟨by decide, by decide⟩, List.mem_append_right _ (List.mem_of_getElem? (i := 1) (by decide +kernel)), Or.inl ⟨rfl, List.mem_append_right _ (List.mem_of_getElem? (i := 488) (by decide +kernel))⟩⟩
theorem d_MS_needSize_0 : decode (a_cc M_MS_needSize) 0 = .ok (.iload_n 0, 1) := by decide +kernel
theorem d_MS_needSize_1 : decode (a_cc M_MS_needSize) 1 = .ok (.ifCond .lt 10, 3) := by decide +kernel
theorem d_MS_needSize_4 : decode (a_cc M_MS_needSize) 4 = .ok (.iload_n 0, 1) := by decide +kernel
theorem d_MS_needSize_5 : decode (a_cc M_MS_needSize) 5 = .ok (.sipush 8192, 3) := by decide +kernel
theorem d_MS_needSize_8 : decode (a_cc M_MS_needSize) 8 = .ok (.if_icmp .le 13, 3) := by decide +kernel
theorem d_MS_needSize_11 : decode (a_cc M_MS_needSize) 11 = .ok (.new 87, 3) := by decide +kernel
theorem d_MS_needSize_14 : decode (a_cc M_MS_needSize) 14 = .ok (.dup, 1) := by decide +kernel
theorem d_MS_needSize_15 : decode (a_cc M_MS_needSize) 15 = .ok (.ldc 151, 2) := by decide +kernel
theorem d_MS_needSize_17 : decode (a_cc M_MS_needSize) 17 = .ok (.invokespecial 91, 3) := by decide +kernel
theorem d_MS_needSize_20 : decode (a_cc M_MS_needSize) 20 = .ok (.athrow, 1) := by decide +kernel
theorem d_MS_needSize_21 : decode (a_cc M_MS_needSize) 21 = .ok (.return_, 1) := by decide +kernel
theorem th_MS_needSize_11 : a_Th M_MS_needSize 11 0 0 := ⟨_, _, _, "no size of a slot", d_MS_needSize_11, d_MS_needSize_14, d_MS_needSize_15, d_MS_needSize_17, d_MS_needSize_20, List.mem_append_right _ (List.mem_of_getElem? (i := 489) (by decide +kernel)), by decide, List.mem_append_right _ (List.mem_of_getElem? (i := 470) (by decide +kernel)), List.mem_append_right _ (List.mem_of_getElem? (i := 480) (by decide +kernel)), rfl, by decide, by decide⟩
def M_Jm_min : a_M := (⟨"java/lang/Math", "min", "(II)I"⟩, prog_18_method_69_code, 2, some .int, "java/lang/Math", 0, 0, [])
theorem ok_Jm_min : a_Ok M_Jm_min := ⟨rfl, by decide +kernel, ⟨by decide, by decide⟩, List.mem_append_right _ (List.mem_of_getElem? (i := 17) (by decide +kernel)), Or.inl ⟨rfl, List.mem_append_right _ (List.mem_of_getElem? (i := 497) (by decide +kernel))⟩⟩
theorem d_Jm_min_0 : decode (a_cc M_Jm_min) 0 = .ok (.iload_n 0, 1) := by decide +kernel
theorem d_Jm_min_1 : decode (a_cc M_Jm_min) 1 = .ok (.iload_n 1, 1) := by decide +kernel
theorem d_Jm_min_2 : decode (a_cc M_Jm_min) 2 = .ok (.if_icmp .gt 7, 3) := by decide +kernel
theorem d_Jm_min_5 : decode (a_cc M_Jm_min) 5 = .ok (.iload_n 0, 1) := by decide +kernel
theorem d_Jm_min_6 : decode (a_cc M_Jm_min) 6 = .ok (.goto 4, 3) := by decide +kernel
theorem d_Jm_min_9 : decode (a_cc M_Jm_min) 9 = .ok (.iload_n 1, 1) := by decide +kernel
theorem d_Jm_min_10 : decode (a_cc M_Jm_min) 10 = .ok (.ireturn, 1) := by decide +kernel
def M_By_become : a_M := (⟨"ModuleSigner$Bytes", "become", "(LModuleSigner$Bytes;I)V"⟩, prog_3_method_7_code, 4, none, "ModuleSigner$Bytes", 1, 18, [])
theorem ok_By_become : a_Ok M_By_become := ⟨rfl, by decide +kernel, ⟨by decide, by decide⟩, List.mem_append_right _ (List.mem_of_getElem? (i := 2) (by decide +kernel)), Or.inl ⟨rfl, List.mem_append_right _ (List.mem_of_getElem? (i := 494) (by decide +kernel))⟩⟩
theorem d_By_become_0 : decode (a_cc M_By_become) 0 = .ok (.iload_n 2, 1) := by decide +kernel
theorem d_By_become_1 : decode (a_cc M_By_become) 1 = .ok (.aload_n 1, 1) := by decide +kernel
theorem d_By_become_2 : decode (a_cc M_By_become) 2 = .ok (.getfield 13, 3) := by decide +kernel
theorem d_By_become_5 : decode (a_cc M_By_become) 5 = .ok (.invokestatic 25, 3) := by decide +kernel
theorem d_By_become_8 : decode (a_cc M_By_become) 8 = .ok (.aload_n 0, 1) := by decide +kernel
theorem d_By_become_9 : decode (a_cc M_By_become) 9 = .ok (.getfield 7, 3) := by decide +kernel
theorem d_By_become_12 : decode (a_cc M_By_become) 12 = .ok (.arraylength, 1) := by decide +kernel
theorem d_By_become_13 : decode (a_cc M_By_become) 13 = .ok (.invokestatic 25, 3) := by decide +kernel
theorem d_By_become_16 : decode (a_cc M_By_become) 16 = .ok (.istore_n 3, 1) := by decide +kernel
theorem d_By_become_17 : decode (a_cc M_By_become) 17 = .ok (.aload_n 1, 1) := by decide +kernel
theorem d_By_become_18 : decode (a_cc M_By_become) 18 = .ok (.getfield 7, 3) := by decide +kernel
theorem d_By_become_21 : decode (a_cc M_By_become) 21 = .ok (.iconst 0, 1) := by decide +kernel
theorem d_By_become_22 : decode (a_cc M_By_become) 22 = .ok (.aload_n 0, 1) := by decide +kernel
theorem d_By_become_23 : decode (a_cc M_By_become) 23 = .ok (.getfield 7, 3) := by decide +kernel
theorem d_By_become_26 : decode (a_cc M_By_become) 26 = .ok (.iconst 0, 1) := by decide +kernel
theorem d_By_become_27 : decode (a_cc M_By_become) 27 = .ok (.iload_n 3, 1) := by decide +kernel
theorem d_By_become_28 : decode (a_cc M_By_become) 28 = .ok (.invokestatic 31, 3) := by decide +kernel
theorem d_By_become_31 : decode (a_cc M_By_become) 31 = .ok (.aload_n 0, 1) := by decide +kernel
theorem d_By_become_32 : decode (a_cc M_By_become) 32 = .ok (.iload_n 3, 1) := by decide +kernel
theorem d_By_become_33 : decode (a_cc M_By_become) 33 = .ok (.putfield 13, 3) := by decide +kernel
theorem d_By_become_36 : decode (a_cc M_By_become) 36 = .ok (.return_, 1) := by decide +kernel
theorem cs_By_become_5 : a_CS M_By_become M_Jm_min 25 2 0 2 := ⟨⟨ok_Jm_min, by decide, by decide, by decide⟩, List.mem_append_right _ (List.mem_of_getElem? (i := 495) (by decide +kernel)), List.mem_append_right _ (List.mem_of_getElem? (i := 496) (by decide +kernel)), by decide +kernel⟩
theorem cs_By_become_13 : a_CS M_By_become M_Jm_min 25 2 0 2 := ⟨⟨ok_Jm_min, by decide, by decide, by decide⟩, List.mem_append_right _ (List.mem_of_getElem? (i := 495) (by decide +kernel)), List.mem_append_right _ (List.mem_of_getElem? (i := 496) (by decide +kernel)), by decide +kernel⟩
theorem ml_By_31 : Cond.methodLink "ModuleSigner$Bytes" 31 arraycopyName ∈ lw_tbl := List.mem_append_right _ (List.mem_of_getElem? (i := 498) (by decide +kernel))
def M_By_clear : a_M := (⟨"ModuleSigner$Bytes", "clear", "()V"⟩, prog_3_method_3_code, 1, none, "ModuleSigner$Bytes", 0, 0, [])
theorem ok_By_clear : a_Ok M_By_clear := ⟨rfl, by decide +kernel, ⟨by decide, by decide⟩, List.mem_append_right _ (List.mem_of_getElem? (i := 2) (by decide +kernel)), Or.inl ⟨rfl, List.mem_append_right _ (List.mem_of_getElem? (i := 504) (by decide +kernel))⟩⟩
theorem d_By_clear_0 : decode (a_cc M_By_clear) 0 = .ok (.aload_n 0, 1) := by decide +kernel
theorem d_By_clear_1 : decode (a_cc M_By_clear) 1 = .ok (.iconst 0, 1) := by decide +kernel
theorem d_By_clear_2 : decode (a_cc M_By_clear) 2 = .ok (.putfield 13, 3) := by decide +kernel
theorem d_By_clear_5 : decode (a_cc M_By_clear) 5 = .ok (.return_, 1) := by decide +kernel
def M_MS_end : a_M := (⟨"ModuleSigner", "end", "(II)I"⟩, prog_1_method_3_code, 3, some .int, "ModuleSigner", 7, 94, [])
theorem ok_MS_end : a_Ok M_MS_end := ⟨rfl, by decide +kernel, ⟨by decide, by decide⟩, List.mem_append_right _ (List.mem_of_getElem? (i := 1) (by decide +kernel)), Or.inl ⟨rfl, List.mem_append_right _ (List.mem_of_getElem? (i := 466) (by decide +kernel))⟩⟩
theorem d_MS_end_0 : decode (a_cc M_MS_end) 0 = .ok (.iload_n 1, 1) := by decide +kernel
theorem d_MS_end_1 : decode (a_cc M_MS_end) 1 = .ok (.invokestatic 69, 3) := by decide +kernel
theorem d_MS_end_4 : decode (a_cc M_MS_end) 4 = .ok (.iload_n 2, 1) := by decide +kernel
theorem d_MS_end_5 : decode (a_cc M_MS_end) 5 = .ok (.invokestatic 72, 3) := by decide +kernel
theorem d_MS_end_8 : decode (a_cc M_MS_end) 8 = .ok (.aload_n 0, 1) := by decide +kernel
theorem d_MS_end_9 : decode (a_cc M_MS_end) 9 = .ok (.getfield 18, 3) := by decide +kernel
theorem d_MS_end_12 : decode (a_cc M_MS_end) 12 = .ok (.getfield 55, 3) := by decide +kernel
theorem d_MS_end_15 : decode (a_cc M_MS_end) 15 = .ok (.iload_n 2, 1) := by decide +kernel
theorem d_MS_end_16 : decode (a_cc M_MS_end) 16 = .ok (.if_icmp .ge 13, 3) := by decide +kernel
theorem d_MS_end_19 : decode (a_cc M_MS_end) 19 = .ok (.new 59, 3) := by decide +kernel
theorem d_MS_end_22 : decode (a_cc M_MS_end) 22 = .ok (.dup, 1) := by decide +kernel
theorem d_MS_end_23 : decode (a_cc M_MS_end) 23 = .ok (.ldc 75, 2) := by decide +kernel
theorem d_MS_end_25 : decode (a_cc M_MS_end) 25 = .ok (.invokespecial 63, 3) := by decide +kernel
theorem d_MS_end_28 : decode (a_cc M_MS_end) 28 = .ok (.athrow, 1) := by decide +kernel
theorem d_MS_end_29 : decode (a_cc M_MS_end) 29 = .ok (.aload_n 0, 1) := by decide +kernel
theorem d_MS_end_30 : decode (a_cc M_MS_end) 30 = .ok (.getfield 11, 3) := by decide +kernel
theorem d_MS_end_33 : decode (a_cc M_MS_end) 33 = .ok (.iload_n 1, 1) := by decide +kernel
theorem d_MS_end_34 : decode (a_cc M_MS_end) 34 = .ok (.aaload, 1) := by decide +kernel
theorem d_MS_end_35 : decode (a_cc M_MS_end) 35 = .ok (.aload_n 0, 1) := by decide +kernel
theorem d_MS_end_36 : decode (a_cc M_MS_end) 36 = .ok (.getfield 18, 3) := by decide +kernel
theorem d_MS_end_39 : decode (a_cc M_MS_end) 39 = .ok (.iload_n 2, 1) := by decide +kernel
theorem d_MS_end_40 : decode (a_cc M_MS_end) 40 = .ok (.invokevirtual 77, 3) := by decide +kernel
theorem d_MS_end_43 : decode (a_cc M_MS_end) 43 = .ok (.aload_n 0, 1) := by decide +kernel
theorem d_MS_end_44 : decode (a_cc M_MS_end) 44 = .ok (.getfield 18, 3) := by decide +kernel
theorem d_MS_end_47 : decode (a_cc M_MS_end) 47 = .ok (.invokevirtual 81, 3) := by decide +kernel
theorem d_MS_end_50 : decode (a_cc M_MS_end) 50 = .ok (.iload_n 2, 1) := by decide +kernel
theorem d_MS_end_51 : decode (a_cc M_MS_end) 51 = .ok (.ireturn, 1) := by decide +kernel
theorem cs_MS_end_1 : a_CS M_MS_end M_MS_needSlot 69 1 0 1 := ⟨⟨ok_MS_needSlot, by decide, by decide, by decide⟩, List.mem_append_right _ (List.mem_of_getElem? (i := 467) (by decide +kernel)), List.mem_append_right _ (List.mem_of_getElem? (i := 468) (by decide +kernel)), by decide +kernel⟩
theorem cs_MS_end_5 : a_CS M_MS_end M_MS_needSize 72 1 0 1 := ⟨⟨ok_MS_needSize, by decide, by decide, by decide⟩, List.mem_append_right _ (List.mem_of_getElem? (i := 486) (by decide +kernel)), List.mem_append_right _ (List.mem_of_getElem? (i := 487) (by decide +kernel)), by decide +kernel⟩
theorem th_MS_end_19 : a_Th M_MS_end 19 1 0 := ⟨_, _, _, "the tape has fewer bytes", d_MS_end_19, d_MS_end_22, d_MS_end_23, d_MS_end_25, d_MS_end_28, List.mem_append_right _ (List.mem_of_getElem? (i := 490) (by decide +kernel)), by decide, List.mem_append_right _ (List.mem_of_getElem? (i := 382) (by decide +kernel)), List.mem_append_right _ (List.mem_of_getElem? (i := 426) (by decide +kernel)), rfl, by decide, by decide⟩
theorem cs_MS_end_40 : a_CV M_MS_end M_By_become 77 1 3 0 2 := ⟨⟨ok_By_become, by decide, by decide, by decide⟩, by decide, rfl, List.mem_append_right _ (List.mem_of_getElem? (i := 491) (by decide +kernel)), List.mem_append_right _ (List.mem_of_getElem? (i := 492) (by decide +kernel)), List.mem_append_right _ (List.mem_of_getElem? (i := 493) (by decide +kernel)), by decide +kernel⟩
theorem cs_MS_end_47 : a_CV M_MS_end M_By_clear 81 1 1 0 0 := ⟨⟨ok_By_clear, by decide, by decide, by decide⟩, by decide, rfl, List.mem_append_right _ (List.mem_of_getElem? (i := 501) (by decide +kernel)), List.mem_append_right _ (List.mem_of_getElem? (i := 502) (by decide +kernel)), List.mem_append_right _ (List.mem_of_getElem? (i := 503) (by decide +kernel)), by decide +kernel⟩
