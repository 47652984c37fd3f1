/-! names, printed by program: methods, their instructions, what they link -/
def M_Mo_attempt : a_M := (⟨"ModuleSignerModel", "attempt", "(I)I"⟩, prog_12_method_66_code, 9, some .int, "ModuleSignerModel", 6, 114, [])
theorem ok_Mo_attempt : a_Ok M_Mo_attempt := ⟨rfl, by decide +kernel, ⟨by decide, by decide⟩, List.mem_append_right _ (List.mem_of_getElem? (i := 11) (by decide +kernel)), Or.inl ⟨rfl, List.mem_append_right _ (List.mem_of_getElem? (i := 1389) (by decide +kernel))⟩⟩
theorem d_Mo_attempt_0 : decode (a_cc M_Mo_attempt) 0 = .ok (.iconst 0, 1) := by decide +kernel
theorem d_Mo_attempt_1 : decode (a_cc M_Mo_attempt) 1 = .ok (.istore_n 2, 1) := by decide +kernel
theorem d_Mo_attempt_2 : decode (a_cc M_Mo_attempt) 2 = .ok (.iload_n 2, 1) := by decide +kernel
theorem d_Mo_attempt_3 : decode (a_cc M_Mo_attempt) 3 = .ok (.aload_n 0, 1) := by decide +kernel
theorem d_Mo_attempt_4 : decode (a_cc M_Mo_attempt) 4 = .ok (.getfield 226, 3) := by decide +kernel
theorem d_Mo_attempt_7 : decode (a_cc M_Mo_attempt) 7 = .ok (.if_icmp .ge 90, 3) := by decide +kernel
theorem d_Mo_attempt_10 : decode (a_cc M_Mo_attempt) 10 = .ok (.aload_n 0, 1) := by decide +kernel
theorem d_Mo_attempt_11 : decode (a_cc M_Mo_attempt) 11 = .ok (.bipush 12, 2) := by decide +kernel
theorem d_Mo_attempt_13 : decode (a_cc M_Mo_attempt) 13 = .ok (.invokevirtual 148, 3) := by decide +kernel
theorem d_Mo_attempt_16 : decode (a_cc M_Mo_attempt) 16 = .ok (.aload_n 0, 1) := by decide +kernel
theorem d_Mo_attempt_17 : decode (a_cc M_Mo_attempt) 17 = .ok (.aload_n 0, 1) := by decide +kernel
theorem d_Mo_attempt_18 : decode (a_cc M_Mo_attempt) 18 = .ok (.getfield 96, 3) := by decide +kernel
theorem d_Mo_attempt_21 : decode (a_cc M_Mo_attempt) 21 = .ok (.iconst 0, 1) := by decide +kernel
theorem d_Mo_attempt_22 : decode (a_cc M_Mo_attempt) 22 = .ok (.bipush 64, 2) := by decide +kernel
theorem d_Mo_attempt_24 : decode (a_cc M_Mo_attempt) 24 = .ok (.invokevirtual 268, 3) := by decide +kernel
theorem d_Mo_attempt_27 : decode (a_cc M_Mo_attempt) 27 = .ok (.aload_n 0, 1) := by decide +kernel
theorem d_Mo_attempt_28 : decode (a_cc M_Mo_attempt) 28 = .ok (.iload_n 1, 1) := by decide +kernel
theorem d_Mo_attempt_29 : decode (a_cc M_Mo_attempt) 29 = .ok (.iload_n 2, 1) := by decide +kernel
theorem d_Mo_attempt_30 : decode (a_cc M_Mo_attempt) 30 = .ok (.iadd, 1) := by decide +kernel
theorem d_Mo_attempt_31 : decode (a_cc M_Mo_attempt) 31 = .ok (.invokevirtual 153, 3) := by decide +kernel
theorem d_Mo_attempt_34 : decode (a_cc M_Mo_attempt) 34 = .ok (.aload_n 0, 1) := by decide +kernel
theorem d_Mo_attempt_35 : decode (a_cc M_Mo_attempt) 35 = .ok (.iload_n 1, 1) := by decide +kernel
theorem d_Mo_attempt_36 : decode (a_cc M_Mo_attempt) 36 = .ok (.iload_n 2, 1) := by decide +kernel
theorem d_Mo_attempt_37 : decode (a_cc M_Mo_attempt) 37 = .ok (.iadd, 1) := by decide +kernel
theorem d_Mo_attempt_38 : decode (a_cc M_Mo_attempt) 38 = .ok (.bipush 8, 2) := by decide +kernel
theorem d_Mo_attempt_40 : decode (a_cc M_Mo_attempt) 40 = .ok (.ishr, 1) := by decide +kernel
theorem d_Mo_attempt_41 : decode (a_cc M_Mo_attempt) 41 = .ok (.invokevirtual 153, 3) := by decide +kernel
theorem d_Mo_attempt_44 : decode (a_cc M_Mo_attempt) 44 = .ok (.aload_n 0, 1) := by decide +kernel
theorem d_Mo_attempt_45 : decode (a_cc M_Mo_attempt) 45 = .ok (.aload_n 0, 1) := by decide +kernel
theorem d_Mo_attempt_46 : decode (a_cc M_Mo_attempt) 46 = .ok (.getfield 84, 3) := by decide +kernel
theorem d_Mo_attempt_49 : decode (a_cc M_Mo_attempt) 49 = .ok (.iconst 0, 1) := by decide +kernel
theorem d_Mo_attempt_50 : decode (a_cc M_Mo_attempt) 50 = .ok (.bipush 32, 2) := by decide +kernel
theorem d_Mo_attempt_52 : decode (a_cc M_Mo_attempt) 52 = .ok (.aload_n 0, 1) := by decide +kernel
theorem d_Mo_attempt_53 : decode (a_cc M_Mo_attempt) 53 = .ok (.getfield 251, 3) := by decide +kernel
theorem d_Mo_attempt_56 : decode (a_cc M_Mo_attempt) 56 = .ok (.imul, 1) := by decide +kernel
theorem d_Mo_attempt_57 : decode (a_cc M_Mo_attempt) 57 = .ok (.invokevirtual 290, 3) := by decide +kernel
theorem d_Mo_attempt_60 : decode (a_cc M_Mo_attempt) 60 = .ok (.aload_n 0, 1) := by decide +kernel
theorem d_Mo_attempt_61 : decode (a_cc M_Mo_attempt) 61 = .ok (.iconst 0, 1) := by decide +kernel
theorem d_Mo_attempt_62 : decode (a_cc M_Mo_attempt) 62 = .ok (.putfield 216, 3) := by decide +kernel
theorem d_Mo_attempt_65 : decode (a_cc M_Mo_attempt) 65 = .ok (.aload_n 0, 1) := by decide +kernel
theorem d_Mo_attempt_66 : decode (a_cc M_Mo_attempt) 66 = .ok (.aload_n 0, 1) := by decide +kernel
theorem d_Mo_attempt_67 : decode (a_cc M_Mo_attempt) 67 = .ok (.getfield 84, 3) := by decide +kernel
theorem d_Mo_attempt_70 : decode (a_cc M_Mo_attempt) 70 = .ok (.iconst 0, 1) := by decide +kernel
theorem d_Mo_attempt_71 : decode (a_cc M_Mo_attempt) 71 = .ok (.aload_n 0, 1) := by decide +kernel
theorem d_Mo_attempt_72 : decode (a_cc M_Mo_attempt) 72 = .ok (.getfield 76, 3) := by decide +kernel
theorem d_Mo_attempt_75 : decode (a_cc M_Mo_attempt) 75 = .ok (.bipush 23, 2) := by decide +kernel
theorem d_Mo_attempt_77 : decode (a_cc M_Mo_attempt) 77 = .ok (.iload_n 2, 1) := by decide +kernel
theorem d_Mo_attempt_78 : decode (a_cc M_Mo_attempt) 78 = .ok (.iadd, 1) := by decide +kernel
theorem d_Mo_attempt_79 : decode (a_cc M_Mo_attempt) 79 = .ok (.aaload, 1) := by decide +kernel
theorem d_Mo_attempt_80 : decode (a_cc M_Mo_attempt) 80 = .ok (.aload_n 0, 1) := by decide +kernel
theorem d_Mo_attempt_81 : decode (a_cc M_Mo_attempt) 81 = .ok (.getfield 237, 3) := by decide +kernel
theorem d_Mo_attempt_84 : decode (a_cc M_Mo_attempt) 84 = .ok (.aload_n 0, 1) := by decide +kernel
theorem d_Mo_attempt_85 : decode (a_cc M_Mo_attempt) 85 = .ok (.getfield 251, 3) := by decide +kernel
theorem d_Mo_attempt_88 : decode (a_cc M_Mo_attempt) 88 = .ok (.invokevirtual 337, 3) := by decide +kernel
theorem d_Mo_attempt_91 : decode (a_cc M_Mo_attempt) 91 = .ok (.iinc 2 1, 3) := by decide +kernel
theorem d_Mo_attempt_94 : decode (a_cc M_Mo_attempt) 94 = .ok (.goto (-92), 3) := by decide +kernel
theorem d_Mo_attempt_97 : decode (a_cc M_Mo_attempt) 97 = .ok (.iconst 0, 1) := by decide +kernel
theorem d_Mo_attempt_98 : decode (a_cc M_Mo_attempt) 98 = .ok (.istore_n 2, 1) := by decide +kernel
theorem d_Mo_attempt_99 : decode (a_cc M_Mo_attempt) 99 = .ok (.iload_n 2, 1) := by decide +kernel
theorem d_Mo_attempt_100 : decode (a_cc M_Mo_attempt) 100 = .ok (.aload_n 0, 1) := by decide +kernel
theorem d_Mo_attempt_101 : decode (a_cc M_Mo_attempt) 101 = .ok (.getfield 223, 3) := by decide +kernel
theorem d_Mo_attempt_104 : decode (a_cc M_Mo_attempt) 104 = .ok (.if_icmp .ge 200, 3) := by decide +kernel
theorem d_Mo_attempt_107 : decode (a_cc M_Mo_attempt) 107 = .ok (.aload_n 0, 1) := by decide +kernel
theorem d_Mo_attempt_108 : decode (a_cc M_Mo_attempt) 108 = .ok (.getfield 76, 3) := by decide +kernel
theorem d_Mo_attempt_111 : decode (a_cc M_Mo_attempt) 111 = .ok (.bipush 30, 2) := by decide +kernel
theorem d_Mo_attempt_113 : decode (a_cc M_Mo_attempt) 113 = .ok (.iload_n 2, 1) := by decide +kernel
theorem d_Mo_attempt_114 : decode (a_cc M_Mo_attempt) 114 = .ok (.iadd, 1) := by decide +kernel
theorem d_Mo_attempt_115 : decode (a_cc M_Mo_attempt) 115 = .ok (.aaload, 1) := by decide +kernel
theorem d_Mo_attempt_116 : decode (a_cc M_Mo_attempt) 116 = .ok (.invokestatic 275, 3) := by decide +kernel
theorem d_Mo_attempt_119 : decode (a_cc M_Mo_attempt) 119 = .ok (.iconst 0, 1) := by decide +kernel
theorem d_Mo_attempt_120 : decode (a_cc M_Mo_attempt) 120 = .ok (.istore_n 3, 1) := by decide +kernel
theorem d_Mo_attempt_121 : decode (a_cc M_Mo_attempt) 121 = .ok (.iload_n 3, 1) := by decide +kernel
theorem d_Mo_attempt_122 : decode (a_cc M_Mo_attempt) 122 = .ok (.aload_n 0, 1) := by decide +kernel
theorem d_Mo_attempt_123 : decode (a_cc M_Mo_attempt) 123 = .ok (.getfield 226, 3) := by decide +kernel
theorem d_Mo_attempt_126 : decode (a_cc M_Mo_attempt) 126 = .ok (.if_icmp .ge 118, 3) := by decide +kernel
theorem d_Mo_attempt_129 : decode (a_cc M_Mo_attempt) 129 = .ok (.iconst 0, 1) := by decide +kernel
theorem d_Mo_attempt_130 : decode (a_cc M_Mo_attempt) 130 = .ok (.istore 4, 2) := by decide +kernel
theorem d_Mo_attempt_132 : decode (a_cc M_Mo_attempt) 132 = .ok (.iload 4, 2) := by decide +kernel
theorem d_Mo_attempt_134 : decode (a_cc M_Mo_attempt) 134 = .ok (.sipush 256, 3) := by decide +kernel
theorem d_Mo_attempt_137 : decode (a_cc M_Mo_attempt) 137 = .ok (.if_icmp .ge 39, 3) := by decide +kernel
theorem d_Mo_attempt_140 : decode (a_cc M_Mo_attempt) 140 = .ok (.aload_n 0, 1) := by decide +kernel
theorem d_Mo_attempt_141 : decode (a_cc M_Mo_attempt) 141 = .ok (.getfield 76, 3) := by decide +kernel
theorem d_Mo_attempt_144 : decode (a_cc M_Mo_attempt) 144 = .ok (.bipush 46, 2) := by decide +kernel
theorem d_Mo_attempt_146 : decode (a_cc M_Mo_attempt) 146 = .ok (.aaload, 1) := by decide +kernel
theorem d_Mo_attempt_147 : decode (a_cc M_Mo_attempt) 147 = .ok (.iload 4, 2) := by decide +kernel
theorem d_Mo_attempt_149 : decode (a_cc M_Mo_attempt) 149 = .ok (.aload_n 0, 1) := by decide +kernel
theorem d_Mo_attempt_150 : decode (a_cc M_Mo_attempt) 150 = .ok (.getfield 76, 3) := by decide +kernel
theorem d_Mo_attempt_153 : decode (a_cc M_Mo_attempt) 153 = .ok (.bipush 23, 2) := by decide +kernel
theorem d_Mo_attempt_155 : decode (a_cc M_Mo_attempt) 155 = .ok (.iload_n 3, 1) := by decide +kernel
theorem d_Mo_attempt_156 : decode (a_cc M_Mo_attempt) 156 = .ok (.iadd, 1) := by decide +kernel
theorem d_Mo_attempt_157 : decode (a_cc M_Mo_attempt) 157 = .ok (.aaload, 1) := by decide +kernel
theorem d_Mo_attempt_158 : decode (a_cc M_Mo_attempt) 158 = .ok (.iload 4, 2) := by decide +kernel
theorem d_Mo_attempt_160 : decode (a_cc M_Mo_attempt) 160 = .ok (.iaload, 1) := by decide +kernel
theorem d_Mo_attempt_161 : decode (a_cc M_Mo_attempt) 161 = .ok (.ldc_w 264, 3) := by decide +kernel
theorem d_Mo_attempt_164 : decode (a_cc M_Mo_attempt) 164 = .ok (.iadd, 1) := by decide +kernel
theorem d_Mo_attempt_165 : decode (a_cc M_Mo_attempt) 165 = .ok (.ldc_w 264, 3) := by decide +kernel
theorem d_Mo_attempt_168 : decode (a_cc M_Mo_attempt) 168 = .ok (.irem, 1) := by decide +kernel
theorem d_Mo_attempt_169 : decode (a_cc M_Mo_attempt) 169 = .ok (.iastore, 1) := by decide +kernel
theorem d_Mo_attempt_170 : decode (a_cc M_Mo_attempt) 170 = .ok (.iinc 4 1, 3) := by decide +kernel
theorem d_Mo_attempt_173 : decode (a_cc M_Mo_attempt) 173 = .ok (.goto (-41), 3) := by decide +kernel
theorem d_Mo_attempt_176 : decode (a_cc M_Mo_attempt) 176 = .ok (.aload_n 0, 1) := by decide +kernel
theorem d_Mo_attempt_177 : decode (a_cc M_Mo_attempt) 177 = .ok (.aload_n 0, 1) := by decide +kernel
theorem d_Mo_attempt_178 : decode (a_cc M_Mo_attempt) 178 = .ok (.getfield 76, 3) := by decide +kernel
theorem d_Mo_attempt_181 : decode (a_cc M_Mo_attempt) 181 = .ok (.bipush 46, 2) := by decide +kernel
theorem d_Mo_attempt_183 : decode (a_cc M_Mo_attempt) 183 = .ok (.aaload, 1) := by decide +kernel
theorem d_Mo_attempt_184 : decode (a_cc M_Mo_attempt) 184 = .ok (.invokevirtual 304, 3) := by decide +kernel
theorem d_Mo_attempt_187 : decode (a_cc M_Mo_attempt) 187 = .ok (.aload_n 0, 1) := by decide +kernel
theorem d_Mo_attempt_188 : decode (a_cc M_Mo_attempt) 188 = .ok (.aload_n 0, 1) := by decide +kernel
theorem d_Mo_attempt_189 : decode (a_cc M_Mo_attempt) 189 = .ok (.getfield 76, 3) := by decide +kernel
theorem d_Mo_attempt_192 : decode (a_cc M_Mo_attempt) 192 = .ok (.bipush 47, 2) := by decide +kernel
theorem d_Mo_attempt_194 : decode (a_cc M_Mo_attempt) 194 = .ok (.aaload, 1) := by decide +kernel
theorem d_Mo_attempt_195 : decode (a_cc M_Mo_attempt) 195 = .ok (.aload_n 0, 1) := by decide +kernel
theorem d_Mo_attempt_196 : decode (a_cc M_Mo_attempt) 196 = .ok (.getfield 15, 3) := by decide +kernel
theorem d_Mo_attempt_199 : decode (a_cc M_Mo_attempt) 199 = .ok (.iconst 2, 1) := by decide +kernel
theorem d_Mo_attempt_200 : decode (a_cc M_Mo_attempt) 200 = .ok (.aaload, 1) := by decide +kernel
theorem d_Mo_attempt_201 : decode (a_cc M_Mo_attempt) 201 = .ok (.iconst 0, 1) := by decide +kernel
theorem d_Mo_attempt_202 : decode (a_cc M_Mo_attempt) 202 = .ok (.iload_n 3, 1) := by decide +kernel
theorem d_Mo_attempt_203 : decode (a_cc M_Mo_attempt) 203 = .ok (.iload_n 2, 1) := by decide +kernel
theorem d_Mo_attempt_204 : decode (a_cc M_Mo_attempt) 204 = .ok (.invokevirtual 307, 3) := by decide +kernel
theorem d_Mo_attempt_207 : decode (a_cc M_Mo_attempt) 207 = .ok (.ifCond .ne 5, 3) := by decide +kernel
theorem d_Mo_attempt_210 : decode (a_cc M_Mo_attempt) 210 = .ok (.iconst (-1), 1) := by decide +kernel
theorem d_Mo_attempt_211 : decode (a_cc M_Mo_attempt) 211 = .ok (.ireturn, 1) := by decide +kernel
theorem d_Mo_attempt_212 : decode (a_cc M_Mo_attempt) 212 = .ok (.aload_n 0, 1) := by decide +kernel
theorem d_Mo_attempt_213 : decode (a_cc M_Mo_attempt) 213 = .ok (.getfield 76, 3) := by decide +kernel
theorem d_Mo_attempt_216 : decode (a_cc M_Mo_attempt) 216 = .ok (.bipush 30, 2) := by decide +kernel
theorem d_Mo_attempt_218 : decode (a_cc M_Mo_attempt) 218 = .ok (.iload_n 2, 1) := by decide +kernel
theorem d_Mo_attempt_219 : decode (a_cc M_Mo_attempt) 219 = .ok (.iadd, 1) := by decide +kernel
theorem d_Mo_attempt_220 : decode (a_cc M_Mo_attempt) 220 = .ok (.aaload, 1) := by decide +kernel
theorem d_Mo_attempt_221 : decode (a_cc M_Mo_attempt) 221 = .ok (.aload_n 0, 1) := by decide +kernel
theorem d_Mo_attempt_222 : decode (a_cc M_Mo_attempt) 222 = .ok (.getfield 76, 3) := by decide +kernel
theorem d_Mo_attempt_225 : decode (a_cc M_Mo_attempt) 225 = .ok (.bipush 46, 2) := by decide +kernel
theorem d_Mo_attempt_227 : decode (a_cc M_Mo_attempt) 227 = .ok (.aaload, 1) := by decide +kernel
theorem d_Mo_attempt_228 : decode (a_cc M_Mo_attempt) 228 = .ok (.aload_n 0, 1) := by decide +kernel
theorem d_Mo_attempt_229 : decode (a_cc M_Mo_attempt) 229 = .ok (.getfield 76, 3) := by decide +kernel
theorem d_Mo_attempt_232 : decode (a_cc M_Mo_attempt) 232 = .ok (.bipush 47, 2) := by decide +kernel
theorem d_Mo_attempt_234 : decode (a_cc M_Mo_attempt) 234 = .ok (.aaload, 1) := by decide +kernel
theorem d_Mo_attempt_235 : decode (a_cc M_Mo_attempt) 235 = .ok (.invokestatic 311, 3) := by decide +kernel
theorem d_Mo_attempt_238 : decode (a_cc M_Mo_attempt) 238 = .ok (.iinc 3 1, 3) := by decide +kernel
theorem d_Mo_attempt_241 : decode (a_cc M_Mo_attempt) 241 = .ok (.goto (-120), 3) := by decide +kernel
theorem d_Mo_attempt_244 : decode (a_cc M_Mo_attempt) 244 = .ok (.aload_n 0, 1) := by decide +kernel
theorem d_Mo_attempt_245 : decode (a_cc M_Mo_attempt) 245 = .ok (.aload_n 0, 1) := by decide +kernel
theorem d_Mo_attempt_246 : decode (a_cc M_Mo_attempt) 246 = .ok (.getfield 76, 3) := by decide +kernel
theorem d_Mo_attempt_249 : decode (a_cc M_Mo_attempt) 249 = .ok (.bipush 30, 2) := by decide +kernel
theorem d_Mo_attempt_251 : decode (a_cc M_Mo_attempt) 251 = .ok (.iload_n 2, 1) := by decide +kernel
theorem d_Mo_attempt_252 : decode (a_cc M_Mo_attempt) 252 = .ok (.iadd, 1) := by decide +kernel
theorem d_Mo_attempt_253 : decode (a_cc M_Mo_attempt) 253 = .ok (.aaload, 1) := by decide +kernel
theorem d_Mo_attempt_254 : decode (a_cc M_Mo_attempt) 254 = .ok (.invokevirtual 315, 3) := by decide +kernel
theorem d_Mo_attempt_257 : decode (a_cc M_Mo_attempt) 257 = .ok (.iconst 0, 1) := by decide +kernel
theorem d_Mo_attempt_258 : decode (a_cc M_Mo_attempt) 258 = .ok (.istore_n 3, 1) := by decide +kernel
theorem d_Mo_attempt_259 : decode (a_cc M_Mo_attempt) 259 = .ok (.iload_n 3, 1) := by decide +kernel
theorem d_Mo_attempt_260 : decode (a_cc M_Mo_attempt) 260 = .ok (.sipush 256, 3) := by decide +kernel
theorem d_Mo_attempt_263 : decode (a_cc M_Mo_attempt) 263 = .ok (.if_icmp .ge 35, 3) := by decide +kernel
theorem d_Mo_attempt_266 : decode (a_cc M_Mo_attempt) 266 = .ok (.aload_n 0, 1) := by decide +kernel
theorem d_Mo_attempt_267 : decode (a_cc M_Mo_attempt) 267 = .ok (.getfield 76, 3) := by decide +kernel
theorem d_Mo_attempt_270 : decode (a_cc M_Mo_attempt) 270 = .ok (.bipush 38, 2) := by decide +kernel
theorem d_Mo_attempt_272 : decode (a_cc M_Mo_attempt) 272 = .ok (.iload_n 2, 1) := by decide +kernel
theorem d_Mo_attempt_273 : decode (a_cc M_Mo_attempt) 273 = .ok (.iadd, 1) := by decide +kernel
theorem d_Mo_attempt_274 : decode (a_cc M_Mo_attempt) 274 = .ok (.aaload, 1) := by decide +kernel
theorem d_Mo_attempt_275 : decode (a_cc M_Mo_attempt) 275 = .ok (.iload_n 3, 1) := by decide +kernel
theorem d_Mo_attempt_276 : decode (a_cc M_Mo_attempt) 276 = .ok (.aload_n 0, 1) := by decide +kernel
theorem d_Mo_attempt_277 : decode (a_cc M_Mo_attempt) 277 = .ok (.aload_n 0, 1) := by decide +kernel
theorem d_Mo_attempt_278 : decode (a_cc M_Mo_attempt) 278 = .ok (.getfield 76, 3) := by decide +kernel
theorem d_Mo_attempt_281 : decode (a_cc M_Mo_attempt) 281 = .ok (.bipush 30, 2) := by decide +kernel
theorem d_Mo_attempt_283 : decode (a_cc M_Mo_attempt) 283 = .ok (.iload_n 2, 1) := by decide +kernel
theorem d_Mo_attempt_284 : decode (a_cc M_Mo_attempt) 284 = .ok (.iadd, 1) := by decide +kernel
theorem d_Mo_attempt_285 : decode (a_cc M_Mo_attempt) 285 = .ok (.aaload, 1) := by decide +kernel
theorem d_Mo_attempt_286 : decode (a_cc M_Mo_attempt) 286 = .ok (.iload_n 3, 1) := by decide +kernel
theorem d_Mo_attempt_287 : decode (a_cc M_Mo_attempt) 287 = .ok (.iaload, 1) := by decide +kernel
theorem d_Mo_attempt_288 : decode (a_cc M_Mo_attempt) 288 = .ok (.invokevirtual 343, 3) := by decide +kernel
theorem d_Mo_attempt_291 : decode (a_cc M_Mo_attempt) 291 = .ok (.iastore, 1) := by decide +kernel
theorem d_Mo_attempt_292 : decode (a_cc M_Mo_attempt) 292 = .ok (.iinc 3 1, 3) := by decide +kernel
theorem d_Mo_attempt_295 : decode (a_cc M_Mo_attempt) 295 = .ok (.goto (-36), 3) := by decide +kernel
theorem d_Mo_attempt_298 : decode (a_cc M_Mo_attempt) 298 = .ok (.iinc 2 1, 3) := by decide +kernel
theorem d_Mo_attempt_301 : decode (a_cc M_Mo_attempt) 301 = .ok (.goto (-202), 3) := by decide +kernel
theorem d_Mo_attempt_304 : decode (a_cc M_Mo_attempt) 304 = .ok (.aload_n 0, 1) := by decide +kernel
theorem d_Mo_attempt_305 : decode (a_cc M_Mo_attempt) 305 = .ok (.bipush 38, 2) := by decide +kernel
theorem d_Mo_attempt_307 : decode (a_cc M_Mo_attempt) 307 = .ok (.aload_n 0, 1) := by decide +kernel
theorem d_Mo_attempt_308 : decode (a_cc M_Mo_attempt) 308 = .ok (.getfield 99, 3) := by decide +kernel
theorem d_Mo_attempt_311 : decode (a_cc M_Mo_attempt) 311 = .ok (.invokevirtual 346, 3) := by decide +kernel
theorem d_Mo_attempt_314 : decode (a_cc M_Mo_attempt) 314 = .ok (.aload_n 0, 1) := by decide +kernel
theorem d_Mo_attempt_315 : decode (a_cc M_Mo_attempt) 315 = .ok (.aload_n 0, 1) := by decide +kernel
theorem d_Mo_attempt_316 : decode (a_cc M_Mo_attempt) 316 = .ok (.getfield 76, 3) := by decide +kernel
theorem d_Mo_attempt_319 : decode (a_cc M_Mo_attempt) 319 = .ok (.bipush 46, 2) := by decide +kernel
theorem d_Mo_attempt_321 : decode (a_cc M_Mo_attempt) 321 = .ok (.aaload, 1) := by decide +kernel
theorem d_Mo_attempt_322 : decode (a_cc M_Mo_attempt) 322 = .ok (.aload_n 0, 1) := by decide +kernel
theorem d_Mo_attempt_323 : decode (a_cc M_Mo_attempt) 323 = .ok (.getfield 99, 3) := by decide +kernel
theorem d_Mo_attempt_326 : decode (a_cc M_Mo_attempt) 326 = .ok (.iconst 0, 1) := by decide +kernel
theorem d_Mo_attempt_327 : decode (a_cc M_Mo_attempt) 327 = .ok (.invokevirtual 350, 3) := by decide +kernel
theorem d_Mo_attempt_330 : decode (a_cc M_Mo_attempt) 330 = .ok (.ifCond .ne 5, 3) := by decide +kernel
theorem d_Mo_attempt_333 : decode (a_cc M_Mo_attempt) 333 = .ok (.iconst (-1), 1) := by decide +kernel
theorem d_Mo_attempt_334 : decode (a_cc M_Mo_attempt) 334 = .ok (.ireturn, 1) := by decide +kernel
theorem d_Mo_attempt_335 : decode (a_cc M_Mo_attempt) 335 = .ok (.aload_n 0, 1) := by decide +kernel
theorem d_Mo_attempt_336 : decode (a_cc M_Mo_attempt) 336 = .ok (.getfield 232, 3) := by decide +kernel
theorem d_Mo_attempt_339 : decode (a_cc M_Mo_attempt) 339 = .ok (.aload_n 0, 1) := by decide +kernel
theorem d_Mo_attempt_340 : decode (a_cc M_Mo_attempt) 340 = .ok (.getfield 229, 3) := by decide +kernel
theorem d_Mo_attempt_343 : decode (a_cc M_Mo_attempt) 343 = .ok (.imul, 1) := by decide +kernel
theorem d_Mo_attempt_344 : decode (a_cc M_Mo_attempt) 344 = .ok (.istore_n 2, 1) := by decide +kernel
theorem d_Mo_attempt_345 : decode (a_cc M_Mo_attempt) 345 = .ok (.iconst 0, 1) := by decide +kernel
theorem d_Mo_attempt_346 : decode (a_cc M_Mo_attempt) 346 = .ok (.istore_n 3, 1) := by decide +kernel
theorem d_Mo_attempt_347 : decode (a_cc M_Mo_attempt) 347 = .ok (.iload_n 3, 1) := by decide +kernel
theorem d_Mo_attempt_348 : decode (a_cc M_Mo_attempt) 348 = .ok (.aload_n 0, 1) := by decide +kernel
theorem d_Mo_attempt_349 : decode (a_cc M_Mo_attempt) 349 = .ok (.getfield 226, 3) := by decide +kernel
theorem d_Mo_attempt_352 : decode (a_cc M_Mo_attempt) 352 = .ok (.if_icmp .ge 119, 3) := by decide +kernel
theorem d_Mo_attempt_355 : decode (a_cc M_Mo_attempt) 355 = .ok (.aload_n 0, 1) := by decide +kernel
theorem d_Mo_attempt_356 : decode (a_cc M_Mo_attempt) 356 = .ok (.aload_n 0, 1) := by decide +kernel
theorem d_Mo_attempt_357 : decode (a_cc M_Mo_attempt) 357 = .ok (.getfield 76, 3) := by decide +kernel
theorem d_Mo_attempt_360 : decode (a_cc M_Mo_attempt) 360 = .ok (.bipush 47, 2) := by decide +kernel
theorem d_Mo_attempt_362 : decode (a_cc M_Mo_attempt) 362 = .ok (.aaload, 1) := by decide +kernel
theorem d_Mo_attempt_363 : decode (a_cc M_Mo_attempt) 363 = .ok (.aload_n 0, 1) := by decide +kernel
theorem d_Mo_attempt_364 : decode (a_cc M_Mo_attempt) 364 = .ok (.getfield 76, 3) := by decide +kernel
theorem d_Mo_attempt_367 : decode (a_cc M_Mo_attempt) 367 = .ok (.bipush 46, 2) := by decide +kernel
theorem d_Mo_attempt_369 : decode (a_cc M_Mo_attempt) 369 = .ok (.aaload, 1) := by decide +kernel
theorem d_Mo_attempt_370 : decode (a_cc M_Mo_attempt) 370 = .ok (.aload_n 0, 1) := by decide +kernel
theorem d_Mo_attempt_371 : decode (a_cc M_Mo_attempt) 371 = .ok (.getfield 76, 3) := by decide +kernel
theorem d_Mo_attempt_374 : decode (a_cc M_Mo_attempt) 374 = .ok (.iload_n 3, 1) := by decide +kernel
theorem d_Mo_attempt_375 : decode (a_cc M_Mo_attempt) 375 = .ok (.aaload, 1) := by decide +kernel
theorem d_Mo_attempt_376 : decode (a_cc M_Mo_attempt) 376 = .ok (.invokevirtual 354, 3) := by decide +kernel
theorem d_Mo_attempt_379 : decode (a_cc M_Mo_attempt) 379 = .ok (.iconst 0, 1) := by decide +kernel
theorem d_Mo_attempt_380 : decode (a_cc M_Mo_attempt) 380 = .ok (.istore 4, 2) := by decide +kernel
theorem d_Mo_attempt_382 : decode (a_cc M_Mo_attempt) 382 = .ok (.iload 4, 2) := by decide +kernel
theorem d_Mo_attempt_384 : decode (a_cc M_Mo_attempt) 384 = .ok (.sipush 256, 3) := by decide +kernel
theorem d_Mo_attempt_387 : decode (a_cc M_Mo_attempt) 387 = .ok (.if_icmp .ge 78, 3) := by decide +kernel
theorem d_Mo_attempt_390 : decode (a_cc M_Mo_attempt) 390 = .ok (.aload_n 0, 1) := by decide +kernel
theorem d_Mo_attempt_391 : decode (a_cc M_Mo_attempt) 391 = .ok (.getfield 76, 3) := by decide +kernel
theorem d_Mo_attempt_394 : decode (a_cc M_Mo_attempt) 394 = .ok (.bipush 23, 2) := by decide +kernel
theorem d_Mo_attempt_396 : decode (a_cc M_Mo_attempt) 396 = .ok (.iload_n 3, 1) := by decide +kernel
theorem d_Mo_attempt_397 : decode (a_cc M_Mo_attempt) 397 = .ok (.iadd, 1) := by decide +kernel
theorem d_Mo_attempt_398 : decode (a_cc M_Mo_attempt) 398 = .ok (.aaload, 1) := by decide +kernel
theorem d_Mo_attempt_399 : decode (a_cc M_Mo_attempt) 399 = .ok (.iload 4, 2) := by decide +kernel
theorem d_Mo_attempt_401 : decode (a_cc M_Mo_attempt) 401 = .ok (.dup2, 1) := by decide +kernel
theorem d_Mo_attempt_402 : decode (a_cc M_Mo_attempt) 402 = .ok (.iaload, 1) := by decide +kernel
theorem d_Mo_attempt_403 : decode (a_cc M_Mo_attempt) 403 = .ok (.aload_n 0, 1) := by decide +kernel
theorem d_Mo_attempt_404 : decode (a_cc M_Mo_attempt) 404 = .ok (.getfield 76, 3) := by decide +kernel
theorem d_Mo_attempt_407 : decode (a_cc M_Mo_attempt) 407 = .ok (.bipush 47, 2) := by decide +kernel
theorem d_Mo_attempt_409 : decode (a_cc M_Mo_attempt) 409 = .ok (.aaload, 1) := by decide +kernel
theorem d_Mo_attempt_410 : decode (a_cc M_Mo_attempt) 410 = .ok (.iload 4, 2) := by decide +kernel
theorem d_Mo_attempt_412 : decode (a_cc M_Mo_attempt) 412 = .ok (.iaload, 1) := by decide +kernel
theorem d_Mo_attempt_413 : decode (a_cc M_Mo_attempt) 413 = .ok (.iadd, 1) := by decide +kernel
theorem d_Mo_attempt_414 : decode (a_cc M_Mo_attempt) 414 = .ok (.iastore, 1) := by decide +kernel
theorem d_Mo_attempt_415 : decode (a_cc M_Mo_attempt) 415 = .ok (.aload_n 0, 1) := by decide +kernel
theorem d_Mo_attempt_416 : decode (a_cc M_Mo_attempt) 416 = .ok (.getfield 76, 3) := by decide +kernel
theorem d_Mo_attempt_419 : decode (a_cc M_Mo_attempt) 419 = .ok (.bipush 23, 2) := by decide +kernel
theorem d_Mo_attempt_421 : decode (a_cc M_Mo_attempt) 421 = .ok (.iload_n 3, 1) := by decide +kernel
theorem d_Mo_attempt_422 : decode (a_cc M_Mo_attempt) 422 = .ok (.iadd, 1) := by decide +kernel
theorem d_Mo_attempt_423 : decode (a_cc M_Mo_attempt) 423 = .ok (.aaload, 1) := by decide +kernel
theorem d_Mo_attempt_424 : decode (a_cc M_Mo_attempt) 424 = .ok (.iload 4, 2) := by decide +kernel
theorem d_Mo_attempt_426 : decode (a_cc M_Mo_attempt) 426 = .ok (.iaload, 1) := by decide +kernel
theorem d_Mo_attempt_427 : decode (a_cc M_Mo_attempt) 427 = .ok (.aload_n 0, 1) := by decide +kernel
theorem d_Mo_attempt_428 : decode (a_cc M_Mo_attempt) 428 = .ok (.getfield 237, 3) := by decide +kernel
theorem d_Mo_attempt_431 : decode (a_cc M_Mo_attempt) 431 = .ok (.iload_n 2, 1) := by decide +kernel
theorem d_Mo_attempt_432 : decode (a_cc M_Mo_attempt) 432 = .ok (.isub, 1) := by decide +kernel
theorem d_Mo_attempt_433 : decode (a_cc M_Mo_attempt) 433 = .ok (.if_icmp .ge 24, 3) := by decide +kernel
theorem d_Mo_attempt_436 : decode (a_cc M_Mo_attempt) 436 = .ok (.aload_n 0, 1) := by decide +kernel
theorem d_Mo_attempt_437 : decode (a_cc M_Mo_attempt) 437 = .ok (.getfield 76, 3) := by decide +kernel
theorem d_Mo_attempt_440 : decode (a_cc M_Mo_attempt) 440 = .ok (.bipush 23, 2) := by decide +kernel
theorem d_Mo_attempt_442 : decode (a_cc M_Mo_attempt) 442 = .ok (.iload_n 3, 1) := by decide +kernel
theorem d_Mo_attempt_443 : decode (a_cc M_Mo_attempt) 443 = .ok (.iadd, 1) := by decide +kernel
theorem d_Mo_attempt_444 : decode (a_cc M_Mo_attempt) 444 = .ok (.aaload, 1) := by decide +kernel
theorem d_Mo_attempt_445 : decode (a_cc M_Mo_attempt) 445 = .ok (.iload 4, 2) := by decide +kernel
theorem d_Mo_attempt_447 : decode (a_cc M_Mo_attempt) 447 = .ok (.iaload, 1) := by decide +kernel
theorem d_Mo_attempt_448 : decode (a_cc M_Mo_attempt) 448 = .ok (.iload_n 2, 1) := by decide +kernel
theorem d_Mo_attempt_449 : decode (a_cc M_Mo_attempt) 449 = .ok (.aload_n 0, 1) := by decide +kernel
theorem d_Mo_attempt_450 : decode (a_cc M_Mo_attempt) 450 = .ok (.getfield 237, 3) := by decide +kernel
theorem d_Mo_attempt_453 : decode (a_cc M_Mo_attempt) 453 = .ok (.isub, 1) := by decide +kernel
theorem d_Mo_attempt_454 : decode (a_cc M_Mo_attempt) 454 = .ok (.if_icmp .gt 5, 3) := by decide +kernel
theorem d_Mo_attempt_457 : decode (a_cc M_Mo_attempt) 457 = .ok (.iconst 0, 1) := by decide +kernel
theorem d_Mo_attempt_458 : decode (a_cc M_Mo_attempt) 458 = .ok (.ireturn, 1) := by decide +kernel
theorem d_Mo_attempt_459 : decode (a_cc M_Mo_attempt) 459 = .ok (.iinc 4 1, 3) := by decide +kernel
theorem d_Mo_attempt_462 : decode (a_cc M_Mo_attempt) 462 = .ok (.goto (-80), 3) := by decide +kernel
theorem d_Mo_attempt_465 : decode (a_cc M_Mo_attempt) 465 = .ok (.iinc 3 1, 3) := by decide +kernel
theorem d_Mo_attempt_468 : decode (a_cc M_Mo_attempt) 468 = .ok (.goto (-121), 3) := by decide +kernel
theorem d_Mo_attempt_471 : decode (a_cc M_Mo_attempt) 471 = .ok (.iconst 0, 1) := by decide +kernel
theorem d_Mo_attempt_472 : decode (a_cc M_Mo_attempt) 472 = .ok (.istore_n 3, 1) := by decide +kernel
theorem d_Mo_attempt_473 : decode (a_cc M_Mo_attempt) 473 = .ok (.iconst 0, 1) := by decide +kernel
theorem d_Mo_attempt_474 : decode (a_cc M_Mo_attempt) 474 = .ok (.istore 4, 2) := by decide +kernel
theorem d_Mo_attempt_476 : decode (a_cc M_Mo_attempt) 476 = .ok (.iconst 0, 1) := by decide +kernel
theorem d_Mo_attempt_477 : decode (a_cc M_Mo_attempt) 477 = .ok (.istore 5, 2) := by decide +kernel
theorem d_Mo_attempt_479 : decode (a_cc M_Mo_attempt) 479 = .ok (.iload 5, 2) := by decide +kernel
theorem d_Mo_attempt_481 : decode (a_cc M_Mo_attempt) 481 = .ok (.aload_n 0, 1) := by decide +kernel
theorem d_Mo_attempt_482 : decode (a_cc M_Mo_attempt) 482 = .ok (.getfield 223, 3) := by decide +kernel
theorem d_Mo_attempt_485 : decode (a_cc M_Mo_attempt) 485 = .ok (.if_icmp .ge 303, 3) := by decide +kernel
theorem d_Mo_attempt_488 : decode (a_cc M_Mo_attempt) 488 = .ok (.aload_n 0, 1) := by decide +kernel
theorem d_Mo_attempt_489 : decode (a_cc M_Mo_attempt) 489 = .ok (.aload_n 0, 1) := by decide +kernel
theorem d_Mo_attempt_490 : decode (a_cc M_Mo_attempt) 490 = .ok (.getfield 76, 3) := by decide +kernel
theorem d_Mo_attempt_493 : decode (a_cc M_Mo_attempt) 493 = .ok (.bipush 47, 2) := by decide +kernel
theorem d_Mo_attempt_495 : decode (a_cc M_Mo_attempt) 495 = .ok (.aaload, 1) := by decide +kernel
theorem d_Mo_attempt_496 : decode (a_cc M_Mo_attempt) 496 = .ok (.aload_n 0, 1) := by decide +kernel
theorem d_Mo_attempt_497 : decode (a_cc M_Mo_attempt) 497 = .ok (.getfield 76, 3) := by decide +kernel
theorem d_Mo_attempt_500 : decode (a_cc M_Mo_attempt) 500 = .ok (.bipush 46, 2) := by decide +kernel
theorem d_Mo_attempt_502 : decode (a_cc M_Mo_attempt) 502 = .ok (.aaload, 1) := by decide +kernel
theorem d_Mo_attempt_503 : decode (a_cc M_Mo_attempt) 503 = .ok (.aload_n 0, 1) := by decide +kernel
theorem d_Mo_attempt_504 : decode (a_cc M_Mo_attempt) 504 = .ok (.getfield 76, 3) := by decide +kernel
theorem d_Mo_attempt_507 : decode (a_cc M_Mo_attempt) 507 = .ok (.aload_n 0, 1) := by decide +kernel
theorem d_Mo_attempt_508 : decode (a_cc M_Mo_attempt) 508 = .ok (.getfield 226, 3) := by decide +kernel
theorem d_Mo_attempt_511 : decode (a_cc M_Mo_attempt) 511 = .ok (.iload 5, 2) := by decide +kernel
theorem d_Mo_attempt_513 : decode (a_cc M_Mo_attempt) 513 = .ok (.iadd, 1) := by decide +kernel
theorem d_Mo_attempt_514 : decode (a_cc M_Mo_attempt) 514 = .ok (.aaload, 1) := by decide +kernel
theorem d_Mo_attempt_515 : decode (a_cc M_Mo_attempt) 515 = .ok (.invokevirtual 354, 3) := by decide +kernel
theorem d_Mo_attempt_518 : decode (a_cc M_Mo_attempt) 518 = .ok (.iconst 0, 1) := by decide +kernel
theorem d_Mo_attempt_519 : decode (a_cc M_Mo_attempt) 519 = .ok (.istore 6, 2) := by decide +kernel
theorem d_Mo_attempt_521 : decode (a_cc M_Mo_attempt) 521 = .ok (.iload 6, 2) := by decide +kernel
theorem d_Mo_attempt_523 : decode (a_cc M_Mo_attempt) 523 = .ok (.sipush 256, 3) := by decide +kernel
theorem d_Mo_attempt_526 : decode (a_cc M_Mo_attempt) 526 = .ok (.if_icmp .ge 98, 3) := by decide +kernel
theorem d_Mo_attempt_529 : decode (a_cc M_Mo_attempt) 529 = .ok (.aload_n 0, 1) := by decide +kernel
theorem d_Mo_attempt_530 : decode (a_cc M_Mo_attempt) 530 = .ok (.getfield 76, 3) := by decide +kernel
theorem d_Mo_attempt_533 : decode (a_cc M_Mo_attempt) 533 = .ok (.bipush 30, 2) := by decide +kernel
theorem d_Mo_attempt_535 : decode (a_cc M_Mo_attempt) 535 = .ok (.iload 5, 2) := by decide +kernel
theorem d_Mo_attempt_537 : decode (a_cc M_Mo_attempt) 537 = .ok (.iadd, 1) := by decide +kernel
theorem d_Mo_attempt_538 : decode (a_cc M_Mo_attempt) 538 = .ok (.aaload, 1) := by decide +kernel
theorem d_Mo_attempt_539 : decode (a_cc M_Mo_attempt) 539 = .ok (.iload 6, 2) := by decide +kernel
theorem d_Mo_attempt_541 : decode (a_cc M_Mo_attempt) 541 = .ok (.aload_n 0, 1) := by decide +kernel
theorem d_Mo_attempt_542 : decode (a_cc M_Mo_attempt) 542 = .ok (.getfield 76, 3) := by decide +kernel
theorem d_Mo_attempt_545 : decode (a_cc M_Mo_attempt) 545 = .ok (.bipush 30, 2) := by decide +kernel
theorem d_Mo_attempt_547 : decode (a_cc M_Mo_attempt) 547 = .ok (.iload 5, 2) := by decide +kernel
theorem d_Mo_attempt_549 : decode (a_cc M_Mo_attempt) 549 = .ok (.iadd, 1) := by decide +kernel
theorem d_Mo_attempt_550 : decode (a_cc M_Mo_attempt) 550 = .ok (.aaload, 1) := by decide +kernel
theorem d_Mo_attempt_551 : decode (a_cc M_Mo_attempt) 551 = .ok (.iload 6, 2) := by decide +kernel
theorem d_Mo_attempt_553 : decode (a_cc M_Mo_attempt) 553 = .ok (.iaload, 1) := by decide +kernel
theorem d_Mo_attempt_554 : decode (a_cc M_Mo_attempt) 554 = .ok (.aload_n 0, 1) := by decide +kernel
theorem d_Mo_attempt_555 : decode (a_cc M_Mo_attempt) 555 = .ok (.getfield 76, 3) := by decide +kernel
theorem d_Mo_attempt_558 : decode (a_cc M_Mo_attempt) 558 = .ok (.bipush 47, 2) := by decide +kernel
theorem d_Mo_attempt_560 : decode (a_cc M_Mo_attempt) 560 = .ok (.aaload, 1) := by decide +kernel
theorem d_Mo_attempt_561 : decode (a_cc M_Mo_attempt) 561 = .ok (.iload 6, 2) := by decide +kernel
theorem d_Mo_attempt_563 : decode (a_cc M_Mo_attempt) 563 = .ok (.iaload, 1) := by decide +kernel
theorem d_Mo_attempt_564 : decode (a_cc M_Mo_attempt) 564 = .ok (.isub, 1) := by decide +kernel
theorem d_Mo_attempt_565 : decode (a_cc M_Mo_attempt) 565 = .ok (.ldc_w 264, 3) := by decide +kernel
theorem d_Mo_attempt_568 : decode (a_cc M_Mo_attempt) 568 = .ok (.iadd, 1) := by decide +kernel
theorem d_Mo_attempt_569 : decode (a_cc M_Mo_attempt) 569 = .ok (.ldc_w 264, 3) := by decide +kernel
theorem d_Mo_attempt_572 : decode (a_cc M_Mo_attempt) 572 = .ok (.irem, 1) := by decide +kernel
theorem d_Mo_attempt_573 : decode (a_cc M_Mo_attempt) 573 = .ok (.iastore, 1) := by decide +kernel
theorem d_Mo_attempt_574 : decode (a_cc M_Mo_attempt) 574 = .ok (.aload_n 0, 1) := by decide +kernel
theorem d_Mo_attempt_575 : decode (a_cc M_Mo_attempt) 575 = .ok (.aload_n 0, 1) := by decide +kernel
theorem d_Mo_attempt_576 : decode (a_cc M_Mo_attempt) 576 = .ok (.getfield 76, 3) := by decide +kernel
theorem d_Mo_attempt_579 : decode (a_cc M_Mo_attempt) 579 = .ok (.bipush 30, 2) := by decide +kernel
theorem d_Mo_attempt_581 : decode (a_cc M_Mo_attempt) 581 = .ok (.iload 5, 2) := by decide +kernel
theorem d_Mo_attempt_583 : decode (a_cc M_Mo_attempt) 583 = .ok (.iadd, 1) := by decide +kernel
theorem d_Mo_attempt_584 : decode (a_cc M_Mo_attempt) 584 = .ok (.aaload, 1) := by decide +kernel
theorem d_Mo_attempt_585 : decode (a_cc M_Mo_attempt) 585 = .ok (.iload 6, 2) := by decide +kernel
theorem d_Mo_attempt_587 : decode (a_cc M_Mo_attempt) 587 = .ok (.iaload, 1) := by decide +kernel
theorem d_Mo_attempt_588 : decode (a_cc M_Mo_attempt) 588 = .ok (.invokevirtual 357, 3) := by decide +kernel
theorem d_Mo_attempt_591 : decode (a_cc M_Mo_attempt) 591 = .ok (.istore 7, 2) := by decide +kernel
theorem d_Mo_attempt_593 : decode (a_cc M_Mo_attempt) 593 = .ok (.iload 7, 2) := by decide +kernel
theorem d_Mo_attempt_595 : decode (a_cc M_Mo_attempt) 595 = .ok (.aload_n 0, 1) := by decide +kernel
theorem d_Mo_attempt_596 : decode (a_cc M_Mo_attempt) 596 = .ok (.getfield 242, 3) := by decide +kernel
theorem d_Mo_attempt_599 : decode (a_cc M_Mo_attempt) 599 = .ok (.iload_n 2, 1) := by decide +kernel
theorem d_Mo_attempt_600 : decode (a_cc M_Mo_attempt) 600 = .ok (.isub, 1) := by decide +kernel
theorem d_Mo_attempt_601 : decode (a_cc M_Mo_attempt) 601 = .ok (.if_icmp .ge 14, 3) := by decide +kernel
theorem d_Mo_attempt_604 : decode (a_cc M_Mo_attempt) 604 = .ok (.iload 7, 2) := by decide +kernel
theorem d_Mo_attempt_606 : decode (a_cc M_Mo_attempt) 606 = .ok (.iload_n 2, 1) := by decide +kernel
theorem d_Mo_attempt_607 : decode (a_cc M_Mo_attempt) 607 = .ok (.aload_n 0, 1) := by decide +kernel
theorem d_Mo_attempt_608 : decode (a_cc M_Mo_attempt) 608 = .ok (.getfield 242, 3) := by decide +kernel
theorem d_Mo_attempt_611 : decode (a_cc M_Mo_attempt) 611 = .ok (.isub, 1) := by decide +kernel
theorem d_Mo_attempt_612 : decode (a_cc M_Mo_attempt) 612 = .ok (.if_icmp .gt 6, 3) := by decide +kernel
theorem d_Mo_attempt_615 : decode (a_cc M_Mo_attempt) 615 = .ok (.iconst 1, 1) := by decide +kernel
theorem d_Mo_attempt_616 : decode (a_cc M_Mo_attempt) 616 = .ok (.istore 4, 2) := by decide +kernel
theorem d_Mo_attempt_618 : decode (a_cc M_Mo_attempt) 618 = .ok (.iinc 6 1, 3) := by decide +kernel
theorem d_Mo_attempt_621 : decode (a_cc M_Mo_attempt) 621 = .ok (.goto (-100), 3) := by decide +kernel
theorem d_Mo_attempt_624 : decode (a_cc M_Mo_attempt) 624 = .ok (.aload_n 0, 1) := by decide +kernel
theorem d_Mo_attempt_625 : decode (a_cc M_Mo_attempt) 625 = .ok (.aload_n 0, 1) := by decide +kernel
theorem d_Mo_attempt_626 : decode (a_cc M_Mo_attempt) 626 = .ok (.getfield 76, 3) := by decide +kernel
theorem d_Mo_attempt_629 : decode (a_cc M_Mo_attempt) 629 = .ok (.bipush 47, 2) := by decide +kernel
theorem d_Mo_attempt_631 : decode (a_cc M_Mo_attempt) 631 = .ok (.aaload, 1) := by decide +kernel
theorem d_Mo_attempt_632 : decode (a_cc M_Mo_attempt) 632 = .ok (.aload_n 0, 1) := by decide +kernel
theorem d_Mo_attempt_633 : decode (a_cc M_Mo_attempt) 633 = .ok (.getfield 76, 3) := by decide +kernel
theorem d_Mo_attempt_636 : decode (a_cc M_Mo_attempt) 636 = .ok (.bipush 46, 2) := by decide +kernel
theorem d_Mo_attempt_638 : decode (a_cc M_Mo_attempt) 638 = .ok (.aaload, 1) := by decide +kernel
theorem d_Mo_attempt_639 : decode (a_cc M_Mo_attempt) 639 = .ok (.aload_n 0, 1) := by decide +kernel
theorem d_Mo_attempt_640 : decode (a_cc M_Mo_attempt) 640 = .ok (.getfield 76, 3) := by decide +kernel
theorem d_Mo_attempt_643 : decode (a_cc M_Mo_attempt) 643 = .ok (.bipush 15, 2) := by decide +kernel
theorem d_Mo_attempt_645 : decode (a_cc M_Mo_attempt) 645 = .ok (.iload 5, 2) := by decide +kernel
theorem d_Mo_attempt_647 : decode (a_cc M_Mo_attempt) 647 = .ok (.iadd, 1) := by decide +kernel
theorem d_Mo_attempt_648 : decode (a_cc M_Mo_attempt) 648 = .ok (.aaload, 1) := by decide +kernel
theorem d_Mo_attempt_649 : decode (a_cc M_Mo_attempt) 649 = .ok (.invokevirtual 354, 3) := by decide +kernel
theorem d_Mo_attempt_652 : decode (a_cc M_Mo_attempt) 652 = .ok (.iconst 0, 1) := by decide +kernel
theorem d_Mo_attempt_653 : decode (a_cc M_Mo_attempt) 653 = .ok (.istore 6, 2) := by decide +kernel
theorem d_Mo_attempt_655 : decode (a_cc M_Mo_attempt) 655 = .ok (.iload 6, 2) := by decide +kernel
theorem d_Mo_attempt_657 : decode (a_cc M_Mo_attempt) 657 = .ok (.sipush 256, 3) := by decide +kernel
theorem d_Mo_attempt_660 : decode (a_cc M_Mo_attempt) 660 = .ok (.if_icmp .ge 122, 3) := by decide +kernel
theorem d_Mo_attempt_663 : decode (a_cc M_Mo_attempt) 663 = .ok (.aload_n 0, 1) := by decide +kernel
theorem d_Mo_attempt_664 : decode (a_cc M_Mo_attempt) 664 = .ok (.getfield 76, 3) := by decide +kernel
theorem d_Mo_attempt_667 : decode (a_cc M_Mo_attempt) 667 = .ok (.bipush 47, 2) := by decide +kernel
theorem d_Mo_attempt_669 : decode (a_cc M_Mo_attempt) 669 = .ok (.aaload, 1) := by decide +kernel
theorem d_Mo_attempt_670 : decode (a_cc M_Mo_attempt) 670 = .ok (.iload 6, 2) := by decide +kernel
theorem d_Mo_attempt_672 : decode (a_cc M_Mo_attempt) 672 = .ok (.iaload, 1) := by decide +kernel
theorem d_Mo_attempt_673 : decode (a_cc M_Mo_attempt) 673 = .ok (.istore 7, 2) := by decide +kernel
theorem d_Mo_attempt_675 : decode (a_cc M_Mo_attempt) 675 = .ok (.iload 7, 2) := by decide +kernel
theorem d_Mo_attempt_677 : decode (a_cc M_Mo_attempt) 677 = .ok (.aload_n 0, 1) := by decide +kernel
theorem d_Mo_attempt_678 : decode (a_cc M_Mo_attempt) 678 = .ok (.getfield 242, 3) := by decide +kernel
theorem d_Mo_attempt_681 : decode (a_cc M_Mo_attempt) 681 = .ok (.if_icmp .ge 13, 3) := by decide +kernel
theorem d_Mo_attempt_684 : decode (a_cc M_Mo_attempt) 684 = .ok (.iload 7, 2) := by decide +kernel
theorem d_Mo_attempt_686 : decode (a_cc M_Mo_attempt) 686 = .ok (.aload_n 0, 1) := by decide +kernel
theorem d_Mo_attempt_687 : decode (a_cc M_Mo_attempt) 687 = .ok (.getfield 242, 3) := by decide +kernel
theorem d_Mo_attempt_690 : decode (a_cc M_Mo_attempt) 690 = .ok (.ineg, 1) := by decide +kernel
theorem d_Mo_attempt_691 : decode (a_cc M_Mo_attempt) 691 = .ok (.if_icmp .gt 6, 3) := by decide +kernel
theorem d_Mo_attempt_694 : decode (a_cc M_Mo_attempt) 694 = .ok (.iconst 1, 1) := by decide +kernel
theorem d_Mo_attempt_695 : decode (a_cc M_Mo_attempt) 695 = .ok (.istore 4, 2) := by decide +kernel
theorem d_Mo_attempt_697 : decode (a_cc M_Mo_attempt) 697 = .ok (.aload_n 0, 1) := by decide +kernel
theorem d_Mo_attempt_698 : decode (a_cc M_Mo_attempt) 698 = .ok (.getfield 81, 3) := by decide +kernel
theorem d_Mo_attempt_701 : decode (a_cc M_Mo_attempt) 701 = .ok (.iload 5, 2) := by decide +kernel
theorem d_Mo_attempt_703 : decode (a_cc M_Mo_attempt) 703 = .ok (.aaload, 1) := by decide +kernel
theorem d_Mo_attempt_704 : decode (a_cc M_Mo_attempt) 704 = .ok (.iload 6, 2) := by decide +kernel
theorem d_Mo_attempt_706 : decode (a_cc M_Mo_attempt) 706 = .ok (.aload_n 0, 1) := by decide +kernel
theorem d_Mo_attempt_707 : decode (a_cc M_Mo_attempt) 707 = .ok (.aload_n 0, 1) := by decide +kernel
theorem d_Mo_attempt_708 : decode (a_cc M_Mo_attempt) 708 = .ok (.getfield 76, 3) := by decide +kernel
theorem d_Mo_attempt_711 : decode (a_cc M_Mo_attempt) 711 = .ok (.bipush 30, 2) := by decide +kernel
theorem d_Mo_attempt_713 : decode (a_cc M_Mo_attempt) 713 = .ok (.iload 5, 2) := by decide +kernel
theorem d_Mo_attempt_715 : decode (a_cc M_Mo_attempt) 715 = .ok (.iadd, 1) := by decide +kernel
theorem d_Mo_attempt_716 : decode (a_cc M_Mo_attempt) 716 = .ok (.aaload, 1) := by decide +kernel
theorem d_Mo_attempt_717 : decode (a_cc M_Mo_attempt) 717 = .ok (.iload 6, 2) := by decide +kernel
theorem d_Mo_attempt_719 : decode (a_cc M_Mo_attempt) 719 = .ok (.iaload, 1) := by decide +kernel
theorem d_Mo_attempt_720 : decode (a_cc M_Mo_attempt) 720 = .ok (.iload 7, 2) := by decide +kernel
theorem d_Mo_attempt_722 : decode (a_cc M_Mo_attempt) 722 = .ok (.iadd, 1) := by decide +kernel
theorem d_Mo_attempt_723 : decode (a_cc M_Mo_attempt) 723 = .ok (.ldc_w 264, 3) := by decide +kernel
theorem d_Mo_attempt_726 : decode (a_cc M_Mo_attempt) 726 = .ok (.iadd, 1) := by decide +kernel
theorem d_Mo_attempt_727 : decode (a_cc M_Mo_attempt) 727 = .ok (.ldc_w 264, 3) := by decide +kernel
theorem d_Mo_attempt_730 : decode (a_cc M_Mo_attempt) 730 = .ok (.irem, 1) := by decide +kernel
theorem d_Mo_attempt_731 : decode (a_cc M_Mo_attempt) 731 = .ok (.invokevirtual 343, 3) := by decide +kernel
theorem d_Mo_attempt_734 : decode (a_cc M_Mo_attempt) 734 = .ok (.aload_n 0, 1) := by decide +kernel
theorem d_Mo_attempt_735 : decode (a_cc M_Mo_attempt) 735 = .ok (.aload_n 0, 1) := by decide +kernel
theorem d_Mo_attempt_736 : decode (a_cc M_Mo_attempt) 736 = .ok (.getfield 76, 3) := by decide +kernel
theorem d_Mo_attempt_739 : decode (a_cc M_Mo_attempt) 739 = .ok (.bipush 30, 2) := by decide +kernel
theorem d_Mo_attempt_741 : decode (a_cc M_Mo_attempt) 741 = .ok (.iload 5, 2) := by decide +kernel
theorem d_Mo_attempt_743 : decode (a_cc M_Mo_attempt) 743 = .ok (.iadd, 1) := by decide +kernel
theorem d_Mo_attempt_744 : decode (a_cc M_Mo_attempt) 744 = .ok (.aaload, 1) := by decide +kernel
theorem d_Mo_attempt_745 : decode (a_cc M_Mo_attempt) 745 = .ok (.iload 6, 2) := by decide +kernel
theorem d_Mo_attempt_747 : decode (a_cc M_Mo_attempt) 747 = .ok (.iaload, 1) := by decide +kernel
theorem d_Mo_attempt_748 : decode (a_cc M_Mo_attempt) 748 = .ok (.invokevirtual 343, 3) := by decide +kernel
theorem d_Mo_attempt_751 : decode (a_cc M_Mo_attempt) 751 = .ok (.if_icmp .eq 7, 3) := by decide +kernel
theorem d_Mo_attempt_754 : decode (a_cc M_Mo_attempt) 754 = .ok (.iconst 1, 1) := by decide +kernel
theorem d_Mo_attempt_755 : decode (a_cc M_Mo_attempt) 755 = .ok (.goto 4, 3) := by decide +kernel
theorem d_Mo_attempt_758 : decode (a_cc M_Mo_attempt) 758 = .ok (.iconst 0, 1) := by decide +kernel
theorem d_Mo_attempt_759 : decode (a_cc M_Mo_attempt) 759 = .ok (.bastore, 1) := by decide +kernel
theorem d_Mo_attempt_760 : decode (a_cc M_Mo_attempt) 760 = .ok (.aload_n 0, 1) := by decide +kernel
theorem d_Mo_attempt_761 : decode (a_cc M_Mo_attempt) 761 = .ok (.getfield 81, 3) := by decide +kernel
theorem d_Mo_attempt_764 : decode (a_cc M_Mo_attempt) 764 = .ok (.iload 5, 2) := by decide +kernel
theorem d_Mo_attempt_766 : decode (a_cc M_Mo_attempt) 766 = .ok (.aaload, 1) := by decide +kernel
theorem d_Mo_attempt_767 : decode (a_cc M_Mo_attempt) 767 = .ok (.iload 6, 2) := by decide +kernel
theorem d_Mo_attempt_769 : decode (a_cc M_Mo_attempt) 769 = .ok (.baload, 1) := by decide +kernel
theorem d_Mo_attempt_770 : decode (a_cc M_Mo_attempt) 770 = .ok (.ifCond .eq 6, 3) := by decide +kernel
theorem d_Mo_attempt_773 : decode (a_cc M_Mo_attempt) 773 = .ok (.iinc 3 1, 3) := by decide +kernel
theorem d_Mo_attempt_776 : decode (a_cc M_Mo_attempt) 776 = .ok (.iinc 6 1, 3) := by decide +kernel
theorem d_Mo_attempt_779 : decode (a_cc M_Mo_attempt) 779 = .ok (.goto (-124), 3) := by decide +kernel
theorem d_Mo_attempt_782 : decode (a_cc M_Mo_attempt) 782 = .ok (.iinc 5 1, 3) := by decide +kernel
theorem d_Mo_attempt_785 : decode (a_cc M_Mo_attempt) 785 = .ok (.goto (-306), 3) := by decide +kernel
theorem d_Mo_attempt_788 : decode (a_cc M_Mo_attempt) 788 = .ok (.iload 4, 2) := by decide +kernel
theorem d_Mo_attempt_790 : decode (a_cc M_Mo_attempt) 790 = .ok (.ifCond .ne 11, 3) := by decide +kernel
theorem d_Mo_attempt_793 : decode (a_cc M_Mo_attempt) 793 = .ok (.iload_n 3, 1) := by decide +kernel
theorem d_Mo_attempt_794 : decode (a_cc M_Mo_attempt) 794 = .ok (.aload_n 0, 1) := by decide +kernel
theorem d_Mo_attempt_795 : decode (a_cc M_Mo_attempt) 795 = .ok (.getfield 245, 3) := by decide +kernel
theorem d_Mo_attempt_798 : decode (a_cc M_Mo_attempt) 798 = .ok (.if_icmp .le 5, 3) := by decide +kernel
theorem d_Mo_attempt_801 : decode (a_cc M_Mo_attempt) 801 = .ok (.iconst 0, 1) := by decide +kernel
theorem d_Mo_attempt_802 : decode (a_cc M_Mo_attempt) 802 = .ok (.ireturn, 1) := by decide +kernel
theorem d_Mo_attempt_803 : decode (a_cc M_Mo_attempt) 803 = .ok (.aload_n 0, 1) := by decide +kernel
theorem d_Mo_attempt_804 : decode (a_cc M_Mo_attempt) 804 = .ok (.getfield 99, 3) := by decide +kernel
theorem d_Mo_attempt_807 : decode (a_cc M_Mo_attempt) 807 = .ok (.iconst 0, 1) := by decide +kernel
theorem d_Mo_attempt_808 : decode (a_cc M_Mo_attempt) 808 = .ok (.aload_n 0, 1) := by decide +kernel
theorem d_Mo_attempt_809 : decode (a_cc M_Mo_attempt) 809 = .ok (.getfield 87, 3) := by decide +kernel
theorem d_Mo_attempt_812 : decode (a_cc M_Mo_attempt) 812 = .ok (.iconst 0, 1) := by decide +kernel
theorem d_Mo_attempt_813 : decode (a_cc M_Mo_attempt) 813 = .ok (.aload_n 0, 1) := by decide +kernel
theorem d_Mo_attempt_814 : decode (a_cc M_Mo_attempt) 814 = .ok (.getfield 248, 3) := by decide +kernel
theorem d_Mo_attempt_817 : decode (a_cc M_Mo_attempt) 817 = .ok (.invokestatic 318, 3) := by decide +kernel
theorem d_Mo_attempt_820 : decode (a_cc M_Mo_attempt) 820 = .ok (.aload_n 0, 1) := by decide +kernel
theorem d_Mo_attempt_821 : decode (a_cc M_Mo_attempt) 821 = .ok (.iconst 0, 1) := by decide +kernel
theorem d_Mo_attempt_822 : decode (a_cc M_Mo_attempt) 822 = .ok (.putfield 216, 3) := by decide +kernel
theorem d_Mo_attempt_825 : decode (a_cc M_Mo_attempt) 825 = .ok (.iconst 0, 1) := by decide +kernel
theorem d_Mo_attempt_826 : decode (a_cc M_Mo_attempt) 826 = .ok (.istore 5, 2) := by decide +kernel
theorem d_Mo_attempt_828 : decode (a_cc M_Mo_attempt) 828 = .ok (.iload 5, 2) := by decide +kernel
theorem d_Mo_attempt_830 : decode (a_cc M_Mo_attempt) 830 = .ok (.aload_n 0, 1) := by decide +kernel
theorem d_Mo_attempt_831 : decode (a_cc M_Mo_attempt) 831 = .ok (.getfield 226, 3) := by decide +kernel
theorem d_Mo_attempt_834 : decode (a_cc M_Mo_attempt) 834 = .ok (.if_icmp .ge 39, 3) := by decide +kernel
theorem d_Mo_attempt_837 : decode (a_cc M_Mo_attempt) 837 = .ok (.aload_n 0, 1) := by decide +kernel
theorem d_Mo_attempt_838 : decode (a_cc M_Mo_attempt) 838 = .ok (.aload_n 0, 1) := by decide +kernel
theorem d_Mo_attempt_839 : decode (a_cc M_Mo_attempt) 839 = .ok (.getfield 87, 3) := by decide +kernel
theorem d_Mo_attempt_842 : decode (a_cc M_Mo_attempt) 842 = .ok (.aload_n 0, 1) := by decide +kernel
theorem d_Mo_attempt_843 : decode (a_cc M_Mo_attempt) 843 = .ok (.getfield 248, 3) := by decide +kernel
theorem d_Mo_attempt_846 : decode (a_cc M_Mo_attempt) 846 = .ok (.aload_n 0, 1) := by decide +kernel
theorem d_Mo_attempt_847 : decode (a_cc M_Mo_attempt) 847 = .ok (.getfield 76, 3) := by decide +kernel
theorem d_Mo_attempt_850 : decode (a_cc M_Mo_attempt) 850 = .ok (.bipush 23, 2) := by decide +kernel
theorem d_Mo_attempt_852 : decode (a_cc M_Mo_attempt) 852 = .ok (.iload 5, 2) := by decide +kernel
theorem d_Mo_attempt_854 : decode (a_cc M_Mo_attempt) 854 = .ok (.iadd, 1) := by decide +kernel
theorem d_Mo_attempt_855 : decode (a_cc M_Mo_attempt) 855 = .ok (.aaload, 1) := by decide +kernel
theorem d_Mo_attempt_856 : decode (a_cc M_Mo_attempt) 856 = .ok (.aload_n 0, 1) := by decide +kernel
theorem d_Mo_attempt_857 : decode (a_cc M_Mo_attempt) 857 = .ok (.getfield 237, 3) := by decide +kernel
theorem d_Mo_attempt_860 : decode (a_cc M_Mo_attempt) 860 = .ok (.aload_n 0, 1) := by decide +kernel
theorem d_Mo_attempt_861 : decode (a_cc M_Mo_attempt) 861 = .ok (.getfield 251, 3) := by decide +kernel
theorem d_Mo_attempt_864 : decode (a_cc M_Mo_attempt) 864 = .ok (.invokevirtual 297, 3) := by decide +kernel
theorem d_Mo_attempt_867 : decode (a_cc M_Mo_attempt) 867 = .ok (.iinc 5 1, 3) := by decide +kernel
theorem d_Mo_attempt_870 : decode (a_cc M_Mo_attempt) 870 = .ok (.goto (-42), 3) := by decide +kernel
theorem d_Mo_attempt_873 : decode (a_cc M_Mo_attempt) 873 = .ok (.aload_n 0, 1) := by decide +kernel
theorem d_Mo_attempt_874 : decode (a_cc M_Mo_attempt) 874 = .ok (.getfield 248, 3) := by decide +kernel
theorem d_Mo_attempt_877 : decode (a_cc M_Mo_attempt) 877 = .ok (.bipush 32, 2) := by decide +kernel
theorem d_Mo_attempt_879 : decode (a_cc M_Mo_attempt) 879 = .ok (.aload_n 0, 1) := by decide +kernel
theorem d_Mo_attempt_880 : decode (a_cc M_Mo_attempt) 880 = .ok (.getfield 226, 3) := by decide +kernel
theorem d_Mo_attempt_883 : decode (a_cc M_Mo_attempt) 883 = .ok (.imul, 1) := by decide +kernel
theorem d_Mo_attempt_884 : decode (a_cc M_Mo_attempt) 884 = .ok (.aload_n 0, 1) := by decide +kernel
theorem d_Mo_attempt_885 : decode (a_cc M_Mo_attempt) 885 = .ok (.getfield 251, 3) := by decide +kernel
theorem d_Mo_attempt_888 : decode (a_cc M_Mo_attempt) 888 = .ok (.imul, 1) := by decide +kernel
theorem d_Mo_attempt_889 : decode (a_cc M_Mo_attempt) 889 = .ok (.iadd, 1) := by decide +kernel
theorem d_Mo_attempt_890 : decode (a_cc M_Mo_attempt) 890 = .ok (.istore 5, 2) := by decide +kernel
theorem d_Mo_attempt_892 : decode (a_cc M_Mo_attempt) 892 = .ok (.iconst 0, 1) := by decide +kernel
theorem d_Mo_attempt_893 : decode (a_cc M_Mo_attempt) 893 = .ok (.istore 6, 2) := by decide +kernel
theorem d_Mo_attempt_895 : decode (a_cc M_Mo_attempt) 895 = .ok (.iconst 0, 1) := by decide +kernel
theorem d_Mo_attempt_896 : decode (a_cc M_Mo_attempt) 896 = .ok (.istore 7, 2) := by decide +kernel
theorem d_Mo_attempt_898 : decode (a_cc M_Mo_attempt) 898 = .ok (.iload 7, 2) := by decide +kernel
theorem d_Mo_attempt_900 : decode (a_cc M_Mo_attempt) 900 = .ok (.aload_n 0, 1) := by decide +kernel
theorem d_Mo_attempt_901 : decode (a_cc M_Mo_attempt) 901 = .ok (.getfield 245, 3) := by decide +kernel
theorem d_Mo_attempt_904 : decode (a_cc M_Mo_attempt) 904 = .ok (.if_icmp .ge 20, 3) := by decide +kernel
theorem d_Mo_attempt_907 : decode (a_cc M_Mo_attempt) 907 = .ok (.aload_n 0, 1) := by decide +kernel
theorem d_Mo_attempt_908 : decode (a_cc M_Mo_attempt) 908 = .ok (.getfield 87, 3) := by decide +kernel
theorem d_Mo_attempt_911 : decode (a_cc M_Mo_attempt) 911 = .ok (.iload 5, 2) := by decide +kernel
theorem d_Mo_attempt_913 : decode (a_cc M_Mo_attempt) 913 = .ok (.iload 7, 2) := by decide +kernel
theorem d_Mo_attempt_915 : decode (a_cc M_Mo_attempt) 915 = .ok (.iadd, 1) := by decide +kernel
theorem d_Mo_attempt_916 : decode (a_cc M_Mo_attempt) 916 = .ok (.iconst 0, 1) := by decide +kernel
theorem d_Mo_attempt_917 : decode (a_cc M_Mo_attempt) 917 = .ok (.bastore, 1) := by decide +kernel
theorem d_Mo_attempt_918 : decode (a_cc M_Mo_attempt) 918 = .ok (.iinc 7 1, 3) := by decide +kernel
theorem d_Mo_attempt_921 : decode (a_cc M_Mo_attempt) 921 = .ok (.goto (-23), 3) := by decide +kernel
theorem d_Mo_attempt_924 : decode (a_cc M_Mo_attempt) 924 = .ok (.iconst 0, 1) := by decide +kernel
theorem d_Mo_attempt_925 : decode (a_cc M_Mo_attempt) 925 = .ok (.istore 7, 2) := by decide +kernel
theorem d_Mo_attempt_927 : decode (a_cc M_Mo_attempt) 927 = .ok (.iload 7, 2) := by decide +kernel
theorem d_Mo_attempt_929 : decode (a_cc M_Mo_attempt) 929 = .ok (.aload_n 0, 1) := by decide +kernel
theorem d_Mo_attempt_930 : decode (a_cc M_Mo_attempt) 930 = .ok (.getfield 223, 3) := by decide +kernel
theorem d_Mo_attempt_933 : decode (a_cc M_Mo_attempt) 933 = .ok (.if_icmp .ge 73, 3) := by decide +kernel
theorem d_Mo_attempt_936 : decode (a_cc M_Mo_attempt) 936 = .ok (.iconst 0, 1) := by decide +kernel
theorem d_Mo_attempt_937 : decode (a_cc M_Mo_attempt) 937 = .ok (.istore 8, 2) := by decide +kernel
theorem d_Mo_attempt_939 : decode (a_cc M_Mo_attempt) 939 = .ok (.iload 8, 2) := by decide +kernel
theorem d_Mo_attempt_941 : decode (a_cc M_Mo_attempt) 941 = .ok (.sipush 256, 3) := by decide +kernel
theorem d_Mo_attempt_944 : decode (a_cc M_Mo_attempt) 944 = .ok (.if_icmp .ge 38, 3) := by decide +kernel
theorem d_Mo_attempt_947 : decode (a_cc M_Mo_attempt) 947 = .ok (.aload_n 0, 1) := by decide +kernel
theorem d_Mo_attempt_948 : decode (a_cc M_Mo_attempt) 948 = .ok (.getfield 81, 3) := by decide +kernel
theorem d_Mo_attempt_951 : decode (a_cc M_Mo_attempt) 951 = .ok (.iload 7, 2) := by decide +kernel
theorem d_Mo_attempt_953 : decode (a_cc M_Mo_attempt) 953 = .ok (.aaload, 1) := by decide +kernel
theorem d_Mo_attempt_954 : decode (a_cc M_Mo_attempt) 954 = .ok (.iload 8, 2) := by decide +kernel
theorem d_Mo_attempt_956 : decode (a_cc M_Mo_attempt) 956 = .ok (.baload, 1) := by decide +kernel
theorem d_Mo_attempt_957 : decode (a_cc M_Mo_attempt) 957 = .ok (.ifCond .eq 19, 3) := by decide +kernel
theorem d_Mo_attempt_960 : decode (a_cc M_Mo_attempt) 960 = .ok (.aload_n 0, 1) := by decide +kernel
theorem d_Mo_attempt_961 : decode (a_cc M_Mo_attempt) 961 = .ok (.getfield 87, 3) := by decide +kernel
theorem d_Mo_attempt_964 : decode (a_cc M_Mo_attempt) 964 = .ok (.iload 5, 2) := by decide +kernel
theorem d_Mo_attempt_966 : decode (a_cc M_Mo_attempt) 966 = .ok (.iload 6, 2) := by decide +kernel
theorem d_Mo_attempt_968 : decode (a_cc M_Mo_attempt) 968 = .ok (.iadd, 1) := by decide +kernel
theorem d_Mo_attempt_969 : decode (a_cc M_Mo_attempt) 969 = .ok (.iload 8, 2) := by decide +kernel
theorem d_Mo_attempt_971 : decode (a_cc M_Mo_attempt) 971 = .ok (.i2b, 1) := by decide +kernel
theorem d_Mo_attempt_972 : decode (a_cc M_Mo_attempt) 972 = .ok (.bastore, 1) := by decide +kernel
theorem d_Mo_attempt_973 : decode (a_cc M_Mo_attempt) 973 = .ok (.iinc 6 1, 3) := by decide +kernel
theorem d_Mo_attempt_976 : decode (a_cc M_Mo_attempt) 976 = .ok (.iinc 8 1, 3) := by decide +kernel
theorem d_Mo_attempt_979 : decode (a_cc M_Mo_attempt) 979 = .ok (.goto (-40), 3) := by decide +kernel
theorem d_Mo_attempt_982 : decode (a_cc M_Mo_attempt) 982 = .ok (.aload_n 0, 1) := by decide +kernel
theorem d_Mo_attempt_983 : decode (a_cc M_Mo_attempt) 983 = .ok (.getfield 87, 3) := by decide +kernel
theorem d_Mo_attempt_986 : decode (a_cc M_Mo_attempt) 986 = .ok (.iload 5, 2) := by decide +kernel
theorem d_Mo_attempt_988 : decode (a_cc M_Mo_attempt) 988 = .ok (.aload_n 0, 1) := by decide +kernel
theorem d_Mo_attempt_989 : decode (a_cc M_Mo_attempt) 989 = .ok (.getfield 245, 3) := by decide +kernel
theorem d_Mo_attempt_992 : decode (a_cc M_Mo_attempt) 992 = .ok (.iadd, 1) := by decide +kernel
theorem d_Mo_attempt_993 : decode (a_cc M_Mo_attempt) 993 = .ok (.iload 7, 2) := by decide +kernel
theorem d_Mo_attempt_995 : decode (a_cc M_Mo_attempt) 995 = .ok (.iadd, 1) := by decide +kernel
theorem d_Mo_attempt_996 : decode (a_cc M_Mo_attempt) 996 = .ok (.iload 6, 2) := by decide +kernel
theorem d_Mo_attempt_998 : decode (a_cc M_Mo_attempt) 998 = .ok (.i2b, 1) := by decide +kernel
theorem d_Mo_attempt_999 : decode (a_cc M_Mo_attempt) 999 = .ok (.bastore, 1) := by decide +kernel
theorem d_Mo_attempt_1000 : decode (a_cc M_Mo_attempt) 1000 = .ok (.iinc 7 1, 3) := by decide +kernel
theorem d_Mo_attempt_1003 : decode (a_cc M_Mo_attempt) 1003 = .ok (.goto (-76), 3) := by decide +kernel
theorem d_Mo_attempt_1006 : decode (a_cc M_Mo_attempt) 1006 = .ok (.iconst 1, 1) := by decide +kernel
theorem d_Mo_attempt_1007 : decode (a_cc M_Mo_attempt) 1007 = .ok (.ireturn, 1) := by decide +kernel
theorem cs_Mo_attempt_13 : a_CV M_Mo_attempt M_Mo_begin 148 10 2 0 1 := ⟨⟨ok_Mo_begin, by decide, by decide, by decide⟩, by decide, rfl, List.mem_append_right _ (List.mem_of_getElem? (i := 1046) (by decide +kernel)), List.mem_append_right _ (List.mem_of_getElem? (i := 1048) (by decide +kernel)), List.mem_append_left _ (List.mem_of_getElem? (i := 33) (by decide +kernel)), by decide +kernel⟩
theorem cs_Mo_attempt_24 : a_CV M_Mo_attempt M_Mo_put3 268 10 4 0 3 := ⟨⟨ok_Mo_put3, by decide, by decide, by decide⟩, by decide, rfl, List.mem_append_right _ (List.mem_of_getElem? (i := 1293) (by decide +kernel)), List.mem_append_right _ (List.mem_of_getElem? (i := 1295) (by decide +kernel)), List.mem_append_left _ (List.mem_of_getElem? (i := 44) (by decide +kernel)), by decide +kernel⟩
theorem cs_Mo_attempt_31 : a_CV M_Mo_attempt M_Mo_put1 153 10 2 0 1 := ⟨⟨ok_Mo_put1, by decide, by decide, by decide⟩, by decide, rfl, List.mem_append_right _ (List.mem_of_getElem? (i := 1058) (by decide +kernel)), List.mem_append_right _ (List.mem_of_getElem? (i := 1060) (by decide +kernel)), List.mem_append_left _ (List.mem_of_getElem? (i := 34) (by decide +kernel)), by decide +kernel⟩
theorem cs_Mo_attempt_41 : a_CV M_Mo_attempt M_Mo_put1 153 10 2 0 1 := ⟨⟨ok_Mo_put1, by decide, by decide, by decide⟩, by decide, rfl, List.mem_append_right _ (List.mem_of_getElem? (i := 1058) (by decide +kernel)), List.mem_append_right _ (List.mem_of_getElem? (i := 1060) (by decide +kernel)), List.mem_append_left _ (List.mem_of_getElem? (i := 34) (by decide +kernel)), by decide +kernel⟩
theorem cs_Mo_attempt_57 : a_CV M_Mo_attempt M_Mo_give 290 10 4 0 3 := ⟨⟨ok_Mo_give, by decide, by decide, by decide⟩, by decide, rfl, List.mem_append_right _ (List.mem_of_getElem? (i := 1297) (by decide +kernel)), List.mem_append_right _ (List.mem_of_getElem? (i := 1299) (by decide +kernel)), List.mem_append_left _ (List.mem_of_getElem? (i := 45) (by decide +kernel)), by decide +kernel⟩
theorem cs_Mo_attempt_88 : a_CV M_Mo_attempt M_Mo_unpack 337 10 6 0 5 := ⟨⟨ok_Mo_unpack, by decide, by decide, by decide⟩, by decide, rfl, List.mem_append_right _ (List.mem_of_getElem? (i := 1375) (by decide +kernel)), List.mem_append_right _ (List.mem_of_getElem? (i := 1377) (by decide +kernel)), List.mem_append_left _ (List.mem_of_getElem? (i := 59) (by decide +kernel)), by decide +kernel⟩
theorem cs_Mo_attempt_116 : a_CS M_Mo_attempt M_Mo_clear 275 1 0 1 := ⟨⟨ok_Mo_clear, by decide, by decide, by decide⟩, List.mem_append_right _ (List.mem_of_getElem? (i := 1332) (by decide +kernel)), List.mem_append_right _ (List.mem_of_getElem? (i := 1333) (by decide +kernel)), by decide +kernel⟩
theorem cs_Mo_attempt_184 : a_CV M_Mo_attempt M_Mo_evaluate 304 10 2 0 1 := ⟨⟨ok_Mo_evaluate, by decide, by decide, by decide⟩, by decide, rfl, List.mem_append_right _ (List.mem_of_getElem? (i := 1325) (by decide +kernel)), List.mem_append_right _ (List.mem_of_getElem? (i := 1327) (by decide +kernel)), List.mem_append_left _ (List.mem_of_getElem? (i := 51) (by decide +kernel)), by decide +kernel⟩
theorem cs_Mo_attempt_204 : a_CV M_Mo_attempt M_Mo_sampleWide 307 10 6 0 5 := ⟨⟨ok_Mo_sampleWide, by decide, by decide, by decide⟩, by decide, rfl, List.mem_append_right _ (List.mem_of_getElem? (i := 1335) (by decide +kernel)), List.mem_append_right _ (List.mem_of_getElem? (i := 1337) (by decide +kernel)), List.mem_append_left _ (List.mem_of_getElem? (i := 52) (by decide +kernel)), by decide +kernel⟩
theorem cs_Mo_attempt_235 : a_CS M_Mo_attempt M_Mo_addProducts 311 3 0 3 := ⟨⟨ok_Mo_addProducts, by decide, by decide, by decide⟩, List.mem_append_right _ (List.mem_of_getElem? (i := 1340) (by decide +kernel)), List.mem_append_right _ (List.mem_of_getElem? (i := 1341) (by decide +kernel)), by decide +kernel⟩
theorem cs_Mo_attempt_254 : a_CV M_Mo_attempt M_Mo_interpolate 315 10 2 0 1 := ⟨⟨ok_Mo_interpolate, by decide, by decide, by decide⟩, by decide, rfl, List.mem_append_right _ (List.mem_of_getElem? (i := 1343) (by decide +kernel)), List.mem_append_right _ (List.mem_of_getElem? (i := 1345) (by decide +kernel)), List.mem_append_left _ (List.mem_of_getElem? (i := 53) (by decide +kernel)), by decide +kernel⟩
theorem cs_Mo_attempt_288 : a_CV M_Mo_attempt M_Mo_high 343 10 2 2 1 := ⟨⟨ok_Mo_high, by decide, by decide, by decide⟩, by decide, rfl, List.mem_append_right _ (List.mem_of_getElem? (i := 1390) (by decide +kernel)), List.mem_append_right _ (List.mem_of_getElem? (i := 1392) (by decide +kernel)), List.mem_append_left _ (List.mem_of_getElem? (i := 62) (by decide +kernel)), by decide +kernel⟩
theorem cs_Mo_attempt_311 : a_CV M_Mo_attempt M_Mo_challenge 346 10 3 0 2 := ⟨⟨ok_Mo_challenge, by decide, by decide, by decide⟩, by decide, rfl, List.mem_append_right _ (List.mem_of_getElem? (i := 1395) (by decide +kernel)), List.mem_append_right _ (List.mem_of_getElem? (i := 1397) (by decide +kernel)), List.mem_append_left _ (List.mem_of_getElem? (i := 63) (by decide +kernel)), by decide +kernel⟩
theorem cs_Mo_attempt_327 : a_CV M_Mo_attempt M_Mo_ball 350 10 4 0 3 := ⟨⟨ok_Mo_ball, by decide, by decide, by decide⟩, by decide, rfl, List.mem_append_right _ (List.mem_of_getElem? (i := 1399) (by decide +kernel)), List.mem_append_right _ (List.mem_of_getElem? (i := 1401) (by decide +kernel)), List.mem_append_left _ (List.mem_of_getElem? (i := 64) (by decide +kernel)), by decide +kernel⟩
theorem cs_Mo_attempt_376 : a_CV M_Mo_attempt M_Mo_few 354 10 4 0 3 := ⟨⟨ok_Mo_few, by decide, by decide, by decide⟩, by decide, rfl, List.mem_append_right _ (List.mem_of_getElem? (i := 1403) (by decide +kernel)), List.mem_append_right _ (List.mem_of_getElem? (i := 1405) (by decide +kernel)), List.mem_append_left _ (List.mem_of_getElem? (i := 65) (by decide +kernel)), by decide +kernel⟩
theorem cs_Mo_attempt_515 : a_CV M_Mo_attempt M_Mo_few 354 10 4 0 3 := ⟨⟨ok_Mo_few, by decide, by decide, by decide⟩, by decide, rfl, List.mem_append_right _ (List.mem_of_getElem? (i := 1403) (by decide +kernel)), List.mem_append_right _ (List.mem_of_getElem? (i := 1405) (by decide +kernel)), List.mem_append_left _ (List.mem_of_getElem? (i := 65) (by decide +kernel)), by decide +kernel⟩
theorem cs_Mo_attempt_588 : a_CV M_Mo_attempt M_Mo_low 357 10 2 0 1 := ⟨⟨ok_Mo_low, by decide, by decide, by decide⟩, by decide, rfl, List.mem_append_right _ (List.mem_of_getElem? (i := 1411) (by decide +kernel)), List.mem_append_right _ (List.mem_of_getElem? (i := 1413) (by decide +kernel)), List.mem_append_left _ (List.mem_of_getElem? (i := 66) (by decide +kernel)), by decide +kernel⟩
theorem cs_Mo_attempt_649 : a_CV M_Mo_attempt M_Mo_few 354 10 4 0 3 := ⟨⟨ok_Mo_few, by decide, by decide, by decide⟩, by decide, rfl, List.mem_append_right _ (List.mem_of_getElem? (i := 1403) (by decide +kernel)), List.mem_append_right _ (List.mem_of_getElem? (i := 1405) (by decide +kernel)), List.mem_append_left _ (List.mem_of_getElem? (i := 65) (by decide +kernel)), by decide +kernel⟩
theorem cs_Mo_attempt_731 : a_CV M_Mo_attempt M_Mo_high 343 10 2 2 1 := ⟨⟨ok_Mo_high, by decide, by decide, by decide⟩, by decide, rfl, List.mem_append_right _ (List.mem_of_getElem? (i := 1390) (by decide +kernel)), List.mem_append_right _ (List.mem_of_getElem? (i := 1392) (by decide +kernel)), List.mem_append_left _ (List.mem_of_getElem? (i := 62) (by decide +kernel)), by decide +kernel⟩
theorem cs_Mo_attempt_748 : a_CV M_Mo_attempt M_Mo_high 343 10 2 3 1 := ⟨⟨ok_Mo_high, by decide, by decide, by decide⟩, by decide, rfl, List.mem_append_right _ (List.mem_of_getElem? (i := 1390) (by decide +kernel)), List.mem_append_right _ (List.mem_of_getElem? (i := 1392) (by decide +kernel)), List.mem_append_left _ (List.mem_of_getElem? (i := 62) (by decide +kernel)), by decide +kernel⟩
theorem cs_Mo_attempt_817 : a_CS M_Mo_attempt M_Mo_move 318 5 0 5 := ⟨⟨ok_Mo_move, by decide, by decide, by decide⟩, List.mem_append_right _ (List.mem_of_getElem? (i := 1348) (by decide +kernel)), List.mem_append_right _ (List.mem_of_getElem? (i := 1349) (by decide +kernel)), by decide +kernel⟩
theorem cs_Mo_attempt_864 : a_CV M_Mo_attempt M_Mo_pack 297 10 6 0 5 := ⟨⟨ok_Mo_pack, by decide, by decide, by decide⟩, by decide, rfl, List.mem_append_right _ (List.mem_of_getElem? (i := 1313) (by decide +kernel)), List.mem_append_right _ (List.mem_of_getElem? (i := 1315) (by decide +kernel)), List.mem_append_left _ (List.mem_of_getElem? (i := 49) (by decide +kernel)), by decide +kernel⟩
def M_Mo_dsaSign : a_M := (⟨"ModuleSignerModel", "dsaSign", "(II)I"⟩, prog_12_method_65_code, 6, some .int, "ModuleSignerModel", 7, 134, [])
theorem ok_Mo_dsaSign : a_Ok M_Mo_dsaSign := ⟨rfl, by decide +kernel, ⟨by decide, by decide⟩, List.mem_append_right _ (List.mem_of_getElem? (i := 11) (by decide +kernel)), Or.inl ⟨rfl, List.mem_append_right _ (List.mem_of_getElem? (i := 1358) (by decide +kernel))⟩⟩
theorem d_Mo_dsaSign_0 : decode (a_cc M_Mo_dsaSign) 0 = .ok (.aload_n 0, 1) := by decide +kernel
theorem d_Mo_dsaSign_1 : decode (a_cc M_Mo_dsaSign) 1 = .ok (.iload_n 1, 1) := by decide +kernel
theorem d_Mo_dsaSign_2 : decode (a_cc M_Mo_dsaSign) 2 = .ok (.iconst 0, 1) := by decide +kernel
theorem d_Mo_dsaSign_3 : decode (a_cc M_Mo_dsaSign) 3 = .ok (.iconst 2, 1) := by decide +kernel
theorem d_Mo_dsaSign_4 : decode (a_cc M_Mo_dsaSign) 4 = .ok (.invokestatic 120, 3) := by decide +kernel
theorem d_Mo_dsaSign_7 : decode (a_cc M_Mo_dsaSign) 7 = .ok (.ifCond .eq 16, 3) := by decide +kernel
theorem d_Mo_dsaSign_10 : decode (a_cc M_Mo_dsaSign) 10 = .ok (.iload_n 2, 1) := by decide +kernel
theorem d_Mo_dsaSign_11 : decode (a_cc M_Mo_dsaSign) 11 = .ok (.iconst (-1), 1) := by decide +kernel
theorem d_Mo_dsaSign_12 : decode (a_cc M_Mo_dsaSign) 12 = .ok (.iconst 0, 1) := by decide +kernel
theorem d_Mo_dsaSign_13 : decode (a_cc M_Mo_dsaSign) 13 = .ok (.invokestatic 120, 3) := by decide +kernel
theorem d_Mo_dsaSign_16 : decode (a_cc M_Mo_dsaSign) 16 = .ok (.ifCond .eq 7, 3) := by decide +kernel
theorem d_Mo_dsaSign_19 : decode (a_cc M_Mo_dsaSign) 19 = .ok (.iconst 1, 1) := by decide +kernel
theorem d_Mo_dsaSign_20 : decode (a_cc M_Mo_dsaSign) 20 = .ok (.goto 4, 3) := by decide +kernel
theorem d_Mo_dsaSign_23 : decode (a_cc M_Mo_dsaSign) 23 = .ok (.iconst 0, 1) := by decide +kernel
theorem d_Mo_dsaSign_24 : decode (a_cc M_Mo_dsaSign) 24 = .ok (.iconst 1, 1) := by decide +kernel
theorem d_Mo_dsaSign_25 : decode (a_cc M_Mo_dsaSign) 25 = .ok (.invokevirtual 112, 3) := by decide +kernel
theorem d_Mo_dsaSign_28 : decode (a_cc M_Mo_dsaSign) 28 = .ok (.ifCond .ne 5, 3) := by decide +kernel
theorem d_Mo_dsaSign_31 : decode (a_cc M_Mo_dsaSign) 31 = .ok (.iconst 0, 1) := by decide +kernel
theorem d_Mo_dsaSign_32 : decode (a_cc M_Mo_dsaSign) 32 = .ok (.ireturn, 1) := by decide +kernel
theorem d_Mo_dsaSign_33 : decode (a_cc M_Mo_dsaSign) 33 = .ok (.aload_n 0, 1) := by decide +kernel
theorem d_Mo_dsaSign_34 : decode (a_cc M_Mo_dsaSign) 34 = .ok (.iload_n 1, 1) := by decide +kernel
theorem d_Mo_dsaSign_35 : decode (a_cc M_Mo_dsaSign) 35 = .ok (.invokevirtual 287, 3) := by decide +kernel
theorem d_Mo_dsaSign_38 : decode (a_cc M_Mo_dsaSign) 38 = .ok (.aload_n 0, 1) := by decide +kernel
theorem d_Mo_dsaSign_39 : decode (a_cc M_Mo_dsaSign) 39 = .ok (.aload_n 0, 1) := by decide +kernel
theorem d_Mo_dsaSign_40 : decode (a_cc M_Mo_dsaSign) 40 = .ok (.iload_n 2, 1) := by decide +kernel
theorem d_Mo_dsaSign_41 : decode (a_cc M_Mo_dsaSign) 41 = .ok (.invokevirtual 331, 3) := by decide +kernel
theorem d_Mo_dsaSign_44 : decode (a_cc M_Mo_dsaSign) 44 = .ok (.ifCond .eq 27, 3) := by decide +kernel
theorem d_Mo_dsaSign_47 : decode (a_cc M_Mo_dsaSign) 47 = .ok (.aload_n 0, 1) := by decide +kernel
theorem d_Mo_dsaSign_48 : decode (a_cc M_Mo_dsaSign) 48 = .ok (.getfield 18, 3) := by decide +kernel
theorem d_Mo_dsaSign_51 : decode (a_cc M_Mo_dsaSign) 51 = .ok (.iconst 0, 1) := by decide +kernel
theorem d_Mo_dsaSign_52 : decode (a_cc M_Mo_dsaSign) 52 = .ok (.iaload, 1) := by decide +kernel
theorem d_Mo_dsaSign_53 : decode (a_cc M_Mo_dsaSign) 53 = .ok (.bipush 32, 2) := by decide +kernel
theorem d_Mo_dsaSign_55 : decode (a_cc M_Mo_dsaSign) 55 = .ok (.if_icmp .eq 12, 3) := by decide +kernel
theorem d_Mo_dsaSign_58 : decode (a_cc M_Mo_dsaSign) 58 = .ok (.aload_n 0, 1) := by decide +kernel
theorem d_Mo_dsaSign_59 : decode (a_cc M_Mo_dsaSign) 59 = .ok (.getfield 18, 3) := by decide +kernel
theorem d_Mo_dsaSign_62 : decode (a_cc M_Mo_dsaSign) 62 = .ok (.iconst 0, 1) := by decide +kernel
theorem d_Mo_dsaSign_63 : decode (a_cc M_Mo_dsaSign) 63 = .ok (.iaload, 1) := by decide +kernel
theorem d_Mo_dsaSign_64 : decode (a_cc M_Mo_dsaSign) 64 = .ok (.ifCond .ne 7, 3) := by decide +kernel
theorem d_Mo_dsaSign_67 : decode (a_cc M_Mo_dsaSign) 67 = .ok (.iconst 1, 1) := by decide +kernel
theorem d_Mo_dsaSign_68 : decode (a_cc M_Mo_dsaSign) 68 = .ok (.goto 4, 3) := by decide +kernel
theorem d_Mo_dsaSign_71 : decode (a_cc M_Mo_dsaSign) 71 = .ok (.iconst 0, 1) := by decide +kernel
theorem d_Mo_dsaSign_72 : decode (a_cc M_Mo_dsaSign) 72 = .ok (.iconst 2, 1) := by decide +kernel
theorem d_Mo_dsaSign_73 : decode (a_cc M_Mo_dsaSign) 73 = .ok (.invokevirtual 112, 3) := by decide +kernel
theorem d_Mo_dsaSign_76 : decode (a_cc M_Mo_dsaSign) 76 = .ok (.ifCond .eq 29, 3) := by decide +kernel
theorem d_Mo_dsaSign_79 : decode (a_cc M_Mo_dsaSign) 79 = .ok (.aload_n 0, 1) := by decide +kernel
theorem d_Mo_dsaSign_80 : decode (a_cc M_Mo_dsaSign) 80 = .ok (.aload_n 0, 1) := by decide +kernel
theorem d_Mo_dsaSign_81 : decode (a_cc M_Mo_dsaSign) 81 = .ok (.getfield 18, 3) := by decide +kernel
theorem d_Mo_dsaSign_84 : decode (a_cc M_Mo_dsaSign) 84 = .ok (.iconst 2, 1) := by decide +kernel
theorem d_Mo_dsaSign_85 : decode (a_cc M_Mo_dsaSign) 85 = .ok (.iaload, 1) := by decide +kernel
theorem d_Mo_dsaSign_86 : decode (a_cc M_Mo_dsaSign) 86 = .ok (.aload_n 0, 1) := by decide +kernel
theorem d_Mo_dsaSign_87 : decode (a_cc M_Mo_dsaSign) 87 = .ok (.invokevirtual 322, 3) := by decide +kernel
theorem d_Mo_dsaSign_90 : decode (a_cc M_Mo_dsaSign) 90 = .ok (.if_icmp .ne 7, 3) := by decide +kernel
theorem d_Mo_dsaSign_93 : decode (a_cc M_Mo_dsaSign) 93 = .ok (.iconst 1, 1) := by decide +kernel
theorem d_Mo_dsaSign_94 : decode (a_cc M_Mo_dsaSign) 94 = .ok (.goto 4, 3) := by decide +kernel
theorem d_Mo_dsaSign_97 : decode (a_cc M_Mo_dsaSign) 97 = .ok (.iconst 0, 1) := by decide +kernel
theorem d_Mo_dsaSign_98 : decode (a_cc M_Mo_dsaSign) 98 = .ok (.iconst 3, 1) := by decide +kernel
theorem d_Mo_dsaSign_99 : decode (a_cc M_Mo_dsaSign) 99 = .ok (.invokevirtual 112, 3) := by decide +kernel
theorem d_Mo_dsaSign_102 : decode (a_cc M_Mo_dsaSign) 102 = .ok (.ifCond .ne 5, 3) := by decide +kernel
theorem d_Mo_dsaSign_105 : decode (a_cc M_Mo_dsaSign) 105 = .ok (.iconst 0, 1) := by decide +kernel
theorem d_Mo_dsaSign_106 : decode (a_cc M_Mo_dsaSign) 106 = .ok (.ireturn, 1) := by decide +kernel
theorem d_Mo_dsaSign_107 : decode (a_cc M_Mo_dsaSign) 107 = .ok (.aload_n 0, 1) := by decide +kernel
theorem d_Mo_dsaSign_108 : decode (a_cc M_Mo_dsaSign) 108 = .ok (.aload_n 0, 1) := by decide +kernel
theorem d_Mo_dsaSign_109 : decode (a_cc M_Mo_dsaSign) 109 = .ok (.getfield 15, 3) := by decide +kernel
theorem d_Mo_dsaSign_112 : decode (a_cc M_Mo_dsaSign) 112 = .ok (.iconst 2, 1) := by decide +kernel
theorem d_Mo_dsaSign_113 : decode (a_cc M_Mo_dsaSign) 113 = .ok (.aaload, 1) := by decide +kernel
theorem d_Mo_dsaSign_114 : decode (a_cc M_Mo_dsaSign) 114 = .ok (.bipush 64, 2) := by decide +kernel
theorem d_Mo_dsaSign_116 : decode (a_cc M_Mo_dsaSign) 116 = .ok (.iload_n 2, 1) := by decide +kernel
theorem d_Mo_dsaSign_117 : decode (a_cc M_Mo_dsaSign) 117 = .ok (.invokevirtual 334, 3) := by decide +kernel
theorem d_Mo_dsaSign_120 : decode (a_cc M_Mo_dsaSign) 120 = .ok (.aload_n 0, 1) := by decide +kernel
theorem d_Mo_dsaSign_121 : decode (a_cc M_Mo_dsaSign) 121 = .ok (.bipush 12, 2) := by decide +kernel
theorem d_Mo_dsaSign_123 : decode (a_cc M_Mo_dsaSign) 123 = .ok (.invokevirtual 148, 3) := by decide +kernel
theorem d_Mo_dsaSign_126 : decode (a_cc M_Mo_dsaSign) 126 = .ok (.aload_n 0, 1) := by decide +kernel
theorem d_Mo_dsaSign_127 : decode (a_cc M_Mo_dsaSign) 127 = .ok (.aload_n 0, 1) := by decide +kernel
theorem d_Mo_dsaSign_128 : decode (a_cc M_Mo_dsaSign) 128 = .ok (.getfield 15, 3) := by decide +kernel
theorem d_Mo_dsaSign_131 : decode (a_cc M_Mo_dsaSign) 131 = .ok (.iconst 2, 1) := by decide +kernel
theorem d_Mo_dsaSign_132 : decode (a_cc M_Mo_dsaSign) 132 = .ok (.aaload, 1) := by decide +kernel
theorem d_Mo_dsaSign_133 : decode (a_cc M_Mo_dsaSign) 133 = .ok (.bipush 32, 2) := by decide +kernel
theorem d_Mo_dsaSign_135 : decode (a_cc M_Mo_dsaSign) 135 = .ok (.bipush 32, 2) := by decide +kernel
theorem d_Mo_dsaSign_137 : decode (a_cc M_Mo_dsaSign) 137 = .ok (.invokevirtual 268, 3) := by decide +kernel
theorem d_Mo_dsaSign_140 : decode (a_cc M_Mo_dsaSign) 140 = .ok (.iconst 0, 1) := by decide +kernel
theorem d_Mo_dsaSign_141 : decode (a_cc M_Mo_dsaSign) 141 = .ok (.istore_n 3, 1) := by decide +kernel
theorem d_Mo_dsaSign_142 : decode (a_cc M_Mo_dsaSign) 142 = .ok (.iload_n 3, 1) := by decide +kernel
theorem d_Mo_dsaSign_143 : decode (a_cc M_Mo_dsaSign) 143 = .ok (.bipush 32, 2) := by decide +kernel
theorem d_Mo_dsaSign_145 : decode (a_cc M_Mo_dsaSign) 145 = .ok (.if_icmp .ge 34, 3) := by decide +kernel
theorem d_Mo_dsaSign_148 : decode (a_cc M_Mo_dsaSign) 148 = .ok (.aload_n 0, 1) := by decide +kernel
theorem d_Mo_dsaSign_149 : decode (a_cc M_Mo_dsaSign) 149 = .ok (.aload_n 0, 1) := by decide +kernel
theorem d_Mo_dsaSign_150 : decode (a_cc M_Mo_dsaSign) 150 = .ok (.getfield 18, 3) := by decide +kernel
theorem d_Mo_dsaSign_153 : decode (a_cc M_Mo_dsaSign) 153 = .ok (.iconst 0, 1) := by decide +kernel
theorem d_Mo_dsaSign_154 : decode (a_cc M_Mo_dsaSign) 154 = .ok (.iaload, 1) := by decide +kernel
theorem d_Mo_dsaSign_155 : decode (a_cc M_Mo_dsaSign) 155 = .ok (.ifCond .ne 7, 3) := by decide +kernel
theorem d_Mo_dsaSign_158 : decode (a_cc M_Mo_dsaSign) 158 = .ok (.iconst 0, 1) := by decide +kernel
theorem d_Mo_dsaSign_159 : decode (a_cc M_Mo_dsaSign) 159 = .ok (.goto 11, 3) := by decide +kernel
theorem d_Mo_dsaSign_162 : decode (a_cc M_Mo_dsaSign) 162 = .ok (.aload_n 0, 1) := by decide +kernel
theorem d_Mo_dsaSign_163 : decode (a_cc M_Mo_dsaSign) 163 = .ok (.getfield 15, 3) := by decide +kernel
theorem d_Mo_dsaSign_166 : decode (a_cc M_Mo_dsaSign) 166 = .ok (.iconst 0, 1) := by decide +kernel
theorem d_Mo_dsaSign_167 : decode (a_cc M_Mo_dsaSign) 167 = .ok (.aaload, 1) := by decide +kernel
theorem d_Mo_dsaSign_168 : decode (a_cc M_Mo_dsaSign) 168 = .ok (.iload_n 3, 1) := by decide +kernel
theorem d_Mo_dsaSign_169 : decode (a_cc M_Mo_dsaSign) 169 = .ok (.baload, 1) := by decide +kernel
theorem d_Mo_dsaSign_170 : decode (a_cc M_Mo_dsaSign) 170 = .ok (.invokevirtual 153, 3) := by decide +kernel
theorem d_Mo_dsaSign_173 : decode (a_cc M_Mo_dsaSign) 173 = .ok (.iinc 3 1, 3) := by decide +kernel
theorem d_Mo_dsaSign_176 : decode (a_cc M_Mo_dsaSign) 176 = .ok (.goto (-34), 3) := by decide +kernel
theorem d_Mo_dsaSign_179 : decode (a_cc M_Mo_dsaSign) 179 = .ok (.aload_n 0, 1) := by decide +kernel
theorem d_Mo_dsaSign_180 : decode (a_cc M_Mo_dsaSign) 180 = .ok (.aload_n 0, 1) := by decide +kernel
theorem d_Mo_dsaSign_181 : decode (a_cc M_Mo_dsaSign) 181 = .ok (.getfield 93, 3) := by decide +kernel
theorem d_Mo_dsaSign_184 : decode (a_cc M_Mo_dsaSign) 184 = .ok (.iconst 0, 1) := by decide +kernel
theorem d_Mo_dsaSign_185 : decode (a_cc M_Mo_dsaSign) 185 = .ok (.bipush 64, 2) := by decide +kernel
theorem d_Mo_dsaSign_187 : decode (a_cc M_Mo_dsaSign) 187 = .ok (.invokevirtual 268, 3) := by decide +kernel
theorem d_Mo_dsaSign_190 : decode (a_cc M_Mo_dsaSign) 190 = .ok (.aload_n 0, 1) := by decide +kernel
theorem d_Mo_dsaSign_191 : decode (a_cc M_Mo_dsaSign) 191 = .ok (.aload_n 0, 1) := by decide +kernel
theorem d_Mo_dsaSign_192 : decode (a_cc M_Mo_dsaSign) 192 = .ok (.getfield 96, 3) := by decide +kernel
theorem d_Mo_dsaSign_195 : decode (a_cc M_Mo_dsaSign) 195 = .ok (.iconst 0, 1) := by decide +kernel
theorem d_Mo_dsaSign_196 : decode (a_cc M_Mo_dsaSign) 196 = .ok (.bipush 64, 2) := by decide +kernel
theorem d_Mo_dsaSign_198 : decode (a_cc M_Mo_dsaSign) 198 = .ok (.invokevirtual 290, 3) := by decide +kernel
theorem d_Mo_dsaSign_201 : decode (a_cc M_Mo_dsaSign) 201 = .ok (.aload_n 0, 1) := by decide +kernel
theorem d_Mo_dsaSign_202 : decode (a_cc M_Mo_dsaSign) 202 = .ok (.getfield 229, 3) := by decide +kernel
theorem d_Mo_dsaSign_205 : decode (a_cc M_Mo_dsaSign) 205 = .ok (.iconst 2, 1) := by decide +kernel
theorem d_Mo_dsaSign_206 : decode (a_cc M_Mo_dsaSign) 206 = .ok (.if_icmp .ne 7, 3) := by decide +kernel
theorem d_Mo_dsaSign_209 : decode (a_cc M_Mo_dsaSign) 209 = .ok (.iconst 3, 1) := by decide +kernel
theorem d_Mo_dsaSign_210 : decode (a_cc M_Mo_dsaSign) 210 = .ok (.goto 4, 3) := by decide +kernel
theorem d_Mo_dsaSign_213 : decode (a_cc M_Mo_dsaSign) 213 = .ok (.iconst 4, 1) := by decide +kernel
theorem d_Mo_dsaSign_214 : decode (a_cc M_Mo_dsaSign) 214 = .ok (.istore_n 3, 1) := by decide +kernel
theorem d_Mo_dsaSign_215 : decode (a_cc M_Mo_dsaSign) 215 = .ok (.aload_n 0, 1) := by decide +kernel
theorem d_Mo_dsaSign_216 : decode (a_cc M_Mo_dsaSign) 216 = .ok (.iconst 0, 1) := by decide +kernel
theorem d_Mo_dsaSign_217 : decode (a_cc M_Mo_dsaSign) 217 = .ok (.putfield 216, 3) := by decide +kernel
theorem d_Mo_dsaSign_220 : decode (a_cc M_Mo_dsaSign) 220 = .ok (.iconst 0, 1) := by decide +kernel
theorem d_Mo_dsaSign_221 : decode (a_cc M_Mo_dsaSign) 221 = .ok (.istore 4, 2) := by decide +kernel
theorem d_Mo_dsaSign_223 : decode (a_cc M_Mo_dsaSign) 223 = .ok (.iload 4, 2) := by decide +kernel
theorem d_Mo_dsaSign_225 : decode (a_cc M_Mo_dsaSign) 225 = .ok (.aload_n 0, 1) := by decide +kernel
theorem d_Mo_dsaSign_226 : decode (a_cc M_Mo_dsaSign) 226 = .ok (.getfield 226, 3) := by decide +kernel
theorem d_Mo_dsaSign_229 : decode (a_cc M_Mo_dsaSign) 229 = .ok (.aload_n 0, 1) := by decide +kernel
theorem d_Mo_dsaSign_230 : decode (a_cc M_Mo_dsaSign) 230 = .ok (.getfield 223, 3) := by decide +kernel
theorem d_Mo_dsaSign_233 : decode (a_cc M_Mo_dsaSign) 233 = .ok (.iadd, 1) := by decide +kernel
theorem d_Mo_dsaSign_234 : decode (a_cc M_Mo_dsaSign) 234 = .ok (.if_icmp .ge 34, 3) := by decide +kernel
theorem d_Mo_dsaSign_237 : decode (a_cc M_Mo_dsaSign) 237 = .ok (.aload_n 0, 1) := by decide +kernel
theorem d_Mo_dsaSign_238 : decode (a_cc M_Mo_dsaSign) 238 = .ok (.aload_n 0, 1) := by decide +kernel
theorem d_Mo_dsaSign_239 : decode (a_cc M_Mo_dsaSign) 239 = .ok (.getfield 15, 3) := by decide +kernel
theorem d_Mo_dsaSign_242 : decode (a_cc M_Mo_dsaSign) 242 = .ok (.iconst 2, 1) := by decide +kernel
theorem d_Mo_dsaSign_243 : decode (a_cc M_Mo_dsaSign) 243 = .ok (.aaload, 1) := by decide +kernel
theorem d_Mo_dsaSign_244 : decode (a_cc M_Mo_dsaSign) 244 = .ok (.sipush 128, 3) := by decide +kernel
theorem d_Mo_dsaSign_247 : decode (a_cc M_Mo_dsaSign) 247 = .ok (.aload_n 0, 1) := by decide +kernel
theorem d_Mo_dsaSign_248 : decode (a_cc M_Mo_dsaSign) 248 = .ok (.getfield 76, 3) := by decide +kernel
theorem d_Mo_dsaSign_251 : decode (a_cc M_Mo_dsaSign) 251 = .ok (.iload 4, 2) := by decide +kernel
theorem d_Mo_dsaSign_253 : decode (a_cc M_Mo_dsaSign) 253 = .ok (.aaload, 1) := by decide +kernel
theorem d_Mo_dsaSign_254 : decode (a_cc M_Mo_dsaSign) 254 = .ok (.aload_n 0, 1) := by decide +kernel
theorem d_Mo_dsaSign_255 : decode (a_cc M_Mo_dsaSign) 255 = .ok (.getfield 229, 3) := by decide +kernel
theorem d_Mo_dsaSign_258 : decode (a_cc M_Mo_dsaSign) 258 = .ok (.iload_n 3, 1) := by decide +kernel
theorem d_Mo_dsaSign_259 : decode (a_cc M_Mo_dsaSign) 259 = .ok (.invokevirtual 337, 3) := by decide +kernel
theorem d_Mo_dsaSign_262 : decode (a_cc M_Mo_dsaSign) 262 = .ok (.iinc 4 1, 3) := by decide +kernel
theorem d_Mo_dsaSign_265 : decode (a_cc M_Mo_dsaSign) 265 = .ok (.goto (-42), 3) := by decide +kernel
theorem d_Mo_dsaSign_268 : decode (a_cc M_Mo_dsaSign) 268 = .ok (.iconst 0, 1) := by decide +kernel
theorem d_Mo_dsaSign_269 : decode (a_cc M_Mo_dsaSign) 269 = .ok (.istore 4, 2) := by decide +kernel
theorem d_Mo_dsaSign_271 : decode (a_cc M_Mo_dsaSign) 271 = .ok (.iload 4, 2) := by decide +kernel
theorem d_Mo_dsaSign_273 : decode (a_cc M_Mo_dsaSign) 273 = .ok (.aload_n 0, 1) := by decide +kernel
theorem d_Mo_dsaSign_274 : decode (a_cc M_Mo_dsaSign) 274 = .ok (.getfield 223, 3) := by decide +kernel
theorem d_Mo_dsaSign_277 : decode (a_cc M_Mo_dsaSign) 277 = .ok (.if_icmp .ge 37, 3) := by decide +kernel
theorem d_Mo_dsaSign_280 : decode (a_cc M_Mo_dsaSign) 280 = .ok (.aload_n 0, 1) := by decide +kernel
theorem d_Mo_dsaSign_281 : decode (a_cc M_Mo_dsaSign) 281 = .ok (.aload_n 0, 1) := by decide +kernel
theorem d_Mo_dsaSign_282 : decode (a_cc M_Mo_dsaSign) 282 = .ok (.getfield 15, 3) := by decide +kernel
theorem d_Mo_dsaSign_285 : decode (a_cc M_Mo_dsaSign) 285 = .ok (.iconst 2, 1) := by decide +kernel
theorem d_Mo_dsaSign_286 : decode (a_cc M_Mo_dsaSign) 286 = .ok (.aaload, 1) := by decide +kernel
theorem d_Mo_dsaSign_287 : decode (a_cc M_Mo_dsaSign) 287 = .ok (.sipush 128, 3) := by decide +kernel
theorem d_Mo_dsaSign_290 : decode (a_cc M_Mo_dsaSign) 290 = .ok (.aload_n 0, 1) := by decide +kernel
theorem d_Mo_dsaSign_291 : decode (a_cc M_Mo_dsaSign) 291 = .ok (.getfield 76, 3) := by decide +kernel
theorem d_Mo_dsaSign_294 : decode (a_cc M_Mo_dsaSign) 294 = .ok (.bipush 15, 2) := by decide +kernel
theorem d_Mo_dsaSign_296 : decode (a_cc M_Mo_dsaSign) 296 = .ok (.iload 4, 2) := by decide +kernel
theorem d_Mo_dsaSign_298 : decode (a_cc M_Mo_dsaSign) 298 = .ok (.iadd, 1) := by decide +kernel
theorem d_Mo_dsaSign_299 : decode (a_cc M_Mo_dsaSign) 299 = .ok (.aaload, 1) := by decide +kernel
theorem d_Mo_dsaSign_300 : decode (a_cc M_Mo_dsaSign) 300 = .ok (.sipush 4096, 3) := by decide +kernel
theorem d_Mo_dsaSign_303 : decode (a_cc M_Mo_dsaSign) 303 = .ok (.bipush 13, 2) := by decide +kernel
theorem d_Mo_dsaSign_305 : decode (a_cc M_Mo_dsaSign) 305 = .ok (.invokevirtual 337, 3) := by decide +kernel
theorem d_Mo_dsaSign_308 : decode (a_cc M_Mo_dsaSign) 308 = .ok (.iinc 4 1, 3) := by decide +kernel
theorem d_Mo_dsaSign_311 : decode (a_cc M_Mo_dsaSign) 311 = .ok (.goto (-40), 3) := by decide +kernel
theorem d_Mo_dsaSign_314 : decode (a_cc M_Mo_dsaSign) 314 = .ok (.iconst 0, 1) := by decide +kernel
theorem d_Mo_dsaSign_315 : decode (a_cc M_Mo_dsaSign) 315 = .ok (.istore 4, 2) := by decide +kernel
theorem d_Mo_dsaSign_317 : decode (a_cc M_Mo_dsaSign) 317 = .ok (.iload 4, 2) := by decide +kernel
theorem d_Mo_dsaSign_319 : decode (a_cc M_Mo_dsaSign) 319 = .ok (.sipush 814, 3) := by decide +kernel
theorem d_Mo_dsaSign_322 : decode (a_cc M_Mo_dsaSign) 322 = .ok (.if_icmp .ge 107, 3) := by decide +kernel
theorem d_Mo_dsaSign_325 : decode (a_cc M_Mo_dsaSign) 325 = .ok (.aload_n 0, 1) := by decide +kernel
theorem d_Mo_dsaSign_326 : decode (a_cc M_Mo_dsaSign) 326 = .ok (.iload 4, 2) := by decide +kernel
theorem d_Mo_dsaSign_328 : decode (a_cc M_Mo_dsaSign) 328 = .ok (.aload_n 0, 1) := by decide +kernel
theorem d_Mo_dsaSign_329 : decode (a_cc M_Mo_dsaSign) 329 = .ok (.getfield 226, 3) := by decide +kernel
theorem d_Mo_dsaSign_332 : decode (a_cc M_Mo_dsaSign) 332 = .ok (.imul, 1) := by decide +kernel
theorem d_Mo_dsaSign_333 : decode (a_cc M_Mo_dsaSign) 333 = .ok (.invokevirtual 340, 3) := by decide +kernel
theorem d_Mo_dsaSign_336 : decode (a_cc M_Mo_dsaSign) 336 = .ok (.istore 5, 2) := by decide +kernel
theorem d_Mo_dsaSign_338 : decode (a_cc M_Mo_dsaSign) 338 = .ok (.aload_n 0, 1) := by decide +kernel
theorem d_Mo_dsaSign_339 : decode (a_cc M_Mo_dsaSign) 339 = .ok (.iload 5, 2) := by decide +kernel
theorem d_Mo_dsaSign_341 : decode (a_cc M_Mo_dsaSign) 341 = .ok (.ifCond .lt 7, 3) := by decide +kernel
theorem d_Mo_dsaSign_344 : decode (a_cc M_Mo_dsaSign) 344 = .ok (.iconst 1, 1) := by decide +kernel
theorem d_Mo_dsaSign_345 : decode (a_cc M_Mo_dsaSign) 345 = .ok (.goto 4, 3) := by decide +kernel
theorem d_Mo_dsaSign_348 : decode (a_cc M_Mo_dsaSign) 348 = .ok (.iconst 0, 1) := by decide +kernel
theorem d_Mo_dsaSign_349 : decode (a_cc M_Mo_dsaSign) 349 = .ok (.iconst 4, 1) := by decide +kernel
theorem d_Mo_dsaSign_350 : decode (a_cc M_Mo_dsaSign) 350 = .ok (.invokevirtual 112, 3) := by decide +kernel
theorem d_Mo_dsaSign_353 : decode (a_cc M_Mo_dsaSign) 353 = .ok (.ifCond .ne 5, 3) := by decide +kernel
theorem d_Mo_dsaSign_356 : decode (a_cc M_Mo_dsaSign) 356 = .ok (.iconst 0, 1) := by decide +kernel
theorem d_Mo_dsaSign_357 : decode (a_cc M_Mo_dsaSign) 357 = .ok (.ireturn, 1) := by decide +kernel
theorem d_Mo_dsaSign_358 : decode (a_cc M_Mo_dsaSign) 358 = .ok (.iload 5, 2) := by decide +kernel
theorem d_Mo_dsaSign_360 : decode (a_cc M_Mo_dsaSign) 360 = .ok (.iconst 1, 1) := by decide +kernel
theorem d_Mo_dsaSign_361 : decode (a_cc M_Mo_dsaSign) 361 = .ok (.if_icmp .ne 62, 3) := by decide +kernel
theorem d_Mo_dsaSign_364 : decode (a_cc M_Mo_dsaSign) 364 = .ok (.aload_n 0, 1) := by decide +kernel
theorem d_Mo_dsaSign_365 : decode (a_cc M_Mo_dsaSign) 365 = .ok (.getfield 18, 3) := by decide +kernel
theorem d_Mo_dsaSign_368 : decode (a_cc M_Mo_dsaSign) 368 = .ok (.iconst 5, 1) := by decide +kernel
theorem d_Mo_dsaSign_369 : decode (a_cc M_Mo_dsaSign) 369 = .ok (.aload_n 0, 1) := by decide +kernel
theorem d_Mo_dsaSign_370 : decode (a_cc M_Mo_dsaSign) 370 = .ok (.getfield 248, 3) := by decide +kernel
theorem d_Mo_dsaSign_373 : decode (a_cc M_Mo_dsaSign) 373 = .ok (.bipush 32, 2) := by decide +kernel
theorem d_Mo_dsaSign_375 : decode (a_cc M_Mo_dsaSign) 375 = .ok (.aload_n 0, 1) := by decide +kernel
theorem d_Mo_dsaSign_376 : decode (a_cc M_Mo_dsaSign) 376 = .ok (.getfield 226, 3) := by decide +kernel
theorem d_Mo_dsaSign_379 : decode (a_cc M_Mo_dsaSign) 379 = .ok (.imul, 1) := by decide +kernel
theorem d_Mo_dsaSign_380 : decode (a_cc M_Mo_dsaSign) 380 = .ok (.aload_n 0, 1) := by decide +kernel
theorem d_Mo_dsaSign_381 : decode (a_cc M_Mo_dsaSign) 381 = .ok (.getfield 251, 3) := by decide +kernel
theorem d_Mo_dsaSign_384 : decode (a_cc M_Mo_dsaSign) 384 = .ok (.imul, 1) := by decide +kernel
theorem d_Mo_dsaSign_385 : decode (a_cc M_Mo_dsaSign) 385 = .ok (.iadd, 1) := by decide +kernel
theorem d_Mo_dsaSign_386 : decode (a_cc M_Mo_dsaSign) 386 = .ok (.aload_n 0, 1) := by decide +kernel
theorem d_Mo_dsaSign_387 : decode (a_cc M_Mo_dsaSign) 387 = .ok (.getfield 245, 3) := by decide +kernel
theorem d_Mo_dsaSign_390 : decode (a_cc M_Mo_dsaSign) 390 = .ok (.iadd, 1) := by decide +kernel
theorem d_Mo_dsaSign_391 : decode (a_cc M_Mo_dsaSign) 391 = .ok (.aload_n 0, 1) := by decide +kernel
theorem d_Mo_dsaSign_392 : decode (a_cc M_Mo_dsaSign) 392 = .ok (.getfield 223, 3) := by decide +kernel
theorem d_Mo_dsaSign_395 : decode (a_cc M_Mo_dsaSign) 395 = .ok (.iadd, 1) := by decide +kernel
theorem d_Mo_dsaSign_396 : decode (a_cc M_Mo_dsaSign) 396 = .ok (.iastore, 1) := by decide +kernel
theorem d_Mo_dsaSign_397 : decode (a_cc M_Mo_dsaSign) 397 = .ok (.aload_n 0, 1) := by decide +kernel
theorem d_Mo_dsaSign_398 : decode (a_cc M_Mo_dsaSign) 398 = .ok (.getfield 87, 3) := by decide +kernel
theorem d_Mo_dsaSign_401 : decode (a_cc M_Mo_dsaSign) 401 = .ok (.iconst 0, 1) := by decide +kernel
theorem d_Mo_dsaSign_402 : decode (a_cc M_Mo_dsaSign) 402 = .ok (.aload_n 0, 1) := by decide +kernel
theorem d_Mo_dsaSign_403 : decode (a_cc M_Mo_dsaSign) 403 = .ok (.getfield 15, 3) := by decide +kernel
theorem d_Mo_dsaSign_406 : decode (a_cc M_Mo_dsaSign) 406 = .ok (.iconst 5, 1) := by decide +kernel
theorem d_Mo_dsaSign_407 : decode (a_cc M_Mo_dsaSign) 407 = .ok (.aaload, 1) := by decide +kernel
theorem d_Mo_dsaSign_408 : decode (a_cc M_Mo_dsaSign) 408 = .ok (.iconst 0, 1) := by decide +kernel
theorem d_Mo_dsaSign_409 : decode (a_cc M_Mo_dsaSign) 409 = .ok (.aload_n 0, 1) := by decide +kernel
theorem d_Mo_dsaSign_410 : decode (a_cc M_Mo_dsaSign) 410 = .ok (.getfield 18, 3) := by decide +kernel
theorem d_Mo_dsaSign_413 : decode (a_cc M_Mo_dsaSign) 413 = .ok (.iconst 5, 1) := by decide +kernel
theorem d_Mo_dsaSign_414 : decode (a_cc M_Mo_dsaSign) 414 = .ok (.iaload, 1) := by decide +kernel
theorem d_Mo_dsaSign_415 : decode (a_cc M_Mo_dsaSign) 415 = .ok (.invokestatic 318, 3) := by decide +kernel
theorem d_Mo_dsaSign_418 : decode (a_cc M_Mo_dsaSign) 418 = .ok (.iload 4, 2) := by decide +kernel
theorem d_Mo_dsaSign_420 : decode (a_cc M_Mo_dsaSign) 420 = .ok (.iconst 1, 1) := by decide +kernel
theorem d_Mo_dsaSign_421 : decode (a_cc M_Mo_dsaSign) 421 = .ok (.iadd, 1) := by decide +kernel
theorem d_Mo_dsaSign_422 : decode (a_cc M_Mo_dsaSign) 422 = .ok (.ireturn, 1) := by decide +kernel
theorem d_Mo_dsaSign_423 : decode (a_cc M_Mo_dsaSign) 423 = .ok (.iinc 4 1, 3) := by decide +kernel
theorem d_Mo_dsaSign_426 : decode (a_cc M_Mo_dsaSign) 426 = .ok (.goto (-109), 3) := by decide +kernel
theorem d_Mo_dsaSign_429 : decode (a_cc M_Mo_dsaSign) 429 = .ok (.aload_n 0, 1) := by decide +kernel
theorem d_Mo_dsaSign_430 : decode (a_cc M_Mo_dsaSign) 430 = .ok (.iconst 0, 1) := by decide +kernel
theorem d_Mo_dsaSign_431 : decode (a_cc M_Mo_dsaSign) 431 = .ok (.iconst 4, 1) := by decide +kernel
theorem d_Mo_dsaSign_432 : decode (a_cc M_Mo_dsaSign) 432 = .ok (.invokevirtual 112, 3) := by decide +kernel
theorem d_Mo_dsaSign_435 : decode (a_cc M_Mo_dsaSign) 435 = .ok (.pop, 1) := by decide +kernel
theorem d_Mo_dsaSign_436 : decode (a_cc M_Mo_dsaSign) 436 = .ok (.iconst 0, 1) := by decide +kernel
theorem d_Mo_dsaSign_437 : decode (a_cc M_Mo_dsaSign) 437 = .ok (.ireturn, 1) := by decide +kernel
theorem cs_Mo_dsaSign_4 : a_CS M_Mo_dsaSign M_Mo_in 120 3 1 3 := ⟨⟨ok_Mo_in, by decide, by decide, by decide⟩, List.mem_append_right _ (List.mem_of_getElem? (i := 1252) (by decide +kernel)), List.mem_append_right _ (List.mem_of_getElem? (i := 1253) (by decide +kernel)), by decide +kernel⟩
theorem cs_Mo_dsaSign_13 : a_CS M_Mo_dsaSign M_Mo_in 120 3 1 3 := ⟨⟨ok_Mo_in, by decide, by decide, by decide⟩, List.mem_append_right _ (List.mem_of_getElem? (i := 1252) (by decide +kernel)), List.mem_append_right _ (List.mem_of_getElem? (i := 1253) (by decide +kernel)), by decide +kernel⟩
theorem cs_Mo_dsaSign_25 : a_CV M_Mo_dsaSign M_Mo_good 112 10 3 0 2 := ⟨⟨ok_Mo_good, by decide, by decide, by decide⟩, by decide, rfl, List.mem_append_right _ (List.mem_of_getElem? (i := 1240) (by decide +kernel)), List.mem_append_right _ (List.mem_of_getElem? (i := 1242) (by decide +kernel)), List.mem_append_left _ (List.mem_of_getElem? (i := 41) (by decide +kernel)), by decide +kernel⟩
theorem cs_Mo_dsaSign_35 : a_CV M_Mo_dsaSign M_Mo_dsa 287 10 2 0 1 := ⟨⟨ok_Mo_dsa, by decide, by decide, by decide⟩, by decide, rfl, List.mem_append_right _ (List.mem_of_getElem? (i := 1283) (by decide +kernel)), List.mem_append_right _ (List.mem_of_getElem? (i := 1285) (by decide +kernel)), List.mem_append_left _ (List.mem_of_getElem? (i := 43) (by decide +kernel)), by decide +kernel⟩
theorem cs_Mo_dsaSign_41 : a_CV M_Mo_dsaSign M_Mo_context 331 10 2 1 1 := ⟨⟨ok_Mo_context, by decide, by decide, by decide⟩, by decide, rfl, List.mem_append_right _ (List.mem_of_getElem? (i := 1359) (by decide +kernel)), List.mem_append_right _ (List.mem_of_getElem? (i := 1361) (by decide +kernel)), List.mem_append_left _ (List.mem_of_getElem? (i := 55) (by decide +kernel)), by decide +kernel⟩
theorem cs_Mo_dsaSign_73 : a_CV M_Mo_dsaSign M_Mo_good 112 10 3 0 2 := ⟨⟨ok_Mo_good, by decide, by decide, by decide⟩, by decide, rfl, List.mem_append_right _ (List.mem_of_getElem? (i := 1240) (by decide +kernel)), List.mem_append_right _ (List.mem_of_getElem? (i := 1242) (by decide +kernel)), List.mem_append_left _ (List.mem_of_getElem? (i := 41) (by decide +kernel)), by decide +kernel⟩
theorem cs_Mo_dsaSign_87 : a_CV M_Mo_dsaSign M_Mo_secretLength 322 10 1 2 0 := ⟨⟨ok_Mo_secretLength, by decide, by decide, by decide⟩, by decide, rfl, List.mem_append_right _ (List.mem_of_getElem? (i := 1351) (by decide +kernel)), List.mem_append_right _ (List.mem_of_getElem? (i := 1353) (by decide +kernel)), List.mem_append_left _ (List.mem_of_getElem? (i := 54) (by decide +kernel)), by decide +kernel⟩
theorem cs_Mo_dsaSign_99 : a_CV M_Mo_dsaSign M_Mo_good 112 10 3 0 2 := ⟨⟨ok_Mo_good, by decide, by decide, by decide⟩, by decide, rfl, List.mem_append_right _ (List.mem_of_getElem? (i := 1240) (by decide +kernel)), List.mem_append_right _ (List.mem_of_getElem? (i := 1242) (by decide +kernel)), List.mem_append_left _ (List.mem_of_getElem? (i := 41) (by decide +kernel)), by decide +kernel⟩
theorem cs_Mo_dsaSign_117 : a_CV M_Mo_dsaSign M_Mo_digestMessage 334 10 4 0 3 := ⟨⟨ok_Mo_digestMessage, by decide, by decide, by decide⟩, by decide, rfl, List.mem_append_right _ (List.mem_of_getElem? (i := 1363) (by decide +kernel)), List.mem_append_right _ (List.mem_of_getElem? (i := 1365) (by decide +kernel)), List.mem_append_left _ (List.mem_of_getElem? (i := 56) (by decide +kernel)), by decide +kernel⟩
theorem cs_Mo_dsaSign_123 : a_CV M_Mo_dsaSign M_Mo_begin 148 10 2 0 1 := ⟨⟨ok_Mo_begin, by decide, by decide, by decide⟩, by decide, rfl, List.mem_append_right _ (List.mem_of_getElem? (i := 1046) (by decide +kernel)), List.mem_append_right _ (List.mem_of_getElem? (i := 1048) (by decide +kernel)), List.mem_append_left _ (List.mem_of_getElem? (i := 33) (by decide +kernel)), by decide +kernel⟩
theorem cs_Mo_dsaSign_137 : a_CV M_Mo_dsaSign M_Mo_put3 268 10 4 0 3 := ⟨⟨ok_Mo_put3, by decide, by decide, by decide⟩, by decide, rfl, List.mem_append_right _ (List.mem_of_getElem? (i := 1293) (by decide +kernel)), List.mem_append_right _ (List.mem_of_getElem? (i := 1295) (by decide +kernel)), List.mem_append_left _ (List.mem_of_getElem? (i := 44) (by decide +kernel)), by decide +kernel⟩
theorem cs_Mo_dsaSign_170 : a_CV M_Mo_dsaSign M_Mo_put1 153 10 2 0 1 := ⟨⟨ok_Mo_put1, by decide, by decide, by decide⟩, by decide, rfl, List.mem_append_right _ (List.mem_of_getElem? (i := 1058) (by decide +kernel)), List.mem_append_right _ (List.mem_of_getElem? (i := 1060) (by decide +kernel)), List.mem_append_left _ (List.mem_of_getElem? (i := 34) (by decide +kernel)), by decide +kernel⟩
theorem cs_Mo_dsaSign_187 : a_CV M_Mo_dsaSign M_Mo_put3 268 10 4 0 3 := ⟨⟨ok_Mo_put3, by decide, by decide, by decide⟩, by decide, rfl, List.mem_append_right _ (List.mem_of_getElem? (i := 1293) (by decide +kernel)), List.mem_append_right _ (List.mem_of_getElem? (i := 1295) (by decide +kernel)), List.mem_append_left _ (List.mem_of_getElem? (i := 44) (by decide +kernel)), by decide +kernel⟩
theorem cs_Mo_dsaSign_198 : a_CV M_Mo_dsaSign M_Mo_give 290 10 4 0 3 := ⟨⟨ok_Mo_give, by decide, by decide, by decide⟩, by decide, rfl, List.mem_append_right _ (List.mem_of_getElem? (i := 1297) (by decide +kernel)), List.mem_append_right _ (List.mem_of_getElem? (i := 1299) (by decide +kernel)), List.mem_append_left _ (List.mem_of_getElem? (i := 45) (by decide +kernel)), by decide +kernel⟩
theorem cs_Mo_dsaSign_259 : a_CV M_Mo_dsaSign M_Mo_unpack 337 10 6 0 5 := ⟨⟨ok_Mo_unpack, by decide, by decide, by decide⟩, by decide, rfl, List.mem_append_right _ (List.mem_of_getElem? (i := 1375) (by decide +kernel)), List.mem_append_right _ (List.mem_of_getElem? (i := 1377) (by decide +kernel)), List.mem_append_left _ (List.mem_of_getElem? (i := 59) (by decide +kernel)), by decide +kernel⟩
theorem cs_Mo_dsaSign_305 : a_CV M_Mo_dsaSign M_Mo_unpack 337 10 6 0 5 := ⟨⟨ok_Mo_unpack, by decide, by decide, by decide⟩, by decide, rfl, List.mem_append_right _ (List.mem_of_getElem? (i := 1375) (by decide +kernel)), List.mem_append_right _ (List.mem_of_getElem? (i := 1377) (by decide +kernel)), List.mem_append_left _ (List.mem_of_getElem? (i := 59) (by decide +kernel)), by decide +kernel⟩
theorem cs_Mo_dsaSign_333 : a_CV M_Mo_dsaSign M_Mo_attempt 340 10 2 0 1 := ⟨⟨ok_Mo_attempt, by decide, by decide, by decide⟩, by decide, rfl, List.mem_append_right _ (List.mem_of_getElem? (i := 1386) (by decide +kernel)), List.mem_append_right _ (List.mem_of_getElem? (i := 1388) (by decide +kernel)), List.mem_append_left _ (List.mem_of_getElem? (i := 61) (by decide +kernel)), by decide +kernel⟩
theorem cs_Mo_dsaSign_350 : a_CV M_Mo_dsaSign M_Mo_good 112 10 3 0 2 := ⟨⟨ok_Mo_good, by decide, by decide, by decide⟩, by decide, rfl, List.mem_append_right _ (List.mem_of_getElem? (i := 1240) (by decide +kernel)), List.mem_append_right _ (List.mem_of_getElem? (i := 1242) (by decide +kernel)), List.mem_append_left _ (List.mem_of_getElem? (i := 41) (by decide +kernel)), by decide +kernel⟩
theorem cs_Mo_dsaSign_415 : a_CS M_Mo_dsaSign M_Mo_move 318 5 0 5 := ⟨⟨ok_Mo_move, by decide, by decide, by decide⟩, List.mem_append_right _ (List.mem_of_getElem? (i := 1348) (by decide +kernel)), List.mem_append_right _ (List.mem_of_getElem? (i := 1349) (by decide +kernel)), by decide +kernel⟩
theorem cs_Mo_dsaSign_432 : a_CV M_Mo_dsaSign M_Mo_good 112 10 3 0 2 := ⟨⟨ok_Mo_good, by decide, by decide, by decide⟩, by decide, rfl, List.mem_append_right _ (List.mem_of_getElem? (i := 1240) (by decide +kernel)), List.mem_append_right _ (List.mem_of_getElem? (i := 1242) (by decide +kernel)), List.mem_append_left _ (List.mem_of_getElem? (i := 41) (by decide +kernel)), by decide +kernel⟩
def M_Ve_hintsStart : a_M := (⟨"ModuleSigner$Verifier", "hintsStart", "(LModuleSigner$Parameters;)I"⟩, prog_10_method_3_code, 1, some .int, "ModuleSigner$Verifier", 0, 0, [])
theorem ok_Ve_hintsStart : a_Ok M_Ve_hintsStart := ⟨rfl, by decide +kernel, ⟨by decide, by decide⟩, List.mem_append_right _ (List.mem_of_getElem? (i := 10) (by decide +kernel)), Or.inl ⟨rfl, List.mem_append_right _ (List.mem_of_getElem? (i := 959) (by decide +kernel))⟩⟩
theorem d_Ve_hintsStart_0 : decode (a_cc M_Ve_hintsStart) 0 = .ok (.aload_n 0, 1) := by decide +kernel
theorem d_Ve_hintsStart_1 : decode (a_cc M_Ve_hintsStart) 1 = .ok (.getfield 31, 3) := by decide +kernel
theorem d_Ve_hintsStart_4 : decode (a_cc M_Ve_hintsStart) 4 = .ok (.aload_n 0, 1) := by decide +kernel
theorem d_Ve_hintsStart_5 : decode (a_cc M_Ve_hintsStart) 5 = .ok (.getfield 78, 3) := by decide +kernel
theorem d_Ve_hintsStart_8 : decode (a_cc M_Ve_hintsStart) 8 = .ok (.isub, 1) := by decide +kernel
theorem d_Ve_hintsStart_9 : decode (a_cc M_Ve_hintsStart) 9 = .ok (.aload_n 0, 1) := by decide +kernel
theorem d_Ve_hintsStart_10 : decode (a_cc M_Ve_hintsStart) 10 = .ok (.getfield 81, 3) := by decide +kernel
theorem d_Ve_hintsStart_13 : decode (a_cc M_Ve_hintsStart) 13 = .ok (.isub, 1) := by decide +kernel
theorem d_Ve_hintsStart_14 : decode (a_cc M_Ve_hintsStart) 14 = .ok (.ireturn, 1) := by decide +kernel
theorem fd_Ve_31 : a_Fd "ModuleSigner$Verifier" 31 2 15 0 := ⟨by decide, by decide, rfl, List.mem_append_right _ (List.mem_of_getElem? (i := 128) (by decide +kernel))⟩
theorem fd_Ve_78 : a_Fd "ModuleSigner$Verifier" 78 2 6 0 := ⟨by decide, by decide, rfl, List.mem_append_right _ (List.mem_of_getElem? (i := 104) (by decide +kernel))⟩
theorem fd_Ve_81 : a_Fd "ModuleSigner$Verifier" 81 2 0 0 := ⟨by decide, by decide, rfl, List.mem_append_right _ (List.mem_of_getElem? (i := 83) (by decide +kernel))⟩
def M_Ve_hintsEnd : a_M := (⟨"ModuleSigner$Verifier", "hintsEnd", "(LModuleSigner$Bytes;LModuleSigner$Parameters;I)I"⟩, prog_10_method_4_code, 3, some .int, "ModuleSigner$Verifier", 1, 13, [])
theorem ok_Ve_hintsEnd : a_Ok M_Ve_hintsEnd := ⟨rfl, by decide +kernel, ⟨by decide, by decide⟩, List.mem_append_right _ (List.mem_of_getElem? (i := 10) (by decide +kernel)), Or.inl ⟨rfl, List.mem_append_right _ (List.mem_of_getElem? (i := 956) (by decide +kernel))⟩⟩
theorem d_Ve_hintsEnd_0 : decode (a_cc M_Ve_hintsEnd) 0 = .ok (.iload_n 2, 1) := by decide +kernel
theorem d_Ve_hintsEnd_1 : decode (a_cc M_Ve_hintsEnd) 1 = .ok (.ifCond .ge 7, 3) := by decide +kernel
theorem d_Ve_hintsEnd_4 : decode (a_cc M_Ve_hintsEnd) 4 = .ok (.iconst 0, 1) := by decide +kernel
theorem d_Ve_hintsEnd_5 : decode (a_cc M_Ve_hintsEnd) 5 = .ok (.goto 18, 3) := by decide +kernel
theorem d_Ve_hintsEnd_8 : decode (a_cc M_Ve_hintsEnd) 8 = .ok (.aload_n 0, 1) := by decide +kernel
theorem d_Ve_hintsEnd_9 : decode (a_cc M_Ve_hintsEnd) 9 = .ok (.aload_n 1, 1) := by decide +kernel
theorem d_Ve_hintsEnd_10 : decode (a_cc M_Ve_hintsEnd) 10 = .ok (.invokestatic 84, 3) := by decide +kernel
theorem d_Ve_hintsEnd_13 : decode (a_cc M_Ve_hintsEnd) 13 = .ok (.aload_n 1, 1) := by decide +kernel
theorem d_Ve_hintsEnd_14 : decode (a_cc M_Ve_hintsEnd) 14 = .ok (.getfield 78, 3) := by decide +kernel
theorem d_Ve_hintsEnd_17 : decode (a_cc M_Ve_hintsEnd) 17 = .ok (.iadd, 1) := by decide +kernel
theorem d_Ve_hintsEnd_18 : decode (a_cc M_Ve_hintsEnd) 18 = .ok (.iload_n 2, 1) := by decide +kernel
theorem d_Ve_hintsEnd_19 : decode (a_cc M_Ve_hintsEnd) 19 = .ok (.iadd, 1) := by decide +kernel
theorem d_Ve_hintsEnd_20 : decode (a_cc M_Ve_hintsEnd) 20 = .ok (.invokevirtual 88, 3) := by decide +kernel
theorem d_Ve_hintsEnd_23 : decode (a_cc M_Ve_hintsEnd) 23 = .ok (.ireturn, 1) := by decide +kernel
theorem cs_Ve_hintsEnd_10 : a_CS M_Ve_hintsEnd M_Ve_hintsStart 84 1 1 1 := ⟨⟨ok_Ve_hintsStart, by decide, by decide, by decide⟩, List.mem_append_right _ (List.mem_of_getElem? (i := 957) (by decide +kernel)), List.mem_append_right _ (List.mem_of_getElem? (i := 958) (by decide +kernel)), by decide +kernel⟩
theorem cs_Ve_hintsEnd_20 : a_CV M_Ve_hintsEnd M_By_at 88 1 2 0 1 := ⟨⟨ok_By_at, by decide, by decide, by decide⟩, by decide, rfl, List.mem_append_right _ (List.mem_of_getElem? (i := 960) (by decide +kernel)), List.mem_append_right _ (List.mem_of_getElem? (i := 537) (by decide +kernel)), List.mem_append_right _ (List.mem_of_getElem? (i := 538) (by decide +kernel)), by decide +kernel⟩
def M_Ve_placesRise : a_M := (⟨"ModuleSigner$Verifier", "placesRise", "(LModuleSigner$Bytes;II)Z"⟩, prog_10_method_6_code, 4, some .boolean, "ModuleSigner$Verifier", 1, 14, [])
theorem ok_Ve_placesRise : a_Ok M_Ve_placesRise := ⟨rfl, by decide +kernel, ⟨by decide, by decide⟩, List.mem_append_right _ (List.mem_of_getElem? (i := 10) (by decide +kernel)), Or.inl ⟨rfl, List.mem_append_right _ (List.mem_of_getElem? (i := 963) (by decide +kernel))⟩⟩
theorem d_Ve_placesRise_0 : decode (a_cc M_Ve_placesRise) 0 = .ok (.iload_n 1, 1) := by decide +kernel
theorem d_Ve_placesRise_1 : decode (a_cc M_Ve_placesRise) 1 = .ok (.iconst 1, 1) := by decide +kernel
theorem d_Ve_placesRise_2 : decode (a_cc M_Ve_placesRise) 2 = .ok (.iadd, 1) := by decide +kernel
theorem d_Ve_placesRise_3 : decode (a_cc M_Ve_placesRise) 3 = .ok (.istore_n 3, 1) := by decide +kernel
theorem d_Ve_placesRise_4 : decode (a_cc M_Ve_placesRise) 4 = .ok (.iload_n 3, 1) := by decide +kernel
theorem d_Ve_placesRise_5 : decode (a_cc M_Ve_placesRise) 5 = .ok (.iload_n 2, 1) := by decide +kernel
theorem d_Ve_placesRise_6 : decode (a_cc M_Ve_placesRise) 6 = .ok (.if_icmp .ge 26, 3) := by decide +kernel
theorem d_Ve_placesRise_9 : decode (a_cc M_Ve_placesRise) 9 = .ok (.aload_n 0, 1) := by decide +kernel
theorem d_Ve_placesRise_10 : decode (a_cc M_Ve_placesRise) 10 = .ok (.iload_n 3, 1) := by decide +kernel
theorem d_Ve_placesRise_11 : decode (a_cc M_Ve_placesRise) 11 = .ok (.invokevirtual 88, 3) := by decide +kernel
theorem d_Ve_placesRise_14 : decode (a_cc M_Ve_placesRise) 14 = .ok (.aload_n 0, 1) := by decide +kernel
theorem d_Ve_placesRise_15 : decode (a_cc M_Ve_placesRise) 15 = .ok (.iload_n 3, 1) := by decide +kernel
theorem d_Ve_placesRise_16 : decode (a_cc M_Ve_placesRise) 16 = .ok (.iconst 1, 1) := by decide +kernel
theorem d_Ve_placesRise_17 : decode (a_cc M_Ve_placesRise) 17 = .ok (.isub, 1) := by decide +kernel
theorem d_Ve_placesRise_18 : decode (a_cc M_Ve_placesRise) 18 = .ok (.invokevirtual 88, 3) := by decide +kernel
theorem d_Ve_placesRise_21 : decode (a_cc M_Ve_placesRise) 21 = .ok (.if_icmp .gt 5, 3) := by decide +kernel
theorem d_Ve_placesRise_24 : decode (a_cc M_Ve_placesRise) 24 = .ok (.iconst 0, 1) := by decide +kernel
theorem d_Ve_placesRise_25 : decode (a_cc M_Ve_placesRise) 25 = .ok (.ireturn, 1) := by decide +kernel
theorem d_Ve_placesRise_26 : decode (a_cc M_Ve_placesRise) 26 = .ok (.iinc 3 1, 3) := by decide +kernel
theorem d_Ve_placesRise_29 : decode (a_cc M_Ve_placesRise) 29 = .ok (.goto (-25), 3) := by decide +kernel
theorem d_Ve_placesRise_32 : decode (a_cc M_Ve_placesRise) 32 = .ok (.iconst 1, 1) := by decide +kernel
theorem d_Ve_placesRise_33 : decode (a_cc M_Ve_placesRise) 33 = .ok (.ireturn, 1) := by decide +kernel
theorem cs_Ve_placesRise_11 : a_CV M_Ve_placesRise M_By_at 88 1 2 0 1 := ⟨⟨ok_By_at, by decide, by decide, by decide⟩, by decide, rfl, List.mem_append_right _ (List.mem_of_getElem? (i := 960) (by decide +kernel)), List.mem_append_right _ (List.mem_of_getElem? (i := 537) (by decide +kernel)), List.mem_append_right _ (List.mem_of_getElem? (i := 538) (by decide +kernel)), by decide +kernel⟩
theorem cs_Ve_placesRise_18 : a_CV M_Ve_placesRise M_By_at 88 1 2 1 1 := ⟨⟨ok_By_at, by decide, by decide, by decide⟩, by decide, rfl, List.mem_append_right _ (List.mem_of_getElem? (i := 960) (by decide +kernel)), List.mem_append_right _ (List.mem_of_getElem? (i := 537) (by decide +kernel)), List.mem_append_right _ (List.mem_of_getElem? (i := 538) (by decide +kernel)), by decide +kernel⟩
def M_Ve_hintsStand : a_M := (⟨"ModuleSigner$Verifier", "hintsStand", "(LModuleSigner$Bytes;LModuleSigner$Parameters;)Z"⟩, prog_10_method_5_code, 5, some .boolean, "ModuleSigner$Verifier", 2, 29, [])
theorem ok_Ve_hintsStand : a_Ok M_Ve_hintsStand := ⟨rfl, by decide +kernel, ⟨by decide, by decide⟩, List.mem_append_right _ (List.mem_of_getElem? (i := 10) (by decide +kernel)), Or.inl ⟨rfl, List.mem_append_right _ (List.mem_of_getElem? (i := 953) (by decide +kernel))⟩⟩
theorem d_Ve_hintsStand_0 : decode (a_cc M_Ve_hintsStand) 0 = .ok (.iconst 0, 1) := by decide +kernel
theorem d_Ve_hintsStand_1 : decode (a_cc M_Ve_hintsStand) 1 = .ok (.istore_n 2, 1) := by decide +kernel
theorem d_Ve_hintsStand_2 : decode (a_cc M_Ve_hintsStand) 2 = .ok (.iload_n 2, 1) := by decide +kernel
theorem d_Ve_hintsStand_3 : decode (a_cc M_Ve_hintsStand) 3 = .ok (.aload_n 1, 1) := by decide +kernel
theorem d_Ve_hintsStand_4 : decode (a_cc M_Ve_hintsStand) 4 = .ok (.getfield 81, 3) := by decide +kernel
theorem d_Ve_hintsStand_7 : decode (a_cc M_Ve_hintsStand) 7 = .ok (.if_icmp .ge 63, 3) := by decide +kernel
theorem d_Ve_hintsStand_10 : decode (a_cc M_Ve_hintsStand) 10 = .ok (.aload_n 0, 1) := by decide +kernel
theorem d_Ve_hintsStand_11 : decode (a_cc M_Ve_hintsStand) 11 = .ok (.aload_n 1, 1) := by decide +kernel
theorem d_Ve_hintsStand_12 : decode (a_cc M_Ve_hintsStand) 12 = .ok (.iload_n 2, 1) := by decide +kernel
theorem d_Ve_hintsStand_13 : decode (a_cc M_Ve_hintsStand) 13 = .ok (.iconst 1, 1) := by decide +kernel
theorem d_Ve_hintsStand_14 : decode (a_cc M_Ve_hintsStand) 14 = .ok (.isub, 1) := by decide +kernel
theorem d_Ve_hintsStand_15 : decode (a_cc M_Ve_hintsStand) 15 = .ok (.invokestatic 92, 3) := by decide +kernel
theorem d_Ve_hintsStand_18 : decode (a_cc M_Ve_hintsStand) 18 = .ok (.istore_n 3, 1) := by decide +kernel
theorem d_Ve_hintsStand_19 : decode (a_cc M_Ve_hintsStand) 19 = .ok (.aload_n 0, 1) := by decide +kernel
theorem d_Ve_hintsStand_20 : decode (a_cc M_Ve_hintsStand) 20 = .ok (.aload_n 1, 1) := by decide +kernel
theorem d_Ve_hintsStand_21 : decode (a_cc M_Ve_hintsStand) 21 = .ok (.iload_n 2, 1) := by decide +kernel
theorem d_Ve_hintsStand_22 : decode (a_cc M_Ve_hintsStand) 22 = .ok (.invokestatic 92, 3) := by decide +kernel
theorem d_Ve_hintsStand_25 : decode (a_cc M_Ve_hintsStand) 25 = .ok (.istore 4, 2) := by decide +kernel
theorem d_Ve_hintsStand_27 : decode (a_cc M_Ve_hintsStand) 27 = .ok (.iload 4, 2) := by decide +kernel
theorem d_Ve_hintsStand_29 : decode (a_cc M_Ve_hintsStand) 29 = .ok (.iload_n 3, 1) := by decide +kernel
theorem d_Ve_hintsStand_30 : decode (a_cc M_Ve_hintsStand) 30 = .ok (.if_icmp .lt 32, 3) := by decide +kernel
theorem d_Ve_hintsStand_33 : decode (a_cc M_Ve_hintsStand) 33 = .ok (.iload 4, 2) := by decide +kernel
theorem d_Ve_hintsStand_35 : decode (a_cc M_Ve_hintsStand) 35 = .ok (.aload_n 1, 1) := by decide +kernel
theorem d_Ve_hintsStand_36 : decode (a_cc M_Ve_hintsStand) 36 = .ok (.getfield 78, 3) := by decide +kernel
theorem d_Ve_hintsStand_39 : decode (a_cc M_Ve_hintsStand) 39 = .ok (.if_icmp .gt 23, 3) := by decide +kernel
theorem d_Ve_hintsStand_42 : decode (a_cc M_Ve_hintsStand) 42 = .ok (.aload_n 0, 1) := by decide +kernel
theorem d_Ve_hintsStand_43 : decode (a_cc M_Ve_hintsStand) 43 = .ok (.aload_n 1, 1) := by decide +kernel
theorem d_Ve_hintsStand_44 : decode (a_cc M_Ve_hintsStand) 44 = .ok (.invokestatic 84, 3) := by decide +kernel
theorem d_Ve_hintsStand_47 : decode (a_cc M_Ve_hintsStand) 47 = .ok (.iload_n 3, 1) := by decide +kernel
theorem d_Ve_hintsStand_48 : decode (a_cc M_Ve_hintsStand) 48 = .ok (.iadd, 1) := by decide +kernel
theorem d_Ve_hintsStand_49 : decode (a_cc M_Ve_hintsStand) 49 = .ok (.aload_n 1, 1) := by decide +kernel
theorem d_Ve_hintsStand_50 : decode (a_cc M_Ve_hintsStand) 50 = .ok (.invokestatic 84, 3) := by decide +kernel
theorem d_Ve_hintsStand_53 : decode (a_cc M_Ve_hintsStand) 53 = .ok (.iload 4, 2) := by decide +kernel
theorem d_Ve_hintsStand_55 : decode (a_cc M_Ve_hintsStand) 55 = .ok (.iadd, 1) := by decide +kernel
theorem d_Ve_hintsStand_56 : decode (a_cc M_Ve_hintsStand) 56 = .ok (.invokestatic 96, 3) := by decide +kernel
theorem d_Ve_hintsStand_59 : decode (a_cc M_Ve_hintsStand) 59 = .ok (.ifCond .ne 5, 3) := by decide +kernel
theorem d_Ve_hintsStand_62 : decode (a_cc M_Ve_hintsStand) 62 = .ok (.iconst 0, 1) := by decide +kernel
theorem d_Ve_hintsStand_63 : decode (a_cc M_Ve_hintsStand) 63 = .ok (.ireturn, 1) := by decide +kernel
theorem d_Ve_hintsStand_64 : decode (a_cc M_Ve_hintsStand) 64 = .ok (.iinc 2 1, 3) := by decide +kernel
theorem d_Ve_hintsStand_67 : decode (a_cc M_Ve_hintsStand) 67 = .ok (.goto (-65), 3) := by decide +kernel
theorem d_Ve_hintsStand_70 : decode (a_cc M_Ve_hintsStand) 70 = .ok (.aload_n 0, 1) := by decide +kernel
theorem d_Ve_hintsStand_71 : decode (a_cc M_Ve_hintsStand) 71 = .ok (.aload_n 1, 1) := by decide +kernel
theorem d_Ve_hintsStand_72 : decode (a_cc M_Ve_hintsStand) 72 = .ok (.aload_n 1, 1) := by decide +kernel
theorem d_Ve_hintsStand_73 : decode (a_cc M_Ve_hintsStand) 73 = .ok (.getfield 81, 3) := by decide +kernel
theorem d_Ve_hintsStand_76 : decode (a_cc M_Ve_hintsStand) 76 = .ok (.iconst 1, 1) := by decide +kernel
theorem d_Ve_hintsStand_77 : decode (a_cc M_Ve_hintsStand) 77 = .ok (.isub, 1) := by decide +kernel
theorem d_Ve_hintsStand_78 : decode (a_cc M_Ve_hintsStand) 78 = .ok (.invokestatic 92, 3) := by decide +kernel
theorem d_Ve_hintsStand_81 : decode (a_cc M_Ve_hintsStand) 81 = .ok (.istore_n 2, 1) := by decide +kernel
theorem d_Ve_hintsStand_82 : decode (a_cc M_Ve_hintsStand) 82 = .ok (.iload_n 2, 1) := by decide +kernel
theorem d_Ve_hintsStand_83 : decode (a_cc M_Ve_hintsStand) 83 = .ok (.aload_n 1, 1) := by decide +kernel
theorem d_Ve_hintsStand_84 : decode (a_cc M_Ve_hintsStand) 84 = .ok (.getfield 78, 3) := by decide +kernel
theorem d_Ve_hintsStand_87 : decode (a_cc M_Ve_hintsStand) 87 = .ok (.if_icmp .ge 24, 3) := by decide +kernel
theorem d_Ve_hintsStand_90 : decode (a_cc M_Ve_hintsStand) 90 = .ok (.aload_n 0, 1) := by decide +kernel
theorem d_Ve_hintsStand_91 : decode (a_cc M_Ve_hintsStand) 91 = .ok (.aload_n 1, 1) := by decide +kernel
theorem d_Ve_hintsStand_92 : decode (a_cc M_Ve_hintsStand) 92 = .ok (.invokestatic 84, 3) := by decide +kernel
theorem d_Ve_hintsStand_95 : decode (a_cc M_Ve_hintsStand) 95 = .ok (.iload_n 2, 1) := by decide +kernel
theorem d_Ve_hintsStand_96 : decode (a_cc M_Ve_hintsStand) 96 = .ok (.iadd, 1) := by decide +kernel
theorem d_Ve_hintsStand_97 : decode (a_cc M_Ve_hintsStand) 97 = .ok (.invokevirtual 88, 3) := by decide +kernel
theorem d_Ve_hintsStand_100 : decode (a_cc M_Ve_hintsStand) 100 = .ok (.ifCond .eq 5, 3) := by decide +kernel
theorem d_Ve_hintsStand_103 : decode (a_cc M_Ve_hintsStand) 103 = .ok (.iconst 0, 1) := by decide +kernel
theorem d_Ve_hintsStand_104 : decode (a_cc M_Ve_hintsStand) 104 = .ok (.ireturn, 1) := by decide +kernel
theorem d_Ve_hintsStand_105 : decode (a_cc M_Ve_hintsStand) 105 = .ok (.iinc 2 1, 3) := by decide +kernel
theorem d_Ve_hintsStand_108 : decode (a_cc M_Ve_hintsStand) 108 = .ok (.goto (-26), 3) := by decide +kernel
theorem d_Ve_hintsStand_111 : decode (a_cc M_Ve_hintsStand) 111 = .ok (.iconst 1, 1) := by decide +kernel
theorem d_Ve_hintsStand_112 : decode (a_cc M_Ve_hintsStand) 112 = .ok (.ireturn, 1) := by decide +kernel
theorem cs_Ve_hintsStand_15 : a_CS M_Ve_hintsStand M_Ve_hintsEnd 92 3 0 3 := ⟨⟨ok_Ve_hintsEnd, by decide, by decide, by decide⟩, List.mem_append_right _ (List.mem_of_getElem? (i := 954) (by decide +kernel)), List.mem_append_right _ (List.mem_of_getElem? (i := 955) (by decide +kernel)), by decide +kernel⟩
theorem cs_Ve_hintsStand_22 : a_CS M_Ve_hintsStand M_Ve_hintsEnd 92 3 0 3 := ⟨⟨ok_Ve_hintsEnd, by decide, by decide, by decide⟩, List.mem_append_right _ (List.mem_of_getElem? (i := 954) (by decide +kernel)), List.mem_append_right _ (List.mem_of_getElem? (i := 955) (by decide +kernel)), by decide +kernel⟩
theorem cs_Ve_hintsStand_44 : a_CS M_Ve_hintsStand M_Ve_hintsStart 84 1 1 1 := ⟨⟨ok_Ve_hintsStart, by decide, by decide, by decide⟩, List.mem_append_right _ (List.mem_of_getElem? (i := 957) (by decide +kernel)), List.mem_append_right _ (List.mem_of_getElem? (i := 958) (by decide +kernel)), by decide +kernel⟩
theorem cs_Ve_hintsStand_50 : a_CS M_Ve_hintsStand M_Ve_hintsStart 84 1 2 1 := ⟨⟨ok_Ve_hintsStart, by decide, by decide, by decide⟩, List.mem_append_right _ (List.mem_of_getElem? (i := 957) (by decide +kernel)), List.mem_append_right _ (List.mem_of_getElem? (i := 958) (by decide +kernel)), by decide +kernel⟩
theorem cs_Ve_hintsStand_56 : a_CS M_Ve_hintsStand M_Ve_placesRise 96 3 0 3 := ⟨⟨ok_Ve_placesRise, by decide, by decide, by decide⟩, List.mem_append_right _ (List.mem_of_getElem? (i := 961) (by decide +kernel)), List.mem_append_right _ (List.mem_of_getElem? (i := 962) (by decide +kernel)), by decide +kernel⟩
theorem cs_Ve_hintsStand_78 : a_CS M_Ve_hintsStand M_Ve_hintsEnd 92 3 0 3 := ⟨⟨ok_Ve_hintsEnd, by decide, by decide, by decide⟩, List.mem_append_right _ (List.mem_of_getElem? (i := 954) (by decide +kernel)), List.mem_append_right _ (List.mem_of_getElem? (i := 955) (by decide +kernel)), by decide +kernel⟩
theorem cs_Ve_hintsStand_92 : a_CS M_Ve_hintsStand M_Ve_hintsStart 84 1 1 1 := ⟨⟨ok_Ve_hintsStart, by decide, by decide, by decide⟩, List.mem_append_right _ (List.mem_of_getElem? (i := 957) (by decide +kernel)), List.mem_append_right _ (List.mem_of_getElem? (i := 958) (by decide +kernel)), by decide +kernel⟩
theorem cs_Ve_hintsStand_97 : a_CV M_Ve_hintsStand M_By_at 88 1 2 0 1 := ⟨⟨ok_By_at, by decide, by decide, by decide⟩, by decide, rfl, List.mem_append_right _ (List.mem_of_getElem? (i := 960) (by decide +kernel)), List.mem_append_right _ (List.mem_of_getElem? (i := 537) (by decide +kernel)), List.mem_append_right _ (List.mem_of_getElem? (i := 538) (by decide +kernel)), by decide +kernel⟩
def M_Ve_answersHide : a_M := (⟨"ModuleSigner$Verifier", "answersHide", "(LModuleSigner$Bytes;LModuleSigner$Parameters;)Z"⟩, prog_10_method_7_code, 4, some .boolean, "ModuleSigner$Verifier", 2, 34, [])
theorem ok_Ve_answersHide : a_Ok M_Ve_answersHide := ⟨rfl, by decide +kernel, ⟨by decide, by decide⟩, List.mem_append_right _ (List.mem_of_getElem? (i := 10) (by decide +kernel)), Or.inl ⟨rfl, List.mem_append_right _ (List.mem_of_getElem? (i := 967) (by decide +kernel))⟩⟩
theorem d_Ve_answersHide_0 : decode (a_cc M_Ve_answersHide) 0 = .ok (.iconst 0, 1) := by decide +kernel
theorem d_Ve_answersHide_1 : decode (a_cc M_Ve_answersHide) 1 = .ok (.istore_n 3, 1) := by decide +kernel
theorem d_Ve_answersHide_2 : decode (a_cc M_Ve_answersHide) 2 = .ok (.iload_n 3, 1) := by decide +kernel
theorem d_Ve_answersHide_3 : decode (a_cc M_Ve_answersHide) 3 = .ok (.aload_n 2, 1) := by decide +kernel
theorem d_Ve_answersHide_4 : decode (a_cc M_Ve_answersHide) 4 = .ok (.getfield 100, 3) := by decide +kernel
theorem d_Ve_answersHide_7 : decode (a_cc M_Ve_answersHide) 7 = .ok (.if_icmp .ge 82, 3) := by decide +kernel
theorem d_Ve_answersHide_10 : decode (a_cc M_Ve_answersHide) 10 = .ok (.aload_n 1, 1) := by decide +kernel
theorem d_Ve_answersHide_11 : decode (a_cc M_Ve_answersHide) 11 = .ok (.aload_n 2, 1) := by decide +kernel
theorem d_Ve_answersHide_12 : decode (a_cc M_Ve_answersHide) 12 = .ok (.getfield 52, 3) := by decide +kernel
theorem d_Ve_answersHide_15 : decode (a_cc M_Ve_answersHide) 15 = .ok (.iload_n 3, 1) := by decide +kernel
theorem d_Ve_answersHide_16 : decode (a_cc M_Ve_answersHide) 16 = .ok (.aload_n 2, 1) := by decide +kernel
theorem d_Ve_answersHide_17 : decode (a_cc M_Ve_answersHide) 17 = .ok (.getfield 103, 3) := by decide +kernel
theorem d_Ve_answersHide_20 : decode (a_cc M_Ve_answersHide) 20 = .ok (.invokestatic 106, 3) := by decide +kernel
theorem d_Ve_answersHide_23 : decode (a_cc M_Ve_answersHide) 23 = .ok (.imul, 1) := by decide +kernel
theorem d_Ve_answersHide_24 : decode (a_cc M_Ve_answersHide) 24 = .ok (.iadd, 1) := by decide +kernel
theorem d_Ve_answersHide_25 : decode (a_cc M_Ve_answersHide) 25 = .ok (.aload_n 2, 1) := by decide +kernel
theorem d_Ve_answersHide_26 : decode (a_cc M_Ve_answersHide) 26 = .ok (.getfield 103, 3) := by decide +kernel
theorem d_Ve_answersHide_29 : decode (a_cc M_Ve_answersHide) 29 = .ok (.aload_n 0, 1) := by decide +kernel
theorem d_Ve_answersHide_30 : decode (a_cc M_Ve_answersHide) 30 = .ok (.getfield 23, 3) := by decide +kernel
theorem d_Ve_answersHide_33 : decode (a_cc M_Ve_answersHide) 33 = .ok (.getfield 111, 3) := by decide +kernel
theorem d_Ve_answersHide_36 : decode (a_cc M_Ve_answersHide) 36 = .ok (.iload_n 3, 1) := by decide +kernel
theorem d_Ve_answersHide_37 : decode (a_cc M_Ve_answersHide) 37 = .ok (.aaload, 1) := by decide +kernel
theorem d_Ve_answersHide_38 : decode (a_cc M_Ve_answersHide) 38 = .ok (.invokevirtual 115, 3) := by decide +kernel
theorem d_Ve_answersHide_41 : decode (a_cc M_Ve_answersHide) 41 = .ok (.aload_n 0, 1) := by decide +kernel
theorem d_Ve_answersHide_42 : decode (a_cc M_Ve_answersHide) 42 = .ok (.getfield 23, 3) := by decide +kernel
theorem d_Ve_answersHide_45 : decode (a_cc M_Ve_answersHide) 45 = .ok (.getfield 111, 3) := by decide +kernel
theorem d_Ve_answersHide_48 : decode (a_cc M_Ve_answersHide) 48 = .ok (.iload_n 3, 1) := by decide +kernel
theorem d_Ve_answersHide_49 : decode (a_cc M_Ve_answersHide) 49 = .ok (.aaload, 1) := by decide +kernel
theorem d_Ve_answersHide_50 : decode (a_cc M_Ve_answersHide) 50 = .ok (.aload_n 2, 1) := by decide +kernel
theorem d_Ve_answersHide_51 : decode (a_cc M_Ve_answersHide) 51 = .ok (.getfield 119, 3) := by decide +kernel
theorem d_Ve_answersHide_54 : decode (a_cc M_Ve_answersHide) 54 = .ok (.invokestatic 122, 3) := by decide +kernel
theorem d_Ve_answersHide_57 : decode (a_cc M_Ve_answersHide) 57 = .ok (.aload_n 0, 1) := by decide +kernel
theorem d_Ve_answersHide_58 : decode (a_cc M_Ve_answersHide) 58 = .ok (.getfield 23, 3) := by decide +kernel
theorem d_Ve_answersHide_61 : decode (a_cc M_Ve_answersHide) 61 = .ok (.getfield 111, 3) := by decide +kernel
theorem d_Ve_answersHide_64 : decode (a_cc M_Ve_answersHide) 64 = .ok (.iload_n 3, 1) := by decide +kernel
theorem d_Ve_answersHide_65 : decode (a_cc M_Ve_answersHide) 65 = .ok (.aaload, 1) := by decide +kernel
theorem d_Ve_answersHide_66 : decode (a_cc M_Ve_answersHide) 66 = .ok (.aload_n 2, 1) := by decide +kernel
theorem d_Ve_answersHide_67 : decode (a_cc M_Ve_answersHide) 67 = .ok (.getfield 119, 3) := by decide +kernel
theorem d_Ve_answersHide_70 : decode (a_cc M_Ve_answersHide) 70 = .ok (.aload_n 2, 1) := by decide +kernel
theorem d_Ve_answersHide_71 : decode (a_cc M_Ve_answersHide) 71 = .ok (.getfield 126, 3) := by decide +kernel
theorem d_Ve_answersHide_74 : decode (a_cc M_Ve_answersHide) 74 = .ok (.isub, 1) := by decide +kernel
theorem d_Ve_answersHide_75 : decode (a_cc M_Ve_answersHide) 75 = .ok (.invokestatic 129, 3) := by decide +kernel
theorem d_Ve_answersHide_78 : decode (a_cc M_Ve_answersHide) 78 = .ok (.ifCond .ne 5, 3) := by decide +kernel
theorem d_Ve_answersHide_81 : decode (a_cc M_Ve_answersHide) 81 = .ok (.iconst 0, 1) := by decide +kernel
theorem d_Ve_answersHide_82 : decode (a_cc M_Ve_answersHide) 82 = .ok (.ireturn, 1) := by decide +kernel
theorem d_Ve_answersHide_83 : decode (a_cc M_Ve_answersHide) 83 = .ok (.iinc 3 1, 3) := by decide +kernel
theorem d_Ve_answersHide_86 : decode (a_cc M_Ve_answersHide) 86 = .ok (.goto (-84), 3) := by decide +kernel
theorem d_Ve_answersHide_89 : decode (a_cc M_Ve_answersHide) 89 = .ok (.iconst 1, 1) := by decide +kernel
theorem d_Ve_answersHide_90 : decode (a_cc M_Ve_answersHide) 90 = .ok (.ireturn, 1) := by decide +kernel
theorem fd_Ve_100 : a_Fd "ModuleSigner$Verifier" 100 2 1 0 := ⟨by decide, by decide, rfl, List.mem_append_right _ (List.mem_of_getElem? (i := 91) (by decide +kernel))⟩
theorem fd_Ve_52 : a_Fd "ModuleSigner$Verifier" 52 2 7 0 := ⟨by decide, by decide, rfl, List.mem_append_right _ (List.mem_of_getElem? (i := 107) (by decide +kernel))⟩
theorem fd_Ve_103 : a_Fd "ModuleSigner$Verifier" 103 2 11 0 := ⟨by decide, by decide, rfl, List.mem_append_right _ (List.mem_of_getElem? (i := 118) (by decide +kernel))⟩
theorem cs_Ve_answersHide_20 : a_CS M_Ve_answersHide M_Ri_packedSize 106 1 3 1 := ⟨⟨ok_Ri_packedSize, by decide, by decide, by decide⟩, List.mem_append_right _ (List.mem_of_getElem? (i := 968) (by decide +kernel)), List.mem_append_right _ (List.mem_of_getElem? (i := 78) (by decide +kernel)), by decide +kernel⟩
theorem fd_Ve_111 : a_Fd "ModuleSigner$Verifier" 111 3 6 2 := ⟨by decide, by decide, rfl, List.mem_append_right _ (List.mem_of_getElem? (i := 247) (by decide +kernel))⟩
theorem cs_Ve_answersHide_38 : a_CV M_Ve_answersHide M_By_readBits 115 1 4 0 3 := ⟨⟨ok_By_readBits, by decide, by decide, by decide⟩, by decide, rfl, List.mem_append_right _ (List.mem_of_getElem? (i := 969) (by decide +kernel)), List.mem_append_right _ (List.mem_of_getElem? (i := 822) (by decide +kernel)), List.mem_append_right _ (List.mem_of_getElem? (i := 823) (by decide +kernel)), by decide +kernel⟩
theorem fd_Ve_119 : a_Fd "ModuleSigner$Verifier" 119 2 4 0 := ⟨by decide, by decide, rfl, List.mem_append_right _ (List.mem_of_getElem? (i := 99) (by decide +kernel))⟩
theorem cs_Ve_answersHide_54 : a_CS M_Ve_answersHide M_Ri_mirror 122 2 0 2 := ⟨⟨ok_Ri_mirror, by decide, by decide, by decide⟩, List.mem_append_right _ (List.mem_of_getElem? (i := 970) (by decide +kernel)), List.mem_append_right _ (List.mem_of_getElem? (i := 772) (by decide +kernel)), by decide +kernel⟩
theorem fd_Ve_126 : a_Fd "ModuleSigner$Verifier" 126 2 9 0 := ⟨by decide, by decide, rfl, List.mem_append_right _ (List.mem_of_getElem? (i := 111) (by decide +kernel))⟩
theorem cs_Ve_answersHide_75 : a_CS M_Ve_answersHide M_Ri_within 129 2 0 2 := ⟨⟨ok_Ri_within, by decide, by decide, by decide⟩, List.mem_append_right _ (List.mem_of_getElem? (i := 971) (by decide +kernel)), List.mem_append_right _ (List.mem_of_getElem? (i := 904) (by decide +kernel)), by decide +kernel⟩
def M_Ve_digestMessage : a_M := (⟨"ModuleSigner$Verifier", "digestMessage", "([LModuleSigner$Bytes;I)V"⟩, prog_10_method_8_code, 3, none, "ModuleSigner$Verifier", 4, 66, [])
theorem ok_Ve_digestMessage : a_Ok M_Ve_digestMessage := ⟨rfl, by decide +kernel, ⟨by decide, by decide⟩, List.mem_append_right _ (List.mem_of_getElem? (i := 10) (by decide +kernel)), Or.inl ⟨rfl, List.mem_append_right _ (List.mem_of_getElem? (i := 975) (by decide +kernel))⟩⟩
theorem d_Ve_digestMessage_0 : decode (a_cc M_Ve_digestMessage) 0 = .ok (.aload_n 0, 1) := by decide +kernel
theorem d_Ve_digestMessage_1 : decode (a_cc M_Ve_digestMessage) 1 = .ok (.getfield 23, 3) := by decide +kernel
theorem d_Ve_digestMessage_4 : decode (a_cc M_Ve_digestMessage) 4 = .ok (.getfield 133, 3) := by decide +kernel
theorem d_Ve_digestMessage_7 : decode (a_cc M_Ve_digestMessage) 7 = .ok (.invokevirtual 137, 3) := by decide +kernel
theorem d_Ve_digestMessage_10 : decode (a_cc M_Ve_digestMessage) 10 = .ok (.aload_n 0, 1) := by decide +kernel
theorem d_Ve_digestMessage_11 : decode (a_cc M_Ve_digestMessage) 11 = .ok (.getfield 23, 3) := by decide +kernel
theorem d_Ve_digestMessage_14 : decode (a_cc M_Ve_digestMessage) 14 = .ok (.getfield 133, 3) := by decide +kernel
theorem d_Ve_digestMessage_17 : decode (a_cc M_Ve_digestMessage) 17 = .ok (.aload_n 1, 1) := by decide +kernel
theorem d_Ve_digestMessage_18 : decode (a_cc M_Ve_digestMessage) 18 = .ok (.iconst 1, 1) := by decide +kernel
theorem d_Ve_digestMessage_19 : decode (a_cc M_Ve_digestMessage) 19 = .ok (.aaload, 1) := by decide +kernel
theorem d_Ve_digestMessage_20 : decode (a_cc M_Ve_digestMessage) 20 = .ok (.iconst 0, 1) := by decide +kernel
theorem d_Ve_digestMessage_21 : decode (a_cc M_Ve_digestMessage) 21 = .ok (.aload_n 1, 1) := by decide +kernel
theorem d_Ve_digestMessage_22 : decode (a_cc M_Ve_digestMessage) 22 = .ok (.iconst 1, 1) := by decide +kernel
theorem d_Ve_digestMessage_23 : decode (a_cc M_Ve_digestMessage) 23 = .ok (.aaload, 1) := by decide +kernel
theorem d_Ve_digestMessage_24 : decode (a_cc M_Ve_digestMessage) 24 = .ok (.getfield 27, 3) := by decide +kernel
theorem d_Ve_digestMessage_27 : decode (a_cc M_Ve_digestMessage) 27 = .ok (.invokevirtual 142, 3) := by decide +kernel
theorem d_Ve_digestMessage_30 : decode (a_cc M_Ve_digestMessage) 30 = .ok (.aload_n 0, 1) := by decide +kernel
theorem d_Ve_digestMessage_31 : decode (a_cc M_Ve_digestMessage) 31 = .ok (.getfield 23, 3) := by decide +kernel
theorem d_Ve_digestMessage_34 : decode (a_cc M_Ve_digestMessage) 34 = .ok (.getfield 133, 3) := by decide +kernel
theorem d_Ve_digestMessage_37 : decode (a_cc M_Ve_digestMessage) 37 = .ok (.invokevirtual 146, 3) := by decide +kernel
theorem d_Ve_digestMessage_40 : decode (a_cc M_Ve_digestMessage) 40 = .ok (.aload_n 0, 1) := by decide +kernel
theorem d_Ve_digestMessage_41 : decode (a_cc M_Ve_digestMessage) 41 = .ok (.getfield 23, 3) := by decide +kernel
theorem d_Ve_digestMessage_44 : decode (a_cc M_Ve_digestMessage) 44 = .ok (.getfield 133, 3) := by decide +kernel
theorem d_Ve_digestMessage_47 : decode (a_cc M_Ve_digestMessage) 47 = .ok (.aload_n 0, 1) := by decide +kernel
theorem d_Ve_digestMessage_48 : decode (a_cc M_Ve_digestMessage) 48 = .ok (.getfield 14, 3) := by decide +kernel
theorem d_Ve_digestMessage_51 : decode (a_cc M_Ve_digestMessage) 51 = .ok (.bipush 64, 2) := by decide +kernel
theorem d_Ve_digestMessage_53 : decode (a_cc M_Ve_digestMessage) 53 = .ok (.invokevirtual 149, 3) := by decide +kernel
theorem d_Ve_digestMessage_56 : decode (a_cc M_Ve_digestMessage) 56 = .ok (.aload_n 0, 1) := by decide +kernel
theorem d_Ve_digestMessage_57 : decode (a_cc M_Ve_digestMessage) 57 = .ok (.getfield 23, 3) := by decide +kernel
theorem d_Ve_digestMessage_60 : decode (a_cc M_Ve_digestMessage) 60 = .ok (.aload_n 0, 1) := by decide +kernel
theorem d_Ve_digestMessage_61 : decode (a_cc M_Ve_digestMessage) 61 = .ok (.getfield 14, 3) := by decide +kernel
theorem d_Ve_digestMessage_64 : decode (a_cc M_Ve_digestMessage) 64 = .ok (.iconst 0, 1) := by decide +kernel
theorem d_Ve_digestMessage_65 : decode (a_cc M_Ve_digestMessage) 65 = .ok (.aload_n 1, 1) := by decide +kernel
theorem d_Ve_digestMessage_66 : decode (a_cc M_Ve_digestMessage) 66 = .ok (.iload_n 2, 1) := by decide +kernel
theorem d_Ve_digestMessage_67 : decode (a_cc M_Ve_digestMessage) 67 = .ok (.invokevirtual 152, 3) := by decide +kernel
theorem d_Ve_digestMessage_70 : decode (a_cc M_Ve_digestMessage) 70 = .ok (.return_, 1) := by decide +kernel
theorem fd_Ve_133 : a_Fd "ModuleSigner$Verifier" 133 3 1 2 := ⟨by decide, by decide, rfl, List.mem_append_right _ (List.mem_of_getElem? (i := 229) (by decide +kernel))⟩
theorem cs_Ve_digestMessage_7 : a_CV M_Ve_digestMessage M_Sp_start256 137 7 1 0 0 := ⟨⟨ok_Sp_start256, by decide, by decide, by decide⟩, by decide, rfl, List.mem_append_right _ (List.mem_of_getElem? (i := 976) (by decide +kernel)), List.mem_append_right _ (List.mem_of_getElem? (i := 604) (by decide +kernel)), List.mem_append_right _ (List.mem_of_getElem? (i := 605) (by decide +kernel)), by decide +kernel⟩
theorem fd_Ve_27 : a_Fd "ModuleSigner$Verifier" 27 1 1 0 := ⟨by decide, by decide, rfl, List.mem_append_right _ (List.mem_of_getElem? (i := 41) (by decide +kernel))⟩
theorem cs_Ve_digestMessage_27 : a_CV M_Ve_digestMessage M_Sp_takePart 142 7 4 0 3 := ⟨⟨ok_Sp_takePart, by decide, by decide, by decide⟩, by decide, rfl, List.mem_append_right _ (List.mem_of_getElem? (i := 977) (by decide +kernel)), List.mem_append_right _ (List.mem_of_getElem? (i := 612) (by decide +kernel)), List.mem_append_right _ (List.mem_of_getElem? (i := 613) (by decide +kernel)), by decide +kernel⟩
theorem cs_Ve_digestMessage_37 : a_CV M_Ve_digestMessage M_Sp_turn 146 7 1 0 0 := ⟨⟨ok_Sp_turn, by decide, by decide, by decide⟩, by decide, rfl, List.mem_append_right _ (List.mem_of_getElem? (i := 978) (by decide +kernel)), List.mem_append_right _ (List.mem_of_getElem? (i := 638) (by decide +kernel)), List.mem_append_right _ (List.mem_of_getElem? (i := 639) (by decide +kernel)), by decide +kernel⟩
theorem cs_Ve_digestMessage_53 : a_CV M_Ve_digestMessage M_Sp_giveTo 149 7 3 0 2 := ⟨⟨ok_Sp_giveTo, by decide, by decide, by decide⟩, by decide, rfl, List.mem_append_right _ (List.mem_of_getElem? (i := 979) (by decide +kernel)), List.mem_append_right _ (List.mem_of_getElem? (i := 642) (by decide +kernel)), List.mem_append_right _ (List.mem_of_getElem? (i := 643) (by decide +kernel)), by decide +kernel⟩
theorem cs_Ve_digestMessage_67 : a_CV M_Ve_digestMessage M_Be_digestSigned 152 3 5 0 4 := ⟨⟨ok_Be_digestSigned, by decide, by decide, by decide⟩, by decide, rfl, List.mem_append_right _ (List.mem_of_getElem? (i := 980) (by decide +kernel)), List.mem_append_right _ (List.mem_of_getElem? (i := 829) (by decide +kernel)), List.mem_append_right _ (List.mem_of_getElem? (i := 830) (by decide +kernel)), by decide +kernel⟩
def M_Ve_readTop : a_M := (⟨"ModuleSigner$Verifier", "readTop", "(LModuleSigner$Bytes;I)V"⟩, prog_10_method_10_code, 5, none, "ModuleSigner$Verifier", 3, 50, [])
theorem ok_Ve_readTop : a_Ok M_Ve_readTop := ⟨rfl, by decide +kernel, ⟨by decide, by decide⟩, List.mem_append_right _ (List.mem_of_getElem? (i := 10) (by decide +kernel)), Or.inl ⟨rfl, List.mem_append_right _ (List.mem_of_getElem? (i := 993) (by decide +kernel))⟩⟩
theorem d_Ve_readTop_0 : decode (a_cc M_Ve_readTop) 0 = .ok (.bipush 32, 2) := by decide +kernel
theorem d_Ve_readTop_2 : decode (a_cc M_Ve_readTop) 2 = .ok (.iload_n 2, 1) := by decide +kernel
theorem d_Ve_readTop_3 : decode (a_cc M_Ve_readTop) 3 = .ok (.bipush 10, 2) := by decide +kernel
theorem d_Ve_readTop_5 : decode (a_cc M_Ve_readTop) 5 = .ok (.invokestatic 106, 3) := by decide +kernel
theorem d_Ve_readTop_8 : decode (a_cc M_Ve_readTop) 8 = .ok (.imul, 1) := by decide +kernel
theorem d_Ve_readTop_9 : decode (a_cc M_Ve_readTop) 9 = .ok (.iadd, 1) := by decide +kernel
theorem d_Ve_readTop_10 : decode (a_cc M_Ve_readTop) 10 = .ok (.istore_n 3, 1) := by decide +kernel
theorem d_Ve_readTop_11 : decode (a_cc M_Ve_readTop) 11 = .ok (.aload_n 1, 1) := by decide +kernel
theorem d_Ve_readTop_12 : decode (a_cc M_Ve_readTop) 12 = .ok (.iload_n 3, 1) := by decide +kernel
theorem d_Ve_readTop_13 : decode (a_cc M_Ve_readTop) 13 = .ok (.bipush 10, 2) := by decide +kernel
theorem d_Ve_readTop_15 : decode (a_cc M_Ve_readTop) 15 = .ok (.aload_n 0, 1) := by decide +kernel
theorem d_Ve_readTop_16 : decode (a_cc M_Ve_readTop) 16 = .ok (.getfield 23, 3) := by decide +kernel
theorem d_Ve_readTop_19 : decode (a_cc M_Ve_readTop) 19 = .ok (.getfield 186, 3) := by decide +kernel
theorem d_Ve_readTop_22 : decode (a_cc M_Ve_readTop) 22 = .ok (.invokevirtual 115, 3) := by decide +kernel
theorem d_Ve_readTop_25 : decode (a_cc M_Ve_readTop) 25 = .ok (.iconst 0, 1) := by decide +kernel
theorem d_Ve_readTop_26 : decode (a_cc M_Ve_readTop) 26 = .ok (.istore 4, 2) := by decide +kernel
theorem d_Ve_readTop_28 : decode (a_cc M_Ve_readTop) 28 = .ok (.iload 4, 2) := by decide +kernel
theorem d_Ve_readTop_30 : decode (a_cc M_Ve_readTop) 30 = .ok (.sipush 256, 3) := by decide +kernel
theorem d_Ve_readTop_33 : decode (a_cc M_Ve_readTop) 33 = .ok (.if_icmp .ge 24, 3) := by decide +kernel
theorem d_Ve_readTop_36 : decode (a_cc M_Ve_readTop) 36 = .ok (.aload_n 0, 1) := by decide +kernel
theorem d_Ve_readTop_37 : decode (a_cc M_Ve_readTop) 37 = .ok (.getfield 23, 3) := by decide +kernel
theorem d_Ve_readTop_40 : decode (a_cc M_Ve_readTop) 40 = .ok (.getfield 186, 3) := by decide +kernel
theorem d_Ve_readTop_43 : decode (a_cc M_Ve_readTop) 43 = .ok (.iload 4, 2) := by decide +kernel
theorem d_Ve_readTop_45 : decode (a_cc M_Ve_readTop) 45 = .ok (.dup2, 1) := by decide +kernel
theorem d_Ve_readTop_46 : decode (a_cc M_Ve_readTop) 46 = .ok (.iaload, 1) := by decide +kernel
theorem d_Ve_readTop_47 : decode (a_cc M_Ve_readTop) 47 = .ok (.bipush 13, 2) := by decide +kernel
theorem d_Ve_readTop_49 : decode (a_cc M_Ve_readTop) 49 = .ok (.ishl, 1) := by decide +kernel
theorem d_Ve_readTop_50 : decode (a_cc M_Ve_readTop) 50 = .ok (.iastore, 1) := by decide +kernel
theorem d_Ve_readTop_51 : decode (a_cc M_Ve_readTop) 51 = .ok (.iinc 4 1, 3) := by decide +kernel
theorem d_Ve_readTop_54 : decode (a_cc M_Ve_readTop) 54 = .ok (.goto (-26), 3) := by decide +kernel
theorem d_Ve_readTop_57 : decode (a_cc M_Ve_readTop) 57 = .ok (.aload_n 0, 1) := by decide +kernel
theorem d_Ve_readTop_58 : decode (a_cc M_Ve_readTop) 58 = .ok (.getfield 23, 3) := by decide +kernel
theorem d_Ve_readTop_61 : decode (a_cc M_Ve_readTop) 61 = .ok (.getfield 168, 3) := by decide +kernel
theorem d_Ve_readTop_64 : decode (a_cc M_Ve_readTop) 64 = .ok (.aload_n 0, 1) := by decide +kernel
theorem d_Ve_readTop_65 : decode (a_cc M_Ve_readTop) 65 = .ok (.getfield 23, 3) := by decide +kernel
theorem d_Ve_readTop_68 : decode (a_cc M_Ve_readTop) 68 = .ok (.getfield 186, 3) := by decide +kernel
theorem d_Ve_readTop_71 : decode (a_cc M_Ve_readTop) 71 = .ok (.invokevirtual 172, 3) := by decide +kernel
theorem d_Ve_readTop_74 : decode (a_cc M_Ve_readTop) 74 = .ok (.return_, 1) := by decide +kernel
theorem cs_Ve_readTop_5 : a_CS M_Ve_readTop M_Ri_packedSize 106 1 2 1 := ⟨⟨ok_Ri_packedSize, by decide, by decide, by decide⟩, List.mem_append_right _ (List.mem_of_getElem? (i := 968) (by decide +kernel)), List.mem_append_right _ (List.mem_of_getElem? (i := 78) (by decide +kernel)), by decide +kernel⟩
theorem fd_Ve_186 : a_Fd "ModuleSigner$Verifier" 186 3 9 2 := ⟨by decide, by decide, rfl, List.mem_append_right _ (List.mem_of_getElem? (i := 257) (by decide +kernel))⟩
theorem cs_Ve_readTop_22 : a_CV M_Ve_readTop M_By_readBits 115 1 4 0 3 := ⟨⟨ok_By_readBits, by decide, by decide, by decide⟩, by decide, rfl, List.mem_append_right _ (List.mem_of_getElem? (i := 969) (by decide +kernel)), List.mem_append_right _ (List.mem_of_getElem? (i := 822) (by decide +kernel)), List.mem_append_right _ (List.mem_of_getElem? (i := 823) (by decide +kernel)), by decide +kernel⟩
theorem fd_Ve_168 : a_Fd "ModuleSigner$Verifier" 168 3 2 2 := ⟨by decide, by decide, rfl, List.mem_append_right _ (List.mem_of_getElem? (i := 233) (by decide +kernel))⟩
theorem cs_Ve_readTop_71 : a_CV M_Ve_readTop M_Ri_forward 172 9 2 0 1 := ⟨⟨ok_Ri_forward, by decide, by decide, by decide⟩, by decide, rfl, List.mem_append_right _ (List.mem_of_getElem? (i := 988) (by decide +kernel)), List.mem_append_right _ (List.mem_of_getElem? (i := 714) (by decide +kernel)), List.mem_append_right _ (List.mem_of_getElem? (i := 715) (by decide +kernel)), by decide +kernel⟩
def M_Ve_computeImages : a_M := (⟨"ModuleSigner$Verifier", "computeImages", "(LModuleSigner$Bytes;LModuleSigner$Parameters;)V"⟩, prog_10_method_9_code, 4, none, "ModuleSigner$Verifier", 8, 115, [])
theorem ok_Ve_computeImages : a_Ok M_Ve_computeImages := ⟨rfl, by decide +kernel, ⟨by decide, by decide⟩, List.mem_append_right _ (List.mem_of_getElem? (i := 10) (by decide +kernel)), Or.inl ⟨rfl, List.mem_append_right _ (List.mem_of_getElem? (i := 986) (by decide +kernel))⟩⟩
theorem d_Ve_computeImages_0 : decode (a_cc M_Ve_computeImages) 0 = .ok (.aload_n 0, 1) := by decide +kernel
theorem d_Ve_computeImages_1 : decode (a_cc M_Ve_computeImages) 1 = .ok (.getfield 23, 3) := by decide +kernel
theorem d_Ve_computeImages_4 : decode (a_cc M_Ve_computeImages) 4 = .ok (.getfield 156, 3) := by decide +kernel
theorem d_Ve_computeImages_7 : decode (a_cc M_Ve_computeImages) 7 = .ok (.aload_n 1, 1) := by decide +kernel
theorem d_Ve_computeImages_8 : decode (a_cc M_Ve_computeImages) 8 = .ok (.aload_n 2, 1) := by decide +kernel
theorem d_Ve_computeImages_9 : decode (a_cc M_Ve_computeImages) 9 = .ok (.aload_n 0, 1) := by decide +kernel
theorem d_Ve_computeImages_10 : decode (a_cc M_Ve_computeImages) 10 = .ok (.getfield 23, 3) := by decide +kernel
theorem d_Ve_computeImages_13 : decode (a_cc M_Ve_computeImages) 13 = .ok (.getfield 160, 3) := by decide +kernel
theorem d_Ve_computeImages_16 : decode (a_cc M_Ve_computeImages) 16 = .ok (.invokevirtual 163, 3) := by decide +kernel
theorem d_Ve_computeImages_19 : decode (a_cc M_Ve_computeImages) 19 = .ok (.iconst 0, 1) := by decide +kernel
theorem d_Ve_computeImages_20 : decode (a_cc M_Ve_computeImages) 20 = .ok (.istore_n 3, 1) := by decide +kernel
theorem d_Ve_computeImages_21 : decode (a_cc M_Ve_computeImages) 21 = .ok (.iload_n 3, 1) := by decide +kernel
theorem d_Ve_computeImages_22 : decode (a_cc M_Ve_computeImages) 22 = .ok (.aload_n 2, 1) := by decide +kernel
theorem d_Ve_computeImages_23 : decode (a_cc M_Ve_computeImages) 23 = .ok (.getfield 100, 3) := by decide +kernel
theorem d_Ve_computeImages_26 : decode (a_cc M_Ve_computeImages) 26 = .ok (.if_icmp .ge 28, 3) := by decide +kernel
theorem d_Ve_computeImages_29 : decode (a_cc M_Ve_computeImages) 29 = .ok (.aload_n 0, 1) := by decide +kernel
theorem d_Ve_computeImages_30 : decode (a_cc M_Ve_computeImages) 30 = .ok (.getfield 23, 3) := by decide +kernel
theorem d_Ve_computeImages_33 : decode (a_cc M_Ve_computeImages) 33 = .ok (.getfield 168, 3) := by decide +kernel
theorem d_Ve_computeImages_36 : decode (a_cc M_Ve_computeImages) 36 = .ok (.aload_n 0, 1) := by decide +kernel
theorem d_Ve_computeImages_37 : decode (a_cc M_Ve_computeImages) 37 = .ok (.getfield 23, 3) := by decide +kernel
theorem d_Ve_computeImages_40 : decode (a_cc M_Ve_computeImages) 40 = .ok (.getfield 111, 3) := by decide +kernel
theorem d_Ve_computeImages_43 : decode (a_cc M_Ve_computeImages) 43 = .ok (.iload_n 3, 1) := by decide +kernel
theorem d_Ve_computeImages_44 : decode (a_cc M_Ve_computeImages) 44 = .ok (.aaload, 1) := by decide +kernel
theorem d_Ve_computeImages_45 : decode (a_cc M_Ve_computeImages) 45 = .ok (.invokevirtual 172, 3) := by decide +kernel
theorem d_Ve_computeImages_48 : decode (a_cc M_Ve_computeImages) 48 = .ok (.iinc 3 1, 3) := by decide +kernel
theorem d_Ve_computeImages_51 : decode (a_cc M_Ve_computeImages) 51 = .ok (.goto (-30), 3) := by decide +kernel
theorem d_Ve_computeImages_54 : decode (a_cc M_Ve_computeImages) 54 = .ok (.aload_n 0, 1) := by decide +kernel
theorem d_Ve_computeImages_55 : decode (a_cc M_Ve_computeImages) 55 = .ok (.getfield 23, 3) := by decide +kernel
theorem d_Ve_computeImages_58 : decode (a_cc M_Ve_computeImages) 58 = .ok (.aload_n 2, 1) := by decide +kernel
theorem d_Ve_computeImages_59 : decode (a_cc M_Ve_computeImages) 59 = .ok (.invokevirtual 176, 3) := by decide +kernel
theorem d_Ve_computeImages_62 : decode (a_cc M_Ve_computeImages) 62 = .ok (.iconst 0, 1) := by decide +kernel
theorem d_Ve_computeImages_63 : decode (a_cc M_Ve_computeImages) 63 = .ok (.istore_n 3, 1) := by decide +kernel
theorem d_Ve_computeImages_64 : decode (a_cc M_Ve_computeImages) 64 = .ok (.iload_n 3, 1) := by decide +kernel
theorem d_Ve_computeImages_65 : decode (a_cc M_Ve_computeImages) 65 = .ok (.aload_n 2, 1) := by decide +kernel
theorem d_Ve_computeImages_66 : decode (a_cc M_Ve_computeImages) 66 = .ok (.getfield 81, 3) := by decide +kernel
theorem d_Ve_computeImages_69 : decode (a_cc M_Ve_computeImages) 69 = .ok (.if_icmp .ge 77, 3) := by decide +kernel
theorem d_Ve_computeImages_72 : decode (a_cc M_Ve_computeImages) 72 = .ok (.aload_n 0, 1) := by decide +kernel
theorem d_Ve_computeImages_73 : decode (a_cc M_Ve_computeImages) 73 = .ok (.aload_n 1, 1) := by decide +kernel
theorem d_Ve_computeImages_74 : decode (a_cc M_Ve_computeImages) 74 = .ok (.iload_n 3, 1) := by decide +kernel
theorem d_Ve_computeImages_75 : decode (a_cc M_Ve_computeImages) 75 = .ok (.invokevirtual 179, 3) := by decide +kernel
theorem d_Ve_computeImages_78 : decode (a_cc M_Ve_computeImages) 78 = .ok (.aload_n 0, 1) := by decide +kernel
theorem d_Ve_computeImages_79 : decode (a_cc M_Ve_computeImages) 79 = .ok (.getfield 23, 3) := by decide +kernel
theorem d_Ve_computeImages_82 : decode (a_cc M_Ve_computeImages) 82 = .ok (.getfield 182, 3) := by decide +kernel
theorem d_Ve_computeImages_85 : decode (a_cc M_Ve_computeImages) 85 = .ok (.aload_n 0, 1) := by decide +kernel
theorem d_Ve_computeImages_86 : decode (a_cc M_Ve_computeImages) 86 = .ok (.getfield 23, 3) := by decide +kernel
theorem d_Ve_computeImages_89 : decode (a_cc M_Ve_computeImages) 89 = .ok (.getfield 186, 3) := by decide +kernel
theorem d_Ve_computeImages_92 : decode (a_cc M_Ve_computeImages) 92 = .ok (.aload_n 0, 1) := by decide +kernel
theorem d_Ve_computeImages_93 : decode (a_cc M_Ve_computeImages) 93 = .ok (.getfield 23, 3) := by decide +kernel
theorem d_Ve_computeImages_96 : decode (a_cc M_Ve_computeImages) 96 = .ok (.getfield 186, 3) := by decide +kernel
theorem d_Ve_computeImages_99 : decode (a_cc M_Ve_computeImages) 99 = .ok (.invokestatic 189, 3) := by decide +kernel
theorem d_Ve_computeImages_102 : decode (a_cc M_Ve_computeImages) 102 = .ok (.aload_n 0, 1) := by decide +kernel
theorem d_Ve_computeImages_103 : decode (a_cc M_Ve_computeImages) 103 = .ok (.getfield 23, 3) := by decide +kernel
theorem d_Ve_computeImages_106 : decode (a_cc M_Ve_computeImages) 106 = .ok (.getfield 193, 3) := by decide +kernel
theorem d_Ve_computeImages_109 : decode (a_cc M_Ve_computeImages) 109 = .ok (.iload_n 3, 1) := by decide +kernel
theorem d_Ve_computeImages_110 : decode (a_cc M_Ve_computeImages) 110 = .ok (.aaload, 1) := by decide +kernel
theorem d_Ve_computeImages_111 : decode (a_cc M_Ve_computeImages) 111 = .ok (.aload_n 0, 1) := by decide +kernel
theorem d_Ve_computeImages_112 : decode (a_cc M_Ve_computeImages) 112 = .ok (.getfield 23, 3) := by decide +kernel
theorem d_Ve_computeImages_115 : decode (a_cc M_Ve_computeImages) 115 = .ok (.getfield 186, 3) := by decide +kernel
theorem d_Ve_computeImages_118 : decode (a_cc M_Ve_computeImages) 118 = .ok (.invokestatic 196, 3) := by decide +kernel
theorem d_Ve_computeImages_121 : decode (a_cc M_Ve_computeImages) 121 = .ok (.aload_n 0, 1) := by decide +kernel
theorem d_Ve_computeImages_122 : decode (a_cc M_Ve_computeImages) 122 = .ok (.getfield 23, 3) := by decide +kernel
theorem d_Ve_computeImages_125 : decode (a_cc M_Ve_computeImages) 125 = .ok (.getfield 168, 3) := by decide +kernel
theorem d_Ve_computeImages_128 : decode (a_cc M_Ve_computeImages) 128 = .ok (.aload_n 0, 1) := by decide +kernel
theorem d_Ve_computeImages_129 : decode (a_cc M_Ve_computeImages) 129 = .ok (.getfield 23, 3) := by decide +kernel
theorem d_Ve_computeImages_132 : decode (a_cc M_Ve_computeImages) 132 = .ok (.getfield 193, 3) := by decide +kernel
theorem d_Ve_computeImages_135 : decode (a_cc M_Ve_computeImages) 135 = .ok (.iload_n 3, 1) := by decide +kernel
theorem d_Ve_computeImages_136 : decode (a_cc M_Ve_computeImages) 136 = .ok (.aaload, 1) := by decide +kernel
theorem d_Ve_computeImages_137 : decode (a_cc M_Ve_computeImages) 137 = .ok (.invokevirtual 200, 3) := by decide +kernel
theorem d_Ve_computeImages_140 : decode (a_cc M_Ve_computeImages) 140 = .ok (.iinc 3 1, 3) := by decide +kernel
theorem d_Ve_computeImages_143 : decode (a_cc M_Ve_computeImages) 143 = .ok (.goto (-79), 3) := by decide +kernel
theorem d_Ve_computeImages_146 : decode (a_cc M_Ve_computeImages) 146 = .ok (.return_, 1) := by decide +kernel
theorem fd_Ve_156 : a_Fd "ModuleSigner$Verifier" 156 3 0 2 := ⟨by decide, by decide, rfl, List.mem_append_right _ (List.mem_of_getElem? (i := 225) (by decide +kernel))⟩
theorem fd_Ve_160 : a_Fd "ModuleSigner$Verifier" 160 3 3 2 := ⟨by decide, by decide, rfl, List.mem_append_right _ (List.mem_of_getElem? (i := 237) (by decide +kernel))⟩
theorem cs_Ve_computeImages_16 : a_CV M_Ve_computeImages M_Sa_matrix 163 8 4 0 3 := ⟨⟨ok_Sa_matrix, by decide, by decide, by decide⟩, by decide, rfl, List.mem_append_right _ (List.mem_of_getElem? (i := 987) (by decide +kernel)), List.mem_append_right _ (List.mem_of_getElem? (i := 656) (by decide +kernel)), List.mem_append_right _ (List.mem_of_getElem? (i := 657) (by decide +kernel)), by decide +kernel⟩
theorem cs_Ve_computeImages_45 : a_CV M_Ve_computeImages M_Ri_forward 172 9 2 0 1 := ⟨⟨ok_Ri_forward, by decide, by decide, by decide⟩, by decide, rfl, List.mem_append_right _ (List.mem_of_getElem? (i := 988) (by decide +kernel)), List.mem_append_right _ (List.mem_of_getElem? (i := 714) (by decide +kernel)), List.mem_append_right _ (List.mem_of_getElem? (i := 715) (by decide +kernel)), by decide +kernel⟩
theorem cs_Ve_computeImages_59 : a_CV M_Ve_computeImages M_Be_multiplyMatrix 176 3 2 0 1 := ⟨⟨ok_Be_multiplyMatrix, by decide, by decide, by decide⟩, by decide, rfl, List.mem_append_right _ (List.mem_of_getElem? (i := 989) (by decide +kernel)), List.mem_append_right _ (List.mem_of_getElem? (i := 725) (by decide +kernel)), List.mem_append_right _ (List.mem_of_getElem? (i := 726) (by decide +kernel)), by decide +kernel⟩
theorem cs_Ve_computeImages_75 : a_CV M_Ve_computeImages M_Ve_readTop 179 6 3 0 2 := ⟨⟨ok_Ve_readTop, by decide, by decide, by decide⟩, by decide, rfl, List.mem_append_right _ (List.mem_of_getElem? (i := 990) (by decide +kernel)), List.mem_append_right _ (List.mem_of_getElem? (i := 992) (by decide +kernel)), List.mem_append_left _ (List.mem_of_getElem? (i := 27) (by decide +kernel)), by decide +kernel⟩
theorem fd_Ve_182 : a_Fd "ModuleSigner$Verifier" 182 3 8 2 := ⟨by decide, by decide, rfl, List.mem_append_right _ (List.mem_of_getElem? (i := 253) (by decide +kernel))⟩
theorem cs_Ve_computeImages_99 : a_CS M_Ve_computeImages M_Ri_multiply 189 3 0 3 := ⟨⟨ok_Ri_multiply, by decide, by decide, by decide⟩, List.mem_append_right _ (List.mem_of_getElem? (i := 994) (by decide +kernel)), List.mem_append_right _ (List.mem_of_getElem? (i := 899) (by decide +kernel)), by decide +kernel⟩
theorem fd_Ve_193 : a_Fd "ModuleSigner$Verifier" 193 3 7 2 := ⟨by decide, by decide, rfl, List.mem_append_right _ (List.mem_of_getElem? (i := 251) (by decide +kernel))⟩
theorem cs_Ve_computeImages_118 : a_CS M_Ve_computeImages M_Ri_takeFrom 196 2 0 2 := ⟨⟨ok_Ri_takeFrom, by decide, by decide, by decide⟩, List.mem_append_right _ (List.mem_of_getElem? (i := 995) (by decide +kernel)), List.mem_append_right _ (List.mem_of_getElem? (i := 911) (by decide +kernel)), by decide +kernel⟩
theorem cs_Ve_computeImages_137 : a_CV M_Ve_computeImages M_Ri_back 200 9 2 0 1 := ⟨⟨ok_Ri_back, by decide, by decide, by decide⟩, by decide, rfl, List.mem_append_right _ (List.mem_of_getElem? (i := 996) (by decide +kernel)), List.mem_append_right _ (List.mem_of_getElem? (i := 732) (by decide +kernel)), List.mem_append_right _ (List.mem_of_getElem? (i := 733) (by decide +kernel)), by decide +kernel⟩
def M_Pa_hintedHigh : a_M := (⟨"ModuleSigner$Parameters", "hintedHigh", "(I)I"⟩, prog_5_method_4_code, 3, some .int, "ModuleSigner$Parameters", 2, 29, [])
theorem ok_Pa_hintedHigh : a_Ok M_Pa_hintedHigh := ⟨rfl, by decide +kernel, ⟨by decide, by decide⟩, List.mem_append_right _ (List.mem_of_getElem? (i := 3) (by decide +kernel)), Or.inl ⟨rfl, List.mem_append_right _ (List.mem_of_getElem? (i := 1005) (by decide +kernel))⟩⟩
theorem d_Pa_hintedHigh_0 : decode (a_cc M_Pa_hintedHigh) 0 = .ok (.aload_n 0, 1) := by decide +kernel
theorem d_Pa_hintedHigh_1 : decode (a_cc M_Pa_hintedHigh) 1 = .ok (.iload_n 1, 1) := by decide +kernel
theorem d_Pa_hintedHigh_2 : decode (a_cc M_Pa_hintedHigh) 2 = .ok (.invokevirtual 96, 3) := by decide +kernel
theorem d_Pa_hintedHigh_5 : decode (a_cc M_Pa_hintedHigh) 5 = .ok (.ifCond .le 7, 3) := by decide +kernel
theorem d_Pa_hintedHigh_8 : decode (a_cc M_Pa_hintedHigh) 8 = .ok (.iconst 1, 1) := by decide +kernel
theorem d_Pa_hintedHigh_9 : decode (a_cc M_Pa_hintedHigh) 9 = .ok (.goto 9, 3) := by decide +kernel
theorem d_Pa_hintedHigh_12 : decode (a_cc M_Pa_hintedHigh) 12 = .ok (.aload_n 0, 1) := by decide +kernel
theorem d_Pa_hintedHigh_13 : decode (a_cc M_Pa_hintedHigh) 13 = .ok (.getfield 46, 3) := by decide +kernel
theorem d_Pa_hintedHigh_16 : decode (a_cc M_Pa_hintedHigh) 16 = .ok (.iconst 1, 1) := by decide +kernel
theorem d_Pa_hintedHigh_17 : decode (a_cc M_Pa_hintedHigh) 17 = .ok (.isub, 1) := by decide +kernel
theorem d_Pa_hintedHigh_18 : decode (a_cc M_Pa_hintedHigh) 18 = .ok (.istore_n 2, 1) := by decide +kernel
theorem d_Pa_hintedHigh_19 : decode (a_cc M_Pa_hintedHigh) 19 = .ok (.aload_n 0, 1) := by decide +kernel
theorem d_Pa_hintedHigh_20 : decode (a_cc M_Pa_hintedHigh) 20 = .ok (.iload_n 1, 1) := by decide +kernel
theorem d_Pa_hintedHigh_21 : decode (a_cc M_Pa_hintedHigh) 21 = .ok (.invokevirtual 99, 3) := by decide +kernel
theorem d_Pa_hintedHigh_24 : decode (a_cc M_Pa_hintedHigh) 24 = .ok (.iload_n 2, 1) := by decide +kernel
theorem d_Pa_hintedHigh_25 : decode (a_cc M_Pa_hintedHigh) 25 = .ok (.iadd, 1) := by decide +kernel
theorem d_Pa_hintedHigh_26 : decode (a_cc M_Pa_hintedHigh) 26 = .ok (.aload_n 0, 1) := by decide +kernel
theorem d_Pa_hintedHigh_27 : decode (a_cc M_Pa_hintedHigh) 27 = .ok (.getfield 46, 3) := by decide +kernel
theorem d_Pa_hintedHigh_30 : decode (a_cc M_Pa_hintedHigh) 30 = .ok (.irem, 1) := by decide +kernel
theorem d_Pa_hintedHigh_31 : decode (a_cc M_Pa_hintedHigh) 31 = .ok (.ireturn, 1) := by decide +kernel
theorem cs_Pa_hintedHigh_2 : a_CV M_Pa_hintedHigh M_Pa_low 96 2 2 0 1 := ⟨⟨ok_Pa_low, by decide, by decide, by decide⟩, by decide, rfl, List.mem_append_right _ (List.mem_of_getElem? (i := 1006) (by decide +kernel)), List.mem_append_right _ (List.mem_of_getElem? (i := 917) (by decide +kernel)), List.mem_append_right _ (List.mem_of_getElem? (i := 918) (by decide +kernel)), by decide +kernel⟩
theorem cs_Pa_hintedHigh_21 : a_CV M_Pa_hintedHigh M_Pa_high 99 2 2 0 1 := ⟨⟨ok_Pa_high, by decide, by decide, by decide⟩, by decide, rfl, List.mem_append_right _ (List.mem_of_getElem? (i := 1007) (by decide +kernel)), List.mem_append_right _ (List.mem_of_getElem? (i := 867) (by decide +kernel)), List.mem_append_right _ (List.mem_of_getElem? (i := 868) (by decide +kernel)), by decide +kernel⟩
def M_Ve_packHighs : a_M := (⟨"ModuleSigner$Verifier", "packHighs", "(LModuleSigner$Bytes;LModuleSigner$Parameters;)V"⟩, prog_10_method_11_code, 9, none, "ModuleSigner$Verifier", 3, 45, [])
theorem ok_Ve_packHighs : a_Ok M_Ve_packHighs := ⟨rfl, by decide +kernel, ⟨by decide, by decide⟩, List.mem_append_right _ (List.mem_of_getElem? (i := 10) (by decide +kernel)), Or.inl ⟨rfl, List.mem_append_right _ (List.mem_of_getElem? (i := 1000) (by decide +kernel))⟩⟩
theorem d_Ve_packHighs_0 : decode (a_cc M_Ve_packHighs) 0 = .ok (.aload_n 0, 1) := by decide +kernel
theorem d_Ve_packHighs_1 : decode (a_cc M_Ve_packHighs) 1 = .ok (.getfield 23, 3) := by decide +kernel
theorem d_Ve_packHighs_4 : decode (a_cc M_Ve_packHighs) 4 = .ok (.getfield 203, 3) := by decide +kernel
theorem d_Ve_packHighs_7 : decode (a_cc M_Ve_packHighs) 7 = .ok (.invokevirtual 206, 3) := by decide +kernel
theorem d_Ve_packHighs_10 : decode (a_cc M_Ve_packHighs) 10 = .ok (.iconst 0, 1) := by decide +kernel
theorem d_Ve_packHighs_11 : decode (a_cc M_Ve_packHighs) 11 = .ok (.istore_n 3, 1) := by decide +kernel
theorem d_Ve_packHighs_12 : decode (a_cc M_Ve_packHighs) 12 = .ok (.iload_n 3, 1) := by decide +kernel
theorem d_Ve_packHighs_13 : decode (a_cc M_Ve_packHighs) 13 = .ok (.aload_n 2, 1) := by decide +kernel
theorem d_Ve_packHighs_14 : decode (a_cc M_Ve_packHighs) 14 = .ok (.getfield 81, 3) := by decide +kernel
theorem d_Ve_packHighs_17 : decode (a_cc M_Ve_packHighs) 17 = .ok (.if_icmp .ge 154, 3) := by decide +kernel
theorem d_Ve_packHighs_20 : decode (a_cc M_Ve_packHighs) 20 = .ok (.aload_n 1, 1) := by decide +kernel
theorem d_Ve_packHighs_21 : decode (a_cc M_Ve_packHighs) 21 = .ok (.aload_n 2, 1) := by decide +kernel
theorem d_Ve_packHighs_22 : decode (a_cc M_Ve_packHighs) 22 = .ok (.iload_n 3, 1) := by decide +kernel
theorem d_Ve_packHighs_23 : decode (a_cc M_Ve_packHighs) 23 = .ok (.iconst 1, 1) := by decide +kernel
theorem d_Ve_packHighs_24 : decode (a_cc M_Ve_packHighs) 24 = .ok (.isub, 1) := by decide +kernel
theorem d_Ve_packHighs_25 : decode (a_cc M_Ve_packHighs) 25 = .ok (.invokestatic 92, 3) := by decide +kernel
theorem d_Ve_packHighs_28 : decode (a_cc M_Ve_packHighs) 28 = .ok (.istore 4, 2) := by decide +kernel
theorem d_Ve_packHighs_30 : decode (a_cc M_Ve_packHighs) 30 = .ok (.aload_n 1, 1) := by decide +kernel
theorem d_Ve_packHighs_31 : decode (a_cc M_Ve_packHighs) 31 = .ok (.aload_n 2, 1) := by decide +kernel
theorem d_Ve_packHighs_32 : decode (a_cc M_Ve_packHighs) 32 = .ok (.iload_n 3, 1) := by decide +kernel
theorem d_Ve_packHighs_33 : decode (a_cc M_Ve_packHighs) 33 = .ok (.invokestatic 92, 3) := by decide +kernel
theorem d_Ve_packHighs_36 : decode (a_cc M_Ve_packHighs) 36 = .ok (.istore 5, 2) := by decide +kernel
theorem d_Ve_packHighs_38 : decode (a_cc M_Ve_packHighs) 38 = .ok (.iconst 0, 1) := by decide +kernel
theorem d_Ve_packHighs_39 : decode (a_cc M_Ve_packHighs) 39 = .ok (.istore 6, 2) := by decide +kernel
theorem d_Ve_packHighs_41 : decode (a_cc M_Ve_packHighs) 41 = .ok (.iload 6, 2) := by decide +kernel
theorem d_Ve_packHighs_43 : decode (a_cc M_Ve_packHighs) 43 = .ok (.sipush 256, 3) := by decide +kernel
theorem d_Ve_packHighs_46 : decode (a_cc M_Ve_packHighs) 46 = .ok (.if_icmp .ge 98, 3) := by decide +kernel
theorem d_Ve_packHighs_49 : decode (a_cc M_Ve_packHighs) 49 = .ok (.aload_n 0, 1) := by decide +kernel
theorem d_Ve_packHighs_50 : decode (a_cc M_Ve_packHighs) 50 = .ok (.getfield 23, 3) := by decide +kernel
theorem d_Ve_packHighs_53 : decode (a_cc M_Ve_packHighs) 53 = .ok (.getfield 193, 3) := by decide +kernel
theorem d_Ve_packHighs_56 : decode (a_cc M_Ve_packHighs) 56 = .ok (.iload_n 3, 1) := by decide +kernel
theorem d_Ve_packHighs_57 : decode (a_cc M_Ve_packHighs) 57 = .ok (.aaload, 1) := by decide +kernel
theorem d_Ve_packHighs_58 : decode (a_cc M_Ve_packHighs) 58 = .ok (.iload 6, 2) := by decide +kernel
theorem d_Ve_packHighs_60 : decode (a_cc M_Ve_packHighs) 60 = .ok (.iaload, 1) := by decide +kernel
theorem d_Ve_packHighs_61 : decode (a_cc M_Ve_packHighs) 61 = .ok (.istore 7, 2) := by decide +kernel
theorem d_Ve_packHighs_63 : decode (a_cc M_Ve_packHighs) 63 = .ok (.iload 4, 2) := by decide +kernel
theorem d_Ve_packHighs_65 : decode (a_cc M_Ve_packHighs) 65 = .ok (.iload 5, 2) := by decide +kernel
theorem d_Ve_packHighs_67 : decode (a_cc M_Ve_packHighs) 67 = .ok (.if_icmp .ge 23, 3) := by decide +kernel
theorem d_Ve_packHighs_70 : decode (a_cc M_Ve_packHighs) 70 = .ok (.aload_n 1, 1) := by decide +kernel
theorem d_Ve_packHighs_71 : decode (a_cc M_Ve_packHighs) 71 = .ok (.aload_n 2, 1) := by decide +kernel
theorem d_Ve_packHighs_72 : decode (a_cc M_Ve_packHighs) 72 = .ok (.invokestatic 84, 3) := by decide +kernel
theorem d_Ve_packHighs_75 : decode (a_cc M_Ve_packHighs) 75 = .ok (.iload 4, 2) := by decide +kernel
theorem d_Ve_packHighs_77 : decode (a_cc M_Ve_packHighs) 77 = .ok (.iadd, 1) := by decide +kernel
theorem d_Ve_packHighs_78 : decode (a_cc M_Ve_packHighs) 78 = .ok (.invokevirtual 88, 3) := by decide +kernel
theorem d_Ve_packHighs_81 : decode (a_cc M_Ve_packHighs) 81 = .ok (.iload 6, 2) := by decide +kernel
theorem d_Ve_packHighs_83 : decode (a_cc M_Ve_packHighs) 83 = .ok (.if_icmp .ne 7, 3) := by decide +kernel
theorem d_Ve_packHighs_86 : decode (a_cc M_Ve_packHighs) 86 = .ok (.iconst 1, 1) := by decide +kernel
theorem d_Ve_packHighs_87 : decode (a_cc M_Ve_packHighs) 87 = .ok (.goto 4, 3) := by decide +kernel
theorem d_Ve_packHighs_90 : decode (a_cc M_Ve_packHighs) 90 = .ok (.iconst 0, 1) := by decide +kernel
theorem d_Ve_packHighs_91 : decode (a_cc M_Ve_packHighs) 91 = .ok (.istore 8, 2) := by decide +kernel
theorem d_Ve_packHighs_93 : decode (a_cc M_Ve_packHighs) 93 = .ok (.aload_n 0, 1) := by decide +kernel
theorem d_Ve_packHighs_94 : decode (a_cc M_Ve_packHighs) 94 = .ok (.getfield 23, 3) := by decide +kernel
theorem d_Ve_packHighs_97 : decode (a_cc M_Ve_packHighs) 97 = .ok (.getfield 186, 3) := by decide +kernel
theorem d_Ve_packHighs_100 : decode (a_cc M_Ve_packHighs) 100 = .ok (.iload 6, 2) := by decide +kernel
theorem d_Ve_packHighs_102 : decode (a_cc M_Ve_packHighs) 102 = .ok (.iload 8, 2) := by decide +kernel
theorem d_Ve_packHighs_104 : decode (a_cc M_Ve_packHighs) 104 = .ok (.ifCond .eq 12, 3) := by decide +kernel
theorem d_Ve_packHighs_107 : decode (a_cc M_Ve_packHighs) 107 = .ok (.aload_n 2, 1) := by decide +kernel
theorem d_Ve_packHighs_108 : decode (a_cc M_Ve_packHighs) 108 = .ok (.iload 7, 2) := by decide +kernel
theorem d_Ve_packHighs_110 : decode (a_cc M_Ve_packHighs) 110 = .ok (.invokevirtual 209, 3) := by decide +kernel
theorem d_Ve_packHighs_113 : decode (a_cc M_Ve_packHighs) 113 = .ok (.goto 9, 3) := by decide +kernel
theorem d_Ve_packHighs_116 : decode (a_cc M_Ve_packHighs) 116 = .ok (.aload_n 2, 1) := by decide +kernel
theorem d_Ve_packHighs_117 : decode (a_cc M_Ve_packHighs) 117 = .ok (.iload 7, 2) := by decide +kernel
theorem d_Ve_packHighs_119 : decode (a_cc M_Ve_packHighs) 119 = .ok (.invokevirtual 212, 3) := by decide +kernel
theorem d_Ve_packHighs_122 : decode (a_cc M_Ve_packHighs) 122 = .ok (.iastore, 1) := by decide +kernel
theorem d_Ve_packHighs_123 : decode (a_cc M_Ve_packHighs) 123 = .ok (.iload 4, 2) := by decide +kernel
theorem d_Ve_packHighs_125 : decode (a_cc M_Ve_packHighs) 125 = .ok (.iload 8, 2) := by decide +kernel
theorem d_Ve_packHighs_127 : decode (a_cc M_Ve_packHighs) 127 = .ok (.ifCond .eq 7, 3) := by decide +kernel
theorem d_Ve_packHighs_130 : decode (a_cc M_Ve_packHighs) 130 = .ok (.iconst 1, 1) := by decide +kernel
theorem d_Ve_packHighs_131 : decode (a_cc M_Ve_packHighs) 131 = .ok (.goto 4, 3) := by decide +kernel
theorem d_Ve_packHighs_134 : decode (a_cc M_Ve_packHighs) 134 = .ok (.iconst 0, 1) := by decide +kernel
theorem d_Ve_packHighs_135 : decode (a_cc M_Ve_packHighs) 135 = .ok (.iadd, 1) := by decide +kernel
theorem d_Ve_packHighs_136 : decode (a_cc M_Ve_packHighs) 136 = .ok (.istore 4, 2) := by decide +kernel
theorem d_Ve_packHighs_138 : decode (a_cc M_Ve_packHighs) 138 = .ok (.iinc 6 1, 3) := by decide +kernel
theorem d_Ve_packHighs_141 : decode (a_cc M_Ve_packHighs) 141 = .ok (.goto (-100), 3) := by decide +kernel
theorem d_Ve_packHighs_144 : decode (a_cc M_Ve_packHighs) 144 = .ok (.aload_n 0, 1) := by decide +kernel
theorem d_Ve_packHighs_145 : decode (a_cc M_Ve_packHighs) 145 = .ok (.getfield 23, 3) := by decide +kernel
theorem d_Ve_packHighs_148 : decode (a_cc M_Ve_packHighs) 148 = .ok (.getfield 203, 3) := by decide +kernel
theorem d_Ve_packHighs_151 : decode (a_cc M_Ve_packHighs) 151 = .ok (.aload_n 0, 1) := by decide +kernel
theorem d_Ve_packHighs_152 : decode (a_cc M_Ve_packHighs) 152 = .ok (.getfield 23, 3) := by decide +kernel
theorem d_Ve_packHighs_155 : decode (a_cc M_Ve_packHighs) 155 = .ok (.getfield 186, 3) := by decide +kernel
theorem d_Ve_packHighs_158 : decode (a_cc M_Ve_packHighs) 158 = .ok (.aload_n 2, 1) := by decide +kernel
theorem d_Ve_packHighs_159 : decode (a_cc M_Ve_packHighs) 159 = .ok (.getfield 215, 3) := by decide +kernel
theorem d_Ve_packHighs_162 : decode (a_cc M_Ve_packHighs) 162 = .ok (.invokevirtual 218, 3) := by decide +kernel
theorem d_Ve_packHighs_165 : decode (a_cc M_Ve_packHighs) 165 = .ok (.iinc 3 1, 3) := by decide +kernel
theorem d_Ve_packHighs_168 : decode (a_cc M_Ve_packHighs) 168 = .ok (.goto (-156), 3) := by decide +kernel
theorem d_Ve_packHighs_171 : decode (a_cc M_Ve_packHighs) 171 = .ok (.return_, 1) := by decide +kernel
theorem fd_Ve_203 : a_Fd "ModuleSigner$Verifier" 203 3 12 2 := ⟨by decide, by decide, rfl, List.mem_append_right _ (List.mem_of_getElem? (i := 266) (by decide +kernel))⟩
theorem cs_Ve_packHighs_7 : a_CV M_Ve_packHighs M_By_clear 206 1 1 0 0 := ⟨⟨ok_By_clear, by decide, by decide, by decide⟩, by decide, rfl, List.mem_append_right _ (List.mem_of_getElem? (i := 1001) (by decide +kernel)), List.mem_append_right _ (List.mem_of_getElem? (i := 502) (by decide +kernel)), List.mem_append_right _ (List.mem_of_getElem? (i := 503) (by decide +kernel)), by decide +kernel⟩
theorem cs_Ve_packHighs_25 : a_CS M_Ve_packHighs M_Ve_hintsEnd 92 3 0 3 := ⟨⟨ok_Ve_hintsEnd, by decide, by decide, by decide⟩, List.mem_append_right _ (List.mem_of_getElem? (i := 954) (by decide +kernel)), List.mem_append_right _ (List.mem_of_getElem? (i := 955) (by decide +kernel)), by decide +kernel⟩
theorem cs_Ve_packHighs_33 : a_CS M_Ve_packHighs M_Ve_hintsEnd 92 3 0 3 := ⟨⟨ok_Ve_hintsEnd, by decide, by decide, by decide⟩, List.mem_append_right _ (List.mem_of_getElem? (i := 954) (by decide +kernel)), List.mem_append_right _ (List.mem_of_getElem? (i := 955) (by decide +kernel)), by decide +kernel⟩
theorem cs_Ve_packHighs_72 : a_CS M_Ve_packHighs M_Ve_hintsStart 84 1 1 1 := ⟨⟨ok_Ve_hintsStart, by decide, by decide, by decide⟩, List.mem_append_right _ (List.mem_of_getElem? (i := 957) (by decide +kernel)), List.mem_append_right _ (List.mem_of_getElem? (i := 958) (by decide +kernel)), by decide +kernel⟩
theorem cs_Ve_packHighs_78 : a_CV M_Ve_packHighs M_By_at 88 1 2 0 1 := ⟨⟨ok_By_at, by decide, by decide, by decide⟩, by decide, rfl, List.mem_append_right _ (List.mem_of_getElem? (i := 960) (by decide +kernel)), List.mem_append_right _ (List.mem_of_getElem? (i := 537) (by decide +kernel)), List.mem_append_right _ (List.mem_of_getElem? (i := 538) (by decide +kernel)), by decide +kernel⟩
theorem cs_Ve_packHighs_110 : a_CV M_Ve_packHighs M_Pa_hintedHigh 209 2 2 2 1 := ⟨⟨ok_Pa_hintedHigh, by decide, by decide, by decide⟩, by decide, rfl, List.mem_append_right _ (List.mem_of_getElem? (i := 1002) (by decide +kernel)), List.mem_append_right _ (List.mem_of_getElem? (i := 1003) (by decide +kernel)), List.mem_append_right _ (List.mem_of_getElem? (i := 1004) (by decide +kernel)), by decide +kernel⟩
theorem cs_Ve_packHighs_119 : a_CV M_Ve_packHighs M_Pa_high 212 2 2 2 1 := ⟨⟨ok_Pa_high, by decide, by decide, by decide⟩, by decide, rfl, List.mem_append_right _ (List.mem_of_getElem? (i := 1008) (by decide +kernel)), List.mem_append_right _ (List.mem_of_getElem? (i := 867) (by decide +kernel)), List.mem_append_right _ (List.mem_of_getElem? (i := 868) (by decide +kernel)), by decide +kernel⟩
theorem fd_Ve_215 : a_Fd "ModuleSigner$Verifier" 215 2 12 0 := ⟨by decide, by decide, rfl, List.mem_append_right _ (List.mem_of_getElem? (i := 122) (by decide +kernel))⟩
theorem cs_Ve_packHighs_162 : a_CV M_Ve_packHighs M_By_addBits 218 1 3 0 2 := ⟨⟨ok_By_addBits, by decide, by decide, by decide⟩, by decide, rfl, List.mem_append_right _ (List.mem_of_getElem? (i := 1009) (by decide +kernel)), List.mem_append_right _ (List.mem_of_getElem? (i := 757) (by decide +kernel)), List.mem_append_right _ (List.mem_of_getElem? (i := 758) (by decide +kernel)), by decide +kernel⟩
def M_Ve_verify : a_M := (⟨"ModuleSigner$Verifier", "verify", "([LModuleSigner$Bytes;LModuleSigner$Parameters;I)Z"⟩, prog_10_method_2_code, 5, some .boolean, "ModuleSigner$Verifier", 9, 130, [])
theorem ok_Ve_verify : a_Ok M_Ve_verify := ⟨rfl, by decide +kernel, ⟨by decide, by decide⟩, List.mem_append_right _ (List.mem_of_getElem? (i := 10) (by decide +kernel)), Or.inl ⟨rfl, List.mem_append_right _ (List.mem_of_getElem? (i := 950) (by decide +kernel))⟩⟩
theorem d_Ve_verify_0 : decode (a_cc M_Ve_verify) 0 = .ok (.aload_n 1, 1) := by decide +kernel
theorem d_Ve_verify_1 : decode (a_cc M_Ve_verify) 1 = .ok (.iconst 5, 1) := by decide +kernel
theorem d_Ve_verify_2 : decode (a_cc M_Ve_verify) 2 = .ok (.aaload, 1) := by decide +kernel
theorem d_Ve_verify_3 : decode (a_cc M_Ve_verify) 3 = .ok (.astore 4, 2) := by decide +kernel
theorem d_Ve_verify_5 : decode (a_cc M_Ve_verify) 5 = .ok (.aload 4, 2) := by decide +kernel
theorem d_Ve_verify_7 : decode (a_cc M_Ve_verify) 7 = .ok (.getfield 27, 3) := by decide +kernel
theorem d_Ve_verify_10 : decode (a_cc M_Ve_verify) 10 = .ok (.aload_n 2, 1) := by decide +kernel
theorem d_Ve_verify_11 : decode (a_cc M_Ve_verify) 11 = .ok (.getfield 31, 3) := by decide +kernel
theorem d_Ve_verify_14 : decode (a_cc M_Ve_verify) 14 = .ok (.if_icmp .ne 22, 3) := by decide +kernel
theorem d_Ve_verify_17 : decode (a_cc M_Ve_verify) 17 = .ok (.aload 4, 2) := by decide +kernel
theorem d_Ve_verify_19 : decode (a_cc M_Ve_verify) 19 = .ok (.aload_n 2, 1) := by decide +kernel
theorem d_Ve_verify_20 : decode (a_cc M_Ve_verify) 20 = .ok (.invokestatic 36, 3) := by decide +kernel
theorem d_Ve_verify_23 : decode (a_cc M_Ve_verify) 23 = .ok (.ifCond .eq 13, 3) := by decide +kernel
theorem d_Ve_verify_26 : decode (a_cc M_Ve_verify) 26 = .ok (.aload_n 0, 1) := by decide +kernel
theorem d_Ve_verify_27 : decode (a_cc M_Ve_verify) 27 = .ok (.aload 4, 2) := by decide +kernel
theorem d_Ve_verify_29 : decode (a_cc M_Ve_verify) 29 = .ok (.aload_n 2, 1) := by decide +kernel
theorem d_Ve_verify_30 : decode (a_cc M_Ve_verify) 30 = .ok (.invokevirtual 40, 3) := by decide +kernel
theorem d_Ve_verify_33 : decode (a_cc M_Ve_verify) 33 = .ok (.ifCond .ne 5, 3) := by decide +kernel
theorem d_Ve_verify_36 : decode (a_cc M_Ve_verify) 36 = .ok (.iconst 0, 1) := by decide +kernel
theorem d_Ve_verify_37 : decode (a_cc M_Ve_verify) 37 = .ok (.ireturn, 1) := by decide +kernel
theorem d_Ve_verify_38 : decode (a_cc M_Ve_verify) 38 = .ok (.aload_n 0, 1) := by decide +kernel
theorem d_Ve_verify_39 : decode (a_cc M_Ve_verify) 39 = .ok (.aload_n 1, 1) := by decide +kernel
theorem d_Ve_verify_40 : decode (a_cc M_Ve_verify) 40 = .ok (.iload_n 3, 1) := by decide +kernel
theorem d_Ve_verify_41 : decode (a_cc M_Ve_verify) 41 = .ok (.invokevirtual 43, 3) := by decide +kernel
theorem d_Ve_verify_44 : decode (a_cc M_Ve_verify) 44 = .ok (.aload_n 0, 1) := by decide +kernel
theorem d_Ve_verify_45 : decode (a_cc M_Ve_verify) 45 = .ok (.getfield 23, 3) := by decide +kernel
theorem d_Ve_verify_48 : decode (a_cc M_Ve_verify) 48 = .ok (.getfield 47, 3) := by decide +kernel
theorem d_Ve_verify_51 : decode (a_cc M_Ve_verify) 51 = .ok (.aload 4, 2) := by decide +kernel
theorem d_Ve_verify_53 : decode (a_cc M_Ve_verify) 53 = .ok (.aload_n 2, 1) := by decide +kernel
theorem d_Ve_verify_54 : decode (a_cc M_Ve_verify) 54 = .ok (.getfield 52, 3) := by decide +kernel
theorem d_Ve_verify_57 : decode (a_cc M_Ve_verify) 57 = .ok (.invokevirtual 55, 3) := by decide +kernel
theorem d_Ve_verify_60 : decode (a_cc M_Ve_verify) 60 = .ok (.aload_n 0, 1) := by decide +kernel
theorem d_Ve_verify_61 : decode (a_cc M_Ve_verify) 61 = .ok (.getfield 23, 3) := by decide +kernel
theorem d_Ve_verify_64 : decode (a_cc M_Ve_verify) 64 = .ok (.aload_n 2, 1) := by decide +kernel
theorem d_Ve_verify_65 : decode (a_cc M_Ve_verify) 65 = .ok (.invokevirtual 59, 3) := by decide +kernel
theorem d_Ve_verify_68 : decode (a_cc M_Ve_verify) 68 = .ok (.aload_n 0, 1) := by decide +kernel
theorem d_Ve_verify_69 : decode (a_cc M_Ve_verify) 69 = .ok (.aload_n 1, 1) := by decide +kernel
theorem d_Ve_verify_70 : decode (a_cc M_Ve_verify) 70 = .ok (.iconst 1, 1) := by decide +kernel
theorem d_Ve_verify_71 : decode (a_cc M_Ve_verify) 71 = .ok (.aaload, 1) := by decide +kernel
theorem d_Ve_verify_72 : decode (a_cc M_Ve_verify) 72 = .ok (.aload_n 2, 1) := by decide +kernel
theorem d_Ve_verify_73 : decode (a_cc M_Ve_verify) 73 = .ok (.invokevirtual 63, 3) := by decide +kernel
theorem d_Ve_verify_76 : decode (a_cc M_Ve_verify) 76 = .ok (.aload_n 0, 1) := by decide +kernel
theorem d_Ve_verify_77 : decode (a_cc M_Ve_verify) 77 = .ok (.aload 4, 2) := by decide +kernel
theorem d_Ve_verify_79 : decode (a_cc M_Ve_verify) 79 = .ok (.aload_n 2, 1) := by decide +kernel
theorem d_Ve_verify_80 : decode (a_cc M_Ve_verify) 80 = .ok (.invokevirtual 67, 3) := by decide +kernel
theorem d_Ve_verify_83 : decode (a_cc M_Ve_verify) 83 = .ok (.aload_n 0, 1) := by decide +kernel
theorem d_Ve_verify_84 : decode (a_cc M_Ve_verify) 84 = .ok (.getfield 23, 3) := by decide +kernel
theorem d_Ve_verify_87 : decode (a_cc M_Ve_verify) 87 = .ok (.aload_n 2, 1) := by decide +kernel
theorem d_Ve_verify_88 : decode (a_cc M_Ve_verify) 88 = .ok (.aload_n 0, 1) := by decide +kernel
theorem d_Ve_verify_89 : decode (a_cc M_Ve_verify) 89 = .ok (.getfield 20, 3) := by decide +kernel
theorem d_Ve_verify_92 : decode (a_cc M_Ve_verify) 92 = .ok (.invokevirtual 70, 3) := by decide +kernel
theorem d_Ve_verify_95 : decode (a_cc M_Ve_verify) 95 = .ok (.aload_n 1, 1) := by decide +kernel
theorem d_Ve_verify_96 : decode (a_cc M_Ve_verify) 96 = .ok (.bipush 6, 2) := by decide +kernel
theorem d_Ve_verify_98 : decode (a_cc M_Ve_verify) 98 = .ok (.aaload, 1) := by decide +kernel
theorem d_Ve_verify_99 : decode (a_cc M_Ve_verify) 99 = .ok (.aload_n 0, 1) := by decide +kernel
theorem d_Ve_verify_100 : decode (a_cc M_Ve_verify) 100 = .ok (.getfield 20, 3) := by decide +kernel
theorem d_Ve_verify_103 : decode (a_cc M_Ve_verify) 103 = .ok (.aload_n 2, 1) := by decide +kernel
theorem d_Ve_verify_104 : decode (a_cc M_Ve_verify) 104 = .ok (.getfield 52, 3) := by decide +kernel
theorem d_Ve_verify_107 : decode (a_cc M_Ve_verify) 107 = .ok (.invokevirtual 55, 3) := by decide +kernel
theorem d_Ve_verify_110 : decode (a_cc M_Ve_verify) 110 = .ok (.aload_n 0, 1) := by decide +kernel
theorem d_Ve_verify_111 : decode (a_cc M_Ve_verify) 111 = .ok (.getfield 20, 3) := by decide +kernel
theorem d_Ve_verify_114 : decode (a_cc M_Ve_verify) 114 = .ok (.aload 4, 2) := by decide +kernel
theorem d_Ve_verify_116 : decode (a_cc M_Ve_verify) 116 = .ok (.aload_n 2, 1) := by decide +kernel
theorem d_Ve_verify_117 : decode (a_cc M_Ve_verify) 117 = .ok (.getfield 52, 3) := by decide +kernel
theorem d_Ve_verify_120 : decode (a_cc M_Ve_verify) 120 = .ok (.invokevirtual 74, 3) := by decide +kernel
theorem d_Ve_verify_123 : decode (a_cc M_Ve_verify) 123 = .ok (.ireturn, 1) := by decide +kernel
theorem cs_Ve_verify_20 : a_CS M_Ve_verify M_Ve_hintsStand 36 2 0 2 := ⟨⟨ok_Ve_hintsStand, by decide, by decide, by decide⟩, List.mem_append_right _ (List.mem_of_getElem? (i := 951) (by decide +kernel)), List.mem_append_right _ (List.mem_of_getElem? (i := 952) (by decide +kernel)), by decide +kernel⟩
theorem cs_Ve_verify_30 : a_CV M_Ve_verify M_Ve_answersHide 40 6 3 0 2 := ⟨⟨ok_Ve_answersHide, by decide, by decide, by decide⟩, by decide, rfl, List.mem_append_right _ (List.mem_of_getElem? (i := 964) (by decide +kernel)), List.mem_append_right _ (List.mem_of_getElem? (i := 966) (by decide +kernel)), List.mem_append_left _ (List.mem_of_getElem? (i := 24) (by decide +kernel)), by decide +kernel⟩
theorem cs_Ve_verify_41 : a_CV M_Ve_verify M_Ve_digestMessage 43 6 3 0 2 := ⟨⟨ok_Ve_digestMessage, by decide, by decide, by decide⟩, by decide, rfl, List.mem_append_right _ (List.mem_of_getElem? (i := 972) (by decide +kernel)), List.mem_append_right _ (List.mem_of_getElem? (i := 974) (by decide +kernel)), List.mem_append_left _ (List.mem_of_getElem? (i := 25) (by decide +kernel)), by decide +kernel⟩
theorem fd_Ve_47 : a_Fd "ModuleSigner$Verifier" 47 3 11 2 := ⟨by decide, by decide, rfl, List.mem_append_right _ (List.mem_of_getElem? (i := 262) (by decide +kernel))⟩
theorem cs_Ve_verify_57 : a_CV M_Ve_verify M_By_become 55 1 3 0 2 := ⟨⟨ok_By_become, by decide, by decide, by decide⟩, by decide, rfl, List.mem_append_right _ (List.mem_of_getElem? (i := 981) (by decide +kernel)), List.mem_append_right _ (List.mem_of_getElem? (i := 492) (by decide +kernel)), List.mem_append_right _ (List.mem_of_getElem? (i := 493) (by decide +kernel)), by decide +kernel⟩
theorem cs_Ve_verify_65 : a_CV M_Ve_verify M_Be_castBall 59 3 2 0 1 := ⟨⟨ok_Be_castBall, by decide, by decide, by decide⟩, by decide, rfl, List.mem_append_right _ (List.mem_of_getElem? (i := 982) (by decide +kernel)), List.mem_append_right _ (List.mem_of_getElem? (i := 880) (by decide +kernel)), List.mem_append_right _ (List.mem_of_getElem? (i := 881) (by decide +kernel)), by decide +kernel⟩
theorem cs_Ve_verify_73 : a_CV M_Ve_verify M_Ve_computeImages 63 6 3 0 2 := ⟨⟨ok_Ve_computeImages, by decide, by decide, by decide⟩, by decide, rfl, List.mem_append_right _ (List.mem_of_getElem? (i := 983) (by decide +kernel)), List.mem_append_right _ (List.mem_of_getElem? (i := 985) (by decide +kernel)), List.mem_append_left _ (List.mem_of_getElem? (i := 26) (by decide +kernel)), by decide +kernel⟩
theorem cs_Ve_verify_80 : a_CV M_Ve_verify M_Ve_packHighs 67 6 3 0 2 := ⟨⟨ok_Ve_packHighs, by decide, by decide, by decide⟩, by decide, rfl, List.mem_append_right _ (List.mem_of_getElem? (i := 997) (by decide +kernel)), List.mem_append_right _ (List.mem_of_getElem? (i := 999) (by decide +kernel)), List.mem_append_left _ (List.mem_of_getElem? (i := 28) (by decide +kernel)), by decide +kernel⟩
theorem cs_Ve_verify_92 : a_CV M_Ve_verify M_Be_hashHighs 70 3 3 0 2 := ⟨⟨ok_Be_hashHighs, by decide, by decide, by decide⟩, by decide, rfl, List.mem_append_right _ (List.mem_of_getElem? (i := 1010) (by decide +kernel)), List.mem_append_right _ (List.mem_of_getElem? (i := 876) (by decide +kernel)), List.mem_append_right _ (List.mem_of_getElem? (i := 877) (by decide +kernel)), by decide +kernel⟩
theorem cs_Ve_verify_107 : a_CV M_Ve_verify M_By_become 55 1 3 0 2 := ⟨⟨ok_By_become, by decide, by decide, by decide⟩, by decide, rfl, List.mem_append_right _ (List.mem_of_getElem? (i := 981) (by decide +kernel)), List.mem_append_right _ (List.mem_of_getElem? (i := 492) (by decide +kernel)), List.mem_append_right _ (List.mem_of_getElem? (i := 493) (by decide +kernel)), by decide +kernel⟩
theorem cs_Ve_verify_120 : a_CV M_Ve_verify M_By_matches 74 1 3 0 2 := ⟨⟨ok_By_matches, by decide, by decide, by decide⟩, by decide, rfl, List.mem_append_right _ (List.mem_of_getElem? (i := 1011) (by decide +kernel)), List.mem_append_right _ (List.mem_of_getElem? (i := 562) (by decide +kernel)), List.mem_append_right _ (List.mem_of_getElem? (i := 563) (by decide +kernel)), by decide +kernel⟩
