/-! names, printed by program: methods, their instructions, what they link -/
def M_Mo_attempt : a_M := (⟨"ModuleSignerModel", "attempt", "(I)I"⟩, prog_12_method_66_code, 9, some .int, "ModuleSignerModel", 6, 114, [])
set_option maxRecDepth 100000 in
set_option maxHeartbeats 4000000 in
theorem ok_Mo_attempt : a_Ok M_Mo_attempt := ⟨rfl, by decide +kernel, ⟨by decide, by decide⟩, List.mem_append_right _ (List.mem_of_getElem? (i := 11) (by decide +kernel)), Or.inl ⟨rfl, List.mem_append_right _ (List.mem_of_getElem? (i := 1389) (by rfl))⟩⟩
theorem d_Mo_attempt_0 : decode (a_cc M_Mo_attempt) 0 = .ok (.iconst 0, 1) := by decide +kernel
theorem d_Mo_attempt_1 : decode (a_cc M_Mo_attempt) 1 = .ok (.istore_n 2, 1) := by decide +kernel
theorem d_Mo_attempt_2 : decode (a_cc M_Mo_attempt) 2 = .ok (.iload_n 2, 1) := by decide +kernel
theorem d_Mo_attempt_3 : decode (a_cc M_Mo_attempt) 3 = .ok (.aload_n 0, 1) := by decide +kernel
theorem d_Mo_attempt_4 : decode (a_cc M_Mo_attempt) 4 = .ok (.getfield 226, 3) := by decide +kernel
theorem d_Mo_attempt_7 : decode (a_cc M_Mo_attempt) 7 = .ok (.if_icmp .ge 90, 3) := by decide +kernel
theorem d_Mo_attempt_10 : decode (a_cc M_Mo_attempt) 10 = .ok (.aload_n 0, 1) := by decide +kernel
theorem d_Mo_attempt_11 : decode (a_cc M_Mo_attempt) 11 = .ok (.bipush 12, 2) := by decide +kernel
theorem d_Mo_attempt_13 : decode (a_cc M_Mo_attempt) 13 = .ok (.invokevirtual 148, 3) := by decide +kernel
theorem d_Mo_attempt_16 : decode (a_cc M_Mo_attempt) 16 = .ok (.aload_n 0, 1) := by decide +kernel
theorem d_Mo_attempt_17 : decode (a_cc M_Mo_attempt) 17 = .ok (.aload_n 0, 1) := by decide +kernel
theorem d_Mo_attempt_18 : decode (a_cc M_Mo_attempt) 18 = .ok (.getfield 96, 3) := by decide +kernel
theorem d_Mo_attempt_21 : decode (a_cc M_Mo_attempt) 21 = .ok (.iconst 0, 1) := by decide +kernel
theorem d_Mo_attempt_22 : decode (a_cc M_Mo_attempt) 22 = .ok (.bipush 64, 2) := by decide +kernel
theorem d_Mo_attempt_24 : decode (a_cc M_Mo_attempt) 24 = .ok (.invokevirtual 268, 3) := by decide +kernel
theorem d_Mo_attempt_27 : decode (a_cc M_Mo_attempt) 27 = .ok (.aload_n 0, 1) := by decide +kernel
theorem d_Mo_attempt_28 : decode (a_cc M_Mo_attempt) 28 = .ok (.iload_n 1, 1) := by decide +kernel
theorem d_Mo_attempt_29 : decode (a_cc M_Mo_attempt) 29 = .ok (.iload_n 2, 1) := by decide +kernel
theorem d_Mo_attempt_30 : decode (a_cc M_Mo_attempt) 30 = .ok (.iadd, 1) := by decide +kernel
theorem d_Mo_attempt_31 : decode (a_cc M_Mo_attempt) 31 = .ok (.invokevirtual 153, 3) := by decide +kernel
theorem d_Mo_attempt_34 : decode (a_cc M_Mo_attempt) 34 = .ok (.aload_n 0, 1) := by decide +kernel
theorem d_Mo_attempt_35 : decode (a_cc M_Mo_attempt) 35 = .ok (.iload_n 1, 1) := by decide +kernel
theorem d_Mo_attempt_36 : decode (a_cc M_Mo_attempt) 36 = .ok (.iload_n 2, 1) := by decide +kernel
theorem d_Mo_attempt_37 : decode (a_cc M_Mo_attempt) 37 = .ok (.iadd, 1) := by decide +kernel
theorem d_Mo_attempt_38 : decode (a_cc M_Mo_attempt) 38 = .ok (.bipush 8, 2) := by decide +kernel
theorem d_Mo_attempt_40 : decode (a_cc M_Mo_attempt) 40 = .ok (.ishr, 1) := by decide +kernel
theorem d_Mo_attempt_41 : decode (a_cc M_Mo_attempt) 41 = .ok (.invokevirtual 153, 3) := by decide +kernel
theorem d_Mo_attempt_44 : decode (a_cc M_Mo_attempt) 44 = .ok (.aload_n 0, 1) := by decide +kernel
theorem d_Mo_attempt_45 : decode (a_cc M_Mo_attempt) 45 = .ok (.aload_n 0, 1) := by decide +kernel
theorem d_Mo_attempt_46 : decode (a_cc M_Mo_attempt) 46 = .ok (.getfield 84, 3) := by decide +kernel
theorem d_Mo_attempt_49 : decode (a_cc M_Mo_attempt) 49 = .ok (.iconst 0, 1) := by decide +kernel
theorem d_Mo_attempt_50 : decode (a_cc M_Mo_attempt) 50 = .ok (.bipush 32, 2) := by decide +kernel
theorem d_Mo_attempt_52 : decode (a_cc M_Mo_attempt) 52 = .ok (.aload_n 0, 1) := by decide +kernel
theorem d_Mo_attempt_53 : decode (a_cc M_Mo_attempt) 53 = .ok (.getfield 251, 3) := by decide +kernel
theorem d_Mo_attempt_56 : decode (a_cc M_Mo_attempt) 56 = .ok (.imul, 1) := by decide +kernel
theorem d_Mo_attempt_57 : decode (a_cc M_Mo_attempt) 57 = .ok (.invokevirtual 290, 3) := by decide +kernel
theorem d_Mo_attempt_60 : decode (a_cc M_Mo_attempt) 60 = .ok (.aload_n 0, 1) := by decide +kernel
theorem d_Mo_attempt_61 : decode (a_cc M_Mo_attempt) 61 = .ok (.iconst 0, 1) := by decide +kernel
theorem d_Mo_attempt_62 : decode (a_cc M_Mo_attempt) 62 = .ok (.putfield 216, 3) := by decide +kernel
theorem d_Mo_attempt_65 : decode (a_cc M_Mo_attempt) 65 = .ok (.aload_n 0, 1) := by decide +kernel
theorem d_Mo_attempt_66 : decode (a_cc M_Mo_attempt) 66 = .ok (.aload_n 0, 1) := by decide +kernel
theorem d_Mo_attempt_67 : decode (a_cc M_Mo_attempt) 67 = .ok (.getfield 84, 3) := by decide +kernel
theorem d_Mo_attempt_70 : decode (a_cc M_Mo_attempt) 70 = .ok (.iconst 0, 1) := by decide +kernel
theorem d_Mo_attempt_71 : decode (a_cc M_Mo_attempt) 71 = .ok (.aload_n 0, 1) := by decide +kernel
theorem d_Mo_attempt_72 : decode (a_cc M_Mo_attempt) 72 = .ok (.getfield 76, 3) := by decide +kernel
theorem d_Mo_attempt_75 : decode (a_cc M_Mo_attempt) 75 = .ok (.bipush 23, 2) := by decide +kernel
theorem d_Mo_attempt_77 : decode (a_cc M_Mo_attempt) 77 = .ok (.iload_n 2, 1) := by decide +kernel
theorem d_Mo_attempt_78 : decode (a_cc M_Mo_attempt) 78 = .ok (.iadd, 1) := by decide +kernel
theorem d_Mo_attempt_79 : decode (a_cc M_Mo_attempt) 79 = .ok (.aaload, 1) := by decide +kernel
theorem d_Mo_attempt_80 : decode (a_cc M_Mo_attempt) 80 = .ok (.aload_n 0, 1) := by decide +kernel
theorem d_Mo_attempt_81 : decode (a_cc M_Mo_attempt) 81 = .ok (.getfield 237, 3) := by decide +kernel
theorem d_Mo_attempt_84 : decode (a_cc M_Mo_attempt) 84 = .ok (.aload_n 0, 1) := by decide +kernel
theorem d_Mo_attempt_85 : decode (a_cc M_Mo_attempt) 85 = .ok (.getfield 251, 3) := by decide +kernel
theorem d_Mo_attempt_88 : decode (a_cc M_Mo_attempt) 88 = .ok (.invokevirtual 337, 3) := by decide +kernel
theorem d_Mo_attempt_91 : decode (a_cc M_Mo_attempt) 91 = .ok (.iinc 2 1, 3) := by decide +kernel
theorem d_Mo_attempt_94 : decode (a_cc M_Mo_attempt) 94 = .ok (.goto (-92), 3) := by decide +kernel
theorem d_Mo_attempt_97 : decode (a_cc M_Mo_attempt) 97 = .ok (.iconst 0, 1) := by decide +kernel
theorem d_Mo_attempt_98 : decode (a_cc M_Mo_attempt) 98 = .ok (.istore_n 2, 1) := by decide +kernel
theorem d_Mo_attempt_99 : decode (a_cc M_Mo_attempt) 99 = .ok (.iload_n 2, 1) := by decide +kernel
theorem d_Mo_attempt_100 : decode (a_cc M_Mo_attempt) 100 = .ok (.aload_n 0, 1) := by decide +kernel
theorem d_Mo_attempt_101 : decode (a_cc M_Mo_attempt) 101 = .ok (.getfield 223, 3) := by decide +kernel
theorem d_Mo_attempt_104 : decode (a_cc M_Mo_attempt) 104 = .ok (.if_icmp .ge 200, 3) := by decide +kernel
theorem d_Mo_attempt_107 : decode (a_cc M_Mo_attempt) 107 = .ok (.aload_n 0, 1) := by decide +kernel
theorem d_Mo_attempt_108 : decode (a_cc M_Mo_attempt) 108 = .ok (.getfield 76, 3) := by decide +kernel
theorem d_Mo_attempt_111 : decode (a_cc M_Mo_attempt) 111 = .ok (.bipush 30, 2) := by decide +kernel
theorem d_Mo_attempt_113 : decode (a_cc M_Mo_attempt) 113 = .ok (.iload_n 2, 1) := by decide +kernel
theorem d_Mo_attempt_114 : decode (a_cc M_Mo_attempt) 114 = .ok (.iadd, 1) := by decide +kernel
theorem d_Mo_attempt_115 : decode (a_cc M_Mo_attempt) 115 = .ok (.aaload, 1) := by decide +kernel
theorem d_Mo_attempt_116 : decode (a_cc M_Mo_attempt) 116 = .ok (.invokestatic 275, 3) := by decide +kernel
theorem d_Mo_attempt_119 : decode (a_cc M_Mo_attempt) 119 = .ok (.iconst 0, 1) := by decide +kernel
theorem d_Mo_attempt_120 : decode (a_cc M_Mo_attempt) 120 = .ok (.istore_n 3, 1) := by decide +kernel
theorem d_Mo_attempt_121 : decode (a_cc M_Mo_attempt) 121 = .ok (.iload_n 3, 1) := by decide +kernel
theorem d_Mo_attempt_122 : decode (a_cc M_Mo_attempt) 122 = .ok (.aload_n 0, 1) := by decide +kernel
theorem d_Mo_attempt_123 : decode (a_cc M_Mo_attempt) 123 = .ok (.getfield 226, 3) := by decide +kernel
theorem d_Mo_attempt_126 : decode (a_cc M_Mo_attempt) 126 = .ok (.if_icmp .ge 118, 3) := by decide +kernel
theorem d_Mo_attempt_129 : decode (a_cc M_Mo_attempt) 129 = .ok (.iconst 0, 1) := by decide +kernel
theorem d_Mo_attempt_130 : decode (a_cc M_Mo_attempt) 130 = .ok (.istore 4, 2) := by decide +kernel
theorem d_Mo_attempt_132 : decode (a_cc M_Mo_attempt) 132 = .ok (.iload 4, 2) := by decide +kernel
theorem d_Mo_attempt_134 : decode (a_cc M_Mo_attempt) 134 = .ok (.sipush 256, 3) := by decide +kernel
theorem d_Mo_attempt_137 : decode (a_cc M_Mo_attempt) 137 = .ok (.if_icmp .ge 39, 3) := by decide +kernel
theorem d_Mo_attempt_140 : decode (a_cc M_Mo_attempt) 140 = .ok (.aload_n 0, 1) := by decide +kernel
theorem d_Mo_attempt_141 : decode (a_cc M_Mo_attempt) 141 = .ok (.getfield 76, 3) := by decide +kernel
theorem d_Mo_attempt_144 : decode (a_cc M_Mo_attempt) 144 = .ok (.bipush 46, 2) := by decide +kernel
theorem d_Mo_attempt_146 : decode (a_cc M_Mo_attempt) 146 = .ok (.aaload, 1) := by decide +kernel
theorem d_Mo_attempt_147 : decode (a_cc M_Mo_attempt) 147 = .ok (.iload 4, 2) := by decide +kernel
theorem d_Mo_attempt_149 : decode (a_cc M_Mo_attempt) 149 = .ok (.aload_n 0, 1) := by decide +kernel
theorem d_Mo_attempt_150 : decode (a_cc M_Mo_attempt) 150 = .ok (.getfield 76, 3) := by decide +kernel
theorem d_Mo_attempt_153 : decode (a_cc M_Mo_attempt) 153 = .ok (.bipush 23, 2) := by decide +kernel
theorem d_Mo_attempt_155 : decode (a_cc M_Mo_attempt) 155 = .ok (.iload_n 3, 1) := by decide +kernel
theorem d_Mo_attempt_156 : decode (a_cc M_Mo_attempt) 156 = .ok (.iadd, 1) := by decide +kernel
theorem d_Mo_attempt_157 : decode (a_cc M_Mo_attempt) 157 = .ok (.aaload, 1) := by decide +kernel
theorem d_Mo_attempt_158 : decode (a_cc M_Mo_attempt) 158 = .ok (.iload 4, 2) := by decide +kernel
theorem d_Mo_attempt_160 : decode (a_cc M_Mo_attempt) 160 = .ok (.iaload, 1) := by decide +kernel
theorem d_Mo_attempt_161 : decode (a_cc M_Mo_attempt) 161 = .ok (.ldc_w 264, 3) := by decide +kernel
theorem d_Mo_attempt_164 : decode (a_cc M_Mo_attempt) 164 = .ok (.iadd, 1) := by decide +kernel
theorem d_Mo_attempt_165 : decode (a_cc M_Mo_attempt) 165 = .ok (.ldc_w 264, 3) := by decide +kernel
theorem d_Mo_attempt_168 : decode (a_cc M_Mo_attempt) 168 = .ok (.irem, 1) := by decide +kernel
theorem d_Mo_attempt_169 : decode (a_cc M_Mo_attempt) 169 = .ok (.iastore, 1) := by decide +kernel
theorem d_Mo_attempt_170 : decode (a_cc M_Mo_attempt) 170 = .ok (.iinc 4 1, 3) := by decide +kernel
theorem d_Mo_attempt_173 : decode (a_cc M_Mo_attempt) 173 = .ok (.goto (-41), 3) := by decide +kernel
theorem d_Mo_attempt_176 : decode (a_cc M_Mo_attempt) 176 = .ok (.aload_n 0, 1) := by decide +kernel
theorem d_Mo_attempt_177 : decode (a_cc M_Mo_attempt) 177 = .ok (.aload_n 0, 1) := by decide +kernel
theorem d_Mo_attempt_178 : decode (a_cc M_Mo_attempt) 178 = .ok (.getfield 76, 3) := by decide +kernel
theorem d_Mo_attempt_181 : decode (a_cc M_Mo_attempt) 181 = .ok (.bipush 46, 2) := by decide +kernel
theorem d_Mo_attempt_183 : decode (a_cc M_Mo_attempt) 183 = .ok (.aaload, 1) := by decide +kernel
theorem d_Mo_attempt_184 : decode (a_cc M_Mo_attempt) 184 = .ok (.invokevirtual 304, 3) := by decide +kernel
theorem d_Mo_attempt_187 : decode (a_cc M_Mo_attempt) 187 = .ok (.aload_n 0, 1) := by decide +kernel
theorem d_Mo_attempt_188 : decode (a_cc M_Mo_attempt) 188 = .ok (.aload_n 0, 1) := by decide +kernel
theorem d_Mo_attempt_189 : decode (a_cc M_Mo_attempt) 189 = .ok (.getfield 76, 3) := by decide +kernel
theorem d_Mo_attempt_192 : decode (a_cc M_Mo_attempt) 192 = .ok (.bipush 47, 2) := by decide +kernel
theorem d_Mo_attempt_194 : decode (a_cc M_Mo_attempt) 194 = .ok (.aaload, 1) := by decide +kernel
theorem d_Mo_attempt_195 : decode (a_cc M_Mo_attempt) 195 = .ok (.aload_n 0, 1) := by decide +kernel
theorem d_Mo_attempt_196 : decode (a_cc M_Mo_attempt) 196 = .ok (.getfield 15, 3) := by decide +kernel
theorem d_Mo_attempt_199 : decode (a_cc M_Mo_attempt) 199 = .ok (.iconst 2, 1) := by decide +kernel
theorem d_Mo_attempt_200 : decode (a_cc M_Mo_attempt) 200 = .ok (.aaload, 1) := by decide +kernel
theorem d_Mo_attempt_201 : decode (a_cc M_Mo_attempt) 201 = .ok (.iconst 0, 1) := by decide +kernel
theorem d_Mo_attempt_202 : decode (a_cc M_Mo_attempt) 202 = .ok (.iload_n 3, 1) := by decide +kernel
theorem d_Mo_attempt_203 : decode (a_cc M_Mo_attempt) 203 = .ok (.iload_n 2, 1) := by decide +kernel
theorem d_Mo_attempt_204 : decode (a_cc M_Mo_attempt) 204 = .ok (.invokevirtual 307, 3) := by decide +kernel
theorem d_Mo_attempt_207 : decode (a_cc M_Mo_attempt) 207 = .ok (.ifCond .ne 5, 3) := by decide +kernel
theorem d_Mo_attempt_210 : decode (a_cc M_Mo_attempt) 210 = .ok (.iconst (-1), 1) := by decide +kernel
theorem d_Mo_attempt_211 : decode (a_cc M_Mo_attempt) 211 = .ok (.ireturn, 1) := by decide +kernel
theorem d_Mo_attempt_212 : decode (a_cc M_Mo_attempt) 212 = .ok (.aload_n 0, 1) := by decide +kernel
theorem d_Mo_attempt_213 : decode (a_cc M_Mo_attempt) 213 = .ok (.getfield 76, 3) := by decide +kernel
theorem d_Mo_attempt_216 : decode (a_cc M_Mo_attempt) 216 = .ok (.bipush 30, 2) := by decide +kernel
theorem d_Mo_attempt_218 : decode (a_cc M_Mo_attempt) 218 = .ok (.iload_n 2, 1) := by decide +kernel
theorem d_Mo_attempt_219 : decode (a_cc M_Mo_attempt) 219 = .ok (.iadd, 1) := by decide +kernel
theorem d_Mo_attempt_220 : decode (a_cc M_Mo_attempt) 220 = .ok (.aaload, 1) := by decide +kernel
theorem d_Mo_attempt_221 : decode (a_cc M_Mo_attempt) 221 = .ok (.aload_n 0, 1) := by decide +kernel
theorem d_Mo_attempt_222 : decode (a_cc M_Mo_attempt) 222 = .ok (.getfield 76, 3) := by decide +kernel
theorem d_Mo_attempt_225 : decode (a_cc M_Mo_attempt) 225 = .ok (.bipush 46, 2) := by decide +kernel
theorem d_Mo_attempt_227 : decode (a_cc M_Mo_attempt) 227 = .ok (.aaload, 1) := by decide +kernel
theorem d_Mo_attempt_228 : decode (a_cc M_Mo_attempt) 228 = .ok (.aload_n 0, 1) := by decide +kernel
theorem d_Mo_attempt_229 : decode (a_cc M_Mo_attempt) 229 = .ok (.getfield 76, 3) := by decide +kernel
theorem d_Mo_attempt_232 : decode (a_cc M_Mo_attempt) 232 = .ok (.bipush 47, 2) := by decide +kernel
theorem d_Mo_attempt_234 : decode (a_cc M_Mo_attempt) 234 = .ok (.aaload, 1) := by decide +kernel
theorem d_Mo_attempt_235 : decode (a_cc M_Mo_attempt) 235 = .ok (.invokestatic 311, 3) := by decide +kernel
theorem d_Mo_attempt_238 : decode (a_cc M_Mo_attempt) 238 = .ok (.iinc 3 1, 3) := by decide +kernel
theorem d_Mo_attempt_241 : decode (a_cc M_Mo_attempt) 241 = .ok (.goto (-120), 3) := by decide +kernel
theorem d_Mo_attempt_244 : decode (a_cc M_Mo_attempt) 244 = .ok (.aload_n 0, 1) := by decide +kernel
theorem d_Mo_attempt_245 : decode (a_cc M_Mo_attempt) 245 = .ok (.aload_n 0, 1) := by decide +kernel
theorem d_Mo_attempt_246 : decode (a_cc M_Mo_attempt) 246 = .ok (.getfield 76, 3) := by decide +kernel
theorem d_Mo_attempt_249 : decode (a_cc M_Mo_attempt) 249 = .ok (.bipush 30, 2) := by decide +kernel
theorem d_Mo_attempt_251 : decode (a_cc M_Mo_attempt) 251 = .ok (.iload_n 2, 1) := by decide +kernel
theorem d_Mo_attempt_252 : decode (a_cc M_Mo_attempt) 252 = .ok (.iadd, 1) := by decide +kernel
theorem d_Mo_attempt_253 : decode (a_cc M_Mo_attempt) 253 = .ok (.aaload, 1) := by decide +kernel
theorem d_Mo_attempt_254 : decode (a_cc M_Mo_attempt) 254 = .ok (.invokevirtual 315, 3) := by decide +kernel
theorem d_Mo_attempt_257 : decode (a_cc M_Mo_attempt) 257 = .ok (.iconst 0, 1) := by decide +kernel
theorem d_Mo_attempt_258 : decode (a_cc M_Mo_attempt) 258 = .ok (.istore_n 3, 1) := by decide +kernel
theorem d_Mo_attempt_259 : decode (a_cc M_Mo_attempt) 259 = .ok (.iload_n 3, 1) := by decide +kernel
theorem d_Mo_attempt_260 : decode (a_cc M_Mo_attempt) 260 = .ok (.sipush 256, 3) := by decide +kernel
theorem d_Mo_attempt_263 : decode (a_cc M_Mo_attempt) 263 = .ok (.if_icmp .ge 35, 3) := by decide +kernel
theorem d_Mo_attempt_266 : decode (a_cc M_Mo_attempt) 266 = .ok (.aload_n 0, 1) := by decide +kernel
theorem d_Mo_attempt_267 : decode (a_cc M_Mo_attempt) 267 = .ok (.getfield 76, 3) := by decide +kernel
theorem d_Mo_attempt_270 : decode (a_cc M_Mo_attempt) 270 = .ok (.bipush 38, 2) := by decide +kernel
theorem d_Mo_attempt_272 : decode (a_cc M_Mo_attempt) 272 = .ok (.iload_n 2, 1) := by decide +kernel
theorem d_Mo_attempt_273 : decode (a_cc M_Mo_attempt) 273 = .ok (.iadd, 1) := by decide +kernel
theorem d_Mo_attempt_274 : decode (a_cc M_Mo_attempt) 274 = .ok (.aaload, 1) := by decide +kernel
theorem d_Mo_attempt_275 : decode (a_cc M_Mo_attempt) 275 = .ok (.iload_n 3, 1) := by decide +kernel
theorem d_Mo_attempt_276 : decode (a_cc M_Mo_attempt) 276 = .ok (.aload_n 0, 1) := by decide +kernel
theorem d_Mo_attempt_277 : decode (a_cc M_Mo_attempt) 277 = .ok (.aload_n 0, 1) := by decide +kernel
theorem d_Mo_attempt_278 : decode (a_cc M_Mo_attempt) 278 = .ok (.getfield 76, 3) := by decide +kernel
theorem d_Mo_attempt_281 : decode (a_cc M_Mo_attempt) 281 = .ok (.bipush 30, 2) := by decide +kernel
theorem d_Mo_attempt_283 : decode (a_cc M_Mo_attempt) 283 = .ok (.iload_n 2, 1) := by decide +kernel
theorem d_Mo_attempt_284 : decode (a_cc M_Mo_attempt) 284 = .ok (.iadd, 1) := by decide +kernel
theorem d_Mo_attempt_285 : decode (a_cc M_Mo_attempt) 285 = .ok (.aaload, 1) := by decide +kernel
theorem d_Mo_attempt_286 : decode (a_cc M_Mo_attempt) 286 = .ok (.iload_n 3, 1) := by decide +kernel
theorem d_Mo_attempt_287 : decode (a_cc M_Mo_attempt) 287 = .ok (.iaload, 1) := by decide +kernel
theorem d_Mo_attempt_288 : decode (a_cc M_Mo_attempt) 288 = .ok (.invokevirtual 343, 3) := by decide +kernel
theorem d_Mo_attempt_291 : decode (a_cc M_Mo_attempt) 291 = .ok (.iastore, 1) := by decide +kernel
theorem d_Mo_attempt_292 : decode (a_cc M_Mo_attempt) 292 = .ok (.iinc 3 1, 3) := by decide +kernel
theorem d_Mo_attempt_295 : decode (a_cc M_Mo_attempt) 295 = .ok (.goto (-36), 3) := by decide +kernel
theorem d_Mo_attempt_298 : decode (a_cc M_Mo_attempt) 298 = .ok (.iinc 2 1, 3) := by decide +kernel
theorem d_Mo_attempt_301 : decode (a_cc M_Mo_attempt) 301 = .ok (.goto (-202), 3) := by decide +kernel
theorem d_Mo_attempt_304 : decode (a_cc M_Mo_attempt) 304 = .ok (.aload_n 0, 1) := by decide +kernel
theorem d_Mo_attempt_305 : decode (a_cc M_Mo_attempt) 305 = .ok (.bipush 38, 2) := by decide +kernel
theorem d_Mo_attempt_307 : decode (a_cc M_Mo_attempt) 307 = .ok (.aload_n 0, 1) := by decide +kernel
theorem d_Mo_attempt_308 : decode (a_cc M_Mo_attempt) 308 = .ok (.getfield 99, 3) := by decide +kernel
theorem d_Mo_attempt_311 : decode (a_cc M_Mo_attempt) 311 = .ok (.invokevirtual 346, 3) := by decide +kernel
theorem d_Mo_attempt_314 : decode (a_cc M_Mo_attempt) 314 = .ok (.aload_n 0, 1) := by decide +kernel
theorem d_Mo_attempt_315 : decode (a_cc M_Mo_attempt) 315 = .ok (.aload_n 0, 1) := by decide +kernel
theorem d_Mo_attempt_316 : decode (a_cc M_Mo_attempt) 316 = .ok (.getfield 76, 3) := by decide +kernel
theorem d_Mo_attempt_319 : decode (a_cc M_Mo_attempt) 319 = .ok (.bipush 46, 2) := by decide +kernel
theorem d_Mo_attempt_321 : decode (a_cc M_Mo_attempt) 321 = .ok (.aaload, 1) := by decide +kernel
theorem d_Mo_attempt_322 : decode (a_cc M_Mo_attempt) 322 = .ok (.aload_n 0, 1) := by decide +kernel
theorem d_Mo_attempt_323 : decode (a_cc M_Mo_attempt) 323 = .ok (.getfield 99, 3) := by decide +kernel
theorem d_Mo_attempt_326 : decode (a_cc M_Mo_attempt) 326 = .ok (.iconst 0, 1) := by decide +kernel
theorem d_Mo_attempt_327 : decode (a_cc M_Mo_attempt) 327 = .ok (.invokevirtual 350, 3) := by decide +kernel
theorem d_Mo_attempt_330 : decode (a_cc M_Mo_attempt) 330 = .ok (.ifCond .ne 5, 3) := by decide +kernel
theorem d_Mo_attempt_333 : decode (a_cc M_Mo_attempt) 333 = .ok (.iconst (-1), 1) := by decide +kernel
theorem d_Mo_attempt_334 : decode (a_cc M_Mo_attempt) 334 = .ok (.ireturn, 1) := by decide +kernel
theorem d_Mo_attempt_335 : decode (a_cc M_Mo_attempt) 335 = .ok (.aload_n 0, 1) := by decide +kernel
theorem d_Mo_attempt_336 : decode (a_cc M_Mo_attempt) 336 = .ok (.getfield 232, 3) := by decide +kernel
theorem d_Mo_attempt_339 : decode (a_cc M_Mo_attempt) 339 = .ok (.aload_n 0, 1) := by decide +kernel
theorem d_Mo_attempt_340 : decode (a_cc M_Mo_attempt) 340 = .ok (.getfield 229, 3) := by decide +kernel
theorem d_Mo_attempt_343 : decode (a_cc M_Mo_attempt) 343 = .ok (.imul, 1) := by decide +kernel
theorem d_Mo_attempt_344 : decode (a_cc M_Mo_attempt) 344 = .ok (.istore_n 2, 1) := by decide +kernel
