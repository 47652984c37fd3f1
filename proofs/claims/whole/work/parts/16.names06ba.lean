/-! names, printed by program: methods, their instructions, what they link -/
def M_Mo_dsaSign : a_M := (⟨"ModuleSignerModel", "dsaSign", "(II)I"⟩, prog_12_method_65_code, 6, some .int, "ModuleSignerModel", 7, 134, [])
set_option maxRecDepth 100000 in
set_option maxHeartbeats 4000000 in
theorem ok_Mo_dsaSign : a_Ok M_Mo_dsaSign := ⟨rfl, by decide +kernel, ⟨by decide, by decide⟩, List.mem_append_right _ (List.mem_of_getElem? (i := 11) (by decide +kernel)), Or.inl ⟨rfl, List.mem_append_right _ (List.mem_of_getElem? (i := 1358) (by rfl))⟩⟩
theorem d_Mo_dsaSign_0 : decode (a_cc M_Mo_dsaSign) 0 = .ok (.aload_n 0, 1) := by decide +kernel
theorem d_Mo_dsaSign_1 : decode (a_cc M_Mo_dsaSign) 1 = .ok (.iload_n 1, 1) := by decide +kernel
theorem d_Mo_dsaSign_2 : decode (a_cc M_Mo_dsaSign) 2 = .ok (.iconst 0, 1) := by decide +kernel
theorem d_Mo_dsaSign_3 : decode (a_cc M_Mo_dsaSign) 3 = .ok (.iconst 2, 1) := by decide +kernel
theorem d_Mo_dsaSign_4 : decode (a_cc M_Mo_dsaSign) 4 = .ok (.invokestatic 120, 3) := by decide +kernel
theorem d_Mo_dsaSign_7 : decode (a_cc M_Mo_dsaSign) 7 = .ok (.ifCond .eq 16, 3) := by decide +kernel
theorem d_Mo_dsaSign_10 : decode (a_cc M_Mo_dsaSign) 10 = .ok (.iload_n 2, 1) := by decide +kernel
theorem d_Mo_dsaSign_11 : decode (a_cc M_Mo_dsaSign) 11 = .ok (.iconst (-1), 1) := by decide +kernel
theorem d_Mo_dsaSign_12 : decode (a_cc M_Mo_dsaSign) 12 = .ok (.iconst 0, 1) := by decide +kernel
theorem d_Mo_dsaSign_13 : decode (a_cc M_Mo_dsaSign) 13 = .ok (.invokestatic 120, 3) := by decide +kernel
theorem d_Mo_dsaSign_16 : decode (a_cc M_Mo_dsaSign) 16 = .ok (.ifCond .eq 7, 3) := by decide +kernel
theorem d_Mo_dsaSign_19 : decode (a_cc M_Mo_dsaSign) 19 = .ok (.iconst 1, 1) := by decide +kernel
theorem d_Mo_dsaSign_20 : decode (a_cc M_Mo_dsaSign) 20 = .ok (.goto 4, 3) := by decide +kernel
theorem d_Mo_dsaSign_23 : decode (a_cc M_Mo_dsaSign) 23 = .ok (.iconst 0, 1) := by decide +kernel
theorem d_Mo_dsaSign_24 : decode (a_cc M_Mo_dsaSign) 24 = .ok (.iconst 1, 1) := by decide +kernel
theorem d_Mo_dsaSign_25 : decode (a_cc M_Mo_dsaSign) 25 = .ok (.invokevirtual 112, 3) := by decide +kernel
theorem d_Mo_dsaSign_28 : decode (a_cc M_Mo_dsaSign) 28 = .ok (.ifCond .ne 5, 3) := by decide +kernel
theorem d_Mo_dsaSign_31 : decode (a_cc M_Mo_dsaSign) 31 = .ok (.iconst 0, 1) := by decide +kernel
theorem d_Mo_dsaSign_32 : decode (a_cc M_Mo_dsaSign) 32 = .ok (.ireturn, 1) := by decide +kernel
theorem d_Mo_dsaSign_33 : decode (a_cc M_Mo_dsaSign) 33 = .ok (.aload_n 0, 1) := by decide +kernel
theorem d_Mo_dsaSign_34 : decode (a_cc M_Mo_dsaSign) 34 = .ok (.iload_n 1, 1) := by decide +kernel
theorem d_Mo_dsaSign_35 : decode (a_cc M_Mo_dsaSign) 35 = .ok (.invokevirtual 287, 3) := by decide +kernel
theorem d_Mo_dsaSign_38 : decode (a_cc M_Mo_dsaSign) 38 = .ok (.aload_n 0, 1) := by decide +kernel
theorem d_Mo_dsaSign_39 : decode (a_cc M_Mo_dsaSign) 39 = .ok (.aload_n 0, 1) := by decide +kernel
theorem d_Mo_dsaSign_40 : decode (a_cc M_Mo_dsaSign) 40 = .ok (.iload_n 2, 1) := by decide +kernel
theorem d_Mo_dsaSign_41 : decode (a_cc M_Mo_dsaSign) 41 = .ok (.invokevirtual 331, 3) := by decide +kernel
theorem d_Mo_dsaSign_44 : decode (a_cc M_Mo_dsaSign) 44 = .ok (.ifCond .eq 27, 3) := by decide +kernel
theorem d_Mo_dsaSign_47 : decode (a_cc M_Mo_dsaSign) 47 = .ok (.aload_n 0, 1) := by decide +kernel
theorem d_Mo_dsaSign_48 : decode (a_cc M_Mo_dsaSign) 48 = .ok (.getfield 18, 3) := by decide +kernel
theorem d_Mo_dsaSign_51 : decode (a_cc M_Mo_dsaSign) 51 = .ok (.iconst 0, 1) := by decide +kernel
theorem d_Mo_dsaSign_52 : decode (a_cc M_Mo_dsaSign) 52 = .ok (.iaload, 1) := by decide +kernel
theorem d_Mo_dsaSign_53 : decode (a_cc M_Mo_dsaSign) 53 = .ok (.bipush 32, 2) := by decide +kernel
theorem d_Mo_dsaSign_55 : decode (a_cc M_Mo_dsaSign) 55 = .ok (.if_icmp .eq 12, 3) := by decide +kernel
theorem d_Mo_dsaSign_58 : decode (a_cc M_Mo_dsaSign) 58 = .ok (.aload_n 0, 1) := by decide +kernel
theorem d_Mo_dsaSign_59 : decode (a_cc M_Mo_dsaSign) 59 = .ok (.getfield 18, 3) := by decide +kernel
theorem d_Mo_dsaSign_62 : decode (a_cc M_Mo_dsaSign) 62 = .ok (.iconst 0, 1) := by decide +kernel
theorem d_Mo_dsaSign_63 : decode (a_cc M_Mo_dsaSign) 63 = .ok (.iaload, 1) := by decide +kernel
theorem d_Mo_dsaSign_64 : decode (a_cc M_Mo_dsaSign) 64 = .ok (.ifCond .ne 7, 3) := by decide +kernel
theorem d_Mo_dsaSign_67 : decode (a_cc M_Mo_dsaSign) 67 = .ok (.iconst 1, 1) := by decide +kernel
theorem d_Mo_dsaSign_68 : decode (a_cc M_Mo_dsaSign) 68 = .ok (.goto 4, 3) := by decide +kernel
theorem d_Mo_dsaSign_71 : decode (a_cc M_Mo_dsaSign) 71 = .ok (.iconst 0, 1) := by decide +kernel
theorem d_Mo_dsaSign_72 : decode (a_cc M_Mo_dsaSign) 72 = .ok (.iconst 2, 1) := by decide +kernel
theorem d_Mo_dsaSign_73 : decode (a_cc M_Mo_dsaSign) 73 = .ok (.invokevirtual 112, 3) := by decide +kernel
theorem d_Mo_dsaSign_76 : decode (a_cc M_Mo_dsaSign) 76 = .ok (.ifCond .eq 29, 3) := by decide +kernel
theorem d_Mo_dsaSign_79 : decode (a_cc M_Mo_dsaSign) 79 = .ok (.aload_n 0, 1) := by decide +kernel
theorem d_Mo_dsaSign_80 : decode (a_cc M_Mo_dsaSign) 80 = .ok (.aload_n 0, 1) := by decide +kernel
theorem d_Mo_dsaSign_81 : decode (a_cc M_Mo_dsaSign) 81 = .ok (.getfield 18, 3) := by decide +kernel
theorem d_Mo_dsaSign_84 : decode (a_cc M_Mo_dsaSign) 84 = .ok (.iconst 2, 1) := by decide +kernel
theorem d_Mo_dsaSign_85 : decode (a_cc M_Mo_dsaSign) 85 = .ok (.iaload, 1) := by decide +kernel
theorem d_Mo_dsaSign_86 : decode (a_cc M_Mo_dsaSign) 86 = .ok (.aload_n 0, 1) := by decide +kernel
theorem d_Mo_dsaSign_87 : decode (a_cc M_Mo_dsaSign) 87 = .ok (.invokevirtual 322, 3) := by decide +kernel
theorem d_Mo_dsaSign_90 : decode (a_cc M_Mo_dsaSign) 90 = .ok (.if_icmp .ne 7, 3) := by decide +kernel
theorem d_Mo_dsaSign_93 : decode (a_cc M_Mo_dsaSign) 93 = .ok (.iconst 1, 1) := by decide +kernel
theorem d_Mo_dsaSign_94 : decode (a_cc M_Mo_dsaSign) 94 = .ok (.goto 4, 3) := by decide +kernel
theorem d_Mo_dsaSign_97 : decode (a_cc M_Mo_dsaSign) 97 = .ok (.iconst 0, 1) := by decide +kernel
theorem d_Mo_dsaSign_98 : decode (a_cc M_Mo_dsaSign) 98 = .ok (.iconst 3, 1) := by decide +kernel
theorem d_Mo_dsaSign_99 : decode (a_cc M_Mo_dsaSign) 99 = .ok (.invokevirtual 112, 3) := by decide +kernel
theorem d_Mo_dsaSign_102 : decode (a_cc M_Mo_dsaSign) 102 = .ok (.ifCond .ne 5, 3) := by decide +kernel
theorem d_Mo_dsaSign_105 : decode (a_cc M_Mo_dsaSign) 105 = .ok (.iconst 0, 1) := by decide +kernel
theorem d_Mo_dsaSign_106 : decode (a_cc M_Mo_dsaSign) 106 = .ok (.ireturn, 1) := by decide +kernel
theorem d_Mo_dsaSign_107 : decode (a_cc M_Mo_dsaSign) 107 = .ok (.aload_n 0, 1) := by decide +kernel
theorem d_Mo_dsaSign_108 : decode (a_cc M_Mo_dsaSign) 108 = .ok (.aload_n 0, 1) := by decide +kernel
theorem d_Mo_dsaSign_109 : decode (a_cc M_Mo_dsaSign) 109 = .ok (.getfield 15, 3) := by decide +kernel
theorem d_Mo_dsaSign_112 : decode (a_cc M_Mo_dsaSign) 112 = .ok (.iconst 2, 1) := by decide +kernel
theorem d_Mo_dsaSign_113 : decode (a_cc M_Mo_dsaSign) 113 = .ok (.aaload, 1) := by decide +kernel
theorem d_Mo_dsaSign_114 : decode (a_cc M_Mo_dsaSign) 114 = .ok (.bipush 64, 2) := by decide +kernel
theorem d_Mo_dsaSign_116 : decode (a_cc M_Mo_dsaSign) 116 = .ok (.iload_n 2, 1) := by decide +kernel
theorem d_Mo_dsaSign_117 : decode (a_cc M_Mo_dsaSign) 117 = .ok (.invokevirtual 334, 3) := by decide +kernel
theorem d_Mo_dsaSign_120 : decode (a_cc M_Mo_dsaSign) 120 = .ok (.aload_n 0, 1) := by decide +kernel
theorem d_Mo_dsaSign_121 : decode (a_cc M_Mo_dsaSign) 121 = .ok (.bipush 12, 2) := by decide +kernel
theorem d_Mo_dsaSign_123 : decode (a_cc M_Mo_dsaSign) 123 = .ok (.invokevirtual 148, 3) := by decide +kernel
theorem d_Mo_dsaSign_126 : decode (a_cc M_Mo_dsaSign) 126 = .ok (.aload_n 0, 1) := by decide +kernel
theorem d_Mo_dsaSign_127 : decode (a_cc M_Mo_dsaSign) 127 = .ok (.aload_n 0, 1) := by decide +kernel
theorem d_Mo_dsaSign_128 : decode (a_cc M_Mo_dsaSign) 128 = .ok (.getfield 15, 3) := by decide +kernel
theorem d_Mo_dsaSign_131 : decode (a_cc M_Mo_dsaSign) 131 = .ok (.iconst 2, 1) := by decide +kernel
theorem d_Mo_dsaSign_132 : decode (a_cc M_Mo_dsaSign) 132 = .ok (.aaload, 1) := by decide +kernel
theorem d_Mo_dsaSign_133 : decode (a_cc M_Mo_dsaSign) 133 = .ok (.bipush 32, 2) := by decide +kernel
theorem d_Mo_dsaSign_135 : decode (a_cc M_Mo_dsaSign) 135 = .ok (.bipush 32, 2) := by decide +kernel
theorem d_Mo_dsaSign_137 : decode (a_cc M_Mo_dsaSign) 137 = .ok (.invokevirtual 268, 3) := by decide +kernel
theorem d_Mo_dsaSign_140 : decode (a_cc M_Mo_dsaSign) 140 = .ok (.iconst 0, 1) := by decide +kernel
theorem d_Mo_dsaSign_141 : decode (a_cc M_Mo_dsaSign) 141 = .ok (.istore_n 3, 1) := by decide +kernel
theorem d_Mo_dsaSign_142 : decode (a_cc M_Mo_dsaSign) 142 = .ok (.iload_n 3, 1) := by decide +kernel
theorem d_Mo_dsaSign_143 : decode (a_cc M_Mo_dsaSign) 143 = .ok (.bipush 32, 2) := by decide +kernel
theorem d_Mo_dsaSign_145 : decode (a_cc M_Mo_dsaSign) 145 = .ok (.if_icmp .ge 34, 3) := by decide +kernel
theorem d_Mo_dsaSign_148 : decode (a_cc M_Mo_dsaSign) 148 = .ok (.aload_n 0, 1) := by decide +kernel
theorem d_Mo_dsaSign_149 : decode (a_cc M_Mo_dsaSign) 149 = .ok (.aload_n 0, 1) := by decide +kernel
theorem d_Mo_dsaSign_150 : decode (a_cc M_Mo_dsaSign) 150 = .ok (.getfield 18, 3) := by decide +kernel
theorem d_Mo_dsaSign_153 : decode (a_cc M_Mo_dsaSign) 153 = .ok (.iconst 0, 1) := by decide +kernel
theorem d_Mo_dsaSign_154 : decode (a_cc M_Mo_dsaSign) 154 = .ok (.iaload, 1) := by decide +kernel
theorem d_Mo_dsaSign_155 : decode (a_cc M_Mo_dsaSign) 155 = .ok (.ifCond .ne 7, 3) := by decide +kernel
theorem d_Mo_dsaSign_158 : decode (a_cc M_Mo_dsaSign) 158 = .ok (.iconst 0, 1) := by decide +kernel
theorem d_Mo_dsaSign_159 : decode (a_cc M_Mo_dsaSign) 159 = .ok (.goto 11, 3) := by decide +kernel
theorem d_Mo_dsaSign_162 : decode (a_cc M_Mo_dsaSign) 162 = .ok (.aload_n 0, 1) := by decide +kernel
theorem d_Mo_dsaSign_163 : decode (a_cc M_Mo_dsaSign) 163 = .ok (.getfield 15, 3) := by decide +kernel
theorem d_Mo_dsaSign_166 : decode (a_cc M_Mo_dsaSign) 166 = .ok (.iconst 0, 1) := by decide +kernel
theorem d_Mo_dsaSign_167 : decode (a_cc M_Mo_dsaSign) 167 = .ok (.aaload, 1) := by decide +kernel
theorem d_Mo_dsaSign_168 : decode (a_cc M_Mo_dsaSign) 168 = .ok (.iload_n 3, 1) := by decide +kernel
theorem d_Mo_dsaSign_169 : decode (a_cc M_Mo_dsaSign) 169 = .ok (.baload, 1) := by decide +kernel
theorem d_Mo_dsaSign_170 : decode (a_cc M_Mo_dsaSign) 170 = .ok (.invokevirtual 153, 3) := by decide +kernel
theorem d_Mo_dsaSign_173 : decode (a_cc M_Mo_dsaSign) 173 = .ok (.iinc 3 1, 3) := by decide +kernel
theorem d_Mo_dsaSign_176 : decode (a_cc M_Mo_dsaSign) 176 = .ok (.goto (-34), 3) := by decide +kernel
theorem d_Mo_dsaSign_179 : decode (a_cc M_Mo_dsaSign) 179 = .ok (.aload_n 0, 1) := by decide +kernel
theorem d_Mo_dsaSign_180 : decode (a_cc M_Mo_dsaSign) 180 = .ok (.aload_n 0, 1) := by decide +kernel
theorem d_Mo_dsaSign_181 : decode (a_cc M_Mo_dsaSign) 181 = .ok (.getfield 93, 3) := by decide +kernel
theorem d_Mo_dsaSign_184 : decode (a_cc M_Mo_dsaSign) 184 = .ok (.iconst 0, 1) := by decide +kernel
theorem d_Mo_dsaSign_185 : decode (a_cc M_Mo_dsaSign) 185 = .ok (.bipush 64, 2) := by decide +kernel
theorem d_Mo_dsaSign_187 : decode (a_cc M_Mo_dsaSign) 187 = .ok (.invokevirtual 268, 3) := by decide +kernel
theorem d_Mo_dsaSign_190 : decode (a_cc M_Mo_dsaSign) 190 = .ok (.aload_n 0, 1) := by decide +kernel
theorem d_Mo_dsaSign_191 : decode (a_cc M_Mo_dsaSign) 191 = .ok (.aload_n 0, 1) := by decide +kernel
theorem d_Mo_dsaSign_192 : decode (a_cc M_Mo_dsaSign) 192 = .ok (.getfield 96, 3) := by decide +kernel
theorem d_Mo_dsaSign_195 : decode (a_cc M_Mo_dsaSign) 195 = .ok (.iconst 0, 1) := by decide +kernel
theorem d_Mo_dsaSign_196 : decode (a_cc M_Mo_dsaSign) 196 = .ok (.bipush 64, 2) := by decide +kernel
theorem d_Mo_dsaSign_198 : decode (a_cc M_Mo_dsaSign) 198 = .ok (.invokevirtual 290, 3) := by decide +kernel
theorem d_Mo_dsaSign_201 : decode (a_cc M_Mo_dsaSign) 201 = .ok (.aload_n 0, 1) := by decide +kernel
theorem d_Mo_dsaSign_202 : decode (a_cc M_Mo_dsaSign) 202 = .ok (.getfield 229, 3) := by decide +kernel
theorem d_Mo_dsaSign_205 : decode (a_cc M_Mo_dsaSign) 205 = .ok (.iconst 2, 1) := by decide +kernel
theorem d_Mo_dsaSign_206 : decode (a_cc M_Mo_dsaSign) 206 = .ok (.if_icmp .ne 7, 3) := by decide +kernel
theorem d_Mo_dsaSign_209 : decode (a_cc M_Mo_dsaSign) 209 = .ok (.iconst 3, 1) := by decide +kernel
theorem d_Mo_dsaSign_210 : decode (a_cc M_Mo_dsaSign) 210 = .ok (.goto 4, 3) := by decide +kernel
theorem d_Mo_dsaSign_213 : decode (a_cc M_Mo_dsaSign) 213 = .ok (.iconst 4, 1) := by decide +kernel
theorem d_Mo_dsaSign_214 : decode (a_cc M_Mo_dsaSign) 214 = .ok (.istore_n 3, 1) := by decide +kernel
theorem d_Mo_dsaSign_215 : decode (a_cc M_Mo_dsaSign) 215 = .ok (.aload_n 0, 1) := by decide +kernel
theorem d_Mo_dsaSign_216 : decode (a_cc M_Mo_dsaSign) 216 = .ok (.iconst 0, 1) := by decide +kernel
theorem d_Mo_dsaSign_217 : decode (a_cc M_Mo_dsaSign) 217 = .ok (.putfield 216, 3) := by decide +kernel
theorem d_Mo_dsaSign_220 : decode (a_cc M_Mo_dsaSign) 220 = .ok (.iconst 0, 1) := by decide +kernel
theorem d_Mo_dsaSign_221 : decode (a_cc M_Mo_dsaSign) 221 = .ok (.istore 4, 2) := by decide +kernel
theorem d_Mo_dsaSign_223 : decode (a_cc M_Mo_dsaSign) 223 = .ok (.iload 4, 2) := by decide +kernel
theorem d_Mo_dsaSign_225 : decode (a_cc M_Mo_dsaSign) 225 = .ok (.aload_n 0, 1) := by decide +kernel
theorem d_Mo_dsaSign_226 : decode (a_cc M_Mo_dsaSign) 226 = .ok (.getfield 226, 3) := by decide +kernel
theorem d_Mo_dsaSign_229 : decode (a_cc M_Mo_dsaSign) 229 = .ok (.aload_n 0, 1) := by decide +kernel
theorem d_Mo_dsaSign_230 : decode (a_cc M_Mo_dsaSign) 230 = .ok (.getfield 223, 3) := by decide +kernel
theorem d_Mo_dsaSign_233 : decode (a_cc M_Mo_dsaSign) 233 = .ok (.iadd, 1) := by decide +kernel
theorem d_Mo_dsaSign_234 : decode (a_cc M_Mo_dsaSign) 234 = .ok (.if_icmp .ge 34, 3) := by decide +kernel
theorem d_Mo_dsaSign_237 : decode (a_cc M_Mo_dsaSign) 237 = .ok (.aload_n 0, 1) := by decide +kernel
theorem d_Mo_dsaSign_238 : decode (a_cc M_Mo_dsaSign) 238 = .ok (.aload_n 0, 1) := by decide +kernel
theorem d_Mo_dsaSign_239 : decode (a_cc M_Mo_dsaSign) 239 = .ok (.getfield 15, 3) := by decide +kernel
theorem d_Mo_dsaSign_242 : decode (a_cc M_Mo_dsaSign) 242 = .ok (.iconst 2, 1) := by decide +kernel
theorem d_Mo_dsaSign_243 : decode (a_cc M_Mo_dsaSign) 243 = .ok (.aaload, 1) := by decide +kernel
theorem d_Mo_dsaSign_244 : decode (a_cc M_Mo_dsaSign) 244 = .ok (.sipush 128, 3) := by decide +kernel
theorem d_Mo_dsaSign_247 : decode (a_cc M_Mo_dsaSign) 247 = .ok (.aload_n 0, 1) := by decide +kernel
theorem d_Mo_dsaSign_248 : decode (a_cc M_Mo_dsaSign) 248 = .ok (.getfield 76, 3) := by decide +kernel
theorem d_Mo_dsaSign_251 : decode (a_cc M_Mo_dsaSign) 251 = .ok (.iload 4, 2) := by decide +kernel
theorem d_Mo_dsaSign_253 : decode (a_cc M_Mo_dsaSign) 253 = .ok (.aaload, 1) := by decide +kernel
theorem d_Mo_dsaSign_254 : decode (a_cc M_Mo_dsaSign) 254 = .ok (.aload_n 0, 1) := by decide +kernel
theorem d_Mo_dsaSign_255 : decode (a_cc M_Mo_dsaSign) 255 = .ok (.getfield 229, 3) := by decide +kernel
theorem d_Mo_dsaSign_258 : decode (a_cc M_Mo_dsaSign) 258 = .ok (.iload_n 3, 1) := by decide +kernel
theorem d_Mo_dsaSign_259 : decode (a_cc M_Mo_dsaSign) 259 = .ok (.invokevirtual 337, 3) := by decide +kernel
theorem d_Mo_dsaSign_262 : decode (a_cc M_Mo_dsaSign) 262 = .ok (.iinc 4 1, 3) := by decide +kernel
theorem d_Mo_dsaSign_265 : decode (a_cc M_Mo_dsaSign) 265 = .ok (.goto (-42), 3) := by decide +kernel
theorem d_Mo_dsaSign_268 : decode (a_cc M_Mo_dsaSign) 268 = .ok (.iconst 0, 1) := by decide +kernel
theorem d_Mo_dsaSign_269 : decode (a_cc M_Mo_dsaSign) 269 = .ok (.istore 4, 2) := by decide +kernel
theorem d_Mo_dsaSign_271 : decode (a_cc M_Mo_dsaSign) 271 = .ok (.iload 4, 2) := by decide +kernel
theorem d_Mo_dsaSign_273 : decode (a_cc M_Mo_dsaSign) 273 = .ok (.aload_n 0, 1) := by decide +kernel
theorem d_Mo_dsaSign_274 : decode (a_cc M_Mo_dsaSign) 274 = .ok (.getfield 223, 3) := by decide +kernel
theorem d_Mo_dsaSign_277 : decode (a_cc M_Mo_dsaSign) 277 = .ok (.if_icmp .ge 37, 3) := by decide +kernel
theorem d_Mo_dsaSign_280 : decode (a_cc M_Mo_dsaSign) 280 = .ok (.aload_n 0, 1) := by decide +kernel
theorem d_Mo_dsaSign_281 : decode (a_cc M_Mo_dsaSign) 281 = .ok (.aload_n 0, 1) := by decide +kernel
theorem d_Mo_dsaSign_282 : decode (a_cc M_Mo_dsaSign) 282 = .ok (.getfield 15, 3) := by decide +kernel
theorem d_Mo_dsaSign_285 : decode (a_cc M_Mo_dsaSign) 285 = .ok (.iconst 2, 1) := by decide +kernel
theorem d_Mo_dsaSign_286 : decode (a_cc M_Mo_dsaSign) 286 = .ok (.aaload, 1) := by decide +kernel
theorem d_Mo_dsaSign_287 : decode (a_cc M_Mo_dsaSign) 287 = .ok (.sipush 128, 3) := by decide +kernel
theorem d_Mo_dsaSign_290 : decode (a_cc M_Mo_dsaSign) 290 = .ok (.aload_n 0, 1) := by decide +kernel
theorem d_Mo_dsaSign_291 : decode (a_cc M_Mo_dsaSign) 291 = .ok (.getfield 76, 3) := by decide +kernel
theorem d_Mo_dsaSign_294 : decode (a_cc M_Mo_dsaSign) 294 = .ok (.bipush 15, 2) := by decide +kernel
theorem d_Mo_dsaSign_296 : decode (a_cc M_Mo_dsaSign) 296 = .ok (.iload 4, 2) := by decide +kernel
theorem d_Mo_dsaSign_298 : decode (a_cc M_Mo_dsaSign) 298 = .ok (.iadd, 1) := by decide +kernel
theorem d_Mo_dsaSign_299 : decode (a_cc M_Mo_dsaSign) 299 = .ok (.aaload, 1) := by decide +kernel
theorem d_Mo_dsaSign_300 : decode (a_cc M_Mo_dsaSign) 300 = .ok (.sipush 4096, 3) := by decide +kernel
theorem d_Mo_dsaSign_303 : decode (a_cc M_Mo_dsaSign) 303 = .ok (.bipush 13, 2) := by decide +kernel
theorem d_Mo_dsaSign_305 : decode (a_cc M_Mo_dsaSign) 305 = .ok (.invokevirtual 337, 3) := by decide +kernel
theorem d_Mo_dsaSign_308 : decode (a_cc M_Mo_dsaSign) 308 = .ok (.iinc 4 1, 3) := by decide +kernel
theorem d_Mo_dsaSign_311 : decode (a_cc M_Mo_dsaSign) 311 = .ok (.goto (-40), 3) := by decide +kernel
theorem d_Mo_dsaSign_314 : decode (a_cc M_Mo_dsaSign) 314 = .ok (.iconst 0, 1) := by decide +kernel
theorem d_Mo_dsaSign_315 : decode (a_cc M_Mo_dsaSign) 315 = .ok (.istore 4, 2) := by decide +kernel
theorem d_Mo_dsaSign_317 : decode (a_cc M_Mo_dsaSign) 317 = .ok (.iload 4, 2) := by decide +kernel
theorem d_Mo_dsaSign_319 : decode (a_cc M_Mo_dsaSign) 319 = .ok (.sipush 814, 3) := by decide +kernel
theorem d_Mo_dsaSign_322 : decode (a_cc M_Mo_dsaSign) 322 = .ok (.if_icmp .ge 107, 3) := by decide +kernel
theorem d_Mo_dsaSign_325 : decode (a_cc M_Mo_dsaSign) 325 = .ok (.aload_n 0, 1) := by decide +kernel
theorem d_Mo_dsaSign_326 : decode (a_cc M_Mo_dsaSign) 326 = .ok (.iload 4, 2) := by decide +kernel
theorem d_Mo_dsaSign_328 : decode (a_cc M_Mo_dsaSign) 328 = .ok (.aload_n 0, 1) := by decide +kernel
theorem d_Mo_dsaSign_329 : decode (a_cc M_Mo_dsaSign) 329 = .ok (.getfield 226, 3) := by decide +kernel
theorem d_Mo_dsaSign_332 : decode (a_cc M_Mo_dsaSign) 332 = .ok (.imul, 1) := by decide +kernel
theorem d_Mo_dsaSign_333 : decode (a_cc M_Mo_dsaSign) 333 = .ok (.invokevirtual 340, 3) := by decide +kernel
theorem d_Mo_dsaSign_336 : decode (a_cc M_Mo_dsaSign) 336 = .ok (.istore 5, 2) := by decide +kernel
theorem d_Mo_dsaSign_338 : decode (a_cc M_Mo_dsaSign) 338 = .ok (.aload_n 0, 1) := by decide +kernel
theorem d_Mo_dsaSign_339 : decode (a_cc M_Mo_dsaSign) 339 = .ok (.iload 5, 2) := by decide +kernel
theorem d_Mo_dsaSign_341 : decode (a_cc M_Mo_dsaSign) 341 = .ok (.ifCond .lt 7, 3) := by decide +kernel
theorem d_Mo_dsaSign_344 : decode (a_cc M_Mo_dsaSign) 344 = .ok (.iconst 1, 1) := by decide +kernel
theorem d_Mo_dsaSign_345 : decode (a_cc M_Mo_dsaSign) 345 = .ok (.goto 4, 3) := by decide +kernel
theorem d_Mo_dsaSign_348 : decode (a_cc M_Mo_dsaSign) 348 = .ok (.iconst 0, 1) := by decide +kernel
theorem d_Mo_dsaSign_349 : decode (a_cc M_Mo_dsaSign) 349 = .ok (.iconst 4, 1) := by decide +kernel
theorem d_Mo_dsaSign_350 : decode (a_cc M_Mo_dsaSign) 350 = .ok (.invokevirtual 112, 3) := by decide +kernel
theorem d_Mo_dsaSign_353 : decode (a_cc M_Mo_dsaSign) 353 = .ok (.ifCond .ne 5, 3) := by decide +kernel
theorem d_Mo_dsaSign_356 : decode (a_cc M_Mo_dsaSign) 356 = .ok (.iconst 0, 1) := by decide +kernel
theorem d_Mo_dsaSign_357 : decode (a_cc M_Mo_dsaSign) 357 = .ok (.ireturn, 1) := by decide +kernel
theorem d_Mo_dsaSign_358 : decode (a_cc M_Mo_dsaSign) 358 = .ok (.iload 5, 2) := by decide +kernel
theorem d_Mo_dsaSign_360 : decode (a_cc M_Mo_dsaSign) 360 = .ok (.iconst 1, 1) := by decide +kernel
