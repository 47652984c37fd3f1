/-! names, printed by program: methods, their instructions, what they link -/
def M_Mo_dsaKeys : a_M := (⟨"ModuleSignerModel", "dsaKeys", "(I)I"⟩, prog_12_method_59_code, 9, some .int, "ModuleSignerModel", 5, 106, [])
set_option maxRecDepth 100000 in
set_option maxHeartbeats 4000000 in
theorem ok_Mo_dsaKeys : a_Ok M_Mo_dsaKeys := ⟨rfl, by decide +kernel, ⟨by decide, by decide⟩, List.mem_append_right _ (List.mem_of_getElem? (i := 11) (by decide +kernel)), Or.inl ⟨rfl, List.mem_append_right _ (List.mem_of_getElem? (i := 1282) (by rfl))⟩⟩
theorem d_Mo_dsaKeys_0 : decode (a_cc M_Mo_dsaKeys) 0 = .ok (.aload_n 0, 1) := by decide +kernel
theorem d_Mo_dsaKeys_1 : decode (a_cc M_Mo_dsaKeys) 1 = .ok (.iload_n 1, 1) := by decide +kernel
theorem d_Mo_dsaKeys_2 : decode (a_cc M_Mo_dsaKeys) 2 = .ok (.iconst 0, 1) := by decide +kernel
theorem d_Mo_dsaKeys_3 : decode (a_cc M_Mo_dsaKeys) 3 = .ok (.iconst 2, 1) := by decide +kernel
theorem d_Mo_dsaKeys_4 : decode (a_cc M_Mo_dsaKeys) 4 = .ok (.invokestatic 120, 3) := by decide +kernel
theorem d_Mo_dsaKeys_7 : decode (a_cc M_Mo_dsaKeys) 7 = .ok (.iconst 1, 1) := by decide +kernel
theorem d_Mo_dsaKeys_8 : decode (a_cc M_Mo_dsaKeys) 8 = .ok (.invokevirtual 112, 3) := by decide +kernel
theorem d_Mo_dsaKeys_11 : decode (a_cc M_Mo_dsaKeys) 11 = .ok (.ifCond .eq 27, 3) := by decide +kernel
theorem d_Mo_dsaKeys_14 : decode (a_cc M_Mo_dsaKeys) 14 = .ok (.aload_n 0, 1) := by decide +kernel
theorem d_Mo_dsaKeys_15 : decode (a_cc M_Mo_dsaKeys) 15 = .ok (.aload_n 0, 1) := by decide +kernel
theorem d_Mo_dsaKeys_16 : decode (a_cc M_Mo_dsaKeys) 16 = .ok (.getfield 18, 3) := by decide +kernel
theorem d_Mo_dsaKeys_19 : decode (a_cc M_Mo_dsaKeys) 19 = .ok (.iconst 0, 1) := by decide +kernel
theorem d_Mo_dsaKeys_20 : decode (a_cc M_Mo_dsaKeys) 20 = .ok (.iaload, 1) := by decide +kernel
theorem d_Mo_dsaKeys_21 : decode (a_cc M_Mo_dsaKeys) 21 = .ok (.bipush 32, 2) := by decide +kernel
theorem d_Mo_dsaKeys_23 : decode (a_cc M_Mo_dsaKeys) 23 = .ok (.if_icmp .ne 7, 3) := by decide +kernel
theorem d_Mo_dsaKeys_26 : decode (a_cc M_Mo_dsaKeys) 26 = .ok (.iconst 1, 1) := by decide +kernel
theorem d_Mo_dsaKeys_27 : decode (a_cc M_Mo_dsaKeys) 27 = .ok (.goto 4, 3) := by decide +kernel
theorem d_Mo_dsaKeys_30 : decode (a_cc M_Mo_dsaKeys) 30 = .ok (.iconst 0, 1) := by decide +kernel
theorem d_Mo_dsaKeys_31 : decode (a_cc M_Mo_dsaKeys) 31 = .ok (.iconst 2, 1) := by decide +kernel
theorem d_Mo_dsaKeys_32 : decode (a_cc M_Mo_dsaKeys) 32 = .ok (.invokevirtual 112, 3) := by decide +kernel
theorem d_Mo_dsaKeys_35 : decode (a_cc M_Mo_dsaKeys) 35 = .ok (.ifCond .ne 5, 3) := by decide +kernel
theorem d_Mo_dsaKeys_38 : decode (a_cc M_Mo_dsaKeys) 38 = .ok (.iconst 0, 1) := by decide +kernel
theorem d_Mo_dsaKeys_39 : decode (a_cc M_Mo_dsaKeys) 39 = .ok (.ireturn, 1) := by decide +kernel
theorem d_Mo_dsaKeys_40 : decode (a_cc M_Mo_dsaKeys) 40 = .ok (.aload_n 0, 1) := by decide +kernel
theorem d_Mo_dsaKeys_41 : decode (a_cc M_Mo_dsaKeys) 41 = .ok (.iload_n 1, 1) := by decide +kernel
theorem d_Mo_dsaKeys_42 : decode (a_cc M_Mo_dsaKeys) 42 = .ok (.invokevirtual 287, 3) := by decide +kernel
theorem d_Mo_dsaKeys_45 : decode (a_cc M_Mo_dsaKeys) 45 = .ok (.aload_n 0, 1) := by decide +kernel
theorem d_Mo_dsaKeys_46 : decode (a_cc M_Mo_dsaKeys) 46 = .ok (.bipush 12, 2) := by decide +kernel
theorem d_Mo_dsaKeys_48 : decode (a_cc M_Mo_dsaKeys) 48 = .ok (.invokevirtual 148, 3) := by decide +kernel
theorem d_Mo_dsaKeys_51 : decode (a_cc M_Mo_dsaKeys) 51 = .ok (.aload_n 0, 1) := by decide +kernel
theorem d_Mo_dsaKeys_52 : decode (a_cc M_Mo_dsaKeys) 52 = .ok (.aload_n 0, 1) := by decide +kernel
theorem d_Mo_dsaKeys_53 : decode (a_cc M_Mo_dsaKeys) 53 = .ok (.getfield 15, 3) := by decide +kernel
theorem d_Mo_dsaKeys_56 : decode (a_cc M_Mo_dsaKeys) 56 = .ok (.iconst 0, 1) := by decide +kernel
theorem d_Mo_dsaKeys_57 : decode (a_cc M_Mo_dsaKeys) 57 = .ok (.aaload, 1) := by decide +kernel
theorem d_Mo_dsaKeys_58 : decode (a_cc M_Mo_dsaKeys) 58 = .ok (.iconst 0, 1) := by decide +kernel
theorem d_Mo_dsaKeys_59 : decode (a_cc M_Mo_dsaKeys) 59 = .ok (.bipush 32, 2) := by decide +kernel
theorem d_Mo_dsaKeys_61 : decode (a_cc M_Mo_dsaKeys) 61 = .ok (.invokevirtual 268, 3) := by decide +kernel
theorem d_Mo_dsaKeys_64 : decode (a_cc M_Mo_dsaKeys) 64 = .ok (.aload_n 0, 1) := by decide +kernel
theorem d_Mo_dsaKeys_65 : decode (a_cc M_Mo_dsaKeys) 65 = .ok (.aload_n 0, 1) := by decide +kernel
theorem d_Mo_dsaKeys_66 : decode (a_cc M_Mo_dsaKeys) 66 = .ok (.getfield 223, 3) := by decide +kernel
theorem d_Mo_dsaKeys_69 : decode (a_cc M_Mo_dsaKeys) 69 = .ok (.invokevirtual 153, 3) := by decide +kernel
theorem d_Mo_dsaKeys_72 : decode (a_cc M_Mo_dsaKeys) 72 = .ok (.aload_n 0, 1) := by decide +kernel
theorem d_Mo_dsaKeys_73 : decode (a_cc M_Mo_dsaKeys) 73 = .ok (.aload_n 0, 1) := by decide +kernel
theorem d_Mo_dsaKeys_74 : decode (a_cc M_Mo_dsaKeys) 74 = .ok (.getfield 226, 3) := by decide +kernel
theorem d_Mo_dsaKeys_77 : decode (a_cc M_Mo_dsaKeys) 77 = .ok (.invokevirtual 153, 3) := by decide +kernel
theorem d_Mo_dsaKeys_80 : decode (a_cc M_Mo_dsaKeys) 80 = .ok (.aload_n 0, 1) := by decide +kernel
theorem d_Mo_dsaKeys_81 : decode (a_cc M_Mo_dsaKeys) 81 = .ok (.aload_n 0, 1) := by decide +kernel
theorem d_Mo_dsaKeys_82 : decode (a_cc M_Mo_dsaKeys) 82 = .ok (.getfield 68, 3) := by decide +kernel
theorem d_Mo_dsaKeys_85 : decode (a_cc M_Mo_dsaKeys) 85 = .ok (.iconst 0, 1) := by decide +kernel
theorem d_Mo_dsaKeys_86 : decode (a_cc M_Mo_dsaKeys) 86 = .ok (.sipush 128, 3) := by decide +kernel
theorem d_Mo_dsaKeys_89 : decode (a_cc M_Mo_dsaKeys) 89 = .ok (.invokevirtual 290, 3) := by decide +kernel
theorem d_Mo_dsaKeys_92 : decode (a_cc M_Mo_dsaKeys) 92 = .ok (.iconst 1, 1) := by decide +kernel
theorem d_Mo_dsaKeys_93 : decode (a_cc M_Mo_dsaKeys) 93 = .ok (.istore_n 2, 1) := by decide +kernel
theorem d_Mo_dsaKeys_94 : decode (a_cc M_Mo_dsaKeys) 94 = .ok (.iconst 0, 1) := by decide +kernel
theorem d_Mo_dsaKeys_95 : decode (a_cc M_Mo_dsaKeys) 95 = .ok (.istore_n 3, 1) := by decide +kernel
theorem d_Mo_dsaKeys_96 : decode (a_cc M_Mo_dsaKeys) 96 = .ok (.iload_n 3, 1) := by decide +kernel
theorem d_Mo_dsaKeys_97 : decode (a_cc M_Mo_dsaKeys) 97 = .ok (.aload_n 0, 1) := by decide +kernel
theorem d_Mo_dsaKeys_98 : decode (a_cc M_Mo_dsaKeys) 98 = .ok (.getfield 226, 3) := by decide +kernel
theorem d_Mo_dsaKeys_101 : decode (a_cc M_Mo_dsaKeys) 101 = .ok (.aload_n 0, 1) := by decide +kernel
theorem d_Mo_dsaKeys_102 : decode (a_cc M_Mo_dsaKeys) 102 = .ok (.getfield 223, 3) := by decide +kernel
theorem d_Mo_dsaKeys_105 : decode (a_cc M_Mo_dsaKeys) 105 = .ok (.iadd, 1) := by decide +kernel
theorem d_Mo_dsaKeys_106 : decode (a_cc M_Mo_dsaKeys) 106 = .ok (.if_icmp .ge 39, 3) := by decide +kernel
theorem d_Mo_dsaKeys_109 : decode (a_cc M_Mo_dsaKeys) 109 = .ok (.aload_n 0, 1) := by decide +kernel
theorem d_Mo_dsaKeys_110 : decode (a_cc M_Mo_dsaKeys) 110 = .ok (.aload_n 0, 1) := by decide +kernel
theorem d_Mo_dsaKeys_111 : decode (a_cc M_Mo_dsaKeys) 111 = .ok (.getfield 76, 3) := by decide +kernel
theorem d_Mo_dsaKeys_114 : decode (a_cc M_Mo_dsaKeys) 114 = .ok (.iload_n 3, 1) := by decide +kernel
theorem d_Mo_dsaKeys_115 : decode (a_cc M_Mo_dsaKeys) 115 = .ok (.aaload, 1) := by decide +kernel
theorem d_Mo_dsaKeys_116 : decode (a_cc M_Mo_dsaKeys) 116 = .ok (.aload_n 0, 1) := by decide +kernel
theorem d_Mo_dsaKeys_117 : decode (a_cc M_Mo_dsaKeys) 117 = .ok (.getfield 68, 3) := by decide +kernel
theorem d_Mo_dsaKeys_120 : decode (a_cc M_Mo_dsaKeys) 120 = .ok (.bipush 32, 2) := by decide +kernel
theorem d_Mo_dsaKeys_122 : decode (a_cc M_Mo_dsaKeys) 122 = .ok (.iload_n 3, 1) := by decide +kernel
theorem d_Mo_dsaKeys_123 : decode (a_cc M_Mo_dsaKeys) 123 = .ok (.invokevirtual 293, 3) := by decide +kernel
theorem d_Mo_dsaKeys_126 : decode (a_cc M_Mo_dsaKeys) 126 = .ok (.ifCond .eq 11, 3) := by decide +kernel
theorem d_Mo_dsaKeys_129 : decode (a_cc M_Mo_dsaKeys) 129 = .ok (.iload_n 2, 1) := by decide +kernel
theorem d_Mo_dsaKeys_130 : decode (a_cc M_Mo_dsaKeys) 130 = .ok (.ifCond .eq 7, 3) := by decide +kernel
theorem d_Mo_dsaKeys_133 : decode (a_cc M_Mo_dsaKeys) 133 = .ok (.iconst 1, 1) := by decide +kernel
theorem d_Mo_dsaKeys_134 : decode (a_cc M_Mo_dsaKeys) 134 = .ok (.goto 4, 3) := by decide +kernel
theorem d_Mo_dsaKeys_137 : decode (a_cc M_Mo_dsaKeys) 137 = .ok (.iconst 0, 1) := by decide +kernel
theorem d_Mo_dsaKeys_138 : decode (a_cc M_Mo_dsaKeys) 138 = .ok (.istore_n 2, 1) := by decide +kernel
theorem d_Mo_dsaKeys_139 : decode (a_cc M_Mo_dsaKeys) 139 = .ok (.iinc 3 1, 3) := by decide +kernel
theorem d_Mo_dsaKeys_142 : decode (a_cc M_Mo_dsaKeys) 142 = .ok (.goto (-46), 3) := by decide +kernel
theorem d_Mo_dsaKeys_145 : decode (a_cc M_Mo_dsaKeys) 145 = .ok (.aload_n 0, 1) := by decide +kernel
theorem d_Mo_dsaKeys_146 : decode (a_cc M_Mo_dsaKeys) 146 = .ok (.iload_n 2, 1) := by decide +kernel
theorem d_Mo_dsaKeys_147 : decode (a_cc M_Mo_dsaKeys) 147 = .ok (.iconst 3, 1) := by decide +kernel
theorem d_Mo_dsaKeys_148 : decode (a_cc M_Mo_dsaKeys) 148 = .ok (.invokevirtual 112, 3) := by decide +kernel
theorem d_Mo_dsaKeys_151 : decode (a_cc M_Mo_dsaKeys) 151 = .ok (.ifCond .ne 5, 3) := by decide +kernel
theorem d_Mo_dsaKeys_154 : decode (a_cc M_Mo_dsaKeys) 154 = .ok (.iconst 0, 1) := by decide +kernel
theorem d_Mo_dsaKeys_155 : decode (a_cc M_Mo_dsaKeys) 155 = .ok (.ireturn, 1) := by decide +kernel
theorem d_Mo_dsaKeys_156 : decode (a_cc M_Mo_dsaKeys) 156 = .ok (.aload_n 0, 1) := by decide +kernel
theorem d_Mo_dsaKeys_157 : decode (a_cc M_Mo_dsaKeys) 157 = .ok (.getfield 229, 3) := by decide +kernel
theorem d_Mo_dsaKeys_160 : decode (a_cc M_Mo_dsaKeys) 160 = .ok (.iconst 2, 1) := by decide +kernel
theorem d_Mo_dsaKeys_161 : decode (a_cc M_Mo_dsaKeys) 161 = .ok (.if_icmp .ne 7, 3) := by decide +kernel
theorem d_Mo_dsaKeys_164 : decode (a_cc M_Mo_dsaKeys) 164 = .ok (.iconst 3, 1) := by decide +kernel
theorem d_Mo_dsaKeys_165 : decode (a_cc M_Mo_dsaKeys) 165 = .ok (.goto 4, 3) := by decide +kernel
theorem d_Mo_dsaKeys_168 : decode (a_cc M_Mo_dsaKeys) 168 = .ok (.iconst 4, 1) := by decide +kernel
theorem d_Mo_dsaKeys_169 : decode (a_cc M_Mo_dsaKeys) 169 = .ok (.istore_n 3, 1) := by decide +kernel
theorem d_Mo_dsaKeys_170 : decode (a_cc M_Mo_dsaKeys) 170 = .ok (.aload_n 0, 1) := by decide +kernel
theorem d_Mo_dsaKeys_171 : decode (a_cc M_Mo_dsaKeys) 171 = .ok (.iconst 0, 1) := by decide +kernel
theorem d_Mo_dsaKeys_172 : decode (a_cc M_Mo_dsaKeys) 172 = .ok (.putfield 216, 3) := by decide +kernel
theorem d_Mo_dsaKeys_175 : decode (a_cc M_Mo_dsaKeys) 175 = .ok (.iconst 0, 1) := by decide +kernel
theorem d_Mo_dsaKeys_176 : decode (a_cc M_Mo_dsaKeys) 176 = .ok (.istore 4, 2) := by decide +kernel
theorem d_Mo_dsaKeys_178 : decode (a_cc M_Mo_dsaKeys) 178 = .ok (.iload 4, 2) := by decide +kernel
theorem d_Mo_dsaKeys_180 : decode (a_cc M_Mo_dsaKeys) 180 = .ok (.aload_n 0, 1) := by decide +kernel
theorem d_Mo_dsaKeys_181 : decode (a_cc M_Mo_dsaKeys) 181 = .ok (.getfield 226, 3) := by decide +kernel
theorem d_Mo_dsaKeys_184 : decode (a_cc M_Mo_dsaKeys) 184 = .ok (.aload_n 0, 1) := by decide +kernel
theorem d_Mo_dsaKeys_185 : decode (a_cc M_Mo_dsaKeys) 185 = .ok (.getfield 223, 3) := by decide +kernel
theorem d_Mo_dsaKeys_188 : decode (a_cc M_Mo_dsaKeys) 188 = .ok (.iadd, 1) := by decide +kernel
theorem d_Mo_dsaKeys_189 : decode (a_cc M_Mo_dsaKeys) 189 = .ok (.if_icmp .ge 30, 3) := by decide +kernel
theorem d_Mo_dsaKeys_192 : decode (a_cc M_Mo_dsaKeys) 192 = .ok (.aload_n 0, 1) := by decide +kernel
theorem d_Mo_dsaKeys_193 : decode (a_cc M_Mo_dsaKeys) 193 = .ok (.aload_n 0, 1) := by decide +kernel
theorem d_Mo_dsaKeys_194 : decode (a_cc M_Mo_dsaKeys) 194 = .ok (.getfield 84, 3) := by decide +kernel
theorem d_Mo_dsaKeys_197 : decode (a_cc M_Mo_dsaKeys) 197 = .ok (.iconst 0, 1) := by decide +kernel
theorem d_Mo_dsaKeys_198 : decode (a_cc M_Mo_dsaKeys) 198 = .ok (.aload_n 0, 1) := by decide +kernel
theorem d_Mo_dsaKeys_199 : decode (a_cc M_Mo_dsaKeys) 199 = .ok (.getfield 76, 3) := by decide +kernel
theorem d_Mo_dsaKeys_202 : decode (a_cc M_Mo_dsaKeys) 202 = .ok (.iload 4, 2) := by decide +kernel
theorem d_Mo_dsaKeys_204 : decode (a_cc M_Mo_dsaKeys) 204 = .ok (.aaload, 1) := by decide +kernel
theorem d_Mo_dsaKeys_205 : decode (a_cc M_Mo_dsaKeys) 205 = .ok (.aload_n 0, 1) := by decide +kernel
theorem d_Mo_dsaKeys_206 : decode (a_cc M_Mo_dsaKeys) 206 = .ok (.getfield 229, 3) := by decide +kernel
theorem d_Mo_dsaKeys_209 : decode (a_cc M_Mo_dsaKeys) 209 = .ok (.iload_n 3, 1) := by decide +kernel
theorem d_Mo_dsaKeys_210 : decode (a_cc M_Mo_dsaKeys) 210 = .ok (.invokevirtual 297, 3) := by decide +kernel
theorem d_Mo_dsaKeys_213 : decode (a_cc M_Mo_dsaKeys) 213 = .ok (.iinc 4 1, 3) := by decide +kernel
theorem d_Mo_dsaKeys_216 : decode (a_cc M_Mo_dsaKeys) 216 = .ok (.goto (-38), 3) := by decide +kernel
theorem d_Mo_dsaKeys_219 : decode (a_cc M_Mo_dsaKeys) 219 = .ok (.aload_n 0, 1) := by decide +kernel
theorem d_Mo_dsaKeys_220 : decode (a_cc M_Mo_dsaKeys) 220 = .ok (.getfield 216, 3) := by decide +kernel
theorem d_Mo_dsaKeys_223 : decode (a_cc M_Mo_dsaKeys) 223 = .ok (.istore 4, 2) := by decide +kernel
theorem d_Mo_dsaKeys_225 : decode (a_cc M_Mo_dsaKeys) 225 = .ok (.iconst 0, 1) := by decide +kernel
theorem d_Mo_dsaKeys_226 : decode (a_cc M_Mo_dsaKeys) 226 = .ok (.istore 5, 2) := by decide +kernel
theorem d_Mo_dsaKeys_228 : decode (a_cc M_Mo_dsaKeys) 228 = .ok (.iload 5, 2) := by decide +kernel
theorem d_Mo_dsaKeys_230 : decode (a_cc M_Mo_dsaKeys) 230 = .ok (.aload_n 0, 1) := by decide +kernel
theorem d_Mo_dsaKeys_231 : decode (a_cc M_Mo_dsaKeys) 231 = .ok (.getfield 226, 3) := by decide +kernel
theorem d_Mo_dsaKeys_234 : decode (a_cc M_Mo_dsaKeys) 234 = .ok (.if_icmp .ge 30, 3) := by decide +kernel
theorem d_Mo_dsaKeys_237 : decode (a_cc M_Mo_dsaKeys) 237 = .ok (.aload_n 0, 1) := by decide +kernel
theorem d_Mo_dsaKeys_238 : decode (a_cc M_Mo_dsaKeys) 238 = .ok (.getfield 76, 3) := by decide +kernel
theorem d_Mo_dsaKeys_241 : decode (a_cc M_Mo_dsaKeys) 241 = .ok (.iload 5, 2) := by decide +kernel
theorem d_Mo_dsaKeys_243 : decode (a_cc M_Mo_dsaKeys) 243 = .ok (.aaload, 1) := by decide +kernel
theorem d_Mo_dsaKeys_244 : decode (a_cc M_Mo_dsaKeys) 244 = .ok (.invokestatic 301, 3) := by decide +kernel
theorem d_Mo_dsaKeys_247 : decode (a_cc M_Mo_dsaKeys) 247 = .ok (.aload_n 0, 1) := by decide +kernel
theorem d_Mo_dsaKeys_248 : decode (a_cc M_Mo_dsaKeys) 248 = .ok (.aload_n 0, 1) := by decide +kernel
theorem d_Mo_dsaKeys_249 : decode (a_cc M_Mo_dsaKeys) 249 = .ok (.getfield 76, 3) := by decide +kernel
theorem d_Mo_dsaKeys_252 : decode (a_cc M_Mo_dsaKeys) 252 = .ok (.iload 5, 2) := by decide +kernel
theorem d_Mo_dsaKeys_254 : decode (a_cc M_Mo_dsaKeys) 254 = .ok (.aaload, 1) := by decide +kernel
theorem d_Mo_dsaKeys_255 : decode (a_cc M_Mo_dsaKeys) 255 = .ok (.invokevirtual 304, 3) := by decide +kernel
theorem d_Mo_dsaKeys_258 : decode (a_cc M_Mo_dsaKeys) 258 = .ok (.iinc 5 1, 3) := by decide +kernel
theorem d_Mo_dsaKeys_261 : decode (a_cc M_Mo_dsaKeys) 261 = .ok (.goto (-33), 3) := by decide +kernel
theorem d_Mo_dsaKeys_264 : decode (a_cc M_Mo_dsaKeys) 264 = .ok (.aload_n 0, 1) := by decide +kernel
theorem d_Mo_dsaKeys_265 : decode (a_cc M_Mo_dsaKeys) 265 = .ok (.iconst 0, 1) := by decide +kernel
theorem d_Mo_dsaKeys_266 : decode (a_cc M_Mo_dsaKeys) 266 = .ok (.putfield 216, 3) := by decide +kernel
theorem d_Mo_dsaKeys_269 : decode (a_cc M_Mo_dsaKeys) 269 = .ok (.iconst 0, 1) := by decide +kernel
theorem d_Mo_dsaKeys_270 : decode (a_cc M_Mo_dsaKeys) 270 = .ok (.istore 5, 2) := by decide +kernel
theorem d_Mo_dsaKeys_272 : decode (a_cc M_Mo_dsaKeys) 272 = .ok (.iload 5, 2) := by decide +kernel
theorem d_Mo_dsaKeys_274 : decode (a_cc M_Mo_dsaKeys) 274 = .ok (.aload_n 0, 1) := by decide +kernel
theorem d_Mo_dsaKeys_275 : decode (a_cc M_Mo_dsaKeys) 275 = .ok (.getfield 223, 3) := by decide +kernel
theorem d_Mo_dsaKeys_278 : decode (a_cc M_Mo_dsaKeys) 278 = .ok (.if_icmp .ge 212, 3) := by decide +kernel
theorem d_Mo_dsaKeys_281 : decode (a_cc M_Mo_dsaKeys) 281 = .ok (.aload_n 0, 1) := by decide +kernel
theorem d_Mo_dsaKeys_282 : decode (a_cc M_Mo_dsaKeys) 282 = .ok (.getfield 76, 3) := by decide +kernel
theorem d_Mo_dsaKeys_285 : decode (a_cc M_Mo_dsaKeys) 285 = .ok (.bipush 40, 2) := by decide +kernel
theorem d_Mo_dsaKeys_287 : decode (a_cc M_Mo_dsaKeys) 287 = .ok (.aaload, 1) := by decide +kernel
theorem d_Mo_dsaKeys_288 : decode (a_cc M_Mo_dsaKeys) 288 = .ok (.invokestatic 275, 3) := by decide +kernel
theorem d_Mo_dsaKeys_291 : decode (a_cc M_Mo_dsaKeys) 291 = .ok (.iconst 0, 1) := by decide +kernel
theorem d_Mo_dsaKeys_292 : decode (a_cc M_Mo_dsaKeys) 292 = .ok (.istore 6, 2) := by decide +kernel
theorem d_Mo_dsaKeys_294 : decode (a_cc M_Mo_dsaKeys) 294 = .ok (.iload 6, 2) := by decide +kernel
theorem d_Mo_dsaKeys_296 : decode (a_cc M_Mo_dsaKeys) 296 = .ok (.aload_n 0, 1) := by decide +kernel
theorem d_Mo_dsaKeys_297 : decode (a_cc M_Mo_dsaKeys) 297 = .ok (.getfield 226, 3) := by decide +kernel
theorem d_Mo_dsaKeys_300 : decode (a_cc M_Mo_dsaKeys) 300 = .ok (.if_icmp .ge 63, 3) := by decide +kernel
theorem d_Mo_dsaKeys_303 : decode (a_cc M_Mo_dsaKeys) 303 = .ok (.aload_n 0, 1) := by decide +kernel
theorem d_Mo_dsaKeys_304 : decode (a_cc M_Mo_dsaKeys) 304 = .ok (.aload_n 0, 1) := by decide +kernel
theorem d_Mo_dsaKeys_305 : decode (a_cc M_Mo_dsaKeys) 305 = .ok (.aload_n 0, 1) := by decide +kernel
theorem d_Mo_dsaKeys_306 : decode (a_cc M_Mo_dsaKeys) 306 = .ok (.getfield 76, 3) := by decide +kernel
theorem d_Mo_dsaKeys_309 : decode (a_cc M_Mo_dsaKeys) 309 = .ok (.bipush 41, 2) := by decide +kernel
theorem d_Mo_dsaKeys_311 : decode (a_cc M_Mo_dsaKeys) 311 = .ok (.aaload, 1) := by decide +kernel
theorem d_Mo_dsaKeys_312 : decode (a_cc M_Mo_dsaKeys) 312 = .ok (.aload_n 0, 1) := by decide +kernel
theorem d_Mo_dsaKeys_313 : decode (a_cc M_Mo_dsaKeys) 313 = .ok (.getfield 68, 3) := by decide +kernel
theorem d_Mo_dsaKeys_316 : decode (a_cc M_Mo_dsaKeys) 316 = .ok (.iconst 0, 1) := by decide +kernel
theorem d_Mo_dsaKeys_317 : decode (a_cc M_Mo_dsaKeys) 317 = .ok (.iload 6, 2) := by decide +kernel
theorem d_Mo_dsaKeys_319 : decode (a_cc M_Mo_dsaKeys) 319 = .ok (.iload 5, 2) := by decide +kernel
theorem d_Mo_dsaKeys_321 : decode (a_cc M_Mo_dsaKeys) 321 = .ok (.invokevirtual 307, 3) := by decide +kernel
theorem d_Mo_dsaKeys_324 : decode (a_cc M_Mo_dsaKeys) 324 = .ok (.iconst 3, 1) := by decide +kernel
theorem d_Mo_dsaKeys_325 : decode (a_cc M_Mo_dsaKeys) 325 = .ok (.invokevirtual 112, 3) := by decide +kernel
theorem d_Mo_dsaKeys_328 : decode (a_cc M_Mo_dsaKeys) 328 = .ok (.ifCond .ne 5, 3) := by decide +kernel
theorem d_Mo_dsaKeys_331 : decode (a_cc M_Mo_dsaKeys) 331 = .ok (.iconst 0, 1) := by decide +kernel
theorem d_Mo_dsaKeys_332 : decode (a_cc M_Mo_dsaKeys) 332 = .ok (.ireturn, 1) := by decide +kernel
theorem d_Mo_dsaKeys_333 : decode (a_cc M_Mo_dsaKeys) 333 = .ok (.aload_n 0, 1) := by decide +kernel
theorem d_Mo_dsaKeys_334 : decode (a_cc M_Mo_dsaKeys) 334 = .ok (.getfield 76, 3) := by decide +kernel
theorem d_Mo_dsaKeys_337 : decode (a_cc M_Mo_dsaKeys) 337 = .ok (.bipush 40, 2) := by decide +kernel
theorem d_Mo_dsaKeys_339 : decode (a_cc M_Mo_dsaKeys) 339 = .ok (.aaload, 1) := by decide +kernel
theorem d_Mo_dsaKeys_340 : decode (a_cc M_Mo_dsaKeys) 340 = .ok (.aload_n 0, 1) := by decide +kernel
theorem d_Mo_dsaKeys_341 : decode (a_cc M_Mo_dsaKeys) 341 = .ok (.getfield 76, 3) := by decide +kernel
theorem d_Mo_dsaKeys_344 : decode (a_cc M_Mo_dsaKeys) 344 = .ok (.bipush 41, 2) := by decide +kernel
theorem d_Mo_dsaKeys_346 : decode (a_cc M_Mo_dsaKeys) 346 = .ok (.aaload, 1) := by decide +kernel
theorem d_Mo_dsaKeys_347 : decode (a_cc M_Mo_dsaKeys) 347 = .ok (.aload_n 0, 1) := by decide +kernel
theorem d_Mo_dsaKeys_348 : decode (a_cc M_Mo_dsaKeys) 348 = .ok (.getfield 76, 3) := by decide +kernel
theorem d_Mo_dsaKeys_351 : decode (a_cc M_Mo_dsaKeys) 351 = .ok (.iload 6, 2) := by decide +kernel
theorem d_Mo_dsaKeys_353 : decode (a_cc M_Mo_dsaKeys) 353 = .ok (.aaload, 1) := by decide +kernel
theorem d_Mo_dsaKeys_354 : decode (a_cc M_Mo_dsaKeys) 354 = .ok (.invokestatic 311, 3) := by decide +kernel
theorem d_Mo_dsaKeys_357 : decode (a_cc M_Mo_dsaKeys) 357 = .ok (.iinc 6 1, 3) := by decide +kernel
theorem d_Mo_dsaKeys_360 : decode (a_cc M_Mo_dsaKeys) 360 = .ok (.goto (-66), 3) := by decide +kernel
theorem d_Mo_dsaKeys_363 : decode (a_cc M_Mo_dsaKeys) 363 = .ok (.aload_n 0, 1) := by decide +kernel
