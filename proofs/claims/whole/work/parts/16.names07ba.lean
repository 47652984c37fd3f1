/-! names, printed by program: methods, their instructions, what they link -/
def M_Mo_dsaVerify : a_M := (⟨"ModuleSignerModel", "dsaVerify", "(II)Z"⟩, prog_12_method_68_code, 9, some .boolean, "ModuleSignerModel", 7, 125, [])
set_option maxRecDepth 100000 in
set_option maxHeartbeats 4000000 in
theorem ok_Mo_dsaVerify : a_Ok M_Mo_dsaVerify := ⟨rfl, by decide +kernel, ⟨by decide, by decide⟩, List.mem_append_right _ (List.mem_of_getElem? (i := 11) (by decide +kernel)), Or.inl ⟨rfl, List.mem_append_right _ (List.mem_of_getElem? (i := 1418) (by rfl))⟩⟩
theorem d_Mo_dsaVerify_0 : decode (a_cc M_Mo_dsaVerify) 0 = .ok (.aload_n 0, 1) := by decide +kernel
theorem d_Mo_dsaVerify_1 : decode (a_cc M_Mo_dsaVerify) 1 = .ok (.iload_n 1, 1) := by decide +kernel
theorem d_Mo_dsaVerify_2 : decode (a_cc M_Mo_dsaVerify) 2 = .ok (.iconst 0, 1) := by decide +kernel
theorem d_Mo_dsaVerify_3 : decode (a_cc M_Mo_dsaVerify) 3 = .ok (.iconst 2, 1) := by decide +kernel
theorem d_Mo_dsaVerify_4 : decode (a_cc M_Mo_dsaVerify) 4 = .ok (.invokestatic 120, 3) := by decide +kernel
theorem d_Mo_dsaVerify_7 : decode (a_cc M_Mo_dsaVerify) 7 = .ok (.ifCond .eq 16, 3) := by decide +kernel
theorem d_Mo_dsaVerify_10 : decode (a_cc M_Mo_dsaVerify) 10 = .ok (.iload_n 2, 1) := by decide +kernel
theorem d_Mo_dsaVerify_11 : decode (a_cc M_Mo_dsaVerify) 11 = .ok (.iconst (-1), 1) := by decide +kernel
theorem d_Mo_dsaVerify_12 : decode (a_cc M_Mo_dsaVerify) 12 = .ok (.iconst 0, 1) := by decide +kernel
theorem d_Mo_dsaVerify_13 : decode (a_cc M_Mo_dsaVerify) 13 = .ok (.invokestatic 120, 3) := by decide +kernel
theorem d_Mo_dsaVerify_16 : decode (a_cc M_Mo_dsaVerify) 16 = .ok (.ifCond .eq 7, 3) := by decide +kernel
theorem d_Mo_dsaVerify_19 : decode (a_cc M_Mo_dsaVerify) 19 = .ok (.iconst 1, 1) := by decide +kernel
theorem d_Mo_dsaVerify_20 : decode (a_cc M_Mo_dsaVerify) 20 = .ok (.goto 4, 3) := by decide +kernel
theorem d_Mo_dsaVerify_23 : decode (a_cc M_Mo_dsaVerify) 23 = .ok (.iconst 0, 1) := by decide +kernel
theorem d_Mo_dsaVerify_24 : decode (a_cc M_Mo_dsaVerify) 24 = .ok (.iconst 1, 1) := by decide +kernel
theorem d_Mo_dsaVerify_25 : decode (a_cc M_Mo_dsaVerify) 25 = .ok (.invokevirtual 112, 3) := by decide +kernel
theorem d_Mo_dsaVerify_28 : decode (a_cc M_Mo_dsaVerify) 28 = .ok (.ifCond .ne 5, 3) := by decide +kernel
theorem d_Mo_dsaVerify_31 : decode (a_cc M_Mo_dsaVerify) 31 = .ok (.iconst 0, 1) := by decide +kernel
theorem d_Mo_dsaVerify_32 : decode (a_cc M_Mo_dsaVerify) 32 = .ok (.ireturn, 1) := by decide +kernel
theorem d_Mo_dsaVerify_33 : decode (a_cc M_Mo_dsaVerify) 33 = .ok (.aload_n 0, 1) := by decide +kernel
theorem d_Mo_dsaVerify_34 : decode (a_cc M_Mo_dsaVerify) 34 = .ok (.iload_n 1, 1) := by decide +kernel
theorem d_Mo_dsaVerify_35 : decode (a_cc M_Mo_dsaVerify) 35 = .ok (.invokevirtual 287, 3) := by decide +kernel
theorem d_Mo_dsaVerify_38 : decode (a_cc M_Mo_dsaVerify) 38 = .ok (.aload_n 0, 1) := by decide +kernel
theorem d_Mo_dsaVerify_39 : decode (a_cc M_Mo_dsaVerify) 39 = .ok (.aload_n 0, 1) := by decide +kernel
theorem d_Mo_dsaVerify_40 : decode (a_cc M_Mo_dsaVerify) 40 = .ok (.iload_n 2, 1) := by decide +kernel
theorem d_Mo_dsaVerify_41 : decode (a_cc M_Mo_dsaVerify) 41 = .ok (.invokevirtual 331, 3) := by decide +kernel
theorem d_Mo_dsaVerify_44 : decode (a_cc M_Mo_dsaVerify) 44 = .ok (.iconst 2, 1) := by decide +kernel
theorem d_Mo_dsaVerify_45 : decode (a_cc M_Mo_dsaVerify) 45 = .ok (.invokevirtual 112, 3) := by decide +kernel
theorem d_Mo_dsaVerify_48 : decode (a_cc M_Mo_dsaVerify) 48 = .ok (.ifCond .eq 36, 3) := by decide +kernel
theorem d_Mo_dsaVerify_51 : decode (a_cc M_Mo_dsaVerify) 51 = .ok (.aload_n 0, 1) := by decide +kernel
theorem d_Mo_dsaVerify_52 : decode (a_cc M_Mo_dsaVerify) 52 = .ok (.aload_n 0, 1) := by decide +kernel
theorem d_Mo_dsaVerify_53 : decode (a_cc M_Mo_dsaVerify) 53 = .ok (.getfield 18, 3) := by decide +kernel
theorem d_Mo_dsaVerify_56 : decode (a_cc M_Mo_dsaVerify) 56 = .ok (.iconst 1, 1) := by decide +kernel
theorem d_Mo_dsaVerify_57 : decode (a_cc M_Mo_dsaVerify) 57 = .ok (.iaload, 1) := by decide +kernel
theorem d_Mo_dsaVerify_58 : decode (a_cc M_Mo_dsaVerify) 58 = .ok (.bipush 32, 2) := by decide +kernel
theorem d_Mo_dsaVerify_60 : decode (a_cc M_Mo_dsaVerify) 60 = .ok (.sipush 320, 3) := by decide +kernel
theorem d_Mo_dsaVerify_63 : decode (a_cc M_Mo_dsaVerify) 63 = .ok (.aload_n 0, 1) := by decide +kernel
theorem d_Mo_dsaVerify_64 : decode (a_cc M_Mo_dsaVerify) 64 = .ok (.getfield 223, 3) := by decide +kernel
theorem d_Mo_dsaVerify_67 : decode (a_cc M_Mo_dsaVerify) 67 = .ok (.imul, 1) := by decide +kernel
theorem d_Mo_dsaVerify_68 : decode (a_cc M_Mo_dsaVerify) 68 = .ok (.iadd, 1) := by decide +kernel
theorem d_Mo_dsaVerify_69 : decode (a_cc M_Mo_dsaVerify) 69 = .ok (.if_icmp .ne 7, 3) := by decide +kernel
theorem d_Mo_dsaVerify_72 : decode (a_cc M_Mo_dsaVerify) 72 = .ok (.iconst 1, 1) := by decide +kernel
theorem d_Mo_dsaVerify_73 : decode (a_cc M_Mo_dsaVerify) 73 = .ok (.goto 4, 3) := by decide +kernel
theorem d_Mo_dsaVerify_76 : decode (a_cc M_Mo_dsaVerify) 76 = .ok (.iconst 0, 1) := by decide +kernel
theorem d_Mo_dsaVerify_77 : decode (a_cc M_Mo_dsaVerify) 77 = .ok (.iconst 3, 1) := by decide +kernel
theorem d_Mo_dsaVerify_78 : decode (a_cc M_Mo_dsaVerify) 78 = .ok (.invokevirtual 112, 3) := by decide +kernel
theorem d_Mo_dsaVerify_81 : decode (a_cc M_Mo_dsaVerify) 81 = .ok (.ifCond .ne 5, 3) := by decide +kernel
theorem d_Mo_dsaVerify_84 : decode (a_cc M_Mo_dsaVerify) 84 = .ok (.iconst 0, 1) := by decide +kernel
theorem d_Mo_dsaVerify_85 : decode (a_cc M_Mo_dsaVerify) 85 = .ok (.ireturn, 1) := by decide +kernel
theorem d_Mo_dsaVerify_86 : decode (a_cc M_Mo_dsaVerify) 86 = .ok (.aload_n 0, 1) := by decide +kernel
theorem d_Mo_dsaVerify_87 : decode (a_cc M_Mo_dsaVerify) 87 = .ok (.getfield 248, 3) := by decide +kernel
theorem d_Mo_dsaVerify_90 : decode (a_cc M_Mo_dsaVerify) 90 = .ok (.bipush 32, 2) := by decide +kernel
theorem d_Mo_dsaVerify_92 : decode (a_cc M_Mo_dsaVerify) 92 = .ok (.aload_n 0, 1) := by decide +kernel
theorem d_Mo_dsaVerify_93 : decode (a_cc M_Mo_dsaVerify) 93 = .ok (.getfield 226, 3) := by decide +kernel
theorem d_Mo_dsaVerify_96 : decode (a_cc M_Mo_dsaVerify) 96 = .ok (.imul, 1) := by decide +kernel
theorem d_Mo_dsaVerify_97 : decode (a_cc M_Mo_dsaVerify) 97 = .ok (.aload_n 0, 1) := by decide +kernel
theorem d_Mo_dsaVerify_98 : decode (a_cc M_Mo_dsaVerify) 98 = .ok (.getfield 251, 3) := by decide +kernel
theorem d_Mo_dsaVerify_101 : decode (a_cc M_Mo_dsaVerify) 101 = .ok (.imul, 1) := by decide +kernel
theorem d_Mo_dsaVerify_102 : decode (a_cc M_Mo_dsaVerify) 102 = .ok (.iadd, 1) := by decide +kernel
theorem d_Mo_dsaVerify_103 : decode (a_cc M_Mo_dsaVerify) 103 = .ok (.istore_n 3, 1) := by decide +kernel
theorem d_Mo_dsaVerify_104 : decode (a_cc M_Mo_dsaVerify) 104 = .ok (.aload_n 0, 1) := by decide +kernel
theorem d_Mo_dsaVerify_105 : decode (a_cc M_Mo_dsaVerify) 105 = .ok (.getfield 18, 3) := by decide +kernel
theorem d_Mo_dsaVerify_108 : decode (a_cc M_Mo_dsaVerify) 108 = .ok (.iconst 5, 1) := by decide +kernel
theorem d_Mo_dsaVerify_109 : decode (a_cc M_Mo_dsaVerify) 109 = .ok (.iaload, 1) := by decide +kernel
theorem d_Mo_dsaVerify_110 : decode (a_cc M_Mo_dsaVerify) 110 = .ok (.iload_n 3, 1) := by decide +kernel
theorem d_Mo_dsaVerify_111 : decode (a_cc M_Mo_dsaVerify) 111 = .ok (.aload_n 0, 1) := by decide +kernel
theorem d_Mo_dsaVerify_112 : decode (a_cc M_Mo_dsaVerify) 112 = .ok (.getfield 245, 3) := by decide +kernel
theorem d_Mo_dsaVerify_115 : decode (a_cc M_Mo_dsaVerify) 115 = .ok (.iadd, 1) := by decide +kernel
theorem d_Mo_dsaVerify_116 : decode (a_cc M_Mo_dsaVerify) 116 = .ok (.aload_n 0, 1) := by decide +kernel
theorem d_Mo_dsaVerify_117 : decode (a_cc M_Mo_dsaVerify) 117 = .ok (.getfield 223, 3) := by decide +kernel
theorem d_Mo_dsaVerify_120 : decode (a_cc M_Mo_dsaVerify) 120 = .ok (.iadd, 1) := by decide +kernel
theorem d_Mo_dsaVerify_121 : decode (a_cc M_Mo_dsaVerify) 121 = .ok (.if_icmp .ne 17, 3) := by decide +kernel
theorem d_Mo_dsaVerify_124 : decode (a_cc M_Mo_dsaVerify) 124 = .ok (.aload_n 0, 1) := by decide +kernel
theorem d_Mo_dsaVerify_125 : decode (a_cc M_Mo_dsaVerify) 125 = .ok (.aload_n 0, 1) := by decide +kernel
theorem d_Mo_dsaVerify_126 : decode (a_cc M_Mo_dsaVerify) 126 = .ok (.getfield 15, 3) := by decide +kernel
theorem d_Mo_dsaVerify_129 : decode (a_cc M_Mo_dsaVerify) 129 = .ok (.iconst 5, 1) := by decide +kernel
theorem d_Mo_dsaVerify_130 : decode (a_cc M_Mo_dsaVerify) 130 = .ok (.aaload, 1) := by decide +kernel
theorem d_Mo_dsaVerify_131 : decode (a_cc M_Mo_dsaVerify) 131 = .ok (.iload_n 3, 1) := by decide +kernel
theorem d_Mo_dsaVerify_132 : decode (a_cc M_Mo_dsaVerify) 132 = .ok (.invokevirtual 360, 3) := by decide +kernel
theorem d_Mo_dsaVerify_135 : decode (a_cc M_Mo_dsaVerify) 135 = .ok (.ifCond .ne 5, 3) := by decide +kernel
theorem d_Mo_dsaVerify_138 : decode (a_cc M_Mo_dsaVerify) 138 = .ok (.iconst 0, 1) := by decide +kernel
theorem d_Mo_dsaVerify_139 : decode (a_cc M_Mo_dsaVerify) 139 = .ok (.ireturn, 1) := by decide +kernel
theorem d_Mo_dsaVerify_140 : decode (a_cc M_Mo_dsaVerify) 140 = .ok (.aload_n 0, 1) := by decide +kernel
theorem d_Mo_dsaVerify_141 : decode (a_cc M_Mo_dsaVerify) 141 = .ok (.iconst 0, 1) := by decide +kernel
theorem d_Mo_dsaVerify_142 : decode (a_cc M_Mo_dsaVerify) 142 = .ok (.putfield 216, 3) := by decide +kernel
theorem d_Mo_dsaVerify_145 : decode (a_cc M_Mo_dsaVerify) 145 = .ok (.iconst 0, 1) := by decide +kernel
theorem d_Mo_dsaVerify_146 : decode (a_cc M_Mo_dsaVerify) 146 = .ok (.istore 4, 2) := by decide +kernel
theorem d_Mo_dsaVerify_148 : decode (a_cc M_Mo_dsaVerify) 148 = .ok (.iload 4, 2) := by decide +kernel
theorem d_Mo_dsaVerify_150 : decode (a_cc M_Mo_dsaVerify) 150 = .ok (.aload_n 0, 1) := by decide +kernel
theorem d_Mo_dsaVerify_151 : decode (a_cc M_Mo_dsaVerify) 151 = .ok (.getfield 226, 3) := by decide +kernel
theorem d_Mo_dsaVerify_154 : decode (a_cc M_Mo_dsaVerify) 154 = .ok (.if_icmp .ge 111, 3) := by decide +kernel
theorem d_Mo_dsaVerify_157 : decode (a_cc M_Mo_dsaVerify) 157 = .ok (.aload_n 0, 1) := by decide +kernel
theorem d_Mo_dsaVerify_158 : decode (a_cc M_Mo_dsaVerify) 158 = .ok (.aload_n 0, 1) := by decide +kernel
theorem d_Mo_dsaVerify_159 : decode (a_cc M_Mo_dsaVerify) 159 = .ok (.getfield 15, 3) := by decide +kernel
theorem d_Mo_dsaVerify_162 : decode (a_cc M_Mo_dsaVerify) 162 = .ok (.iconst 5, 1) := by decide +kernel
theorem d_Mo_dsaVerify_163 : decode (a_cc M_Mo_dsaVerify) 163 = .ok (.aaload, 1) := by decide +kernel
theorem d_Mo_dsaVerify_164 : decode (a_cc M_Mo_dsaVerify) 164 = .ok (.aload_n 0, 1) := by decide +kernel
theorem d_Mo_dsaVerify_165 : decode (a_cc M_Mo_dsaVerify) 165 = .ok (.getfield 248, 3) := by decide +kernel
theorem d_Mo_dsaVerify_168 : decode (a_cc M_Mo_dsaVerify) 168 = .ok (.aload_n 0, 1) := by decide +kernel
theorem d_Mo_dsaVerify_169 : decode (a_cc M_Mo_dsaVerify) 169 = .ok (.getfield 76, 3) := by decide +kernel
theorem d_Mo_dsaVerify_172 : decode (a_cc M_Mo_dsaVerify) 172 = .ok (.iload 4, 2) := by decide +kernel
theorem d_Mo_dsaVerify_174 : decode (a_cc M_Mo_dsaVerify) 174 = .ok (.aaload, 1) := by decide +kernel
theorem d_Mo_dsaVerify_175 : decode (a_cc M_Mo_dsaVerify) 175 = .ok (.aload_n 0, 1) := by decide +kernel
theorem d_Mo_dsaVerify_176 : decode (a_cc M_Mo_dsaVerify) 176 = .ok (.getfield 237, 3) := by decide +kernel
theorem d_Mo_dsaVerify_179 : decode (a_cc M_Mo_dsaVerify) 179 = .ok (.aload_n 0, 1) := by decide +kernel
theorem d_Mo_dsaVerify_180 : decode (a_cc M_Mo_dsaVerify) 180 = .ok (.getfield 251, 3) := by decide +kernel
theorem d_Mo_dsaVerify_183 : decode (a_cc M_Mo_dsaVerify) 183 = .ok (.invokevirtual 337, 3) := by decide +kernel
theorem d_Mo_dsaVerify_186 : decode (a_cc M_Mo_dsaVerify) 186 = .ok (.iconst 0, 1) := by decide +kernel
theorem d_Mo_dsaVerify_187 : decode (a_cc M_Mo_dsaVerify) 187 = .ok (.istore 5, 2) := by decide +kernel
theorem d_Mo_dsaVerify_189 : decode (a_cc M_Mo_dsaVerify) 189 = .ok (.iload 5, 2) := by decide +kernel
theorem d_Mo_dsaVerify_191 : decode (a_cc M_Mo_dsaVerify) 191 = .ok (.sipush 256, 3) := by decide +kernel
theorem d_Mo_dsaVerify_194 : decode (a_cc M_Mo_dsaVerify) 194 = .ok (.if_icmp .ge 65, 3) := by decide +kernel
theorem d_Mo_dsaVerify_197 : decode (a_cc M_Mo_dsaVerify) 197 = .ok (.aload_n 0, 1) := by decide +kernel
theorem d_Mo_dsaVerify_198 : decode (a_cc M_Mo_dsaVerify) 198 = .ok (.getfield 76, 3) := by decide +kernel
theorem d_Mo_dsaVerify_201 : decode (a_cc M_Mo_dsaVerify) 201 = .ok (.iload 4, 2) := by decide +kernel
theorem d_Mo_dsaVerify_203 : decode (a_cc M_Mo_dsaVerify) 203 = .ok (.aaload, 1) := by decide +kernel
theorem d_Mo_dsaVerify_204 : decode (a_cc M_Mo_dsaVerify) 204 = .ok (.iload 5, 2) := by decide +kernel
theorem d_Mo_dsaVerify_206 : decode (a_cc M_Mo_dsaVerify) 206 = .ok (.iaload, 1) := by decide +kernel
theorem d_Mo_dsaVerify_207 : decode (a_cc M_Mo_dsaVerify) 207 = .ok (.aload_n 0, 1) := by decide +kernel
theorem d_Mo_dsaVerify_208 : decode (a_cc M_Mo_dsaVerify) 208 = .ok (.getfield 237, 3) := by decide +kernel
theorem d_Mo_dsaVerify_211 : decode (a_cc M_Mo_dsaVerify) 211 = .ok (.aload_n 0, 1) := by decide +kernel
theorem d_Mo_dsaVerify_212 : decode (a_cc M_Mo_dsaVerify) 212 = .ok (.getfield 232, 3) := by decide +kernel
theorem d_Mo_dsaVerify_215 : decode (a_cc M_Mo_dsaVerify) 215 = .ok (.aload_n 0, 1) := by decide +kernel
theorem d_Mo_dsaVerify_216 : decode (a_cc M_Mo_dsaVerify) 216 = .ok (.getfield 229, 3) := by decide +kernel
theorem d_Mo_dsaVerify_219 : decode (a_cc M_Mo_dsaVerify) 219 = .ok (.imul, 1) := by decide +kernel
theorem d_Mo_dsaVerify_220 : decode (a_cc M_Mo_dsaVerify) 220 = .ok (.isub, 1) := by decide +kernel
theorem d_Mo_dsaVerify_221 : decode (a_cc M_Mo_dsaVerify) 221 = .ok (.if_icmp .ge 30, 3) := by decide +kernel
theorem d_Mo_dsaVerify_224 : decode (a_cc M_Mo_dsaVerify) 224 = .ok (.aload_n 0, 1) := by decide +kernel
theorem d_Mo_dsaVerify_225 : decode (a_cc M_Mo_dsaVerify) 225 = .ok (.getfield 76, 3) := by decide +kernel
theorem d_Mo_dsaVerify_228 : decode (a_cc M_Mo_dsaVerify) 228 = .ok (.iload 4, 2) := by decide +kernel
theorem d_Mo_dsaVerify_230 : decode (a_cc M_Mo_dsaVerify) 230 = .ok (.aaload, 1) := by decide +kernel
theorem d_Mo_dsaVerify_231 : decode (a_cc M_Mo_dsaVerify) 231 = .ok (.iload 5, 2) := by decide +kernel
theorem d_Mo_dsaVerify_233 : decode (a_cc M_Mo_dsaVerify) 233 = .ok (.iaload, 1) := by decide +kernel
theorem d_Mo_dsaVerify_234 : decode (a_cc M_Mo_dsaVerify) 234 = .ok (.aload_n 0, 1) := by decide +kernel
theorem d_Mo_dsaVerify_235 : decode (a_cc M_Mo_dsaVerify) 235 = .ok (.getfield 232, 3) := by decide +kernel
theorem d_Mo_dsaVerify_238 : decode (a_cc M_Mo_dsaVerify) 238 = .ok (.aload_n 0, 1) := by decide +kernel
theorem d_Mo_dsaVerify_239 : decode (a_cc M_Mo_dsaVerify) 239 = .ok (.getfield 229, 3) := by decide +kernel
theorem d_Mo_dsaVerify_242 : decode (a_cc M_Mo_dsaVerify) 242 = .ok (.imul, 1) := by decide +kernel
theorem d_Mo_dsaVerify_243 : decode (a_cc M_Mo_dsaVerify) 243 = .ok (.aload_n 0, 1) := by decide +kernel
theorem d_Mo_dsaVerify_244 : decode (a_cc M_Mo_dsaVerify) 244 = .ok (.getfield 237, 3) := by decide +kernel
theorem d_Mo_dsaVerify_247 : decode (a_cc M_Mo_dsaVerify) 247 = .ok (.isub, 1) := by decide +kernel
theorem d_Mo_dsaVerify_248 : decode (a_cc M_Mo_dsaVerify) 248 = .ok (.if_icmp .gt 5, 3) := by decide +kernel
theorem d_Mo_dsaVerify_251 : decode (a_cc M_Mo_dsaVerify) 251 = .ok (.iconst 0, 1) := by decide +kernel
theorem d_Mo_dsaVerify_252 : decode (a_cc M_Mo_dsaVerify) 252 = .ok (.ireturn, 1) := by decide +kernel
theorem d_Mo_dsaVerify_253 : decode (a_cc M_Mo_dsaVerify) 253 = .ok (.iinc 5 1, 3) := by decide +kernel
theorem d_Mo_dsaVerify_256 : decode (a_cc M_Mo_dsaVerify) 256 = .ok (.goto (-67), 3) := by decide +kernel
theorem d_Mo_dsaVerify_259 : decode (a_cc M_Mo_dsaVerify) 259 = .ok (.iinc 4 1, 3) := by decide +kernel
theorem d_Mo_dsaVerify_262 : decode (a_cc M_Mo_dsaVerify) 262 = .ok (.goto (-114), 3) := by decide +kernel
theorem d_Mo_dsaVerify_265 : decode (a_cc M_Mo_dsaVerify) 265 = .ok (.aload_n 0, 1) := by decide +kernel
theorem d_Mo_dsaVerify_266 : decode (a_cc M_Mo_dsaVerify) 266 = .ok (.bipush 12, 2) := by decide +kernel
theorem d_Mo_dsaVerify_268 : decode (a_cc M_Mo_dsaVerify) 268 = .ok (.invokevirtual 148, 3) := by decide +kernel
theorem d_Mo_dsaVerify_271 : decode (a_cc M_Mo_dsaVerify) 271 = .ok (.aload_n 0, 1) := by decide +kernel
theorem d_Mo_dsaVerify_272 : decode (a_cc M_Mo_dsaVerify) 272 = .ok (.aload_n 0, 1) := by decide +kernel
theorem d_Mo_dsaVerify_273 : decode (a_cc M_Mo_dsaVerify) 273 = .ok (.getfield 15, 3) := by decide +kernel
theorem d_Mo_dsaVerify_276 : decode (a_cc M_Mo_dsaVerify) 276 = .ok (.iconst 1, 1) := by decide +kernel
theorem d_Mo_dsaVerify_277 : decode (a_cc M_Mo_dsaVerify) 277 = .ok (.aaload, 1) := by decide +kernel
theorem d_Mo_dsaVerify_278 : decode (a_cc M_Mo_dsaVerify) 278 = .ok (.iconst 0, 1) := by decide +kernel
theorem d_Mo_dsaVerify_279 : decode (a_cc M_Mo_dsaVerify) 279 = .ok (.aload_n 0, 1) := by decide +kernel
theorem d_Mo_dsaVerify_280 : decode (a_cc M_Mo_dsaVerify) 280 = .ok (.getfield 18, 3) := by decide +kernel
theorem d_Mo_dsaVerify_283 : decode (a_cc M_Mo_dsaVerify) 283 = .ok (.iconst 1, 1) := by decide +kernel
theorem d_Mo_dsaVerify_284 : decode (a_cc M_Mo_dsaVerify) 284 = .ok (.iaload, 1) := by decide +kernel
theorem d_Mo_dsaVerify_285 : decode (a_cc M_Mo_dsaVerify) 285 = .ok (.invokevirtual 268, 3) := by decide +kernel
theorem d_Mo_dsaVerify_288 : decode (a_cc M_Mo_dsaVerify) 288 = .ok (.aload_n 0, 1) := by decide +kernel
theorem d_Mo_dsaVerify_289 : decode (a_cc M_Mo_dsaVerify) 289 = .ok (.aload_n 0, 1) := by decide +kernel
theorem d_Mo_dsaVerify_290 : decode (a_cc M_Mo_dsaVerify) 290 = .ok (.getfield 96, 3) := by decide +kernel
theorem d_Mo_dsaVerify_293 : decode (a_cc M_Mo_dsaVerify) 293 = .ok (.iconst 0, 1) := by decide +kernel
theorem d_Mo_dsaVerify_294 : decode (a_cc M_Mo_dsaVerify) 294 = .ok (.bipush 64, 2) := by decide +kernel
theorem d_Mo_dsaVerify_296 : decode (a_cc M_Mo_dsaVerify) 296 = .ok (.invokevirtual 290, 3) := by decide +kernel
theorem d_Mo_dsaVerify_299 : decode (a_cc M_Mo_dsaVerify) 299 = .ok (.aload_n 0, 1) := by decide +kernel
theorem d_Mo_dsaVerify_300 : decode (a_cc M_Mo_dsaVerify) 300 = .ok (.aload_n 0, 1) := by decide +kernel
theorem d_Mo_dsaVerify_301 : decode (a_cc M_Mo_dsaVerify) 301 = .ok (.getfield 96, 3) := by decide +kernel
theorem d_Mo_dsaVerify_304 : decode (a_cc M_Mo_dsaVerify) 304 = .ok (.iconst 0, 1) := by decide +kernel
theorem d_Mo_dsaVerify_305 : decode (a_cc M_Mo_dsaVerify) 305 = .ok (.iload_n 2, 1) := by decide +kernel
theorem d_Mo_dsaVerify_306 : decode (a_cc M_Mo_dsaVerify) 306 = .ok (.invokevirtual 334, 3) := by decide +kernel
theorem d_Mo_dsaVerify_309 : decode (a_cc M_Mo_dsaVerify) 309 = .ok (.aload_n 0, 1) := by decide +kernel
theorem d_Mo_dsaVerify_310 : decode (a_cc M_Mo_dsaVerify) 310 = .ok (.aload_n 0, 1) := by decide +kernel
theorem d_Mo_dsaVerify_311 : decode (a_cc M_Mo_dsaVerify) 311 = .ok (.aload_n 0, 1) := by decide +kernel
theorem d_Mo_dsaVerify_312 : decode (a_cc M_Mo_dsaVerify) 312 = .ok (.getfield 76, 3) := by decide +kernel
theorem d_Mo_dsaVerify_315 : decode (a_cc M_Mo_dsaVerify) 315 = .ok (.bipush 46, 2) := by decide +kernel
theorem d_Mo_dsaVerify_317 : decode (a_cc M_Mo_dsaVerify) 317 = .ok (.aaload, 1) := by decide +kernel
theorem d_Mo_dsaVerify_318 : decode (a_cc M_Mo_dsaVerify) 318 = .ok (.aload_n 0, 1) := by decide +kernel
theorem d_Mo_dsaVerify_319 : decode (a_cc M_Mo_dsaVerify) 319 = .ok (.getfield 15, 3) := by decide +kernel
theorem d_Mo_dsaVerify_322 : decode (a_cc M_Mo_dsaVerify) 322 = .ok (.iconst 5, 1) := by decide +kernel
theorem d_Mo_dsaVerify_323 : decode (a_cc M_Mo_dsaVerify) 323 = .ok (.aaload, 1) := by decide +kernel
theorem d_Mo_dsaVerify_324 : decode (a_cc M_Mo_dsaVerify) 324 = .ok (.iconst 0, 1) := by decide +kernel
theorem d_Mo_dsaVerify_325 : decode (a_cc M_Mo_dsaVerify) 325 = .ok (.invokevirtual 350, 3) := by decide +kernel
theorem d_Mo_dsaVerify_328 : decode (a_cc M_Mo_dsaVerify) 328 = .ok (.iconst 4, 1) := by decide +kernel
theorem d_Mo_dsaVerify_329 : decode (a_cc M_Mo_dsaVerify) 329 = .ok (.invokevirtual 112, 3) := by decide +kernel
theorem d_Mo_dsaVerify_332 : decode (a_cc M_Mo_dsaVerify) 332 = .ok (.ifCond .ne 5, 3) := by decide +kernel
theorem d_Mo_dsaVerify_335 : decode (a_cc M_Mo_dsaVerify) 335 = .ok (.iconst 0, 1) := by decide +kernel
theorem d_Mo_dsaVerify_336 : decode (a_cc M_Mo_dsaVerify) 336 = .ok (.ireturn, 1) := by decide +kernel
theorem d_Mo_dsaVerify_337 : decode (a_cc M_Mo_dsaVerify) 337 = .ok (.aload_n 0, 1) := by decide +kernel
theorem d_Mo_dsaVerify_338 : decode (a_cc M_Mo_dsaVerify) 338 = .ok (.getfield 76, 3) := by decide +kernel
theorem d_Mo_dsaVerify_341 : decode (a_cc M_Mo_dsaVerify) 341 = .ok (.bipush 46, 2) := by decide +kernel
theorem d_Mo_dsaVerify_343 : decode (a_cc M_Mo_dsaVerify) 343 = .ok (.aaload, 1) := by decide +kernel
theorem d_Mo_dsaVerify_344 : decode (a_cc M_Mo_dsaVerify) 344 = .ok (.invokestatic 301, 3) := by decide +kernel
theorem d_Mo_dsaVerify_347 : decode (a_cc M_Mo_dsaVerify) 347 = .ok (.aload_n 0, 1) := by decide +kernel
