/-! names, printed by program: methods, their instructions, what they link -/
theorem d_La_law_0 : decode (a_cc M_law) 0 = .ok (.new 8, 3) := by decide +kernel
theorem d_La_law_3 : decode (a_cc M_law) 3 = .ok (.dup, 1) := by decide +kernel
theorem d_La_law_4 : decode (a_cc M_law) 4 = .ok (.invokespecial 58, 3) := by decide +kernel
theorem d_La_law_7 : decode (a_cc M_law) 7 = .ok (.astore_n 1, 1) := by decide +kernel
theorem d_La_law_8 : decode (a_cc M_law) 8 = .ok (.new 59, 3) := by decide +kernel
theorem d_La_law_11 : decode (a_cc M_law) 11 = .ok (.dup, 1) := by decide +kernel
theorem d_La_law_12 : decode (a_cc M_law) 12 = .ok (.invokespecial 61, 3) := by decide +kernel
theorem d_La_law_15 : decode (a_cc M_law) 15 = .ok (.astore_n 2, 1) := by decide +kernel
theorem d_La_law_16 : decode (a_cc M_law) 16 = .ok (.iconst 1, 1) := by decide +kernel
theorem d_La_law_17 : decode (a_cc M_law) 17 = .ok (.newarray .long, 2) := by decide +kernel
theorem d_La_law_19 : decode (a_cc M_law) 19 = .ok (.astore_n 3, 1) := by decide +kernel
theorem d_La_law_20 : decode (a_cc M_law) 20 = .ok (.iconst 0, 1) := by decide +kernel
theorem d_La_law_21 : decode (a_cc M_law) 21 = .ok (.istore 4, 2) := by decide +kernel
theorem d_La_law_23 : decode (a_cc M_law) 23 = .ok (.iload 4, 2) := by decide +kernel
theorem d_La_law_25 : decode (a_cc M_law) 25 = .ok (.aload_n 0, 1) := by decide +kernel
theorem d_La_law_26 : decode (a_cc M_law) 26 = .ok (.arraylength, 1) := by decide +kernel
theorem d_La_law_27 : decode (a_cc M_law) 27 = .ok (.bipush 6, 2) := by decide +kernel
theorem d_La_law_29 : decode (a_cc M_law) 29 = .ok (.isub, 1) := by decide +kernel
theorem d_La_law_30 : decode (a_cc M_law) 30 = .ok (.if_icmp .gt 861, 3) := by decide +kernel
theorem d_La_law_33 : decode (a_cc M_law) 33 = .ok (.aload_n 0, 1) := by decide +kernel
theorem d_La_law_34 : decode (a_cc M_law) 34 = .ok (.iload 4, 2) := by decide +kernel
theorem d_La_law_36 : decode (a_cc M_law) 36 = .ok (.iaload, 1) := by decide +kernel
theorem d_La_law_37 : decode (a_cc M_law) 37 = .ok (.bipush 15, 2) := by decide +kernel
theorem d_La_law_39 : decode (a_cc M_law) 39 = .ok (.iand, 1) := by decide +kernel
theorem d_La_law_40 : decode (a_cc M_law) 40 = .ok (.tableswitch 845 0 10 #[60, 164, 232, 300, 368, 448, 504, 571, 646, 702, 770], 60) := by decide +kernel
theorem d_La_law_100 : decode (a_cc M_law) 100 = .ok (.aload_n 1, 1) := by decide +kernel
theorem d_La_law_101 : decode (a_cc M_law) 101 = .ok (.aload_n 0, 1) := by decide +kernel
theorem d_La_law_102 : decode (a_cc M_law) 102 = .ok (.iload 4, 2) := by decide +kernel
theorem d_La_law_104 : decode (a_cc M_law) 104 = .ok (.iconst 1, 1) := by decide +kernel
theorem d_La_law_105 : decode (a_cc M_law) 105 = .ok (.iadd, 1) := by decide +kernel
theorem d_La_law_106 : decode (a_cc M_law) 106 = .ok (.iaload, 1) := by decide +kernel
theorem d_La_law_107 : decode (a_cc M_law) 107 = .ok (.aload_n 0, 1) := by decide +kernel
theorem d_La_law_108 : decode (a_cc M_law) 108 = .ok (.iload 4, 2) := by decide +kernel
theorem d_La_law_110 : decode (a_cc M_law) 110 = .ok (.iconst 2, 1) := by decide +kernel
theorem d_La_law_111 : decode (a_cc M_law) 111 = .ok (.iadd, 1) := by decide +kernel
theorem d_La_law_112 : decode (a_cc M_law) 112 = .ok (.iaload, 1) := by decide +kernel
theorem d_La_law_113 : decode (a_cc M_law) 113 = .ok (.aload_n 0, 1) := by decide +kernel
theorem d_La_law_114 : decode (a_cc M_law) 114 = .ok (.iload 4, 2) := by decide +kernel
theorem d_La_law_116 : decode (a_cc M_law) 116 = .ok (.iconst 3, 1) := by decide +kernel
theorem d_La_law_117 : decode (a_cc M_law) 117 = .ok (.iadd, 1) := by decide +kernel
theorem d_La_law_118 : decode (a_cc M_law) 118 = .ok (.iaload, 1) := by decide +kernel
theorem d_La_law_119 : decode (a_cc M_law) 119 = .ok (.aload_n 0, 1) := by decide +kernel
theorem d_La_law_120 : decode (a_cc M_law) 120 = .ok (.iload 4, 2) := by decide +kernel
theorem d_La_law_122 : decode (a_cc M_law) 122 = .ok (.iconst 4, 1) := by decide +kernel
theorem d_La_law_123 : decode (a_cc M_law) 123 = .ok (.iadd, 1) := by decide +kernel
theorem d_La_law_124 : decode (a_cc M_law) 124 = .ok (.iaload, 1) := by decide +kernel
theorem d_La_law_125 : decode (a_cc M_law) 125 = .ok (.aload_n 0, 1) := by decide +kernel
theorem d_La_law_126 : decode (a_cc M_law) 126 = .ok (.iload 4, 2) := by decide +kernel
theorem d_La_law_128 : decode (a_cc M_law) 128 = .ok (.iconst 5, 1) := by decide +kernel
theorem d_La_law_129 : decode (a_cc M_law) 129 = .ok (.iadd, 1) := by decide +kernel
theorem d_La_law_130 : decode (a_cc M_law) 130 = .ok (.iaload, 1) := by decide +kernel
theorem d_La_law_131 : decode (a_cc M_law) 131 = .ok (.aload_n 3, 1) := by decide +kernel
theorem d_La_law_132 : decode (a_cc M_law) 132 = .ok (.invokestatic 62, 3) := by decide +kernel
theorem d_La_law_135 : decode (a_cc M_law) 135 = .ok (.istore 5, 2) := by decide +kernel
theorem d_La_law_137 : decode (a_cc M_law) 137 = .ok (.aload_n 2, 1) := by decide +kernel
theorem d_La_law_138 : decode (a_cc M_law) 138 = .ok (.aload_n 0, 1) := by decide +kernel
theorem d_La_law_139 : decode (a_cc M_law) 139 = .ok (.iload 4, 2) := by decide +kernel
theorem d_La_law_141 : decode (a_cc M_law) 141 = .ok (.iconst 1, 1) := by decide +kernel
theorem d_La_law_142 : decode (a_cc M_law) 142 = .ok (.iadd, 1) := by decide +kernel
theorem d_La_law_143 : decode (a_cc M_law) 143 = .ok (.iaload, 1) := by decide +kernel
theorem d_La_law_144 : decode (a_cc M_law) 144 = .ok (.aload_n 0, 1) := by decide +kernel
theorem d_La_law_145 : decode (a_cc M_law) 145 = .ok (.iload 4, 2) := by decide +kernel
theorem d_La_law_147 : decode (a_cc M_law) 147 = .ok (.iconst 2, 1) := by decide +kernel
theorem d_La_law_148 : decode (a_cc M_law) 148 = .ok (.iadd, 1) := by decide +kernel
theorem d_La_law_149 : decode (a_cc M_law) 149 = .ok (.iaload, 1) := by decide +kernel
theorem d_La_law_150 : decode (a_cc M_law) 150 = .ok (.aload_n 0, 1) := by decide +kernel
theorem d_La_law_151 : decode (a_cc M_law) 151 = .ok (.iload 4, 2) := by decide +kernel
theorem d_La_law_153 : decode (a_cc M_law) 153 = .ok (.iconst 3, 1) := by decide +kernel
theorem d_La_law_154 : decode (a_cc M_law) 154 = .ok (.iadd, 1) := by decide +kernel
theorem d_La_law_155 : decode (a_cc M_law) 155 = .ok (.iaload, 1) := by decide +kernel
theorem d_La_law_156 : decode (a_cc M_law) 156 = .ok (.aload_n 0, 1) := by decide +kernel
theorem d_La_law_157 : decode (a_cc M_law) 157 = .ok (.iload 4, 2) := by decide +kernel
theorem d_La_law_159 : decode (a_cc M_law) 159 = .ok (.iconst 4, 1) := by decide +kernel
theorem d_La_law_160 : decode (a_cc M_law) 160 = .ok (.iadd, 1) := by decide +kernel
theorem d_La_law_161 : decode (a_cc M_law) 161 = .ok (.iaload, 1) := by decide +kernel
theorem d_La_law_162 : decode (a_cc M_law) 162 = .ok (.aload_n 0, 1) := by decide +kernel
theorem d_La_law_163 : decode (a_cc M_law) 163 = .ok (.iload 4, 2) := by decide +kernel
theorem d_La_law_165 : decode (a_cc M_law) 165 = .ok (.iconst 5, 1) := by decide +kernel
theorem d_La_law_166 : decode (a_cc M_law) 166 = .ok (.iadd, 1) := by decide +kernel
theorem d_La_law_167 : decode (a_cc M_law) 167 = .ok (.iaload, 1) := by decide +kernel
theorem d_La_law_168 : decode (a_cc M_law) 168 = .ok (.invokevirtual 67, 3) := by decide +kernel
theorem d_La_law_171 : decode (a_cc M_law) 171 = .ok (.istore 6, 2) := by decide +kernel
theorem d_La_law_173 : decode (a_cc M_law) 173 = .ok (.aload_n 2, 1) := by decide +kernel
theorem d_La_law_174 : decode (a_cc M_law) 174 = .ok (.invokevirtual 68, 3) := by decide +kernel
theorem d_La_law_177 : decode (a_cc M_law) 177 = .ok (.iload 5, 2) := by decide +kernel
theorem d_La_law_179 : decode (a_cc M_law) 179 = .ok (.if_icmp .eq 5, 3) := by decide +kernel
theorem d_La_law_182 : decode (a_cc M_law) 182 = .ok (.iconst 0, 1) := by decide +kernel
theorem d_La_law_183 : decode (a_cc M_law) 183 = .ok (.ireturn, 1) := by decide +kernel
theorem d_La_law_184 : decode (a_cc M_law) 184 = .ok (.iload 5, 2) := by decide +kernel
theorem d_La_law_186 : decode (a_cc M_law) 186 = .ok (.ifCond .ne 15, 3) := by decide +kernel
theorem d_La_law_189 : decode (a_cc M_law) 189 = .ok (.aload_n 3, 1) := by decide +kernel
theorem d_La_law_190 : decode (a_cc M_law) 190 = .ok (.iconst 0, 1) := by decide +kernel
theorem d_La_law_191 : decode (a_cc M_law) 191 = .ok (.laload, 1) := by decide +kernel
theorem d_La_law_192 : decode (a_cc M_law) 192 = .ok (.iload 6, 2) := by decide +kernel
theorem d_La_law_194 : decode (a_cc M_law) 194 = .ok (.i2l, 1) := by decide +kernel
theorem d_La_law_195 : decode (a_cc M_law) 195 = .ok (.lcmp, 1) := by decide +kernel
theorem d_La_law_196 : decode (a_cc M_law) 196 = .ok (.ifCond .eq 5, 3) := by decide +kernel
theorem d_La_law_199 : decode (a_cc M_law) 199 = .ok (.iconst 0, 1) := by decide +kernel
theorem d_La_law_200 : decode (a_cc M_law) 200 = .ok (.ireturn, 1) := by decide +kernel
theorem d_La_law_201 : decode (a_cc M_law) 201 = .ok (.goto 684, 3) := by decide +kernel
theorem d_La_law_204 : decode (a_cc M_law) 204 = .ok (.aload_n 1, 1) := by decide +kernel
theorem d_La_law_205 : decode (a_cc M_law) 205 = .ok (.aload_n 0, 1) := by decide +kernel
theorem d_La_law_206 : decode (a_cc M_law) 206 = .ok (.iload 4, 2) := by decide +kernel
theorem d_La_law_208 : decode (a_cc M_law) 208 = .ok (.iconst 1, 1) := by decide +kernel
theorem d_La_law_209 : decode (a_cc M_law) 209 = .ok (.iadd, 1) := by decide +kernel
theorem d_La_law_210 : decode (a_cc M_law) 210 = .ok (.iaload, 1) := by decide +kernel
theorem d_La_law_211 : decode (a_cc M_law) 211 = .ok (.aload_n 0, 1) := by decide +kernel
theorem d_La_law_212 : decode (a_cc M_law) 212 = .ok (.iload 4, 2) := by decide +kernel
theorem d_La_law_214 : decode (a_cc M_law) 214 = .ok (.iconst 2, 1) := by decide +kernel
theorem d_La_law_215 : decode (a_cc M_law) 215 = .ok (.iadd, 1) := by decide +kernel
theorem d_La_law_216 : decode (a_cc M_law) 216 = .ok (.iaload, 1) := by decide +kernel
theorem d_La_law_217 : decode (a_cc M_law) 217 = .ok (.aload_n 3, 1) := by decide +kernel
theorem d_La_law_218 : decode (a_cc M_law) 218 = .ok (.invokestatic 72, 3) := by decide +kernel
theorem d_La_law_221 : decode (a_cc M_law) 221 = .ok (.istore 5, 2) := by decide +kernel
theorem d_La_law_223 : decode (a_cc M_law) 223 = .ok (.aload_n 2, 1) := by decide +kernel
theorem d_La_law_224 : decode (a_cc M_law) 224 = .ok (.aload_n 0, 1) := by decide +kernel
theorem d_La_law_225 : decode (a_cc M_law) 225 = .ok (.iload 4, 2) := by decide +kernel
theorem d_La_law_227 : decode (a_cc M_law) 227 = .ok (.iconst 1, 1) := by decide +kernel
theorem d_La_law_228 : decode (a_cc M_law) 228 = .ok (.iadd, 1) := by decide +kernel
theorem d_La_law_229 : decode (a_cc M_law) 229 = .ok (.iaload, 1) := by decide +kernel
theorem d_La_law_230 : decode (a_cc M_law) 230 = .ok (.aload_n 0, 1) := by decide +kernel
theorem d_La_law_231 : decode (a_cc M_law) 231 = .ok (.iload 4, 2) := by decide +kernel
theorem d_La_law_233 : decode (a_cc M_law) 233 = .ok (.iconst 2, 1) := by decide +kernel
theorem d_La_law_234 : decode (a_cc M_law) 234 = .ok (.iadd, 1) := by decide +kernel
theorem d_La_law_235 : decode (a_cc M_law) 235 = .ok (.iaload, 1) := by decide +kernel
theorem d_La_law_236 : decode (a_cc M_law) 236 = .ok (.invokevirtual 75, 3) := by decide +kernel
theorem d_La_law_239 : decode (a_cc M_law) 239 = .ok (.istore 6, 2) := by decide +kernel
theorem d_La_law_241 : decode (a_cc M_law) 241 = .ok (.aload_n 2, 1) := by decide +kernel
theorem d_La_law_242 : decode (a_cc M_law) 242 = .ok (.invokevirtual 68, 3) := by decide +kernel
theorem d_La_law_245 : decode (a_cc M_law) 245 = .ok (.iload 5, 2) := by decide +kernel
theorem d_La_law_247 : decode (a_cc M_law) 247 = .ok (.if_icmp .eq 5, 3) := by decide +kernel
theorem d_La_law_250 : decode (a_cc M_law) 250 = .ok (.iconst 0, 1) := by decide +kernel
theorem d_La_law_251 : decode (a_cc M_law) 251 = .ok (.ireturn, 1) := by decide +kernel
theorem d_La_law_252 : decode (a_cc M_law) 252 = .ok (.iload 5, 2) := by decide +kernel
theorem d_La_law_254 : decode (a_cc M_law) 254 = .ok (.ifCond .ne 15, 3) := by decide +kernel
theorem d_La_law_257 : decode (a_cc M_law) 257 = .ok (.aload_n 3, 1) := by decide +kernel
theorem d_La_law_258 : decode (a_cc M_law) 258 = .ok (.iconst 0, 1) := by decide +kernel
theorem d_La_law_259 : decode (a_cc M_law) 259 = .ok (.laload, 1) := by decide +kernel
theorem d_La_law_260 : decode (a_cc M_law) 260 = .ok (.iload 6, 2) := by decide +kernel
theorem d_La_law_262 : decode (a_cc M_law) 262 = .ok (.i2l, 1) := by decide +kernel
theorem d_La_law_263 : decode (a_cc M_law) 263 = .ok (.lcmp, 1) := by decide +kernel
theorem d_La_law_264 : decode (a_cc M_law) 264 = .ok (.ifCond .eq 5, 3) := by decide +kernel
theorem d_La_law_267 : decode (a_cc M_law) 267 = .ok (.iconst 0, 1) := by decide +kernel
theorem d_La_law_268 : decode (a_cc M_law) 268 = .ok (.ireturn, 1) := by decide +kernel
theorem d_La_law_269 : decode (a_cc M_law) 269 = .ok (.goto 616, 3) := by decide +kernel
theorem d_La_law_272 : decode (a_cc M_law) 272 = .ok (.aload_n 1, 1) := by decide +kernel
theorem d_La_law_273 : decode (a_cc M_law) 273 = .ok (.aload_n 0, 1) := by decide +kernel
theorem d_La_law_274 : decode (a_cc M_law) 274 = .ok (.iload 4, 2) := by decide +kernel
theorem d_La_law_276 : decode (a_cc M_law) 276 = .ok (.iconst 1, 1) := by decide +kernel
theorem d_La_law_277 : decode (a_cc M_law) 277 = .ok (.iadd, 1) := by decide +kernel
theorem d_La_law_278 : decode (a_cc M_law) 278 = .ok (.iaload, 1) := by decide +kernel
theorem d_La_law_279 : decode (a_cc M_law) 279 = .ok (.aload_n 0, 1) := by decide +kernel
theorem d_La_law_280 : decode (a_cc M_law) 280 = .ok (.iload 4, 2) := by decide +kernel
theorem d_La_law_282 : decode (a_cc M_law) 282 = .ok (.iconst 2, 1) := by decide +kernel
theorem d_La_law_283 : decode (a_cc M_law) 283 = .ok (.iadd, 1) := by decide +kernel
theorem d_La_law_284 : decode (a_cc M_law) 284 = .ok (.iaload, 1) := by decide +kernel
theorem d_La_law_285 : decode (a_cc M_law) 285 = .ok (.aload_n 3, 1) := by decide +kernel
theorem d_La_law_286 : decode (a_cc M_law) 286 = .ok (.invokestatic 76, 3) := by decide +kernel
theorem d_La_law_289 : decode (a_cc M_law) 289 = .ok (.istore 5, 2) := by decide +kernel
theorem d_La_law_291 : decode (a_cc M_law) 291 = .ok (.aload_n 2, 1) := by decide +kernel
theorem d_La_law_292 : decode (a_cc M_law) 292 = .ok (.aload_n 0, 1) := by decide +kernel
theorem d_La_law_293 : decode (a_cc M_law) 293 = .ok (.iload 4, 2) := by decide +kernel
theorem d_La_law_295 : decode (a_cc M_law) 295 = .ok (.iconst 1, 1) := by decide +kernel
theorem d_La_law_296 : decode (a_cc M_law) 296 = .ok (.iadd, 1) := by decide +kernel
theorem d_La_law_297 : decode (a_cc M_law) 297 = .ok (.iaload, 1) := by decide +kernel
theorem d_La_law_298 : decode (a_cc M_law) 298 = .ok (.aload_n 0, 1) := by decide +kernel
theorem d_La_law_299 : decode (a_cc M_law) 299 = .ok (.iload 4, 2) := by decide +kernel
theorem d_La_law_301 : decode (a_cc M_law) 301 = .ok (.iconst 2, 1) := by decide +kernel
theorem d_La_law_302 : decode (a_cc M_law) 302 = .ok (.iadd, 1) := by decide +kernel
theorem d_La_law_303 : decode (a_cc M_law) 303 = .ok (.iaload, 1) := by decide +kernel
theorem d_La_law_304 : decode (a_cc M_law) 304 = .ok (.invokevirtual 78, 3) := by decide +kernel
theorem d_La_law_307 : decode (a_cc M_law) 307 = .ok (.istore 6, 2) := by decide +kernel
theorem d_La_law_309 : decode (a_cc M_law) 309 = .ok (.aload_n 2, 1) := by decide +kernel
theorem d_La_law_310 : decode (a_cc M_law) 310 = .ok (.invokevirtual 68, 3) := by decide +kernel
theorem d_La_law_313 : decode (a_cc M_law) 313 = .ok (.iload 5, 2) := by decide +kernel
theorem d_La_law_315 : decode (a_cc M_law) 315 = .ok (.if_icmp .eq 5, 3) := by decide +kernel
theorem d_La_law_318 : decode (a_cc M_law) 318 = .ok (.iconst 0, 1) := by decide +kernel
theorem d_La_law_319 : decode (a_cc M_law) 319 = .ok (.ireturn, 1) := by decide +kernel
theorem d_La_law_320 : decode (a_cc M_law) 320 = .ok (.iload 5, 2) := by decide +kernel
theorem d_La_law_322 : decode (a_cc M_law) 322 = .ok (.ifCond .ne 15, 3) := by decide +kernel
theorem d_La_law_325 : decode (a_cc M_law) 325 = .ok (.aload_n 3, 1) := by decide +kernel
theorem d_La_law_326 : decode (a_cc M_law) 326 = .ok (.iconst 0, 1) := by decide +kernel
theorem d_La_law_327 : decode (a_cc M_law) 327 = .ok (.laload, 1) := by decide +kernel
theorem d_La_law_328 : decode (a_cc M_law) 328 = .ok (.iload 6, 2) := by decide +kernel
theorem d_La_law_330 : decode (a_cc M_law) 330 = .ok (.i2l, 1) := by decide +kernel
theorem d_La_law_331 : decode (a_cc M_law) 331 = .ok (.lcmp, 1) := by decide +kernel
theorem d_La_law_332 : decode (a_cc M_law) 332 = .ok (.ifCond .eq 5, 3) := by decide +kernel
theorem d_La_law_335 : decode (a_cc M_law) 335 = .ok (.iconst 0, 1) := by decide +kernel
theorem d_La_law_336 : decode (a_cc M_law) 336 = .ok (.ireturn, 1) := by decide +kernel
theorem d_La_law_337 : decode (a_cc M_law) 337 = .ok (.goto 548, 3) := by decide +kernel
theorem d_La_law_340 : decode (a_cc M_law) 340 = .ok (.aload_n 1, 1) := by decide +kernel
theorem d_La_law_341 : decode (a_cc M_law) 341 = .ok (.aload_n 0, 1) := by decide +kernel
theorem d_La_law_342 : decode (a_cc M_law) 342 = .ok (.iload 4, 2) := by decide +kernel
theorem d_La_law_344 : decode (a_cc M_law) 344 = .ok (.iconst 1, 1) := by decide +kernel
theorem d_La_law_345 : decode (a_cc M_law) 345 = .ok (.iadd, 1) := by decide +kernel
theorem d_La_law_346 : decode (a_cc M_law) 346 = .ok (.iaload, 1) := by decide +kernel
theorem d_La_law_347 : decode (a_cc M_law) 347 = .ok (.aload_n 0, 1) := by decide +kernel
theorem d_La_law_348 : decode (a_cc M_law) 348 = .ok (.iload 4, 2) := by decide +kernel
theorem d_La_law_350 : decode (a_cc M_law) 350 = .ok (.iconst 2, 1) := by decide +kernel
theorem d_La_law_351 : decode (a_cc M_law) 351 = .ok (.iadd, 1) := by decide +kernel
