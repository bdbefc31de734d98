def bs_X8_init : List (List Cond) := [[.code yX8_init cX8_init 8 none], wsX8_init_r1, wsX8_init_r2, wsX80]
theorem bi_X8_init : ∀ w ∈ bs_X8_init.flatten, w ∈ wsX8_init := by
  have h : bs_X8_init.flatten = wsX8_init := by simp only [bs_X8_init, wsX8_init, List.flatten_cons, List.flatten_nil, List.append_assoc, List.append_nil, List.nil_append, List.cons_append]
  intro w hw; rw [h] at hw; exact hw
set_option maxRecDepth 20000 in
theorem ggX8_init_X8_isCellVector : GoodIn wsX8_init wsX8_isCellVector := goodIn_bb bs_X8_init bi_X8_init _ [(1, 22), (1, 23), (2, 0), (1, 21), (2, 1), (2, 2), (2, 3), (2, 4), (2, 5), (2, 6), (2, 7), (2, 8), (2, 9)] rfl (by decide +kernel)
set_option maxRecDepth 20000 in
theorem gX8_init_X8_isCellVector : GoodIn wsX8_init (va_wsS RX8 53 yX8_isCellVector wsX8_isCellVector) := goodIn_app (goodIn_bb bs_X8_init bi_X8_init _ [(1, 19), (1, 20), (1, 21)] rfl (by decide +kernel)) ggX8_init_X8_isCellVector
theorem dX8_init_0 : decode cX8_init 0 = .ok (.aload_n 0, 1) := by decide +kernel
theorem dX8_init_1 : decode cX8_init 1 = .ok (.invokespecial 1, 3) := by decide +kernel
theorem dX8_init_4 : decode cX8_init 4 = .ok (.aload_n 0, 1) := by decide +kernel
theorem dX8_init_5 : decode cX8_init 5 = .ok (.sipush 450, 3) := by decide +kernel
theorem dX8_init_8 : decode cX8_init 8 = .ok (.newarray .int, 2) := by decide +kernel
theorem dX8_init_10 : decode cX8_init 10 = .ok (.putfield 7, 3) := by decide +kernel
theorem dX8_init_13 : decode cX8_init 13 = .ok (.aload_n 0, 1) := by decide +kernel
theorem dX8_init_14 : decode cX8_init 14 = .ok (.sipush 600, 3) := by decide +kernel
theorem dX8_init_17 : decode cX8_init 17 = .ok (.newarray .int, 2) := by decide +kernel
theorem dX8_init_19 : decode cX8_init 19 = .ok (.putfield 13, 3) := by decide +kernel
theorem dX8_init_22 : decode cX8_init 22 = .ok (.aload_n 0, 1) := by decide +kernel
theorem dX8_init_23 : decode cX8_init 23 = .ok (.bipush 37, 2) := by decide +kernel
theorem dX8_init_25 : decode cX8_init 25 = .ok (.newarray .int, 2) := by decide +kernel
theorem dX8_init_27 : decode cX8_init 27 = .ok (.putfield 16, 3) := by decide +kernel
theorem dX8_init_30 : decode cX8_init 30 = .ok (.aload_n 0, 1) := by decide +kernel
theorem dX8_init_31 : decode cX8_init 31 = .ok (.bipush 37, 2) := by decide +kernel
theorem dX8_init_33 : decode cX8_init 33 = .ok (.newarray .int, 2) := by decide +kernel
theorem dX8_init_35 : decode cX8_init 35 = .ok (.putfield 19, 3) := by decide +kernel
theorem dX8_init_38 : decode cX8_init 38 = .ok (.aload_n 0, 1) := by decide +kernel
theorem dX8_init_39 : decode cX8_init 39 = .ok (.sipush 518, 3) := by decide +kernel
theorem dX8_init_42 : decode cX8_init 42 = .ok (.newarray .int, 2) := by decide +kernel
theorem dX8_init_44 : decode cX8_init 44 = .ok (.putfield 22, 3) := by decide +kernel
theorem dX8_init_47 : decode cX8_init 47 = .ok (.aload_n 0, 1) := by decide +kernel
theorem dX8_init_48 : decode cX8_init 48 = .ok (.bipush 74, 2) := by decide +kernel
theorem dX8_init_50 : decode cX8_init 50 = .ok (.newarray .int, 2) := by decide +kernel
theorem dX8_init_52 : decode cX8_init 52 = .ok (.putfield 25, 3) := by decide +kernel
theorem dX8_init_55 : decode cX8_init 55 = .ok (.aload_n 0, 1) := by decide +kernel
theorem dX8_init_56 : decode cX8_init 56 = .ok (.iconst 2, 1) := by decide +kernel
theorem dX8_init_57 : decode cX8_init 57 = .ok (.newarray .boolean, 2) := by decide +kernel
theorem dX8_init_59 : decode cX8_init 59 = .ok (.putfield 28, 3) := by decide +kernel
theorem dX8_init_62 : decode cX8_init 62 = .ok (.aload_n 0, 1) := by decide +kernel
theorem dX8_init_63 : decode cX8_init 63 = .ok (.sipush 15300, 3) := by decide +kernel
theorem dX8_init_66 : decode cX8_init 66 = .ok (.newarray .boolean, 2) := by decide +kernel
theorem dX8_init_68 : decode cX8_init 68 = .ok (.putfield 32, 3) := by decide +kernel
theorem dX8_init_71 : decode cX8_init 71 = .ok (.aload_n 0, 1) := by decide +kernel
theorem dX8_init_72 : decode cX8_init 72 = .ok (.sipush 9150, 3) := by decide +kernel
theorem dX8_init_75 : decode cX8_init 75 = .ok (.newarray .boolean, 2) := by decide +kernel
theorem dX8_init_77 : decode cX8_init 77 = .ok (.putfield 35, 3) := by decide +kernel
theorem dX8_init_80 : decode cX8_init 80 = .ok (.aload_n 0, 1) := by decide +kernel
theorem dX8_init_81 : decode cX8_init 81 = .ok (.sipush 9150, 3) := by decide +kernel
theorem dX8_init_84 : decode cX8_init 84 = .ok (.newarray .boolean, 2) := by decide +kernel
theorem dX8_init_86 : decode cX8_init 86 = .ok (.putfield 38, 3) := by decide +kernel
theorem dX8_init_89 : decode cX8_init 89 = .ok (.aload_n 0, 1) := by decide +kernel
theorem dX8_init_90 : decode cX8_init 90 = .ok (.sipush 150, 3) := by decide +kernel
theorem dX8_init_93 : decode cX8_init 93 = .ok (.newarray .boolean, 2) := by decide +kernel
theorem dX8_init_95 : decode cX8_init 95 = .ok (.putfield 41, 3) := by decide +kernel
theorem dX8_init_98 : decode cX8_init 98 = .ok (.aload_n 0, 1) := by decide +kernel
theorem dX8_init_99 : decode cX8_init 99 = .ok (.sipush 150, 3) := by decide +kernel
theorem dX8_init_102 : decode cX8_init 102 = .ok (.newarray .boolean, 2) := by decide +kernel
theorem dX8_init_104 : decode cX8_init 104 = .ok (.putfield 44, 3) := by decide +kernel
theorem dX8_init_107 : decode cX8_init 107 = .ok (.aload_n 0, 1) := by decide +kernel
theorem dX8_init_108 : decode cX8_init 108 = .ok (.bipush 61, 2) := by decide +kernel
theorem dX8_init_110 : decode cX8_init 110 = .ok (.newarray .int, 2) := by decide +kernel
theorem dX8_init_112 : decode cX8_init 112 = .ok (.putfield 47, 3) := by decide +kernel
theorem dX8_init_115 : decode cX8_init 115 = .ok (.aload_n 0, 1) := by decide +kernel
theorem dX8_init_116 : decode cX8_init 116 = .ok (.iconst 4, 1) := by decide +kernel
theorem dX8_init_117 : decode cX8_init 117 = .ok (.newarray .int, 2) := by decide +kernel
theorem dX8_init_119 : decode cX8_init 119 = .ok (.putfield 50, 3) := by decide +kernel
theorem dX8_init_122 : decode cX8_init 122 = .ok (.iconst 0, 1) := by decide +kernel
theorem dX8_init_123 : decode cX8_init 123 = .ok (.istore_n 1, 1) := by decide +kernel
theorem dX8_init_124 : decode cX8_init 124 = .ok (.bipush (-5), 2) := by decide +kernel
theorem dX8_init_126 : decode cX8_init 126 = .ok (.istore_n 2, 1) := by decide +kernel
theorem dX8_init_127 : decode cX8_init 127 = .ok (.iload_n 2, 1) := by decide +kernel
theorem dX8_init_128 : decode cX8_init 128 = .ok (.iconst 5, 1) := by decide +kernel
theorem dX8_init_129 : decode cX8_init 129 = .ok (.if_icmp .gt 84, 3) := by decide +kernel
theorem dX8_init_132 : decode cX8_init 132 = .ok (.bipush (-5), 2) := by decide +kernel
theorem dX8_init_134 : decode cX8_init 134 = .ok (.istore_n 3, 1) := by decide +kernel
theorem dX8_init_135 : decode cX8_init 135 = .ok (.iload_n 3, 1) := by decide +kernel
theorem dX8_init_136 : decode cX8_init 136 = .ok (.iconst 5, 1) := by decide +kernel
theorem dX8_init_137 : decode cX8_init 137 = .ok (.if_icmp .gt 70, 3) := by decide +kernel
theorem dX8_init_140 : decode cX8_init 140 = .ok (.bipush (-5), 2) := by decide +kernel
theorem dX8_init_142 : decode cX8_init 142 = .ok (.istore 4, 2) := by decide +kernel
theorem dX8_init_144 : decode cX8_init 144 = .ok (.iload 4, 2) := by decide +kernel
theorem dX8_init_146 : decode cX8_init 146 = .ok (.iconst 5, 1) := by decide +kernel
theorem dX8_init_147 : decode cX8_init 147 = .ok (.if_icmp .gt 54, 3) := by decide +kernel
theorem dX8_init_150 : decode cX8_init 150 = .ok (.iload_n 2, 1) := by decide +kernel
theorem dX8_init_151 : decode cX8_init 151 = .ok (.iload_n 3, 1) := by decide +kernel
theorem dX8_init_152 : decode cX8_init 152 = .ok (.iload 4, 2) := by decide +kernel
theorem dX8_init_154 : decode cX8_init 154 = .ok (.invokestatic 53, 3) := by decide +kernel
theorem dX8_init_157 : decode cX8_init 157 = .ok (.ifCond .eq 38, 3) := by decide +kernel
theorem dX8_init_160 : decode cX8_init 160 = .ok (.aload_n 0, 1) := by decide +kernel
theorem dX8_init_161 : decode cX8_init 161 = .ok (.getfield 7, 3) := by decide +kernel
theorem dX8_init_164 : decode cX8_init 164 = .ok (.iconst 3, 1) := by decide +kernel
theorem dX8_init_165 : decode cX8_init 165 = .ok (.iload_n 1, 1) := by decide +kernel
theorem dX8_init_166 : decode cX8_init 166 = .ok (.imul, 1) := by decide +kernel
theorem dX8_init_167 : decode cX8_init 167 = .ok (.iload_n 2, 1) := by decide +kernel
theorem dX8_init_168 : decode cX8_init 168 = .ok (.iastore, 1) := by decide +kernel
theorem dX8_init_169 : decode cX8_init 169 = .ok (.aload_n 0, 1) := by decide +kernel
theorem dX8_init_170 : decode cX8_init 170 = .ok (.getfield 7, 3) := by decide +kernel
theorem dX8_init_173 : decode cX8_init 173 = .ok (.iconst 3, 1) := by decide +kernel
theorem dX8_init_174 : decode cX8_init 174 = .ok (.iload_n 1, 1) := by decide +kernel
theorem dX8_init_175 : decode cX8_init 175 = .ok (.imul, 1) := by decide +kernel
theorem dX8_init_176 : decode cX8_init 176 = .ok (.iconst 1, 1) := by decide +kernel
theorem dX8_init_177 : decode cX8_init 177 = .ok (.iadd, 1) := by decide +kernel
theorem dX8_init_178 : decode cX8_init 178 = .ok (.iload_n 3, 1) := by decide +kernel
theorem dX8_init_179 : decode cX8_init 179 = .ok (.iastore, 1) := by decide +kernel
theorem dX8_init_180 : decode cX8_init 180 = .ok (.aload_n 0, 1) := by decide +kernel
theorem dX8_init_181 : decode cX8_init 181 = .ok (.getfield 7, 3) := by decide +kernel
theorem dX8_init_184 : decode cX8_init 184 = .ok (.iconst 3, 1) := by decide +kernel
theorem dX8_init_185 : decode cX8_init 185 = .ok (.iload_n 1, 1) := by decide +kernel
theorem dX8_init_186 : decode cX8_init 186 = .ok (.imul, 1) := by decide +kernel
theorem dX8_init_187 : decode cX8_init 187 = .ok (.iconst 2, 1) := by decide +kernel
theorem dX8_init_188 : decode cX8_init 188 = .ok (.iadd, 1) := by decide +kernel
theorem dX8_init_189 : decode cX8_init 189 = .ok (.iload 4, 2) := by decide +kernel
theorem dX8_init_191 : decode cX8_init 191 = .ok (.iastore, 1) := by decide +kernel
theorem dX8_init_192 : decode cX8_init 192 = .ok (.iinc 1 1, 3) := by decide +kernel
theorem dX8_init_195 : decode cX8_init 195 = .ok (.iinc 4 1, 3) := by decide +kernel
theorem dX8_init_198 : decode cX8_init 198 = .ok (.goto (-54), 3) := by decide +kernel
theorem dX8_init_201 : decode cX8_init 201 = .ok (.iinc 3 1, 3) := by decide +kernel
theorem dX8_init_204 : decode cX8_init 204 = .ok (.goto (-69), 3) := by decide +kernel
theorem dX8_init_207 : decode cX8_init 207 = .ok (.iinc 2 1, 3) := by decide +kernel
theorem dX8_init_210 : decode cX8_init 210 = .ok (.goto (-83), 3) := by decide +kernel
theorem dX8_init_213 : decode cX8_init 213 = .ok (.iconst 0, 1) := by decide +kernel
theorem dX8_init_214 : decode cX8_init 214 = .ok (.istore_n 2, 1) := by decide +kernel
theorem dX8_init_215 : decode cX8_init 215 = .ok (.iload_n 2, 1) := by decide +kernel
theorem dX8_init_216 : decode cX8_init 216 = .ok (.sipush 150, 3) := by decide +kernel
theorem dX8_init_219 : decode cX8_init 219 = .ok (.if_icmp .ge 109, 3) := by decide +kernel
theorem dX8_init_222 : decode cX8_init 222 = .ok (.iconst 0, 1) := by decide +kernel
theorem dX8_init_223 : decode cX8_init 223 = .ok (.istore_n 3, 1) := by decide +kernel
theorem dX8_init_224 : decode cX8_init 224 = .ok (.iconst 0, 1) := by decide +kernel
theorem dX8_init_225 : decode cX8_init 225 = .ok (.istore 4, 2) := by decide +kernel
theorem dX8_init_227 : decode cX8_init 227 = .ok (.iload 4, 2) := by decide +kernel
theorem dX8_init_229 : decode cX8_init 229 = .ok (.sipush 150, 3) := by decide +kernel
theorem dX8_init_232 : decode cX8_init 232 = .ok (.if_icmp .ge 90, 3) := by decide +kernel
theorem dX8_init_235 : decode cX8_init 235 = .ok (.iconst 0, 1) := by decide +kernel
theorem dX8_init_236 : decode cX8_init 236 = .ok (.istore 5, 2) := by decide +kernel
theorem dX8_init_238 : decode cX8_init 238 = .ok (.iconst 0, 1) := by decide +kernel
theorem dX8_init_239 : decode cX8_init 239 = .ok (.istore 6, 2) := by decide +kernel
theorem dX8_init_241 : decode cX8_init 241 = .ok (.iload 6, 2) := by decide +kernel
theorem dX8_init_243 : decode cX8_init 243 = .ok (.iconst 3, 1) := by decide +kernel
theorem dX8_init_244 : decode cX8_init 244 = .ok (.if_icmp .ge 45, 3) := by decide +kernel
theorem dX8_init_247 : decode cX8_init 247 = .ok (.aload_n 0, 1) := by decide +kernel
theorem dX8_init_248 : decode cX8_init 248 = .ok (.getfield 7, 3) := by decide +kernel
theorem dX8_init_251 : decode cX8_init 251 = .ok (.iconst 3, 1) := by decide +kernel
theorem dX8_init_252 : decode cX8_init 252 = .ok (.iload_n 2, 1) := by decide +kernel
theorem dX8_init_253 : decode cX8_init 253 = .ok (.imul, 1) := by decide +kernel
theorem dX8_init_254 : decode cX8_init 254 = .ok (.iload 6, 2) := by decide +kernel
theorem dX8_init_256 : decode cX8_init 256 = .ok (.iadd, 1) := by decide +kernel
theorem dX8_init_257 : decode cX8_init 257 = .ok (.iaload, 1) := by decide +kernel
theorem dX8_init_258 : decode cX8_init 258 = .ok (.aload_n 0, 1) := by decide +kernel
theorem dX8_init_259 : decode cX8_init 259 = .ok (.getfield 7, 3) := by decide +kernel
theorem dX8_init_262 : decode cX8_init 262 = .ok (.iconst 3, 1) := by decide +kernel
theorem dX8_init_263 : decode cX8_init 263 = .ok (.iload 4, 2) := by decide +kernel
theorem dX8_init_265 : decode cX8_init 265 = .ok (.imul, 1) := by decide +kernel
theorem dX8_init_266 : decode cX8_init 266 = .ok (.iload 6, 2) := by decide +kernel
theorem dX8_init_268 : decode cX8_init 268 = .ok (.iadd, 1) := by decide +kernel
theorem dX8_init_269 : decode cX8_init 269 = .ok (.iaload, 1) := by decide +kernel
theorem dX8_init_270 : decode cX8_init 270 = .ok (.isub, 1) := by decide +kernel
theorem dX8_init_271 : decode cX8_init 271 = .ok (.istore 7, 2) := by decide +kernel
theorem dX8_init_273 : decode cX8_init 273 = .ok (.iload 5, 2) := by decide +kernel
theorem dX8_init_275 : decode cX8_init 275 = .ok (.iload 7, 2) := by decide +kernel
theorem dX8_init_277 : decode cX8_init 277 = .ok (.iload 7, 2) := by decide +kernel
theorem dX8_init_279 : decode cX8_init 279 = .ok (.imul, 1) := by decide +kernel
theorem dX8_init_280 : decode cX8_init 280 = .ok (.iadd, 1) := by decide +kernel
theorem dX8_init_281 : decode cX8_init 281 = .ok (.istore 5, 2) := by decide +kernel
theorem dX8_init_283 : decode cX8_init 283 = .ok (.iinc 6 1, 3) := by decide +kernel
theorem dX8_init_286 : decode cX8_init 286 = .ok (.goto (-45), 3) := by decide +kernel
theorem dX8_init_289 : decode cX8_init 289 = .ok (.iload 4, 2) := by decide +kernel
theorem dX8_init_291 : decode cX8_init 291 = .ok (.iload_n 2, 1) := by decide +kernel
theorem dX8_init_292 : decode cX8_init 292 = .ok (.if_icmp .eq 24, 3) := by decide +kernel
theorem dX8_init_295 : decode cX8_init 295 = .ok (.iload 5, 2) := by decide +kernel
theorem dX8_init_297 : decode cX8_init 297 = .ok (.iconst 4, 1) := by decide +kernel
theorem dX8_init_298 : decode cX8_init 298 = .ok (.if_icmp .gt 18, 3) := by decide +kernel
theorem dX8_init_301 : decode cX8_init 301 = .ok (.aload_n 0, 1) := by decide +kernel
theorem dX8_init_302 : decode cX8_init 302 = .ok (.getfield 13, 3) := by decide +kernel
theorem dX8_init_305 : decode cX8_init 305 = .ok (.iconst 4, 1) := by decide +kernel
theorem dX8_init_306 : decode cX8_init 306 = .ok (.iload_n 2, 1) := by decide +kernel
theorem dX8_init_307 : decode cX8_init 307 = .ok (.imul, 1) := by decide +kernel
theorem dX8_init_308 : decode cX8_init 308 = .ok (.iload_n 3, 1) := by decide +kernel
theorem dX8_init_309 : decode cX8_init 309 = .ok (.iadd, 1) := by decide +kernel
theorem dX8_init_310 : decode cX8_init 310 = .ok (.iload 4, 2) := by decide +kernel
theorem dX8_init_312 : decode cX8_init 312 = .ok (.iastore, 1) := by decide +kernel
theorem dX8_init_313 : decode cX8_init 313 = .ok (.iinc 3 1, 3) := by decide +kernel
theorem dX8_init_316 : decode cX8_init 316 = .ok (.iinc 4 1, 3) := by decide +kernel
theorem dX8_init_319 : decode cX8_init 319 = .ok (.goto (-92), 3) := by decide +kernel
theorem dX8_init_322 : decode cX8_init 322 = .ok (.iinc 2 1, 3) := by decide +kernel
theorem dX8_init_325 : decode cX8_init 325 = .ok (.goto (-110), 3) := by decide +kernel
theorem dX8_init_328 : decode cX8_init 328 = .ok (.iconst 0, 1) := by decide +kernel
theorem dX8_init_329 : decode cX8_init 329 = .ok (.istore_n 2, 1) := by decide +kernel
theorem dX8_init_330 : decode cX8_init 330 = .ok (.iload_n 2, 1) := by decide +kernel
theorem dX8_init_331 : decode cX8_init 331 = .ok (.iconst 3, 1) := by decide +kernel
theorem dX8_init_332 : decode cX8_init 332 = .ok (.if_icmp .ge 21, 3) := by decide +kernel
theorem dX8_init_335 : decode cX8_init 335 = .ok (.aload_n 0, 1) := by decide +kernel
theorem dX8_init_336 : decode cX8_init 336 = .ok (.getfield 16, 3) := by decide +kernel
theorem dX8_init_339 : decode cX8_init 339 = .ok (.bipush 7, 2) := by decide +kernel
theorem dX8_init_341 : decode cX8_init 341 = .ok (.iload_n 2, 1) := by decide +kernel
theorem dX8_init_342 : decode cX8_init 342 = .ok (.imul, 1) := by decide +kernel
theorem dX8_init_343 : decode cX8_init 343 = .ok (.iload_n 2, 1) := by decide +kernel
theorem dX8_init_344 : decode cX8_init 344 = .ok (.iadd, 1) := by decide +kernel
theorem dX8_init_345 : decode cX8_init 345 = .ok (.iconst 1, 1) := by decide +kernel
theorem dX8_init_346 : decode cX8_init 346 = .ok (.iastore, 1) := by decide +kernel
theorem dX8_init_347 : decode cX8_init 347 = .ok (.iinc 2 1, 3) := by decide +kernel
theorem dX8_init_350 : decode cX8_init 350 = .ok (.goto (-20), 3) := by decide +kernel
theorem dX8_init_353 : decode cX8_init 353 = .ok (.return_, 1) := by decide +kernel
theorem dX8_thrown_0 : decode cX8_thrown 0 = .ok (.aload_n 0, 1) := by decide +kernel
theorem dX8_thrown_1 : decode cX8_thrown 1 = .ok (.getfield 57, 3) := by decide +kernel
theorem dX8_thrown_4 : decode cX8_thrown 4 = .ok (.ireturn, 1) := by decide +kernel
theorem dX8_refused_0 : decode cX8_refused 0 = .ok (.aload_n 0, 1) := by decide +kernel
theorem dX8_refused_1 : decode cX8_refused 1 = .ok (.iload_n 1, 1) := by decide +kernel
theorem dX8_refused_2 : decode cX8_refused 2 = .ok (.putfield 57, 3) := by decide +kernel
theorem dX8_refused_5 : decode cX8_refused 5 = .ok (.iload_n 1, 1) := by decide +kernel
theorem dX8_refused_6 : decode cX8_refused 6 = .ok (.ifCond .le 7, 3) := by decide +kernel
theorem dX8_refused_9 : decode cX8_refused 9 = .ok (.iconst 1, 1) := by decide +kernel
theorem dX8_refused_10 : decode cX8_refused 10 = .ok (.goto 4, 3) := by decide +kernel
theorem dX8_refused_13 : decode cX8_refused 13 = .ok (.iconst 0, 1) := by decide +kernel
theorem dX8_refused_14 : decode cX8_refused 14 = .ok (.ireturn, 1) := by decide +kernel
theorem dX8_in_0 : decode cX8_in 0 = .ok (.lload_n 0, 1) := by decide +kernel
theorem dX8_in_1 : decode cX8_in 1 = .ok (.lload_n 2, 1) := by decide +kernel
theorem dX8_in_2 : decode cX8_in 2 = .ok (.lcmp, 1) := by decide +kernel
theorem dX8_in_3 : decode cX8_in 3 = .ok (.ifCond .lt 14, 3) := by decide +kernel
theorem dX8_in_6 : decode cX8_in 6 = .ok (.lload_n 0, 1) := by decide +kernel
theorem dX8_in_7 : decode cX8_in 7 = .ok (.lload 4, 2) := by decide +kernel
theorem dX8_in_9 : decode cX8_in 9 = .ok (.lcmp, 1) := by decide +kernel
theorem dX8_in_10 : decode cX8_in 10 = .ok (.ifCond .gt 7, 3) := by decide +kernel
theorem dX8_in_13 : decode cX8_in 13 = .ok (.iconst 1, 1) := by decide +kernel
theorem dX8_in_14 : decode cX8_in 14 = .ok (.goto 4, 3) := by decide +kernel
theorem dX8_in_17 : decode cX8_in 17 = .ok (.iconst 0, 1) := by decide +kernel
theorem dX8_in_18 : decode cX8_in 18 = .ok (.ireturn, 1) := by decide +kernel
theorem dX8_isFace_0 : decode cX8_isFace 0 = .ok (.iload_n 0, 1) := by decide +kernel
theorem dX8_isFace_1 : decode cX8_isFace 1 = .ok (.iconst 5, 1) := by decide +kernel
theorem dX8_isFace_2 : decode cX8_isFace 2 = .ok (.if_icmp .eq 9, 3) := by decide +kernel
theorem dX8_isFace_5 : decode cX8_isFace 5 = .ok (.iload_n 0, 1) := by decide +kernel
theorem dX8_isFace_6 : decode cX8_isFace 6 = .ok (.bipush (-5), 2) := by decide +kernel
theorem dX8_isFace_8 : decode cX8_isFace 8 = .ok (.if_icmp .ne 7, 3) := by decide +kernel
theorem dX8_isFace_11 : decode cX8_isFace 11 = .ok (.iconst 1, 1) := by decide +kernel
theorem dX8_isFace_12 : decode cX8_isFace 12 = .ok (.goto 4, 3) := by decide +kernel
theorem dX8_isFace_15 : decode cX8_isFace 15 = .ok (.iconst 0, 1) := by decide +kernel
theorem dX8_isFace_16 : decode cX8_isFace 16 = .ok (.ireturn, 1) := by decide +kernel
def bs_X8_isEven : List (List Cond) := [[.code yX8_isEven cX8_isEven 1 (some .boolean)], [.constantLong RX8 61 (-4), .constantLong RX8 63 (4), .methodLink RX8 65 yX8_in, .static yX8_in, .initialized RX8, .code yX8_in cX8_in 6 (some .boolean)]]
theorem bi_X8_isEven : ∀ w ∈ bs_X8_isEven.flatten, w ∈ wsX8_isEven := by
  have h : bs_X8_isEven.flatten = wsX8_isEven := by simp only [bs_X8_isEven, wsX8_isEven, List.flatten_cons, List.flatten_nil, List.append_assoc, List.append_nil, List.nil_append, List.cons_append]
  intro w hw; rw [h] at hw; exact hw
set_option maxRecDepth 20000 in
theorem ggX8_isEven_X8_in : GoodIn wsX8_isEven wsX8_in := goodIn_bb bs_X8_isEven bi_X8_isEven _ [(1, 5)] rfl (by decide +kernel)
set_option maxRecDepth 20000 in
theorem gX8_isEven_X8_in : GoodIn wsX8_isEven (va_wsS RX8 65 yX8_in wsX8_in) := goodIn_app (goodIn_bb bs_X8_isEven bi_X8_isEven _ [(1, 2), (1, 3), (1, 4)] rfl (by decide +kernel)) ggX8_isEven_X8_in
theorem dX8_isEven_0 : decode cX8_isEven 0 = .ok (.iload_n 0, 1) := by decide +kernel
theorem dX8_isEven_1 : decode cX8_isEven 1 = .ok (.i2l, 1) := by decide +kernel
theorem dX8_isEven_2 : decode cX8_isEven 2 = .ok (.ldc2_w 61, 3) := by decide +kernel
theorem dX8_isEven_5 : decode cX8_isEven 5 = .ok (.ldc2_w 63, 3) := by decide +kernel
theorem dX8_isEven_8 : decode cX8_isEven 8 = .ok (.invokestatic 65, 3) := by decide +kernel
theorem dX8_isEven_11 : decode cX8_isEven 11 = .ok (.ifCond .eq 13, 3) := by decide +kernel
theorem dX8_isEven_14 : decode cX8_isEven 14 = .ok (.iload_n 0, 1) := by decide +kernel
theorem dX8_isEven_15 : decode cX8_isEven 15 = .ok (.iconst 2, 1) := by decide +kernel
theorem dX8_isEven_16 : decode cX8_isEven 16 = .ok (.irem, 1) := by decide +kernel
theorem dX8_isEven_17 : decode cX8_isEven 17 = .ok (.ifCond .ne 7, 3) := by decide +kernel
theorem dX8_isEven_20 : decode cX8_isEven 20 = .ok (.iconst 1, 1) := by decide +kernel
theorem dX8_isEven_21 : decode cX8_isEven 21 = .ok (.goto 4, 3) := by decide +kernel
theorem dX8_isEven_24 : decode cX8_isEven 24 = .ok (.iconst 0, 1) := by decide +kernel
theorem dX8_isEven_25 : decode cX8_isEven 25 = .ok (.ireturn, 1) := by decide +kernel
def bs_X8_isCellVector : List (List Cond) := [[.code yX8_isCellVector cX8_isCellVector 3 (some .boolean)], [.methodLink RX8 69 yX8_isFace, .static yX8_isFace, .initialized RX8, .code yX8_isFace cX8_isFace 1 (some .boolean), .methodLink RX8 73 yX8_isEven, .static yX8_isEven, .code yX8_isEven cX8_isEven 1 (some .boolean), .constantLong RX8 61 (-4), .constantLong RX8 63 (4), .methodLink RX8 65 yX8_in, .static yX8_in, .code yX8_in cX8_in 6 (some .boolean)]]
theorem bi_X8_isCellVector : ∀ w ∈ bs_X8_isCellVector.flatten, w ∈ wsX8_isCellVector := by
  have h : bs_X8_isCellVector.flatten = wsX8_isCellVector := by simp only [bs_X8_isCellVector, wsX8_isCellVector, List.flatten_cons, List.flatten_nil, List.append_assoc, List.append_nil, List.nil_append, List.cons_append]
  intro w hw; rw [h] at hw; exact hw
set_option maxRecDepth 20000 in
theorem ggX8_isCellVector_X8_isFace : GoodIn wsX8_isCellVector wsX8_isFace := goodIn_bb bs_X8_isCellVector bi_X8_isCellVector _ [(1, 3)] rfl (by decide +kernel)
set_option maxRecDepth 20000 in
theorem gX8_isCellVector_X8_isFace : GoodIn wsX8_isCellVector (va_wsS RX8 69 yX8_isFace wsX8_isFace) := goodIn_app (goodIn_bb bs_X8_isCellVector bi_X8_isCellVector _ [(1, 0), (1, 1), (1, 2)] rfl (by decide +kernel)) ggX8_isCellVector_X8_isFace
set_option maxRecDepth 20000 in
theorem ggX8_isCellVector_X8_isEven : GoodIn wsX8_isCellVector wsX8_isEven := goodIn_bb bs_X8_isCellVector bi_X8_isCellVector _ [(1, 6), (1, 7), (1, 8), (1, 9), (1, 10), (1, 2), (1, 11)] rfl (by decide +kernel)
set_option maxRecDepth 20000 in
theorem gX8_isCellVector_X8_isEven : GoodIn wsX8_isCellVector (va_wsS RX8 73 yX8_isEven wsX8_isEven) := goodIn_app (goodIn_bb bs_X8_isCellVector bi_X8_isCellVector _ [(1, 4), (1, 5), (1, 2)] rfl (by decide +kernel)) ggX8_isCellVector_X8_isEven
theorem dX8_isCellVector_0 : decode cX8_isCellVector 0 = .ok (.iload_n 0, 1) := by decide +kernel
theorem dX8_isCellVector_1 : decode cX8_isCellVector 1 = .ok (.invokestatic 69, 3) := by decide +kernel
theorem dX8_isCellVector_4 : decode cX8_isCellVector 4 = .ok (.ifCond .eq 17, 3) := by decide +kernel
theorem dX8_isCellVector_7 : decode cX8_isCellVector 7 = .ok (.iload_n 1, 1) := by decide +kernel
theorem dX8_isCellVector_8 : decode cX8_isCellVector 8 = .ok (.invokestatic 73, 3) := by decide +kernel
theorem dX8_isCellVector_11 : decode cX8_isCellVector 11 = .ok (.ifCond .eq 10, 3) := by decide +kernel
theorem dX8_isCellVector_14 : decode cX8_isCellVector 14 = .ok (.iload_n 2, 1) := by decide +kernel
theorem dX8_isCellVector_15 : decode cX8_isCellVector 15 = .ok (.invokestatic 73, 3) := by decide +kernel
theorem dX8_isCellVector_18 : decode cX8_isCellVector 18 = .ok (.ifCond .ne 45, 3) := by decide +kernel
theorem dX8_isCellVector_21 : decode cX8_isCellVector 21 = .ok (.iload_n 0, 1) := by decide +kernel
theorem dX8_isCellVector_22 : decode cX8_isCellVector 22 = .ok (.invokestatic 73, 3) := by decide +kernel
theorem dX8_isCellVector_25 : decode cX8_isCellVector 25 = .ok (.ifCond .eq 17, 3) := by decide +kernel
theorem dX8_isCellVector_28 : decode cX8_isCellVector 28 = .ok (.iload_n 1, 1) := by decide +kernel
theorem dX8_isCellVector_29 : decode cX8_isCellVector 29 = .ok (.invokestatic 69, 3) := by decide +kernel
theorem dX8_isCellVector_32 : decode cX8_isCellVector 32 = .ok (.ifCond .eq 10, 3) := by decide +kernel
theorem dX8_isCellVector_35 : decode cX8_isCellVector 35 = .ok (.iload_n 2, 1) := by decide +kernel
theorem dX8_isCellVector_36 : decode cX8_isCellVector 36 = .ok (.invokestatic 73, 3) := by decide +kernel
theorem dX8_isCellVector_39 : decode cX8_isCellVector 39 = .ok (.ifCond .ne 24, 3) := by decide +kernel
theorem dX8_isCellVector_42 : decode cX8_isCellVector 42 = .ok (.iload_n 0, 1) := by decide +kernel
theorem dX8_isCellVector_43 : decode cX8_isCellVector 43 = .ok (.invokestatic 73, 3) := by decide +kernel
theorem dX8_isCellVector_46 : decode cX8_isCellVector 46 = .ok (.ifCond .eq 21, 3) := by decide +kernel
theorem dX8_isCellVector_49 : decode cX8_isCellVector 49 = .ok (.iload_n 1, 1) := by decide +kernel
theorem dX8_isCellVector_50 : decode cX8_isCellVector 50 = .ok (.invokestatic 73, 3) := by decide +kernel
theorem dX8_isCellVector_53 : decode cX8_isCellVector 53 = .ok (.ifCond .eq 14, 3) := by decide +kernel
theorem dX8_isCellVector_56 : decode cX8_isCellVector 56 = .ok (.iload_n 2, 1) := by decide +kernel
theorem dX8_isCellVector_57 : decode cX8_isCellVector 57 = .ok (.invokestatic 69, 3) := by decide +kernel
theorem dX8_isCellVector_60 : decode cX8_isCellVector 60 = .ok (.ifCond .eq 7, 3) := by decide +kernel
theorem dX8_isCellVector_63 : decode cX8_isCellVector 63 = .ok (.iconst 1, 1) := by decide +kernel
theorem dX8_isCellVector_64 : decode cX8_isCellVector 64 = .ok (.goto 4, 3) := by decide +kernel
theorem dX8_isCellVector_67 : decode cX8_isCellVector 67 = .ok (.iconst 0, 1) := by decide +kernel
theorem dX8_isCellVector_68 : decode cX8_isCellVector 68 = .ok (.ireturn, 1) := by decide +kernel
def bs_X8_isCell : List (List Cond) := [[.code yX8_isCell cX8_isCell 1 (some .boolean)], [.constantLong RX8 76 (149), .methodLink RX8 65 yX8_in, .static yX8_in, .initialized RX8, .code yX8_in cX8_in 6 (some .boolean)]]
theorem bi_X8_isCell : ∀ w ∈ bs_X8_isCell.flatten, w ∈ wsX8_isCell := by
  have h : bs_X8_isCell.flatten = wsX8_isCell := by simp only [bs_X8_isCell, wsX8_isCell, List.flatten_cons, List.flatten_nil, List.append_assoc, List.append_nil, List.nil_append, List.cons_append]
  intro w hw; rw [h] at hw; exact hw
set_option maxRecDepth 20000 in
theorem ggX8_isCell_X8_in : GoodIn wsX8_isCell wsX8_in := goodIn_bb bs_X8_isCell bi_X8_isCell _ [(1, 4)] rfl (by decide +kernel)
set_option maxRecDepth 20000 in
theorem gX8_isCell_X8_in : GoodIn wsX8_isCell (va_wsS RX8 65 yX8_in wsX8_in) := goodIn_app (goodIn_bb bs_X8_isCell bi_X8_isCell _ [(1, 1), (1, 2), (1, 3)] rfl (by decide +kernel)) ggX8_isCell_X8_in
theorem dX8_isCell_0 : decode cX8_isCell 0 = .ok (.iload_n 0, 1) := by decide +kernel
theorem dX8_isCell_1 : decode cX8_isCell 1 = .ok (.i2l, 1) := by decide +kernel
theorem dX8_isCell_2 : decode cX8_isCell 2 = .ok (.lconst 0, 1) := by decide +kernel
theorem dX8_isCell_3 : decode cX8_isCell 3 = .ok (.ldc2_w 76, 3) := by decide +kernel
theorem dX8_isCell_6 : decode cX8_isCell 6 = .ok (.invokestatic 65, 3) := by decide +kernel
theorem dX8_isCell_9 : decode cX8_isCell 9 = .ok (.ireturn, 1) := by decide +kernel
def bs_X8_isThird : List (List Cond) := [[.code yX8_isThird cX8_isThird 1 (some .boolean)], [.constantLong RX8 78 (2), .methodLink RX8 65 yX8_in, .static yX8_in, .initialized RX8, .code yX8_in cX8_in 6 (some .boolean)]]
theorem bi_X8_isThird : ∀ w ∈ bs_X8_isThird.flatten, w ∈ wsX8_isThird := by
  have h : bs_X8_isThird.flatten = wsX8_isThird := by simp only [bs_X8_isThird, wsX8_isThird, List.flatten_cons, List.flatten_nil, List.append_assoc, List.append_nil, List.nil_append, List.cons_append]
  intro w hw; rw [h] at hw; exact hw
set_option maxRecDepth 20000 in
theorem ggX8_isThird_X8_in : GoodIn wsX8_isThird wsX8_in := goodIn_bb bs_X8_isThird bi_X8_isThird _ [(1, 4)] rfl (by decide +kernel)
set_option maxRecDepth 20000 in
theorem gX8_isThird_X8_in : GoodIn wsX8_isThird (va_wsS RX8 65 yX8_in wsX8_in) := goodIn_app (goodIn_bb bs_X8_isThird bi_X8_isThird _ [(1, 1), (1, 2), (1, 3)] rfl (by decide +kernel)) ggX8_isThird_X8_in
theorem dX8_isThird_0 : decode cX8_isThird 0 = .ok (.iload_n 0, 1) := by decide +kernel
theorem dX8_isThird_1 : decode cX8_isThird 1 = .ok (.i2l, 1) := by decide +kernel
theorem dX8_isThird_2 : decode cX8_isThird 2 = .ok (.lconst 0, 1) := by decide +kernel
theorem dX8_isThird_3 : decode cX8_isThird 3 = .ok (.ldc2_w 78, 3) := by decide +kernel
theorem dX8_isThird_6 : decode cX8_isThird 6 = .ok (.invokestatic 65, 3) := by decide +kernel
theorem dX8_isThird_9 : decode cX8_isThird 9 = .ok (.ireturn, 1) := by decide +kernel
def bs_X8_isTime : List (List Cond) := [[.code yX8_isTime cX8_isTime 1 (some .boolean)], [.constantLong RX8 80 (300), .methodLink RX8 65 yX8_in, .static yX8_in, .initialized RX8, .code yX8_in cX8_in 6 (some .boolean)]]
theorem bi_X8_isTime : ∀ w ∈ bs_X8_isTime.flatten, w ∈ wsX8_isTime := by
  have h : bs_X8_isTime.flatten = wsX8_isTime := by simp only [bs_X8_isTime, wsX8_isTime, List.flatten_cons, List.flatten_nil, List.append_assoc, List.append_nil, List.nil_append, List.cons_append]
  intro w hw; rw [h] at hw; exact hw
set_option maxRecDepth 20000 in
theorem ggX8_isTime_X8_in : GoodIn wsX8_isTime wsX8_in := goodIn_bb bs_X8_isTime bi_X8_isTime _ [(1, 4)] rfl (by decide +kernel)
set_option maxRecDepth 20000 in
theorem gX8_isTime_X8_in : GoodIn wsX8_isTime (va_wsS RX8 65 yX8_in wsX8_in) := goodIn_app (goodIn_bb bs_X8_isTime bi_X8_isTime _ [(1, 1), (1, 2), (1, 3)] rfl (by decide +kernel)) ggX8_isTime_X8_in
theorem dX8_isTime_0 : decode cX8_isTime 0 = .ok (.iload_n 0, 1) := by decide +kernel
theorem dX8_isTime_1 : decode cX8_isTime 1 = .ok (.i2l, 1) := by decide +kernel
theorem dX8_isTime_2 : decode cX8_isTime 2 = .ok (.lconst 0, 1) := by decide +kernel
theorem dX8_isTime_3 : decode cX8_isTime 3 = .ok (.ldc2_w 80, 3) := by decide +kernel
theorem dX8_isTime_6 : decode cX8_isTime 6 = .ok (.invokestatic 65, 3) := by decide +kernel
theorem dX8_isTime_9 : decode cX8_isTime 9 = .ok (.ireturn, 1) := by decide +kernel
theorem dX8_copy_0 : decode cX8_copy 0 = .ok (.iconst 0, 1) := by decide +kernel
theorem dX8_copy_1 : decode cX8_copy 1 = .ok (.istore_n 2, 1) := by decide +kernel
theorem dX8_copy_2 : decode cX8_copy 2 = .ok (.iload_n 2, 1) := by decide +kernel
theorem dX8_copy_3 : decode cX8_copy 3 = .ok (.bipush 37, 2) := by decide +kernel
theorem dX8_copy_5 : decode cX8_copy 5 = .ok (.if_icmp .ge 15, 3) := by decide +kernel
theorem dX8_copy_8 : decode cX8_copy 8 = .ok (.aload_n 1, 1) := by decide +kernel
theorem dX8_copy_9 : decode cX8_copy 9 = .ok (.iload_n 2, 1) := by decide +kernel
theorem dX8_copy_10 : decode cX8_copy 10 = .ok (.aload_n 0, 1) := by decide +kernel
theorem dX8_copy_11 : decode cX8_copy 11 = .ok (.iload_n 2, 1) := by decide +kernel
theorem dX8_copy_12 : decode cX8_copy 12 = .ok (.iaload, 1) := by decide +kernel
theorem dX8_copy_13 : decode cX8_copy 13 = .ok (.iastore, 1) := by decide +kernel
theorem dX8_copy_14 : decode cX8_copy 14 = .ok (.iinc 2 1, 3) := by decide +kernel
theorem dX8_copy_17 : decode cX8_copy 17 = .ok (.goto (-15), 3) := by decide +kernel
theorem dX8_copy_20 : decode cX8_copy 20 = .ok (.return_, 1) := by decide +kernel
def bs_X8_coordinate : List (List Cond) := [[.code yX8_coordinate cX8_coordinate 3 (some .int)], [.fieldLink RX8 7 "SlewPlannerModel" "vector" "[I", .methodLink RX8 82 yX8_isCell, .static yX8_isCell, .initialized RX8, .code yX8_isCell cX8_isCell 1 (some .boolean), .constantLong RX8 76 (149), .methodLink RX8 65 yX8_in, .static yX8_in, .code yX8_in cX8_in 6 (some .boolean), .methodLink RX8 85 yX8_isThird, .static yX8_isThird, .code yX8_isThird cX8_isThird 1 (some .boolean), .constantLong RX8 78 (2), .methodLink RX8 88 yX8_refused, .instanceMethod yX8_refused, .selects RX8 yX8_refused yX8_refused, .code yX8_refused cX8_refused 2 (some .boolean), .fieldLink RX8 57 "SlewPlannerModel" "refusal" "I"], wsX80]
theorem bi_X8_coordinate : ∀ w ∈ bs_X8_coordinate.flatten, w ∈ wsX8_coordinate := by
  have h : bs_X8_coordinate.flatten = wsX8_coordinate := by simp only [bs_X8_coordinate, wsX8_coordinate, List.flatten_cons, List.flatten_nil, List.append_assoc, List.append_nil, List.nil_append, List.cons_append]
  intro w hw; rw [h] at hw; exact hw
set_option maxRecDepth 20000 in
theorem ggX8_coordinate_X8_isCell : GoodIn wsX8_coordinate wsX8_isCell := goodIn_bb bs_X8_coordinate bi_X8_coordinate _ [(1, 4), (1, 5), (1, 6), (1, 7), (1, 3), (1, 8)] rfl (by decide +kernel)
set_option maxRecDepth 20000 in
theorem gX8_coordinate_X8_isCell : GoodIn wsX8_coordinate (va_wsS RX8 82 yX8_isCell wsX8_isCell) := goodIn_app (goodIn_bb bs_X8_coordinate bi_X8_coordinate _ [(1, 1), (1, 2), (1, 3)] rfl (by decide +kernel)) ggX8_coordinate_X8_isCell
set_option maxRecDepth 20000 in
theorem ggX8_coordinate_X8_isThird : GoodIn wsX8_coordinate wsX8_isThird := goodIn_bb bs_X8_coordinate bi_X8_coordinate _ [(1, 11), (1, 12), (1, 6), (1, 7), (1, 3), (1, 8)] rfl (by decide +kernel)
set_option maxRecDepth 20000 in
theorem gX8_coordinate_X8_isThird : GoodIn wsX8_coordinate (va_wsS RX8 85 yX8_isThird wsX8_isThird) := goodIn_app (goodIn_bb bs_X8_coordinate bi_X8_coordinate _ [(1, 9), (1, 10), (1, 3)] rfl (by decide +kernel)) ggX8_coordinate_X8_isThird
set_option maxRecDepth 20000 in
theorem ggX8_coordinate_X8_refused : GoodIn wsX8_coordinate wsX8_refused := goodIn_bb bs_X8_coordinate bi_X8_coordinate _ [(1, 16), (1, 17), (2, 0), (2, 1), (2, 2), (2, 3), (2, 4), (2, 5), (2, 6), (2, 7), (2, 8), (2, 9), (2, 10), (2, 11), (2, 12), (2, 13), (2, 14), (2, 15), (2, 16), (2, 17), (2, 18)] rfl (by decide +kernel)
set_option maxRecDepth 20000 in
theorem gX8_coordinate_X8_refused : GoodIn wsX8_coordinate (wsV RX8 88 RX8 yX8_refused wsX8_refused) := goodIn_app (goodIn_bb bs_X8_coordinate bi_X8_coordinate _ [(1, 13), (1, 14), (1, 15), (1, 3)] rfl (by decide +kernel)) ggX8_coordinate_X8_refused
theorem dX8_coordinate_0 : decode cX8_coordinate 0 = .ok (.aload_n 0, 1) := by decide +kernel
theorem dX8_coordinate_1 : decode cX8_coordinate 1 = .ok (.iload_n 1, 1) := by decide +kernel
theorem dX8_coordinate_2 : decode cX8_coordinate 2 = .ok (.invokestatic 82, 3) := by decide +kernel
theorem dX8_coordinate_5 : decode cX8_coordinate 5 = .ok (.ifCond .eq 14, 3) := by decide +kernel
theorem dX8_coordinate_8 : decode cX8_coordinate 8 = .ok (.iload_n 2, 1) := by decide +kernel
theorem dX8_coordinate_9 : decode cX8_coordinate 9 = .ok (.invokestatic 85, 3) := by decide +kernel
theorem dX8_coordinate_12 : decode cX8_coordinate 12 = .ok (.ifCond .eq 7, 3) := by decide +kernel
theorem dX8_coordinate_15 : decode cX8_coordinate 15 = .ok (.iconst 0, 1) := by decide +kernel
theorem dX8_coordinate_16 : decode cX8_coordinate 16 = .ok (.goto 4, 3) := by decide +kernel
theorem dX8_coordinate_19 : decode cX8_coordinate 19 = .ok (.iconst 1, 1) := by decide +kernel
theorem dX8_coordinate_20 : decode cX8_coordinate 20 = .ok (.invokevirtual 88, 3) := by decide +kernel
theorem dX8_coordinate_23 : decode cX8_coordinate 23 = .ok (.ifCond .eq 5, 3) := by decide +kernel
theorem dX8_coordinate_26 : decode cX8_coordinate 26 = .ok (.iconst 0, 1) := by decide +kernel
theorem dX8_coordinate_27 : decode cX8_coordinate 27 = .ok (.ireturn, 1) := by decide +kernel
theorem dX8_coordinate_28 : decode cX8_coordinate 28 = .ok (.aload_n 0, 1) := by decide +kernel
theorem dX8_coordinate_29 : decode cX8_coordinate 29 = .ok (.getfield 7, 3) := by decide +kernel
theorem dX8_coordinate_32 : decode cX8_coordinate 32 = .ok (.iconst 3, 1) := by decide +kernel
theorem dX8_coordinate_33 : decode cX8_coordinate 33 = .ok (.iload_n 1, 1) := by decide +kernel
theorem dX8_coordinate_34 : decode cX8_coordinate 34 = .ok (.imul, 1) := by decide +kernel
theorem dX8_coordinate_35 : decode cX8_coordinate 35 = .ok (.iload_n 2, 1) := by decide +kernel
theorem dX8_coordinate_36 : decode cX8_coordinate 36 = .ok (.iadd, 1) := by decide +kernel
theorem dX8_coordinate_37 : decode cX8_coordinate 37 = .ok (.iaload, 1) := by decide +kernel
theorem dX8_coordinate_38 : decode cX8_coordinate 38 = .ok (.ireturn, 1) := by decide +kernel
theorem dX8_cellOf_0 : decode cX8_cellOf 0 = .ok (.aload_n 0, 1) := by decide +kernel
theorem dX8_cellOf_1 : decode cX8_cellOf 1 = .ok (.iconst 0, 1) := by decide +kernel
theorem dX8_cellOf_2 : decode cX8_cellOf 2 = .ok (.putfield 57, 3) := by decide +kernel
theorem dX8_cellOf_5 : decode cX8_cellOf 5 = .ok (.iconst 0, 1) := by decide +kernel
theorem dX8_cellOf_6 : decode cX8_cellOf 6 = .ok (.istore 4, 2) := by decide +kernel
theorem dX8_cellOf_8 : decode cX8_cellOf 8 = .ok (.iload 4, 2) := by decide +kernel
theorem dX8_cellOf_10 : decode cX8_cellOf 10 = .ok (.sipush 150, 3) := by decide +kernel
theorem dX8_cellOf_13 : decode cX8_cellOf 13 = .ok (.if_icmp .ge 55, 3) := by decide +kernel
theorem dX8_cellOf_16 : decode cX8_cellOf 16 = .ok (.aload_n 0, 1) := by decide +kernel
theorem dX8_cellOf_17 : decode cX8_cellOf 17 = .ok (.getfield 7, 3) := by decide +kernel
theorem dX8_cellOf_20 : decode cX8_cellOf 20 = .ok (.iconst 3, 1) := by decide +kernel
theorem dX8_cellOf_21 : decode cX8_cellOf 21 = .ok (.iload 4, 2) := by decide +kernel
theorem dX8_cellOf_23 : decode cX8_cellOf 23 = .ok (.imul, 1) := by decide +kernel
theorem dX8_cellOf_24 : decode cX8_cellOf 24 = .ok (.iaload, 1) := by decide +kernel
theorem dX8_cellOf_25 : decode cX8_cellOf 25 = .ok (.iload_n 1, 1) := by decide +kernel
theorem dX8_cellOf_26 : decode cX8_cellOf 26 = .ok (.if_icmp .ne 36, 3) := by decide +kernel
theorem dX8_cellOf_29 : decode cX8_cellOf 29 = .ok (.aload_n 0, 1) := by decide +kernel
theorem dX8_cellOf_30 : decode cX8_cellOf 30 = .ok (.getfield 7, 3) := by decide +kernel
theorem dX8_cellOf_33 : decode cX8_cellOf 33 = .ok (.iconst 3, 1) := by decide +kernel
theorem dX8_cellOf_34 : decode cX8_cellOf 34 = .ok (.iload 4, 2) := by decide +kernel
theorem dX8_cellOf_36 : decode cX8_cellOf 36 = .ok (.imul, 1) := by decide +kernel
theorem dX8_cellOf_37 : decode cX8_cellOf 37 = .ok (.iconst 1, 1) := by decide +kernel
theorem dX8_cellOf_38 : decode cX8_cellOf 38 = .ok (.iadd, 1) := by decide +kernel
theorem dX8_cellOf_39 : decode cX8_cellOf 39 = .ok (.iaload, 1) := by decide +kernel
theorem dX8_cellOf_40 : decode cX8_cellOf 40 = .ok (.iload_n 2, 1) := by decide +kernel
theorem dX8_cellOf_41 : decode cX8_cellOf 41 = .ok (.if_icmp .ne 21, 3) := by decide +kernel
theorem dX8_cellOf_44 : decode cX8_cellOf 44 = .ok (.aload_n 0, 1) := by decide +kernel
theorem dX8_cellOf_45 : decode cX8_cellOf 45 = .ok (.getfield 7, 3) := by decide +kernel
theorem dX8_cellOf_48 : decode cX8_cellOf 48 = .ok (.iconst 3, 1) := by decide +kernel
theorem dX8_cellOf_49 : decode cX8_cellOf 49 = .ok (.iload 4, 2) := by decide +kernel
theorem dX8_cellOf_51 : decode cX8_cellOf 51 = .ok (.imul, 1) := by decide +kernel
theorem dX8_cellOf_52 : decode cX8_cellOf 52 = .ok (.iconst 2, 1) := by decide +kernel
theorem dX8_cellOf_53 : decode cX8_cellOf 53 = .ok (.iadd, 1) := by decide +kernel
theorem dX8_cellOf_54 : decode cX8_cellOf 54 = .ok (.iaload, 1) := by decide +kernel
theorem dX8_cellOf_55 : decode cX8_cellOf 55 = .ok (.iload_n 3, 1) := by decide +kernel
theorem dX8_cellOf_56 : decode cX8_cellOf 56 = .ok (.if_icmp .ne 6, 3) := by decide +kernel
theorem dX8_cellOf_59 : decode cX8_cellOf 59 = .ok (.iload 4, 2) := by decide +kernel
theorem dX8_cellOf_61 : decode cX8_cellOf 61 = .ok (.ireturn, 1) := by decide +kernel
theorem dX8_cellOf_62 : decode cX8_cellOf 62 = .ok (.iinc 4 1, 3) := by decide +kernel
theorem dX8_cellOf_65 : decode cX8_cellOf 65 = .ok (.goto (-57), 3) := by decide +kernel
theorem dX8_cellOf_68 : decode cX8_cellOf 68 = .ok (.bipush (-9), 2) := by decide +kernel
theorem dX8_cellOf_70 : decode cX8_cellOf 70 = .ok (.ireturn, 1) := by decide +kernel
def bs_X8_neighbour : List (List Cond) := [[.code yX8_neighbour cX8_neighbour 3 (some .int)], [.constantLong RX8 91 (3), .fieldLink RX8 13 "SlewPlannerModel" "near" "[I", .methodLink RX8 82 yX8_isCell, .static yX8_isCell, .initialized RX8, .code yX8_isCell cX8_isCell 1 (some .boolean), .constantLong RX8 76 (149), .methodLink RX8 65 yX8_in, .static yX8_in, .code yX8_in cX8_in 6 (some .boolean), .methodLink RX8 88 yX8_refused, .instanceMethod yX8_refused, .selects RX8 yX8_refused yX8_refused, .code yX8_refused cX8_refused 2 (some .boolean), .fieldLink RX8 57 "SlewPlannerModel" "refusal" "I"], wsX80]
theorem bi_X8_neighbour : ∀ w ∈ bs_X8_neighbour.flatten, w ∈ wsX8_neighbour := by
  have h : bs_X8_neighbour.flatten = wsX8_neighbour := by simp only [bs_X8_neighbour, wsX8_neighbour, List.flatten_cons, List.flatten_nil, List.append_assoc, List.append_nil, List.nil_append, List.cons_append]
  intro w hw; rw [h] at hw; exact hw
set_option maxRecDepth 20000 in
theorem ggX8_neighbour_X8_isCell : GoodIn wsX8_neighbour wsX8_isCell := goodIn_bb bs_X8_neighbour bi_X8_neighbour _ [(1, 5), (1, 6), (1, 7), (1, 8), (1, 4), (1, 9)] rfl (by decide +kernel)
set_option maxRecDepth 20000 in
theorem gX8_neighbour_X8_isCell : GoodIn wsX8_neighbour (va_wsS RX8 82 yX8_isCell wsX8_isCell) := goodIn_app (goodIn_bb bs_X8_neighbour bi_X8_neighbour _ [(1, 2), (1, 3), (1, 4)] rfl (by decide +kernel)) ggX8_neighbour_X8_isCell
set_option maxRecDepth 20000 in
theorem ggX8_neighbour_X8_in : GoodIn wsX8_neighbour wsX8_in := goodIn_bb bs_X8_neighbour bi_X8_neighbour _ [(1, 9)] rfl (by decide +kernel)
set_option maxRecDepth 20000 in
theorem gX8_neighbour_X8_in : GoodIn wsX8_neighbour (va_wsS RX8 65 yX8_in wsX8_in) := goodIn_app (goodIn_bb bs_X8_neighbour bi_X8_neighbour _ [(1, 7), (1, 8), (1, 4)] rfl (by decide +kernel)) ggX8_neighbour_X8_in
set_option maxRecDepth 20000 in
theorem ggX8_neighbour_X8_refused : GoodIn wsX8_neighbour wsX8_refused := goodIn_bb bs_X8_neighbour bi_X8_neighbour _ [(1, 13), (1, 14), (2, 0), (2, 1), (2, 2), (2, 3), (2, 4), (2, 5), (2, 6), (2, 7), (2, 8), (2, 9), (2, 10), (2, 11), (2, 12), (2, 13), (2, 14), (2, 15), (2, 16), (2, 17), (2, 18)] rfl (by decide +kernel)
set_option maxRecDepth 20000 in
theorem gX8_neighbour_X8_refused : GoodIn wsX8_neighbour (wsV RX8 88 RX8 yX8_refused wsX8_refused) := goodIn_app (goodIn_bb bs_X8_neighbour bi_X8_neighbour _ [(1, 10), (1, 11), (1, 12), (1, 4)] rfl (by decide +kernel)) ggX8_neighbour_X8_refused
theorem dX8_neighbour_0 : decode cX8_neighbour 0 = .ok (.aload_n 0, 1) := by decide +kernel
theorem dX8_neighbour_1 : decode cX8_neighbour 1 = .ok (.iload_n 1, 1) := by decide +kernel
theorem dX8_neighbour_2 : decode cX8_neighbour 2 = .ok (.invokestatic 82, 3) := by decide +kernel
theorem dX8_neighbour_5 : decode cX8_neighbour 5 = .ok (.ifCond .ne 7, 3) := by decide +kernel
theorem dX8_neighbour_8 : decode cX8_neighbour 8 = .ok (.iconst 1, 1) := by decide +kernel
theorem dX8_neighbour_9 : decode cX8_neighbour 9 = .ok (.goto 20, 3) := by decide +kernel
theorem dX8_neighbour_12 : decode cX8_neighbour 12 = .ok (.iload_n 2, 1) := by decide +kernel
theorem dX8_neighbour_13 : decode cX8_neighbour 13 = .ok (.i2l, 1) := by decide +kernel
theorem dX8_neighbour_14 : decode cX8_neighbour 14 = .ok (.lconst 0, 1) := by decide +kernel
theorem dX8_neighbour_15 : decode cX8_neighbour 15 = .ok (.ldc2_w 91, 3) := by decide +kernel
theorem dX8_neighbour_18 : decode cX8_neighbour 18 = .ok (.invokestatic 65, 3) := by decide +kernel
theorem dX8_neighbour_21 : decode cX8_neighbour 21 = .ok (.ifCond .ne 7, 3) := by decide +kernel
theorem dX8_neighbour_24 : decode cX8_neighbour 24 = .ok (.iconst 2, 1) := by decide +kernel
theorem dX8_neighbour_25 : decode cX8_neighbour 25 = .ok (.goto 4, 3) := by decide +kernel
theorem dX8_neighbour_28 : decode cX8_neighbour 28 = .ok (.iconst 0, 1) := by decide +kernel
theorem dX8_neighbour_29 : decode cX8_neighbour 29 = .ok (.invokevirtual 88, 3) := by decide +kernel
theorem dX8_neighbour_32 : decode cX8_neighbour 32 = .ok (.ifCond .eq 5, 3) := by decide +kernel
theorem dX8_neighbour_35 : decode cX8_neighbour 35 = .ok (.iconst 0, 1) := by decide +kernel
theorem dX8_neighbour_36 : decode cX8_neighbour 36 = .ok (.ireturn, 1) := by decide +kernel
theorem dX8_neighbour_37 : decode cX8_neighbour 37 = .ok (.aload_n 0, 1) := by decide +kernel
theorem dX8_neighbour_38 : decode cX8_neighbour 38 = .ok (.getfield 13, 3) := by decide +kernel
theorem dX8_neighbour_41 : decode cX8_neighbour 41 = .ok (.iconst 4, 1) := by decide +kernel
theorem dX8_neighbour_42 : decode cX8_neighbour 42 = .ok (.iload_n 1, 1) := by decide +kernel
theorem dX8_neighbour_43 : decode cX8_neighbour 43 = .ok (.imul, 1) := by decide +kernel
theorem dX8_neighbour_44 : decode cX8_neighbour 44 = .ok (.iload_n 2, 1) := by decide +kernel
theorem dX8_neighbour_45 : decode cX8_neighbour 45 = .ok (.iadd, 1) := by decide +kernel
theorem dX8_neighbour_46 : decode cX8_neighbour 46 = .ok (.iaload, 1) := by decide +kernel
theorem dX8_neighbour_47 : decode cX8_neighbour 47 = .ok (.ireturn, 1) := by decide +kernel
theorem dX8_directionOf_0 : decode cX8_directionOf 0 = .ok (.aload_n 0, 1) := by decide +kernel
theorem dX8_directionOf_1 : decode cX8_directionOf 1 = .ok (.bipush 7, 2) := by decide +kernel
theorem dX8_directionOf_3 : decode cX8_directionOf 3 = .ok (.iload_n 1, 1) := by decide +kernel
theorem dX8_directionOf_4 : decode cX8_directionOf 4 = .ok (.imul, 1) := by decide +kernel
theorem dX8_directionOf_5 : decode cX8_directionOf 5 = .ok (.iload_n 2, 1) := by decide +kernel
theorem dX8_directionOf_6 : decode cX8_directionOf 6 = .ok (.iadd, 1) := by decide +kernel
theorem dX8_directionOf_7 : decode cX8_directionOf 7 = .ok (.iaload, 1) := by decide +kernel
theorem dX8_directionOf_8 : decode cX8_directionOf 8 = .ok (.iload_n 3, 1) := by decide +kernel
theorem dX8_directionOf_9 : decode cX8_directionOf 9 = .ok (.aload_n 0, 1) := by decide +kernel
theorem dX8_directionOf_10 : decode cX8_directionOf 10 = .ok (.bipush 7, 2) := by decide +kernel
theorem dX8_directionOf_12 : decode cX8_directionOf 12 = .ok (.iload_n 1, 1) := by decide +kernel
theorem dX8_directionOf_13 : decode cX8_directionOf 13 = .ok (.imul, 1) := by decide +kernel
theorem dX8_directionOf_14 : decode cX8_directionOf 14 = .ok (.iconst 3, 1) := by decide +kernel
theorem dX8_directionOf_15 : decode cX8_directionOf 15 = .ok (.iadd, 1) := by decide +kernel
theorem dX8_directionOf_16 : decode cX8_directionOf 16 = .ok (.iload_n 2, 1) := by decide +kernel
theorem dX8_directionOf_17 : decode cX8_directionOf 17 = .ok (.iadd, 1) := by decide +kernel
theorem dX8_directionOf_18 : decode cX8_directionOf 18 = .ok (.iaload, 1) := by decide +kernel
theorem dX8_directionOf_19 : decode cX8_directionOf 19 = .ok (.imul, 1) := by decide +kernel
theorem dX8_directionOf_20 : decode cX8_directionOf 20 = .ok (.iadd, 1) := by decide +kernel
theorem dX8_directionOf_21 : decode cX8_directionOf 21 = .ok (.ireturn, 1) := by decide +kernel
def bs_X8_productOf : List (List Cond) := [[.code yX8_productOf cX8_productOf 7 (some .int)], [.fieldLink RX8 7 "SlewPlannerModel" "vector" "[I", .methodLink RX8 93 yX8_directionOf, .static yX8_directionOf, .initialized RX8, .code yX8_directionOf cX8_directionOf 4 (some .int)], wsX80]
theorem bi_X8_productOf : ∀ w ∈ bs_X8_productOf.flatten, w ∈ wsX8_productOf := by
  have h : bs_X8_productOf.flatten = wsX8_productOf := by simp only [bs_X8_productOf, wsX8_productOf, List.flatten_cons, List.flatten_nil, List.append_assoc, List.append_nil, List.nil_append, List.cons_append]
  intro w hw; rw [h] at hw; exact hw
set_option maxRecDepth 20000 in
theorem ggX8_productOf_X8_directionOf : GoodIn wsX8_productOf wsX8_directionOf := goodIn_bb bs_X8_productOf bi_X8_productOf _ [(1, 4)] rfl (by decide +kernel)
set_option maxRecDepth 20000 in
theorem gX8_productOf_X8_directionOf : GoodIn wsX8_productOf (va_wsS RX8 93 yX8_directionOf wsX8_directionOf) := goodIn_app (goodIn_bb bs_X8_productOf bi_X8_productOf _ [(1, 1), (1, 2), (1, 3)] rfl (by decide +kernel)) ggX8_productOf_X8_directionOf
theorem dX8_productOf_0 : decode cX8_productOf 0 = .ok (.iconst 0, 1) := by decide +kernel
theorem dX8_productOf_1 : decode cX8_productOf 1 = .ok (.istore 5, 2) := by decide +kernel
theorem dX8_productOf_3 : decode cX8_productOf 3 = .ok (.iconst 0, 1) := by decide +kernel
theorem dX8_productOf_4 : decode cX8_productOf 4 = .ok (.istore 6, 2) := by decide +kernel
theorem dX8_productOf_6 : decode cX8_productOf 6 = .ok (.iload 6, 2) := by decide +kernel
theorem dX8_productOf_8 : decode cX8_productOf 8 = .ok (.iconst 3, 1) := by decide +kernel
theorem dX8_productOf_9 : decode cX8_productOf 9 = .ok (.if_icmp .ge 35, 3) := by decide +kernel
theorem dX8_productOf_12 : decode cX8_productOf 12 = .ok (.iload 5, 2) := by decide +kernel
theorem dX8_productOf_14 : decode cX8_productOf 14 = .ok (.aload_n 0, 1) := by decide +kernel
theorem dX8_productOf_15 : decode cX8_productOf 15 = .ok (.getfield 7, 3) := by decide +kernel
theorem dX8_productOf_18 : decode cX8_productOf 18 = .ok (.iconst 3, 1) := by decide +kernel
theorem dX8_productOf_19 : decode cX8_productOf 19 = .ok (.iload_n 2, 1) := by decide +kernel
theorem dX8_productOf_20 : decode cX8_productOf 20 = .ok (.imul, 1) := by decide +kernel
theorem dX8_productOf_21 : decode cX8_productOf 21 = .ok (.iload 6, 2) := by decide +kernel
theorem dX8_productOf_23 : decode cX8_productOf 23 = .ok (.iadd, 1) := by decide +kernel
theorem dX8_productOf_24 : decode cX8_productOf 24 = .ok (.iaload, 1) := by decide +kernel
theorem dX8_productOf_25 : decode cX8_productOf 25 = .ok (.aload_n 1, 1) := by decide +kernel
theorem dX8_productOf_26 : decode cX8_productOf 26 = .ok (.iload_n 3, 1) := by decide +kernel
theorem dX8_productOf_27 : decode cX8_productOf 27 = .ok (.iload 6, 2) := by decide +kernel
theorem dX8_productOf_29 : decode cX8_productOf 29 = .ok (.iload 4, 2) := by decide +kernel
theorem dX8_productOf_31 : decode cX8_productOf 31 = .ok (.invokestatic 93, 3) := by decide +kernel
theorem dX8_productOf_34 : decode cX8_productOf 34 = .ok (.imul, 1) := by decide +kernel
theorem dX8_productOf_35 : decode cX8_productOf 35 = .ok (.iadd, 1) := by decide +kernel
theorem dX8_productOf_36 : decode cX8_productOf 36 = .ok (.istore 5, 2) := by decide +kernel
theorem dX8_productOf_38 : decode cX8_productOf 38 = .ok (.iinc 6 1, 3) := by decide +kernel
theorem dX8_productOf_41 : decode cX8_productOf 41 = .ok (.goto (-35), 3) := by decide +kernel
theorem dX8_productOf_44 : decode cX8_productOf 44 = .ok (.iload 5, 2) := by decide +kernel
theorem dX8_productOf_46 : decode cX8_productOf 46 = .ok (.ireturn, 1) := by decide +kernel
def bs_X8_squareOf : List (List Cond) := [[.code yX8_squareOf cX8_squareOf 6 (some .int)], [.methodLink RX8 93 yX8_directionOf, .static yX8_directionOf, .initialized RX8, .code yX8_directionOf cX8_directionOf 4 (some .int)]]
theorem bi_X8_squareOf : ∀ w ∈ bs_X8_squareOf.flatten, w ∈ wsX8_squareOf := by
  have h : bs_X8_squareOf.flatten = wsX8_squareOf := by simp only [bs_X8_squareOf, wsX8_squareOf, List.flatten_cons, List.flatten_nil, List.append_assoc, List.append_nil, List.nil_append, List.cons_append]
  intro w hw; rw [h] at hw; exact hw
set_option maxRecDepth 20000 in
theorem ggX8_squareOf_X8_directionOf : GoodIn wsX8_squareOf wsX8_directionOf := goodIn_bb bs_X8_squareOf bi_X8_squareOf _ [(1, 3)] rfl (by decide +kernel)
set_option maxRecDepth 20000 in
theorem gX8_squareOf_X8_directionOf : GoodIn wsX8_squareOf (va_wsS RX8 93 yX8_directionOf wsX8_directionOf) := goodIn_app (goodIn_bb bs_X8_squareOf bi_X8_squareOf _ [(1, 0), (1, 1), (1, 2)] rfl (by decide +kernel)) ggX8_squareOf_X8_directionOf
theorem dX8_squareOf_0 : decode cX8_squareOf 0 = .ok (.iconst 0, 1) := by decide +kernel
theorem dX8_squareOf_1 : decode cX8_squareOf 1 = .ok (.istore_n 3, 1) := by decide +kernel
theorem dX8_squareOf_2 : decode cX8_squareOf 2 = .ok (.iconst 0, 1) := by decide +kernel
theorem dX8_squareOf_3 : decode cX8_squareOf 3 = .ok (.istore 4, 2) := by decide +kernel
theorem dX8_squareOf_5 : decode cX8_squareOf 5 = .ok (.iload 4, 2) := by decide +kernel
theorem dX8_squareOf_7 : decode cX8_squareOf 7 = .ok (.iconst 3, 1) := by decide +kernel
theorem dX8_squareOf_8 : decode cX8_squareOf 8 = .ok (.if_icmp .ge 27, 3) := by decide +kernel
theorem dX8_squareOf_11 : decode cX8_squareOf 11 = .ok (.aload_n 0, 1) := by decide +kernel
theorem dX8_squareOf_12 : decode cX8_squareOf 12 = .ok (.iload_n 1, 1) := by decide +kernel
theorem dX8_squareOf_13 : decode cX8_squareOf 13 = .ok (.iload 4, 2) := by decide +kernel
theorem dX8_squareOf_15 : decode cX8_squareOf 15 = .ok (.iload_n 2, 1) := by decide +kernel
theorem dX8_squareOf_16 : decode cX8_squareOf 16 = .ok (.invokestatic 93, 3) := by decide +kernel
theorem dX8_squareOf_19 : decode cX8_squareOf 19 = .ok (.istore 5, 2) := by decide +kernel
theorem dX8_squareOf_21 : decode cX8_squareOf 21 = .ok (.iload_n 3, 1) := by decide +kernel
theorem dX8_squareOf_22 : decode cX8_squareOf 22 = .ok (.iload 5, 2) := by decide +kernel
theorem dX8_squareOf_24 : decode cX8_squareOf 24 = .ok (.iload 5, 2) := by decide +kernel
theorem dX8_squareOf_26 : decode cX8_squareOf 26 = .ok (.imul, 1) := by decide +kernel
theorem dX8_squareOf_27 : decode cX8_squareOf 27 = .ok (.iadd, 1) := by decide +kernel
theorem dX8_squareOf_28 : decode cX8_squareOf 28 = .ok (.istore_n 3, 1) := by decide +kernel
theorem dX8_squareOf_29 : decode cX8_squareOf 29 = .ok (.iinc 4 1, 3) := by decide +kernel
theorem dX8_squareOf_32 : decode cX8_squareOf 32 = .ok (.goto (-27), 3) := by decide +kernel
theorem dX8_squareOf_35 : decode cX8_squareOf 35 = .ok (.iload_n 3, 1) := by decide +kernel
theorem dX8_squareOf_36 : decode cX8_squareOf 36 = .ok (.ireturn, 1) := by decide +kernel
theorem dX8_squareOfCell_0 : decode cX8_squareOfCell 0 = .ok (.iconst 0, 1) := by decide +kernel
theorem dX8_squareOfCell_1 : decode cX8_squareOfCell 1 = .ok (.istore_n 2, 1) := by decide +kernel
theorem dX8_squareOfCell_2 : decode cX8_squareOfCell 2 = .ok (.iconst 0, 1) := by decide +kernel
theorem dX8_squareOfCell_3 : decode cX8_squareOfCell 3 = .ok (.istore_n 3, 1) := by decide +kernel
theorem dX8_squareOfCell_4 : decode cX8_squareOfCell 4 = .ok (.iload_n 3, 1) := by decide +kernel
theorem dX8_squareOfCell_5 : decode cX8_squareOfCell 5 = .ok (.iconst 3, 1) := by decide +kernel
theorem dX8_squareOfCell_6 : decode cX8_squareOfCell 6 = .ok (.if_icmp .ge 33, 3) := by decide +kernel
theorem dX8_squareOfCell_9 : decode cX8_squareOfCell 9 = .ok (.iload_n 2, 1) := by decide +kernel
theorem dX8_squareOfCell_10 : decode cX8_squareOfCell 10 = .ok (.aload_n 0, 1) := by decide +kernel
theorem dX8_squareOfCell_11 : decode cX8_squareOfCell 11 = .ok (.getfield 7, 3) := by decide +kernel
theorem dX8_squareOfCell_14 : decode cX8_squareOfCell 14 = .ok (.iconst 3, 1) := by decide +kernel
theorem dX8_squareOfCell_15 : decode cX8_squareOfCell 15 = .ok (.iload_n 1, 1) := by decide +kernel
theorem dX8_squareOfCell_16 : decode cX8_squareOfCell 16 = .ok (.imul, 1) := by decide +kernel
theorem dX8_squareOfCell_17 : decode cX8_squareOfCell 17 = .ok (.iload_n 3, 1) := by decide +kernel
theorem dX8_squareOfCell_18 : decode cX8_squareOfCell 18 = .ok (.iadd, 1) := by decide +kernel
theorem dX8_squareOfCell_19 : decode cX8_squareOfCell 19 = .ok (.iaload, 1) := by decide +kernel
theorem dX8_squareOfCell_20 : decode cX8_squareOfCell 20 = .ok (.aload_n 0, 1) := by decide +kernel
theorem dX8_squareOfCell_21 : decode cX8_squareOfCell 21 = .ok (.getfield 7, 3) := by decide +kernel
theorem dX8_squareOfCell_24 : decode cX8_squareOfCell 24 = .ok (.iconst 3, 1) := by decide +kernel
theorem dX8_squareOfCell_25 : decode cX8_squareOfCell 25 = .ok (.iload_n 1, 1) := by decide +kernel
theorem dX8_squareOfCell_26 : decode cX8_squareOfCell 26 = .ok (.imul, 1) := by decide +kernel
theorem dX8_squareOfCell_27 : decode cX8_squareOfCell 27 = .ok (.iload_n 3, 1) := by decide +kernel
theorem dX8_squareOfCell_28 : decode cX8_squareOfCell 28 = .ok (.iadd, 1) := by decide +kernel
theorem dX8_squareOfCell_29 : decode cX8_squareOfCell 29 = .ok (.iaload, 1) := by decide +kernel
theorem dX8_squareOfCell_30 : decode cX8_squareOfCell 30 = .ok (.imul, 1) := by decide +kernel
theorem dX8_squareOfCell_31 : decode cX8_squareOfCell 31 = .ok (.iadd, 1) := by decide +kernel
theorem dX8_squareOfCell_32 : decode cX8_squareOfCell 32 = .ok (.istore_n 2, 1) := by decide +kernel
theorem dX8_squareOfCell_33 : decode cX8_squareOfCell 33 = .ok (.iinc 3 1, 3) := by decide +kernel
theorem dX8_squareOfCell_36 : decode cX8_squareOfCell 36 = .ok (.goto (-32), 3) := by decide +kernel
theorem dX8_squareOfCell_39 : decode cX8_squareOfCell 39 = .ok (.iload_n 2, 1) := by decide +kernel
theorem dX8_squareOfCell_40 : decode cX8_squareOfCell 40 = .ok (.ireturn, 1) := by decide +kernel
def bs_X8_isBrightIn : List (List Cond) := [[.code yX8_isBrightIn cX8_isBrightIn 10 (some .boolean)], [.constantLong RX8 100 (10000), .methodLink RX8 97 yX8_productOf, .instanceMethod yX8_productOf, .selects RX8 yX8_productOf yX8_productOf, .initialized RX8, .code yX8_productOf cX8_productOf 7 (some .int), .fieldLink RX8 7 "SlewPlannerModel" "vector" "[I", .methodLink RX8 93 yX8_directionOf, .static yX8_directionOf, .code yX8_directionOf cX8_directionOf 4 (some .int), .methodLink RX8 102 yX8_squareOfCell, .instanceMethod yX8_squareOfCell, .selects RX8 yX8_squareOfCell yX8_squareOfCell, .code yX8_squareOfCell cX8_squareOfCell 4 (some .int), .methodLink RX8 106 yX8_squareOf, .static yX8_squareOf, .code yX8_squareOf cX8_squareOf 6 (some .int)], wsX80]
theorem bi_X8_isBrightIn : ∀ w ∈ bs_X8_isBrightIn.flatten, w ∈ wsX8_isBrightIn := by
  have h : bs_X8_isBrightIn.flatten = wsX8_isBrightIn := by simp only [bs_X8_isBrightIn, wsX8_isBrightIn, List.flatten_cons, List.flatten_nil, List.append_assoc, List.append_nil, List.nil_append, List.cons_append]
  intro w hw; rw [h] at hw; exact hw
set_option maxRecDepth 20000 in
theorem ggX8_isBrightIn_X8_productOf : GoodIn wsX8_isBrightIn wsX8_productOf := goodIn_bb bs_X8_isBrightIn bi_X8_isBrightIn _ [(1, 5), (1, 6), (1, 7), (1, 8), (1, 4), (1, 9), (2, 0), (2, 1), (2, 2), (2, 3), (2, 4), (2, 5), (2, 6), (2, 7), (2, 8), (2, 9), (2, 10), (2, 11), (2, 12), (2, 13), (2, 14), (2, 15), (2, 16), (2, 17), (2, 18)] rfl (by decide +kernel)
set_option maxRecDepth 20000 in
theorem gX8_isBrightIn_X8_productOf : GoodIn wsX8_isBrightIn (wsV RX8 97 RX8 yX8_productOf wsX8_productOf) := goodIn_app (goodIn_bb bs_X8_isBrightIn bi_X8_isBrightIn _ [(1, 1), (1, 2), (1, 3), (1, 4)] rfl (by decide +kernel)) ggX8_isBrightIn_X8_productOf
set_option maxRecDepth 20000 in
theorem ggX8_isBrightIn_X8_squareOfCell : GoodIn wsX8_isBrightIn wsX8_squareOfCell := goodIn_bb bs_X8_isBrightIn bi_X8_isBrightIn _ [(1, 13), (1, 6), (2, 0), (2, 1), (2, 2), (2, 3), (2, 4), (2, 5), (2, 6), (2, 7), (2, 8), (2, 9), (2, 10), (2, 11), (2, 12), (2, 13), (2, 14), (2, 15), (2, 16), (2, 17), (2, 18)] rfl (by decide +kernel)
set_option maxRecDepth 20000 in
theorem gX8_isBrightIn_X8_squareOfCell : GoodIn wsX8_isBrightIn (wsV RX8 102 RX8 yX8_squareOfCell wsX8_squareOfCell) := goodIn_app (goodIn_bb bs_X8_isBrightIn bi_X8_isBrightIn _ [(1, 10), (1, 11), (1, 12), (1, 4)] rfl (by decide +kernel)) ggX8_isBrightIn_X8_squareOfCell
set_option maxRecDepth 20000 in
theorem ggX8_isBrightIn_X8_squareOf : GoodIn wsX8_isBrightIn wsX8_squareOf := goodIn_bb bs_X8_isBrightIn bi_X8_isBrightIn _ [(1, 16), (1, 7), (1, 8), (1, 4), (1, 9)] rfl (by decide +kernel)
set_option maxRecDepth 20000 in
theorem gX8_isBrightIn_X8_squareOf : GoodIn wsX8_isBrightIn (va_wsS RX8 106 yX8_squareOf wsX8_squareOf) := goodIn_app (goodIn_bb bs_X8_isBrightIn bi_X8_isBrightIn _ [(1, 14), (1, 15), (1, 4)] rfl (by decide +kernel)) ggX8_isBrightIn_X8_squareOf
theorem dX8_isBrightIn_0 : decode cX8_isBrightIn 0 = .ok (.iconst 0, 1) := by decide +kernel
theorem dX8_isBrightIn_1 : decode cX8_isBrightIn 1 = .ok (.istore 4, 2) := by decide +kernel
theorem dX8_isBrightIn_3 : decode cX8_isBrightIn 3 = .ok (.iconst 0, 1) := by decide +kernel
theorem dX8_isBrightIn_4 : decode cX8_isBrightIn 4 = .ok (.istore 5, 2) := by decide +kernel
theorem dX8_isBrightIn_6 : decode cX8_isBrightIn 6 = .ok (.iload 5, 2) := by decide +kernel
theorem dX8_isBrightIn_8 : decode cX8_isBrightIn 8 = .ok (.iconst 3, 1) := by decide +kernel
theorem dX8_isBrightIn_9 : decode cX8_isBrightIn 9 = .ok (.if_icmp .ge 94, 3) := by decide +kernel
theorem dX8_isBrightIn_12 : decode cX8_isBrightIn 12 = .ok (.aload_n 1, 1) := by decide +kernel
theorem dX8_isBrightIn_13 : decode cX8_isBrightIn 13 = .ok (.bipush 7, 2) := by decide +kernel
theorem dX8_isBrightIn_15 : decode cX8_isBrightIn 15 = .ok (.iload 5, 2) := by decide +kernel
theorem dX8_isBrightIn_17 : decode cX8_isBrightIn 17 = .ok (.imul, 1) := by decide +kernel
theorem dX8_isBrightIn_18 : decode cX8_isBrightIn 18 = .ok (.bipush 6, 2) := by decide +kernel
theorem dX8_isBrightIn_20 : decode cX8_isBrightIn 20 = .ok (.iadd, 1) := by decide +kernel
theorem dX8_isBrightIn_21 : decode cX8_isBrightIn 21 = .ok (.iaload, 1) := by decide +kernel
theorem dX8_isBrightIn_22 : decode cX8_isBrightIn 22 = .ok (.i2l, 1) := by decide +kernel
theorem dX8_isBrightIn_23 : decode cX8_isBrightIn 23 = .ok (.lstore 6, 2) := by decide +kernel
theorem dX8_isBrightIn_25 : decode cX8_isBrightIn 25 = .ok (.lload 6, 2) := by decide +kernel
theorem dX8_isBrightIn_27 : decode cX8_isBrightIn 27 = .ok (.lconst 0, 1) := by decide +kernel
theorem dX8_isBrightIn_28 : decode cX8_isBrightIn 28 = .ok (.lcmp, 1) := by decide +kernel
theorem dX8_isBrightIn_29 : decode cX8_isBrightIn 29 = .ok (.ifCond .le 68, 3) := by decide +kernel
theorem dX8_isBrightIn_32 : decode cX8_isBrightIn 32 = .ok (.iload 4, 2) := by decide +kernel
theorem dX8_isBrightIn_34 : decode cX8_isBrightIn 34 = .ok (.ifCond .ne 63, 3) := by decide +kernel
theorem dX8_isBrightIn_37 : decode cX8_isBrightIn 37 = .ok (.aload_n 0, 1) := by decide +kernel
theorem dX8_isBrightIn_38 : decode cX8_isBrightIn 38 = .ok (.aload_n 1, 1) := by decide +kernel
theorem dX8_isBrightIn_39 : decode cX8_isBrightIn 39 = .ok (.iload_n 2, 1) := by decide +kernel
theorem dX8_isBrightIn_40 : decode cX8_isBrightIn 40 = .ok (.iload 5, 2) := by decide +kernel
theorem dX8_isBrightIn_42 : decode cX8_isBrightIn 42 = .ok (.iload_n 3, 1) := by decide +kernel
theorem dX8_isBrightIn_43 : decode cX8_isBrightIn 43 = .ok (.invokevirtual 97, 3) := by decide +kernel
theorem dX8_isBrightIn_46 : decode cX8_isBrightIn 46 = .ok (.i2l, 1) := by decide +kernel
theorem dX8_isBrightIn_47 : decode cX8_isBrightIn 47 = .ok (.lstore 8, 2) := by decide +kernel
theorem dX8_isBrightIn_49 : decode cX8_isBrightIn 49 = .ok (.lload 8, 2) := by decide +kernel
theorem dX8_isBrightIn_51 : decode cX8_isBrightIn 51 = .ok (.lconst 0, 1) := by decide +kernel
theorem dX8_isBrightIn_52 : decode cX8_isBrightIn 52 = .ok (.lcmp, 1) := by decide +kernel
theorem dX8_isBrightIn_53 : decode cX8_isBrightIn 53 = .ok (.ifCond .le 41, 3) := by decide +kernel
theorem dX8_isBrightIn_56 : decode cX8_isBrightIn 56 = .ok (.ldc2_w 100, 3) := by decide +kernel
theorem dX8_isBrightIn_59 : decode cX8_isBrightIn 59 = .ok (.lload 8, 2) := by decide +kernel
theorem dX8_isBrightIn_61 : decode cX8_isBrightIn 61 = .ok (.lmul, 1) := by decide +kernel
theorem dX8_isBrightIn_62 : decode cX8_isBrightIn 62 = .ok (.lload 8, 2) := by decide +kernel
theorem dX8_isBrightIn_64 : decode cX8_isBrightIn 64 = .ok (.lmul, 1) := by decide +kernel
theorem dX8_isBrightIn_65 : decode cX8_isBrightIn 65 = .ok (.lload 6, 2) := by decide +kernel
theorem dX8_isBrightIn_67 : decode cX8_isBrightIn 67 = .ok (.lload 6, 2) := by decide +kernel
theorem dX8_isBrightIn_69 : decode cX8_isBrightIn 69 = .ok (.lmul, 1) := by decide +kernel
theorem dX8_isBrightIn_70 : decode cX8_isBrightIn 70 = .ok (.aload_n 0, 1) := by decide +kernel
theorem dX8_isBrightIn_71 : decode cX8_isBrightIn 71 = .ok (.iload_n 2, 1) := by decide +kernel
theorem dX8_isBrightIn_72 : decode cX8_isBrightIn 72 = .ok (.invokevirtual 102, 3) := by decide +kernel
theorem dX8_isBrightIn_75 : decode cX8_isBrightIn 75 = .ok (.i2l, 1) := by decide +kernel
theorem dX8_isBrightIn_76 : decode cX8_isBrightIn 76 = .ok (.lmul, 1) := by decide +kernel
theorem dX8_isBrightIn_77 : decode cX8_isBrightIn 77 = .ok (.aload_n 1, 1) := by decide +kernel
theorem dX8_isBrightIn_78 : decode cX8_isBrightIn 78 = .ok (.iload 5, 2) := by decide +kernel
theorem dX8_isBrightIn_80 : decode cX8_isBrightIn 80 = .ok (.iload_n 3, 1) := by decide +kernel
theorem dX8_isBrightIn_81 : decode cX8_isBrightIn 81 = .ok (.invokestatic 106, 3) := by decide +kernel
theorem dX8_isBrightIn_84 : decode cX8_isBrightIn 84 = .ok (.i2l, 1) := by decide +kernel
theorem dX8_isBrightIn_85 : decode cX8_isBrightIn 85 = .ok (.lmul, 1) := by decide +kernel
theorem dX8_isBrightIn_86 : decode cX8_isBrightIn 86 = .ok (.lcmp, 1) := by decide +kernel
theorem dX8_isBrightIn_87 : decode cX8_isBrightIn 87 = .ok (.ifCond .le 7, 3) := by decide +kernel
theorem dX8_isBrightIn_90 : decode cX8_isBrightIn 90 = .ok (.iconst 1, 1) := by decide +kernel
theorem dX8_isBrightIn_91 : decode cX8_isBrightIn 91 = .ok (.goto 4, 3) := by decide +kernel
theorem dX8_isBrightIn_94 : decode cX8_isBrightIn 94 = .ok (.iconst 0, 1) := by decide +kernel
theorem dX8_isBrightIn_95 : decode cX8_isBrightIn 95 = .ok (.istore 4, 2) := by decide +kernel
theorem dX8_isBrightIn_97 : decode cX8_isBrightIn 97 = .ok (.iinc 5 1, 3) := by decide +kernel
theorem dX8_isBrightIn_100 : decode cX8_isBrightIn 100 = .ok (.goto (-94), 3) := by decide +kernel
theorem dX8_isBrightIn_103 : decode cX8_isBrightIn 103 = .ok (.iload 4, 2) := by decide +kernel
theorem dX8_isBrightIn_105 : decode cX8_isBrightIn 105 = .ok (.ireturn, 1) := by decide +kernel
def bs_X8_brightIn : List (List Cond) := [[.code yX8_brightIn cX8_brightIn 5 (some .int)], [.methodLink RX8 110 yX8_isBrightIn, .instanceMethod yX8_isBrightIn, .selects RX8 yX8_isBrightIn yX8_isBrightIn, .initialized RX8, .code yX8_isBrightIn cX8_isBrightIn 10 (some .boolean), .constantLong RX8 100 (10000), .methodLink RX8 97 yX8_productOf, .instanceMethod yX8_productOf, .selects RX8 yX8_productOf yX8_productOf, .code yX8_productOf cX8_productOf 7 (some .int), .fieldLink RX8 7 "SlewPlannerModel" "vector" "[I", .methodLink RX8 93 yX8_directionOf, .static yX8_directionOf, .code yX8_directionOf cX8_directionOf 4 (some .int), .methodLink RX8 102 yX8_squareOfCell, .instanceMethod yX8_squareOfCell, .selects RX8 yX8_squareOfCell yX8_squareOfCell, .code yX8_squareOfCell cX8_squareOfCell 4 (some .int), .methodLink RX8 106 yX8_squareOf, .static yX8_squareOf, .code yX8_squareOf cX8_squareOf 6 (some .int)], wsX80]
theorem bi_X8_brightIn : ∀ w ∈ bs_X8_brightIn.flatten, w ∈ wsX8_brightIn := by
  have h : bs_X8_brightIn.flatten = wsX8_brightIn := by simp only [bs_X8_brightIn, wsX8_brightIn, List.flatten_cons, List.flatten_nil, List.append_assoc, List.append_nil, List.nil_append, List.cons_append]
  intro w hw; rw [h] at hw; exact hw
set_option maxRecDepth 20000 in
theorem ggX8_brightIn_X8_isBrightIn : GoodIn wsX8_brightIn wsX8_isBrightIn := goodIn_bb bs_X8_brightIn bi_X8_brightIn _ [(1, 4), (1, 5), (1, 6), (1, 7), (1, 8), (1, 3), (1, 9), (1, 10), (1, 11), (1, 12), (1, 13), (1, 14), (1, 15), (1, 16), (1, 17), (1, 18), (1, 19), (1, 20), (2, 0), (2, 1), (2, 2), (2, 3), (2, 4), (2, 5), (2, 6), (2, 7), (2, 8), (2, 9), (2, 10), (2, 11), (2, 12), (2, 13), (2, 14), (2, 15), (2, 16), (2, 17), (2, 18)] rfl (by decide +kernel)
set_option maxRecDepth 20000 in
theorem gX8_brightIn_X8_isBrightIn : GoodIn wsX8_brightIn (wsV RX8 110 RX8 yX8_isBrightIn wsX8_isBrightIn) := goodIn_app (goodIn_bb bs_X8_brightIn bi_X8_brightIn _ [(1, 0), (1, 1), (1, 2), (1, 3)] rfl (by decide +kernel)) ggX8_brightIn_X8_isBrightIn
theorem dX8_brightIn_0 : decode cX8_brightIn 0 = .ok (.iconst 0, 1) := by decide +kernel
theorem dX8_brightIn_1 : decode cX8_brightIn 1 = .ok (.istore_n 3, 1) := by decide +kernel
theorem dX8_brightIn_2 : decode cX8_brightIn 2 = .ok (.iconst 0, 1) := by decide +kernel
theorem dX8_brightIn_3 : decode cX8_brightIn 3 = .ok (.istore 4, 2) := by decide +kernel
theorem dX8_brightIn_5 : decode cX8_brightIn 5 = .ok (.iload 4, 2) := by decide +kernel
theorem dX8_brightIn_7 : decode cX8_brightIn 7 = .ok (.sipush 150, 3) := by decide +kernel
theorem dX8_brightIn_10 : decode cX8_brightIn 10 = .ok (.if_icmp .ge 28, 3) := by decide +kernel
theorem dX8_brightIn_13 : decode cX8_brightIn 13 = .ok (.iload_n 3, 1) := by decide +kernel
theorem dX8_brightIn_14 : decode cX8_brightIn 14 = .ok (.aload_n 0, 1) := by decide +kernel
theorem dX8_brightIn_15 : decode cX8_brightIn 15 = .ok (.aload_n 1, 1) := by decide +kernel
theorem dX8_brightIn_16 : decode cX8_brightIn 16 = .ok (.iload 4, 2) := by decide +kernel
theorem dX8_brightIn_18 : decode cX8_brightIn 18 = .ok (.iload_n 2, 1) := by decide +kernel
theorem dX8_brightIn_19 : decode cX8_brightIn 19 = .ok (.invokevirtual 110, 3) := by decide +kernel
theorem dX8_brightIn_22 : decode cX8_brightIn 22 = .ok (.ifCond .eq 7, 3) := by decide +kernel
theorem dX8_brightIn_25 : decode cX8_brightIn 25 = .ok (.iconst 1, 1) := by decide +kernel
theorem dX8_brightIn_26 : decode cX8_brightIn 26 = .ok (.goto 4, 3) := by decide +kernel
theorem dX8_brightIn_29 : decode cX8_brightIn 29 = .ok (.iconst 0, 1) := by decide +kernel
theorem dX8_brightIn_30 : decode cX8_brightIn 30 = .ok (.iadd, 1) := by decide +kernel
theorem dX8_brightIn_31 : decode cX8_brightIn 31 = .ok (.istore_n 3, 1) := by decide +kernel
theorem dX8_brightIn_32 : decode cX8_brightIn 32 = .ok (.iinc 4 1, 3) := by decide +kernel
theorem dX8_brightIn_35 : decode cX8_brightIn 35 = .ok (.goto (-30), 3) := by decide +kernel
theorem dX8_brightIn_38 : decode cX8_brightIn 38 = .ok (.iload_n 3, 1) := by decide +kernel
theorem dX8_brightIn_39 : decode cX8_brightIn 39 = .ok (.ireturn, 1) := by decide +kernel
def bs_X8_direction : List (List Cond) := [[.code yX8_direction cX8_direction 4 (some .int)], [.fieldLink RX8 16 "SlewPlannerModel" "now" "[I", .methodLink RX8 85 yX8_isThird, .static yX8_isThird, .initialized RX8, .code yX8_isThird cX8_isThird 1 (some .boolean), .constantLong RX8 78 (2), .methodLink RX8 65 yX8_in, .static yX8_in, .code yX8_in cX8_in 6 (some .boolean), .methodLink RX8 114 yX8_isTime, .static yX8_isTime, .code yX8_isTime cX8_isTime 1 (some .boolean), .constantLong RX8 80 (300), .methodLink RX8 88 yX8_refused, .instanceMethod yX8_refused, .selects RX8 yX8_refused yX8_refused, .code yX8_refused cX8_refused 2 (some .boolean), .fieldLink RX8 57 "SlewPlannerModel" "refusal" "I", .methodLink RX8 93 yX8_directionOf, .static yX8_directionOf, .code yX8_directionOf cX8_directionOf 4 (some .int)], wsX80]
theorem bi_X8_direction : ∀ w ∈ bs_X8_direction.flatten, w ∈ wsX8_direction := by
  have h : bs_X8_direction.flatten = wsX8_direction := by simp only [bs_X8_direction, wsX8_direction, List.flatten_cons, List.flatten_nil, List.append_assoc, List.append_nil, List.nil_append, List.cons_append]
  intro w hw; rw [h] at hw; exact hw
set_option maxRecDepth 20000 in
theorem ggX8_direction_X8_isThird : GoodIn wsX8_direction wsX8_isThird := goodIn_bb bs_X8_direction bi_X8_direction _ [(1, 4), (1, 5), (1, 6), (1, 7), (1, 3), (1, 8)] rfl (by decide +kernel)
set_option maxRecDepth 20000 in
theorem gX8_direction_X8_isThird : GoodIn wsX8_direction (va_wsS RX8 85 yX8_isThird wsX8_isThird) := goodIn_app (goodIn_bb bs_X8_direction bi_X8_direction _ [(1, 1), (1, 2), (1, 3)] rfl (by decide +kernel)) ggX8_direction_X8_isThird
set_option maxRecDepth 20000 in
theorem ggX8_direction_X8_isTime : GoodIn wsX8_direction wsX8_isTime := goodIn_bb bs_X8_direction bi_X8_direction _ [(1, 11), (1, 12), (1, 6), (1, 7), (1, 3), (1, 8)] rfl (by decide +kernel)
set_option maxRecDepth 20000 in
theorem gX8_direction_X8_isTime : GoodIn wsX8_direction (va_wsS RX8 114 yX8_isTime wsX8_isTime) := goodIn_app (goodIn_bb bs_X8_direction bi_X8_direction _ [(1, 9), (1, 10), (1, 3)] rfl (by decide +kernel)) ggX8_direction_X8_isTime
set_option maxRecDepth 20000 in
theorem ggX8_direction_X8_refused : GoodIn wsX8_direction wsX8_refused := goodIn_bb bs_X8_direction bi_X8_direction _ [(1, 16), (1, 17), (2, 0), (2, 1), (2, 2), (2, 3), (2, 4), (2, 5), (2, 6), (2, 7), (2, 8), (2, 9), (2, 10), (2, 11), (2, 12), (2, 13), (2, 14), (2, 15), (2, 16), (2, 17), (2, 18)] rfl (by decide +kernel)
set_option maxRecDepth 20000 in
theorem gX8_direction_X8_refused : GoodIn wsX8_direction (wsV RX8 88 RX8 yX8_refused wsX8_refused) := goodIn_app (goodIn_bb bs_X8_direction bi_X8_direction _ [(1, 13), (1, 14), (1, 15), (1, 3)] rfl (by decide +kernel)) ggX8_direction_X8_refused
set_option maxRecDepth 20000 in
theorem ggX8_direction_X8_directionOf : GoodIn wsX8_direction wsX8_directionOf := goodIn_bb bs_X8_direction bi_X8_direction _ [(1, 20)] rfl (by decide +kernel)
set_option maxRecDepth 20000 in
theorem gX8_direction_X8_directionOf : GoodIn wsX8_direction (va_wsS RX8 93 yX8_directionOf wsX8_directionOf) := goodIn_app (goodIn_bb bs_X8_direction bi_X8_direction _ [(1, 18), (1, 19), (1, 3)] rfl (by decide +kernel)) ggX8_direction_X8_directionOf
theorem dX8_direction_0 : decode cX8_direction 0 = .ok (.aload_n 0, 1) := by decide +kernel
theorem dX8_direction_1 : decode cX8_direction 1 = .ok (.iload_n 1, 1) := by decide +kernel
theorem dX8_direction_2 : decode cX8_direction 2 = .ok (.invokestatic 85, 3) := by decide +kernel
theorem dX8_direction_5 : decode cX8_direction 5 = .ok (.ifCond .eq 10, 3) := by decide +kernel
theorem dX8_direction_8 : decode cX8_direction 8 = .ok (.iload_n 2, 1) := by decide +kernel
theorem dX8_direction_9 : decode cX8_direction 9 = .ok (.invokestatic 85, 3) := by decide +kernel
theorem dX8_direction_12 : decode cX8_direction 12 = .ok (.ifCond .ne 7, 3) := by decide +kernel
theorem dX8_direction_15 : decode cX8_direction 15 = .ok (.iconst 1, 1) := by decide +kernel
theorem dX8_direction_16 : decode cX8_direction 16 = .ok (.goto 15, 3) := by decide +kernel
theorem dX8_direction_19 : decode cX8_direction 19 = .ok (.iload_n 3, 1) := by decide +kernel
theorem dX8_direction_20 : decode cX8_direction 20 = .ok (.invokestatic 114, 3) := by decide +kernel
theorem dX8_direction_23 : decode cX8_direction 23 = .ok (.ifCond .ne 7, 3) := by decide +kernel
theorem dX8_direction_26 : decode cX8_direction 26 = .ok (.iconst 2, 1) := by decide +kernel
theorem dX8_direction_27 : decode cX8_direction 27 = .ok (.goto 4, 3) := by decide +kernel
theorem dX8_direction_30 : decode cX8_direction 30 = .ok (.iconst 0, 1) := by decide +kernel
theorem dX8_direction_31 : decode cX8_direction 31 = .ok (.invokevirtual 88, 3) := by decide +kernel
theorem dX8_direction_34 : decode cX8_direction 34 = .ok (.ifCond .eq 5, 3) := by decide +kernel
theorem dX8_direction_37 : decode cX8_direction 37 = .ok (.iconst 0, 1) := by decide +kernel
theorem dX8_direction_38 : decode cX8_direction 38 = .ok (.ireturn, 1) := by decide +kernel
theorem dX8_direction_39 : decode cX8_direction 39 = .ok (.aload_n 0, 1) := by decide +kernel
theorem dX8_direction_40 : decode cX8_direction 40 = .ok (.getfield 16, 3) := by decide +kernel
theorem dX8_direction_43 : decode cX8_direction 43 = .ok (.iload_n 1, 1) := by decide +kernel
theorem dX8_direction_44 : decode cX8_direction 44 = .ok (.iload_n 2, 1) := by decide +kernel
theorem dX8_direction_45 : decode cX8_direction 45 = .ok (.iload_n 3, 1) := by decide +kernel
theorem dX8_direction_46 : decode cX8_direction 46 = .ok (.invokestatic 93, 3) := by decide +kernel
theorem dX8_direction_49 : decode cX8_direction 49 = .ok (.ireturn, 1) := by decide +kernel
def bs_X8_cone : List (List Cond) := [[.code yX8_cone cX8_cone 2 (some .int)], [.fieldLink RX8 16 "SlewPlannerModel" "now" "[I", .methodLink RX8 85 yX8_isThird, .static yX8_isThird, .initialized RX8, .code yX8_isThird cX8_isThird 1 (some .boolean), .constantLong RX8 78 (2), .methodLink RX8 65 yX8_in, .static yX8_in, .code yX8_in cX8_in 6 (some .boolean), .methodLink RX8 88 yX8_refused, .instanceMethod yX8_refused, .selects RX8 yX8_refused yX8_refused, .code yX8_refused cX8_refused 2 (some .boolean), .fieldLink RX8 57 "SlewPlannerModel" "refusal" "I"], wsX80]
theorem bi_X8_cone : ∀ w ∈ bs_X8_cone.flatten, w ∈ wsX8_cone := by
  have h : bs_X8_cone.flatten = wsX8_cone := by simp only [bs_X8_cone, wsX8_cone, List.flatten_cons, List.flatten_nil, List.append_assoc, List.append_nil, List.nil_append, List.cons_append]
  intro w hw; rw [h] at hw; exact hw
set_option maxRecDepth 20000 in
theorem ggX8_cone_X8_isThird : GoodIn wsX8_cone wsX8_isThird := goodIn_bb bs_X8_cone bi_X8_cone _ [(1, 4), (1, 5), (1, 6), (1, 7), (1, 3), (1, 8)] rfl (by decide +kernel)
set_option maxRecDepth 20000 in
theorem gX8_cone_X8_isThird : GoodIn wsX8_cone (va_wsS RX8 85 yX8_isThird wsX8_isThird) := goodIn_app (goodIn_bb bs_X8_cone bi_X8_cone _ [(1, 1), (1, 2), (1, 3)] rfl (by decide +kernel)) ggX8_cone_X8_isThird
set_option maxRecDepth 20000 in
theorem ggX8_cone_X8_refused : GoodIn wsX8_cone wsX8_refused := goodIn_bb bs_X8_cone bi_X8_cone _ [(1, 12), (1, 13), (2, 0), (2, 1), (2, 2), (2, 3), (2, 4), (2, 5), (2, 6), (2, 7), (2, 8), (2, 9), (2, 10), (2, 11), (2, 12), (2, 13), (2, 14), (2, 15), (2, 16), (2, 17), (2, 18)] rfl (by decide +kernel)
set_option maxRecDepth 20000 in
theorem gX8_cone_X8_refused : GoodIn wsX8_cone (wsV RX8 88 RX8 yX8_refused wsX8_refused) := goodIn_app (goodIn_bb bs_X8_cone bi_X8_cone _ [(1, 9), (1, 10), (1, 11), (1, 3)] rfl (by decide +kernel)) ggX8_cone_X8_refused
theorem dX8_cone_0 : decode cX8_cone 0 = .ok (.aload_n 0, 1) := by decide +kernel
theorem dX8_cone_1 : decode cX8_cone 1 = .ok (.iload_n 1, 1) := by decide +kernel
theorem dX8_cone_2 : decode cX8_cone 2 = .ok (.invokestatic 85, 3) := by decide +kernel
theorem dX8_cone_5 : decode cX8_cone 5 = .ok (.ifCond .eq 7, 3) := by decide +kernel
theorem dX8_cone_8 : decode cX8_cone 8 = .ok (.iconst 0, 1) := by decide +kernel
theorem dX8_cone_9 : decode cX8_cone 9 = .ok (.goto 4, 3) := by decide +kernel
theorem dX8_cone_12 : decode cX8_cone 12 = .ok (.iconst 1, 1) := by decide +kernel
theorem dX8_cone_13 : decode cX8_cone 13 = .ok (.invokevirtual 88, 3) := by decide +kernel
theorem dX8_cone_16 : decode cX8_cone 16 = .ok (.ifCond .eq 5, 3) := by decide +kernel
theorem dX8_cone_19 : decode cX8_cone 19 = .ok (.iconst 0, 1) := by decide +kernel
theorem dX8_cone_20 : decode cX8_cone 20 = .ok (.ireturn, 1) := by decide +kernel
theorem dX8_cone_21 : decode cX8_cone 21 = .ok (.aload_n 0, 1) := by decide +kernel
theorem dX8_cone_22 : decode cX8_cone 22 = .ok (.getfield 16, 3) := by decide +kernel
theorem dX8_cone_25 : decode cX8_cone 25 = .ok (.bipush 7, 2) := by decide +kernel
theorem dX8_cone_27 : decode cX8_cone 27 = .ok (.iload_n 1, 1) := by decide +kernel
theorem dX8_cone_28 : decode cX8_cone 28 = .ok (.imul, 1) := by decide +kernel
theorem dX8_cone_29 : decode cX8_cone 29 = .ok (.bipush 6, 2) := by decide +kernel
theorem dX8_cone_31 : decode cX8_cone 31 = .ok (.iadd, 1) := by decide +kernel
theorem dX8_cone_32 : decode cX8_cone 32 = .ok (.iaload, 1) := by decide +kernel
theorem dX8_cone_33 : decode cX8_cone 33 = .ok (.ireturn, 1) := by decide +kernel
theorem dX8_root_0 : decode cX8_root 0 = .ok (.iload_n 0, 1) := by decide +kernel
theorem dX8_root_1 : decode cX8_root 1 = .ok (.ifCond .ne 5, 3) := by decide +kernel
theorem dX8_root_4 : decode cX8_root 4 = .ok (.dconst 0, 1) := by decide +kernel
theorem dX8_root_5 : decode cX8_root 5 = .ok (.dreturn, 1) := by decide +kernel
theorem dX8_root_6 : decode cX8_root 6 = .ok (.iload_n 0, 1) := by decide +kernel
theorem dX8_root_7 : decode cX8_root 7 = .ok (.i2d, 1) := by decide +kernel
theorem dX8_root_8 : decode cX8_root 8 = .ok (.dstore_n 1, 1) := by decide +kernel
theorem dX8_root_9 : decode cX8_root 9 = .ok (.iconst 0, 1) := by decide +kernel
theorem dX8_root_10 : decode cX8_root 10 = .ok (.istore_n 3, 1) := by decide +kernel
theorem dX8_root_11 : decode cX8_root 11 = .ok (.iload_n 3, 1) := by decide +kernel
theorem dX8_root_12 : decode cX8_root 12 = .ok (.bipush 40, 2) := by decide +kernel
theorem dX8_root_14 : decode cX8_root 14 = .ok (.if_icmp .ge 20, 3) := by decide +kernel
theorem dX8_root_17 : decode cX8_root 17 = .ok (.dload_n 1, 1) := by decide +kernel
theorem dX8_root_18 : decode cX8_root 18 = .ok (.iload_n 0, 1) := by decide +kernel
theorem dX8_root_19 : decode cX8_root 19 = .ok (.i2d, 1) := by decide +kernel
theorem dX8_root_20 : decode cX8_root 20 = .ok (.dload_n 1, 1) := by decide +kernel
theorem dX8_root_21 : decode cX8_root 21 = .ok (.ddiv, 1) := by decide +kernel
theorem dX8_root_22 : decode cX8_root 22 = .ok (.dadd, 1) := by decide +kernel
theorem dX8_root_23 : decode cX8_root 23 = .ok (.ldc2_w 117, 3) := by decide +kernel
theorem dX8_root_26 : decode cX8_root 26 = .ok (.ddiv, 1) := by decide +kernel
theorem dX8_root_27 : decode cX8_root 27 = .ok (.dstore_n 1, 1) := by decide +kernel
theorem dX8_root_28 : decode cX8_root 28 = .ok (.iinc 3 1, 3) := by decide +kernel
theorem dX8_root_31 : decode cX8_root 31 = .ok (.goto (-20), 3) := by decide +kernel
theorem dX8_root_34 : decode cX8_root 34 = .ok (.ldc2_w 119, 3) := by decide +kernel
theorem dX8_root_37 : decode cX8_root 37 = .ok (.dload_n 1, 1) := by decide +kernel
theorem dX8_root_38 : decode cX8_root 38 = .ok (.dmul, 1) := by decide +kernel
theorem dX8_root_39 : decode cX8_root 39 = .ok (.dstore_n 3, 1) := by decide +kernel
theorem dX8_root_40 : decode cX8_root 40 = .ok (.dload_n 3, 1) := by decide +kernel
theorem dX8_root_41 : decode cX8_root 41 = .ok (.dload_n 3, 1) := by decide +kernel
theorem dX8_root_42 : decode cX8_root 42 = .ok (.dload_n 1, 1) := by decide +kernel
theorem dX8_root_43 : decode cX8_root 43 = .ok (.dsub, 1) := by decide +kernel
theorem dX8_root_44 : decode cX8_root 44 = .ok (.dsub, 1) := by decide +kernel
theorem dX8_root_45 : decode cX8_root 45 = .ok (.dstore 5, 2) := by decide +kernel
theorem dX8_root_47 : decode cX8_root 47 = .ok (.dload_n 1, 1) := by decide +kernel
theorem dX8_root_48 : decode cX8_root 48 = .ok (.dload 5, 2) := by decide +kernel
theorem dX8_root_50 : decode cX8_root 50 = .ok (.dsub, 1) := by decide +kernel
theorem dX8_root_51 : decode cX8_root 51 = .ok (.dstore 7, 2) := by decide +kernel
theorem dX8_root_53 : decode cX8_root 53 = .ok (.dload_n 1, 1) := by decide +kernel
theorem dX8_root_54 : decode cX8_root 54 = .ok (.dload_n 1, 1) := by decide +kernel
theorem dX8_root_55 : decode cX8_root 55 = .ok (.dmul, 1) := by decide +kernel
theorem dX8_root_56 : decode cX8_root 56 = .ok (.dstore 9, 2) := by decide +kernel
theorem dX8_root_58 : decode cX8_root 58 = .ok (.dload 5, 2) := by decide +kernel
theorem dX8_root_60 : decode cX8_root 60 = .ok (.dload 5, 2) := by decide +kernel
theorem dX8_root_62 : decode cX8_root 62 = .ok (.dmul, 1) := by decide +kernel
theorem dX8_root_63 : decode cX8_root 63 = .ok (.dload 9, 2) := by decide +kernel
theorem dX8_root_65 : decode cX8_root 65 = .ok (.dsub, 1) := by decide +kernel
theorem dX8_root_66 : decode cX8_root 66 = .ok (.ldc2_w 117, 3) := by decide +kernel
theorem dX8_root_69 : decode cX8_root 69 = .ok (.dload 5, 2) := by decide +kernel
theorem dX8_root_71 : decode cX8_root 71 = .ok (.dmul, 1) := by decide +kernel
theorem dX8_root_72 : decode cX8_root 72 = .ok (.dload 7, 2) := by decide +kernel
theorem dX8_root_74 : decode cX8_root 74 = .ok (.dmul, 1) := by decide +kernel
theorem dX8_root_75 : decode cX8_root 75 = .ok (.dadd, 1) := by decide +kernel
theorem dX8_root_76 : decode cX8_root 76 = .ok (.dload 7, 2) := by decide +kernel
theorem dX8_root_78 : decode cX8_root 78 = .ok (.dload 7, 2) := by decide +kernel
theorem dX8_root_80 : decode cX8_root 80 = .ok (.dmul, 1) := by decide +kernel
theorem dX8_root_81 : decode cX8_root 81 = .ok (.dadd, 1) := by decide +kernel
theorem dX8_root_82 : decode cX8_root 82 = .ok (.dstore 11, 2) := by decide +kernel
theorem dX8_root_84 : decode cX8_root 84 = .ok (.dload_n 1, 1) := by decide +kernel
theorem dX8_root_85 : decode cX8_root 85 = .ok (.iload_n 0, 1) := by decide +kernel
theorem dX8_root_86 : decode cX8_root 86 = .ok (.i2d, 1) := by decide +kernel
theorem dX8_root_87 : decode cX8_root 87 = .ok (.dload 9, 2) := by decide +kernel
theorem dX8_root_89 : decode cX8_root 89 = .ok (.dsub, 1) := by decide +kernel
theorem dX8_root_90 : decode cX8_root 90 = .ok (.dload 11, 2) := by decide +kernel
theorem dX8_root_92 : decode cX8_root 92 = .ok (.dsub, 1) := by decide +kernel
theorem dX8_root_93 : decode cX8_root 93 = .ok (.ldc2_w 117, 3) := by decide +kernel
theorem dX8_root_96 : decode cX8_root 96 = .ok (.dload_n 1, 1) := by decide +kernel
theorem dX8_root_97 : decode cX8_root 97 = .ok (.dmul, 1) := by decide +kernel
theorem dX8_root_98 : decode cX8_root 98 = .ok (.ddiv, 1) := by decide +kernel
theorem dX8_root_99 : decode cX8_root 99 = .ok (.dadd, 1) := by decide +kernel
theorem dX8_root_100 : decode cX8_root 100 = .ok (.dreturn, 1) := by decide +kernel
def bs_X8_cosine : List (List Cond) := [[.code yX8_cosine cX8_cosine 7 (some .double)], wsX8_cosine_r1, wsX8_cosine_r2, wsX80]
theorem bi_X8_cosine : ∀ w ∈ bs_X8_cosine.flatten, w ∈ wsX8_cosine := by
  have h : bs_X8_cosine.flatten = wsX8_cosine := by simp only [bs_X8_cosine, wsX8_cosine, List.flatten_cons, List.flatten_nil, List.append_assoc, List.append_nil, List.nil_append, List.cons_append]
  intro w hw; rw [h] at hw; exact hw
set_option maxRecDepth 20000 in
theorem ggX8_cosine_X8_isCell : GoodIn wsX8_cosine wsX8_isCell := goodIn_bb bs_X8_cosine bi_X8_cosine _ [(1, 5), (1, 6), (1, 7), (1, 8), (1, 4), (1, 9)] rfl (by decide +kernel)
set_option maxRecDepth 20000 in
theorem gX8_cosine_X8_isCell : GoodIn wsX8_cosine (va_wsS RX8 82 yX8_isCell wsX8_isCell) := goodIn_app (goodIn_bb bs_X8_cosine bi_X8_cosine _ [(1, 2), (1, 3), (1, 4)] rfl (by decide +kernel)) ggX8_cosine_X8_isCell
set_option maxRecDepth 20000 in
theorem ggX8_cosine_X8_isThird : GoodIn wsX8_cosine wsX8_isThird := goodIn_bb bs_X8_cosine bi_X8_cosine _ [(1, 12), (1, 13), (1, 7), (1, 8), (1, 4), (1, 9)] rfl (by decide +kernel)
set_option maxRecDepth 20000 in
theorem gX8_cosine_X8_isThird : GoodIn wsX8_cosine (va_wsS RX8 85 yX8_isThird wsX8_isThird) := goodIn_app (goodIn_bb bs_X8_cosine bi_X8_cosine _ [(1, 10), (1, 11), (1, 4)] rfl (by decide +kernel)) ggX8_cosine_X8_isThird
set_option maxRecDepth 20000 in
theorem ggX8_cosine_X8_isTime : GoodIn wsX8_cosine wsX8_isTime := goodIn_bb bs_X8_cosine bi_X8_cosine _ [(1, 16), (1, 17), (1, 7), (1, 8), (1, 4), (1, 9)] rfl (by decide +kernel)
set_option maxRecDepth 20000 in
theorem gX8_cosine_X8_isTime : GoodIn wsX8_cosine (va_wsS RX8 114 yX8_isTime wsX8_isTime) := goodIn_app (goodIn_bb bs_X8_cosine bi_X8_cosine _ [(1, 14), (1, 15), (1, 4)] rfl (by decide +kernel)) ggX8_cosine_X8_isTime
set_option maxRecDepth 20000 in
theorem ggX8_cosine_X8_refused : GoodIn wsX8_cosine wsX8_refused := goodIn_bb bs_X8_cosine bi_X8_cosine _ [(1, 21), (1, 22), (3, 0), (3, 1), (3, 2), (3, 3), (3, 4), (3, 5), (3, 6), (3, 7), (3, 8), (3, 9), (3, 10), (3, 11), (3, 12), (3, 13), (3, 14), (3, 15), (3, 16), (3, 17), (3, 18)] rfl (by decide +kernel)
set_option maxRecDepth 20000 in
theorem gX8_cosine_X8_refused : GoodIn wsX8_cosine (wsV RX8 88 RX8 yX8_refused wsX8_refused) := goodIn_app (goodIn_bb bs_X8_cosine bi_X8_cosine _ [(1, 18), (1, 19), (1, 20), (1, 4)] rfl (by decide +kernel)) ggX8_cosine_X8_refused
set_option maxRecDepth 20000 in
theorem ggX8_cosine_X8_squareOf : GoodIn wsX8_cosine wsX8_squareOf := goodIn_bb bs_X8_cosine bi_X8_cosine _ [(2, 1), (2, 2), (2, 3), (1, 4), (2, 4)] rfl (by decide +kernel)
set_option maxRecDepth 20000 in
theorem gX8_cosine_X8_squareOf : GoodIn wsX8_cosine (va_wsS RX8 106 yX8_squareOf wsX8_squareOf) := goodIn_app (goodIn_bb bs_X8_cosine bi_X8_cosine _ [(1, 23), (2, 0), (1, 4)] rfl (by decide +kernel)) ggX8_cosine_X8_squareOf
set_option maxRecDepth 20000 in
theorem ggX8_cosine_X8_productOf : GoodIn wsX8_cosine wsX8_productOf := goodIn_bb bs_X8_cosine bi_X8_cosine _ [(2, 8), (2, 9), (2, 2), (2, 3), (1, 4), (2, 4), (3, 0), (3, 1), (3, 2), (3, 3), (3, 4), (3, 5), (3, 6), (3, 7), (3, 8), (3, 9), (3, 10), (3, 11), (3, 12), (3, 13), (3, 14), (3, 15), (3, 16), (3, 17), (3, 18)] rfl (by decide +kernel)
set_option maxRecDepth 20000 in
theorem gX8_cosine_X8_productOf : GoodIn wsX8_cosine (wsV RX8 97 RX8 yX8_productOf wsX8_productOf) := goodIn_app (goodIn_bb bs_X8_cosine bi_X8_cosine _ [(2, 5), (2, 6), (2, 7), (1, 4)] rfl (by decide +kernel)) ggX8_cosine_X8_productOf
set_option maxRecDepth 20000 in
theorem ggX8_cosine_X8_squareOfCell : GoodIn wsX8_cosine wsX8_squareOfCell := goodIn_bb bs_X8_cosine bi_X8_cosine _ [(2, 13), (2, 9), (3, 0), (3, 1), (3, 2), (3, 3), (3, 4), (3, 5), (3, 6), (3, 7), (3, 8), (3, 9), (3, 10), (3, 11), (3, 12), (3, 13), (3, 14), (3, 15), (3, 16), (3, 17), (3, 18)] rfl (by decide +kernel)
set_option maxRecDepth 20000 in
theorem gX8_cosine_X8_squareOfCell : GoodIn wsX8_cosine (wsV RX8 102 RX8 yX8_squareOfCell wsX8_squareOfCell) := goodIn_app (goodIn_bb bs_X8_cosine bi_X8_cosine _ [(2, 10), (2, 11), (2, 12), (1, 4)] rfl (by decide +kernel)) ggX8_cosine_X8_squareOfCell
set_option maxRecDepth 20000 in
theorem ggX8_cosine_X8_root : GoodIn wsX8_cosine wsX8_root := goodIn_bb bs_X8_cosine bi_X8_cosine _ [(2, 16), (2, 17), (2, 18)] rfl (by decide +kernel)
set_option maxRecDepth 20000 in
theorem gX8_cosine_X8_root : GoodIn wsX8_cosine (va_wsS RX8 125 yX8_root wsX8_root) := goodIn_app (goodIn_bb bs_X8_cosine bi_X8_cosine _ [(2, 14), (2, 15), (1, 4)] rfl (by decide +kernel)) ggX8_cosine_X8_root
theorem dX8_cosine_0 : decode cX8_cosine 0 = .ok (.aload_n 0, 1) := by decide +kernel
theorem dX8_cosine_1 : decode cX8_cosine 1 = .ok (.iload_n 1, 1) := by decide +kernel
theorem dX8_cosine_2 : decode cX8_cosine 2 = .ok (.invokestatic 82, 3) := by decide +kernel
theorem dX8_cosine_5 : decode cX8_cosine 5 = .ok (.ifCond .eq 10, 3) := by decide +kernel
theorem dX8_cosine_8 : decode cX8_cosine 8 = .ok (.iload_n 2, 1) := by decide +kernel
theorem dX8_cosine_9 : decode cX8_cosine 9 = .ok (.invokestatic 85, 3) := by decide +kernel
theorem dX8_cosine_12 : decode cX8_cosine 12 = .ok (.ifCond .ne 7, 3) := by decide +kernel
theorem dX8_cosine_15 : decode cX8_cosine 15 = .ok (.iconst 1, 1) := by decide +kernel
theorem dX8_cosine_16 : decode cX8_cosine 16 = .ok (.goto 15, 3) := by decide +kernel
theorem dX8_cosine_19 : decode cX8_cosine 19 = .ok (.iload_n 3, 1) := by decide +kernel
theorem dX8_cosine_20 : decode cX8_cosine 20 = .ok (.invokestatic 114, 3) := by decide +kernel
theorem dX8_cosine_23 : decode cX8_cosine 23 = .ok (.ifCond .ne 7, 3) := by decide +kernel
theorem dX8_cosine_26 : decode cX8_cosine 26 = .ok (.iconst 2, 1) := by decide +kernel
theorem dX8_cosine_27 : decode cX8_cosine 27 = .ok (.goto 4, 3) := by decide +kernel
theorem dX8_cosine_30 : decode cX8_cosine 30 = .ok (.iconst 0, 1) := by decide +kernel
theorem dX8_cosine_31 : decode cX8_cosine 31 = .ok (.invokevirtual 88, 3) := by decide +kernel
theorem dX8_cosine_34 : decode cX8_cosine 34 = .ok (.ifCond .eq 5, 3) := by decide +kernel
theorem dX8_cosine_37 : decode cX8_cosine 37 = .ok (.dconst 0, 1) := by decide +kernel
theorem dX8_cosine_38 : decode cX8_cosine 38 = .ok (.dreturn, 1) := by decide +kernel
theorem dX8_cosine_39 : decode cX8_cosine 39 = .ok (.aload_n 0, 1) := by decide +kernel
theorem dX8_cosine_40 : decode cX8_cosine 40 = .ok (.getfield 16, 3) := by decide +kernel
theorem dX8_cosine_43 : decode cX8_cosine 43 = .ok (.iload_n 2, 1) := by decide +kernel
theorem dX8_cosine_44 : decode cX8_cosine 44 = .ok (.iload_n 3, 1) := by decide +kernel
theorem dX8_cosine_45 : decode cX8_cosine 45 = .ok (.invokestatic 106, 3) := by decide +kernel
theorem dX8_cosine_48 : decode cX8_cosine 48 = .ok (.istore 4, 2) := by decide +kernel
theorem dX8_cosine_50 : decode cX8_cosine 50 = .ok (.iload 4, 2) := by decide +kernel
theorem dX8_cosine_52 : decode cX8_cosine 52 = .ok (.ifCond .ne 7, 3) := by decide +kernel
theorem dX8_cosine_55 : decode cX8_cosine 55 = .ok (.ldc2_w 123, 3) := by decide +kernel
theorem dX8_cosine_58 : decode cX8_cosine 58 = .ok (.dreturn, 1) := by decide +kernel
theorem dX8_cosine_59 : decode cX8_cosine 59 = .ok (.aload_n 0, 1) := by decide +kernel
theorem dX8_cosine_60 : decode cX8_cosine 60 = .ok (.aload_n 0, 1) := by decide +kernel
theorem dX8_cosine_61 : decode cX8_cosine 61 = .ok (.getfield 16, 3) := by decide +kernel
theorem dX8_cosine_64 : decode cX8_cosine 64 = .ok (.iload_n 1, 1) := by decide +kernel
theorem dX8_cosine_65 : decode cX8_cosine 65 = .ok (.iload_n 2, 1) := by decide +kernel
theorem dX8_cosine_66 : decode cX8_cosine 66 = .ok (.iload_n 3, 1) := by decide +kernel
theorem dX8_cosine_67 : decode cX8_cosine 67 = .ok (.invokevirtual 97, 3) := by decide +kernel
theorem dX8_cosine_70 : decode cX8_cosine 70 = .ok (.i2d, 1) := by decide +kernel
theorem dX8_cosine_71 : decode cX8_cosine 71 = .ok (.dstore 5, 2) := by decide +kernel
theorem dX8_cosine_73 : decode cX8_cosine 73 = .ok (.dload 5, 2) := by decide +kernel
theorem dX8_cosine_75 : decode cX8_cosine 75 = .ok (.aload_n 0, 1) := by decide +kernel
theorem dX8_cosine_76 : decode cX8_cosine 76 = .ok (.iload_n 1, 1) := by decide +kernel
theorem dX8_cosine_77 : decode cX8_cosine 77 = .ok (.invokevirtual 102, 3) := by decide +kernel
theorem dX8_cosine_80 : decode cX8_cosine 80 = .ok (.invokestatic 125, 3) := by decide +kernel
theorem dX8_cosine_83 : decode cX8_cosine 83 = .ok (.iload 4, 2) := by decide +kernel
theorem dX8_cosine_85 : decode cX8_cosine 85 = .ok (.invokestatic 125, 3) := by decide +kernel
theorem dX8_cosine_88 : decode cX8_cosine 88 = .ok (.dmul, 1) := by decide +kernel
theorem dX8_cosine_89 : decode cX8_cosine 89 = .ok (.ddiv, 1) := by decide +kernel
theorem dX8_cosine_90 : decode cX8_cosine 90 = .ok (.dreturn, 1) := by decide +kernel
def bs_X8_isBright : List (List Cond) := [[.code yX8_isBright cX8_isBright 3 (some .boolean)], wsX8_isBright_r1, wsX8_isBright_r2, wsX80]
theorem bi_X8_isBright : ∀ w ∈ bs_X8_isBright.flatten, w ∈ wsX8_isBright := by
  have h : bs_X8_isBright.flatten = wsX8_isBright := by simp only [bs_X8_isBright, wsX8_isBright, List.flatten_cons, List.flatten_nil, List.append_assoc, List.append_nil, List.nil_append, List.cons_append]
  intro w hw; rw [h] at hw; exact hw
set_option maxRecDepth 20000 in
theorem ggX8_isBright_X8_isCell : GoodIn wsX8_isBright wsX8_isCell := goodIn_bb bs_X8_isBright bi_X8_isBright _ [(1, 4), (1, 5), (1, 6), (1, 7), (1, 3), (1, 8)] rfl (by decide +kernel)
set_option maxRecDepth 20000 in
theorem gX8_isBright_X8_isCell : GoodIn wsX8_isBright (va_wsS RX8 82 yX8_isCell wsX8_isCell) := goodIn_app (goodIn_bb bs_X8_isBright bi_X8_isBright _ [(1, 1), (1, 2), (1, 3)] rfl (by decide +kernel)) ggX8_isBright_X8_isCell
set_option maxRecDepth 20000 in
theorem ggX8_isBright_X8_isTime : GoodIn wsX8_isBright wsX8_isTime := goodIn_bb bs_X8_isBright bi_X8_isBright _ [(1, 11), (1, 12), (1, 6), (1, 7), (1, 3), (1, 8)] rfl (by decide +kernel)
set_option maxRecDepth 20000 in
theorem gX8_isBright_X8_isTime : GoodIn wsX8_isBright (va_wsS RX8 114 yX8_isTime wsX8_isTime) := goodIn_app (goodIn_bb bs_X8_isBright bi_X8_isBright _ [(1, 9), (1, 10), (1, 3)] rfl (by decide +kernel)) ggX8_isBright_X8_isTime
set_option maxRecDepth 20000 in
theorem ggX8_isBright_X8_refused : GoodIn wsX8_isBright wsX8_refused := goodIn_bb bs_X8_isBright bi_X8_isBright _ [(1, 16), (1, 17), (3, 0), (3, 1), (3, 2), (3, 3), (3, 4), (3, 5), (3, 6), (3, 7), (3, 8), (3, 9), (3, 10), (3, 11), (3, 12), (3, 13), (3, 14), (3, 15), (3, 16), (3, 17), (3, 18)] rfl (by decide +kernel)
set_option maxRecDepth 20000 in
theorem gX8_isBright_X8_refused : GoodIn wsX8_isBright (wsV RX8 88 RX8 yX8_refused wsX8_refused) := goodIn_app (goodIn_bb bs_X8_isBright bi_X8_isBright _ [(1, 13), (1, 14), (1, 15), (1, 3)] rfl (by decide +kernel)) ggX8_isBright_X8_refused
set_option maxRecDepth 20000 in
theorem ggX8_isBright_X8_isBrightIn : GoodIn wsX8_isBright wsX8_isBrightIn := goodIn_bb bs_X8_isBright bi_X8_isBright _ [(1, 21), (1, 22), (1, 23), (2, 0), (2, 1), (1, 3), (2, 2), (2, 3), (2, 4), (2, 5), (2, 6), (2, 7), (2, 8), (2, 9), (2, 10), (2, 11), (2, 12), (2, 13), (3, 0), (3, 1), (3, 2), (3, 3), (3, 4), (3, 5), (3, 6), (3, 7), (3, 8), (3, 9), (3, 10), (3, 11), (3, 12), (3, 13), (3, 14), (3, 15), (3, 16), (3, 17), (3, 18)] rfl (by decide +kernel)
set_option maxRecDepth 20000 in
theorem gX8_isBright_X8_isBrightIn : GoodIn wsX8_isBright (wsV RX8 110 RX8 yX8_isBrightIn wsX8_isBrightIn) := goodIn_app (goodIn_bb bs_X8_isBright bi_X8_isBright _ [(1, 18), (1, 19), (1, 20), (1, 3)] rfl (by decide +kernel)) ggX8_isBright_X8_isBrightIn
theorem dX8_isBright_0 : decode cX8_isBright 0 = .ok (.aload_n 0, 1) := by decide +kernel
theorem dX8_isBright_1 : decode cX8_isBright 1 = .ok (.iload_n 1, 1) := by decide +kernel
theorem dX8_isBright_2 : decode cX8_isBright 2 = .ok (.invokestatic 82, 3) := by decide +kernel
theorem dX8_isBright_5 : decode cX8_isBright 5 = .ok (.ifCond .ne 7, 3) := by decide +kernel
theorem dX8_isBright_8 : decode cX8_isBright 8 = .ok (.iconst 1, 1) := by decide +kernel
theorem dX8_isBright_9 : decode cX8_isBright 9 = .ok (.goto 15, 3) := by decide +kernel
theorem dX8_isBright_12 : decode cX8_isBright 12 = .ok (.iload_n 2, 1) := by decide +kernel
theorem dX8_isBright_13 : decode cX8_isBright 13 = .ok (.invokestatic 114, 3) := by decide +kernel
theorem dX8_isBright_16 : decode cX8_isBright 16 = .ok (.ifCond .ne 7, 3) := by decide +kernel
theorem dX8_isBright_19 : decode cX8_isBright 19 = .ok (.iconst 2, 1) := by decide +kernel
theorem dX8_isBright_20 : decode cX8_isBright 20 = .ok (.goto 4, 3) := by decide +kernel
theorem dX8_isBright_23 : decode cX8_isBright 23 = .ok (.iconst 0, 1) := by decide +kernel
theorem dX8_isBright_24 : decode cX8_isBright 24 = .ok (.invokevirtual 88, 3) := by decide +kernel
theorem dX8_isBright_27 : decode cX8_isBright 27 = .ok (.ifCond .eq 5, 3) := by decide +kernel
theorem dX8_isBright_30 : decode cX8_isBright 30 = .ok (.iconst 0, 1) := by decide +kernel
theorem dX8_isBright_31 : decode cX8_isBright 31 = .ok (.ireturn, 1) := by decide +kernel
theorem dX8_isBright_32 : decode cX8_isBright 32 = .ok (.aload_n 0, 1) := by decide +kernel
theorem dX8_isBright_33 : decode cX8_isBright 33 = .ok (.aload_n 0, 1) := by decide +kernel
theorem dX8_isBright_34 : decode cX8_isBright 34 = .ok (.getfield 16, 3) := by decide +kernel
theorem dX8_isBright_37 : decode cX8_isBright 37 = .ok (.iload_n 1, 1) := by decide +kernel
theorem dX8_isBright_38 : decode cX8_isBright 38 = .ok (.iload_n 2, 1) := by decide +kernel
theorem dX8_isBright_39 : decode cX8_isBright 39 = .ok (.invokevirtual 110, 3) := by decide +kernel
theorem dX8_isBright_42 : decode cX8_isBright 42 = .ok (.ireturn, 1) := by decide +kernel
def bs_X8_brightCells : List (List Cond) := [[.code yX8_brightCells cX8_brightCells 2 (some .int)], wsX8_brightCells_r1, wsX8_brightCells_r2, wsX80]
theorem bi_X8_brightCells : ∀ w ∈ bs_X8_brightCells.flatten, w ∈ wsX8_brightCells := by
  have h : bs_X8_brightCells.flatten = wsX8_brightCells := by simp only [bs_X8_brightCells, wsX8_brightCells, List.flatten_cons, List.flatten_nil, List.append_assoc, List.append_nil, List.nil_append, List.cons_append]
  intro w hw; rw [h] at hw; exact hw
set_option maxRecDepth 20000 in
theorem ggX8_brightCells_X8_isTime : GoodIn wsX8_brightCells wsX8_isTime := goodIn_bb bs_X8_brightCells bi_X8_brightCells _ [(1, 4), (1, 5), (1, 6), (1, 7), (1, 3), (1, 8)] rfl (by decide +kernel)
set_option maxRecDepth 20000 in
theorem gX8_brightCells_X8_isTime : GoodIn wsX8_brightCells (va_wsS RX8 114 yX8_isTime wsX8_isTime) := goodIn_app (goodIn_bb bs_X8_brightCells bi_X8_brightCells _ [(1, 1), (1, 2), (1, 3)] rfl (by decide +kernel)) ggX8_brightCells_X8_isTime
set_option maxRecDepth 20000 in
theorem ggX8_brightCells_X8_refused : GoodIn wsX8_brightCells wsX8_refused := goodIn_bb bs_X8_brightCells bi_X8_brightCells _ [(1, 12), (1, 13), (3, 0), (3, 1), (3, 2), (3, 3), (3, 4), (3, 5), (3, 6), (3, 7), (3, 8), (3, 9), (3, 10), (3, 11), (3, 12), (3, 13), (3, 14), (3, 15), (3, 16), (3, 17), (3, 18)] rfl (by decide +kernel)
set_option maxRecDepth 20000 in
theorem gX8_brightCells_X8_refused : GoodIn wsX8_brightCells (wsV RX8 88 RX8 yX8_refused wsX8_refused) := goodIn_app (goodIn_bb bs_X8_brightCells bi_X8_brightCells _ [(1, 9), (1, 10), (1, 11), (1, 3)] rfl (by decide +kernel)) ggX8_brightCells_X8_refused
set_option maxRecDepth 20000 in
theorem ggX8_brightCells_X8_brightIn : GoodIn wsX8_brightCells wsX8_brightIn := goodIn_bb bs_X8_brightCells bi_X8_brightCells _ [(1, 17), (1, 18), (1, 19), (1, 20), (1, 3), (1, 21), (1, 22), (1, 23), (2, 0), (2, 1), (2, 2), (2, 3), (2, 4), (2, 5), (2, 6), (2, 7), (2, 8), (2, 9), (2, 10), (2, 11), (2, 12), (2, 13), (3, 0), (3, 1), (3, 2), (3, 3), (3, 4), (3, 5), (3, 6), (3, 7), (3, 8), (3, 9), (3, 10), (3, 11), (3, 12), (3, 13), (3, 14), (3, 15), (3, 16), (3, 17), (3, 18)] rfl (by decide +kernel)
set_option maxRecDepth 20000 in
theorem gX8_brightCells_X8_brightIn : GoodIn wsX8_brightCells (wsV RX8 129 RX8 yX8_brightIn wsX8_brightIn) := goodIn_app (goodIn_bb bs_X8_brightCells bi_X8_brightCells _ [(1, 14), (1, 15), (1, 16), (1, 3)] rfl (by decide +kernel)) ggX8_brightCells_X8_brightIn
theorem dX8_brightCells_0 : decode cX8_brightCells 0 = .ok (.aload_n 0, 1) := by decide +kernel
theorem dX8_brightCells_1 : decode cX8_brightCells 1 = .ok (.iload_n 1, 1) := by decide +kernel
theorem dX8_brightCells_2 : decode cX8_brightCells 2 = .ok (.invokestatic 114, 3) := by decide +kernel
theorem dX8_brightCells_5 : decode cX8_brightCells 5 = .ok (.ifCond .eq 7, 3) := by decide +kernel
theorem dX8_brightCells_8 : decode cX8_brightCells 8 = .ok (.iconst 0, 1) := by decide +kernel
theorem dX8_brightCells_9 : decode cX8_brightCells 9 = .ok (.goto 4, 3) := by decide +kernel
theorem dX8_brightCells_12 : decode cX8_brightCells 12 = .ok (.iconst 1, 1) := by decide +kernel
theorem dX8_brightCells_13 : decode cX8_brightCells 13 = .ok (.invokevirtual 88, 3) := by decide +kernel
theorem dX8_brightCells_16 : decode cX8_brightCells 16 = .ok (.ifCond .eq 5, 3) := by decide +kernel
theorem dX8_brightCells_19 : decode cX8_brightCells 19 = .ok (.iconst 0, 1) := by decide +kernel
theorem dX8_brightCells_20 : decode cX8_brightCells 20 = .ok (.ireturn, 1) := by decide +kernel
theorem dX8_brightCells_21 : decode cX8_brightCells 21 = .ok (.aload_n 0, 1) := by decide +kernel
theorem dX8_brightCells_22 : decode cX8_brightCells 22 = .ok (.aload_n 0, 1) := by decide +kernel
theorem dX8_brightCells_23 : decode cX8_brightCells 23 = .ok (.getfield 16, 3) := by decide +kernel
theorem dX8_brightCells_26 : decode cX8_brightCells 26 = .ok (.iload_n 1, 1) := by decide +kernel
theorem dX8_brightCells_27 : decode cX8_brightCells 27 = .ok (.invokevirtual 129, 3) := by decide +kernel
theorem dX8_brightCells_30 : decode cX8_brightCells 30 = .ok (.ireturn, 1) := by decide +kernel
def bs_X8_firstBright : List (List Cond) := [[.code yX8_firstBright cX8_firstBright 4 (some .int)], wsX8_firstBright_r1, wsX8_firstBright_r2, wsX80]
theorem bi_X8_firstBright : ∀ w ∈ bs_X8_firstBright.flatten, w ∈ wsX8_firstBright := by
  have h : bs_X8_firstBright.flatten = wsX8_firstBright := by simp only [bs_X8_firstBright, wsX8_firstBright, List.flatten_cons, List.flatten_nil, List.append_assoc, List.append_nil, List.nil_append, List.cons_append]
  intro w hw; rw [h] at hw; exact hw
set_option maxRecDepth 20000 in
theorem ggX8_firstBright_X8_isCell : GoodIn wsX8_firstBright wsX8_isCell := goodIn_bb bs_X8_firstBright bi_X8_firstBright _ [(1, 4), (1, 5), (1, 6), (1, 7), (1, 3), (1, 8)] rfl (by decide +kernel)
set_option maxRecDepth 20000 in
theorem gX8_firstBright_X8_isCell : GoodIn wsX8_firstBright (va_wsS RX8 82 yX8_isCell wsX8_isCell) := goodIn_app (goodIn_bb bs_X8_firstBright bi_X8_firstBright _ [(1, 1), (1, 2), (1, 3)] rfl (by decide +kernel)) ggX8_firstBright_X8_isCell
set_option maxRecDepth 20000 in
theorem ggX8_firstBright_X8_isTime : GoodIn wsX8_firstBright wsX8_isTime := goodIn_bb bs_X8_firstBright bi_X8_firstBright _ [(1, 11), (1, 12), (1, 6), (1, 7), (1, 3), (1, 8)] rfl (by decide +kernel)
set_option maxRecDepth 20000 in
theorem gX8_firstBright_X8_isTime : GoodIn wsX8_firstBright (va_wsS RX8 114 yX8_isTime wsX8_isTime) := goodIn_app (goodIn_bb bs_X8_firstBright bi_X8_firstBright _ [(1, 9), (1, 10), (1, 3)] rfl (by decide +kernel)) ggX8_firstBright_X8_isTime
set_option maxRecDepth 20000 in
theorem ggX8_firstBright_X8_refused : GoodIn wsX8_firstBright wsX8_refused := goodIn_bb bs_X8_firstBright bi_X8_firstBright _ [(1, 16), (1, 17), (3, 0), (3, 1), (3, 2), (3, 3), (3, 4), (3, 5), (3, 6), (3, 7), (3, 8), (3, 9), (3, 10), (3, 11), (3, 12), (3, 13), (3, 14), (3, 15), (3, 16), (3, 17), (3, 18)] rfl (by decide +kernel)
set_option maxRecDepth 20000 in
theorem gX8_firstBright_X8_refused : GoodIn wsX8_firstBright (wsV RX8 88 RX8 yX8_refused wsX8_refused) := goodIn_app (goodIn_bb bs_X8_firstBright bi_X8_firstBright _ [(1, 13), (1, 14), (1, 15), (1, 3)] rfl (by decide +kernel)) ggX8_firstBright_X8_refused
set_option maxRecDepth 20000 in
theorem ggX8_firstBright_X8_isBrightIn : GoodIn wsX8_firstBright wsX8_isBrightIn := goodIn_bb bs_X8_firstBright bi_X8_firstBright _ [(1, 21), (1, 22), (1, 23), (2, 0), (2, 1), (1, 3), (2, 2), (2, 3), (2, 4), (2, 5), (2, 6), (2, 7), (2, 8), (2, 9), (2, 10), (2, 11), (2, 12), (2, 13), (3, 0), (3, 1), (3, 2), (3, 3), (3, 4), (3, 5), (3, 6), (3, 7), (3, 8), (3, 9), (3, 10), (3, 11), (3, 12), (3, 13), (3, 14), (3, 15), (3, 16), (3, 17), (3, 18)] rfl (by decide +kernel)
set_option maxRecDepth 20000 in
theorem gX8_firstBright_X8_isBrightIn : GoodIn wsX8_firstBright (wsV RX8 110 RX8 yX8_isBrightIn wsX8_isBrightIn) := goodIn_app (goodIn_bb bs_X8_firstBright bi_X8_firstBright _ [(1, 18), (1, 19), (1, 20), (1, 3)] rfl (by decide +kernel)) ggX8_firstBright_X8_isBrightIn
theorem dX8_firstBright_0 : decode cX8_firstBright 0 = .ok (.aload_n 0, 1) := by decide +kernel
theorem dX8_firstBright_1 : decode cX8_firstBright 1 = .ok (.iload_n 1, 1) := by decide +kernel
theorem dX8_firstBright_2 : decode cX8_firstBright 2 = .ok (.invokestatic 82, 3) := by decide +kernel
theorem dX8_firstBright_5 : decode cX8_firstBright 5 = .ok (.ifCond .ne 7, 3) := by decide +kernel
theorem dX8_firstBright_8 : decode cX8_firstBright 8 = .ok (.iconst 1, 1) := by decide +kernel
theorem dX8_firstBright_9 : decode cX8_firstBright 9 = .ok (.goto 15, 3) := by decide +kernel
theorem dX8_firstBright_12 : decode cX8_firstBright 12 = .ok (.iload_n 2, 1) := by decide +kernel
theorem dX8_firstBright_13 : decode cX8_firstBright 13 = .ok (.invokestatic 114, 3) := by decide +kernel
theorem dX8_firstBright_16 : decode cX8_firstBright 16 = .ok (.ifCond .ne 7, 3) := by decide +kernel
theorem dX8_firstBright_19 : decode cX8_firstBright 19 = .ok (.iconst 2, 1) := by decide +kernel
theorem dX8_firstBright_20 : decode cX8_firstBright 20 = .ok (.goto 4, 3) := by decide +kernel
theorem dX8_firstBright_23 : decode cX8_firstBright 23 = .ok (.iconst 0, 1) := by decide +kernel
theorem dX8_firstBright_24 : decode cX8_firstBright 24 = .ok (.invokevirtual 88, 3) := by decide +kernel
theorem dX8_firstBright_27 : decode cX8_firstBright 27 = .ok (.ifCond .eq 5, 3) := by decide +kernel
theorem dX8_firstBright_30 : decode cX8_firstBright 30 = .ok (.iconst 0, 1) := by decide +kernel
theorem dX8_firstBright_31 : decode cX8_firstBright 31 = .ok (.ireturn, 1) := by decide +kernel
theorem dX8_firstBright_32 : decode cX8_firstBright 32 = .ok (.iload_n 2, 1) := by decide +kernel
theorem dX8_firstBright_33 : decode cX8_firstBright 33 = .ok (.istore_n 3, 1) := by decide +kernel
theorem dX8_firstBright_34 : decode cX8_firstBright 34 = .ok (.iload_n 3, 1) := by decide +kernel
theorem dX8_firstBright_35 : decode cX8_firstBright 35 = .ok (.sipush 300, 3) := by decide +kernel
theorem dX8_firstBright_38 : decode cX8_firstBright 38 = .ok (.if_icmp .gt 24, 3) := by decide +kernel
theorem dX8_firstBright_41 : decode cX8_firstBright 41 = .ok (.aload_n 0, 1) := by decide +kernel
theorem dX8_firstBright_42 : decode cX8_firstBright 42 = .ok (.aload_n 0, 1) := by decide +kernel
theorem dX8_firstBright_43 : decode cX8_firstBright 43 = .ok (.getfield 16, 3) := by decide +kernel
theorem dX8_firstBright_46 : decode cX8_firstBright 46 = .ok (.iload_n 1, 1) := by decide +kernel
theorem dX8_firstBright_47 : decode cX8_firstBright 47 = .ok (.iload_n 3, 1) := by decide +kernel
theorem dX8_firstBright_48 : decode cX8_firstBright 48 = .ok (.invokevirtual 110, 3) := by decide +kernel
theorem dX8_firstBright_51 : decode cX8_firstBright 51 = .ok (.ifCond .eq 5, 3) := by decide +kernel
theorem dX8_firstBright_54 : decode cX8_firstBright 54 = .ok (.iload_n 3, 1) := by decide +kernel
theorem dX8_firstBright_55 : decode cX8_firstBright 55 = .ok (.ireturn, 1) := by decide +kernel
theorem dX8_firstBright_56 : decode cX8_firstBright 56 = .ok (.iinc 3 1, 3) := by decide +kernel
theorem dX8_firstBright_59 : decode cX8_firstBright 59 = .ok (.goto (-25), 3) := by decide +kernel
theorem dX8_firstBright_62 : decode cX8_firstBright 62 = .ok (.bipush (-9), 2) := by decide +kernel
theorem dX8_firstBright_64 : decode cX8_firstBright 64 = .ok (.ireturn, 1) := by decide +kernel
theorem dX8_clock_0 : decode cX8_clock 0 = .ok (.aload_n 0, 1) := by decide +kernel
theorem dX8_clock_1 : decode cX8_clock 1 = .ok (.iconst 0, 1) := by decide +kernel
theorem dX8_clock_2 : decode cX8_clock 2 = .ok (.putfield 57, 3) := by decide +kernel
theorem dX8_clock_5 : decode cX8_clock 5 = .ok (.aload_n 0, 1) := by decide +kernel
theorem dX8_clock_6 : decode cX8_clock 6 = .ok (.getfield 16, 3) := by decide +kernel
theorem dX8_clock_9 : decode cX8_clock 9 = .ok (.bipush 21, 2) := by decide +kernel
theorem dX8_clock_11 : decode cX8_clock 11 = .ok (.iaload, 1) := by decide +kernel
theorem dX8_clock_12 : decode cX8_clock 12 = .ok (.ireturn, 1) := by decide +kernel
theorem dX8_position_0 : decode cX8_position 0 = .ok (.aload_n 0, 1) := by decide +kernel
theorem dX8_position_1 : decode cX8_position 1 = .ok (.iconst 0, 1) := by decide +kernel
theorem dX8_position_2 : decode cX8_position 2 = .ok (.putfield 57, 3) := by decide +kernel
theorem dX8_position_5 : decode cX8_position 5 = .ok (.aload_n 0, 1) := by decide +kernel
theorem dX8_position_6 : decode cX8_position 6 = .ok (.getfield 16, 3) := by decide +kernel
theorem dX8_position_9 : decode cX8_position 9 = .ok (.bipush 22, 2) := by decide +kernel
theorem dX8_position_11 : decode cX8_position 11 = .ok (.iaload, 1) := by decide +kernel
theorem dX8_position_12 : decode cX8_position 12 = .ok (.ireturn, 1) := by decide +kernel
theorem dX8_isClosed_0 : decode cX8_isClosed 0 = .ok (.aload_n 0, 1) := by decide +kernel
theorem dX8_isClosed_1 : decode cX8_isClosed 1 = .ok (.iconst 0, 1) := by decide +kernel
theorem dX8_isClosed_2 : decode cX8_isClosed 2 = .ok (.putfield 57, 3) := by decide +kernel
theorem dX8_isClosed_5 : decode cX8_isClosed 5 = .ok (.aload_n 0, 1) := by decide +kernel
theorem dX8_isClosed_6 : decode cX8_isClosed 6 = .ok (.getfield 16, 3) := by decide +kernel
theorem dX8_isClosed_9 : decode cX8_isClosed 9 = .ok (.bipush 23, 2) := by decide +kernel
theorem dX8_isClosed_11 : decode cX8_isClosed 11 = .ok (.iaload, 1) := by decide +kernel
theorem dX8_isClosed_12 : decode cX8_isClosed 12 = .ok (.iconst 1, 1) := by decide +kernel
theorem dX8_isClosed_13 : decode cX8_isClosed 13 = .ok (.if_icmp .ne 7, 3) := by decide +kernel
theorem dX8_isClosed_16 : decode cX8_isClosed 16 = .ok (.iconst 1, 1) := by decide +kernel
theorem dX8_isClosed_17 : decode cX8_isClosed 17 = .ok (.goto 4, 3) := by decide +kernel
theorem dX8_isClosed_20 : decode cX8_isClosed 20 = .ok (.iconst 0, 1) := by decide +kernel
theorem dX8_isClosed_21 : decode cX8_isClosed 21 = .ok (.ireturn, 1) := by decide +kernel
theorem dX8_requestCount_0 : decode cX8_requestCount 0 = .ok (.aload_n 0, 1) := by decide +kernel
theorem dX8_requestCount_1 : decode cX8_requestCount 1 = .ok (.iconst 0, 1) := by decide +kernel
theorem dX8_requestCount_2 : decode cX8_requestCount 2 = .ok (.putfield 57, 3) := by decide +kernel
theorem dX8_requestCount_5 : decode cX8_requestCount 5 = .ok (.aload_n 0, 1) := by decide +kernel
theorem dX8_requestCount_6 : decode cX8_requestCount 6 = .ok (.getfield 16, 3) := by decide +kernel
theorem dX8_requestCount_9 : decode cX8_requestCount 9 = .ok (.bipush 24, 2) := by decide +kernel
theorem dX8_requestCount_11 : decode cX8_requestCount 11 = .ok (.iaload, 1) := by decide +kernel
theorem dX8_requestCount_12 : decode cX8_requestCount 12 = .ok (.ireturn, 1) := by decide +kernel
theorem dX8_note_0 : decode cX8_note 0 = .ok (.iconst 0, 1) := by decide +kernel
theorem dX8_note_1 : decode cX8_note 1 = .ok (.istore_n 1, 1) := by decide +kernel
theorem dX8_note_2 : decode cX8_note 2 = .ok (.iload_n 1, 1) := by decide +kernel
theorem dX8_note_3 : decode cX8_note 3 = .ok (.bipush 37, 2) := by decide +kernel
theorem dX8_note_5 : decode cX8_note 5 = .ok (.if_icmp .ge 29, 3) := by decide +kernel
theorem dX8_note_8 : decode cX8_note 8 = .ok (.aload_n 0, 1) := by decide +kernel
theorem dX8_note_9 : decode cX8_note 9 = .ok (.getfield 22, 3) := by decide +kernel
theorem dX8_note_12 : decode cX8_note 12 = .ok (.bipush 37, 2) := by decide +kernel
theorem dX8_note_14 : decode cX8_note 14 = .ok (.aload_n 0, 1) := by decide +kernel
theorem dX8_note_15 : decode cX8_note 15 = .ok (.getfield 133, 3) := by decide +kernel
theorem dX8_note_18 : decode cX8_note 18 = .ok (.imul, 1) := by decide +kernel
theorem dX8_note_19 : decode cX8_note 19 = .ok (.iload_n 1, 1) := by decide +kernel
theorem dX8_note_20 : decode cX8_note 20 = .ok (.iadd, 1) := by decide +kernel
theorem dX8_note_21 : decode cX8_note 21 = .ok (.aload_n 0, 1) := by decide +kernel
theorem dX8_note_22 : decode cX8_note 22 = .ok (.getfield 16, 3) := by decide +kernel
theorem dX8_note_25 : decode cX8_note 25 = .ok (.iload_n 1, 1) := by decide +kernel
theorem dX8_note_26 : decode cX8_note 26 = .ok (.iaload, 1) := by decide +kernel
theorem dX8_note_27 : decode cX8_note 27 = .ok (.iastore, 1) := by decide +kernel
theorem dX8_note_28 : decode cX8_note 28 = .ok (.iinc 1 1, 3) := by decide +kernel
theorem dX8_note_31 : decode cX8_note 31 = .ok (.goto (-29), 3) := by decide +kernel
theorem dX8_note_34 : decode cX8_note 34 = .ok (.aload_n 0, 1) := by decide +kernel
theorem dX8_note_35 : decode cX8_note 35 = .ok (.aload_n 0, 1) := by decide +kernel
theorem dX8_note_36 : decode cX8_note 36 = .ok (.getfield 133, 3) := by decide +kernel
theorem dX8_note_39 : decode cX8_note 39 = .ok (.iconst 1, 1) := by decide +kernel
theorem dX8_note_40 : decode cX8_note 40 = .ok (.iadd, 1) := by decide +kernel
theorem dX8_note_41 : decode cX8_note 41 = .ok (.bipush 14, 2) := by decide +kernel
theorem dX8_note_43 : decode cX8_note 43 = .ok (.irem, 1) := by decide +kernel
theorem dX8_note_44 : decode cX8_note 44 = .ok (.putfield 133, 3) := by decide +kernel
theorem dX8_note_47 : decode cX8_note 47 = .ok (.aload_n 0, 1) := by decide +kernel
theorem dX8_note_48 : decode cX8_note 48 = .ok (.aload_n 0, 1) := by decide +kernel
theorem dX8_note_49 : decode cX8_note 49 = .ok (.getfield 136, 3) := by decide +kernel
theorem dX8_note_52 : decode cX8_note 52 = .ok (.bipush 14, 2) := by decide +kernel
theorem dX8_note_54 : decode cX8_note 54 = .ok (.if_icmp .ge 12, 3) := by decide +kernel
theorem dX8_note_57 : decode cX8_note 57 = .ok (.aload_n 0, 1) := by decide +kernel
theorem dX8_note_58 : decode cX8_note 58 = .ok (.getfield 136, 3) := by decide +kernel
theorem dX8_note_61 : decode cX8_note 61 = .ok (.iconst 1, 1) := by decide +kernel
theorem dX8_note_62 : decode cX8_note 62 = .ok (.iadd, 1) := by decide +kernel
theorem dX8_note_63 : decode cX8_note 63 = .ok (.goto 5, 3) := by decide +kernel
theorem dX8_note_66 : decode cX8_note 66 = .ok (.bipush 14, 2) := by decide +kernel
theorem dX8_note_68 : decode cX8_note 68 = .ok (.putfield 136, 3) := by decide +kernel
theorem dX8_note_71 : decode cX8_note 71 = .ok (.return_, 1) := by decide +kernel
def bs_X8_isOpenInLight : List (List Cond) := [[.code yX8_isOpenInLight cX8_isOpenInLight 2 (some .boolean)], [.methodLink RX8 110 yX8_isBrightIn, .instanceMethod yX8_isBrightIn, .selects RX8 yX8_isBrightIn yX8_isBrightIn, .initialized RX8, .code yX8_isBrightIn cX8_isBrightIn 10 (some .boolean), .constantLong RX8 100 (10000), .methodLink RX8 97 yX8_productOf, .instanceMethod yX8_productOf, .selects RX8 yX8_productOf yX8_productOf, .code yX8_productOf cX8_productOf 7 (some .int), .fieldLink RX8 7 "SlewPlannerModel" "vector" "[I", .methodLink RX8 93 yX8_directionOf, .static yX8_directionOf, .code yX8_directionOf cX8_directionOf 4 (some .int), .methodLink RX8 102 yX8_squareOfCell, .instanceMethod yX8_squareOfCell, .selects RX8 yX8_squareOfCell yX8_squareOfCell, .code yX8_squareOfCell cX8_squareOfCell 4 (some .int), .methodLink RX8 106 yX8_squareOf, .static yX8_squareOf, .code yX8_squareOf cX8_squareOf 6 (some .int)], wsX80]
theorem bi_X8_isOpenInLight : ∀ w ∈ bs_X8_isOpenInLight.flatten, w ∈ wsX8_isOpenInLight := by
  have h : bs_X8_isOpenInLight.flatten = wsX8_isOpenInLight := by simp only [bs_X8_isOpenInLight, wsX8_isOpenInLight, List.flatten_cons, List.flatten_nil, List.append_assoc, List.append_nil, List.nil_append, List.cons_append]
  intro w hw; rw [h] at hw; exact hw
set_option maxRecDepth 20000 in
theorem ggX8_isOpenInLight_X8_isBrightIn : GoodIn wsX8_isOpenInLight wsX8_isBrightIn := goodIn_bb bs_X8_isOpenInLight bi_X8_isOpenInLight _ [(1, 4), (1, 5), (1, 6), (1, 7), (1, 8), (1, 3), (1, 9), (1, 10), (1, 11), (1, 12), (1, 13), (1, 14), (1, 15), (1, 16), (1, 17), (1, 18), (1, 19), (1, 20), (2, 0), (2, 1), (2, 2), (2, 3), (2, 4), (2, 5), (2, 6), (2, 7), (2, 8), (2, 9), (2, 10), (2, 11), (2, 12), (2, 13), (2, 14), (2, 15), (2, 16), (2, 17), (2, 18)] rfl (by decide +kernel)
set_option maxRecDepth 20000 in
theorem gX8_isOpenInLight_X8_isBrightIn : GoodIn wsX8_isOpenInLight (wsV RX8 110 RX8 yX8_isBrightIn wsX8_isBrightIn) := goodIn_app (goodIn_bb bs_X8_isOpenInLight bi_X8_isOpenInLight _ [(1, 0), (1, 1), (1, 2), (1, 3)] rfl (by decide +kernel)) ggX8_isOpenInLight_X8_isBrightIn
theorem dX8_isOpenInLight_0 : decode cX8_isOpenInLight 0 = .ok (.aload_n 1, 1) := by decide +kernel
theorem dX8_isOpenInLight_1 : decode cX8_isOpenInLight 1 = .ok (.bipush 23, 2) := by decide +kernel
theorem dX8_isOpenInLight_3 : decode cX8_isOpenInLight 3 = .ok (.iaload, 1) := by decide +kernel
theorem dX8_isOpenInLight_4 : decode cX8_isOpenInLight 4 = .ok (.ifCond .ne 23, 3) := by decide +kernel
theorem dX8_isOpenInLight_7 : decode cX8_isOpenInLight 7 = .ok (.aload_n 0, 1) := by decide +kernel
theorem dX8_isOpenInLight_8 : decode cX8_isOpenInLight 8 = .ok (.aload_n 1, 1) := by decide +kernel
theorem dX8_isOpenInLight_9 : decode cX8_isOpenInLight 9 = .ok (.aload_n 1, 1) := by decide +kernel
theorem dX8_isOpenInLight_10 : decode cX8_isOpenInLight 10 = .ok (.bipush 22, 2) := by decide +kernel
theorem dX8_isOpenInLight_12 : decode cX8_isOpenInLight 12 = .ok (.iaload, 1) := by decide +kernel
theorem dX8_isOpenInLight_13 : decode cX8_isOpenInLight 13 = .ok (.aload_n 1, 1) := by decide +kernel
theorem dX8_isOpenInLight_14 : decode cX8_isOpenInLight 14 = .ok (.bipush 21, 2) := by decide +kernel
theorem dX8_isOpenInLight_16 : decode cX8_isOpenInLight 16 = .ok (.iaload, 1) := by decide +kernel
theorem dX8_isOpenInLight_17 : decode cX8_isOpenInLight 17 = .ok (.invokevirtual 110, 3) := by decide +kernel
theorem dX8_isOpenInLight_20 : decode cX8_isOpenInLight 20 = .ok (.ifCond .eq 7, 3) := by decide +kernel
theorem dX8_isOpenInLight_23 : decode cX8_isOpenInLight 23 = .ok (.iconst 1, 1) := by decide +kernel
theorem dX8_isOpenInLight_24 : decode cX8_isOpenInLight 24 = .ok (.goto 4, 3) := by decide +kernel
theorem dX8_isOpenInLight_27 : decode cX8_isOpenInLight 27 = .ok (.iconst 0, 1) := by decide +kernel
theorem dX8_isOpenInLight_28 : decode cX8_isOpenInLight 28 = .ok (.ireturn, 1) := by decide +kernel
def bs_X8_changed : List (List Cond) := [[.code yX8_changed cX8_changed 1 (some .int)], wsX8_changed_r1, wsX8_changed_r2, wsX80]
theorem bi_X8_changed : ∀ w ∈ bs_X8_changed.flatten, w ∈ wsX8_changed := by
  have h : bs_X8_changed.flatten = wsX8_changed := by simp only [bs_X8_changed, wsX8_changed, List.flatten_cons, List.flatten_nil, List.append_assoc, List.append_nil, List.nil_append, List.cons_append]
  intro w hw; rw [h] at hw; exact hw
set_option maxRecDepth 20000 in
theorem ggX8_changed_X8_isOpenInLight : GoodIn wsX8_changed wsX8_isOpenInLight := goodIn_bb bs_X8_changed bi_X8_changed _ [(1, 6), (1, 7), (1, 8), (1, 9), (1, 5), (1, 10), (1, 11), (1, 12), (1, 13), (1, 14), (1, 15), (1, 16), (1, 17), (1, 18), (1, 19), (1, 20), (1, 21), (1, 22), (1, 23), (2, 0), (2, 1), (2, 2), (3, 0), (3, 1), (3, 2), (3, 3), (3, 4), (3, 5), (3, 6), (3, 7), (3, 8), (3, 9), (3, 10), (3, 11), (3, 12), (3, 13), (3, 14), (3, 15), (3, 16), (3, 17), (3, 18)] rfl (by decide +kernel)
set_option maxRecDepth 20000 in
theorem gX8_changed_X8_isOpenInLight : GoodIn wsX8_changed (wsV RX8 139 RX8 yX8_isOpenInLight wsX8_isOpenInLight) := goodIn_app (goodIn_bb bs_X8_changed bi_X8_changed _ [(1, 2), (1, 3), (1, 4), (1, 5)] rfl (by decide +kernel)) ggX8_changed_X8_isOpenInLight
set_option maxRecDepth 20000 in
theorem ggX8_changed_X8_refused : GoodIn wsX8_changed wsX8_refused := goodIn_bb bs_X8_changed bi_X8_changed _ [(2, 6), (2, 7), (3, 0), (3, 1), (3, 2), (3, 3), (3, 4), (3, 5), (3, 6), (3, 7), (3, 8), (3, 9), (3, 10), (3, 11), (3, 12), (3, 13), (3, 14), (3, 15), (3, 16), (3, 17), (3, 18)] rfl (by decide +kernel)
set_option maxRecDepth 20000 in
theorem gX8_changed_X8_refused : GoodIn wsX8_changed (wsV RX8 88 RX8 yX8_refused wsX8_refused) := goodIn_app (goodIn_bb bs_X8_changed bi_X8_changed _ [(2, 3), (2, 4), (2, 5), (1, 5)] rfl (by decide +kernel)) ggX8_changed_X8_refused
set_option maxRecDepth 20000 in
theorem ggX8_changed_X8_note : GoodIn wsX8_changed wsX8_note := goodIn_bb bs_X8_changed bi_X8_changed _ [(2, 11), (2, 12), (2, 13), (1, 1), (2, 14), (3, 0), (3, 1), (3, 2), (3, 3), (3, 4), (3, 5), (3, 6), (3, 7), (3, 8), (3, 9), (3, 10), (3, 11), (3, 12), (3, 13), (3, 14), (3, 15), (3, 16), (3, 17), (3, 18)] rfl (by decide +kernel)
set_option maxRecDepth 20000 in
theorem gX8_changed_X8_note : GoodIn wsX8_changed (wsV RX8 143 RX8 yX8_note wsX8_note) := goodIn_app (goodIn_bb bs_X8_changed bi_X8_changed _ [(2, 8), (2, 9), (2, 10), (1, 5)] rfl (by decide +kernel)) ggX8_changed_X8_note
set_option maxRecDepth 20000 in
theorem ggX8_changed_X8_copy : GoodIn wsX8_changed wsX8_copy := goodIn_bb bs_X8_changed bi_X8_changed _ [(2, 17)] rfl (by decide +kernel)
set_option maxRecDepth 20000 in
theorem gX8_changed_X8_copy : GoodIn wsX8_changed (va_wsS RX8 146 yX8_copy wsX8_copy) := goodIn_app (goodIn_bb bs_X8_changed bi_X8_changed _ [(2, 15), (2, 16), (1, 5)] rfl (by decide +kernel)) ggX8_changed_X8_copy
set_option maxRecDepth 20000 in
theorem ggX8_changed_X8_brightIn : GoodIn wsX8_changed wsX8_brightIn := goodIn_bb bs_X8_changed bi_X8_changed _ [(2, 21), (1, 7), (1, 8), (1, 9), (1, 5), (1, 10), (1, 11), (1, 12), (1, 13), (1, 14), (1, 15), (1, 16), (1, 17), (1, 18), (1, 19), (1, 20), (1, 21), (1, 22), (1, 23), (2, 0), (2, 1), (2, 2), (3, 0), (3, 1), (3, 2), (3, 3), (3, 4), (3, 5), (3, 6), (3, 7), (3, 8), (3, 9), (3, 10), (3, 11), (3, 12), (3, 13), (3, 14), (3, 15), (3, 16), (3, 17), (3, 18)] rfl (by decide +kernel)
set_option maxRecDepth 20000 in
theorem gX8_changed_X8_brightIn : GoodIn wsX8_changed (wsV RX8 129 RX8 yX8_brightIn wsX8_brightIn) := goodIn_app (goodIn_bb bs_X8_changed bi_X8_changed _ [(2, 18), (2, 19), (2, 20), (1, 5)] rfl (by decide +kernel)) ggX8_changed_X8_brightIn
theorem dX8_changed_0 : decode cX8_changed 0 = .ok (.aload_n 0, 1) := by decide +kernel
theorem dX8_changed_1 : decode cX8_changed 1 = .ok (.aload_n 0, 1) := by decide +kernel
theorem dX8_changed_2 : decode cX8_changed 2 = .ok (.aload_n 0, 1) := by decide +kernel
theorem dX8_changed_3 : decode cX8_changed 3 = .ok (.getfield 19, 3) := by decide +kernel
theorem dX8_changed_6 : decode cX8_changed 6 = .ok (.invokevirtual 139, 3) := by decide +kernel
theorem dX8_changed_9 : decode cX8_changed 9 = .ok (.ifCond .eq 7, 3) := by decide +kernel
theorem dX8_changed_12 : decode cX8_changed 12 = .ok (.iconst 3, 1) := by decide +kernel
theorem dX8_changed_13 : decode cX8_changed 13 = .ok (.goto 4, 3) := by decide +kernel
theorem dX8_changed_16 : decode cX8_changed 16 = .ok (.iconst 0, 1) := by decide +kernel
theorem dX8_changed_17 : decode cX8_changed 17 = .ok (.invokevirtual 88, 3) := by decide +kernel
theorem dX8_changed_20 : decode cX8_changed 20 = .ok (.ifCond .eq 5, 3) := by decide +kernel
theorem dX8_changed_23 : decode cX8_changed 23 = .ok (.iconst 0, 1) := by decide +kernel
theorem dX8_changed_24 : decode cX8_changed 24 = .ok (.ireturn, 1) := by decide +kernel
theorem dX8_changed_25 : decode cX8_changed 25 = .ok (.aload_n 0, 1) := by decide +kernel
theorem dX8_changed_26 : decode cX8_changed 26 = .ok (.invokevirtual 143, 3) := by decide +kernel
theorem dX8_changed_29 : decode cX8_changed 29 = .ok (.aload_n 0, 1) := by decide +kernel
theorem dX8_changed_30 : decode cX8_changed 30 = .ok (.getfield 19, 3) := by decide +kernel
theorem dX8_changed_33 : decode cX8_changed 33 = .ok (.aload_n 0, 1) := by decide +kernel
theorem dX8_changed_34 : decode cX8_changed 34 = .ok (.getfield 16, 3) := by decide +kernel
theorem dX8_changed_37 : decode cX8_changed 37 = .ok (.invokestatic 146, 3) := by decide +kernel
theorem dX8_changed_40 : decode cX8_changed 40 = .ok (.aload_n 0, 1) := by decide +kernel
theorem dX8_changed_41 : decode cX8_changed 41 = .ok (.aload_n 0, 1) := by decide +kernel
theorem dX8_changed_42 : decode cX8_changed 42 = .ok (.getfield 16, 3) := by decide +kernel
theorem dX8_changed_45 : decode cX8_changed 45 = .ok (.aload_n 0, 1) := by decide +kernel
theorem dX8_changed_46 : decode cX8_changed 46 = .ok (.getfield 16, 3) := by decide +kernel
theorem dX8_changed_49 : decode cX8_changed 49 = .ok (.bipush 21, 2) := by decide +kernel
theorem dX8_changed_51 : decode cX8_changed 51 = .ok (.iaload, 1) := by decide +kernel
theorem dX8_changed_52 : decode cX8_changed 52 = .ok (.invokevirtual 129, 3) := by decide +kernel
theorem dX8_changed_55 : decode cX8_changed 55 = .ok (.ireturn, 1) := by decide +kernel
def bs_X8_areIn : List (List Cond) := [[.code yX8_areIn cX8_areIn 4 (some .boolean)], [.methodLink RX8 65 yX8_in, .static yX8_in, .initialized RX8, .code yX8_in cX8_in 6 (some .boolean)]]
theorem bi_X8_areIn : ∀ w ∈ bs_X8_areIn.flatten, w ∈ wsX8_areIn := by
  have h : bs_X8_areIn.flatten = wsX8_areIn := by simp only [bs_X8_areIn, wsX8_areIn, List.flatten_cons, List.flatten_nil, List.append_assoc, List.append_nil, List.nil_append, List.cons_append]
  intro w hw; rw [h] at hw; exact hw
set_option maxRecDepth 20000 in
theorem ggX8_areIn_X8_in : GoodIn wsX8_areIn wsX8_in := goodIn_bb bs_X8_areIn bi_X8_areIn _ [(1, 3)] rfl (by decide +kernel)
set_option maxRecDepth 20000 in
theorem gX8_areIn_X8_in : GoodIn wsX8_areIn (va_wsS RX8 65 yX8_in wsX8_in) := goodIn_app (goodIn_bb bs_X8_areIn bi_X8_areIn _ [(1, 0), (1, 1), (1, 2)] rfl (by decide +kernel)) ggX8_areIn_X8_in
theorem dX8_areIn_0 : decode cX8_areIn 0 = .ok (.iload_n 0, 1) := by decide +kernel
theorem dX8_areIn_1 : decode cX8_areIn 1 = .ok (.i2l, 1) := by decide +kernel
theorem dX8_areIn_2 : decode cX8_areIn 2 = .ok (.iload_n 3, 1) := by decide +kernel
theorem dX8_areIn_3 : decode cX8_areIn 3 = .ok (.ineg, 1) := by decide +kernel
theorem dX8_areIn_4 : decode cX8_areIn 4 = .ok (.i2l, 1) := by decide +kernel
theorem dX8_areIn_5 : decode cX8_areIn 5 = .ok (.iload_n 3, 1) := by decide +kernel
theorem dX8_areIn_6 : decode cX8_areIn 6 = .ok (.i2l, 1) := by decide +kernel
theorem dX8_areIn_7 : decode cX8_areIn 7 = .ok (.invokestatic 65, 3) := by decide +kernel
theorem dX8_areIn_10 : decode cX8_areIn 10 = .ok (.ifCond .eq 33, 3) := by decide +kernel
theorem dX8_areIn_13 : decode cX8_areIn 13 = .ok (.iload_n 1, 1) := by decide +kernel
theorem dX8_areIn_14 : decode cX8_areIn 14 = .ok (.i2l, 1) := by decide +kernel
theorem dX8_areIn_15 : decode cX8_areIn 15 = .ok (.iload_n 3, 1) := by decide +kernel
theorem dX8_areIn_16 : decode cX8_areIn 16 = .ok (.ineg, 1) := by decide +kernel
theorem dX8_areIn_17 : decode cX8_areIn 17 = .ok (.i2l, 1) := by decide +kernel
theorem dX8_areIn_18 : decode cX8_areIn 18 = .ok (.iload_n 3, 1) := by decide +kernel
theorem dX8_areIn_19 : decode cX8_areIn 19 = .ok (.i2l, 1) := by decide +kernel
theorem dX8_areIn_20 : decode cX8_areIn 20 = .ok (.invokestatic 65, 3) := by decide +kernel
theorem dX8_areIn_23 : decode cX8_areIn 23 = .ok (.ifCond .eq 20, 3) := by decide +kernel
theorem dX8_areIn_26 : decode cX8_areIn 26 = .ok (.iload_n 2, 1) := by decide +kernel
theorem dX8_areIn_27 : decode cX8_areIn 27 = .ok (.i2l, 1) := by decide +kernel
theorem dX8_areIn_28 : decode cX8_areIn 28 = .ok (.iload_n 3, 1) := by decide +kernel
theorem dX8_areIn_29 : decode cX8_areIn 29 = .ok (.ineg, 1) := by decide +kernel
theorem dX8_areIn_30 : decode cX8_areIn 30 = .ok (.i2l, 1) := by decide +kernel
theorem dX8_areIn_31 : decode cX8_areIn 31 = .ok (.iload_n 3, 1) := by decide +kernel
theorem dX8_areIn_32 : decode cX8_areIn 32 = .ok (.i2l, 1) := by decide +kernel
theorem dX8_areIn_33 : decode cX8_areIn 33 = .ok (.invokestatic 65, 3) := by decide +kernel
theorem dX8_areIn_36 : decode cX8_areIn 36 = .ok (.ifCond .eq 7, 3) := by decide +kernel
theorem dX8_areIn_39 : decode cX8_areIn 39 = .ok (.iconst 1, 1) := by decide +kernel
theorem dX8_areIn_40 : decode cX8_areIn 40 = .ok (.goto 4, 3) := by decide +kernel
theorem dX8_areIn_43 : decode cX8_areIn 43 = .ok (.iconst 0, 1) := by decide +kernel
theorem dX8_areIn_44 : decode cX8_areIn 44 = .ok (.ireturn, 1) := by decide +kernel
def bs_X8_setAxis : List (List Cond) := [[.code yX8_setAxis cX8_setAxis 6 (some .int)], wsX8_setAxis_r1, wsX8_setAxis_r2, wsX8_setAxis_r3, wsX80]
theorem bi_X8_setAxis : ∀ w ∈ bs_X8_setAxis.flatten, w ∈ wsX8_setAxis := by
  have h : bs_X8_setAxis.flatten = wsX8_setAxis := by simp only [bs_X8_setAxis, wsX8_setAxis, List.flatten_cons, List.flatten_nil, List.append_assoc, List.append_nil, List.nil_append, List.cons_append]
  intro w hw; rw [h] at hw; exact hw
set_option maxRecDepth 20000 in
theorem ggX8_setAxis_X8_areIn : GoodIn wsX8_setAxis wsX8_areIn := goodIn_bb bs_X8_setAxis bi_X8_setAxis _ [(1, 5), (1, 6), (1, 7), (1, 4), (1, 8)] rfl (by decide +kernel)
set_option maxRecDepth 20000 in
theorem gX8_setAxis_X8_areIn : GoodIn wsX8_setAxis (va_wsS RX8 150 yX8_areIn wsX8_areIn) := goodIn_app (goodIn_bb bs_X8_setAxis bi_X8_setAxis _ [(1, 2), (1, 3), (1, 4)] rfl (by decide +kernel)) ggX8_setAxis_X8_areIn
set_option maxRecDepth 20000 in
theorem ggX8_setAxis_X8_isThird : GoodIn wsX8_setAxis wsX8_isThird := goodIn_bb bs_X8_setAxis bi_X8_setAxis _ [(1, 11), (1, 12), (1, 6), (1, 7), (1, 4), (1, 8)] rfl (by decide +kernel)
set_option maxRecDepth 20000 in
theorem gX8_setAxis_X8_isThird : GoodIn wsX8_setAxis (va_wsS RX8 85 yX8_isThird wsX8_isThird) := goodIn_app (goodIn_bb bs_X8_setAxis bi_X8_setAxis _ [(1, 9), (1, 10), (1, 4)] rfl (by decide +kernel)) ggX8_setAxis_X8_isThird
set_option maxRecDepth 20000 in
theorem ggX8_setAxis_X8_refused : GoodIn wsX8_setAxis wsX8_refused := goodIn_bb bs_X8_setAxis bi_X8_setAxis _ [(1, 16), (1, 17), (4, 0), (4, 1), (4, 2), (4, 3), (4, 4), (4, 5), (4, 6), (4, 7), (4, 8), (4, 9), (4, 10), (4, 11), (4, 12), (4, 13), (4, 14), (4, 15), (4, 16), (4, 17), (4, 18)] rfl (by decide +kernel)
set_option maxRecDepth 20000 in
theorem gX8_setAxis_X8_refused : GoodIn wsX8_setAxis (wsV RX8 88 RX8 yX8_refused wsX8_refused) := goodIn_app (goodIn_bb bs_X8_setAxis bi_X8_setAxis _ [(1, 13), (1, 14), (1, 15), (1, 4)] rfl (by decide +kernel)) ggX8_setAxis_X8_refused
set_option maxRecDepth 20000 in
theorem ggX8_setAxis_X8_copy : GoodIn wsX8_setAxis wsX8_copy := goodIn_bb bs_X8_setAxis bi_X8_setAxis _ [(1, 20)] rfl (by decide +kernel)
set_option maxRecDepth 20000 in
theorem gX8_setAxis_X8_copy : GoodIn wsX8_setAxis (va_wsS RX8 146 yX8_copy wsX8_copy) := goodIn_app (goodIn_bb bs_X8_setAxis bi_X8_setAxis _ [(1, 18), (1, 19), (1, 4)] rfl (by decide +kernel)) ggX8_setAxis_X8_copy
set_option maxRecDepth 20000 in
theorem ggX8_setAxis_X8_changed : GoodIn wsX8_setAxis wsX8_changed := goodIn_bb bs_X8_setAxis bi_X8_setAxis _ [(2, 0), (1, 1), (1, 0), (2, 1), (2, 2), (2, 3), (1, 4), (2, 4), (2, 5), (2, 6), (2, 7), (2, 8), (2, 9), (2, 10), (2, 11), (2, 12), (2, 13), (2, 14), (2, 15), (2, 16), (2, 17), (2, 18), (2, 19), (2, 20), (2, 21), (2, 22), (2, 23), (3, 0), (1, 13), (1, 14), (1, 15), (1, 16), (1, 17), (3, 1), (3, 2), (3, 3), (3, 4), (3, 5), (3, 6), (3, 7), (1, 18), (1, 19), (1, 20), (3, 8), (3, 9), (3, 10), (3, 11), (4, 0), (4, 1), (4, 2), (4, 3), (4, 4), (4, 5), (4, 6), (4, 7), (4, 8), (4, 9), (4, 10), (4, 11), (4, 12), (4, 13), (4, 14), (4, 15), (4, 16), (4, 17), (4, 18)] rfl (by decide +kernel)
set_option maxRecDepth 20000 in
theorem gX8_setAxis_X8_changed : GoodIn wsX8_setAxis (wsV RX8 154 RX8 yX8_changed wsX8_changed) := goodIn_app (goodIn_bb bs_X8_setAxis bi_X8_setAxis _ [(1, 21), (1, 22), (1, 23), (1, 4)] rfl (by decide +kernel)) ggX8_setAxis_X8_changed
theorem dX8_setAxis_0 : decode cX8_setAxis 0 = .ok (.iload_n 2, 1) := by decide +kernel
theorem dX8_setAxis_1 : decode cX8_setAxis 1 = .ok (.iload_n 3, 1) := by decide +kernel
theorem dX8_setAxis_2 : decode cX8_setAxis 2 = .ok (.iload 4, 2) := by decide +kernel
theorem dX8_setAxis_4 : decode cX8_setAxis 4 = .ok (.bipush 99, 2) := by decide +kernel
theorem dX8_setAxis_6 : decode cX8_setAxis 6 = .ok (.invokestatic 150, 3) := by decide +kernel
theorem dX8_setAxis_9 : decode cX8_setAxis 9 = .ok (.ifCond .eq 20, 3) := by decide +kernel
theorem dX8_setAxis_12 : decode cX8_setAxis 12 = .ok (.iload_n 2, 1) := by decide +kernel
theorem dX8_setAxis_13 : decode cX8_setAxis 13 = .ok (.ifCond .ne 12, 3) := by decide +kernel
theorem dX8_setAxis_16 : decode cX8_setAxis 16 = .ok (.iload_n 3, 1) := by decide +kernel
theorem dX8_setAxis_17 : decode cX8_setAxis 17 = .ok (.ifCond .ne 8, 3) := by decide +kernel
theorem dX8_setAxis_20 : decode cX8_setAxis 20 = .ok (.iload 4, 2) := by decide +kernel
theorem dX8_setAxis_22 : decode cX8_setAxis 22 = .ok (.ifCond .eq 7, 3) := by decide +kernel
theorem dX8_setAxis_25 : decode cX8_setAxis 25 = .ok (.iconst 1, 1) := by decide +kernel
theorem dX8_setAxis_26 : decode cX8_setAxis 26 = .ok (.goto 4, 3) := by decide +kernel
theorem dX8_setAxis_29 : decode cX8_setAxis 29 = .ok (.iconst 0, 1) := by decide +kernel
theorem dX8_setAxis_30 : decode cX8_setAxis 30 = .ok (.istore 5, 2) := by decide +kernel
theorem dX8_setAxis_32 : decode cX8_setAxis 32 = .ok (.aload_n 0, 1) := by decide +kernel
theorem dX8_setAxis_33 : decode cX8_setAxis 33 = .ok (.iload_n 1, 1) := by decide +kernel
theorem dX8_setAxis_34 : decode cX8_setAxis 34 = .ok (.invokestatic 85, 3) := by decide +kernel
theorem dX8_setAxis_37 : decode cX8_setAxis 37 = .ok (.ifCond .ne 7, 3) := by decide +kernel
theorem dX8_setAxis_40 : decode cX8_setAxis 40 = .ok (.iconst 1, 1) := by decide +kernel
theorem dX8_setAxis_41 : decode cX8_setAxis 41 = .ok (.goto 13, 3) := by decide +kernel
theorem dX8_setAxis_44 : decode cX8_setAxis 44 = .ok (.iload 5, 2) := by decide +kernel
theorem dX8_setAxis_46 : decode cX8_setAxis 46 = .ok (.ifCond .ne 7, 3) := by decide +kernel
theorem dX8_setAxis_49 : decode cX8_setAxis 49 = .ok (.iconst 2, 1) := by decide +kernel
theorem dX8_setAxis_50 : decode cX8_setAxis 50 = .ok (.goto 4, 3) := by decide +kernel
theorem dX8_setAxis_53 : decode cX8_setAxis 53 = .ok (.iconst 0, 1) := by decide +kernel
theorem dX8_setAxis_54 : decode cX8_setAxis 54 = .ok (.invokevirtual 88, 3) := by decide +kernel
theorem dX8_setAxis_57 : decode cX8_setAxis 57 = .ok (.ifCond .eq 5, 3) := by decide +kernel
theorem dX8_setAxis_60 : decode cX8_setAxis 60 = .ok (.iconst 0, 1) := by decide +kernel
theorem dX8_setAxis_61 : decode cX8_setAxis 61 = .ok (.ireturn, 1) := by decide +kernel
theorem dX8_setAxis_62 : decode cX8_setAxis 62 = .ok (.aload_n 0, 1) := by decide +kernel
theorem dX8_setAxis_63 : decode cX8_setAxis 63 = .ok (.getfield 16, 3) := by decide +kernel
theorem dX8_setAxis_66 : decode cX8_setAxis 66 = .ok (.aload_n 0, 1) := by decide +kernel
theorem dX8_setAxis_67 : decode cX8_setAxis 67 = .ok (.getfield 19, 3) := by decide +kernel
theorem dX8_setAxis_70 : decode cX8_setAxis 70 = .ok (.invokestatic 146, 3) := by decide +kernel
theorem dX8_setAxis_73 : decode cX8_setAxis 73 = .ok (.aload_n 0, 1) := by decide +kernel
theorem dX8_setAxis_74 : decode cX8_setAxis 74 = .ok (.getfield 19, 3) := by decide +kernel
theorem dX8_setAxis_77 : decode cX8_setAxis 77 = .ok (.bipush 7, 2) := by decide +kernel
theorem dX8_setAxis_79 : decode cX8_setAxis 79 = .ok (.iload_n 1, 1) := by decide +kernel
theorem dX8_setAxis_80 : decode cX8_setAxis 80 = .ok (.imul, 1) := by decide +kernel
theorem dX8_setAxis_81 : decode cX8_setAxis 81 = .ok (.iload_n 2, 1) := by decide +kernel
theorem dX8_setAxis_82 : decode cX8_setAxis 82 = .ok (.iastore, 1) := by decide +kernel
theorem dX8_setAxis_83 : decode cX8_setAxis 83 = .ok (.aload_n 0, 1) := by decide +kernel
theorem dX8_setAxis_84 : decode cX8_setAxis 84 = .ok (.getfield 19, 3) := by decide +kernel
theorem dX8_setAxis_87 : decode cX8_setAxis 87 = .ok (.bipush 7, 2) := by decide +kernel
theorem dX8_setAxis_89 : decode cX8_setAxis 89 = .ok (.iload_n 1, 1) := by decide +kernel
theorem dX8_setAxis_90 : decode cX8_setAxis 90 = .ok (.imul, 1) := by decide +kernel
theorem dX8_setAxis_91 : decode cX8_setAxis 91 = .ok (.iconst 1, 1) := by decide +kernel
theorem dX8_setAxis_92 : decode cX8_setAxis 92 = .ok (.iadd, 1) := by decide +kernel
theorem dX8_setAxis_93 : decode cX8_setAxis 93 = .ok (.iload_n 3, 1) := by decide +kernel
theorem dX8_setAxis_94 : decode cX8_setAxis 94 = .ok (.iastore, 1) := by decide +kernel
theorem dX8_setAxis_95 : decode cX8_setAxis 95 = .ok (.aload_n 0, 1) := by decide +kernel
theorem dX8_setAxis_96 : decode cX8_setAxis 96 = .ok (.getfield 19, 3) := by decide +kernel
theorem dX8_setAxis_99 : decode cX8_setAxis 99 = .ok (.bipush 7, 2) := by decide +kernel
theorem dX8_setAxis_101 : decode cX8_setAxis 101 = .ok (.iload_n 1, 1) := by decide +kernel
theorem dX8_setAxis_102 : decode cX8_setAxis 102 = .ok (.imul, 1) := by decide +kernel
theorem dX8_setAxis_103 : decode cX8_setAxis 103 = .ok (.iconst 2, 1) := by decide +kernel
theorem dX8_setAxis_104 : decode cX8_setAxis 104 = .ok (.iadd, 1) := by decide +kernel
theorem dX8_setAxis_105 : decode cX8_setAxis 105 = .ok (.iload 4, 2) := by decide +kernel
theorem dX8_setAxis_107 : decode cX8_setAxis 107 = .ok (.iastore, 1) := by decide +kernel
theorem dX8_setAxis_108 : decode cX8_setAxis 108 = .ok (.aload_n 0, 1) := by decide +kernel
theorem dX8_setAxis_109 : decode cX8_setAxis 109 = .ok (.invokevirtual 154, 3) := by decide +kernel
theorem dX8_setAxis_112 : decode cX8_setAxis 112 = .ok (.ireturn, 1) := by decide +kernel
def bs_X8_setDrift : List (List Cond) := [[.code yX8_setDrift cX8_setDrift 5 (some .int)], wsX8_setDrift_r1, wsX8_setDrift_r2, wsX8_setDrift_r3, wsX80]
theorem bi_X8_setDrift : ∀ w ∈ bs_X8_setDrift.flatten, w ∈ wsX8_setDrift := by
  have h : bs_X8_setDrift.flatten = wsX8_setDrift := by simp only [bs_X8_setDrift, wsX8_setDrift, List.flatten_cons, List.flatten_nil, List.append_assoc, List.append_nil, List.nil_append, List.cons_append]
  intro w hw; rw [h] at hw; exact hw
set_option maxRecDepth 20000 in
theorem ggX8_setDrift_X8_isThird : GoodIn wsX8_setDrift wsX8_isThird := goodIn_bb bs_X8_setDrift bi_X8_setDrift _ [(1, 5), (1, 6), (1, 7), (1, 8), (1, 4), (1, 9)] rfl (by decide +kernel)
set_option maxRecDepth 20000 in
theorem gX8_setDrift_X8_isThird : GoodIn wsX8_setDrift (va_wsS RX8 85 yX8_isThird wsX8_isThird) := goodIn_app (goodIn_bb bs_X8_setDrift bi_X8_setDrift _ [(1, 2), (1, 3), (1, 4)] rfl (by decide +kernel)) ggX8_setDrift_X8_isThird
set_option maxRecDepth 20000 in
theorem ggX8_setDrift_X8_areIn : GoodIn wsX8_setDrift wsX8_areIn := goodIn_bb bs_X8_setDrift bi_X8_setDrift _ [(1, 12), (1, 7), (1, 8), (1, 4), (1, 9)] rfl (by decide +kernel)
set_option maxRecDepth 20000 in
theorem gX8_setDrift_X8_areIn : GoodIn wsX8_setDrift (va_wsS RX8 150 yX8_areIn wsX8_areIn) := goodIn_app (goodIn_bb bs_X8_setDrift bi_X8_setDrift _ [(1, 10), (1, 11), (1, 4)] rfl (by decide +kernel)) ggX8_setDrift_X8_areIn
set_option maxRecDepth 20000 in
theorem ggX8_setDrift_X8_refused : GoodIn wsX8_setDrift wsX8_refused := goodIn_bb bs_X8_setDrift bi_X8_setDrift _ [(1, 16), (1, 17), (4, 0), (4, 1), (4, 2), (4, 3), (4, 4), (4, 5), (4, 6), (4, 7), (4, 8), (4, 9), (4, 10), (4, 11), (4, 12), (4, 13), (4, 14), (4, 15), (4, 16), (4, 17), (4, 18)] rfl (by decide +kernel)
set_option maxRecDepth 20000 in
theorem gX8_setDrift_X8_refused : GoodIn wsX8_setDrift (wsV RX8 88 RX8 yX8_refused wsX8_refused) := goodIn_app (goodIn_bb bs_X8_setDrift bi_X8_setDrift _ [(1, 13), (1, 14), (1, 15), (1, 4)] rfl (by decide +kernel)) ggX8_setDrift_X8_refused
set_option maxRecDepth 20000 in
theorem ggX8_setDrift_X8_copy : GoodIn wsX8_setDrift wsX8_copy := goodIn_bb bs_X8_setDrift bi_X8_setDrift _ [(1, 20)] rfl (by decide +kernel)
set_option maxRecDepth 20000 in
theorem gX8_setDrift_X8_copy : GoodIn wsX8_setDrift (va_wsS RX8 146 yX8_copy wsX8_copy) := goodIn_app (goodIn_bb bs_X8_setDrift bi_X8_setDrift _ [(1, 18), (1, 19), (1, 4)] rfl (by decide +kernel)) ggX8_setDrift_X8_copy
set_option maxRecDepth 20000 in
theorem ggX8_setDrift_X8_changed : GoodIn wsX8_setDrift wsX8_changed := goodIn_bb bs_X8_setDrift bi_X8_setDrift _ [(2, 0), (1, 1), (1, 0), (2, 1), (2, 2), (2, 3), (1, 4), (2, 4), (2, 5), (2, 6), (2, 7), (2, 8), (2, 9), (2, 10), (2, 11), (2, 12), (2, 13), (2, 14), (2, 15), (2, 16), (2, 17), (2, 18), (2, 19), (2, 20), (2, 21), (2, 22), (2, 23), (3, 0), (1, 13), (1, 14), (1, 15), (1, 16), (1, 17), (3, 1), (3, 2), (3, 3), (3, 4), (3, 5), (3, 6), (3, 7), (1, 18), (1, 19), (1, 20), (3, 8), (3, 9), (3, 10), (3, 11), (4, 0), (4, 1), (4, 2), (4, 3), (4, 4), (4, 5), (4, 6), (4, 7), (4, 8), (4, 9), (4, 10), (4, 11), (4, 12), (4, 13), (4, 14), (4, 15), (4, 16), (4, 17), (4, 18)] rfl (by decide +kernel)
set_option maxRecDepth 20000 in
theorem gX8_setDrift_X8_changed : GoodIn wsX8_setDrift (wsV RX8 154 RX8 yX8_changed wsX8_changed) := goodIn_app (goodIn_bb bs_X8_setDrift bi_X8_setDrift _ [(1, 21), (1, 22), (1, 23), (1, 4)] rfl (by decide +kernel)) ggX8_setDrift_X8_changed
theorem dX8_setDrift_0 : decode cX8_setDrift 0 = .ok (.aload_n 0, 1) := by decide +kernel
theorem dX8_setDrift_1 : decode cX8_setDrift 1 = .ok (.iload_n 1, 1) := by decide +kernel
theorem dX8_setDrift_2 : decode cX8_setDrift 2 = .ok (.invokestatic 85, 3) := by decide +kernel
theorem dX8_setDrift_5 : decode cX8_setDrift 5 = .ok (.ifCond .ne 7, 3) := by decide +kernel
theorem dX8_setDrift_8 : decode cX8_setDrift 8 = .ok (.iconst 1, 1) := by decide +kernel
theorem dX8_setDrift_9 : decode cX8_setDrift 9 = .ok (.goto 20, 3) := by decide +kernel
theorem dX8_setDrift_12 : decode cX8_setDrift 12 = .ok (.iload_n 2, 1) := by decide +kernel
theorem dX8_setDrift_13 : decode cX8_setDrift 13 = .ok (.iload_n 3, 1) := by decide +kernel
theorem dX8_setDrift_14 : decode cX8_setDrift 14 = .ok (.iload 4, 2) := by decide +kernel
theorem dX8_setDrift_16 : decode cX8_setDrift 16 = .ok (.bipush 9, 2) := by decide +kernel
theorem dX8_setDrift_18 : decode cX8_setDrift 18 = .ok (.invokestatic 150, 3) := by decide +kernel
theorem dX8_setDrift_21 : decode cX8_setDrift 21 = .ok (.ifCond .ne 7, 3) := by decide +kernel
theorem dX8_setDrift_24 : decode cX8_setDrift 24 = .ok (.iconst 2, 1) := by decide +kernel
theorem dX8_setDrift_25 : decode cX8_setDrift 25 = .ok (.goto 4, 3) := by decide +kernel
theorem dX8_setDrift_28 : decode cX8_setDrift 28 = .ok (.iconst 0, 1) := by decide +kernel
theorem dX8_setDrift_29 : decode cX8_setDrift 29 = .ok (.invokevirtual 88, 3) := by decide +kernel
theorem dX8_setDrift_32 : decode cX8_setDrift 32 = .ok (.ifCond .eq 5, 3) := by decide +kernel
theorem dX8_setDrift_35 : decode cX8_setDrift 35 = .ok (.iconst 0, 1) := by decide +kernel
theorem dX8_setDrift_36 : decode cX8_setDrift 36 = .ok (.ireturn, 1) := by decide +kernel
theorem dX8_setDrift_37 : decode cX8_setDrift 37 = .ok (.aload_n 0, 1) := by decide +kernel
theorem dX8_setDrift_38 : decode cX8_setDrift 38 = .ok (.getfield 16, 3) := by decide +kernel
theorem dX8_setDrift_41 : decode cX8_setDrift 41 = .ok (.aload_n 0, 1) := by decide +kernel
theorem dX8_setDrift_42 : decode cX8_setDrift 42 = .ok (.getfield 19, 3) := by decide +kernel
theorem dX8_setDrift_45 : decode cX8_setDrift 45 = .ok (.invokestatic 146, 3) := by decide +kernel
theorem dX8_setDrift_48 : decode cX8_setDrift 48 = .ok (.aload_n 0, 1) := by decide +kernel
theorem dX8_setDrift_49 : decode cX8_setDrift 49 = .ok (.getfield 19, 3) := by decide +kernel
theorem dX8_setDrift_52 : decode cX8_setDrift 52 = .ok (.bipush 7, 2) := by decide +kernel
theorem dX8_setDrift_54 : decode cX8_setDrift 54 = .ok (.iload_n 1, 1) := by decide +kernel
theorem dX8_setDrift_55 : decode cX8_setDrift 55 = .ok (.imul, 1) := by decide +kernel
theorem dX8_setDrift_56 : decode cX8_setDrift 56 = .ok (.iconst 3, 1) := by decide +kernel
theorem dX8_setDrift_57 : decode cX8_setDrift 57 = .ok (.iadd, 1) := by decide +kernel
theorem dX8_setDrift_58 : decode cX8_setDrift 58 = .ok (.iload_n 2, 1) := by decide +kernel
theorem dX8_setDrift_59 : decode cX8_setDrift 59 = .ok (.iastore, 1) := by decide +kernel
theorem dX8_setDrift_60 : decode cX8_setDrift 60 = .ok (.aload_n 0, 1) := by decide +kernel
theorem dX8_setDrift_61 : decode cX8_setDrift 61 = .ok (.getfield 19, 3) := by decide +kernel
theorem dX8_setDrift_64 : decode cX8_setDrift 64 = .ok (.bipush 7, 2) := by decide +kernel
theorem dX8_setDrift_66 : decode cX8_setDrift 66 = .ok (.iload_n 1, 1) := by decide +kernel
theorem dX8_setDrift_67 : decode cX8_setDrift 67 = .ok (.imul, 1) := by decide +kernel
theorem dX8_setDrift_68 : decode cX8_setDrift 68 = .ok (.iconst 4, 1) := by decide +kernel
theorem dX8_setDrift_69 : decode cX8_setDrift 69 = .ok (.iadd, 1) := by decide +kernel
theorem dX8_setDrift_70 : decode cX8_setDrift 70 = .ok (.iload_n 3, 1) := by decide +kernel
theorem dX8_setDrift_71 : decode cX8_setDrift 71 = .ok (.iastore, 1) := by decide +kernel
theorem dX8_setDrift_72 : decode cX8_setDrift 72 = .ok (.aload_n 0, 1) := by decide +kernel
theorem dX8_setDrift_73 : decode cX8_setDrift 73 = .ok (.getfield 19, 3) := by decide +kernel
theorem dX8_setDrift_76 : decode cX8_setDrift 76 = .ok (.bipush 7, 2) := by decide +kernel
theorem dX8_setDrift_78 : decode cX8_setDrift 78 = .ok (.iload_n 1, 1) := by decide +kernel
theorem dX8_setDrift_79 : decode cX8_setDrift 79 = .ok (.imul, 1) := by decide +kernel
theorem dX8_setDrift_80 : decode cX8_setDrift 80 = .ok (.iconst 5, 1) := by decide +kernel
theorem dX8_setDrift_81 : decode cX8_setDrift 81 = .ok (.iadd, 1) := by decide +kernel
theorem dX8_setDrift_82 : decode cX8_setDrift 82 = .ok (.iload 4, 2) := by decide +kernel
theorem dX8_setDrift_84 : decode cX8_setDrift 84 = .ok (.iastore, 1) := by decide +kernel
theorem dX8_setDrift_85 : decode cX8_setDrift 85 = .ok (.aload_n 0, 1) := by decide +kernel
theorem dX8_setDrift_86 : decode cX8_setDrift 86 = .ok (.invokevirtual 154, 3) := by decide +kernel
theorem dX8_setDrift_89 : decode cX8_setDrift 89 = .ok (.ireturn, 1) := by decide +kernel
def bs_X8_setCone : List (List Cond) := [[.code yX8_setCone cX8_setCone 3 (some .int)], wsX8_setCone_r1, wsX8_setCone_r2, wsX8_setCone_r3, wsX80]
theorem bi_X8_setCone : ∀ w ∈ bs_X8_setCone.flatten, w ∈ wsX8_setCone := by
  have h : bs_X8_setCone.flatten = wsX8_setCone := by simp only [bs_X8_setCone, wsX8_setCone, List.flatten_cons, List.flatten_nil, List.append_assoc, List.append_nil, List.nil_append, List.cons_append]
  intro w hw; rw [h] at hw; exact hw
set_option maxRecDepth 20000 in
theorem ggX8_setCone_X8_isThird : GoodIn wsX8_setCone wsX8_isThird := goodIn_bb bs_X8_setCone bi_X8_setCone _ [(1, 6), (1, 7), (1, 8), (1, 9), (1, 5), (1, 10)] rfl (by decide +kernel)
set_option maxRecDepth 20000 in
theorem gX8_setCone_X8_isThird : GoodIn wsX8_setCone (va_wsS RX8 85 yX8_isThird wsX8_isThird) := goodIn_app (goodIn_bb bs_X8_setCone bi_X8_setCone _ [(1, 3), (1, 4), (1, 5)] rfl (by decide +kernel)) ggX8_setCone_X8_isThird
set_option maxRecDepth 20000 in
theorem ggX8_setCone_X8_in : GoodIn wsX8_setCone wsX8_in := goodIn_bb bs_X8_setCone bi_X8_setCone _ [(1, 10)] rfl (by decide +kernel)
set_option maxRecDepth 20000 in
theorem gX8_setCone_X8_in : GoodIn wsX8_setCone (va_wsS RX8 65 yX8_in wsX8_in) := goodIn_app (goodIn_bb bs_X8_setCone bi_X8_setCone _ [(1, 8), (1, 9), (1, 5)] rfl (by decide +kernel)) ggX8_setCone_X8_in
set_option maxRecDepth 20000 in
theorem ggX8_setCone_X8_refused : GoodIn wsX8_setCone wsX8_refused := goodIn_bb bs_X8_setCone bi_X8_setCone _ [(1, 14), (1, 15), (4, 0), (4, 1), (4, 2), (4, 3), (4, 4), (4, 5), (4, 6), (4, 7), (4, 8), (4, 9), (4, 10), (4, 11), (4, 12), (4, 13), (4, 14), (4, 15), (4, 16), (4, 17), (4, 18)] rfl (by decide +kernel)
set_option maxRecDepth 20000 in
theorem gX8_setCone_X8_refused : GoodIn wsX8_setCone (wsV RX8 88 RX8 yX8_refused wsX8_refused) := goodIn_app (goodIn_bb bs_X8_setCone bi_X8_setCone _ [(1, 11), (1, 12), (1, 13), (1, 5)] rfl (by decide +kernel)) ggX8_setCone_X8_refused
set_option maxRecDepth 20000 in
theorem ggX8_setCone_X8_copy : GoodIn wsX8_setCone wsX8_copy := goodIn_bb bs_X8_setCone bi_X8_setCone _ [(1, 18)] rfl (by decide +kernel)
set_option maxRecDepth 20000 in
theorem gX8_setCone_X8_copy : GoodIn wsX8_setCone (va_wsS RX8 146 yX8_copy wsX8_copy) := goodIn_app (goodIn_bb bs_X8_setCone bi_X8_setCone _ [(1, 16), (1, 17), (1, 5)] rfl (by decide +kernel)) ggX8_setCone_X8_copy
set_option maxRecDepth 20000 in
theorem ggX8_setCone_X8_changed : GoodIn wsX8_setCone wsX8_changed := goodIn_bb bs_X8_setCone bi_X8_setCone _ [(1, 22), (1, 2), (1, 1), (1, 23), (2, 0), (2, 1), (1, 5), (2, 2), (2, 3), (2, 4), (2, 5), (2, 6), (2, 7), (2, 8), (2, 9), (2, 10), (2, 11), (2, 12), (2, 13), (2, 14), (2, 15), (2, 16), (2, 17), (2, 18), (2, 19), (2, 20), (2, 21), (2, 22), (1, 11), (1, 12), (1, 13), (1, 14), (1, 15), (2, 23), (3, 0), (3, 1), (3, 2), (3, 3), (3, 4), (3, 5), (1, 16), (1, 17), (1, 18), (3, 6), (3, 7), (3, 8), (3, 9), (4, 0), (4, 1), (4, 2), (4, 3), (4, 4), (4, 5), (4, 6), (4, 7), (4, 8), (4, 9), (4, 10), (4, 11), (4, 12), (4, 13), (4, 14), (4, 15), (4, 16), (4, 17), (4, 18)] rfl (by decide +kernel)
set_option maxRecDepth 20000 in
theorem gX8_setCone_X8_changed : GoodIn wsX8_setCone (wsV RX8 154 RX8 yX8_changed wsX8_changed) := goodIn_app (goodIn_bb bs_X8_setCone bi_X8_setCone _ [(1, 19), (1, 20), (1, 21), (1, 5)] rfl (by decide +kernel)) ggX8_setCone_X8_changed
theorem dX8_setCone_0 : decode cX8_setCone 0 = .ok (.aload_n 0, 1) := by decide +kernel
theorem dX8_setCone_1 : decode cX8_setCone 1 = .ok (.iload_n 1, 1) := by decide +kernel
theorem dX8_setCone_2 : decode cX8_setCone 2 = .ok (.invokestatic 85, 3) := by decide +kernel
theorem dX8_setCone_5 : decode cX8_setCone 5 = .ok (.ifCond .ne 7, 3) := by decide +kernel
theorem dX8_setCone_8 : decode cX8_setCone 8 = .ok (.iconst 1, 1) := by decide +kernel
theorem dX8_setCone_9 : decode cX8_setCone 9 = .ok (.goto 20, 3) := by decide +kernel
theorem dX8_setCone_12 : decode cX8_setCone 12 = .ok (.iload_n 2, 1) := by decide +kernel
theorem dX8_setCone_13 : decode cX8_setCone 13 = .ok (.i2l, 1) := by decide +kernel
theorem dX8_setCone_14 : decode cX8_setCone 14 = .ok (.lconst 0, 1) := by decide +kernel
theorem dX8_setCone_15 : decode cX8_setCone 15 = .ok (.ldc2_w 158, 3) := by decide +kernel
theorem dX8_setCone_18 : decode cX8_setCone 18 = .ok (.invokestatic 65, 3) := by decide +kernel
theorem dX8_setCone_21 : decode cX8_setCone 21 = .ok (.ifCond .ne 7, 3) := by decide +kernel
theorem dX8_setCone_24 : decode cX8_setCone 24 = .ok (.iconst 2, 1) := by decide +kernel
theorem dX8_setCone_25 : decode cX8_setCone 25 = .ok (.goto 4, 3) := by decide +kernel
theorem dX8_setCone_28 : decode cX8_setCone 28 = .ok (.iconst 0, 1) := by decide +kernel
theorem dX8_setCone_29 : decode cX8_setCone 29 = .ok (.invokevirtual 88, 3) := by decide +kernel
theorem dX8_setCone_32 : decode cX8_setCone 32 = .ok (.ifCond .eq 5, 3) := by decide +kernel
theorem dX8_setCone_35 : decode cX8_setCone 35 = .ok (.iconst 0, 1) := by decide +kernel
theorem dX8_setCone_36 : decode cX8_setCone 36 = .ok (.ireturn, 1) := by decide +kernel
theorem dX8_setCone_37 : decode cX8_setCone 37 = .ok (.aload_n 0, 1) := by decide +kernel
theorem dX8_setCone_38 : decode cX8_setCone 38 = .ok (.getfield 16, 3) := by decide +kernel
theorem dX8_setCone_41 : decode cX8_setCone 41 = .ok (.aload_n 0, 1) := by decide +kernel
theorem dX8_setCone_42 : decode cX8_setCone 42 = .ok (.getfield 19, 3) := by decide +kernel
theorem dX8_setCone_45 : decode cX8_setCone 45 = .ok (.invokestatic 146, 3) := by decide +kernel
theorem dX8_setCone_48 : decode cX8_setCone 48 = .ok (.aload_n 0, 1) := by decide +kernel
theorem dX8_setCone_49 : decode cX8_setCone 49 = .ok (.getfield 19, 3) := by decide +kernel
theorem dX8_setCone_52 : decode cX8_setCone 52 = .ok (.bipush 7, 2) := by decide +kernel
theorem dX8_setCone_54 : decode cX8_setCone 54 = .ok (.iload_n 1, 1) := by decide +kernel
theorem dX8_setCone_55 : decode cX8_setCone 55 = .ok (.imul, 1) := by decide +kernel
theorem dX8_setCone_56 : decode cX8_setCone 56 = .ok (.bipush 6, 2) := by decide +kernel
theorem dX8_setCone_58 : decode cX8_setCone 58 = .ok (.iadd, 1) := by decide +kernel
theorem dX8_setCone_59 : decode cX8_setCone 59 = .ok (.iload_n 2, 1) := by decide +kernel
theorem dX8_setCone_60 : decode cX8_setCone 60 = .ok (.iastore, 1) := by decide +kernel
theorem dX8_setCone_61 : decode cX8_setCone 61 = .ok (.aload_n 0, 1) := by decide +kernel
theorem dX8_setCone_62 : decode cX8_setCone 62 = .ok (.invokevirtual 154, 3) := by decide +kernel
theorem dX8_setCone_65 : decode cX8_setCone 65 = .ok (.ireturn, 1) := by decide +kernel
theorem dX8_isNear_0 : decode cX8_isNear 0 = .ok (.iload_n 1, 1) := by decide +kernel
theorem dX8_isNear_1 : decode cX8_isNear 1 = .ok (.iload_n 2, 1) := by decide +kernel
theorem dX8_isNear_2 : decode cX8_isNear 2 = .ok (.if_icmp .ne 7, 3) := by decide +kernel
theorem dX8_isNear_5 : decode cX8_isNear 5 = .ok (.iconst 1, 1) := by decide +kernel
theorem dX8_isNear_6 : decode cX8_isNear 6 = .ok (.goto 4, 3) := by decide +kernel
theorem dX8_isNear_9 : decode cX8_isNear 9 = .ok (.iconst 0, 1) := by decide +kernel
theorem dX8_isNear_10 : decode cX8_isNear 10 = .ok (.istore_n 3, 1) := by decide +kernel
theorem dX8_isNear_11 : decode cX8_isNear 11 = .ok (.iconst 0, 1) := by decide +kernel
theorem dX8_isNear_12 : decode cX8_isNear 12 = .ok (.istore 4, 2) := by decide +kernel
theorem dX8_isNear_14 : decode cX8_isNear 14 = .ok (.iload 4, 2) := by decide +kernel
theorem dX8_isNear_16 : decode cX8_isNear 16 = .ok (.iconst 4, 1) := by decide +kernel
theorem dX8_isNear_17 : decode cX8_isNear 17 = .ok (.if_icmp .ge 34, 3) := by decide +kernel
theorem dX8_isNear_20 : decode cX8_isNear 20 = .ok (.iload_n 3, 1) := by decide +kernel
theorem dX8_isNear_21 : decode cX8_isNear 21 = .ok (.ifCond .ne 18, 3) := by decide +kernel
theorem dX8_isNear_24 : decode cX8_isNear 24 = .ok (.aload_n 0, 1) := by decide +kernel
theorem dX8_isNear_25 : decode cX8_isNear 25 = .ok (.getfield 13, 3) := by decide +kernel
theorem dX8_isNear_28 : decode cX8_isNear 28 = .ok (.iconst 4, 1) := by decide +kernel
theorem dX8_isNear_29 : decode cX8_isNear 29 = .ok (.iload_n 1, 1) := by decide +kernel
theorem dX8_isNear_30 : decode cX8_isNear 30 = .ok (.imul, 1) := by decide +kernel
theorem dX8_isNear_31 : decode cX8_isNear 31 = .ok (.iload 4, 2) := by decide +kernel
theorem dX8_isNear_33 : decode cX8_isNear 33 = .ok (.iadd, 1) := by decide +kernel
theorem dX8_isNear_34 : decode cX8_isNear 34 = .ok (.iaload, 1) := by decide +kernel
theorem dX8_isNear_35 : decode cX8_isNear 35 = .ok (.iload_n 2, 1) := by decide +kernel
theorem dX8_isNear_36 : decode cX8_isNear 36 = .ok (.if_icmp .ne 7, 3) := by decide +kernel
theorem dX8_isNear_39 : decode cX8_isNear 39 = .ok (.iconst 1, 1) := by decide +kernel
theorem dX8_isNear_40 : decode cX8_isNear 40 = .ok (.goto 4, 3) := by decide +kernel
theorem dX8_isNear_43 : decode cX8_isNear 43 = .ok (.iconst 0, 1) := by decide +kernel
theorem dX8_isNear_44 : decode cX8_isNear 44 = .ok (.istore_n 3, 1) := by decide +kernel
theorem dX8_isNear_45 : decode cX8_isNear 45 = .ok (.iinc 4 1, 3) := by decide +kernel
theorem dX8_isNear_48 : decode cX8_isNear 48 = .ok (.goto (-34), 3) := by decide +kernel
theorem dX8_isNear_51 : decode cX8_isNear 51 = .ok (.iload_n 3, 1) := by decide +kernel
theorem dX8_isNear_52 : decode cX8_isNear 52 = .ok (.ireturn, 1) := by decide +kernel
def bs_X8_step : List (List Cond) := [[.code yX8_step cX8_step 3 (some .int)], wsX8_step_r1, wsX8_step_r2, wsX80]
theorem bi_X8_step : ∀ w ∈ bs_X8_step.flatten, w ∈ wsX8_step := by
  have h : bs_X8_step.flatten = wsX8_step := by simp only [bs_X8_step, wsX8_step, List.flatten_cons, List.flatten_nil, List.append_assoc, List.append_nil, List.nil_append, List.cons_append]
  intro w hw; rw [h] at hw; exact hw
set_option maxRecDepth 20000 in
theorem ggX8_step_X8_isCell : GoodIn wsX8_step wsX8_isCell := goodIn_bb bs_X8_step bi_X8_step _ [(1, 4), (1, 5), (1, 6), (1, 7), (1, 3), (1, 8)] rfl (by decide +kernel)
set_option maxRecDepth 20000 in
theorem gX8_step_X8_isCell : GoodIn wsX8_step (va_wsS RX8 82 yX8_isCell wsX8_isCell) := goodIn_app (goodIn_bb bs_X8_step bi_X8_step _ [(1, 1), (1, 2), (1, 3)] rfl (by decide +kernel)) ggX8_step_X8_isCell
set_option maxRecDepth 20000 in
theorem ggX8_step_X8_isNear : GoodIn wsX8_step wsX8_isNear := goodIn_bb bs_X8_step bi_X8_step _ [(1, 12), (1, 13), (3, 0), (3, 1), (3, 2), (3, 3), (3, 4), (3, 5), (3, 6), (3, 7), (3, 8), (3, 9), (3, 10), (3, 11), (3, 12), (3, 13), (3, 14), (3, 15), (3, 16), (3, 17), (3, 18)] rfl (by decide +kernel)
set_option maxRecDepth 20000 in
theorem gX8_step_X8_isNear : GoodIn wsX8_step (wsV RX8 160 RX8 yX8_isNear wsX8_isNear) := goodIn_app (goodIn_bb bs_X8_step bi_X8_step _ [(1, 9), (1, 10), (1, 11), (1, 3)] rfl (by decide +kernel)) ggX8_step_X8_isNear
set_option maxRecDepth 20000 in
theorem ggX8_step_X8_refused : GoodIn wsX8_step wsX8_refused := goodIn_bb bs_X8_step bi_X8_step _ [(1, 17), (1, 18), (3, 0), (3, 1), (3, 2), (3, 3), (3, 4), (3, 5), (3, 6), (3, 7), (3, 8), (3, 9), (3, 10), (3, 11), (3, 12), (3, 13), (3, 14), (3, 15), (3, 16), (3, 17), (3, 18)] rfl (by decide +kernel)
set_option maxRecDepth 20000 in
theorem gX8_step_X8_refused : GoodIn wsX8_step (wsV RX8 88 RX8 yX8_refused wsX8_refused) := goodIn_app (goodIn_bb bs_X8_step bi_X8_step _ [(1, 14), (1, 15), (1, 16), (1, 3)] rfl (by decide +kernel)) ggX8_step_X8_refused
set_option maxRecDepth 20000 in
theorem ggX8_step_X8_isBrightIn : GoodIn wsX8_step wsX8_isBrightIn := goodIn_bb bs_X8_step bi_X8_step _ [(1, 22), (1, 23), (2, 0), (2, 1), (2, 2), (1, 3), (2, 3), (2, 4), (2, 5), (2, 6), (2, 7), (2, 8), (2, 9), (2, 10), (2, 11), (2, 12), (2, 13), (2, 14), (3, 0), (3, 1), (3, 2), (3, 3), (3, 4), (3, 5), (3, 6), (3, 7), (3, 8), (3, 9), (3, 10), (3, 11), (3, 12), (3, 13), (3, 14), (3, 15), (3, 16), (3, 17), (3, 18)] rfl (by decide +kernel)
set_option maxRecDepth 20000 in
theorem gX8_step_X8_isBrightIn : GoodIn wsX8_step (wsV RX8 110 RX8 yX8_isBrightIn wsX8_isBrightIn) := goodIn_app (goodIn_bb bs_X8_step bi_X8_step _ [(1, 19), (1, 20), (1, 21), (1, 3)] rfl (by decide +kernel)) ggX8_step_X8_isBrightIn
set_option maxRecDepth 20000 in
theorem ggX8_step_X8_note : GoodIn wsX8_step wsX8_note := goodIn_bb bs_X8_step bi_X8_step _ [(2, 18), (2, 19), (2, 20), (1, 0), (2, 21), (3, 0), (3, 1), (3, 2), (3, 3), (3, 4), (3, 5), (3, 6), (3, 7), (3, 8), (3, 9), (3, 10), (3, 11), (3, 12), (3, 13), (3, 14), (3, 15), (3, 16), (3, 17), (3, 18)] rfl (by decide +kernel)
set_option maxRecDepth 20000 in
theorem gX8_step_X8_note : GoodIn wsX8_step (wsV RX8 143 RX8 yX8_note wsX8_note) := goodIn_app (goodIn_bb bs_X8_step bi_X8_step _ [(2, 15), (2, 16), (2, 17), (1, 3)] rfl (by decide +kernel)) ggX8_step_X8_note
theorem dX8_step_0 : decode cX8_step 0 = .ok (.aload_n 0, 1) := by decide +kernel
theorem dX8_step_1 : decode cX8_step 1 = .ok (.iload_n 1, 1) := by decide +kernel
theorem dX8_step_2 : decode cX8_step 2 = .ok (.invokestatic 82, 3) := by decide +kernel
theorem dX8_step_5 : decode cX8_step 5 = .ok (.ifCond .ne 7, 3) := by decide +kernel
theorem dX8_step_8 : decode cX8_step 8 = .ok (.iconst 1, 1) := by decide +kernel
theorem dX8_step_9 : decode cX8_step 9 = .ok (.goto 23, 3) := by decide +kernel
theorem dX8_step_12 : decode cX8_step 12 = .ok (.aload_n 0, 1) := by decide +kernel
theorem dX8_step_13 : decode cX8_step 13 = .ok (.aload_n 0, 1) := by decide +kernel
theorem dX8_step_14 : decode cX8_step 14 = .ok (.getfield 16, 3) := by decide +kernel
theorem dX8_step_17 : decode cX8_step 17 = .ok (.bipush 22, 2) := by decide +kernel
theorem dX8_step_19 : decode cX8_step 19 = .ok (.iaload, 1) := by decide +kernel
theorem dX8_step_20 : decode cX8_step 20 = .ok (.iload_n 1, 1) := by decide +kernel
theorem dX8_step_21 : decode cX8_step 21 = .ok (.invokevirtual 160, 3) := by decide +kernel
theorem dX8_step_24 : decode cX8_step 24 = .ok (.ifCond .ne 7, 3) := by decide +kernel
theorem dX8_step_27 : decode cX8_step 27 = .ok (.iconst 2, 1) := by decide +kernel
theorem dX8_step_28 : decode cX8_step 28 = .ok (.goto 4, 3) := by decide +kernel
theorem dX8_step_31 : decode cX8_step 31 = .ok (.iconst 0, 1) := by decide +kernel
theorem dX8_step_32 : decode cX8_step 32 = .ok (.invokevirtual 88, 3) := by decide +kernel
theorem dX8_step_35 : decode cX8_step 35 = .ok (.ifCond .eq 5, 3) := by decide +kernel
theorem dX8_step_38 : decode cX8_step 38 = .ok (.iconst 0, 1) := by decide +kernel
theorem dX8_step_39 : decode cX8_step 39 = .ok (.ireturn, 1) := by decide +kernel
theorem dX8_step_40 : decode cX8_step 40 = .ok (.aload_n 0, 1) := by decide +kernel
theorem dX8_step_41 : decode cX8_step 41 = .ok (.getfield 16, 3) := by decide +kernel
theorem dX8_step_44 : decode cX8_step 44 = .ok (.bipush 23, 2) := by decide +kernel
theorem dX8_step_46 : decode cX8_step 46 = .ok (.iaload, 1) := by decide +kernel
theorem dX8_step_47 : decode cX8_step 47 = .ok (.ifCond .ne 41, 3) := by decide +kernel
theorem dX8_step_50 : decode cX8_step 50 = .ok (.aload_n 0, 1) := by decide +kernel
theorem dX8_step_51 : decode cX8_step 51 = .ok (.getfield 16, 3) := by decide +kernel
theorem dX8_step_54 : decode cX8_step 54 = .ok (.bipush 21, 2) := by decide +kernel
theorem dX8_step_56 : decode cX8_step 56 = .ok (.iaload, 1) := by decide +kernel
theorem dX8_step_57 : decode cX8_step 57 = .ok (.sipush 200, 3) := by decide +kernel
theorem dX8_step_60 : decode cX8_step 60 = .ok (.if_icmp .ge 28, 3) := by decide +kernel
theorem dX8_step_63 : decode cX8_step 63 = .ok (.aload_n 0, 1) := by decide +kernel
theorem dX8_step_64 : decode cX8_step 64 = .ok (.aload_n 0, 1) := by decide +kernel
theorem dX8_step_65 : decode cX8_step 65 = .ok (.getfield 16, 3) := by decide +kernel
theorem dX8_step_68 : decode cX8_step 68 = .ok (.iload_n 1, 1) := by decide +kernel
theorem dX8_step_69 : decode cX8_step 69 = .ok (.aload_n 0, 1) := by decide +kernel
theorem dX8_step_70 : decode cX8_step 70 = .ok (.getfield 16, 3) := by decide +kernel
theorem dX8_step_73 : decode cX8_step 73 = .ok (.bipush 21, 2) := by decide +kernel
theorem dX8_step_75 : decode cX8_step 75 = .ok (.iaload, 1) := by decide +kernel
theorem dX8_step_76 : decode cX8_step 76 = .ok (.iconst 1, 1) := by decide +kernel
theorem dX8_step_77 : decode cX8_step 77 = .ok (.iadd, 1) := by decide +kernel
theorem dX8_step_78 : decode cX8_step 78 = .ok (.invokevirtual 110, 3) := by decide +kernel
theorem dX8_step_81 : decode cX8_step 81 = .ok (.ifCond .ne 7, 3) := by decide +kernel
theorem dX8_step_84 : decode cX8_step 84 = .ok (.iconst 1, 1) := by decide +kernel
theorem dX8_step_85 : decode cX8_step 85 = .ok (.goto 4, 3) := by decide +kernel
theorem dX8_step_88 : decode cX8_step 88 = .ok (.iconst 0, 1) := by decide +kernel
theorem dX8_step_89 : decode cX8_step 89 = .ok (.istore_n 2, 1) := by decide +kernel
theorem dX8_step_90 : decode cX8_step 90 = .ok (.aload_n 0, 1) := by decide +kernel
theorem dX8_step_91 : decode cX8_step 91 = .ok (.iload_n 2, 1) := by decide +kernel
theorem dX8_step_92 : decode cX8_step 92 = .ok (.ifCond .eq 7, 3) := by decide +kernel
theorem dX8_step_95 : decode cX8_step 95 = .ok (.iconst 0, 1) := by decide +kernel
theorem dX8_step_96 : decode cX8_step 96 = .ok (.goto 4, 3) := by decide +kernel
theorem dX8_step_99 : decode cX8_step 99 = .ok (.iconst 3, 1) := by decide +kernel
theorem dX8_step_100 : decode cX8_step 100 = .ok (.invokevirtual 88, 3) := by decide +kernel
theorem dX8_step_103 : decode cX8_step 103 = .ok (.ifCond .eq 5, 3) := by decide +kernel
theorem dX8_step_106 : decode cX8_step 106 = .ok (.iconst 0, 1) := by decide +kernel
theorem dX8_step_107 : decode cX8_step 107 = .ok (.ireturn, 1) := by decide +kernel
theorem dX8_step_108 : decode cX8_step 108 = .ok (.aload_n 0, 1) := by decide +kernel
theorem dX8_step_109 : decode cX8_step 109 = .ok (.invokevirtual 143, 3) := by decide +kernel
theorem dX8_step_112 : decode cX8_step 112 = .ok (.aload_n 0, 1) := by decide +kernel
theorem dX8_step_113 : decode cX8_step 113 = .ok (.getfield 16, 3) := by decide +kernel
theorem dX8_step_116 : decode cX8_step 116 = .ok (.bipush 22, 2) := by decide +kernel
theorem dX8_step_118 : decode cX8_step 118 = .ok (.iload_n 1, 1) := by decide +kernel
theorem dX8_step_119 : decode cX8_step 119 = .ok (.iastore, 1) := by decide +kernel
theorem dX8_step_120 : decode cX8_step 120 = .ok (.aload_n 0, 1) := by decide +kernel
theorem dX8_step_121 : decode cX8_step 121 = .ok (.getfield 16, 3) := by decide +kernel
theorem dX8_step_124 : decode cX8_step 124 = .ok (.bipush 21, 2) := by decide +kernel
theorem dX8_step_126 : decode cX8_step 126 = .ok (.dup2, 1) := by decide +kernel
theorem dX8_step_127 : decode cX8_step 127 = .ok (.iaload, 1) := by decide +kernel
theorem dX8_step_128 : decode cX8_step 128 = .ok (.iconst 1, 1) := by decide +kernel
theorem dX8_step_129 : decode cX8_step 129 = .ok (.iadd, 1) := by decide +kernel
theorem dX8_step_130 : decode cX8_step 130 = .ok (.iastore, 1) := by decide +kernel
theorem dX8_step_131 : decode cX8_step 131 = .ok (.aload_n 0, 1) := by decide +kernel
theorem dX8_step_132 : decode cX8_step 132 = .ok (.getfield 16, 3) := by decide +kernel
theorem dX8_step_135 : decode cX8_step 135 = .ok (.bipush 21, 2) := by decide +kernel
theorem dX8_step_137 : decode cX8_step 137 = .ok (.iaload, 1) := by decide +kernel
theorem dX8_step_138 : decode cX8_step 138 = .ok (.ireturn, 1) := by decide +kernel
def bs_X8_slew : List (List Cond) := [[.code yX8_slew cX8_slew 3 (some .int)], wsX8_slew_r1, wsX8_slew_r2, wsX8_slew_r3, wsX80]
theorem bi_X8_slew : ∀ w ∈ bs_X8_slew.flatten, w ∈ wsX8_slew := by
  have h : bs_X8_slew.flatten = wsX8_slew := by simp only [bs_X8_slew, wsX8_slew, List.flatten_cons, List.flatten_nil, List.append_assoc, List.append_nil, List.nil_append, List.cons_append]
  intro w hw; rw [h] at hw; exact hw
set_option maxRecDepth 20000 in
theorem ggX8_slew_X8_isCell : GoodIn wsX8_slew wsX8_isCell := goodIn_bb bs_X8_slew bi_X8_slew _ [(1, 4), (1, 5), (1, 6), (1, 7), (1, 3), (1, 8)] rfl (by decide +kernel)
set_option maxRecDepth 20000 in
theorem gX8_slew_X8_isCell : GoodIn wsX8_slew (va_wsS RX8 82 yX8_isCell wsX8_isCell) := goodIn_app (goodIn_bb bs_X8_slew bi_X8_slew _ [(1, 1), (1, 2), (1, 3)] rfl (by decide +kernel)) ggX8_slew_X8_isCell
set_option maxRecDepth 20000 in
theorem ggX8_slew_X8_refused : GoodIn wsX8_slew wsX8_refused := goodIn_bb bs_X8_slew bi_X8_slew _ [(1, 12), (1, 13), (4, 0), (4, 1), (4, 2), (4, 3), (4, 4), (4, 5), (4, 6), (4, 7), (4, 8), (4, 9), (4, 10), (4, 11), (4, 12), (4, 13), (4, 14), (4, 15), (4, 16), (4, 17), (4, 18)] rfl (by decide +kernel)
set_option maxRecDepth 20000 in
theorem gX8_slew_X8_refused : GoodIn wsX8_slew (wsV RX8 88 RX8 yX8_refused wsX8_refused) := goodIn_app (goodIn_bb bs_X8_slew bi_X8_slew _ [(1, 9), (1, 10), (1, 11), (1, 3)] rfl (by decide +kernel)) ggX8_slew_X8_refused
set_option maxRecDepth 20000 in
theorem ggX8_slew_X8_arrivalOf : GoodIn wsX8_slew wsX8_arrivalOf := goodIn_bb bs_X8_slew bi_X8_slew _ [(1, 17), (1, 18), (1, 19), (1, 20), (1, 21), (1, 3), (1, 22), (1, 23), (2, 0), (2, 1), (2, 2), (2, 3), (1, 0), (2, 4), (2, 5), (2, 6), (2, 7), (2, 8), (2, 9), (2, 10), (2, 11), (2, 12), (2, 13), (2, 14), (2, 15), (2, 16), (2, 17), (2, 18), (2, 19), (2, 20), (2, 21), (2, 22), (2, 23), (3, 0), (3, 1), (3, 2), (3, 3), (3, 4), (4, 0), (4, 1), (4, 2), (4, 3), (4, 4), (4, 5), (4, 6), (4, 7), (4, 8), (4, 9), (4, 10), (4, 11), (4, 12), (4, 13), (4, 14), (4, 15), (4, 16), (4, 17), (4, 18)] rfl (by decide +kernel)
set_option maxRecDepth 20000 in
theorem gX8_slew_X8_arrivalOf : GoodIn wsX8_slew (wsV RX8 164 RX8 yX8_arrivalOf wsX8_arrivalOf) := goodIn_app (goodIn_bb bs_X8_slew bi_X8_slew _ [(1, 14), (1, 15), (1, 16), (1, 3)] rfl (by decide +kernel)) ggX8_slew_X8_arrivalOf
set_option maxRecDepth 20000 in
theorem ggX8_slew_X8_note : GoodIn wsX8_slew wsX8_note := goodIn_bb bs_X8_slew bi_X8_slew _ [(3, 8), (3, 9), (3, 10), (1, 0), (3, 11), (4, 0), (4, 1), (4, 2), (4, 3), (4, 4), (4, 5), (4, 6), (4, 7), (4, 8), (4, 9), (4, 10), (4, 11), (4, 12), (4, 13), (4, 14), (4, 15), (4, 16), (4, 17), (4, 18)] rfl (by decide +kernel)
set_option maxRecDepth 20000 in
theorem gX8_slew_X8_note : GoodIn wsX8_slew (wsV RX8 143 RX8 yX8_note wsX8_note) := goodIn_app (goodIn_bb bs_X8_slew bi_X8_slew _ [(3, 5), (3, 6), (3, 7), (1, 3)] rfl (by decide +kernel)) ggX8_slew_X8_note
theorem dX8_slew_0 : decode cX8_slew 0 = .ok (.aload_n 0, 1) := by decide +kernel
theorem dX8_slew_1 : decode cX8_slew 1 = .ok (.iload_n 1, 1) := by decide +kernel
theorem dX8_slew_2 : decode cX8_slew 2 = .ok (.invokestatic 82, 3) := by decide +kernel
theorem dX8_slew_5 : decode cX8_slew 5 = .ok (.ifCond .ne 7, 3) := by decide +kernel
theorem dX8_slew_8 : decode cX8_slew 8 = .ok (.iconst 1, 1) := by decide +kernel
theorem dX8_slew_9 : decode cX8_slew 9 = .ok (.goto 19, 3) := by decide +kernel
theorem dX8_slew_12 : decode cX8_slew 12 = .ok (.aload_n 0, 1) := by decide +kernel
theorem dX8_slew_13 : decode cX8_slew 13 = .ok (.getfield 16, 3) := by decide +kernel
theorem dX8_slew_16 : decode cX8_slew 16 = .ok (.bipush 23, 2) := by decide +kernel
theorem dX8_slew_18 : decode cX8_slew 18 = .ok (.iaload, 1) := by decide +kernel
theorem dX8_slew_19 : decode cX8_slew 19 = .ok (.iconst 1, 1) := by decide +kernel
theorem dX8_slew_20 : decode cX8_slew 20 = .ok (.if_icmp .ne 7, 3) := by decide +kernel
theorem dX8_slew_23 : decode cX8_slew 23 = .ok (.iconst 2, 1) := by decide +kernel
theorem dX8_slew_24 : decode cX8_slew 24 = .ok (.goto 4, 3) := by decide +kernel
theorem dX8_slew_27 : decode cX8_slew 27 = .ok (.iconst 0, 1) := by decide +kernel
theorem dX8_slew_28 : decode cX8_slew 28 = .ok (.invokevirtual 88, 3) := by decide +kernel
theorem dX8_slew_31 : decode cX8_slew 31 = .ok (.ifCond .eq 5, 3) := by decide +kernel
theorem dX8_slew_34 : decode cX8_slew 34 = .ok (.iconst 0, 1) := by decide +kernel
theorem dX8_slew_35 : decode cX8_slew 35 = .ok (.ireturn, 1) := by decide +kernel
theorem dX8_slew_36 : decode cX8_slew 36 = .ok (.aload_n 0, 1) := by decide +kernel
theorem dX8_slew_37 : decode cX8_slew 37 = .ok (.iload_n 1, 1) := by decide +kernel
theorem dX8_slew_38 : decode cX8_slew 38 = .ok (.invokevirtual 164, 3) := by decide +kernel
theorem dX8_slew_41 : decode cX8_slew 41 = .ok (.istore_n 2, 1) := by decide +kernel
theorem dX8_slew_42 : decode cX8_slew 42 = .ok (.aload_n 0, 1) := by decide +kernel
theorem dX8_slew_43 : decode cX8_slew 43 = .ok (.iload_n 2, 1) := by decide +kernel
theorem dX8_slew_44 : decode cX8_slew 44 = .ok (.bipush (-9), 2) := by decide +kernel
theorem dX8_slew_46 : decode cX8_slew 46 = .ok (.if_icmp .eq 18, 3) := by decide +kernel
theorem dX8_slew_49 : decode cX8_slew 49 = .ok (.aload_n 0, 1) := by decide +kernel
theorem dX8_slew_50 : decode cX8_slew 50 = .ok (.getfield 16, 3) := by decide +kernel
theorem dX8_slew_53 : decode cX8_slew 53 = .ok (.bipush 21, 2) := by decide +kernel
theorem dX8_slew_55 : decode cX8_slew 55 = .ok (.iaload, 1) := by decide +kernel
theorem dX8_slew_56 : decode cX8_slew 56 = .ok (.iload_n 2, 1) := by decide +kernel
theorem dX8_slew_57 : decode cX8_slew 57 = .ok (.iadd, 1) := by decide +kernel
theorem dX8_slew_58 : decode cX8_slew 58 = .ok (.sipush 200, 3) := by decide +kernel
theorem dX8_slew_61 : decode cX8_slew 61 = .ok (.if_icmp .le 7, 3) := by decide +kernel
theorem dX8_slew_64 : decode cX8_slew 64 = .ok (.iconst 2, 1) := by decide +kernel
theorem dX8_slew_65 : decode cX8_slew 65 = .ok (.goto 4, 3) := by decide +kernel
theorem dX8_slew_68 : decode cX8_slew 68 = .ok (.iconst 0, 1) := by decide +kernel
theorem dX8_slew_69 : decode cX8_slew 69 = .ok (.invokevirtual 88, 3) := by decide +kernel
theorem dX8_slew_72 : decode cX8_slew 72 = .ok (.ifCond .eq 5, 3) := by decide +kernel
theorem dX8_slew_75 : decode cX8_slew 75 = .ok (.iconst 0, 1) := by decide +kernel
theorem dX8_slew_76 : decode cX8_slew 76 = .ok (.ireturn, 1) := by decide +kernel
theorem dX8_slew_77 : decode cX8_slew 77 = .ok (.aload_n 0, 1) := by decide +kernel
theorem dX8_slew_78 : decode cX8_slew 78 = .ok (.invokevirtual 143, 3) := by decide +kernel
theorem dX8_slew_81 : decode cX8_slew 81 = .ok (.aload_n 0, 1) := by decide +kernel
theorem dX8_slew_82 : decode cX8_slew 82 = .ok (.getfield 16, 3) := by decide +kernel
theorem dX8_slew_85 : decode cX8_slew 85 = .ok (.bipush 22, 2) := by decide +kernel
theorem dX8_slew_87 : decode cX8_slew 87 = .ok (.iload_n 1, 1) := by decide +kernel
theorem dX8_slew_88 : decode cX8_slew 88 = .ok (.iastore, 1) := by decide +kernel
theorem dX8_slew_89 : decode cX8_slew 89 = .ok (.aload_n 0, 1) := by decide +kernel
theorem dX8_slew_90 : decode cX8_slew 90 = .ok (.getfield 16, 3) := by decide +kernel
theorem dX8_slew_93 : decode cX8_slew 93 = .ok (.bipush 21, 2) := by decide +kernel
theorem dX8_slew_95 : decode cX8_slew 95 = .ok (.dup2, 1) := by decide +kernel
theorem dX8_slew_96 : decode cX8_slew 96 = .ok (.iaload, 1) := by decide +kernel
theorem dX8_slew_97 : decode cX8_slew 97 = .ok (.iload_n 2, 1) := by decide +kernel
theorem dX8_slew_98 : decode cX8_slew 98 = .ok (.iadd, 1) := by decide +kernel
theorem dX8_slew_99 : decode cX8_slew 99 = .ok (.iastore, 1) := by decide +kernel
theorem dX8_slew_100 : decode cX8_slew 100 = .ok (.iload_n 2, 1) := by decide +kernel
theorem dX8_slew_101 : decode cX8_slew 101 = .ok (.ireturn, 1) := by decide +kernel
def bs_X8_close : List (List Cond) := [[.code yX8_close cX8_close 1 (some .int)], [.fieldLink RX8 16 "SlewPlannerModel" "now" "[I", .methodLink RX8 88 yX8_refused, .instanceMethod yX8_refused, .selects RX8 yX8_refused yX8_refused, .initialized RX8, .code yX8_refused cX8_refused 2 (some .boolean), .fieldLink RX8 57 "SlewPlannerModel" "refusal" "I", .methodLink RX8 143 yX8_note, .instanceMethod yX8_note, .selects RX8 yX8_note yX8_note, .code yX8_note cX8_note 2 none, .fieldLink RX8 22 "SlewPlannerModel" "diary" "[I", .fieldLink RX8 133 "SlewPlannerModel" "next" "I", .fieldLink RX8 136 "SlewPlannerModel" "acts" "I"], wsX80]
theorem bi_X8_close : ∀ w ∈ bs_X8_close.flatten, w ∈ wsX8_close := by
  have h : bs_X8_close.flatten = wsX8_close := by simp only [bs_X8_close, wsX8_close, List.flatten_cons, List.flatten_nil, List.append_assoc, List.append_nil, List.nil_append, List.cons_append]
  intro w hw; rw [h] at hw; exact hw
set_option maxRecDepth 20000 in
theorem ggX8_close_X8_refused : GoodIn wsX8_close wsX8_refused := goodIn_bb bs_X8_close bi_X8_close _ [(1, 5), (1, 6), (2, 0), (2, 1), (2, 2), (2, 3), (2, 4), (2, 5), (2, 6), (2, 7), (2, 8), (2, 9), (2, 10), (2, 11), (2, 12), (2, 13), (2, 14), (2, 15), (2, 16), (2, 17), (2, 18)] rfl (by decide +kernel)
set_option maxRecDepth 20000 in
theorem gX8_close_X8_refused : GoodIn wsX8_close (wsV RX8 88 RX8 yX8_refused wsX8_refused) := goodIn_app (goodIn_bb bs_X8_close bi_X8_close _ [(1, 1), (1, 2), (1, 3), (1, 4)] rfl (by decide +kernel)) ggX8_close_X8_refused
set_option maxRecDepth 20000 in
theorem ggX8_close_X8_note : GoodIn wsX8_close wsX8_note := goodIn_bb bs_X8_close bi_X8_close _ [(1, 10), (1, 11), (1, 12), (1, 0), (1, 13), (2, 0), (2, 1), (2, 2), (2, 3), (2, 4), (2, 5), (2, 6), (2, 7), (2, 8), (2, 9), (2, 10), (2, 11), (2, 12), (2, 13), (2, 14), (2, 15), (2, 16), (2, 17), (2, 18)] rfl (by decide +kernel)
set_option maxRecDepth 20000 in
theorem gX8_close_X8_note : GoodIn wsX8_close (wsV RX8 143 RX8 yX8_note wsX8_note) := goodIn_app (goodIn_bb bs_X8_close bi_X8_close _ [(1, 7), (1, 8), (1, 9), (1, 4)] rfl (by decide +kernel)) ggX8_close_X8_note
theorem dX8_close_0 : decode cX8_close 0 = .ok (.aload_n 0, 1) := by decide +kernel
theorem dX8_close_1 : decode cX8_close 1 = .ok (.aload_n 0, 1) := by decide +kernel
theorem dX8_close_2 : decode cX8_close 2 = .ok (.getfield 16, 3) := by decide +kernel
theorem dX8_close_5 : decode cX8_close 5 = .ok (.bipush 23, 2) := by decide +kernel
theorem dX8_close_7 : decode cX8_close 7 = .ok (.iaload, 1) := by decide +kernel
theorem dX8_close_8 : decode cX8_close 8 = .ok (.iconst 1, 1) := by decide +kernel
theorem dX8_close_9 : decode cX8_close 9 = .ok (.if_icmp .ne 7, 3) := by decide +kernel
theorem dX8_close_12 : decode cX8_close 12 = .ok (.iconst 1, 1) := by decide +kernel
theorem dX8_close_13 : decode cX8_close 13 = .ok (.goto 4, 3) := by decide +kernel
theorem dX8_close_16 : decode cX8_close 16 = .ok (.iconst 0, 1) := by decide +kernel
theorem dX8_close_17 : decode cX8_close 17 = .ok (.invokevirtual 88, 3) := by decide +kernel
theorem dX8_close_20 : decode cX8_close 20 = .ok (.ifCond .eq 5, 3) := by decide +kernel
theorem dX8_close_23 : decode cX8_close 23 = .ok (.iconst 0, 1) := by decide +kernel
theorem dX8_close_24 : decode cX8_close 24 = .ok (.ireturn, 1) := by decide +kernel
theorem dX8_close_25 : decode cX8_close 25 = .ok (.aload_n 0, 1) := by decide +kernel
theorem dX8_close_26 : decode cX8_close 26 = .ok (.invokevirtual 143, 3) := by decide +kernel
theorem dX8_close_29 : decode cX8_close 29 = .ok (.aload_n 0, 1) := by decide +kernel
theorem dX8_close_30 : decode cX8_close 30 = .ok (.getfield 16, 3) := by decide +kernel
theorem dX8_close_33 : decode cX8_close 33 = .ok (.bipush 23, 2) := by decide +kernel
theorem dX8_close_35 : decode cX8_close 35 = .ok (.iconst 1, 1) := by decide +kernel
theorem dX8_close_36 : decode cX8_close 36 = .ok (.iastore, 1) := by decide +kernel
theorem dX8_close_37 : decode cX8_close 37 = .ok (.aload_n 0, 1) := by decide +kernel
theorem dX8_close_38 : decode cX8_close 38 = .ok (.getfield 16, 3) := by decide +kernel
theorem dX8_close_41 : decode cX8_close 41 = .ok (.bipush 21, 2) := by decide +kernel
theorem dX8_close_43 : decode cX8_close 43 = .ok (.iaload, 1) := by decide +kernel
theorem dX8_close_44 : decode cX8_close 44 = .ok (.ireturn, 1) := by decide +kernel
def bs_X8_open : List (List Cond) := [[.code yX8_open cX8_open 1 (some .int)], wsX8_open_r1, wsX8_open_r2, wsX80]
theorem bi_X8_open : ∀ w ∈ bs_X8_open.flatten, w ∈ wsX8_open := by
  have h : bs_X8_open.flatten = wsX8_open := by simp only [bs_X8_open, wsX8_open, List.flatten_cons, List.flatten_nil, List.append_assoc, List.append_nil, List.nil_append, List.cons_append]
  intro w hw; rw [h] at hw; exact hw
set_option maxRecDepth 20000 in
theorem ggX8_open_X8_isBrightIn : GoodIn wsX8_open wsX8_isBrightIn := goodIn_bb bs_X8_open bi_X8_open _ [(1, 5), (1, 6), (1, 7), (1, 8), (1, 9), (1, 4), (1, 10), (1, 11), (1, 12), (1, 13), (1, 14), (1, 15), (1, 16), (1, 17), (1, 18), (1, 19), (1, 20), (1, 21), (3, 0), (3, 1), (3, 2), (3, 3), (3, 4), (3, 5), (3, 6), (3, 7), (3, 8), (3, 9), (3, 10), (3, 11), (3, 12), (3, 13), (3, 14), (3, 15), (3, 16), (3, 17), (3, 18)] rfl (by decide +kernel)
set_option maxRecDepth 20000 in
theorem gX8_open_X8_isBrightIn : GoodIn wsX8_open (wsV RX8 110 RX8 yX8_isBrightIn wsX8_isBrightIn) := goodIn_app (goodIn_bb bs_X8_open bi_X8_open _ [(1, 1), (1, 2), (1, 3), (1, 4)] rfl (by decide +kernel)) ggX8_open_X8_isBrightIn
set_option maxRecDepth 20000 in
theorem ggX8_open_X8_refused : GoodIn wsX8_open wsX8_refused := goodIn_bb bs_X8_open bi_X8_open _ [(2, 1), (2, 2), (3, 0), (3, 1), (3, 2), (3, 3), (3, 4), (3, 5), (3, 6), (3, 7), (3, 8), (3, 9), (3, 10), (3, 11), (3, 12), (3, 13), (3, 14), (3, 15), (3, 16), (3, 17), (3, 18)] rfl (by decide +kernel)
set_option maxRecDepth 20000 in
theorem gX8_open_X8_refused : GoodIn wsX8_open (wsV RX8 88 RX8 yX8_refused wsX8_refused) := goodIn_app (goodIn_bb bs_X8_open bi_X8_open _ [(1, 22), (1, 23), (2, 0), (1, 4)] rfl (by decide +kernel)) ggX8_open_X8_refused
set_option maxRecDepth 20000 in
theorem ggX8_open_X8_note : GoodIn wsX8_open wsX8_note := goodIn_bb bs_X8_open bi_X8_open _ [(2, 6), (2, 7), (2, 8), (1, 0), (2, 9), (3, 0), (3, 1), (3, 2), (3, 3), (3, 4), (3, 5), (3, 6), (3, 7), (3, 8), (3, 9), (3, 10), (3, 11), (3, 12), (3, 13), (3, 14), (3, 15), (3, 16), (3, 17), (3, 18)] rfl (by decide +kernel)
set_option maxRecDepth 20000 in
theorem gX8_open_X8_note : GoodIn wsX8_open (wsV RX8 143 RX8 yX8_note wsX8_note) := goodIn_app (goodIn_bb bs_X8_open bi_X8_open _ [(2, 3), (2, 4), (2, 5), (1, 4)] rfl (by decide +kernel)) ggX8_open_X8_note
theorem dX8_open_0 : decode cX8_open 0 = .ok (.aload_n 0, 1) := by decide +kernel
theorem dX8_open_1 : decode cX8_open 1 = .ok (.aload_n 0, 1) := by decide +kernel
theorem dX8_open_2 : decode cX8_open 2 = .ok (.getfield 16, 3) := by decide +kernel
theorem dX8_open_5 : decode cX8_open 5 = .ok (.bipush 23, 2) := by decide +kernel
theorem dX8_open_7 : decode cX8_open 7 = .ok (.iaload, 1) := by decide +kernel
theorem dX8_open_8 : decode cX8_open 8 = .ok (.ifCond .eq 28, 3) := by decide +kernel
theorem dX8_open_11 : decode cX8_open 11 = .ok (.aload_n 0, 1) := by decide +kernel
theorem dX8_open_12 : decode cX8_open 12 = .ok (.aload_n 0, 1) := by decide +kernel
theorem dX8_open_13 : decode cX8_open 13 = .ok (.getfield 16, 3) := by decide +kernel
theorem dX8_open_16 : decode cX8_open 16 = .ok (.aload_n 0, 1) := by decide +kernel
theorem dX8_open_17 : decode cX8_open 17 = .ok (.getfield 16, 3) := by decide +kernel
theorem dX8_open_20 : decode cX8_open 20 = .ok (.bipush 22, 2) := by decide +kernel
theorem dX8_open_22 : decode cX8_open 22 = .ok (.iaload, 1) := by decide +kernel
theorem dX8_open_23 : decode cX8_open 23 = .ok (.aload_n 0, 1) := by decide +kernel
theorem dX8_open_24 : decode cX8_open 24 = .ok (.getfield 16, 3) := by decide +kernel
theorem dX8_open_27 : decode cX8_open 27 = .ok (.bipush 21, 2) := by decide +kernel
theorem dX8_open_29 : decode cX8_open 29 = .ok (.iaload, 1) := by decide +kernel
theorem dX8_open_30 : decode cX8_open 30 = .ok (.invokevirtual 110, 3) := by decide +kernel
theorem dX8_open_33 : decode cX8_open 33 = .ok (.ifCond .eq 7, 3) := by decide +kernel
theorem dX8_open_36 : decode cX8_open 36 = .ok (.iconst 1, 1) := by decide +kernel
theorem dX8_open_37 : decode cX8_open 37 = .ok (.goto 4, 3) := by decide +kernel
theorem dX8_open_40 : decode cX8_open 40 = .ok (.iconst 0, 1) := by decide +kernel
theorem dX8_open_41 : decode cX8_open 41 = .ok (.invokevirtual 88, 3) := by decide +kernel
theorem dX8_open_44 : decode cX8_open 44 = .ok (.ifCond .eq 5, 3) := by decide +kernel
theorem dX8_open_47 : decode cX8_open 47 = .ok (.iconst 0, 1) := by decide +kernel
theorem dX8_open_48 : decode cX8_open 48 = .ok (.ireturn, 1) := by decide +kernel
theorem dX8_open_49 : decode cX8_open 49 = .ok (.aload_n 0, 1) := by decide +kernel
theorem dX8_open_50 : decode cX8_open 50 = .ok (.invokevirtual 143, 3) := by decide +kernel
theorem dX8_open_53 : decode cX8_open 53 = .ok (.aload_n 0, 1) := by decide +kernel
theorem dX8_open_54 : decode cX8_open 54 = .ok (.getfield 16, 3) := by decide +kernel
theorem dX8_open_57 : decode cX8_open 57 = .ok (.bipush 23, 2) := by decide +kernel
theorem dX8_open_59 : decode cX8_open 59 = .ok (.iconst 0, 1) := by decide +kernel
theorem dX8_open_60 : decode cX8_open 60 = .ok (.iastore, 1) := by decide +kernel
theorem dX8_open_61 : decode cX8_open 61 = .ok (.aload_n 0, 1) := by decide +kernel
theorem dX8_open_62 : decode cX8_open 62 = .ok (.getfield 16, 3) := by decide +kernel
theorem dX8_open_65 : decode cX8_open 65 = .ok (.bipush 21, 2) := by decide +kernel
theorem dX8_open_67 : decode cX8_open 67 = .ok (.iaload, 1) := by decide +kernel
theorem dX8_open_68 : decode cX8_open 68 = .ok (.ireturn, 1) := by decide +kernel
def bs_X8_pass : List (List Cond) := [[.code yX8_pass cX8_pass 2 (some .int)], [.constantLong RX8 167 (100), .fieldLink RX8 16 "SlewPlannerModel" "now" "[I", .methodLink RX8 65 yX8_in, .static yX8_in, .initialized RX8, .code yX8_in cX8_in 6 (some .boolean), .methodLink RX8 88 yX8_refused, .instanceMethod yX8_refused, .selects RX8 yX8_refused yX8_refused, .code yX8_refused cX8_refused 2 (some .boolean), .fieldLink RX8 57 "SlewPlannerModel" "refusal" "I", .methodLink RX8 143 yX8_note, .instanceMethod yX8_note, .selects RX8 yX8_note yX8_note, .code yX8_note cX8_note 2 none, .fieldLink RX8 22 "SlewPlannerModel" "diary" "[I", .fieldLink RX8 133 "SlewPlannerModel" "next" "I", .fieldLink RX8 136 "SlewPlannerModel" "acts" "I"], wsX80]
theorem bi_X8_pass : ∀ w ∈ bs_X8_pass.flatten, w ∈ wsX8_pass := by
  have h : bs_X8_pass.flatten = wsX8_pass := by simp only [bs_X8_pass, wsX8_pass, List.flatten_cons, List.flatten_nil, List.append_assoc, List.append_nil, List.nil_append, List.cons_append]
  intro w hw; rw [h] at hw; exact hw
set_option maxRecDepth 20000 in
theorem ggX8_pass_X8_in : GoodIn wsX8_pass wsX8_in := goodIn_bb bs_X8_pass bi_X8_pass _ [(1, 5)] rfl (by decide +kernel)
set_option maxRecDepth 20000 in
theorem gX8_pass_X8_in : GoodIn wsX8_pass (va_wsS RX8 65 yX8_in wsX8_in) := goodIn_app (goodIn_bb bs_X8_pass bi_X8_pass _ [(1, 2), (1, 3), (1, 4)] rfl (by decide +kernel)) ggX8_pass_X8_in
set_option maxRecDepth 20000 in
theorem ggX8_pass_X8_refused : GoodIn wsX8_pass wsX8_refused := goodIn_bb bs_X8_pass bi_X8_pass _ [(1, 9), (1, 10), (2, 0), (2, 1), (2, 2), (2, 3), (2, 4), (2, 5), (2, 6), (2, 7), (2, 8), (2, 9), (2, 10), (2, 11), (2, 12), (2, 13), (2, 14), (2, 15), (2, 16), (2, 17), (2, 18)] rfl (by decide +kernel)
set_option maxRecDepth 20000 in
theorem gX8_pass_X8_refused : GoodIn wsX8_pass (wsV RX8 88 RX8 yX8_refused wsX8_refused) := goodIn_app (goodIn_bb bs_X8_pass bi_X8_pass _ [(1, 6), (1, 7), (1, 8), (1, 4)] rfl (by decide +kernel)) ggX8_pass_X8_refused
set_option maxRecDepth 20000 in
theorem ggX8_pass_X8_note : GoodIn wsX8_pass wsX8_note := goodIn_bb bs_X8_pass bi_X8_pass _ [(1, 14), (1, 15), (1, 16), (1, 1), (1, 17), (2, 0), (2, 1), (2, 2), (2, 3), (2, 4), (2, 5), (2, 6), (2, 7), (2, 8), (2, 9), (2, 10), (2, 11), (2, 12), (2, 13), (2, 14), (2, 15), (2, 16), (2, 17), (2, 18)] rfl (by decide +kernel)
set_option maxRecDepth 20000 in
theorem gX8_pass_X8_note : GoodIn wsX8_pass (wsV RX8 143 RX8 yX8_note wsX8_note) := goodIn_app (goodIn_bb bs_X8_pass bi_X8_pass _ [(1, 11), (1, 12), (1, 13), (1, 4)] rfl (by decide +kernel)) ggX8_pass_X8_note
theorem dX8_pass_0 : decode cX8_pass 0 = .ok (.aload_n 0, 1) := by decide +kernel
theorem dX8_pass_1 : decode cX8_pass 1 = .ok (.iload_n 1, 1) := by decide +kernel
theorem dX8_pass_2 : decode cX8_pass 2 = .ok (.i2l, 1) := by decide +kernel
theorem dX8_pass_3 : decode cX8_pass 3 = .ok (.lconst 1, 1) := by decide +kernel
theorem dX8_pass_4 : decode cX8_pass 4 = .ok (.ldc2_w 167, 3) := by decide +kernel
theorem dX8_pass_7 : decode cX8_pass 7 = .ok (.invokestatic 65, 3) := by decide +kernel
theorem dX8_pass_10 : decode cX8_pass 10 = .ok (.ifCond .ne 7, 3) := by decide +kernel
theorem dX8_pass_13 : decode cX8_pass 13 = .ok (.iconst 1, 1) := by decide +kernel
theorem dX8_pass_14 : decode cX8_pass 14 = .ok (.goto 33, 3) := by decide +kernel
theorem dX8_pass_17 : decode cX8_pass 17 = .ok (.aload_n 0, 1) := by decide +kernel
theorem dX8_pass_18 : decode cX8_pass 18 = .ok (.getfield 16, 3) := by decide +kernel
theorem dX8_pass_21 : decode cX8_pass 21 = .ok (.bipush 23, 2) := by decide +kernel
theorem dX8_pass_23 : decode cX8_pass 23 = .ok (.iaload, 1) := by decide +kernel
theorem dX8_pass_24 : decode cX8_pass 24 = .ok (.ifCond .eq 18, 3) := by decide +kernel
theorem dX8_pass_27 : decode cX8_pass 27 = .ok (.aload_n 0, 1) := by decide +kernel
theorem dX8_pass_28 : decode cX8_pass 28 = .ok (.getfield 16, 3) := by decide +kernel
theorem dX8_pass_31 : decode cX8_pass 31 = .ok (.bipush 21, 2) := by decide +kernel
theorem dX8_pass_33 : decode cX8_pass 33 = .ok (.iaload, 1) := by decide +kernel
theorem dX8_pass_34 : decode cX8_pass 34 = .ok (.iload_n 1, 1) := by decide +kernel
theorem dX8_pass_35 : decode cX8_pass 35 = .ok (.iadd, 1) := by decide +kernel
theorem dX8_pass_36 : decode cX8_pass 36 = .ok (.sipush 200, 3) := by decide +kernel
theorem dX8_pass_39 : decode cX8_pass 39 = .ok (.if_icmp .le 7, 3) := by decide +kernel
theorem dX8_pass_42 : decode cX8_pass 42 = .ok (.iconst 2, 1) := by decide +kernel
theorem dX8_pass_43 : decode cX8_pass 43 = .ok (.goto 4, 3) := by decide +kernel
theorem dX8_pass_46 : decode cX8_pass 46 = .ok (.iconst 0, 1) := by decide +kernel
theorem dX8_pass_47 : decode cX8_pass 47 = .ok (.invokevirtual 88, 3) := by decide +kernel
theorem dX8_pass_50 : decode cX8_pass 50 = .ok (.ifCond .eq 5, 3) := by decide +kernel
theorem dX8_pass_53 : decode cX8_pass 53 = .ok (.iconst 0, 1) := by decide +kernel
theorem dX8_pass_54 : decode cX8_pass 54 = .ok (.ireturn, 1) := by decide +kernel
theorem dX8_pass_55 : decode cX8_pass 55 = .ok (.aload_n 0, 1) := by decide +kernel
theorem dX8_pass_56 : decode cX8_pass 56 = .ok (.invokevirtual 143, 3) := by decide +kernel
theorem dX8_pass_59 : decode cX8_pass 59 = .ok (.aload_n 0, 1) := by decide +kernel
theorem dX8_pass_60 : decode cX8_pass 60 = .ok (.getfield 16, 3) := by decide +kernel
theorem dX8_pass_63 : decode cX8_pass 63 = .ok (.bipush 21, 2) := by decide +kernel
theorem dX8_pass_65 : decode cX8_pass 65 = .ok (.dup2, 1) := by decide +kernel
theorem dX8_pass_66 : decode cX8_pass 66 = .ok (.iaload, 1) := by decide +kernel
theorem dX8_pass_67 : decode cX8_pass 67 = .ok (.iload_n 1, 1) := by decide +kernel
theorem dX8_pass_68 : decode cX8_pass 68 = .ok (.iadd, 1) := by decide +kernel
theorem dX8_pass_69 : decode cX8_pass 69 = .ok (.iastore, 1) := by decide +kernel
theorem dX8_pass_70 : decode cX8_pass 70 = .ok (.aload_n 0, 1) := by decide +kernel
theorem dX8_pass_71 : decode cX8_pass 71 = .ok (.getfield 16, 3) := by decide +kernel
theorem dX8_pass_74 : decode cX8_pass 74 = .ok (.bipush 21, 2) := by decide +kernel
theorem dX8_pass_76 : decode cX8_pass 76 = .ok (.iaload, 1) := by decide +kernel
theorem dX8_pass_77 : decode cX8_pass 77 = .ok (.ireturn, 1) := by decide +kernel
def bs_X8_addRequest : List (List Cond) := [[.code yX8_addRequest cX8_addRequest 6 (some .int)], [.constantLong RX8 169 (20), .constantLong RX8 158 (99), .fieldLink RX8 16 "SlewPlannerModel" "now" "[I", .methodLink RX8 65 yX8_in, .static yX8_in, .initialized RX8, .code yX8_in cX8_in 6 (some .boolean), .methodLink RX8 82 yX8_isCell, .static yX8_isCell, .code yX8_isCell cX8_isCell 1 (some .boolean), .constantLong RX8 76 (149), .methodLink RX8 88 yX8_refused, .instanceMethod yX8_refused, .selects RX8 yX8_refused yX8_refused, .code yX8_refused cX8_refused 2 (some .boolean), .fieldLink RX8 57 "SlewPlannerModel" "refusal" "I", .methodLink RX8 143 yX8_note, .instanceMethod yX8_note, .selects RX8 yX8_note yX8_note, .code yX8_note cX8_note 2 none, .fieldLink RX8 22 "SlewPlannerModel" "diary" "[I", .fieldLink RX8 133 "SlewPlannerModel" "next" "I", .fieldLink RX8 136 "SlewPlannerModel" "acts" "I"], wsX80]
theorem bi_X8_addRequest : ∀ w ∈ bs_X8_addRequest.flatten, w ∈ wsX8_addRequest := by
  have h : bs_X8_addRequest.flatten = wsX8_addRequest := by simp only [bs_X8_addRequest, wsX8_addRequest, List.flatten_cons, List.flatten_nil, List.append_assoc, List.append_nil, List.nil_append, List.cons_append]
  intro w hw; rw [h] at hw; exact hw
set_option maxRecDepth 20000 in
theorem ggX8_addRequest_X8_in : GoodIn wsX8_addRequest wsX8_in := goodIn_bb bs_X8_addRequest bi_X8_addRequest _ [(1, 6)] rfl (by decide +kernel)
set_option maxRecDepth 20000 in
theorem gX8_addRequest_X8_in : GoodIn wsX8_addRequest (va_wsS RX8 65 yX8_in wsX8_in) := goodIn_app (goodIn_bb bs_X8_addRequest bi_X8_addRequest _ [(1, 3), (1, 4), (1, 5)] rfl (by decide +kernel)) ggX8_addRequest_X8_in
set_option maxRecDepth 20000 in
theorem ggX8_addRequest_X8_isCell : GoodIn wsX8_addRequest wsX8_isCell := goodIn_bb bs_X8_addRequest bi_X8_addRequest _ [(1, 9), (1, 10), (1, 3), (1, 4), (1, 5), (1, 6)] rfl (by decide +kernel)
set_option maxRecDepth 20000 in
theorem gX8_addRequest_X8_isCell : GoodIn wsX8_addRequest (va_wsS RX8 82 yX8_isCell wsX8_isCell) := goodIn_app (goodIn_bb bs_X8_addRequest bi_X8_addRequest _ [(1, 7), (1, 8), (1, 5)] rfl (by decide +kernel)) ggX8_addRequest_X8_isCell
set_option maxRecDepth 20000 in
theorem ggX8_addRequest_X8_refused : GoodIn wsX8_addRequest wsX8_refused := goodIn_bb bs_X8_addRequest bi_X8_addRequest _ [(1, 14), (1, 15), (2, 0), (2, 1), (2, 2), (2, 3), (2, 4), (2, 5), (2, 6), (2, 7), (2, 8), (2, 9), (2, 10), (2, 11), (2, 12), (2, 13), (2, 14), (2, 15), (2, 16), (2, 17), (2, 18)] rfl (by decide +kernel)
set_option maxRecDepth 20000 in
theorem gX8_addRequest_X8_refused : GoodIn wsX8_addRequest (wsV RX8 88 RX8 yX8_refused wsX8_refused) := goodIn_app (goodIn_bb bs_X8_addRequest bi_X8_addRequest _ [(1, 11), (1, 12), (1, 13), (1, 5)] rfl (by decide +kernel)) ggX8_addRequest_X8_refused
set_option maxRecDepth 20000 in
theorem ggX8_addRequest_X8_note : GoodIn wsX8_addRequest wsX8_note := goodIn_bb bs_X8_addRequest bi_X8_addRequest _ [(1, 19), (1, 20), (1, 21), (1, 2), (1, 22), (2, 0), (2, 1), (2, 2), (2, 3), (2, 4), (2, 5), (2, 6), (2, 7), (2, 8), (2, 9), (2, 10), (2, 11), (2, 12), (2, 13), (2, 14), (2, 15), (2, 16), (2, 17), (2, 18)] rfl (by decide +kernel)
set_option maxRecDepth 20000 in
theorem gX8_addRequest_X8_note : GoodIn wsX8_addRequest (wsV RX8 143 RX8 yX8_note wsX8_note) := goodIn_app (goodIn_bb bs_X8_addRequest bi_X8_addRequest _ [(1, 16), (1, 17), (1, 18), (1, 5)] rfl (by decide +kernel)) ggX8_addRequest_X8_note
theorem dX8_addRequest_0 : decode cX8_addRequest 0 = .ok (.iload_n 2, 1) := by decide +kernel
theorem dX8_addRequest_1 : decode cX8_addRequest 1 = .ok (.i2l, 1) := by decide +kernel
theorem dX8_addRequest_2 : decode cX8_addRequest 2 = .ok (.lconst 1, 1) := by decide +kernel
theorem dX8_addRequest_3 : decode cX8_addRequest 3 = .ok (.ldc2_w 169, 3) := by decide +kernel
theorem dX8_addRequest_6 : decode cX8_addRequest 6 = .ok (.invokestatic 65, 3) := by decide +kernel
theorem dX8_addRequest_9 : decode cX8_addRequest 9 = .ok (.ifCond .eq 19, 3) := by decide +kernel
theorem dX8_addRequest_12 : decode cX8_addRequest 12 = .ok (.iload_n 3, 1) := by decide +kernel
theorem dX8_addRequest_13 : decode cX8_addRequest 13 = .ok (.i2l, 1) := by decide +kernel
theorem dX8_addRequest_14 : decode cX8_addRequest 14 = .ok (.lconst 1, 1) := by decide +kernel
theorem dX8_addRequest_15 : decode cX8_addRequest 15 = .ok (.ldc2_w 158, 3) := by decide +kernel
theorem dX8_addRequest_18 : decode cX8_addRequest 18 = .ok (.invokestatic 65, 3) := by decide +kernel
theorem dX8_addRequest_21 : decode cX8_addRequest 21 = .ok (.ifCond .eq 7, 3) := by decide +kernel
theorem dX8_addRequest_24 : decode cX8_addRequest 24 = .ok (.iconst 1, 1) := by decide +kernel
theorem dX8_addRequest_25 : decode cX8_addRequest 25 = .ok (.goto 4, 3) := by decide +kernel
theorem dX8_addRequest_28 : decode cX8_addRequest 28 = .ok (.iconst 0, 1) := by decide +kernel
theorem dX8_addRequest_29 : decode cX8_addRequest 29 = .ok (.istore 4, 2) := by decide +kernel
theorem dX8_addRequest_31 : decode cX8_addRequest 31 = .ok (.aload_n 0, 1) := by decide +kernel
theorem dX8_addRequest_32 : decode cX8_addRequest 32 = .ok (.iload_n 1, 1) := by decide +kernel
theorem dX8_addRequest_33 : decode cX8_addRequest 33 = .ok (.invokestatic 82, 3) := by decide +kernel
theorem dX8_addRequest_36 : decode cX8_addRequest 36 = .ok (.ifCond .ne 7, 3) := by decide +kernel
theorem dX8_addRequest_39 : decode cX8_addRequest 39 = .ok (.iconst 1, 1) := by decide +kernel
theorem dX8_addRequest_40 : decode cX8_addRequest 40 = .ok (.goto 28, 3) := by decide +kernel
theorem dX8_addRequest_43 : decode cX8_addRequest 43 = .ok (.iload 4, 2) := by decide +kernel
theorem dX8_addRequest_45 : decode cX8_addRequest 45 = .ok (.ifCond .ne 7, 3) := by decide +kernel
theorem dX8_addRequest_48 : decode cX8_addRequest 48 = .ok (.iconst 2, 1) := by decide +kernel
theorem dX8_addRequest_49 : decode cX8_addRequest 49 = .ok (.goto 19, 3) := by decide +kernel
theorem dX8_addRequest_52 : decode cX8_addRequest 52 = .ok (.aload_n 0, 1) := by decide +kernel
theorem dX8_addRequest_53 : decode cX8_addRequest 53 = .ok (.getfield 16, 3) := by decide +kernel
theorem dX8_addRequest_56 : decode cX8_addRequest 56 = .ok (.bipush 24, 2) := by decide +kernel
theorem dX8_addRequest_58 : decode cX8_addRequest 58 = .ok (.iaload, 1) := by decide +kernel
theorem dX8_addRequest_59 : decode cX8_addRequest 59 = .ok (.iconst 4, 1) := by decide +kernel
theorem dX8_addRequest_60 : decode cX8_addRequest 60 = .ok (.if_icmp .ne 7, 3) := by decide +kernel
theorem dX8_addRequest_63 : decode cX8_addRequest 63 = .ok (.iconst 3, 1) := by decide +kernel
theorem dX8_addRequest_64 : decode cX8_addRequest 64 = .ok (.goto 4, 3) := by decide +kernel
theorem dX8_addRequest_67 : decode cX8_addRequest 67 = .ok (.iconst 0, 1) := by decide +kernel
theorem dX8_addRequest_68 : decode cX8_addRequest 68 = .ok (.invokevirtual 88, 3) := by decide +kernel
theorem dX8_addRequest_71 : decode cX8_addRequest 71 = .ok (.ifCond .eq 5, 3) := by decide +kernel
theorem dX8_addRequest_74 : decode cX8_addRequest 74 = .ok (.iconst 0, 1) := by decide +kernel
theorem dX8_addRequest_75 : decode cX8_addRequest 75 = .ok (.ireturn, 1) := by decide +kernel
theorem dX8_addRequest_76 : decode cX8_addRequest 76 = .ok (.aload_n 0, 1) := by decide +kernel
theorem dX8_addRequest_77 : decode cX8_addRequest 77 = .ok (.invokevirtual 143, 3) := by decide +kernel
theorem dX8_addRequest_80 : decode cX8_addRequest 80 = .ok (.bipush 25, 2) := by decide +kernel
theorem dX8_addRequest_82 : decode cX8_addRequest 82 = .ok (.iconst 3, 1) := by decide +kernel
theorem dX8_addRequest_83 : decode cX8_addRequest 83 = .ok (.aload_n 0, 1) := by decide +kernel
theorem dX8_addRequest_84 : decode cX8_addRequest 84 = .ok (.getfield 16, 3) := by decide +kernel
theorem dX8_addRequest_87 : decode cX8_addRequest 87 = .ok (.bipush 24, 2) := by decide +kernel
theorem dX8_addRequest_89 : decode cX8_addRequest 89 = .ok (.iaload, 1) := by decide +kernel
theorem dX8_addRequest_90 : decode cX8_addRequest 90 = .ok (.imul, 1) := by decide +kernel
theorem dX8_addRequest_91 : decode cX8_addRequest 91 = .ok (.iadd, 1) := by decide +kernel
theorem dX8_addRequest_92 : decode cX8_addRequest 92 = .ok (.istore 5, 2) := by decide +kernel
theorem dX8_addRequest_94 : decode cX8_addRequest 94 = .ok (.aload_n 0, 1) := by decide +kernel
theorem dX8_addRequest_95 : decode cX8_addRequest 95 = .ok (.getfield 16, 3) := by decide +kernel
theorem dX8_addRequest_98 : decode cX8_addRequest 98 = .ok (.iload 5, 2) := by decide +kernel
theorem dX8_addRequest_100 : decode cX8_addRequest 100 = .ok (.iload_n 1, 1) := by decide +kernel
theorem dX8_addRequest_101 : decode cX8_addRequest 101 = .ok (.iastore, 1) := by decide +kernel
theorem dX8_addRequest_102 : decode cX8_addRequest 102 = .ok (.aload_n 0, 1) := by decide +kernel
theorem dX8_addRequest_103 : decode cX8_addRequest 103 = .ok (.getfield 16, 3) := by decide +kernel
theorem dX8_addRequest_106 : decode cX8_addRequest 106 = .ok (.iload 5, 2) := by decide +kernel
theorem dX8_addRequest_108 : decode cX8_addRequest 108 = .ok (.iconst 1, 1) := by decide +kernel
theorem dX8_addRequest_109 : decode cX8_addRequest 109 = .ok (.iadd, 1) := by decide +kernel
theorem dX8_addRequest_110 : decode cX8_addRequest 110 = .ok (.iload_n 2, 1) := by decide +kernel
theorem dX8_addRequest_111 : decode cX8_addRequest 111 = .ok (.iastore, 1) := by decide +kernel
theorem dX8_addRequest_112 : decode cX8_addRequest 112 = .ok (.aload_n 0, 1) := by decide +kernel
theorem dX8_addRequest_113 : decode cX8_addRequest 113 = .ok (.getfield 16, 3) := by decide +kernel
theorem dX8_addRequest_116 : decode cX8_addRequest 116 = .ok (.iload 5, 2) := by decide +kernel
theorem dX8_addRequest_118 : decode cX8_addRequest 118 = .ok (.iconst 2, 1) := by decide +kernel
theorem dX8_addRequest_119 : decode cX8_addRequest 119 = .ok (.iadd, 1) := by decide +kernel
theorem dX8_addRequest_120 : decode cX8_addRequest 120 = .ok (.iload_n 3, 1) := by decide +kernel
theorem dX8_addRequest_121 : decode cX8_addRequest 121 = .ok (.iastore, 1) := by decide +kernel
theorem dX8_addRequest_122 : decode cX8_addRequest 122 = .ok (.aload_n 0, 1) := by decide +kernel
theorem dX8_addRequest_123 : decode cX8_addRequest 123 = .ok (.getfield 16, 3) := by decide +kernel
theorem dX8_addRequest_126 : decode cX8_addRequest 126 = .ok (.bipush 24, 2) := by decide +kernel
theorem dX8_addRequest_128 : decode cX8_addRequest 128 = .ok (.dup2, 1) := by decide +kernel
theorem dX8_addRequest_129 : decode cX8_addRequest 129 = .ok (.iaload, 1) := by decide +kernel
theorem dX8_addRequest_130 : decode cX8_addRequest 130 = .ok (.iconst 1, 1) := by decide +kernel
theorem dX8_addRequest_131 : decode cX8_addRequest 131 = .ok (.iadd, 1) := by decide +kernel
theorem dX8_addRequest_132 : decode cX8_addRequest 132 = .ok (.iastore, 1) := by decide +kernel
theorem dX8_addRequest_133 : decode cX8_addRequest 133 = .ok (.aload_n 0, 1) := by decide +kernel
theorem dX8_addRequest_134 : decode cX8_addRequest 134 = .ok (.getfield 16, 3) := by decide +kernel
theorem dX8_addRequest_137 : decode cX8_addRequest 137 = .ok (.bipush 24, 2) := by decide +kernel
theorem dX8_addRequest_139 : decode cX8_addRequest 139 = .ok (.iaload, 1) := by decide +kernel
theorem dX8_addRequest_140 : decode cX8_addRequest 140 = .ok (.iconst 1, 1) := by decide +kernel
theorem dX8_addRequest_141 : decode cX8_addRequest 141 = .ok (.isub, 1) := by decide +kernel
theorem dX8_addRequest_142 : decode cX8_addRequest 142 = .ok (.ireturn, 1) := by decide +kernel
def bs_X8_isRequest : List (List Cond) := [[.code yX8_isRequest cX8_isRequest 2 (some .boolean)], [.fieldLink RX8 16 "SlewPlannerModel" "now" "[I", .methodLink RX8 65 yX8_in, .static yX8_in, .initialized RX8, .code yX8_in cX8_in 6 (some .boolean)], wsX80]
theorem bi_X8_isRequest : ∀ w ∈ bs_X8_isRequest.flatten, w ∈ wsX8_isRequest := by
  have h : bs_X8_isRequest.flatten = wsX8_isRequest := by simp only [bs_X8_isRequest, wsX8_isRequest, List.flatten_cons, List.flatten_nil, List.append_assoc, List.append_nil, List.nil_append, List.cons_append]
  intro w hw; rw [h] at hw; exact hw
set_option maxRecDepth 20000 in
theorem ggX8_isRequest_X8_in : GoodIn wsX8_isRequest wsX8_in := goodIn_bb bs_X8_isRequest bi_X8_isRequest _ [(1, 4)] rfl (by decide +kernel)
set_option maxRecDepth 20000 in
theorem gX8_isRequest_X8_in : GoodIn wsX8_isRequest (va_wsS RX8 65 yX8_in wsX8_in) := goodIn_app (goodIn_bb bs_X8_isRequest bi_X8_isRequest _ [(1, 1), (1, 2), (1, 3)] rfl (by decide +kernel)) ggX8_isRequest_X8_in
theorem dX8_isRequest_0 : decode cX8_isRequest 0 = .ok (.iload_n 1, 1) := by decide +kernel
theorem dX8_isRequest_1 : decode cX8_isRequest 1 = .ok (.i2l, 1) := by decide +kernel
theorem dX8_isRequest_2 : decode cX8_isRequest 2 = .ok (.lconst 0, 1) := by decide +kernel
theorem dX8_isRequest_3 : decode cX8_isRequest 3 = .ok (.aload_n 0, 1) := by decide +kernel
theorem dX8_isRequest_4 : decode cX8_isRequest 4 = .ok (.getfield 16, 3) := by decide +kernel
theorem dX8_isRequest_7 : decode cX8_isRequest 7 = .ok (.bipush 24, 2) := by decide +kernel
theorem dX8_isRequest_9 : decode cX8_isRequest 9 = .ok (.iaload, 1) := by decide +kernel
theorem dX8_isRequest_10 : decode cX8_isRequest 10 = .ok (.iconst 1, 1) := by decide +kernel
theorem dX8_isRequest_11 : decode cX8_isRequest 11 = .ok (.isub, 1) := by decide +kernel
theorem dX8_isRequest_12 : decode cX8_isRequest 12 = .ok (.i2l, 1) := by decide +kernel
theorem dX8_isRequest_13 : decode cX8_isRequest 13 = .ok (.invokestatic 65, 3) := by decide +kernel
theorem dX8_isRequest_16 : decode cX8_isRequest 16 = .ok (.ireturn, 1) := by decide +kernel
def bs_X8_removeRequest : List (List Cond) := [[.code yX8_removeRequest cX8_removeRequest 3 (some .int)], [.fieldLink RX8 16 "SlewPlannerModel" "now" "[I", .methodLink RX8 171 yX8_isRequest, .instanceMethod yX8_isRequest, .selects RX8 yX8_isRequest yX8_isRequest, .initialized RX8, .code yX8_isRequest cX8_isRequest 2 (some .boolean), .methodLink RX8 65 yX8_in, .static yX8_in, .code yX8_in cX8_in 6 (some .boolean), .methodLink RX8 88 yX8_refused, .instanceMethod yX8_refused, .selects RX8 yX8_refused yX8_refused, .code yX8_refused cX8_refused 2 (some .boolean), .fieldLink RX8 57 "SlewPlannerModel" "refusal" "I", .methodLink RX8 143 yX8_note, .instanceMethod yX8_note, .selects RX8 yX8_note yX8_note, .code yX8_note cX8_note 2 none, .fieldLink RX8 22 "SlewPlannerModel" "diary" "[I", .fieldLink RX8 133 "SlewPlannerModel" "next" "I", .fieldLink RX8 136 "SlewPlannerModel" "acts" "I"], wsX80]
theorem bi_X8_removeRequest : ∀ w ∈ bs_X8_removeRequest.flatten, w ∈ wsX8_removeRequest := by
  have h : bs_X8_removeRequest.flatten = wsX8_removeRequest := by simp only [bs_X8_removeRequest, wsX8_removeRequest, List.flatten_cons, List.flatten_nil, List.append_assoc, List.append_nil, List.nil_append, List.cons_append]
  intro w hw; rw [h] at hw; exact hw
set_option maxRecDepth 20000 in
theorem ggX8_removeRequest_X8_isRequest : GoodIn wsX8_removeRequest wsX8_isRequest := goodIn_bb bs_X8_removeRequest bi_X8_removeRequest _ [(1, 5), (1, 0), (1, 6), (1, 7), (1, 4), (1, 8), (2, 0), (2, 1), (2, 2), (2, 3), (2, 4), (2, 5), (2, 6), (2, 7), (2, 8), (2, 9), (2, 10), (2, 11), (2, 12), (2, 13), (2, 14), (2, 15), (2, 16), (2, 17), (2, 18)] rfl (by decide +kernel)
set_option maxRecDepth 20000 in
theorem gX8_removeRequest_X8_isRequest : GoodIn wsX8_removeRequest (wsV RX8 171 RX8 yX8_isRequest wsX8_isRequest) := goodIn_app (goodIn_bb bs_X8_removeRequest bi_X8_removeRequest _ [(1, 1), (1, 2), (1, 3), (1, 4)] rfl (by decide +kernel)) ggX8_removeRequest_X8_isRequest
set_option maxRecDepth 20000 in
theorem ggX8_removeRequest_X8_refused : GoodIn wsX8_removeRequest wsX8_refused := goodIn_bb bs_X8_removeRequest bi_X8_removeRequest _ [(1, 12), (1, 13), (2, 0), (2, 1), (2, 2), (2, 3), (2, 4), (2, 5), (2, 6), (2, 7), (2, 8), (2, 9), (2, 10), (2, 11), (2, 12), (2, 13), (2, 14), (2, 15), (2, 16), (2, 17), (2, 18)] rfl (by decide +kernel)
set_option maxRecDepth 20000 in
theorem gX8_removeRequest_X8_refused : GoodIn wsX8_removeRequest (wsV RX8 88 RX8 yX8_refused wsX8_refused) := goodIn_app (goodIn_bb bs_X8_removeRequest bi_X8_removeRequest _ [(1, 9), (1, 10), (1, 11), (1, 4)] rfl (by decide +kernel)) ggX8_removeRequest_X8_refused
set_option maxRecDepth 20000 in
theorem ggX8_removeRequest_X8_note : GoodIn wsX8_removeRequest wsX8_note := goodIn_bb bs_X8_removeRequest bi_X8_removeRequest _ [(1, 17), (1, 18), (1, 19), (1, 0), (1, 20), (2, 0), (2, 1), (2, 2), (2, 3), (2, 4), (2, 5), (2, 6), (2, 7), (2, 8), (2, 9), (2, 10), (2, 11), (2, 12), (2, 13), (2, 14), (2, 15), (2, 16), (2, 17), (2, 18)] rfl (by decide +kernel)
set_option maxRecDepth 20000 in
theorem gX8_removeRequest_X8_note : GoodIn wsX8_removeRequest (wsV RX8 143 RX8 yX8_note wsX8_note) := goodIn_app (goodIn_bb bs_X8_removeRequest bi_X8_removeRequest _ [(1, 14), (1, 15), (1, 16), (1, 4)] rfl (by decide +kernel)) ggX8_removeRequest_X8_note
theorem dX8_removeRequest_0 : decode cX8_removeRequest 0 = .ok (.aload_n 0, 1) := by decide +kernel
theorem dX8_removeRequest_1 : decode cX8_removeRequest 1 = .ok (.aload_n 0, 1) := by decide +kernel
theorem dX8_removeRequest_2 : decode cX8_removeRequest 2 = .ok (.iload_n 1, 1) := by decide +kernel
theorem dX8_removeRequest_3 : decode cX8_removeRequest 3 = .ok (.invokevirtual 171, 3) := by decide +kernel
theorem dX8_removeRequest_6 : decode cX8_removeRequest 6 = .ok (.ifCond .eq 7, 3) := by decide +kernel
theorem dX8_removeRequest_9 : decode cX8_removeRequest 9 = .ok (.iconst 0, 1) := by decide +kernel
theorem dX8_removeRequest_10 : decode cX8_removeRequest 10 = .ok (.goto 4, 3) := by decide +kernel
theorem dX8_removeRequest_13 : decode cX8_removeRequest 13 = .ok (.iconst 1, 1) := by decide +kernel
theorem dX8_removeRequest_14 : decode cX8_removeRequest 14 = .ok (.invokevirtual 88, 3) := by decide +kernel
theorem dX8_removeRequest_17 : decode cX8_removeRequest 17 = .ok (.ifCond .eq 5, 3) := by decide +kernel
theorem dX8_removeRequest_20 : decode cX8_removeRequest 20 = .ok (.iconst 0, 1) := by decide +kernel
theorem dX8_removeRequest_21 : decode cX8_removeRequest 21 = .ok (.ireturn, 1) := by decide +kernel
theorem dX8_removeRequest_22 : decode cX8_removeRequest 22 = .ok (.aload_n 0, 1) := by decide +kernel
theorem dX8_removeRequest_23 : decode cX8_removeRequest 23 = .ok (.invokevirtual 143, 3) := by decide +kernel
theorem dX8_removeRequest_26 : decode cX8_removeRequest 26 = .ok (.aload_n 0, 1) := by decide +kernel
theorem dX8_removeRequest_27 : decode cX8_removeRequest 27 = .ok (.getfield 16, 3) := by decide +kernel
theorem dX8_removeRequest_30 : decode cX8_removeRequest 30 = .ok (.bipush 24, 2) := by decide +kernel
theorem dX8_removeRequest_32 : decode cX8_removeRequest 32 = .ok (.dup2, 1) := by decide +kernel
theorem dX8_removeRequest_33 : decode cX8_removeRequest 33 = .ok (.iaload, 1) := by decide +kernel
theorem dX8_removeRequest_34 : decode cX8_removeRequest 34 = .ok (.iconst 1, 1) := by decide +kernel
theorem dX8_removeRequest_35 : decode cX8_removeRequest 35 = .ok (.isub, 1) := by decide +kernel
theorem dX8_removeRequest_36 : decode cX8_removeRequest 36 = .ok (.iastore, 1) := by decide +kernel
theorem dX8_removeRequest_37 : decode cX8_removeRequest 37 = .ok (.bipush 25, 2) := by decide +kernel
theorem dX8_removeRequest_39 : decode cX8_removeRequest 39 = .ok (.iconst 3, 1) := by decide +kernel
theorem dX8_removeRequest_40 : decode cX8_removeRequest 40 = .ok (.iload_n 1, 1) := by decide +kernel
theorem dX8_removeRequest_41 : decode cX8_removeRequest 41 = .ok (.imul, 1) := by decide +kernel
theorem dX8_removeRequest_42 : decode cX8_removeRequest 42 = .ok (.iadd, 1) := by decide +kernel
theorem dX8_removeRequest_43 : decode cX8_removeRequest 43 = .ok (.istore_n 2, 1) := by decide +kernel
theorem dX8_removeRequest_44 : decode cX8_removeRequest 44 = .ok (.iload_n 2, 1) := by decide +kernel
theorem dX8_removeRequest_45 : decode cX8_removeRequest 45 = .ok (.bipush 25, 2) := by decide +kernel
theorem dX8_removeRequest_47 : decode cX8_removeRequest 47 = .ok (.iconst 3, 1) := by decide +kernel
theorem dX8_removeRequest_48 : decode cX8_removeRequest 48 = .ok (.aload_n 0, 1) := by decide +kernel
theorem dX8_removeRequest_49 : decode cX8_removeRequest 49 = .ok (.getfield 16, 3) := by decide +kernel
theorem dX8_removeRequest_52 : decode cX8_removeRequest 52 = .ok (.bipush 24, 2) := by decide +kernel
theorem dX8_removeRequest_54 : decode cX8_removeRequest 54 = .ok (.iaload, 1) := by decide +kernel
theorem dX8_removeRequest_55 : decode cX8_removeRequest 55 = .ok (.imul, 1) := by decide +kernel
theorem dX8_removeRequest_56 : decode cX8_removeRequest 56 = .ok (.iadd, 1) := by decide +kernel
theorem dX8_removeRequest_57 : decode cX8_removeRequest 57 = .ok (.if_icmp .ge 23, 3) := by decide +kernel
theorem dX8_removeRequest_60 : decode cX8_removeRequest 60 = .ok (.aload_n 0, 1) := by decide +kernel
theorem dX8_removeRequest_61 : decode cX8_removeRequest 61 = .ok (.getfield 16, 3) := by decide +kernel
theorem dX8_removeRequest_64 : decode cX8_removeRequest 64 = .ok (.iload_n 2, 1) := by decide +kernel
theorem dX8_removeRequest_65 : decode cX8_removeRequest 65 = .ok (.aload_n 0, 1) := by decide +kernel
theorem dX8_removeRequest_66 : decode cX8_removeRequest 66 = .ok (.getfield 16, 3) := by decide +kernel
theorem dX8_removeRequest_69 : decode cX8_removeRequest 69 = .ok (.iload_n 2, 1) := by decide +kernel
theorem dX8_removeRequest_70 : decode cX8_removeRequest 70 = .ok (.iconst 3, 1) := by decide +kernel
theorem dX8_removeRequest_71 : decode cX8_removeRequest 71 = .ok (.iadd, 1) := by decide +kernel
theorem dX8_removeRequest_72 : decode cX8_removeRequest 72 = .ok (.iaload, 1) := by decide +kernel
theorem dX8_removeRequest_73 : decode cX8_removeRequest 73 = .ok (.iastore, 1) := by decide +kernel
theorem dX8_removeRequest_74 : decode cX8_removeRequest 74 = .ok (.iinc 2 1, 3) := by decide +kernel
theorem dX8_removeRequest_77 : decode cX8_removeRequest 77 = .ok (.goto (-33), 3) := by decide +kernel
theorem dX8_removeRequest_80 : decode cX8_removeRequest 80 = .ok (.aload_n 0, 1) := by decide +kernel
theorem dX8_removeRequest_81 : decode cX8_removeRequest 81 = .ok (.getfield 16, 3) := by decide +kernel
theorem dX8_removeRequest_84 : decode cX8_removeRequest 84 = .ok (.bipush 24, 2) := by decide +kernel
theorem dX8_removeRequest_86 : decode cX8_removeRequest 86 = .ok (.iaload, 1) := by decide +kernel
theorem dX8_removeRequest_87 : decode cX8_removeRequest 87 = .ok (.ireturn, 1) := by decide +kernel
def bs_X8_undo : List (List Cond) := [[.code yX8_undo cX8_undo 2 (some .int)], [.fieldLink RX8 136 "SlewPlannerModel" "acts" "I", .fieldLink RX8 133 "SlewPlannerModel" "next" "I", .fieldLink RX8 16 "SlewPlannerModel" "now" "[I", .fieldLink RX8 22 "SlewPlannerModel" "diary" "[I", .methodLink RX8 88 yX8_refused, .instanceMethod yX8_refused, .selects RX8 yX8_refused yX8_refused, .initialized RX8, .code yX8_refused cX8_refused 2 (some .boolean), .fieldLink RX8 57 "SlewPlannerModel" "refusal" "I"], wsX80]
theorem bi_X8_undo : ∀ w ∈ bs_X8_undo.flatten, w ∈ wsX8_undo := by
  have h : bs_X8_undo.flatten = wsX8_undo := by simp only [bs_X8_undo, wsX8_undo, List.flatten_cons, List.flatten_nil, List.append_assoc, List.append_nil, List.nil_append, List.cons_append]
  intro w hw; rw [h] at hw; exact hw
set_option maxRecDepth 20000 in
theorem ggX8_undo_X8_refused : GoodIn wsX8_undo wsX8_refused := goodIn_bb bs_X8_undo bi_X8_undo _ [(1, 8), (1, 9), (2, 0), (2, 1), (2, 2), (2, 3), (2, 4), (2, 5), (2, 6), (2, 7), (2, 8), (2, 9), (2, 10), (2, 11), (2, 12), (2, 13), (2, 14), (2, 15), (2, 16), (2, 17), (2, 18)] rfl (by decide +kernel)
set_option maxRecDepth 20000 in
theorem gX8_undo_X8_refused : GoodIn wsX8_undo (wsV RX8 88 RX8 yX8_refused wsX8_refused) := goodIn_app (goodIn_bb bs_X8_undo bi_X8_undo _ [(1, 4), (1, 5), (1, 6), (1, 7)] rfl (by decide +kernel)) ggX8_undo_X8_refused
theorem dX8_undo_0 : decode cX8_undo 0 = .ok (.aload_n 0, 1) := by decide +kernel
theorem dX8_undo_1 : decode cX8_undo 1 = .ok (.aload_n 0, 1) := by decide +kernel
theorem dX8_undo_2 : decode cX8_undo 2 = .ok (.getfield 136, 3) := by decide +kernel
theorem dX8_undo_5 : decode cX8_undo 5 = .ok (.ifCond .ne 7, 3) := by decide +kernel
theorem dX8_undo_8 : decode cX8_undo 8 = .ok (.iconst 1, 1) := by decide +kernel
theorem dX8_undo_9 : decode cX8_undo 9 = .ok (.goto 4, 3) := by decide +kernel
theorem dX8_undo_12 : decode cX8_undo 12 = .ok (.iconst 0, 1) := by decide +kernel
theorem dX8_undo_13 : decode cX8_undo 13 = .ok (.invokevirtual 88, 3) := by decide +kernel
theorem dX8_undo_16 : decode cX8_undo 16 = .ok (.ifCond .eq 5, 3) := by decide +kernel
theorem dX8_undo_19 : decode cX8_undo 19 = .ok (.iconst 0, 1) := by decide +kernel
theorem dX8_undo_20 : decode cX8_undo 20 = .ok (.ireturn, 1) := by decide +kernel
theorem dX8_undo_21 : decode cX8_undo 21 = .ok (.aload_n 0, 1) := by decide +kernel
theorem dX8_undo_22 : decode cX8_undo 22 = .ok (.dup, 1) := by decide +kernel
theorem dX8_undo_23 : decode cX8_undo 23 = .ok (.getfield 136, 3) := by decide +kernel
theorem dX8_undo_26 : decode cX8_undo 26 = .ok (.iconst 1, 1) := by decide +kernel
theorem dX8_undo_27 : decode cX8_undo 27 = .ok (.isub, 1) := by decide +kernel
theorem dX8_undo_28 : decode cX8_undo 28 = .ok (.putfield 136, 3) := by decide +kernel
theorem dX8_undo_31 : decode cX8_undo 31 = .ok (.aload_n 0, 1) := by decide +kernel
theorem dX8_undo_32 : decode cX8_undo 32 = .ok (.aload_n 0, 1) := by decide +kernel
theorem dX8_undo_33 : decode cX8_undo 33 = .ok (.getfield 133, 3) := by decide +kernel
theorem dX8_undo_36 : decode cX8_undo 36 = .ok (.bipush 14, 2) := by decide +kernel
theorem dX8_undo_38 : decode cX8_undo 38 = .ok (.iadd, 1) := by decide +kernel
theorem dX8_undo_39 : decode cX8_undo 39 = .ok (.iconst 1, 1) := by decide +kernel
theorem dX8_undo_40 : decode cX8_undo 40 = .ok (.isub, 1) := by decide +kernel
theorem dX8_undo_41 : decode cX8_undo 41 = .ok (.bipush 14, 2) := by decide +kernel
theorem dX8_undo_43 : decode cX8_undo 43 = .ok (.irem, 1) := by decide +kernel
theorem dX8_undo_44 : decode cX8_undo 44 = .ok (.putfield 133, 3) := by decide +kernel
theorem dX8_undo_47 : decode cX8_undo 47 = .ok (.iconst 0, 1) := by decide +kernel
theorem dX8_undo_48 : decode cX8_undo 48 = .ok (.istore_n 1, 1) := by decide +kernel
theorem dX8_undo_49 : decode cX8_undo 49 = .ok (.iload_n 1, 1) := by decide +kernel
theorem dX8_undo_50 : decode cX8_undo 50 = .ok (.bipush 37, 2) := by decide +kernel
theorem dX8_undo_52 : decode cX8_undo 52 = .ok (.if_icmp .ge 29, 3) := by decide +kernel
theorem dX8_undo_55 : decode cX8_undo 55 = .ok (.aload_n 0, 1) := by decide +kernel
theorem dX8_undo_56 : decode cX8_undo 56 = .ok (.getfield 16, 3) := by decide +kernel
theorem dX8_undo_59 : decode cX8_undo 59 = .ok (.iload_n 1, 1) := by decide +kernel
theorem dX8_undo_60 : decode cX8_undo 60 = .ok (.aload_n 0, 1) := by decide +kernel
theorem dX8_undo_61 : decode cX8_undo 61 = .ok (.getfield 22, 3) := by decide +kernel
theorem dX8_undo_64 : decode cX8_undo 64 = .ok (.bipush 37, 2) := by decide +kernel
theorem dX8_undo_66 : decode cX8_undo 66 = .ok (.aload_n 0, 1) := by decide +kernel
theorem dX8_undo_67 : decode cX8_undo 67 = .ok (.getfield 133, 3) := by decide +kernel
theorem dX8_undo_70 : decode cX8_undo 70 = .ok (.imul, 1) := by decide +kernel
theorem dX8_undo_71 : decode cX8_undo 71 = .ok (.iload_n 1, 1) := by decide +kernel
theorem dX8_undo_72 : decode cX8_undo 72 = .ok (.iadd, 1) := by decide +kernel
theorem dX8_undo_73 : decode cX8_undo 73 = .ok (.iaload, 1) := by decide +kernel
theorem dX8_undo_74 : decode cX8_undo 74 = .ok (.iastore, 1) := by decide +kernel
theorem dX8_undo_75 : decode cX8_undo 75 = .ok (.iinc 1 1, 3) := by decide +kernel
theorem dX8_undo_78 : decode cX8_undo 78 = .ok (.goto (-29), 3) := by decide +kernel
theorem dX8_undo_81 : decode cX8_undo 81 = .ok (.aload_n 0, 1) := by decide +kernel
theorem dX8_undo_82 : decode cX8_undo 82 = .ok (.getfield 136, 3) := by decide +kernel
theorem dX8_undo_85 : decode cX8_undo 85 = .ok (.ireturn, 1) := by decide +kernel
def bs_X8_layDark : List (List Cond) := [[.code yX8_layDark cX8_layDark 4 none], [.fieldLink RX8 32 "SlewPlannerModel" "isDark" "[Z", .fieldLink RX8 16 "SlewPlannerModel" "now" "[I", .methodLink RX8 110 yX8_isBrightIn, .instanceMethod yX8_isBrightIn, .selects RX8 yX8_isBrightIn yX8_isBrightIn, .initialized RX8, .code yX8_isBrightIn cX8_isBrightIn 10 (some .boolean), .constantLong RX8 100 (10000), .methodLink RX8 97 yX8_productOf, .instanceMethod yX8_productOf, .selects RX8 yX8_productOf yX8_productOf, .code yX8_productOf cX8_productOf 7 (some .int), .fieldLink RX8 7 "SlewPlannerModel" "vector" "[I", .methodLink RX8 93 yX8_directionOf, .static yX8_directionOf, .code yX8_directionOf cX8_directionOf 4 (some .int), .methodLink RX8 102 yX8_squareOfCell, .instanceMethod yX8_squareOfCell, .selects RX8 yX8_squareOfCell yX8_squareOfCell, .code yX8_squareOfCell cX8_squareOfCell 4 (some .int), .methodLink RX8 106 yX8_squareOf, .static yX8_squareOf, .code yX8_squareOf cX8_squareOf 6 (some .int)], wsX80]
theorem bi_X8_layDark : ∀ w ∈ bs_X8_layDark.flatten, w ∈ wsX8_layDark := by
  have h : bs_X8_layDark.flatten = wsX8_layDark := by simp only [bs_X8_layDark, wsX8_layDark, List.flatten_cons, List.flatten_nil, List.append_assoc, List.append_nil, List.nil_append, List.cons_append]
  intro w hw; rw [h] at hw; exact hw
set_option maxRecDepth 20000 in
theorem ggX8_layDark_X8_isBrightIn : GoodIn wsX8_layDark wsX8_isBrightIn := goodIn_bb bs_X8_layDark bi_X8_layDark _ [(1, 6), (1, 7), (1, 8), (1, 9), (1, 10), (1, 5), (1, 11), (1, 12), (1, 13), (1, 14), (1, 15), (1, 16), (1, 17), (1, 18), (1, 19), (1, 20), (1, 21), (1, 22), (2, 0), (2, 1), (2, 2), (2, 3), (2, 4), (2, 5), (2, 6), (2, 7), (2, 8), (2, 9), (2, 10), (2, 11), (2, 12), (2, 13), (2, 14), (2, 15), (2, 16), (2, 17), (2, 18)] rfl (by decide +kernel)
set_option maxRecDepth 20000 in
theorem gX8_layDark_X8_isBrightIn : GoodIn wsX8_layDark (wsV RX8 110 RX8 yX8_isBrightIn wsX8_isBrightIn) := goodIn_app (goodIn_bb bs_X8_layDark bi_X8_layDark _ [(1, 2), (1, 3), (1, 4), (1, 5)] rfl (by decide +kernel)) ggX8_layDark_X8_isBrightIn
theorem dX8_layDark_0 : decode cX8_layDark 0 = .ok (.iconst 0, 1) := by decide +kernel
theorem dX8_layDark_1 : decode cX8_layDark 1 = .ok (.istore_n 2, 1) := by decide +kernel
theorem dX8_layDark_2 : decode cX8_layDark 2 = .ok (.iload_n 2, 1) := by decide +kernel
theorem dX8_layDark_3 : decode cX8_layDark 3 = .ok (.iload_n 1, 1) := by decide +kernel
theorem dX8_layDark_4 : decode cX8_layDark 4 = .ok (.if_icmp .gt 62, 3) := by decide +kernel
theorem dX8_layDark_7 : decode cX8_layDark 7 = .ok (.iconst 0, 1) := by decide +kernel
theorem dX8_layDark_8 : decode cX8_layDark 8 = .ok (.istore_n 3, 1) := by decide +kernel
theorem dX8_layDark_9 : decode cX8_layDark 9 = .ok (.iload_n 3, 1) := by decide +kernel
theorem dX8_layDark_10 : decode cX8_layDark 10 = .ok (.sipush 150, 3) := by decide +kernel
theorem dX8_layDark_13 : decode cX8_layDark 13 = .ok (.if_icmp .ge 47, 3) := by decide +kernel
theorem dX8_layDark_16 : decode cX8_layDark 16 = .ok (.aload_n 0, 1) := by decide +kernel
theorem dX8_layDark_17 : decode cX8_layDark 17 = .ok (.getfield 32, 3) := by decide +kernel
theorem dX8_layDark_20 : decode cX8_layDark 20 = .ok (.sipush 150, 3) := by decide +kernel
theorem dX8_layDark_23 : decode cX8_layDark 23 = .ok (.iload_n 2, 1) := by decide +kernel
theorem dX8_layDark_24 : decode cX8_layDark 24 = .ok (.imul, 1) := by decide +kernel
theorem dX8_layDark_25 : decode cX8_layDark 25 = .ok (.iload_n 3, 1) := by decide +kernel
theorem dX8_layDark_26 : decode cX8_layDark 26 = .ok (.iadd, 1) := by decide +kernel
theorem dX8_layDark_27 : decode cX8_layDark 27 = .ok (.aload_n 0, 1) := by decide +kernel
theorem dX8_layDark_28 : decode cX8_layDark 28 = .ok (.aload_n 0, 1) := by decide +kernel
theorem dX8_layDark_29 : decode cX8_layDark 29 = .ok (.getfield 16, 3) := by decide +kernel
theorem dX8_layDark_32 : decode cX8_layDark 32 = .ok (.iload_n 3, 1) := by decide +kernel
theorem dX8_layDark_33 : decode cX8_layDark 33 = .ok (.aload_n 0, 1) := by decide +kernel
theorem dX8_layDark_34 : decode cX8_layDark 34 = .ok (.getfield 16, 3) := by decide +kernel
theorem dX8_layDark_37 : decode cX8_layDark 37 = .ok (.bipush 21, 2) := by decide +kernel
theorem dX8_layDark_39 : decode cX8_layDark 39 = .ok (.iaload, 1) := by decide +kernel
theorem dX8_layDark_40 : decode cX8_layDark 40 = .ok (.iload_n 2, 1) := by decide +kernel
theorem dX8_layDark_41 : decode cX8_layDark 41 = .ok (.iadd, 1) := by decide +kernel
theorem dX8_layDark_42 : decode cX8_layDark 42 = .ok (.invokevirtual 110, 3) := by decide +kernel
theorem dX8_layDark_45 : decode cX8_layDark 45 = .ok (.ifCond .ne 7, 3) := by decide +kernel
theorem dX8_layDark_48 : decode cX8_layDark 48 = .ok (.iconst 1, 1) := by decide +kernel
theorem dX8_layDark_49 : decode cX8_layDark 49 = .ok (.goto 4, 3) := by decide +kernel
theorem dX8_layDark_52 : decode cX8_layDark 52 = .ok (.iconst 0, 1) := by decide +kernel
theorem dX8_layDark_53 : decode cX8_layDark 53 = .ok (.bastore, 1) := by decide +kernel
theorem dX8_layDark_54 : decode cX8_layDark 54 = .ok (.iinc 3 1, 3) := by decide +kernel
theorem dX8_layDark_57 : decode cX8_layDark 57 = .ok (.goto (-48), 3) := by decide +kernel
theorem dX8_layDark_60 : decode cX8_layDark 60 = .ok (.iinc 2 1, 3) := by decide +kernel
theorem dX8_layDark_63 : decode cX8_layDark 63 = .ok (.goto (-61), 3) := by decide +kernel
theorem dX8_layDark_66 : decode cX8_layDark 66 = .ok (.return_, 1) := by decide +kernel
theorem dX8_layReached_0 : decode cX8_layReached 0 = .ok (.iconst 0, 1) := by decide +kernel
theorem dX8_layReached_1 : decode cX8_layReached 1 = .ok (.istore_n 2, 1) := by decide +kernel
theorem dX8_layReached_2 : decode cX8_layReached 2 = .ok (.iload_n 2, 1) := by decide +kernel
theorem dX8_layReached_3 : decode cX8_layReached 3 = .ok (.sipush 150, 3) := by decide +kernel
theorem dX8_layReached_6 : decode cX8_layReached 6 = .ok (.if_icmp .ge 31, 3) := by decide +kernel
theorem dX8_layReached_9 : decode cX8_layReached 9 = .ok (.aload_n 0, 1) := by decide +kernel
theorem dX8_layReached_10 : decode cX8_layReached 10 = .ok (.getfield 35, 3) := by decide +kernel
theorem dX8_layReached_13 : decode cX8_layReached 13 = .ok (.iload_n 2, 1) := by decide +kernel
theorem dX8_layReached_14 : decode cX8_layReached 14 = .ok (.iload_n 2, 1) := by decide +kernel
theorem dX8_layReached_15 : decode cX8_layReached 15 = .ok (.aload_n 0, 1) := by decide +kernel
theorem dX8_layReached_16 : decode cX8_layReached 16 = .ok (.getfield 16, 3) := by decide +kernel
theorem dX8_layReached_19 : decode cX8_layReached 19 = .ok (.bipush 22, 2) := by decide +kernel
theorem dX8_layReached_21 : decode cX8_layReached 21 = .ok (.iaload, 1) := by decide +kernel
theorem dX8_layReached_22 : decode cX8_layReached 22 = .ok (.if_icmp .ne 7, 3) := by decide +kernel
theorem dX8_layReached_25 : decode cX8_layReached 25 = .ok (.iconst 1, 1) := by decide +kernel
theorem dX8_layReached_26 : decode cX8_layReached 26 = .ok (.goto 4, 3) := by decide +kernel
theorem dX8_layReached_29 : decode cX8_layReached 29 = .ok (.iconst 0, 1) := by decide +kernel
theorem dX8_layReached_30 : decode cX8_layReached 30 = .ok (.bastore, 1) := by decide +kernel
theorem dX8_layReached_31 : decode cX8_layReached 31 = .ok (.iinc 2 1, 3) := by decide +kernel
theorem dX8_layReached_34 : decode cX8_layReached 34 = .ok (.goto (-32), 3) := by decide +kernel
theorem dX8_layReached_37 : decode cX8_layReached 37 = .ok (.iconst 1, 1) := by decide +kernel
theorem dX8_layReached_38 : decode cX8_layReached 38 = .ok (.istore_n 2, 1) := by decide +kernel
theorem dX8_layReached_39 : decode cX8_layReached 39 = .ok (.iload_n 2, 1) := by decide +kernel
theorem dX8_layReached_40 : decode cX8_layReached 40 = .ok (.iload_n 1, 1) := by decide +kernel
theorem dX8_layReached_41 : decode cX8_layReached 41 = .ok (.if_icmp .gt 131, 3) := by decide +kernel
theorem dX8_layReached_44 : decode cX8_layReached 44 = .ok (.iconst 0, 1) := by decide +kernel
theorem dX8_layReached_45 : decode cX8_layReached 45 = .ok (.istore_n 3, 1) := by decide +kernel
theorem dX8_layReached_46 : decode cX8_layReached 46 = .ok (.iload_n 3, 1) := by decide +kernel
theorem dX8_layReached_47 : decode cX8_layReached 47 = .ok (.sipush 150, 3) := by decide +kernel
theorem dX8_layReached_50 : decode cX8_layReached 50 = .ok (.if_icmp .ge 116, 3) := by decide +kernel
theorem dX8_layReached_53 : decode cX8_layReached 53 = .ok (.aload_n 0, 1) := by decide +kernel
theorem dX8_layReached_54 : decode cX8_layReached 54 = .ok (.getfield 35, 3) := by decide +kernel
theorem dX8_layReached_57 : decode cX8_layReached 57 = .ok (.sipush 150, 3) := by decide +kernel
theorem dX8_layReached_60 : decode cX8_layReached 60 = .ok (.iload_n 2, 1) := by decide +kernel
theorem dX8_layReached_61 : decode cX8_layReached 61 = .ok (.iconst 1, 1) := by decide +kernel
theorem dX8_layReached_62 : decode cX8_layReached 62 = .ok (.isub, 1) := by decide +kernel
theorem dX8_layReached_63 : decode cX8_layReached 63 = .ok (.imul, 1) := by decide +kernel
theorem dX8_layReached_64 : decode cX8_layReached 64 = .ok (.iload_n 3, 1) := by decide +kernel
theorem dX8_layReached_65 : decode cX8_layReached 65 = .ok (.iadd, 1) := by decide +kernel
theorem dX8_layReached_66 : decode cX8_layReached 66 = .ok (.baload, 1) := by decide +kernel
theorem dX8_layReached_67 : decode cX8_layReached 67 = .ok (.istore 4, 2) := by decide +kernel
theorem dX8_layReached_69 : decode cX8_layReached 69 = .ok (.iconst 0, 1) := by decide +kernel
theorem dX8_layReached_70 : decode cX8_layReached 70 = .ok (.istore 5, 2) := by decide +kernel
theorem dX8_layReached_72 : decode cX8_layReached 72 = .ok (.iload 5, 2) := by decide +kernel
theorem dX8_layReached_74 : decode cX8_layReached 74 = .ok (.iconst 4, 1) := by decide +kernel
theorem dX8_layReached_75 : decode cX8_layReached 75 = .ok (.if_icmp .ge 48, 3) := by decide +kernel
theorem dX8_layReached_78 : decode cX8_layReached 78 = .ok (.iload 4, 2) := by decide +kernel
theorem dX8_layReached_80 : decode cX8_layReached 80 = .ok (.ifCond .ne 30, 3) := by decide +kernel
theorem dX8_layReached_83 : decode cX8_layReached 83 = .ok (.aload_n 0, 1) := by decide +kernel
theorem dX8_layReached_84 : decode cX8_layReached 84 = .ok (.getfield 35, 3) := by decide +kernel
theorem dX8_layReached_87 : decode cX8_layReached 87 = .ok (.sipush 150, 3) := by decide +kernel
theorem dX8_layReached_90 : decode cX8_layReached 90 = .ok (.iload_n 2, 1) := by decide +kernel
theorem dX8_layReached_91 : decode cX8_layReached 91 = .ok (.iconst 1, 1) := by decide +kernel
theorem dX8_layReached_92 : decode cX8_layReached 92 = .ok (.isub, 1) := by decide +kernel
theorem dX8_layReached_93 : decode cX8_layReached 93 = .ok (.imul, 1) := by decide +kernel
theorem dX8_layReached_94 : decode cX8_layReached 94 = .ok (.aload_n 0, 1) := by decide +kernel
theorem dX8_layReached_95 : decode cX8_layReached 95 = .ok (.getfield 13, 3) := by decide +kernel
theorem dX8_layReached_98 : decode cX8_layReached 98 = .ok (.iconst 4, 1) := by decide +kernel
theorem dX8_layReached_99 : decode cX8_layReached 99 = .ok (.iload_n 3, 1) := by decide +kernel
theorem dX8_layReached_100 : decode cX8_layReached 100 = .ok (.imul, 1) := by decide +kernel
theorem dX8_layReached_101 : decode cX8_layReached 101 = .ok (.iload 5, 2) := by decide +kernel
theorem dX8_layReached_103 : decode cX8_layReached 103 = .ok (.iadd, 1) := by decide +kernel
theorem dX8_layReached_104 : decode cX8_layReached 104 = .ok (.iaload, 1) := by decide +kernel
theorem dX8_layReached_105 : decode cX8_layReached 105 = .ok (.iadd, 1) := by decide +kernel
theorem dX8_layReached_106 : decode cX8_layReached 106 = .ok (.baload, 1) := by decide +kernel
theorem dX8_layReached_107 : decode cX8_layReached 107 = .ok (.ifCond .eq 7, 3) := by decide +kernel
theorem dX8_layReached_110 : decode cX8_layReached 110 = .ok (.iconst 1, 1) := by decide +kernel
theorem dX8_layReached_111 : decode cX8_layReached 111 = .ok (.goto 4, 3) := by decide +kernel
theorem dX8_layReached_114 : decode cX8_layReached 114 = .ok (.iconst 0, 1) := by decide +kernel
theorem dX8_layReached_115 : decode cX8_layReached 115 = .ok (.istore 4, 2) := by decide +kernel
theorem dX8_layReached_117 : decode cX8_layReached 117 = .ok (.iinc 5 1, 3) := by decide +kernel
theorem dX8_layReached_120 : decode cX8_layReached 120 = .ok (.goto (-48), 3) := by decide +kernel
theorem dX8_layReached_123 : decode cX8_layReached 123 = .ok (.aload_n 0, 1) := by decide +kernel
theorem dX8_layReached_124 : decode cX8_layReached 124 = .ok (.getfield 35, 3) := by decide +kernel
theorem dX8_layReached_127 : decode cX8_layReached 127 = .ok (.sipush 150, 3) := by decide +kernel
theorem dX8_layReached_130 : decode cX8_layReached 130 = .ok (.iload_n 2, 1) := by decide +kernel
theorem dX8_layReached_131 : decode cX8_layReached 131 = .ok (.imul, 1) := by decide +kernel
theorem dX8_layReached_132 : decode cX8_layReached 132 = .ok (.iload_n 3, 1) := by decide +kernel
theorem dX8_layReached_133 : decode cX8_layReached 133 = .ok (.iadd, 1) := by decide +kernel
theorem dX8_layReached_134 : decode cX8_layReached 134 = .ok (.iload 4, 2) := by decide +kernel
theorem dX8_layReached_136 : decode cX8_layReached 136 = .ok (.ifCond .eq 22, 3) := by decide +kernel
theorem dX8_layReached_139 : decode cX8_layReached 139 = .ok (.aload_n 0, 1) := by decide +kernel
theorem dX8_layReached_140 : decode cX8_layReached 140 = .ok (.getfield 32, 3) := by decide +kernel
theorem dX8_layReached_143 : decode cX8_layReached 143 = .ok (.sipush 150, 3) := by decide +kernel
theorem dX8_layReached_146 : decode cX8_layReached 146 = .ok (.iload_n 2, 1) := by decide +kernel
theorem dX8_layReached_147 : decode cX8_layReached 147 = .ok (.imul, 1) := by decide +kernel
theorem dX8_layReached_148 : decode cX8_layReached 148 = .ok (.iload_n 3, 1) := by decide +kernel
theorem dX8_layReached_149 : decode cX8_layReached 149 = .ok (.iadd, 1) := by decide +kernel
theorem dX8_layReached_150 : decode cX8_layReached 150 = .ok (.baload, 1) := by decide +kernel
theorem dX8_layReached_151 : decode cX8_layReached 151 = .ok (.ifCond .eq 7, 3) := by decide +kernel
theorem dX8_layReached_154 : decode cX8_layReached 154 = .ok (.iconst 1, 1) := by decide +kernel
theorem dX8_layReached_155 : decode cX8_layReached 155 = .ok (.goto 4, 3) := by decide +kernel
theorem dX8_layReached_158 : decode cX8_layReached 158 = .ok (.iconst 0, 1) := by decide +kernel
theorem dX8_layReached_159 : decode cX8_layReached 159 = .ok (.bastore, 1) := by decide +kernel
theorem dX8_layReached_160 : decode cX8_layReached 160 = .ok (.iinc 3 1, 3) := by decide +kernel
theorem dX8_layReached_163 : decode cX8_layReached 163 = .ok (.goto (-117), 3) := by decide +kernel
theorem dX8_layReached_166 : decode cX8_layReached 166 = .ok (.iinc 2 1, 3) := by decide +kernel
theorem dX8_layReached_169 : decode cX8_layReached 169 = .ok (.goto (-130), 3) := by decide +kernel
theorem dX8_layReached_172 : decode cX8_layReached 172 = .ok (.return_, 1) := by decide +kernel
def bs_X8_layPlans : List (List Cond) := [[.code yX8_layPlans cX8_layPlans 1 none], wsX8_layPlans_r1, wsX8_layPlans_r2, wsX80]
theorem bi_X8_layPlans : ∀ w ∈ bs_X8_layPlans.flatten, w ∈ wsX8_layPlans := by
  have h : bs_X8_layPlans.flatten = wsX8_layPlans := by simp only [bs_X8_layPlans, wsX8_layPlans, List.flatten_cons, List.flatten_nil, List.append_assoc, List.append_nil, List.nil_append, List.cons_append]
  intro w hw; rw [h] at hw; exact hw
set_option maxRecDepth 20000 in
theorem ggX8_layPlans_X8_layDark : GoodIn wsX8_layPlans wsX8_layDark := goodIn_bb bs_X8_layPlans bi_X8_layPlans _ [(1, 4), (1, 5), (1, 6), (1, 7), (1, 8), (1, 9), (1, 3), (1, 10), (1, 11), (1, 12), (1, 13), (1, 14), (1, 15), (1, 16), (1, 17), (1, 18), (1, 19), (1, 20), (1, 21), (1, 22), (1, 23), (2, 0), (2, 1), (2, 2), (3, 0), (3, 1), (3, 2), (3, 3), (3, 4), (3, 5), (3, 6), (3, 7), (3, 8), (3, 9), (3, 10), (3, 11), (3, 12), (3, 13), (3, 14), (3, 15), (3, 16), (3, 17), (3, 18)] rfl (by decide +kernel)
set_option maxRecDepth 20000 in
theorem gX8_layPlans_X8_layDark : GoodIn wsX8_layPlans (wsV RX8 174 RX8 yX8_layDark wsX8_layDark) := goodIn_app (goodIn_bb bs_X8_layPlans bi_X8_layPlans _ [(1, 0), (1, 1), (1, 2), (1, 3)] rfl (by decide +kernel)) ggX8_layPlans_X8_layDark
set_option maxRecDepth 20000 in
theorem ggX8_layPlans_X8_layReached : GoodIn wsX8_layPlans wsX8_layReached := goodIn_bb bs_X8_layPlans bi_X8_layPlans _ [(2, 6), (2, 7), (1, 6), (2, 8), (1, 5), (3, 0), (3, 1), (3, 2), (3, 3), (3, 4), (3, 5), (3, 6), (3, 7), (3, 8), (3, 9), (3, 10), (3, 11), (3, 12), (3, 13), (3, 14), (3, 15), (3, 16), (3, 17), (3, 18)] rfl (by decide +kernel)
set_option maxRecDepth 20000 in
theorem gX8_layPlans_X8_layReached : GoodIn wsX8_layPlans (wsV RX8 178 RX8 yX8_layReached wsX8_layReached) := goodIn_app (goodIn_bb bs_X8_layPlans bi_X8_layPlans _ [(2, 3), (2, 4), (2, 5), (1, 3)] rfl (by decide +kernel)) ggX8_layPlans_X8_layReached
theorem dX8_layPlans_0 : decode cX8_layPlans 0 = .ok (.aload_n 0, 1) := by decide +kernel
theorem dX8_layPlans_1 : decode cX8_layPlans 1 = .ok (.bipush 60, 2) := by decide +kernel
theorem dX8_layPlans_3 : decode cX8_layPlans 3 = .ok (.invokevirtual 174, 3) := by decide +kernel
theorem dX8_layPlans_6 : decode cX8_layPlans 6 = .ok (.aload_n 0, 1) := by decide +kernel
theorem dX8_layPlans_7 : decode cX8_layPlans 7 = .ok (.bipush 60, 2) := by decide +kernel
theorem dX8_layPlans_9 : decode cX8_layPlans 9 = .ok (.invokevirtual 178, 3) := by decide +kernel
theorem dX8_layPlans_12 : decode cX8_layPlans 12 = .ok (.return_, 1) := by decide +kernel
def bs_X8_arrivalOf : List (List Cond) := [[.code yX8_arrivalOf cX8_arrivalOf 3 (some .int)], wsX8_arrivalOf_r1, wsX8_arrivalOf_r2, wsX80]
theorem bi_X8_arrivalOf : ∀ w ∈ bs_X8_arrivalOf.flatten, w ∈ wsX8_arrivalOf := by
  have h : bs_X8_arrivalOf.flatten = wsX8_arrivalOf := by simp only [bs_X8_arrivalOf, wsX8_arrivalOf, List.flatten_cons, List.flatten_nil, List.append_assoc, List.append_nil, List.nil_append, List.cons_append]
  intro w hw; rw [h] at hw; exact hw
set_option maxRecDepth 20000 in
theorem ggX8_arrivalOf_X8_layPlans : GoodIn wsX8_arrivalOf wsX8_layPlans := goodIn_bb bs_X8_arrivalOf bi_X8_arrivalOf _ [(1, 5), (1, 6), (1, 7), (1, 8), (1, 4), (1, 9), (1, 10), (1, 11), (1, 12), (1, 13), (1, 14), (1, 15), (1, 16), (1, 17), (1, 18), (1, 19), (1, 20), (1, 21), (1, 22), (1, 23), (2, 0), (2, 1), (2, 2), (2, 3), (2, 4), (2, 5), (2, 6), (2, 7), (2, 8), (2, 9), (2, 10), (2, 11), (1, 0), (2, 12), (3, 0), (3, 1), (3, 2), (3, 3), (3, 4), (3, 5), (3, 6), (3, 7), (3, 8), (3, 9), (3, 10), (3, 11), (3, 12), (3, 13), (3, 14), (3, 15), (3, 16), (3, 17), (3, 18)] rfl (by decide +kernel)
set_option maxRecDepth 20000 in
theorem gX8_arrivalOf_X8_layPlans : GoodIn wsX8_arrivalOf (wsV RX8 181 RX8 yX8_layPlans wsX8_layPlans) := goodIn_app (goodIn_bb bs_X8_arrivalOf bi_X8_arrivalOf _ [(1, 1), (1, 2), (1, 3), (1, 4)] rfl (by decide +kernel)) ggX8_arrivalOf_X8_layPlans
theorem dX8_arrivalOf_0 : decode cX8_arrivalOf 0 = .ok (.aload_n 0, 1) := by decide +kernel
theorem dX8_arrivalOf_1 : decode cX8_arrivalOf 1 = .ok (.invokevirtual 181, 3) := by decide +kernel
theorem dX8_arrivalOf_4 : decode cX8_arrivalOf 4 = .ok (.iconst 0, 1) := by decide +kernel
theorem dX8_arrivalOf_5 : decode cX8_arrivalOf 5 = .ok (.istore_n 2, 1) := by decide +kernel
theorem dX8_arrivalOf_6 : decode cX8_arrivalOf 6 = .ok (.iload_n 2, 1) := by decide +kernel
theorem dX8_arrivalOf_7 : decode cX8_arrivalOf 7 = .ok (.bipush 60, 2) := by decide +kernel
theorem dX8_arrivalOf_9 : decode cX8_arrivalOf 9 = .ok (.if_icmp .gt 26, 3) := by decide +kernel
theorem dX8_arrivalOf_12 : decode cX8_arrivalOf 12 = .ok (.aload_n 0, 1) := by decide +kernel
theorem dX8_arrivalOf_13 : decode cX8_arrivalOf 13 = .ok (.getfield 35, 3) := by decide +kernel
theorem dX8_arrivalOf_16 : decode cX8_arrivalOf 16 = .ok (.sipush 150, 3) := by decide +kernel
theorem dX8_arrivalOf_19 : decode cX8_arrivalOf 19 = .ok (.iload_n 2, 1) := by decide +kernel
theorem dX8_arrivalOf_20 : decode cX8_arrivalOf 20 = .ok (.imul, 1) := by decide +kernel
theorem dX8_arrivalOf_21 : decode cX8_arrivalOf 21 = .ok (.iload_n 1, 1) := by decide +kernel
theorem dX8_arrivalOf_22 : decode cX8_arrivalOf 22 = .ok (.iadd, 1) := by decide +kernel
theorem dX8_arrivalOf_23 : decode cX8_arrivalOf 23 = .ok (.baload, 1) := by decide +kernel
theorem dX8_arrivalOf_24 : decode cX8_arrivalOf 24 = .ok (.ifCond .eq 5, 3) := by decide +kernel
theorem dX8_arrivalOf_27 : decode cX8_arrivalOf 27 = .ok (.iload_n 2, 1) := by decide +kernel
theorem dX8_arrivalOf_28 : decode cX8_arrivalOf 28 = .ok (.ireturn, 1) := by decide +kernel
theorem dX8_arrivalOf_29 : decode cX8_arrivalOf 29 = .ok (.iinc 2 1, 3) := by decide +kernel
theorem dX8_arrivalOf_32 : decode cX8_arrivalOf 32 = .ok (.goto (-26), 3) := by decide +kernel
theorem dX8_arrivalOf_35 : decode cX8_arrivalOf 35 = .ok (.bipush (-9), 2) := by decide +kernel
theorem dX8_arrivalOf_37 : decode cX8_arrivalOf 37 = .ok (.ireturn, 1) := by decide +kernel
def bs_X8_arrival : List (List Cond) := [[.code yX8_arrival cX8_arrival 2 (some .int)], wsX8_arrival_r1, wsX8_arrival_r2, wsX8_arrival_r3, wsX80]
theorem bi_X8_arrival : ∀ w ∈ bs_X8_arrival.flatten, w ∈ wsX8_arrival := by
  have h : bs_X8_arrival.flatten = wsX8_arrival := by simp only [bs_X8_arrival, wsX8_arrival, List.flatten_cons, List.flatten_nil, List.append_assoc, List.append_nil, List.nil_append, List.cons_append]
  intro w hw; rw [h] at hw; exact hw
set_option maxRecDepth 20000 in
theorem ggX8_arrival_X8_isCell : GoodIn wsX8_arrival wsX8_isCell := goodIn_bb bs_X8_arrival bi_X8_arrival _ [(1, 4), (1, 5), (1, 6), (1, 7), (1, 3), (1, 8)] rfl (by decide +kernel)
set_option maxRecDepth 20000 in
theorem gX8_arrival_X8_isCell : GoodIn wsX8_arrival (va_wsS RX8 82 yX8_isCell wsX8_isCell) := goodIn_app (goodIn_bb bs_X8_arrival bi_X8_arrival _ [(1, 1), (1, 2), (1, 3)] rfl (by decide +kernel)) ggX8_arrival_X8_isCell
set_option maxRecDepth 20000 in
theorem ggX8_arrival_X8_refused : GoodIn wsX8_arrival wsX8_refused := goodIn_bb bs_X8_arrival bi_X8_arrival _ [(1, 12), (1, 13), (4, 0), (4, 1), (4, 2), (4, 3), (4, 4), (4, 5), (4, 6), (4, 7), (4, 8), (4, 9), (4, 10), (4, 11), (4, 12), (4, 13), (4, 14), (4, 15), (4, 16), (4, 17), (4, 18)] rfl (by decide +kernel)
set_option maxRecDepth 20000 in
theorem gX8_arrival_X8_refused : GoodIn wsX8_arrival (wsV RX8 88 RX8 yX8_refused wsX8_refused) := goodIn_app (goodIn_bb bs_X8_arrival bi_X8_arrival _ [(1, 9), (1, 10), (1, 11), (1, 3)] rfl (by decide +kernel)) ggX8_arrival_X8_refused
set_option maxRecDepth 20000 in
theorem ggX8_arrival_X8_arrivalOf : GoodIn wsX8_arrival wsX8_arrivalOf := goodIn_bb bs_X8_arrival bi_X8_arrival _ [(1, 17), (1, 18), (1, 19), (1, 20), (1, 21), (1, 3), (1, 22), (1, 23), (2, 0), (2, 1), (2, 2), (2, 3), (1, 0), (2, 4), (2, 5), (2, 6), (2, 7), (2, 8), (2, 9), (2, 10), (2, 11), (2, 12), (2, 13), (2, 14), (2, 15), (2, 16), (2, 17), (2, 18), (2, 19), (2, 20), (2, 21), (2, 22), (2, 23), (3, 0), (3, 1), (3, 2), (3, 3), (3, 4), (4, 0), (4, 1), (4, 2), (4, 3), (4, 4), (4, 5), (4, 6), (4, 7), (4, 8), (4, 9), (4, 10), (4, 11), (4, 12), (4, 13), (4, 14), (4, 15), (4, 16), (4, 17), (4, 18)] rfl (by decide +kernel)
set_option maxRecDepth 20000 in
theorem gX8_arrival_X8_arrivalOf : GoodIn wsX8_arrival (wsV RX8 164 RX8 yX8_arrivalOf wsX8_arrivalOf) := goodIn_app (goodIn_bb bs_X8_arrival bi_X8_arrival _ [(1, 14), (1, 15), (1, 16), (1, 3)] rfl (by decide +kernel)) ggX8_arrival_X8_arrivalOf
theorem dX8_arrival_0 : decode cX8_arrival 0 = .ok (.aload_n 0, 1) := by decide +kernel
theorem dX8_arrival_1 : decode cX8_arrival 1 = .ok (.iload_n 1, 1) := by decide +kernel
theorem dX8_arrival_2 : decode cX8_arrival 2 = .ok (.invokestatic 82, 3) := by decide +kernel
theorem dX8_arrival_5 : decode cX8_arrival 5 = .ok (.ifCond .ne 7, 3) := by decide +kernel
theorem dX8_arrival_8 : decode cX8_arrival 8 = .ok (.iconst 1, 1) := by decide +kernel
theorem dX8_arrival_9 : decode cX8_arrival 9 = .ok (.goto 19, 3) := by decide +kernel
theorem dX8_arrival_12 : decode cX8_arrival 12 = .ok (.aload_n 0, 1) := by decide +kernel
theorem dX8_arrival_13 : decode cX8_arrival 13 = .ok (.getfield 16, 3) := by decide +kernel
theorem dX8_arrival_16 : decode cX8_arrival 16 = .ok (.bipush 23, 2) := by decide +kernel
theorem dX8_arrival_18 : decode cX8_arrival 18 = .ok (.iaload, 1) := by decide +kernel
theorem dX8_arrival_19 : decode cX8_arrival 19 = .ok (.iconst 1, 1) := by decide +kernel
theorem dX8_arrival_20 : decode cX8_arrival 20 = .ok (.if_icmp .ne 7, 3) := by decide +kernel
theorem dX8_arrival_23 : decode cX8_arrival 23 = .ok (.iconst 2, 1) := by decide +kernel
theorem dX8_arrival_24 : decode cX8_arrival 24 = .ok (.goto 4, 3) := by decide +kernel
theorem dX8_arrival_27 : decode cX8_arrival 27 = .ok (.iconst 0, 1) := by decide +kernel
theorem dX8_arrival_28 : decode cX8_arrival 28 = .ok (.invokevirtual 88, 3) := by decide +kernel
theorem dX8_arrival_31 : decode cX8_arrival 31 = .ok (.ifCond .eq 5, 3) := by decide +kernel
theorem dX8_arrival_34 : decode cX8_arrival 34 = .ok (.iconst 0, 1) := by decide +kernel
theorem dX8_arrival_35 : decode cX8_arrival 35 = .ok (.ireturn, 1) := by decide +kernel
theorem dX8_arrival_36 : decode cX8_arrival 36 = .ok (.aload_n 0, 1) := by decide +kernel
theorem dX8_arrival_37 : decode cX8_arrival 37 = .ok (.iload_n 1, 1) := by decide +kernel
theorem dX8_arrival_38 : decode cX8_arrival 38 = .ok (.invokevirtual 164, 3) := by decide +kernel
theorem dX8_arrival_41 : decode cX8_arrival 41 = .ok (.ireturn, 1) := by decide +kernel
theorem dX8_layPath_0 : decode cX8_layPath 0 = .ok (.iconst 0, 1) := by decide +kernel
theorem dX8_layPath_1 : decode cX8_layPath 1 = .ok (.istore_n 3, 1) := by decide +kernel
theorem dX8_layPath_2 : decode cX8_layPath 2 = .ok (.iload_n 3, 1) := by decide +kernel
theorem dX8_layPath_3 : decode cX8_layPath 3 = .ok (.sipush 150, 3) := by decide +kernel
theorem dX8_layPath_6 : decode cX8_layPath 6 = .ok (.if_icmp .ge 31, 3) := by decide +kernel
theorem dX8_layPath_9 : decode cX8_layPath 9 = .ok (.aload_n 0, 1) := by decide +kernel
theorem dX8_layPath_10 : decode cX8_layPath 10 = .ok (.getfield 38, 3) := by decide +kernel
theorem dX8_layPath_13 : decode cX8_layPath 13 = .ok (.sipush 150, 3) := by decide +kernel
theorem dX8_layPath_16 : decode cX8_layPath 16 = .ok (.iload_n 2, 1) := by decide +kernel
theorem dX8_layPath_17 : decode cX8_layPath 17 = .ok (.imul, 1) := by decide +kernel
theorem dX8_layPath_18 : decode cX8_layPath 18 = .ok (.iload_n 3, 1) := by decide +kernel
theorem dX8_layPath_19 : decode cX8_layPath 19 = .ok (.iadd, 1) := by decide +kernel
theorem dX8_layPath_20 : decode cX8_layPath 20 = .ok (.iload_n 3, 1) := by decide +kernel
theorem dX8_layPath_21 : decode cX8_layPath 21 = .ok (.iload_n 1, 1) := by decide +kernel
theorem dX8_layPath_22 : decode cX8_layPath 22 = .ok (.if_icmp .ne 7, 3) := by decide +kernel
theorem dX8_layPath_25 : decode cX8_layPath 25 = .ok (.iconst 1, 1) := by decide +kernel
theorem dX8_layPath_26 : decode cX8_layPath 26 = .ok (.goto 4, 3) := by decide +kernel
theorem dX8_layPath_29 : decode cX8_layPath 29 = .ok (.iconst 0, 1) := by decide +kernel
theorem dX8_layPath_30 : decode cX8_layPath 30 = .ok (.bastore, 1) := by decide +kernel
theorem dX8_layPath_31 : decode cX8_layPath 31 = .ok (.iinc 3 1, 3) := by decide +kernel
theorem dX8_layPath_34 : decode cX8_layPath 34 = .ok (.goto (-32), 3) := by decide +kernel
theorem dX8_layPath_37 : decode cX8_layPath 37 = .ok (.iload_n 2, 1) := by decide +kernel
theorem dX8_layPath_38 : decode cX8_layPath 38 = .ok (.iconst 1, 1) := by decide +kernel
theorem dX8_layPath_39 : decode cX8_layPath 39 = .ok (.isub, 1) := by decide +kernel
theorem dX8_layPath_40 : decode cX8_layPath 40 = .ok (.istore_n 3, 1) := by decide +kernel
theorem dX8_layPath_41 : decode cX8_layPath 41 = .ok (.iload_n 3, 1) := by decide +kernel
theorem dX8_layPath_42 : decode cX8_layPath 42 = .ok (.ifCond .lt 137, 3) := by decide +kernel
theorem dX8_layPath_45 : decode cX8_layPath 45 = .ok (.iconst 0, 1) := by decide +kernel
theorem dX8_layPath_46 : decode cX8_layPath 46 = .ok (.istore 4, 2) := by decide +kernel
theorem dX8_layPath_48 : decode cX8_layPath 48 = .ok (.iload 4, 2) := by decide +kernel
theorem dX8_layPath_50 : decode cX8_layPath 50 = .ok (.sipush 150, 3) := by decide +kernel
theorem dX8_layPath_53 : decode cX8_layPath 53 = .ok (.if_icmp .ge 120, 3) := by decide +kernel
theorem dX8_layPath_56 : decode cX8_layPath 56 = .ok (.aload_n 0, 1) := by decide +kernel
theorem dX8_layPath_57 : decode cX8_layPath 57 = .ok (.getfield 38, 3) := by decide +kernel
theorem dX8_layPath_60 : decode cX8_layPath 60 = .ok (.sipush 150, 3) := by decide +kernel
theorem dX8_layPath_63 : decode cX8_layPath 63 = .ok (.iload_n 3, 1) := by decide +kernel
theorem dX8_layPath_64 : decode cX8_layPath 64 = .ok (.iconst 1, 1) := by decide +kernel
theorem dX8_layPath_65 : decode cX8_layPath 65 = .ok (.iadd, 1) := by decide +kernel
theorem dX8_layPath_66 : decode cX8_layPath 66 = .ok (.imul, 1) := by decide +kernel
theorem dX8_layPath_67 : decode cX8_layPath 67 = .ok (.iload 4, 2) := by decide +kernel
theorem dX8_layPath_69 : decode cX8_layPath 69 = .ok (.iadd, 1) := by decide +kernel
theorem dX8_layPath_70 : decode cX8_layPath 70 = .ok (.baload, 1) := by decide +kernel
theorem dX8_layPath_71 : decode cX8_layPath 71 = .ok (.istore 5, 2) := by decide +kernel
theorem dX8_layPath_73 : decode cX8_layPath 73 = .ok (.iconst 0, 1) := by decide +kernel
theorem dX8_layPath_74 : decode cX8_layPath 74 = .ok (.istore 6, 2) := by decide +kernel
theorem dX8_layPath_76 : decode cX8_layPath 76 = .ok (.iload 6, 2) := by decide +kernel
theorem dX8_layPath_78 : decode cX8_layPath 78 = .ok (.iconst 4, 1) := by decide +kernel
theorem dX8_layPath_79 : decode cX8_layPath 79 = .ok (.if_icmp .ge 49, 3) := by decide +kernel
theorem dX8_layPath_82 : decode cX8_layPath 82 = .ok (.iload 5, 2) := by decide +kernel
theorem dX8_layPath_84 : decode cX8_layPath 84 = .ok (.ifCond .ne 31, 3) := by decide +kernel
theorem dX8_layPath_87 : decode cX8_layPath 87 = .ok (.aload_n 0, 1) := by decide +kernel
theorem dX8_layPath_88 : decode cX8_layPath 88 = .ok (.getfield 38, 3) := by decide +kernel
theorem dX8_layPath_91 : decode cX8_layPath 91 = .ok (.sipush 150, 3) := by decide +kernel
theorem dX8_layPath_94 : decode cX8_layPath 94 = .ok (.iload_n 3, 1) := by decide +kernel
theorem dX8_layPath_95 : decode cX8_layPath 95 = .ok (.iconst 1, 1) := by decide +kernel
theorem dX8_layPath_96 : decode cX8_layPath 96 = .ok (.iadd, 1) := by decide +kernel
theorem dX8_layPath_97 : decode cX8_layPath 97 = .ok (.imul, 1) := by decide +kernel
theorem dX8_layPath_98 : decode cX8_layPath 98 = .ok (.aload_n 0, 1) := by decide +kernel
theorem dX8_layPath_99 : decode cX8_layPath 99 = .ok (.getfield 13, 3) := by decide +kernel
theorem dX8_layPath_102 : decode cX8_layPath 102 = .ok (.iconst 4, 1) := by decide +kernel
theorem dX8_layPath_103 : decode cX8_layPath 103 = .ok (.iload 4, 2) := by decide +kernel
theorem dX8_layPath_105 : decode cX8_layPath 105 = .ok (.imul, 1) := by decide +kernel
theorem dX8_layPath_106 : decode cX8_layPath 106 = .ok (.iload 6, 2) := by decide +kernel
theorem dX8_layPath_108 : decode cX8_layPath 108 = .ok (.iadd, 1) := by decide +kernel
theorem dX8_layPath_109 : decode cX8_layPath 109 = .ok (.iaload, 1) := by decide +kernel
theorem dX8_layPath_110 : decode cX8_layPath 110 = .ok (.iadd, 1) := by decide +kernel
theorem dX8_layPath_111 : decode cX8_layPath 111 = .ok (.baload, 1) := by decide +kernel
theorem dX8_layPath_112 : decode cX8_layPath 112 = .ok (.ifCond .eq 7, 3) := by decide +kernel
theorem dX8_layPath_115 : decode cX8_layPath 115 = .ok (.iconst 1, 1) := by decide +kernel
theorem dX8_layPath_116 : decode cX8_layPath 116 = .ok (.goto 4, 3) := by decide +kernel
theorem dX8_layPath_119 : decode cX8_layPath 119 = .ok (.iconst 0, 1) := by decide +kernel
theorem dX8_layPath_120 : decode cX8_layPath 120 = .ok (.istore 5, 2) := by decide +kernel
theorem dX8_layPath_122 : decode cX8_layPath 122 = .ok (.iinc 6 1, 3) := by decide +kernel
theorem dX8_layPath_125 : decode cX8_layPath 125 = .ok (.goto (-49), 3) := by decide +kernel
theorem dX8_layPath_128 : decode cX8_layPath 128 = .ok (.aload_n 0, 1) := by decide +kernel
theorem dX8_layPath_129 : decode cX8_layPath 129 = .ok (.getfield 38, 3) := by decide +kernel
theorem dX8_layPath_132 : decode cX8_layPath 132 = .ok (.sipush 150, 3) := by decide +kernel
theorem dX8_layPath_135 : decode cX8_layPath 135 = .ok (.iload_n 3, 1) := by decide +kernel
theorem dX8_layPath_136 : decode cX8_layPath 136 = .ok (.imul, 1) := by decide +kernel
theorem dX8_layPath_137 : decode cX8_layPath 137 = .ok (.iload 4, 2) := by decide +kernel
theorem dX8_layPath_139 : decode cX8_layPath 139 = .ok (.iadd, 1) := by decide +kernel
theorem dX8_layPath_140 : decode cX8_layPath 140 = .ok (.iload 5, 2) := by decide +kernel
theorem dX8_layPath_142 : decode cX8_layPath 142 = .ok (.ifCond .eq 23, 3) := by decide +kernel
theorem dX8_layPath_145 : decode cX8_layPath 145 = .ok (.aload_n 0, 1) := by decide +kernel
theorem dX8_layPath_146 : decode cX8_layPath 146 = .ok (.getfield 35, 3) := by decide +kernel
theorem dX8_layPath_149 : decode cX8_layPath 149 = .ok (.sipush 150, 3) := by decide +kernel
theorem dX8_layPath_152 : decode cX8_layPath 152 = .ok (.iload_n 3, 1) := by decide +kernel
theorem dX8_layPath_153 : decode cX8_layPath 153 = .ok (.imul, 1) := by decide +kernel
theorem dX8_layPath_154 : decode cX8_layPath 154 = .ok (.iload 4, 2) := by decide +kernel
theorem dX8_layPath_156 : decode cX8_layPath 156 = .ok (.iadd, 1) := by decide +kernel
theorem dX8_layPath_157 : decode cX8_layPath 157 = .ok (.baload, 1) := by decide +kernel
theorem dX8_layPath_158 : decode cX8_layPath 158 = .ok (.ifCond .eq 7, 3) := by decide +kernel
theorem dX8_layPath_161 : decode cX8_layPath 161 = .ok (.iconst 1, 1) := by decide +kernel
theorem dX8_layPath_162 : decode cX8_layPath 162 = .ok (.goto 4, 3) := by decide +kernel
theorem dX8_layPath_165 : decode cX8_layPath 165 = .ok (.iconst 0, 1) := by decide +kernel
theorem dX8_layPath_166 : decode cX8_layPath 166 = .ok (.bastore, 1) := by decide +kernel
theorem dX8_layPath_167 : decode cX8_layPath 167 = .ok (.iinc 4 1, 3) := by decide +kernel
theorem dX8_layPath_170 : decode cX8_layPath 170 = .ok (.goto (-122), 3) := by decide +kernel
theorem dX8_layPath_173 : decode cX8_layPath 173 = .ok (.iinc 3 (-1), 3) := by decide +kernel
theorem dX8_layPath_176 : decode cX8_layPath 176 = .ok (.goto (-135), 3) := by decide +kernel
theorem dX8_layPath_179 : decode cX8_layPath 179 = .ok (.aload_n 0, 1) := by decide +kernel
theorem dX8_layPath_180 : decode cX8_layPath 180 = .ok (.getfield 47, 3) := by decide +kernel
theorem dX8_layPath_183 : decode cX8_layPath 183 = .ok (.iconst 0, 1) := by decide +kernel
theorem dX8_layPath_184 : decode cX8_layPath 184 = .ok (.aload_n 0, 1) := by decide +kernel
theorem dX8_layPath_185 : decode cX8_layPath 185 = .ok (.getfield 16, 3) := by decide +kernel
theorem dX8_layPath_188 : decode cX8_layPath 188 = .ok (.bipush 22, 2) := by decide +kernel
theorem dX8_layPath_190 : decode cX8_layPath 190 = .ok (.iaload, 1) := by decide +kernel
theorem dX8_layPath_191 : decode cX8_layPath 191 = .ok (.iastore, 1) := by decide +kernel
theorem dX8_layPath_192 : decode cX8_layPath 192 = .ok (.iconst 1, 1) := by decide +kernel
theorem dX8_layPath_193 : decode cX8_layPath 193 = .ok (.istore_n 3, 1) := by decide +kernel
theorem dX8_layPath_194 : decode cX8_layPath 194 = .ok (.iload_n 3, 1) := by decide +kernel
theorem dX8_layPath_195 : decode cX8_layPath 195 = .ok (.iload_n 2, 1) := by decide +kernel
theorem dX8_layPath_196 : decode cX8_layPath 196 = .ok (.if_icmp .gt 114, 3) := by decide +kernel
theorem dX8_layPath_199 : decode cX8_layPath 199 = .ok (.aload_n 0, 1) := by decide +kernel
theorem dX8_layPath_200 : decode cX8_layPath 200 = .ok (.getfield 47, 3) := by decide +kernel
theorem dX8_layPath_203 : decode cX8_layPath 203 = .ok (.iload_n 3, 1) := by decide +kernel
theorem dX8_layPath_204 : decode cX8_layPath 204 = .ok (.iconst 1, 1) := by decide +kernel
theorem dX8_layPath_205 : decode cX8_layPath 205 = .ok (.isub, 1) := by decide +kernel
theorem dX8_layPath_206 : decode cX8_layPath 206 = .ok (.iaload, 1) := by decide +kernel
theorem dX8_layPath_207 : decode cX8_layPath 207 = .ok (.istore 4, 2) := by decide +kernel
theorem dX8_layPath_209 : decode cX8_layPath 209 = .ok (.aload_n 0, 1) := by decide +kernel
theorem dX8_layPath_210 : decode cX8_layPath 210 = .ok (.getfield 38, 3) := by decide +kernel
theorem dX8_layPath_213 : decode cX8_layPath 213 = .ok (.sipush 150, 3) := by decide +kernel
theorem dX8_layPath_216 : decode cX8_layPath 216 = .ok (.iload_n 3, 1) := by decide +kernel
theorem dX8_layPath_217 : decode cX8_layPath 217 = .ok (.imul, 1) := by decide +kernel
theorem dX8_layPath_218 : decode cX8_layPath 218 = .ok (.iload 4, 2) := by decide +kernel
theorem dX8_layPath_220 : decode cX8_layPath 220 = .ok (.iadd, 1) := by decide +kernel
theorem dX8_layPath_221 : decode cX8_layPath 221 = .ok (.baload, 1) := by decide +kernel
theorem dX8_layPath_222 : decode cX8_layPath 222 = .ok (.ifCond .eq 8, 3) := by decide +kernel
theorem dX8_layPath_225 : decode cX8_layPath 225 = .ok (.iload 4, 2) := by decide +kernel
theorem dX8_layPath_227 : decode cX8_layPath 227 = .ok (.goto 6, 3) := by decide +kernel
theorem dX8_layPath_230 : decode cX8_layPath 230 = .ok (.sipush 150, 3) := by decide +kernel
theorem dX8_layPath_233 : decode cX8_layPath 233 = .ok (.istore 5, 2) := by decide +kernel
theorem dX8_layPath_235 : decode cX8_layPath 235 = .ok (.iconst 0, 1) := by decide +kernel
theorem dX8_layPath_236 : decode cX8_layPath 236 = .ok (.istore 6, 2) := by decide +kernel
theorem dX8_layPath_238 : decode cX8_layPath 238 = .ok (.iload 6, 2) := by decide +kernel
theorem dX8_layPath_240 : decode cX8_layPath 240 = .ok (.iconst 4, 1) := by decide +kernel
theorem dX8_layPath_241 : decode cX8_layPath 241 = .ok (.if_icmp .ge 55, 3) := by decide +kernel
theorem dX8_layPath_244 : decode cX8_layPath 244 = .ok (.aload_n 0, 1) := by decide +kernel
theorem dX8_layPath_245 : decode cX8_layPath 245 = .ok (.getfield 13, 3) := by decide +kernel
theorem dX8_layPath_248 : decode cX8_layPath 248 = .ok (.iconst 4, 1) := by decide +kernel
theorem dX8_layPath_249 : decode cX8_layPath 249 = .ok (.iload 4, 2) := by decide +kernel
theorem dX8_layPath_251 : decode cX8_layPath 251 = .ok (.imul, 1) := by decide +kernel
theorem dX8_layPath_252 : decode cX8_layPath 252 = .ok (.iload 6, 2) := by decide +kernel
theorem dX8_layPath_254 : decode cX8_layPath 254 = .ok (.iadd, 1) := by decide +kernel
theorem dX8_layPath_255 : decode cX8_layPath 255 = .ok (.iaload, 1) := by decide +kernel
theorem dX8_layPath_256 : decode cX8_layPath 256 = .ok (.istore 7, 2) := by decide +kernel
theorem dX8_layPath_258 : decode cX8_layPath 258 = .ok (.aload_n 0, 1) := by decide +kernel
theorem dX8_layPath_259 : decode cX8_layPath 259 = .ok (.getfield 38, 3) := by decide +kernel
theorem dX8_layPath_262 : decode cX8_layPath 262 = .ok (.sipush 150, 3) := by decide +kernel
theorem dX8_layPath_265 : decode cX8_layPath 265 = .ok (.iload_n 3, 1) := by decide +kernel
theorem dX8_layPath_266 : decode cX8_layPath 266 = .ok (.imul, 1) := by decide +kernel
theorem dX8_layPath_267 : decode cX8_layPath 267 = .ok (.iload 7, 2) := by decide +kernel
theorem dX8_layPath_269 : decode cX8_layPath 269 = .ok (.iadd, 1) := by decide +kernel
theorem dX8_layPath_270 : decode cX8_layPath 270 = .ok (.baload, 1) := by decide +kernel
theorem dX8_layPath_271 : decode cX8_layPath 271 = .ok (.ifCond .eq 15, 3) := by decide +kernel
theorem dX8_layPath_274 : decode cX8_layPath 274 = .ok (.iload 7, 2) := by decide +kernel
theorem dX8_layPath_276 : decode cX8_layPath 276 = .ok (.iload 5, 2) := by decide +kernel
theorem dX8_layPath_278 : decode cX8_layPath 278 = .ok (.if_icmp .ge 8, 3) := by decide +kernel
theorem dX8_layPath_281 : decode cX8_layPath 281 = .ok (.iload 7, 2) := by decide +kernel
theorem dX8_layPath_283 : decode cX8_layPath 283 = .ok (.goto 5, 3) := by decide +kernel
theorem dX8_layPath_286 : decode cX8_layPath 286 = .ok (.iload 5, 2) := by decide +kernel
theorem dX8_layPath_288 : decode cX8_layPath 288 = .ok (.istore 5, 2) := by decide +kernel
theorem dX8_layPath_290 : decode cX8_layPath 290 = .ok (.iinc 6 1, 3) := by decide +kernel
theorem dX8_layPath_293 : decode cX8_layPath 293 = .ok (.goto (-55), 3) := by decide +kernel
theorem dX8_layPath_296 : decode cX8_layPath 296 = .ok (.aload_n 0, 1) := by decide +kernel
theorem dX8_layPath_297 : decode cX8_layPath 297 = .ok (.getfield 47, 3) := by decide +kernel
theorem dX8_layPath_300 : decode cX8_layPath 300 = .ok (.iload_n 3, 1) := by decide +kernel
theorem dX8_layPath_301 : decode cX8_layPath 301 = .ok (.iload 5, 2) := by decide +kernel
theorem dX8_layPath_303 : decode cX8_layPath 303 = .ok (.iastore, 1) := by decide +kernel
theorem dX8_layPath_304 : decode cX8_layPath 304 = .ok (.iinc 3 1, 3) := by decide +kernel
theorem dX8_layPath_307 : decode cX8_layPath 307 = .ok (.goto (-113), 3) := by decide +kernel
theorem dX8_layPath_310 : decode cX8_layPath 310 = .ok (.return_, 1) := by decide +kernel
def bs_X8_planCell : List (List Cond) := [[.code yX8_planCell cX8_planCell 4 (some .int)], wsX8_planCell_r1, wsX8_planCell_r2, wsX8_planCell_r3, wsX80]
theorem bi_X8_planCell : ∀ w ∈ bs_X8_planCell.flatten, w ∈ wsX8_planCell := by
  have h : bs_X8_planCell.flatten = wsX8_planCell := by simp only [bs_X8_planCell, wsX8_planCell, List.flatten_cons, List.flatten_nil, List.append_assoc, List.append_nil, List.nil_append, List.cons_append]
  intro w hw; rw [h] at hw; exact hw
set_option maxRecDepth 20000 in
theorem ggX8_planCell_X8_isCell : GoodIn wsX8_planCell wsX8_isCell := goodIn_bb bs_X8_planCell bi_X8_planCell _ [(1, 6), (1, 7), (1, 8), (1, 9), (1, 5), (1, 10)] rfl (by decide +kernel)
set_option maxRecDepth 20000 in
theorem gX8_planCell_X8_isCell : GoodIn wsX8_planCell (va_wsS RX8 82 yX8_isCell wsX8_isCell) := goodIn_app (goodIn_bb bs_X8_planCell bi_X8_planCell _ [(1, 3), (1, 4), (1, 5)] rfl (by decide +kernel)) ggX8_planCell_X8_isCell
set_option maxRecDepth 20000 in
theorem ggX8_planCell_X8_in : GoodIn wsX8_planCell wsX8_in := goodIn_bb bs_X8_planCell bi_X8_planCell _ [(1, 10)] rfl (by decide +kernel)
set_option maxRecDepth 20000 in
theorem gX8_planCell_X8_in : GoodIn wsX8_planCell (va_wsS RX8 65 yX8_in wsX8_in) := goodIn_app (goodIn_bb bs_X8_planCell bi_X8_planCell _ [(1, 8), (1, 9), (1, 5)] rfl (by decide +kernel)) ggX8_planCell_X8_in
set_option maxRecDepth 20000 in
theorem ggX8_planCell_X8_refused : GoodIn wsX8_planCell wsX8_refused := goodIn_bb bs_X8_planCell bi_X8_planCell _ [(1, 14), (1, 15), (4, 0), (4, 1), (4, 2), (4, 3), (4, 4), (4, 5), (4, 6), (4, 7), (4, 8), (4, 9), (4, 10), (4, 11), (4, 12), (4, 13), (4, 14), (4, 15), (4, 16), (4, 17), (4, 18)] rfl (by decide +kernel)
set_option maxRecDepth 20000 in
theorem gX8_planCell_X8_refused : GoodIn wsX8_planCell (wsV RX8 88 RX8 yX8_refused wsX8_refused) := goodIn_app (goodIn_bb bs_X8_planCell bi_X8_planCell _ [(1, 11), (1, 12), (1, 13), (1, 5)] rfl (by decide +kernel)) ggX8_planCell_X8_refused
set_option maxRecDepth 20000 in
theorem ggX8_planCell_X8_arrivalOf : GoodIn wsX8_planCell wsX8_arrivalOf := goodIn_bb bs_X8_planCell bi_X8_planCell _ [(1, 19), (1, 20), (1, 21), (1, 22), (1, 23), (1, 5), (2, 0), (2, 1), (2, 2), (2, 3), (2, 4), (2, 5), (1, 1), (2, 6), (2, 7), (2, 8), (2, 9), (2, 10), (2, 11), (2, 12), (2, 13), (2, 14), (2, 15), (2, 16), (2, 17), (2, 18), (2, 19), (2, 20), (2, 21), (2, 22), (2, 23), (3, 0), (3, 1), (3, 2), (3, 3), (3, 4), (3, 5), (3, 6), (4, 0), (4, 1), (4, 2), (4, 3), (4, 4), (4, 5), (4, 6), (4, 7), (4, 8), (4, 9), (4, 10), (4, 11), (4, 12), (4, 13), (4, 14), (4, 15), (4, 16), (4, 17), (4, 18)] rfl (by decide +kernel)
set_option maxRecDepth 20000 in
theorem gX8_planCell_X8_arrivalOf : GoodIn wsX8_planCell (wsV RX8 164 RX8 yX8_arrivalOf wsX8_arrivalOf) := goodIn_app (goodIn_bb bs_X8_planCell bi_X8_planCell _ [(1, 16), (1, 17), (1, 18), (1, 5)] rfl (by decide +kernel)) ggX8_planCell_X8_arrivalOf
set_option maxRecDepth 20000 in
theorem ggX8_planCell_X8_layPath : GoodIn wsX8_planCell wsX8_layPath := goodIn_bb bs_X8_planCell bi_X8_planCell _ [(3, 10), (3, 11), (3, 6), (1, 20), (1, 2), (1, 1), (4, 0), (4, 1), (4, 2), (4, 3), (4, 4), (4, 5), (4, 6), (4, 7), (4, 8), (4, 9), (4, 10), (4, 11), (4, 12), (4, 13), (4, 14), (4, 15), (4, 16), (4, 17), (4, 18)] rfl (by decide +kernel)
set_option maxRecDepth 20000 in
theorem gX8_planCell_X8_layPath : GoodIn wsX8_planCell (wsV RX8 186 RX8 yX8_layPath wsX8_layPath) := goodIn_app (goodIn_bb bs_X8_planCell bi_X8_planCell _ [(3, 7), (3, 8), (3, 9), (1, 5)] rfl (by decide +kernel)) ggX8_planCell_X8_layPath
theorem dX8_planCell_0 : decode cX8_planCell 0 = .ok (.aload_n 0, 1) := by decide +kernel
theorem dX8_planCell_1 : decode cX8_planCell 1 = .ok (.iload_n 1, 1) := by decide +kernel
theorem dX8_planCell_2 : decode cX8_planCell 2 = .ok (.invokestatic 82, 3) := by decide +kernel
theorem dX8_planCell_5 : decode cX8_planCell 5 = .ok (.ifCond .ne 7, 3) := by decide +kernel
theorem dX8_planCell_8 : decode cX8_planCell 8 = .ok (.iconst 1, 1) := by decide +kernel
theorem dX8_planCell_9 : decode cX8_planCell 9 = .ok (.goto 35, 3) := by decide +kernel
theorem dX8_planCell_12 : decode cX8_planCell 12 = .ok (.iload_n 2, 1) := by decide +kernel
theorem dX8_planCell_13 : decode cX8_planCell 13 = .ok (.i2l, 1) := by decide +kernel
theorem dX8_planCell_14 : decode cX8_planCell 14 = .ok (.lconst 0, 1) := by decide +kernel
theorem dX8_planCell_15 : decode cX8_planCell 15 = .ok (.ldc2_w 184, 3) := by decide +kernel
theorem dX8_planCell_18 : decode cX8_planCell 18 = .ok (.invokestatic 65, 3) := by decide +kernel
theorem dX8_planCell_21 : decode cX8_planCell 21 = .ok (.ifCond .ne 7, 3) := by decide +kernel
theorem dX8_planCell_24 : decode cX8_planCell 24 = .ok (.iconst 2, 1) := by decide +kernel
theorem dX8_planCell_25 : decode cX8_planCell 25 = .ok (.goto 19, 3) := by decide +kernel
theorem dX8_planCell_28 : decode cX8_planCell 28 = .ok (.aload_n 0, 1) := by decide +kernel
theorem dX8_planCell_29 : decode cX8_planCell 29 = .ok (.getfield 16, 3) := by decide +kernel
theorem dX8_planCell_32 : decode cX8_planCell 32 = .ok (.bipush 23, 2) := by decide +kernel
theorem dX8_planCell_34 : decode cX8_planCell 34 = .ok (.iaload, 1) := by decide +kernel
theorem dX8_planCell_35 : decode cX8_planCell 35 = .ok (.iconst 1, 1) := by decide +kernel
theorem dX8_planCell_36 : decode cX8_planCell 36 = .ok (.if_icmp .ne 7, 3) := by decide +kernel
theorem dX8_planCell_39 : decode cX8_planCell 39 = .ok (.iconst 3, 1) := by decide +kernel
theorem dX8_planCell_40 : decode cX8_planCell 40 = .ok (.goto 4, 3) := by decide +kernel
theorem dX8_planCell_43 : decode cX8_planCell 43 = .ok (.iconst 0, 1) := by decide +kernel
theorem dX8_planCell_44 : decode cX8_planCell 44 = .ok (.invokevirtual 88, 3) := by decide +kernel
theorem dX8_planCell_47 : decode cX8_planCell 47 = .ok (.ifCond .eq 5, 3) := by decide +kernel
theorem dX8_planCell_50 : decode cX8_planCell 50 = .ok (.iconst 0, 1) := by decide +kernel
theorem dX8_planCell_51 : decode cX8_planCell 51 = .ok (.ireturn, 1) := by decide +kernel
theorem dX8_planCell_52 : decode cX8_planCell 52 = .ok (.aload_n 0, 1) := by decide +kernel
theorem dX8_planCell_53 : decode cX8_planCell 53 = .ok (.iload_n 1, 1) := by decide +kernel
theorem dX8_planCell_54 : decode cX8_planCell 54 = .ok (.invokevirtual 164, 3) := by decide +kernel
theorem dX8_planCell_57 : decode cX8_planCell 57 = .ok (.istore_n 3, 1) := by decide +kernel
theorem dX8_planCell_58 : decode cX8_planCell 58 = .ok (.iload_n 3, 1) := by decide +kernel
theorem dX8_planCell_59 : decode cX8_planCell 59 = .ok (.bipush (-9), 2) := by decide +kernel
theorem dX8_planCell_61 : decode cX8_planCell 61 = .ok (.if_icmp .eq 8, 3) := by decide +kernel
theorem dX8_planCell_64 : decode cX8_planCell 64 = .ok (.iload_n 2, 1) := by decide +kernel
theorem dX8_planCell_65 : decode cX8_planCell 65 = .ok (.iload_n 3, 1) := by decide +kernel
theorem dX8_planCell_66 : decode cX8_planCell 66 = .ok (.if_icmp .le 6, 3) := by decide +kernel
theorem dX8_planCell_69 : decode cX8_planCell 69 = .ok (.bipush (-9), 2) := by decide +kernel
theorem dX8_planCell_71 : decode cX8_planCell 71 = .ok (.ireturn, 1) := by decide +kernel
theorem dX8_planCell_72 : decode cX8_planCell 72 = .ok (.aload_n 0, 1) := by decide +kernel
theorem dX8_planCell_73 : decode cX8_planCell 73 = .ok (.iload_n 1, 1) := by decide +kernel
theorem dX8_planCell_74 : decode cX8_planCell 74 = .ok (.iload_n 3, 1) := by decide +kernel
theorem dX8_planCell_75 : decode cX8_planCell 75 = .ok (.invokevirtual 186, 3) := by decide +kernel
theorem dX8_planCell_78 : decode cX8_planCell 78 = .ok (.aload_n 0, 1) := by decide +kernel
theorem dX8_planCell_79 : decode cX8_planCell 79 = .ok (.getfield 47, 3) := by decide +kernel
theorem dX8_planCell_82 : decode cX8_planCell 82 = .ok (.iload_n 2, 1) := by decide +kernel
theorem dX8_planCell_83 : decode cX8_planCell 83 = .ok (.iaload, 1) := by decide +kernel
theorem dX8_planCell_84 : decode cX8_planCell 84 = .ok (.ireturn, 1) := by decide +kernel
def bs_X8_reachableCells : List (List Cond) := [[.code yX8_reachableCells cX8_reachableCells 4 (some .int)], wsX8_reachableCells_r1, wsX8_reachableCells_r2, wsX80]
theorem bi_X8_reachableCells : ∀ w ∈ bs_X8_reachableCells.flatten, w ∈ wsX8_reachableCells := by
  have h : bs_X8_reachableCells.flatten = wsX8_reachableCells := by simp only [bs_X8_reachableCells, wsX8_reachableCells, List.flatten_cons, List.flatten_nil, List.append_assoc, List.append_nil, List.nil_append, List.cons_append]
  intro w hw; rw [h] at hw; exact hw
set_option maxRecDepth 20000 in
theorem ggX8_reachableCells_X8_in : GoodIn wsX8_reachableCells wsX8_in := goodIn_bb bs_X8_reachableCells bi_X8_reachableCells _ [(1, 6)] rfl (by decide +kernel)
set_option maxRecDepth 20000 in
theorem gX8_reachableCells_X8_in : GoodIn wsX8_reachableCells (va_wsS RX8 65 yX8_in wsX8_in) := goodIn_app (goodIn_bb bs_X8_reachableCells bi_X8_reachableCells _ [(1, 3), (1, 4), (1, 5)] rfl (by decide +kernel)) ggX8_reachableCells_X8_in
set_option maxRecDepth 20000 in
theorem ggX8_reachableCells_X8_refused : GoodIn wsX8_reachableCells wsX8_refused := goodIn_bb bs_X8_reachableCells bi_X8_reachableCells _ [(1, 10), (1, 11), (3, 0), (3, 1), (3, 2), (3, 3), (3, 4), (3, 5), (3, 6), (3, 7), (3, 8), (3, 9), (3, 10), (3, 11), (3, 12), (3, 13), (3, 14), (3, 15), (3, 16), (3, 17), (3, 18)] rfl (by decide +kernel)
set_option maxRecDepth 20000 in
theorem gX8_reachableCells_X8_refused : GoodIn wsX8_reachableCells (wsV RX8 88 RX8 yX8_refused wsX8_refused) := goodIn_app (goodIn_bb bs_X8_reachableCells bi_X8_reachableCells _ [(1, 7), (1, 8), (1, 9), (1, 5)] rfl (by decide +kernel)) ggX8_reachableCells_X8_refused
set_option maxRecDepth 20000 in
theorem ggX8_reachableCells_X8_layPlans : GoodIn wsX8_reachableCells wsX8_layPlans := goodIn_bb bs_X8_reachableCells bi_X8_reachableCells _ [(1, 15), (1, 16), (1, 17), (1, 18), (1, 5), (1, 19), (1, 20), (1, 1), (1, 21), (1, 22), (1, 23), (2, 0), (2, 1), (2, 2), (2, 3), (2, 4), (2, 5), (2, 6), (2, 7), (2, 8), (2, 9), (2, 10), (2, 11), (2, 12), (2, 13), (2, 14), (2, 15), (2, 16), (2, 17), (2, 18), (2, 19), (2, 20), (1, 2), (2, 21), (3, 0), (3, 1), (3, 2), (3, 3), (3, 4), (3, 5), (3, 6), (3, 7), (3, 8), (3, 9), (3, 10), (3, 11), (3, 12), (3, 13), (3, 14), (3, 15), (3, 16), (3, 17), (3, 18)] rfl (by decide +kernel)
set_option maxRecDepth 20000 in
theorem gX8_reachableCells_X8_layPlans : GoodIn wsX8_reachableCells (wsV RX8 181 RX8 yX8_layPlans wsX8_layPlans) := goodIn_app (goodIn_bb bs_X8_reachableCells bi_X8_reachableCells _ [(1, 12), (1, 13), (1, 14), (1, 5)] rfl (by decide +kernel)) ggX8_reachableCells_X8_layPlans
theorem dX8_reachableCells_0 : decode cX8_reachableCells 0 = .ok (.aload_n 0, 1) := by decide +kernel
theorem dX8_reachableCells_1 : decode cX8_reachableCells 1 = .ok (.iload_n 1, 1) := by decide +kernel
theorem dX8_reachableCells_2 : decode cX8_reachableCells 2 = .ok (.i2l, 1) := by decide +kernel
theorem dX8_reachableCells_3 : decode cX8_reachableCells 3 = .ok (.lconst 0, 1) := by decide +kernel
theorem dX8_reachableCells_4 : decode cX8_reachableCells 4 = .ok (.ldc2_w 184, 3) := by decide +kernel
theorem dX8_reachableCells_7 : decode cX8_reachableCells 7 = .ok (.invokestatic 65, 3) := by decide +kernel
theorem dX8_reachableCells_10 : decode cX8_reachableCells 10 = .ok (.ifCond .ne 7, 3) := by decide +kernel
theorem dX8_reachableCells_13 : decode cX8_reachableCells 13 = .ok (.iconst 1, 1) := by decide +kernel
theorem dX8_reachableCells_14 : decode cX8_reachableCells 14 = .ok (.goto 19, 3) := by decide +kernel
theorem dX8_reachableCells_17 : decode cX8_reachableCells 17 = .ok (.aload_n 0, 1) := by decide +kernel
theorem dX8_reachableCells_18 : decode cX8_reachableCells 18 = .ok (.getfield 16, 3) := by decide +kernel
theorem dX8_reachableCells_21 : decode cX8_reachableCells 21 = .ok (.bipush 23, 2) := by decide +kernel
theorem dX8_reachableCells_23 : decode cX8_reachableCells 23 = .ok (.iaload, 1) := by decide +kernel
theorem dX8_reachableCells_24 : decode cX8_reachableCells 24 = .ok (.iconst 1, 1) := by decide +kernel
theorem dX8_reachableCells_25 : decode cX8_reachableCells 25 = .ok (.if_icmp .ne 7, 3) := by decide +kernel
theorem dX8_reachableCells_28 : decode cX8_reachableCells 28 = .ok (.iconst 2, 1) := by decide +kernel
theorem dX8_reachableCells_29 : decode cX8_reachableCells 29 = .ok (.goto 4, 3) := by decide +kernel
theorem dX8_reachableCells_32 : decode cX8_reachableCells 32 = .ok (.iconst 0, 1) := by decide +kernel
theorem dX8_reachableCells_33 : decode cX8_reachableCells 33 = .ok (.invokevirtual 88, 3) := by decide +kernel
theorem dX8_reachableCells_36 : decode cX8_reachableCells 36 = .ok (.ifCond .eq 5, 3) := by decide +kernel
theorem dX8_reachableCells_39 : decode cX8_reachableCells 39 = .ok (.iconst 0, 1) := by decide +kernel
theorem dX8_reachableCells_40 : decode cX8_reachableCells 40 = .ok (.ireturn, 1) := by decide +kernel
theorem dX8_reachableCells_41 : decode cX8_reachableCells 41 = .ok (.aload_n 0, 1) := by decide +kernel
theorem dX8_reachableCells_42 : decode cX8_reachableCells 42 = .ok (.invokevirtual 181, 3) := by decide +kernel
theorem dX8_reachableCells_45 : decode cX8_reachableCells 45 = .ok (.iconst 0, 1) := by decide +kernel
theorem dX8_reachableCells_46 : decode cX8_reachableCells 46 = .ok (.istore_n 2, 1) := by decide +kernel
theorem dX8_reachableCells_47 : decode cX8_reachableCells 47 = .ok (.iconst 0, 1) := by decide +kernel
theorem dX8_reachableCells_48 : decode cX8_reachableCells 48 = .ok (.istore_n 3, 1) := by decide +kernel
theorem dX8_reachableCells_49 : decode cX8_reachableCells 49 = .ok (.iload_n 3, 1) := by decide +kernel
theorem dX8_reachableCells_50 : decode cX8_reachableCells 50 = .ok (.sipush 150, 3) := by decide +kernel
theorem dX8_reachableCells_53 : decode cX8_reachableCells 53 = .ok (.if_icmp .ge 32, 3) := by decide +kernel
theorem dX8_reachableCells_56 : decode cX8_reachableCells 56 = .ok (.iload_n 2, 1) := by decide +kernel
theorem dX8_reachableCells_57 : decode cX8_reachableCells 57 = .ok (.aload_n 0, 1) := by decide +kernel
theorem dX8_reachableCells_58 : decode cX8_reachableCells 58 = .ok (.getfield 35, 3) := by decide +kernel
theorem dX8_reachableCells_61 : decode cX8_reachableCells 61 = .ok (.sipush 150, 3) := by decide +kernel
theorem dX8_reachableCells_64 : decode cX8_reachableCells 64 = .ok (.iload_n 1, 1) := by decide +kernel
theorem dX8_reachableCells_65 : decode cX8_reachableCells 65 = .ok (.imul, 1) := by decide +kernel
theorem dX8_reachableCells_66 : decode cX8_reachableCells 66 = .ok (.iload_n 3, 1) := by decide +kernel
theorem dX8_reachableCells_67 : decode cX8_reachableCells 67 = .ok (.iadd, 1) := by decide +kernel
theorem dX8_reachableCells_68 : decode cX8_reachableCells 68 = .ok (.baload, 1) := by decide +kernel
theorem dX8_reachableCells_69 : decode cX8_reachableCells 69 = .ok (.ifCond .eq 7, 3) := by decide +kernel
theorem dX8_reachableCells_72 : decode cX8_reachableCells 72 = .ok (.iconst 1, 1) := by decide +kernel
theorem dX8_reachableCells_73 : decode cX8_reachableCells 73 = .ok (.goto 4, 3) := by decide +kernel
theorem dX8_reachableCells_76 : decode cX8_reachableCells 76 = .ok (.iconst 0, 1) := by decide +kernel
theorem dX8_reachableCells_77 : decode cX8_reachableCells 77 = .ok (.iadd, 1) := by decide +kernel
theorem dX8_reachableCells_78 : decode cX8_reachableCells 78 = .ok (.istore_n 2, 1) := by decide +kernel
theorem dX8_reachableCells_79 : decode cX8_reachableCells 79 = .ok (.iinc 3 1, 3) := by decide +kernel
theorem dX8_reachableCells_82 : decode cX8_reachableCells 82 = .ok (.goto (-33), 3) := by decide +kernel
theorem dX8_reachableCells_85 : decode cX8_reachableCells 85 = .ok (.iload_n 2, 1) := by decide +kernel
theorem dX8_reachableCells_86 : decode cX8_reachableCells 86 = .ok (.ireturn, 1) := by decide +kernel
theorem dX8_staysDark_0 : decode cX8_staysDark 0 = .ok (.iconst 1, 1) := by decide +kernel
theorem dX8_staysDark_1 : decode cX8_staysDark 1 = .ok (.istore 4, 2) := by decide +kernel
theorem dX8_staysDark_3 : decode cX8_staysDark 3 = .ok (.iload_n 2, 1) := by decide +kernel
theorem dX8_staysDark_4 : decode cX8_staysDark 4 = .ok (.istore 5, 2) := by decide +kernel
theorem dX8_staysDark_6 : decode cX8_staysDark 6 = .ok (.iload 5, 2) := by decide +kernel
theorem dX8_staysDark_8 : decode cX8_staysDark 8 = .ok (.iload_n 3, 1) := by decide +kernel
theorem dX8_staysDark_9 : decode cX8_staysDark 9 = .ok (.if_icmp .gt 29, 3) := by decide +kernel
theorem dX8_staysDark_12 : decode cX8_staysDark 12 = .ok (.iload 4, 2) := by decide +kernel
theorem dX8_staysDark_14 : decode cX8_staysDark 14 = .ok (.ifCond .eq 24, 3) := by decide +kernel
theorem dX8_staysDark_17 : decode cX8_staysDark 17 = .ok (.aload_n 0, 1) := by decide +kernel
theorem dX8_staysDark_18 : decode cX8_staysDark 18 = .ok (.getfield 32, 3) := by decide +kernel
theorem dX8_staysDark_21 : decode cX8_staysDark 21 = .ok (.sipush 150, 3) := by decide +kernel
theorem dX8_staysDark_24 : decode cX8_staysDark 24 = .ok (.iload 5, 2) := by decide +kernel
theorem dX8_staysDark_26 : decode cX8_staysDark 26 = .ok (.imul, 1) := by decide +kernel
theorem dX8_staysDark_27 : decode cX8_staysDark 27 = .ok (.iload_n 1, 1) := by decide +kernel
theorem dX8_staysDark_28 : decode cX8_staysDark 28 = .ok (.iadd, 1) := by decide +kernel
theorem dX8_staysDark_29 : decode cX8_staysDark 29 = .ok (.baload, 1) := by decide +kernel
theorem dX8_staysDark_30 : decode cX8_staysDark 30 = .ok (.istore 4, 2) := by decide +kernel
theorem dX8_staysDark_32 : decode cX8_staysDark 32 = .ok (.iinc 5 1, 3) := by decide +kernel
theorem dX8_staysDark_35 : decode cX8_staysDark 35 = .ok (.goto (-29), 3) := by decide +kernel
theorem dX8_staysDark_38 : decode cX8_staysDark 38 = .ok (.iload 4, 2) := by decide +kernel
theorem dX8_staysDark_40 : decode cX8_staysDark 40 = .ok (.ireturn, 1) := by decide +kernel
def bs_X8_parking : List (List Cond) := [[.code yX8_parking cX8_parking 4 (some .int)], wsX8_parking_r1, wsX8_parking_r2, wsX80]
theorem bi_X8_parking : ∀ w ∈ bs_X8_parking.flatten, w ∈ wsX8_parking := by
  have h : bs_X8_parking.flatten = wsX8_parking := by simp only [bs_X8_parking, wsX8_parking, List.flatten_cons, List.flatten_nil, List.append_assoc, List.append_nil, List.nil_append, List.cons_append]
  intro w hw; rw [h] at hw; exact hw
set_option maxRecDepth 20000 in
theorem ggX8_parking_X8_layDark : GoodIn wsX8_parking wsX8_layDark := goodIn_bb bs_X8_parking bi_X8_parking _ [(1, 5), (1, 6), (1, 7), (1, 8), (1, 9), (1, 10), (1, 4), (1, 11), (1, 12), (1, 13), (1, 14), (1, 15), (1, 16), (1, 17), (1, 18), (1, 19), (1, 20), (1, 21), (1, 22), (1, 23), (2, 0), (2, 1), (2, 2), (2, 3), (3, 0), (3, 1), (3, 2), (3, 3), (3, 4), (3, 5), (3, 6), (3, 7), (3, 8), (3, 9), (3, 10), (3, 11), (3, 12), (3, 13), (3, 14), (3, 15), (3, 16), (3, 17), (3, 18)] rfl (by decide +kernel)
set_option maxRecDepth 20000 in
theorem gX8_parking_X8_layDark : GoodIn wsX8_parking (wsV RX8 174 RX8 yX8_layDark wsX8_layDark) := goodIn_app (goodIn_bb bs_X8_parking bi_X8_parking _ [(1, 1), (1, 2), (1, 3), (1, 4)] rfl (by decide +kernel)) ggX8_parking_X8_layDark
set_option maxRecDepth 20000 in
theorem ggX8_parking_X8_layReached : GoodIn wsX8_parking wsX8_layReached := goodIn_bb bs_X8_parking bi_X8_parking _ [(2, 7), (1, 0), (1, 7), (2, 8), (1, 6), (3, 0), (3, 1), (3, 2), (3, 3), (3, 4), (3, 5), (3, 6), (3, 7), (3, 8), (3, 9), (3, 10), (3, 11), (3, 12), (3, 13), (3, 14), (3, 15), (3, 16), (3, 17), (3, 18)] rfl (by decide +kernel)
set_option maxRecDepth 20000 in
theorem gX8_parking_X8_layReached : GoodIn wsX8_parking (wsV RX8 178 RX8 yX8_layReached wsX8_layReached) := goodIn_app (goodIn_bb bs_X8_parking bi_X8_parking _ [(2, 4), (2, 5), (2, 6), (1, 4)] rfl (by decide +kernel)) ggX8_parking_X8_layReached
set_option maxRecDepth 20000 in
theorem ggX8_parking_X8_staysDark : GoodIn wsX8_parking wsX8_staysDark := goodIn_bb bs_X8_parking bi_X8_parking _ [(2, 12), (1, 6), (3, 0), (3, 1), (3, 2), (3, 3), (3, 4), (3, 5), (3, 6), (3, 7), (3, 8), (3, 9), (3, 10), (3, 11), (3, 12), (3, 13), (3, 14), (3, 15), (3, 16), (3, 17), (3, 18)] rfl (by decide +kernel)
set_option maxRecDepth 20000 in
theorem gX8_parking_X8_staysDark : GoodIn wsX8_parking (wsV RX8 190 RX8 yX8_staysDark wsX8_staysDark) := goodIn_app (goodIn_bb bs_X8_parking bi_X8_parking _ [(2, 9), (2, 10), (2, 11), (1, 4)] rfl (by decide +kernel)) ggX8_parking_X8_staysDark
theorem dX8_parking_0 : decode cX8_parking 0 = .ok (.aload_n 0, 1) := by decide +kernel
theorem dX8_parking_1 : decode cX8_parking 1 = .ok (.bipush 60, 2) := by decide +kernel
theorem dX8_parking_3 : decode cX8_parking 3 = .ok (.iload_n 1, 1) := by decide +kernel
theorem dX8_parking_4 : decode cX8_parking 4 = .ok (.iadd, 1) := by decide +kernel
theorem dX8_parking_5 : decode cX8_parking 5 = .ok (.invokevirtual 174, 3) := by decide +kernel
theorem dX8_parking_8 : decode cX8_parking 8 = .ok (.aload_n 0, 1) := by decide +kernel
theorem dX8_parking_9 : decode cX8_parking 9 = .ok (.bipush 60, 2) := by decide +kernel
theorem dX8_parking_11 : decode cX8_parking 11 = .ok (.invokevirtual 178, 3) := by decide +kernel
theorem dX8_parking_14 : decode cX8_parking 14 = .ok (.iconst 0, 1) := by decide +kernel
theorem dX8_parking_15 : decode cX8_parking 15 = .ok (.istore_n 2, 1) := by decide +kernel
theorem dX8_parking_16 : decode cX8_parking 16 = .ok (.iload_n 2, 1) := by decide +kernel
theorem dX8_parking_17 : decode cX8_parking 17 = .ok (.bipush 60, 2) := by decide +kernel
theorem dX8_parking_19 : decode cX8_parking 19 = .ok (.if_icmp .gt 59, 3) := by decide +kernel
theorem dX8_parking_22 : decode cX8_parking 22 = .ok (.iconst 0, 1) := by decide +kernel
theorem dX8_parking_23 : decode cX8_parking 23 = .ok (.istore_n 3, 1) := by decide +kernel
theorem dX8_parking_24 : decode cX8_parking 24 = .ok (.iload_n 3, 1) := by decide +kernel
theorem dX8_parking_25 : decode cX8_parking 25 = .ok (.sipush 150, 3) := by decide +kernel
theorem dX8_parking_28 : decode cX8_parking 28 = .ok (.if_icmp .ge 44, 3) := by decide +kernel
theorem dX8_parking_31 : decode cX8_parking 31 = .ok (.aload_n 0, 1) := by decide +kernel
theorem dX8_parking_32 : decode cX8_parking 32 = .ok (.getfield 35, 3) := by decide +kernel
theorem dX8_parking_35 : decode cX8_parking 35 = .ok (.sipush 150, 3) := by decide +kernel
theorem dX8_parking_38 : decode cX8_parking 38 = .ok (.iload_n 2, 1) := by decide +kernel
theorem dX8_parking_39 : decode cX8_parking 39 = .ok (.imul, 1) := by decide +kernel
theorem dX8_parking_40 : decode cX8_parking 40 = .ok (.iload_n 3, 1) := by decide +kernel
theorem dX8_parking_41 : decode cX8_parking 41 = .ok (.iadd, 1) := by decide +kernel
theorem dX8_parking_42 : decode cX8_parking 42 = .ok (.baload, 1) := by decide +kernel
theorem dX8_parking_43 : decode cX8_parking 43 = .ok (.ifCond .eq 23, 3) := by decide +kernel
theorem dX8_parking_46 : decode cX8_parking 46 = .ok (.aload_n 0, 1) := by decide +kernel
theorem dX8_parking_47 : decode cX8_parking 47 = .ok (.iload_n 3, 1) := by decide +kernel
theorem dX8_parking_48 : decode cX8_parking 48 = .ok (.iload_n 2, 1) := by decide +kernel
theorem dX8_parking_49 : decode cX8_parking 49 = .ok (.iload_n 2, 1) := by decide +kernel
theorem dX8_parking_50 : decode cX8_parking 50 = .ok (.iload_n 1, 1) := by decide +kernel
theorem dX8_parking_51 : decode cX8_parking 51 = .ok (.iadd, 1) := by decide +kernel
theorem dX8_parking_52 : decode cX8_parking 52 = .ok (.invokevirtual 190, 3) := by decide +kernel
theorem dX8_parking_55 : decode cX8_parking 55 = .ok (.ifCond .eq 11, 3) := by decide +kernel
theorem dX8_parking_58 : decode cX8_parking 58 = .ok (.sipush 1000, 3) := by decide +kernel
theorem dX8_parking_61 : decode cX8_parking 61 = .ok (.iload_n 2, 1) := by decide +kernel
theorem dX8_parking_62 : decode cX8_parking 62 = .ok (.imul, 1) := by decide +kernel
theorem dX8_parking_63 : decode cX8_parking 63 = .ok (.iload_n 3, 1) := by decide +kernel
theorem dX8_parking_64 : decode cX8_parking 64 = .ok (.iadd, 1) := by decide +kernel
theorem dX8_parking_65 : decode cX8_parking 65 = .ok (.ireturn, 1) := by decide +kernel
theorem dX8_parking_66 : decode cX8_parking 66 = .ok (.iinc 3 1, 3) := by decide +kernel
theorem dX8_parking_69 : decode cX8_parking 69 = .ok (.goto (-45), 3) := by decide +kernel
theorem dX8_parking_72 : decode cX8_parking 72 = .ok (.iinc 2 1, 3) := by decide +kernel
theorem dX8_parking_75 : decode cX8_parking 75 = .ok (.goto (-59), 3) := by decide +kernel
theorem dX8_parking_78 : decode cX8_parking 78 = .ok (.bipush (-9), 2) := by decide +kernel
theorem dX8_parking_80 : decode cX8_parking 80 = .ok (.ireturn, 1) := by decide +kernel
def bs_X8_parkingCell : List (List Cond) := [[.code yX8_parkingCell cX8_parkingCell 3 (some .int)], wsX8_parkingCell_r1, wsX8_parkingCell_r2, wsX8_parkingCell_r3, wsX80]
theorem bi_X8_parkingCell : ∀ w ∈ bs_X8_parkingCell.flatten, w ∈ wsX8_parkingCell := by
  have h : bs_X8_parkingCell.flatten = wsX8_parkingCell := by simp only [bs_X8_parkingCell, wsX8_parkingCell, List.flatten_cons, List.flatten_nil, List.append_assoc, List.append_nil, List.nil_append, List.cons_append]
  intro w hw; rw [h] at hw; exact hw
set_option maxRecDepth 20000 in
theorem ggX8_parkingCell_X8_in : GoodIn wsX8_parkingCell wsX8_in := goodIn_bb bs_X8_parkingCell bi_X8_parkingCell _ [(1, 5)] rfl (by decide +kernel)
set_option maxRecDepth 20000 in
theorem gX8_parkingCell_X8_in : GoodIn wsX8_parkingCell (va_wsS RX8 65 yX8_in wsX8_in) := goodIn_app (goodIn_bb bs_X8_parkingCell bi_X8_parkingCell _ [(1, 2), (1, 3), (1, 4)] rfl (by decide +kernel)) ggX8_parkingCell_X8_in
set_option maxRecDepth 20000 in
theorem ggX8_parkingCell_X8_refused : GoodIn wsX8_parkingCell wsX8_refused := goodIn_bb bs_X8_parkingCell bi_X8_parkingCell _ [(1, 9), (1, 10), (4, 0), (4, 1), (4, 2), (4, 3), (4, 4), (4, 5), (4, 6), (4, 7), (4, 8), (4, 9), (4, 10), (4, 11), (4, 12), (4, 13), (4, 14), (4, 15), (4, 16), (4, 17), (4, 18)] rfl (by decide +kernel)
set_option maxRecDepth 20000 in
theorem gX8_parkingCell_X8_refused : GoodIn wsX8_parkingCell (wsV RX8 88 RX8 yX8_refused wsX8_refused) := goodIn_app (goodIn_bb bs_X8_parkingCell bi_X8_parkingCell _ [(1, 6), (1, 7), (1, 8), (1, 4)] rfl (by decide +kernel)) ggX8_parkingCell_X8_refused
set_option maxRecDepth 20000 in
theorem ggX8_parkingCell_X8_parking : GoodIn wsX8_parkingCell wsX8_parking := goodIn_bb bs_X8_parkingCell bi_X8_parkingCell _ [(1, 14), (1, 15), (1, 16), (1, 17), (1, 18), (1, 4), (1, 19), (1, 20), (1, 1), (1, 21), (1, 22), (1, 23), (2, 0), (2, 1), (2, 2), (2, 3), (2, 4), (2, 5), (2, 6), (2, 7), (2, 8), (2, 9), (2, 10), (2, 11), (2, 12), (2, 13), (2, 14), (2, 15), (2, 16), (2, 17), (2, 18), (2, 19), (2, 20), (2, 21), (2, 22), (2, 23), (3, 0), (3, 1), (4, 0), (4, 1), (4, 2), (4, 3), (4, 4), (4, 5), (4, 6), (4, 7), (4, 8), (4, 9), (4, 10), (4, 11), (4, 12), (4, 13), (4, 14), (4, 15), (4, 16), (4, 17), (4, 18)] rfl (by decide +kernel)
set_option maxRecDepth 20000 in
theorem gX8_parkingCell_X8_parking : GoodIn wsX8_parkingCell (wsV RX8 195 RX8 yX8_parking wsX8_parking) := goodIn_app (goodIn_bb bs_X8_parkingCell bi_X8_parkingCell _ [(1, 11), (1, 12), (1, 13), (1, 4)] rfl (by decide +kernel)) ggX8_parkingCell_X8_parking
theorem dX8_parkingCell_0 : decode cX8_parkingCell 0 = .ok (.aload_n 0, 1) := by decide +kernel
theorem dX8_parkingCell_1 : decode cX8_parkingCell 1 = .ok (.iload_n 1, 1) := by decide +kernel
theorem dX8_parkingCell_2 : decode cX8_parkingCell 2 = .ok (.i2l, 1) := by decide +kernel
theorem dX8_parkingCell_3 : decode cX8_parkingCell 3 = .ok (.lconst 0, 1) := by decide +kernel
theorem dX8_parkingCell_4 : decode cX8_parkingCell 4 = .ok (.ldc2_w 193, 3) := by decide +kernel
theorem dX8_parkingCell_7 : decode cX8_parkingCell 7 = .ok (.invokestatic 65, 3) := by decide +kernel
theorem dX8_parkingCell_10 : decode cX8_parkingCell 10 = .ok (.ifCond .ne 7, 3) := by decide +kernel
theorem dX8_parkingCell_13 : decode cX8_parkingCell 13 = .ok (.iconst 1, 1) := by decide +kernel
theorem dX8_parkingCell_14 : decode cX8_parkingCell 14 = .ok (.goto 19, 3) := by decide +kernel
theorem dX8_parkingCell_17 : decode cX8_parkingCell 17 = .ok (.aload_n 0, 1) := by decide +kernel
theorem dX8_parkingCell_18 : decode cX8_parkingCell 18 = .ok (.getfield 16, 3) := by decide +kernel
theorem dX8_parkingCell_21 : decode cX8_parkingCell 21 = .ok (.bipush 23, 2) := by decide +kernel
theorem dX8_parkingCell_23 : decode cX8_parkingCell 23 = .ok (.iaload, 1) := by decide +kernel
theorem dX8_parkingCell_24 : decode cX8_parkingCell 24 = .ok (.iconst 1, 1) := by decide +kernel
theorem dX8_parkingCell_25 : decode cX8_parkingCell 25 = .ok (.if_icmp .ne 7, 3) := by decide +kernel
theorem dX8_parkingCell_28 : decode cX8_parkingCell 28 = .ok (.iconst 2, 1) := by decide +kernel
theorem dX8_parkingCell_29 : decode cX8_parkingCell 29 = .ok (.goto 4, 3) := by decide +kernel
theorem dX8_parkingCell_32 : decode cX8_parkingCell 32 = .ok (.iconst 0, 1) := by decide +kernel
theorem dX8_parkingCell_33 : decode cX8_parkingCell 33 = .ok (.invokevirtual 88, 3) := by decide +kernel
theorem dX8_parkingCell_36 : decode cX8_parkingCell 36 = .ok (.ifCond .eq 5, 3) := by decide +kernel
theorem dX8_parkingCell_39 : decode cX8_parkingCell 39 = .ok (.iconst 0, 1) := by decide +kernel
theorem dX8_parkingCell_40 : decode cX8_parkingCell 40 = .ok (.ireturn, 1) := by decide +kernel
theorem dX8_parkingCell_41 : decode cX8_parkingCell 41 = .ok (.aload_n 0, 1) := by decide +kernel
theorem dX8_parkingCell_42 : decode cX8_parkingCell 42 = .ok (.iload_n 1, 1) := by decide +kernel
theorem dX8_parkingCell_43 : decode cX8_parkingCell 43 = .ok (.invokevirtual 195, 3) := by decide +kernel
theorem dX8_parkingCell_46 : decode cX8_parkingCell 46 = .ok (.istore_n 2, 1) := by decide +kernel
theorem dX8_parkingCell_47 : decode cX8_parkingCell 47 = .ok (.iload_n 2, 1) := by decide +kernel
theorem dX8_parkingCell_48 : decode cX8_parkingCell 48 = .ok (.bipush (-9), 2) := by decide +kernel
theorem dX8_parkingCell_50 : decode cX8_parkingCell 50 = .ok (.if_icmp .ne 8, 3) := by decide +kernel
theorem dX8_parkingCell_53 : decode cX8_parkingCell 53 = .ok (.bipush (-9), 2) := by decide +kernel
theorem dX8_parkingCell_55 : decode cX8_parkingCell 55 = .ok (.goto 8, 3) := by decide +kernel
theorem dX8_parkingCell_58 : decode cX8_parkingCell 58 = .ok (.iload_n 2, 1) := by decide +kernel
theorem dX8_parkingCell_59 : decode cX8_parkingCell 59 = .ok (.sipush 1000, 3) := by decide +kernel
theorem dX8_parkingCell_62 : decode cX8_parkingCell 62 = .ok (.irem, 1) := by decide +kernel
theorem dX8_parkingCell_63 : decode cX8_parkingCell 63 = .ok (.ireturn, 1) := by decide +kernel
def bs_X8_parkingSteps : List (List Cond) := [[.code yX8_parkingSteps cX8_parkingSteps 3 (some .int)], wsX8_parkingSteps_r1, wsX8_parkingSteps_r2, wsX8_parkingSteps_r3, wsX80]
theorem bi_X8_parkingSteps : ∀ w ∈ bs_X8_parkingSteps.flatten, w ∈ wsX8_parkingSteps := by
  have h : bs_X8_parkingSteps.flatten = wsX8_parkingSteps := by simp only [bs_X8_parkingSteps, wsX8_parkingSteps, List.flatten_cons, List.flatten_nil, List.append_assoc, List.append_nil, List.nil_append, List.cons_append]
  intro w hw; rw [h] at hw; exact hw
set_option maxRecDepth 20000 in
theorem ggX8_parkingSteps_X8_in : GoodIn wsX8_parkingSteps wsX8_in := goodIn_bb bs_X8_parkingSteps bi_X8_parkingSteps _ [(1, 5)] rfl (by decide +kernel)
set_option maxRecDepth 20000 in
theorem gX8_parkingSteps_X8_in : GoodIn wsX8_parkingSteps (va_wsS RX8 65 yX8_in wsX8_in) := goodIn_app (goodIn_bb bs_X8_parkingSteps bi_X8_parkingSteps _ [(1, 2), (1, 3), (1, 4)] rfl (by decide +kernel)) ggX8_parkingSteps_X8_in
set_option maxRecDepth 20000 in
theorem ggX8_parkingSteps_X8_refused : GoodIn wsX8_parkingSteps wsX8_refused := goodIn_bb bs_X8_parkingSteps bi_X8_parkingSteps _ [(1, 9), (1, 10), (4, 0), (4, 1), (4, 2), (4, 3), (4, 4), (4, 5), (4, 6), (4, 7), (4, 8), (4, 9), (4, 10), (4, 11), (4, 12), (4, 13), (4, 14), (4, 15), (4, 16), (4, 17), (4, 18)] rfl (by decide +kernel)
set_option maxRecDepth 20000 in
theorem gX8_parkingSteps_X8_refused : GoodIn wsX8_parkingSteps (wsV RX8 88 RX8 yX8_refused wsX8_refused) := goodIn_app (goodIn_bb bs_X8_parkingSteps bi_X8_parkingSteps _ [(1, 6), (1, 7), (1, 8), (1, 4)] rfl (by decide +kernel)) ggX8_parkingSteps_X8_refused
set_option maxRecDepth 20000 in
theorem ggX8_parkingSteps_X8_parking : GoodIn wsX8_parkingSteps wsX8_parking := goodIn_bb bs_X8_parkingSteps bi_X8_parkingSteps _ [(1, 14), (1, 15), (1, 16), (1, 17), (1, 18), (1, 4), (1, 19), (1, 20), (1, 1), (1, 21), (1, 22), (1, 23), (2, 0), (2, 1), (2, 2), (2, 3), (2, 4), (2, 5), (2, 6), (2, 7), (2, 8), (2, 9), (2, 10), (2, 11), (2, 12), (2, 13), (2, 14), (2, 15), (2, 16), (2, 17), (2, 18), (2, 19), (2, 20), (2, 21), (2, 22), (2, 23), (3, 0), (3, 1), (4, 0), (4, 1), (4, 2), (4, 3), (4, 4), (4, 5), (4, 6), (4, 7), (4, 8), (4, 9), (4, 10), (4, 11), (4, 12), (4, 13), (4, 14), (4, 15), (4, 16), (4, 17), (4, 18)] rfl (by decide +kernel)
set_option maxRecDepth 20000 in
theorem gX8_parkingSteps_X8_parking : GoodIn wsX8_parkingSteps (wsV RX8 195 RX8 yX8_parking wsX8_parking) := goodIn_app (goodIn_bb bs_X8_parkingSteps bi_X8_parkingSteps _ [(1, 11), (1, 12), (1, 13), (1, 4)] rfl (by decide +kernel)) ggX8_parkingSteps_X8_parking
theorem dX8_parkingSteps_0 : decode cX8_parkingSteps 0 = .ok (.aload_n 0, 1) := by decide +kernel
theorem dX8_parkingSteps_1 : decode cX8_parkingSteps 1 = .ok (.iload_n 1, 1) := by decide +kernel
theorem dX8_parkingSteps_2 : decode cX8_parkingSteps 2 = .ok (.i2l, 1) := by decide +kernel
theorem dX8_parkingSteps_3 : decode cX8_parkingSteps 3 = .ok (.lconst 0, 1) := by decide +kernel
theorem dX8_parkingSteps_4 : decode cX8_parkingSteps 4 = .ok (.ldc2_w 193, 3) := by decide +kernel
theorem dX8_parkingSteps_7 : decode cX8_parkingSteps 7 = .ok (.invokestatic 65, 3) := by decide +kernel
theorem dX8_parkingSteps_10 : decode cX8_parkingSteps 10 = .ok (.ifCond .ne 7, 3) := by decide +kernel
theorem dX8_parkingSteps_13 : decode cX8_parkingSteps 13 = .ok (.iconst 1, 1) := by decide +kernel
theorem dX8_parkingSteps_14 : decode cX8_parkingSteps 14 = .ok (.goto 19, 3) := by decide +kernel
theorem dX8_parkingSteps_17 : decode cX8_parkingSteps 17 = .ok (.aload_n 0, 1) := by decide +kernel
theorem dX8_parkingSteps_18 : decode cX8_parkingSteps 18 = .ok (.getfield 16, 3) := by decide +kernel
theorem dX8_parkingSteps_21 : decode cX8_parkingSteps 21 = .ok (.bipush 23, 2) := by decide +kernel
theorem dX8_parkingSteps_23 : decode cX8_parkingSteps 23 = .ok (.iaload, 1) := by decide +kernel
theorem dX8_parkingSteps_24 : decode cX8_parkingSteps 24 = .ok (.iconst 1, 1) := by decide +kernel
theorem dX8_parkingSteps_25 : decode cX8_parkingSteps 25 = .ok (.if_icmp .ne 7, 3) := by decide +kernel
theorem dX8_parkingSteps_28 : decode cX8_parkingSteps 28 = .ok (.iconst 2, 1) := by decide +kernel
theorem dX8_parkingSteps_29 : decode cX8_parkingSteps 29 = .ok (.goto 4, 3) := by decide +kernel
theorem dX8_parkingSteps_32 : decode cX8_parkingSteps 32 = .ok (.iconst 0, 1) := by decide +kernel
theorem dX8_parkingSteps_33 : decode cX8_parkingSteps 33 = .ok (.invokevirtual 88, 3) := by decide +kernel
theorem dX8_parkingSteps_36 : decode cX8_parkingSteps 36 = .ok (.ifCond .eq 5, 3) := by decide +kernel
theorem dX8_parkingSteps_39 : decode cX8_parkingSteps 39 = .ok (.iconst 0, 1) := by decide +kernel
theorem dX8_parkingSteps_40 : decode cX8_parkingSteps 40 = .ok (.ireturn, 1) := by decide +kernel
theorem dX8_parkingSteps_41 : decode cX8_parkingSteps 41 = .ok (.aload_n 0, 1) := by decide +kernel
theorem dX8_parkingSteps_42 : decode cX8_parkingSteps 42 = .ok (.iload_n 1, 1) := by decide +kernel
theorem dX8_parkingSteps_43 : decode cX8_parkingSteps 43 = .ok (.invokevirtual 195, 3) := by decide +kernel
theorem dX8_parkingSteps_46 : decode cX8_parkingSteps 46 = .ok (.istore_n 2, 1) := by decide +kernel
theorem dX8_parkingSteps_47 : decode cX8_parkingSteps 47 = .ok (.iload_n 2, 1) := by decide +kernel
theorem dX8_parkingSteps_48 : decode cX8_parkingSteps 48 = .ok (.bipush (-9), 2) := by decide +kernel
theorem dX8_parkingSteps_50 : decode cX8_parkingSteps 50 = .ok (.if_icmp .ne 8, 3) := by decide +kernel
theorem dX8_parkingSteps_53 : decode cX8_parkingSteps 53 = .ok (.bipush (-9), 2) := by decide +kernel
theorem dX8_parkingSteps_55 : decode cX8_parkingSteps 55 = .ok (.goto 8, 3) := by decide +kernel
theorem dX8_parkingSteps_58 : decode cX8_parkingSteps 58 = .ok (.iload_n 2, 1) := by decide +kernel
theorem dX8_parkingSteps_59 : decode cX8_parkingSteps 59 = .ok (.sipush 1000, 3) := by decide +kernel
theorem dX8_parkingSteps_62 : decode cX8_parkingSteps 62 = .ok (.idiv, 1) := by decide +kernel
theorem dX8_parkingSteps_63 : decode cX8_parkingSteps 63 = .ok (.ireturn, 1) := by decide +kernel
def bs_X8_finish : List (List Cond) := [[.code yX8_finish cX8_finish 10 (some .int)], [.fieldLink RX8 16 "SlewPlannerModel" "now" "[I", .fieldLink RX8 41 "SlewPlannerModel" "here" "[Z", .fieldLink RX8 13 "SlewPlannerModel" "near" "[I", .fieldLink RX8 44 "SlewPlannerModel" "then" "[Z", .fieldLink RX8 32 "SlewPlannerModel" "isDark" "[Z", .methodLink RX8 190 yX8_staysDark, .instanceMethod yX8_staysDark, .selects RX8 yX8_staysDark yX8_staysDark, .initialized RX8, .code yX8_staysDark cX8_staysDark 6 (some .boolean)], wsX80]
theorem bi_X8_finish : ∀ w ∈ bs_X8_finish.flatten, w ∈ wsX8_finish := by
  have h : bs_X8_finish.flatten = wsX8_finish := by simp only [bs_X8_finish, wsX8_finish, List.flatten_cons, List.flatten_nil, List.append_assoc, List.append_nil, List.nil_append, List.cons_append]
  intro w hw; rw [h] at hw; exact hw
set_option maxRecDepth 20000 in
theorem ggX8_finish_X8_staysDark : GoodIn wsX8_finish wsX8_staysDark := goodIn_bb bs_X8_finish bi_X8_finish _ [(1, 9), (1, 4), (2, 0), (2, 1), (2, 2), (2, 3), (2, 4), (2, 5), (2, 6), (2, 7), (2, 8), (2, 9), (2, 10), (2, 11), (2, 12), (2, 13), (2, 14), (2, 15), (2, 16), (2, 17), (2, 18)] rfl (by decide +kernel)
set_option maxRecDepth 20000 in
theorem gX8_finish_X8_staysDark : GoodIn wsX8_finish (wsV RX8 190 RX8 yX8_staysDark wsX8_staysDark) := goodIn_app (goodIn_bb bs_X8_finish bi_X8_finish _ [(1, 5), (1, 6), (1, 7), (1, 8)] rfl (by decide +kernel)) ggX8_finish_X8_staysDark
theorem dX8_finish_0 : decode cX8_finish 0 = .ok (.aload_n 0, 1) := by decide +kernel
theorem dX8_finish_1 : decode cX8_finish 1 = .ok (.getfield 16, 3) := by decide +kernel
theorem dX8_finish_4 : decode cX8_finish 4 = .ok (.bipush 25, 2) := by decide +kernel
theorem dX8_finish_6 : decode cX8_finish 6 = .ok (.iconst 3, 1) := by decide +kernel
theorem dX8_finish_7 : decode cX8_finish 7 = .ok (.iload_n 3, 1) := by decide +kernel
theorem dX8_finish_8 : decode cX8_finish 8 = .ok (.imul, 1) := by decide +kernel
theorem dX8_finish_9 : decode cX8_finish 9 = .ok (.iadd, 1) := by decide +kernel
theorem dX8_finish_10 : decode cX8_finish 10 = .ok (.iaload, 1) := by decide +kernel
theorem dX8_finish_11 : decode cX8_finish 11 = .ok (.istore 4, 2) := by decide +kernel
theorem dX8_finish_13 : decode cX8_finish 13 = .ok (.aload_n 0, 1) := by decide +kernel
theorem dX8_finish_14 : decode cX8_finish 14 = .ok (.getfield 16, 3) := by decide +kernel
theorem dX8_finish_17 : decode cX8_finish 17 = .ok (.bipush 25, 2) := by decide +kernel
theorem dX8_finish_19 : decode cX8_finish 19 = .ok (.iconst 3, 1) := by decide +kernel
theorem dX8_finish_20 : decode cX8_finish 20 = .ok (.iload_n 3, 1) := by decide +kernel
theorem dX8_finish_21 : decode cX8_finish 21 = .ok (.imul, 1) := by decide +kernel
theorem dX8_finish_22 : decode cX8_finish 22 = .ok (.iadd, 1) := by decide +kernel
theorem dX8_finish_23 : decode cX8_finish 23 = .ok (.iconst 1, 1) := by decide +kernel
theorem dX8_finish_24 : decode cX8_finish 24 = .ok (.iadd, 1) := by decide +kernel
theorem dX8_finish_25 : decode cX8_finish 25 = .ok (.iaload, 1) := by decide +kernel
theorem dX8_finish_26 : decode cX8_finish 26 = .ok (.istore 5, 2) := by decide +kernel
theorem dX8_finish_28 : decode cX8_finish 28 = .ok (.iconst 0, 1) := by decide +kernel
theorem dX8_finish_29 : decode cX8_finish 29 = .ok (.istore 6, 2) := by decide +kernel
theorem dX8_finish_31 : decode cX8_finish 31 = .ok (.iload 6, 2) := by decide +kernel
theorem dX8_finish_33 : decode cX8_finish 33 = .ok (.sipush 150, 3) := by decide +kernel
theorem dX8_finish_36 : decode cX8_finish 36 = .ok (.if_icmp .ge 27, 3) := by decide +kernel
theorem dX8_finish_39 : decode cX8_finish 39 = .ok (.aload_n 0, 1) := by decide +kernel
theorem dX8_finish_40 : decode cX8_finish 40 = .ok (.getfield 41, 3) := by decide +kernel
theorem dX8_finish_43 : decode cX8_finish 43 = .ok (.iload 6, 2) := by decide +kernel
theorem dX8_finish_45 : decode cX8_finish 45 = .ok (.iload 6, 2) := by decide +kernel
theorem dX8_finish_47 : decode cX8_finish 47 = .ok (.iload_n 1, 1) := by decide +kernel
theorem dX8_finish_48 : decode cX8_finish 48 = .ok (.if_icmp .ne 7, 3) := by decide +kernel
theorem dX8_finish_51 : decode cX8_finish 51 = .ok (.iconst 1, 1) := by decide +kernel
theorem dX8_finish_52 : decode cX8_finish 52 = .ok (.goto 4, 3) := by decide +kernel
theorem dX8_finish_55 : decode cX8_finish 55 = .ok (.iconst 0, 1) := by decide +kernel
theorem dX8_finish_56 : decode cX8_finish 56 = .ok (.bastore, 1) := by decide +kernel
theorem dX8_finish_57 : decode cX8_finish 57 = .ok (.iinc 6 1, 3) := by decide +kernel
theorem dX8_finish_60 : decode cX8_finish 60 = .ok (.goto (-29), 3) := by decide +kernel
theorem dX8_finish_63 : decode cX8_finish 63 = .ok (.iload_n 2, 1) := by decide +kernel
theorem dX8_finish_64 : decode cX8_finish 64 = .ok (.istore 6, 2) := by decide +kernel
theorem dX8_finish_66 : decode cX8_finish 66 = .ok (.iload 6, 2) := by decide +kernel
theorem dX8_finish_68 : decode cX8_finish 68 = .ok (.iload 5, 2) := by decide +kernel
theorem dX8_finish_70 : decode cX8_finish 70 = .ok (.iadd, 1) := by decide +kernel
theorem dX8_finish_71 : decode cX8_finish 71 = .ok (.bipush 60, 2) := by decide +kernel
theorem dX8_finish_73 : decode cX8_finish 73 = .ok (.if_icmp .gt 181, 3) := by decide +kernel
theorem dX8_finish_76 : decode cX8_finish 76 = .ok (.aload_n 0, 1) := by decide +kernel
theorem dX8_finish_77 : decode cX8_finish 77 = .ok (.getfield 41, 3) := by decide +kernel
theorem dX8_finish_80 : decode cX8_finish 80 = .ok (.iload 4, 2) := by decide +kernel
theorem dX8_finish_82 : decode cX8_finish 82 = .ok (.baload, 1) := by decide +kernel
theorem dX8_finish_83 : decode cX8_finish 83 = .ok (.ifCond .eq 25, 3) := by decide +kernel
theorem dX8_finish_86 : decode cX8_finish 86 = .ok (.aload_n 0, 1) := by decide +kernel
theorem dX8_finish_87 : decode cX8_finish 87 = .ok (.iload 4, 2) := by decide +kernel
theorem dX8_finish_89 : decode cX8_finish 89 = .ok (.iload 6, 2) := by decide +kernel
theorem dX8_finish_91 : decode cX8_finish 91 = .ok (.iload 6, 2) := by decide +kernel
theorem dX8_finish_93 : decode cX8_finish 93 = .ok (.iload 5, 2) := by decide +kernel
theorem dX8_finish_95 : decode cX8_finish 95 = .ok (.iadd, 1) := by decide +kernel
theorem dX8_finish_96 : decode cX8_finish 96 = .ok (.invokevirtual 190, 3) := by decide +kernel
theorem dX8_finish_99 : decode cX8_finish 99 = .ok (.ifCond .eq 9, 3) := by decide +kernel
theorem dX8_finish_102 : decode cX8_finish 102 = .ok (.iload 6, 2) := by decide +kernel
theorem dX8_finish_104 : decode cX8_finish 104 = .ok (.iload 5, 2) := by decide +kernel
theorem dX8_finish_106 : decode cX8_finish 106 = .ok (.iadd, 1) := by decide +kernel
theorem dX8_finish_107 : decode cX8_finish 107 = .ok (.ireturn, 1) := by decide +kernel
theorem dX8_finish_108 : decode cX8_finish 108 = .ok (.iconst 0, 1) := by decide +kernel
theorem dX8_finish_109 : decode cX8_finish 109 = .ok (.istore 7, 2) := by decide +kernel
theorem dX8_finish_111 : decode cX8_finish 111 = .ok (.iload 7, 2) := by decide +kernel
theorem dX8_finish_113 : decode cX8_finish 113 = .ok (.sipush 150, 3) := by decide +kernel
theorem dX8_finish_116 : decode cX8_finish 116 = .ok (.if_icmp .ge 101, 3) := by decide +kernel
theorem dX8_finish_119 : decode cX8_finish 119 = .ok (.aload_n 0, 1) := by decide +kernel
theorem dX8_finish_120 : decode cX8_finish 120 = .ok (.getfield 41, 3) := by decide +kernel
theorem dX8_finish_123 : decode cX8_finish 123 = .ok (.iload 7, 2) := by decide +kernel
theorem dX8_finish_125 : decode cX8_finish 125 = .ok (.baload, 1) := by decide +kernel
theorem dX8_finish_126 : decode cX8_finish 126 = .ok (.istore 8, 2) := by decide +kernel
theorem dX8_finish_128 : decode cX8_finish 128 = .ok (.iconst 0, 1) := by decide +kernel
theorem dX8_finish_129 : decode cX8_finish 129 = .ok (.istore 9, 2) := by decide +kernel
theorem dX8_finish_131 : decode cX8_finish 131 = .ok (.iload 9, 2) := by decide +kernel
theorem dX8_finish_133 : decode cX8_finish 133 = .ok (.iconst 4, 1) := by decide +kernel
theorem dX8_finish_134 : decode cX8_finish 134 = .ok (.if_icmp .ge 41, 3) := by decide +kernel
theorem dX8_finish_137 : decode cX8_finish 137 = .ok (.iload 8, 2) := by decide +kernel
theorem dX8_finish_139 : decode cX8_finish 139 = .ok (.ifCond .ne 23, 3) := by decide +kernel
theorem dX8_finish_142 : decode cX8_finish 142 = .ok (.aload_n 0, 1) := by decide +kernel
theorem dX8_finish_143 : decode cX8_finish 143 = .ok (.getfield 41, 3) := by decide +kernel
theorem dX8_finish_146 : decode cX8_finish 146 = .ok (.aload_n 0, 1) := by decide +kernel
theorem dX8_finish_147 : decode cX8_finish 147 = .ok (.getfield 13, 3) := by decide +kernel
theorem dX8_finish_150 : decode cX8_finish 150 = .ok (.iconst 4, 1) := by decide +kernel
theorem dX8_finish_151 : decode cX8_finish 151 = .ok (.iload 7, 2) := by decide +kernel
theorem dX8_finish_153 : decode cX8_finish 153 = .ok (.imul, 1) := by decide +kernel
theorem dX8_finish_154 : decode cX8_finish 154 = .ok (.iload 9, 2) := by decide +kernel
theorem dX8_finish_156 : decode cX8_finish 156 = .ok (.iadd, 1) := by decide +kernel
theorem dX8_finish_157 : decode cX8_finish 157 = .ok (.iaload, 1) := by decide +kernel
theorem dX8_finish_158 : decode cX8_finish 158 = .ok (.baload, 1) := by decide +kernel
theorem dX8_finish_159 : decode cX8_finish 159 = .ok (.ifCond .eq 7, 3) := by decide +kernel
theorem dX8_finish_162 : decode cX8_finish 162 = .ok (.iconst 1, 1) := by decide +kernel
theorem dX8_finish_163 : decode cX8_finish 163 = .ok (.goto 4, 3) := by decide +kernel
theorem dX8_finish_166 : decode cX8_finish 166 = .ok (.iconst 0, 1) := by decide +kernel
theorem dX8_finish_167 : decode cX8_finish 167 = .ok (.istore 8, 2) := by decide +kernel
theorem dX8_finish_169 : decode cX8_finish 169 = .ok (.iinc 9 1, 3) := by decide +kernel
theorem dX8_finish_172 : decode cX8_finish 172 = .ok (.goto (-41), 3) := by decide +kernel
theorem dX8_finish_175 : decode cX8_finish 175 = .ok (.aload_n 0, 1) := by decide +kernel
theorem dX8_finish_176 : decode cX8_finish 176 = .ok (.getfield 44, 3) := by decide +kernel
theorem dX8_finish_179 : decode cX8_finish 179 = .ok (.iload 7, 2) := by decide +kernel
theorem dX8_finish_181 : decode cX8_finish 181 = .ok (.iload 8, 2) := by decide +kernel
theorem dX8_finish_183 : decode cX8_finish 183 = .ok (.ifCond .eq 26, 3) := by decide +kernel
theorem dX8_finish_186 : decode cX8_finish 186 = .ok (.aload_n 0, 1) := by decide +kernel
theorem dX8_finish_187 : decode cX8_finish 187 = .ok (.getfield 32, 3) := by decide +kernel
theorem dX8_finish_190 : decode cX8_finish 190 = .ok (.sipush 150, 3) := by decide +kernel
theorem dX8_finish_193 : decode cX8_finish 193 = .ok (.iload 6, 2) := by decide +kernel
theorem dX8_finish_195 : decode cX8_finish 195 = .ok (.iconst 1, 1) := by decide +kernel
theorem dX8_finish_196 : decode cX8_finish 196 = .ok (.iadd, 1) := by decide +kernel
theorem dX8_finish_197 : decode cX8_finish 197 = .ok (.imul, 1) := by decide +kernel
theorem dX8_finish_198 : decode cX8_finish 198 = .ok (.iload 7, 2) := by decide +kernel
theorem dX8_finish_200 : decode cX8_finish 200 = .ok (.iadd, 1) := by decide +kernel
theorem dX8_finish_201 : decode cX8_finish 201 = .ok (.baload, 1) := by decide +kernel
theorem dX8_finish_202 : decode cX8_finish 202 = .ok (.ifCond .eq 7, 3) := by decide +kernel
theorem dX8_finish_205 : decode cX8_finish 205 = .ok (.iconst 1, 1) := by decide +kernel
theorem dX8_finish_206 : decode cX8_finish 206 = .ok (.goto 4, 3) := by decide +kernel
theorem dX8_finish_209 : decode cX8_finish 209 = .ok (.iconst 0, 1) := by decide +kernel
theorem dX8_finish_210 : decode cX8_finish 210 = .ok (.bastore, 1) := by decide +kernel
theorem dX8_finish_211 : decode cX8_finish 211 = .ok (.iinc 7 1, 3) := by decide +kernel
theorem dX8_finish_214 : decode cX8_finish 214 = .ok (.goto (-103), 3) := by decide +kernel
theorem dX8_finish_217 : decode cX8_finish 217 = .ok (.iconst 0, 1) := by decide +kernel
theorem dX8_finish_218 : decode cX8_finish 218 = .ok (.istore 7, 2) := by decide +kernel
theorem dX8_finish_220 : decode cX8_finish 220 = .ok (.iload 7, 2) := by decide +kernel
theorem dX8_finish_222 : decode cX8_finish 222 = .ok (.sipush 150, 3) := by decide +kernel
theorem dX8_finish_225 : decode cX8_finish 225 = .ok (.if_icmp .ge 23, 3) := by decide +kernel
theorem dX8_finish_228 : decode cX8_finish 228 = .ok (.aload_n 0, 1) := by decide +kernel
theorem dX8_finish_229 : decode cX8_finish 229 = .ok (.getfield 41, 3) := by decide +kernel
theorem dX8_finish_232 : decode cX8_finish 232 = .ok (.iload 7, 2) := by decide +kernel
theorem dX8_finish_234 : decode cX8_finish 234 = .ok (.aload_n 0, 1) := by decide +kernel
theorem dX8_finish_235 : decode cX8_finish 235 = .ok (.getfield 44, 3) := by decide +kernel
theorem dX8_finish_238 : decode cX8_finish 238 = .ok (.iload 7, 2) := by decide +kernel
theorem dX8_finish_240 : decode cX8_finish 240 = .ok (.baload, 1) := by decide +kernel
theorem dX8_finish_241 : decode cX8_finish 241 = .ok (.bastore, 1) := by decide +kernel
theorem dX8_finish_242 : decode cX8_finish 242 = .ok (.iinc 7 1, 3) := by decide +kernel
theorem dX8_finish_245 : decode cX8_finish 245 = .ok (.goto (-25), 3) := by decide +kernel
theorem dX8_finish_248 : decode cX8_finish 248 = .ok (.iinc 6 1, 3) := by decide +kernel
theorem dX8_finish_251 : decode cX8_finish 251 = .ok (.goto (-185), 3) := by decide +kernel
theorem dX8_finish_254 : decode cX8_finish 254 = .ok (.bipush (-9), 2) := by decide +kernel
theorem dX8_finish_256 : decode cX8_finish 256 = .ok (.ireturn, 1) := by decide +kernel
def bs_X8_requestFinish : List (List Cond) := [[.code yX8_requestFinish cX8_requestFinish 3 (some .int)], wsX8_requestFinish_r1, wsX8_requestFinish_r2, wsX8_requestFinish_r3, wsX80]
theorem bi_X8_requestFinish : ∀ w ∈ bs_X8_requestFinish.flatten, w ∈ wsX8_requestFinish := by
  have h : bs_X8_requestFinish.flatten = wsX8_requestFinish := by simp only [bs_X8_requestFinish, wsX8_requestFinish, List.flatten_cons, List.flatten_nil, List.append_assoc, List.append_nil, List.nil_append, List.cons_append]
  intro w hw; rw [h] at hw; exact hw
set_option maxRecDepth 20000 in
theorem ggX8_requestFinish_X8_isRequest : GoodIn wsX8_requestFinish wsX8_isRequest := goodIn_bb bs_X8_requestFinish bi_X8_requestFinish _ [(1, 5), (1, 0), (1, 6), (1, 7), (1, 4), (1, 8), (4, 0), (4, 1), (4, 2), (4, 3), (4, 4), (4, 5), (4, 6), (4, 7), (4, 8), (4, 9), (4, 10), (4, 11), (4, 12), (4, 13), (4, 14), (4, 15), (4, 16), (4, 17), (4, 18)] rfl (by decide +kernel)
set_option maxRecDepth 20000 in
theorem gX8_requestFinish_X8_isRequest : GoodIn wsX8_requestFinish (wsV RX8 171 RX8 yX8_isRequest wsX8_isRequest) := goodIn_app (goodIn_bb bs_X8_requestFinish bi_X8_requestFinish _ [(1, 1), (1, 2), (1, 3), (1, 4)] rfl (by decide +kernel)) ggX8_requestFinish_X8_isRequest
set_option maxRecDepth 20000 in
theorem ggX8_requestFinish_X8_refused : GoodIn wsX8_requestFinish wsX8_refused := goodIn_bb bs_X8_requestFinish bi_X8_requestFinish _ [(1, 12), (1, 13), (4, 0), (4, 1), (4, 2), (4, 3), (4, 4), (4, 5), (4, 6), (4, 7), (4, 8), (4, 9), (4, 10), (4, 11), (4, 12), (4, 13), (4, 14), (4, 15), (4, 16), (4, 17), (4, 18)] rfl (by decide +kernel)
set_option maxRecDepth 20000 in
theorem gX8_requestFinish_X8_refused : GoodIn wsX8_requestFinish (wsV RX8 88 RX8 yX8_refused wsX8_refused) := goodIn_app (goodIn_bb bs_X8_requestFinish bi_X8_requestFinish _ [(1, 9), (1, 10), (1, 11), (1, 4)] rfl (by decide +kernel)) ggX8_requestFinish_X8_refused
set_option maxRecDepth 20000 in
theorem ggX8_requestFinish_X8_layDark : GoodIn wsX8_requestFinish wsX8_layDark := goodIn_bb bs_X8_requestFinish bi_X8_requestFinish _ [(1, 17), (1, 18), (1, 0), (1, 19), (1, 20), (1, 21), (1, 4), (1, 22), (1, 23), (2, 0), (2, 1), (2, 2), (2, 3), (2, 4), (2, 5), (2, 6), (2, 7), (2, 8), (2, 9), (2, 10), (2, 11), (2, 12), (2, 13), (2, 14), (4, 0), (4, 1), (4, 2), (4, 3), (4, 4), (4, 5), (4, 6), (4, 7), (4, 8), (4, 9), (4, 10), (4, 11), (4, 12), (4, 13), (4, 14), (4, 15), (4, 16), (4, 17), (4, 18)] rfl (by decide +kernel)
set_option maxRecDepth 20000 in
theorem gX8_requestFinish_X8_layDark : GoodIn wsX8_requestFinish (wsV RX8 174 RX8 yX8_layDark wsX8_layDark) := goodIn_app (goodIn_bb bs_X8_requestFinish bi_X8_requestFinish _ [(1, 14), (1, 15), (1, 16), (1, 4)] rfl (by decide +kernel)) ggX8_requestFinish_X8_layDark
set_option maxRecDepth 20000 in
theorem ggX8_requestFinish_X8_finish : GoodIn wsX8_requestFinish wsX8_finish := goodIn_bb bs_X8_requestFinish bi_X8_requestFinish _ [(2, 18), (1, 0), (2, 19), (2, 20), (2, 21), (1, 18), (2, 22), (2, 23), (3, 0), (1, 4), (3, 1), (4, 0), (4, 1), (4, 2), (4, 3), (4, 4), (4, 5), (4, 6), (4, 7), (4, 8), (4, 9), (4, 10), (4, 11), (4, 12), (4, 13), (4, 14), (4, 15), (4, 16), (4, 17), (4, 18)] rfl (by decide +kernel)
set_option maxRecDepth 20000 in
theorem gX8_requestFinish_X8_finish : GoodIn wsX8_requestFinish (wsV RX8 198 RX8 yX8_finish wsX8_finish) := goodIn_app (goodIn_bb bs_X8_requestFinish bi_X8_requestFinish _ [(2, 15), (2, 16), (2, 17), (1, 4)] rfl (by decide +kernel)) ggX8_requestFinish_X8_finish
theorem dX8_requestFinish_0 : decode cX8_requestFinish 0 = .ok (.aload_n 0, 1) := by decide +kernel
theorem dX8_requestFinish_1 : decode cX8_requestFinish 1 = .ok (.aload_n 0, 1) := by decide +kernel
theorem dX8_requestFinish_2 : decode cX8_requestFinish 2 = .ok (.iload_n 1, 1) := by decide +kernel
theorem dX8_requestFinish_3 : decode cX8_requestFinish 3 = .ok (.invokevirtual 171, 3) := by decide +kernel
theorem dX8_requestFinish_6 : decode cX8_requestFinish 6 = .ok (.ifCond .ne 7, 3) := by decide +kernel
theorem dX8_requestFinish_9 : decode cX8_requestFinish 9 = .ok (.iconst 1, 1) := by decide +kernel
theorem dX8_requestFinish_10 : decode cX8_requestFinish 10 = .ok (.goto 19, 3) := by decide +kernel
theorem dX8_requestFinish_13 : decode cX8_requestFinish 13 = .ok (.aload_n 0, 1) := by decide +kernel
theorem dX8_requestFinish_14 : decode cX8_requestFinish 14 = .ok (.getfield 16, 3) := by decide +kernel
theorem dX8_requestFinish_17 : decode cX8_requestFinish 17 = .ok (.bipush 23, 2) := by decide +kernel
theorem dX8_requestFinish_19 : decode cX8_requestFinish 19 = .ok (.iaload, 1) := by decide +kernel
theorem dX8_requestFinish_20 : decode cX8_requestFinish 20 = .ok (.iconst 1, 1) := by decide +kernel
theorem dX8_requestFinish_21 : decode cX8_requestFinish 21 = .ok (.if_icmp .ne 7, 3) := by decide +kernel
theorem dX8_requestFinish_24 : decode cX8_requestFinish 24 = .ok (.iconst 2, 1) := by decide +kernel
theorem dX8_requestFinish_25 : decode cX8_requestFinish 25 = .ok (.goto 4, 3) := by decide +kernel
theorem dX8_requestFinish_28 : decode cX8_requestFinish 28 = .ok (.iconst 0, 1) := by decide +kernel
theorem dX8_requestFinish_29 : decode cX8_requestFinish 29 = .ok (.invokevirtual 88, 3) := by decide +kernel
theorem dX8_requestFinish_32 : decode cX8_requestFinish 32 = .ok (.ifCond .eq 5, 3) := by decide +kernel
theorem dX8_requestFinish_35 : decode cX8_requestFinish 35 = .ok (.iconst 0, 1) := by decide +kernel
theorem dX8_requestFinish_36 : decode cX8_requestFinish 36 = .ok (.ireturn, 1) := by decide +kernel
theorem dX8_requestFinish_37 : decode cX8_requestFinish 37 = .ok (.aload_n 0, 1) := by decide +kernel
theorem dX8_requestFinish_38 : decode cX8_requestFinish 38 = .ok (.bipush 60, 2) := by decide +kernel
theorem dX8_requestFinish_40 : decode cX8_requestFinish 40 = .ok (.invokevirtual 174, 3) := by decide +kernel
theorem dX8_requestFinish_43 : decode cX8_requestFinish 43 = .ok (.aload_n 0, 1) := by decide +kernel
theorem dX8_requestFinish_44 : decode cX8_requestFinish 44 = .ok (.aload_n 0, 1) := by decide +kernel
theorem dX8_requestFinish_45 : decode cX8_requestFinish 45 = .ok (.getfield 16, 3) := by decide +kernel
theorem dX8_requestFinish_48 : decode cX8_requestFinish 48 = .ok (.bipush 22, 2) := by decide +kernel
theorem dX8_requestFinish_50 : decode cX8_requestFinish 50 = .ok (.iaload, 1) := by decide +kernel
theorem dX8_requestFinish_51 : decode cX8_requestFinish 51 = .ok (.iconst 0, 1) := by decide +kernel
theorem dX8_requestFinish_52 : decode cX8_requestFinish 52 = .ok (.iload_n 1, 1) := by decide +kernel
theorem dX8_requestFinish_53 : decode cX8_requestFinish 53 = .ok (.invokevirtual 198, 3) := by decide +kernel
theorem dX8_requestFinish_56 : decode cX8_requestFinish 56 = .ok (.istore_n 2, 1) := by decide +kernel
theorem dX8_requestFinish_57 : decode cX8_requestFinish 57 = .ok (.iload_n 2, 1) := by decide +kernel
theorem dX8_requestFinish_58 : decode cX8_requestFinish 58 = .ok (.bipush (-9), 2) := by decide +kernel
theorem dX8_requestFinish_60 : decode cX8_requestFinish 60 = .ok (.if_icmp .ne 8, 3) := by decide +kernel
theorem dX8_requestFinish_63 : decode cX8_requestFinish 63 = .ok (.bipush (-9), 2) := by decide +kernel
theorem dX8_requestFinish_65 : decode cX8_requestFinish 65 = .ok (.goto 12, 3) := by decide +kernel
theorem dX8_requestFinish_68 : decode cX8_requestFinish 68 = .ok (.aload_n 0, 1) := by decide +kernel
theorem dX8_requestFinish_69 : decode cX8_requestFinish 69 = .ok (.getfield 16, 3) := by decide +kernel
theorem dX8_requestFinish_72 : decode cX8_requestFinish 72 = .ok (.bipush 21, 2) := by decide +kernel
theorem dX8_requestFinish_74 : decode cX8_requestFinish 74 = .ok (.iaload, 1) := by decide +kernel
theorem dX8_requestFinish_75 : decode cX8_requestFinish 75 = .ok (.iload_n 2, 1) := by decide +kernel
theorem dX8_requestFinish_76 : decode cX8_requestFinish 76 = .ok (.iadd, 1) := by decide +kernel
theorem dX8_requestFinish_77 : decode cX8_requestFinish 77 = .ok (.ireturn, 1) := by decide +kernel
def bs_X8_valueOfOrder : List (List Cond) := [[.code yX8_valueOfOrder cX8_valueOfOrder 6 (some .int)], [.fieldLink RX8 16 "SlewPlannerModel" "now" "[I", .fieldLink RX8 50 "SlewPlannerModel" "order" "[I", .methodLink RX8 198 yX8_finish, .instanceMethod yX8_finish, .selects RX8 yX8_finish yX8_finish, .initialized RX8, .code yX8_finish cX8_finish 10 (some .int), .fieldLink RX8 41 "SlewPlannerModel" "here" "[Z", .fieldLink RX8 13 "SlewPlannerModel" "near" "[I", .fieldLink RX8 44 "SlewPlannerModel" "then" "[Z", .fieldLink RX8 32 "SlewPlannerModel" "isDark" "[Z", .methodLink RX8 190 yX8_staysDark, .instanceMethod yX8_staysDark, .selects RX8 yX8_staysDark yX8_staysDark, .code yX8_staysDark cX8_staysDark 6 (some .boolean)], wsX80]
theorem bi_X8_valueOfOrder : ∀ w ∈ bs_X8_valueOfOrder.flatten, w ∈ wsX8_valueOfOrder := by
  have h : bs_X8_valueOfOrder.flatten = wsX8_valueOfOrder := by simp only [bs_X8_valueOfOrder, wsX8_valueOfOrder, List.flatten_cons, List.flatten_nil, List.append_assoc, List.append_nil, List.nil_append, List.cons_append]
  intro w hw; rw [h] at hw; exact hw
set_option maxRecDepth 20000 in
theorem ggX8_valueOfOrder_X8_finish : GoodIn wsX8_valueOfOrder wsX8_finish := goodIn_bb bs_X8_valueOfOrder bi_X8_valueOfOrder _ [(1, 6), (1, 0), (1, 7), (1, 8), (1, 9), (1, 10), (1, 11), (1, 12), (1, 13), (1, 5), (1, 14), (2, 0), (2, 1), (2, 2), (2, 3), (2, 4), (2, 5), (2, 6), (2, 7), (2, 8), (2, 9), (2, 10), (2, 11), (2, 12), (2, 13), (2, 14), (2, 15), (2, 16), (2, 17), (2, 18)] rfl (by decide +kernel)
set_option maxRecDepth 20000 in
theorem gX8_valueOfOrder_X8_finish : GoodIn wsX8_valueOfOrder (wsV RX8 198 RX8 yX8_finish wsX8_finish) := goodIn_app (goodIn_bb bs_X8_valueOfOrder bi_X8_valueOfOrder _ [(1, 2), (1, 3), (1, 4), (1, 5)] rfl (by decide +kernel)) ggX8_valueOfOrder_X8_finish
theorem dX8_valueOfOrder_0 : decode cX8_valueOfOrder 0 = .ok (.aload_n 0, 1) := by decide +kernel
theorem dX8_valueOfOrder_1 : decode cX8_valueOfOrder 1 = .ok (.getfield 16, 3) := by decide +kernel
theorem dX8_valueOfOrder_4 : decode cX8_valueOfOrder 4 = .ok (.bipush 22, 2) := by decide +kernel
theorem dX8_valueOfOrder_6 : decode cX8_valueOfOrder 6 = .ok (.iaload, 1) := by decide +kernel
theorem dX8_valueOfOrder_7 : decode cX8_valueOfOrder 7 = .ok (.istore_n 1, 1) := by decide +kernel
theorem dX8_valueOfOrder_8 : decode cX8_valueOfOrder 8 = .ok (.iconst 0, 1) := by decide +kernel
theorem dX8_valueOfOrder_9 : decode cX8_valueOfOrder 9 = .ok (.istore_n 2, 1) := by decide +kernel
theorem dX8_valueOfOrder_10 : decode cX8_valueOfOrder 10 = .ok (.iconst 0, 1) := by decide +kernel
theorem dX8_valueOfOrder_11 : decode cX8_valueOfOrder 11 = .ok (.istore_n 3, 1) := by decide +kernel
theorem dX8_valueOfOrder_12 : decode cX8_valueOfOrder 12 = .ok (.iconst 0, 1) := by decide +kernel
theorem dX8_valueOfOrder_13 : decode cX8_valueOfOrder 13 = .ok (.istore 4, 2) := by decide +kernel
theorem dX8_valueOfOrder_15 : decode cX8_valueOfOrder 15 = .ok (.iload 4, 2) := by decide +kernel
theorem dX8_valueOfOrder_17 : decode cX8_valueOfOrder 17 = .ok (.aload_n 0, 1) := by decide +kernel
theorem dX8_valueOfOrder_18 : decode cX8_valueOfOrder 18 = .ok (.getfield 16, 3) := by decide +kernel
theorem dX8_valueOfOrder_21 : decode cX8_valueOfOrder 21 = .ok (.bipush 24, 2) := by decide +kernel
theorem dX8_valueOfOrder_23 : decode cX8_valueOfOrder 23 = .ok (.iaload, 1) := by decide +kernel
theorem dX8_valueOfOrder_24 : decode cX8_valueOfOrder 24 = .ok (.if_icmp .ge 74, 3) := by decide +kernel
theorem dX8_valueOfOrder_27 : decode cX8_valueOfOrder 27 = .ok (.aload_n 0, 1) := by decide +kernel
theorem dX8_valueOfOrder_28 : decode cX8_valueOfOrder 28 = .ok (.iload_n 1, 1) := by decide +kernel
theorem dX8_valueOfOrder_29 : decode cX8_valueOfOrder 29 = .ok (.iload_n 2, 1) := by decide +kernel
theorem dX8_valueOfOrder_30 : decode cX8_valueOfOrder 30 = .ok (.aload_n 0, 1) := by decide +kernel
theorem dX8_valueOfOrder_31 : decode cX8_valueOfOrder 31 = .ok (.getfield 50, 3) := by decide +kernel
theorem dX8_valueOfOrder_34 : decode cX8_valueOfOrder 34 = .ok (.iload 4, 2) := by decide +kernel
theorem dX8_valueOfOrder_36 : decode cX8_valueOfOrder 36 = .ok (.iaload, 1) := by decide +kernel
theorem dX8_valueOfOrder_37 : decode cX8_valueOfOrder 37 = .ok (.invokevirtual 198, 3) := by decide +kernel
theorem dX8_valueOfOrder_40 : decode cX8_valueOfOrder 40 = .ok (.istore 5, 2) := by decide +kernel
theorem dX8_valueOfOrder_42 : decode cX8_valueOfOrder 42 = .ok (.iload 5, 2) := by decide +kernel
theorem dX8_valueOfOrder_44 : decode cX8_valueOfOrder 44 = .ok (.bipush (-9), 2) := by decide +kernel
theorem dX8_valueOfOrder_46 : decode cX8_valueOfOrder 46 = .ok (.if_icmp .eq 46, 3) := by decide +kernel
theorem dX8_valueOfOrder_49 : decode cX8_valueOfOrder 49 = .ok (.aload_n 0, 1) := by decide +kernel
theorem dX8_valueOfOrder_50 : decode cX8_valueOfOrder 50 = .ok (.getfield 16, 3) := by decide +kernel
theorem dX8_valueOfOrder_53 : decode cX8_valueOfOrder 53 = .ok (.bipush 25, 2) := by decide +kernel
theorem dX8_valueOfOrder_55 : decode cX8_valueOfOrder 55 = .ok (.iconst 3, 1) := by decide +kernel
theorem dX8_valueOfOrder_56 : decode cX8_valueOfOrder 56 = .ok (.aload_n 0, 1) := by decide +kernel
theorem dX8_valueOfOrder_57 : decode cX8_valueOfOrder 57 = .ok (.getfield 50, 3) := by decide +kernel
theorem dX8_valueOfOrder_60 : decode cX8_valueOfOrder 60 = .ok (.iload 4, 2) := by decide +kernel
theorem dX8_valueOfOrder_62 : decode cX8_valueOfOrder 62 = .ok (.iaload, 1) := by decide +kernel
theorem dX8_valueOfOrder_63 : decode cX8_valueOfOrder 63 = .ok (.imul, 1) := by decide +kernel
theorem dX8_valueOfOrder_64 : decode cX8_valueOfOrder 64 = .ok (.iadd, 1) := by decide +kernel
theorem dX8_valueOfOrder_65 : decode cX8_valueOfOrder 65 = .ok (.iaload, 1) := by decide +kernel
theorem dX8_valueOfOrder_66 : decode cX8_valueOfOrder 66 = .ok (.istore_n 1, 1) := by decide +kernel
theorem dX8_valueOfOrder_67 : decode cX8_valueOfOrder 67 = .ok (.iload 5, 2) := by decide +kernel
theorem dX8_valueOfOrder_69 : decode cX8_valueOfOrder 69 = .ok (.istore_n 2, 1) := by decide +kernel
theorem dX8_valueOfOrder_70 : decode cX8_valueOfOrder 70 = .ok (.iload_n 3, 1) := by decide +kernel
theorem dX8_valueOfOrder_71 : decode cX8_valueOfOrder 71 = .ok (.aload_n 0, 1) := by decide +kernel
theorem dX8_valueOfOrder_72 : decode cX8_valueOfOrder 72 = .ok (.getfield 16, 3) := by decide +kernel
theorem dX8_valueOfOrder_75 : decode cX8_valueOfOrder 75 = .ok (.bipush 25, 2) := by decide +kernel
theorem dX8_valueOfOrder_77 : decode cX8_valueOfOrder 77 = .ok (.iconst 3, 1) := by decide +kernel
theorem dX8_valueOfOrder_78 : decode cX8_valueOfOrder 78 = .ok (.aload_n 0, 1) := by decide +kernel
theorem dX8_valueOfOrder_79 : decode cX8_valueOfOrder 79 = .ok (.getfield 50, 3) := by decide +kernel
theorem dX8_valueOfOrder_82 : decode cX8_valueOfOrder 82 = .ok (.iload 4, 2) := by decide +kernel
theorem dX8_valueOfOrder_84 : decode cX8_valueOfOrder 84 = .ok (.iaload, 1) := by decide +kernel
theorem dX8_valueOfOrder_85 : decode cX8_valueOfOrder 85 = .ok (.imul, 1) := by decide +kernel
theorem dX8_valueOfOrder_86 : decode cX8_valueOfOrder 86 = .ok (.iadd, 1) := by decide +kernel
theorem dX8_valueOfOrder_87 : decode cX8_valueOfOrder 87 = .ok (.iconst 2, 1) := by decide +kernel
theorem dX8_valueOfOrder_88 : decode cX8_valueOfOrder 88 = .ok (.iadd, 1) := by decide +kernel
theorem dX8_valueOfOrder_89 : decode cX8_valueOfOrder 89 = .ok (.iaload, 1) := by decide +kernel
theorem dX8_valueOfOrder_90 : decode cX8_valueOfOrder 90 = .ok (.iadd, 1) := by decide +kernel
theorem dX8_valueOfOrder_91 : decode cX8_valueOfOrder 91 = .ok (.istore_n 3, 1) := by decide +kernel
theorem dX8_valueOfOrder_92 : decode cX8_valueOfOrder 92 = .ok (.iinc 4 1, 3) := by decide +kernel
theorem dX8_valueOfOrder_95 : decode cX8_valueOfOrder 95 = .ok (.goto (-80), 3) := by decide +kernel
theorem dX8_valueOfOrder_98 : decode cX8_valueOfOrder 98 = .ok (.iload_n 3, 1) := by decide +kernel
theorem dX8_valueOfOrder_99 : decode cX8_valueOfOrder 99 = .ok (.ireturn, 1) := by decide +kernel
theorem dX8_isOrder_0 : decode cX8_isOrder 0 = .ok (.aload_n 0, 1) := by decide +kernel
theorem dX8_isOrder_1 : decode cX8_isOrder 1 = .ok (.getfield 16, 3) := by decide +kernel
theorem dX8_isOrder_4 : decode cX8_isOrder 4 = .ok (.bipush 24, 2) := by decide +kernel
theorem dX8_isOrder_6 : decode cX8_isOrder 6 = .ok (.iaload, 1) := by decide +kernel
theorem dX8_isOrder_7 : decode cX8_isOrder 7 = .ok (.istore_n 2, 1) := by decide +kernel
theorem dX8_isOrder_8 : decode cX8_isOrder 8 = .ok (.iload_n 1, 1) := by decide +kernel
theorem dX8_isOrder_9 : decode cX8_isOrder 9 = .ok (.istore_n 3, 1) := by decide +kernel
theorem dX8_isOrder_10 : decode cX8_isOrder 10 = .ok (.iconst 0, 1) := by decide +kernel
theorem dX8_isOrder_11 : decode cX8_isOrder 11 = .ok (.istore 4, 2) := by decide +kernel
theorem dX8_isOrder_13 : decode cX8_isOrder 13 = .ok (.iload_n 2, 1) := by decide +kernel
theorem dX8_isOrder_14 : decode cX8_isOrder 14 = .ok (.iconst 1, 1) := by decide +kernel
theorem dX8_isOrder_15 : decode cX8_isOrder 15 = .ok (.isub, 1) := by decide +kernel
theorem dX8_isOrder_16 : decode cX8_isOrder 16 = .ok (.istore 5, 2) := by decide +kernel
theorem dX8_isOrder_18 : decode cX8_isOrder 18 = .ok (.iload 5, 2) := by decide +kernel
theorem dX8_isOrder_20 : decode cX8_isOrder 20 = .ok (.ifCond .lt 37, 3) := by decide +kernel
theorem dX8_isOrder_23 : decode cX8_isOrder 23 = .ok (.aload_n 0, 1) := by decide +kernel
theorem dX8_isOrder_24 : decode cX8_isOrder 24 = .ok (.getfield 50, 3) := by decide +kernel
theorem dX8_isOrder_27 : decode cX8_isOrder 27 = .ok (.iload 5, 2) := by decide +kernel
theorem dX8_isOrder_29 : decode cX8_isOrder 29 = .ok (.iload_n 3, 1) := by decide +kernel
theorem dX8_isOrder_30 : decode cX8_isOrder 30 = .ok (.iload_n 2, 1) := by decide +kernel
theorem dX8_isOrder_31 : decode cX8_isOrder 31 = .ok (.irem, 1) := by decide +kernel
theorem dX8_isOrder_32 : decode cX8_isOrder 32 = .ok (.iastore, 1) := by decide +kernel
theorem dX8_isOrder_33 : decode cX8_isOrder 33 = .ok (.iload 4, 2) := by decide +kernel
theorem dX8_isOrder_35 : decode cX8_isOrder 35 = .ok (.iconst 1, 1) := by decide +kernel
theorem dX8_isOrder_36 : decode cX8_isOrder 36 = .ok (.aload_n 0, 1) := by decide +kernel
theorem dX8_isOrder_37 : decode cX8_isOrder 37 = .ok (.getfield 50, 3) := by decide +kernel
theorem dX8_isOrder_40 : decode cX8_isOrder 40 = .ok (.iload 5, 2) := by decide +kernel
theorem dX8_isOrder_42 : decode cX8_isOrder 42 = .ok (.iaload, 1) := by decide +kernel
theorem dX8_isOrder_43 : decode cX8_isOrder 43 = .ok (.ishl, 1) := by decide +kernel
theorem dX8_isOrder_44 : decode cX8_isOrder 44 = .ok (.ior, 1) := by decide +kernel
theorem dX8_isOrder_45 : decode cX8_isOrder 45 = .ok (.istore 4, 2) := by decide +kernel
theorem dX8_isOrder_47 : decode cX8_isOrder 47 = .ok (.iload_n 3, 1) := by decide +kernel
theorem dX8_isOrder_48 : decode cX8_isOrder 48 = .ok (.iload_n 2, 1) := by decide +kernel
theorem dX8_isOrder_49 : decode cX8_isOrder 49 = .ok (.idiv, 1) := by decide +kernel
theorem dX8_isOrder_50 : decode cX8_isOrder 50 = .ok (.istore_n 3, 1) := by decide +kernel
theorem dX8_isOrder_51 : decode cX8_isOrder 51 = .ok (.iinc 5 (-1), 3) := by decide +kernel
theorem dX8_isOrder_54 : decode cX8_isOrder 54 = .ok (.goto (-36), 3) := by decide +kernel
theorem dX8_isOrder_57 : decode cX8_isOrder 57 = .ok (.iload 4, 2) := by decide +kernel
theorem dX8_isOrder_59 : decode cX8_isOrder 59 = .ok (.iconst 1, 1) := by decide +kernel
theorem dX8_isOrder_60 : decode cX8_isOrder 60 = .ok (.iload_n 2, 1) := by decide +kernel
theorem dX8_isOrder_61 : decode cX8_isOrder 61 = .ok (.ishl, 1) := by decide +kernel
theorem dX8_isOrder_62 : decode cX8_isOrder 62 = .ok (.iconst 1, 1) := by decide +kernel
theorem dX8_isOrder_63 : decode cX8_isOrder 63 = .ok (.isub, 1) := by decide +kernel
theorem dX8_isOrder_64 : decode cX8_isOrder 64 = .ok (.if_icmp .ne 7, 3) := by decide +kernel
theorem dX8_isOrder_67 : decode cX8_isOrder 67 = .ok (.iconst 1, 1) := by decide +kernel
theorem dX8_isOrder_68 : decode cX8_isOrder 68 = .ok (.goto 4, 3) := by decide +kernel
theorem dX8_isOrder_71 : decode cX8_isOrder 71 = .ok (.iconst 0, 1) := by decide +kernel
theorem dX8_isOrder_72 : decode cX8_isOrder 72 = .ok (.ireturn, 1) := by decide +kernel
def bs_X8_findOrder : List (List Cond) := [[.code yX8_findOrder cX8_findOrder 6 none], wsX8_findOrder_r1, wsX8_findOrder_r2, wsX8_findOrder_r3, wsX80]
theorem bi_X8_findOrder : ∀ w ∈ bs_X8_findOrder.flatten, w ∈ wsX8_findOrder := by
  have h : bs_X8_findOrder.flatten = wsX8_findOrder := by simp only [bs_X8_findOrder, wsX8_findOrder, List.flatten_cons, List.flatten_nil, List.append_assoc, List.append_nil, List.nil_append, List.cons_append]
  intro w hw; rw [h] at hw; exact hw
set_option maxRecDepth 20000 in
theorem ggX8_findOrder_X8_layDark : GoodIn wsX8_findOrder wsX8_layDark := goodIn_bb bs_X8_findOrder bi_X8_findOrder _ [(1, 8), (1, 9), (1, 0), (1, 10), (1, 11), (1, 12), (1, 7), (1, 13), (1, 14), (1, 15), (1, 16), (1, 17), (1, 18), (1, 19), (1, 20), (1, 21), (1, 22), (1, 23), (2, 0), (2, 1), (2, 2), (2, 3), (2, 4), (2, 5), (4, 0), (4, 1), (4, 2), (4, 3), (4, 4), (4, 5), (4, 6), (4, 7), (4, 8), (4, 9), (4, 10), (4, 11), (4, 12), (4, 13), (4, 14), (4, 15), (4, 16), (4, 17), (4, 18)] rfl (by decide +kernel)
set_option maxRecDepth 20000 in
theorem gX8_findOrder_X8_layDark : GoodIn wsX8_findOrder (wsV RX8 174 RX8 yX8_layDark wsX8_layDark) := goodIn_app (goodIn_bb bs_X8_findOrder bi_X8_findOrder _ [(1, 4), (1, 5), (1, 6), (1, 7)] rfl (by decide +kernel)) ggX8_findOrder_X8_layDark
set_option maxRecDepth 20000 in
theorem ggX8_findOrder_X8_isOrder : GoodIn wsX8_findOrder wsX8_isOrder := goodIn_bb bs_X8_findOrder bi_X8_findOrder _ [(2, 9), (1, 0), (1, 3), (4, 0), (4, 1), (4, 2), (4, 3), (4, 4), (4, 5), (4, 6), (4, 7), (4, 8), (4, 9), (4, 10), (4, 11), (4, 12), (4, 13), (4, 14), (4, 15), (4, 16), (4, 17), (4, 18)] rfl (by decide +kernel)
set_option maxRecDepth 20000 in
theorem gX8_findOrder_X8_isOrder : GoodIn wsX8_findOrder (wsV RX8 208 RX8 yX8_isOrder wsX8_isOrder) := goodIn_app (goodIn_bb bs_X8_findOrder bi_X8_findOrder _ [(2, 6), (2, 7), (2, 8), (1, 7)] rfl (by decide +kernel)) ggX8_findOrder_X8_isOrder
set_option maxRecDepth 20000 in
theorem ggX8_findOrder_X8_valueOfOrder : GoodIn wsX8_findOrder wsX8_valueOfOrder := goodIn_bb bs_X8_findOrder bi_X8_findOrder _ [(2, 13), (1, 0), (1, 3), (2, 14), (2, 15), (2, 16), (1, 7), (2, 17), (2, 18), (2, 19), (2, 20), (1, 9), (2, 21), (2, 22), (2, 23), (3, 0), (4, 0), (4, 1), (4, 2), (4, 3), (4, 4), (4, 5), (4, 6), (4, 7), (4, 8), (4, 9), (4, 10), (4, 11), (4, 12), (4, 13), (4, 14), (4, 15), (4, 16), (4, 17), (4, 18)] rfl (by decide +kernel)
set_option maxRecDepth 20000 in
theorem gX8_findOrder_X8_valueOfOrder : GoodIn wsX8_findOrder (wsV RX8 211 RX8 yX8_valueOfOrder wsX8_valueOfOrder) := goodIn_app (goodIn_bb bs_X8_findOrder bi_X8_findOrder _ [(2, 10), (2, 11), (2, 12), (1, 7)] rfl (by decide +kernel)) ggX8_findOrder_X8_valueOfOrder
theorem dX8_findOrder_0 : decode cX8_findOrder 0 = .ok (.aload_n 0, 1) := by decide +kernel
theorem dX8_findOrder_1 : decode cX8_findOrder 1 = .ok (.bipush 60, 2) := by decide +kernel
theorem dX8_findOrder_3 : decode cX8_findOrder 3 = .ok (.invokevirtual 174, 3) := by decide +kernel
theorem dX8_findOrder_6 : decode cX8_findOrder 6 = .ok (.aload_n 0, 1) := by decide +kernel
theorem dX8_findOrder_7 : decode cX8_findOrder 7 = .ok (.getfield 16, 3) := by decide +kernel
theorem dX8_findOrder_10 : decode cX8_findOrder 10 = .ok (.bipush 24, 2) := by decide +kernel
theorem dX8_findOrder_12 : decode cX8_findOrder 12 = .ok (.iaload, 1) := by decide +kernel
theorem dX8_findOrder_13 : decode cX8_findOrder 13 = .ok (.istore_n 1, 1) := by decide +kernel
theorem dX8_findOrder_14 : decode cX8_findOrder 14 = .ok (.iconst 1, 1) := by decide +kernel
theorem dX8_findOrder_15 : decode cX8_findOrder 15 = .ok (.istore_n 2, 1) := by decide +kernel
theorem dX8_findOrder_16 : decode cX8_findOrder 16 = .ok (.iconst 0, 1) := by decide +kernel
theorem dX8_findOrder_17 : decode cX8_findOrder 17 = .ok (.istore_n 3, 1) := by decide +kernel
theorem dX8_findOrder_18 : decode cX8_findOrder 18 = .ok (.iload_n 3, 1) := by decide +kernel
theorem dX8_findOrder_19 : decode cX8_findOrder 19 = .ok (.iload_n 1, 1) := by decide +kernel
theorem dX8_findOrder_20 : decode cX8_findOrder 20 = .ok (.if_icmp .ge 13, 3) := by decide +kernel
theorem dX8_findOrder_23 : decode cX8_findOrder 23 = .ok (.iload_n 2, 1) := by decide +kernel
theorem dX8_findOrder_24 : decode cX8_findOrder 24 = .ok (.iload_n 1, 1) := by decide +kernel
theorem dX8_findOrder_25 : decode cX8_findOrder 25 = .ok (.imul, 1) := by decide +kernel
theorem dX8_findOrder_26 : decode cX8_findOrder 26 = .ok (.istore_n 2, 1) := by decide +kernel
theorem dX8_findOrder_27 : decode cX8_findOrder 27 = .ok (.iinc 3 1, 3) := by decide +kernel
theorem dX8_findOrder_30 : decode cX8_findOrder 30 = .ok (.goto (-12), 3) := by decide +kernel
theorem dX8_findOrder_33 : decode cX8_findOrder 33 = .ok (.aload_n 0, 1) := by decide +kernel
theorem dX8_findOrder_34 : decode cX8_findOrder 34 = .ok (.iload_n 1, 1) := by decide +kernel
theorem dX8_findOrder_35 : decode cX8_findOrder 35 = .ok (.ifCond .ne 7, 3) := by decide +kernel
theorem dX8_findOrder_38 : decode cX8_findOrder 38 = .ok (.iconst 0, 1) := by decide +kernel
theorem dX8_findOrder_39 : decode cX8_findOrder 39 = .ok (.goto 5, 3) := by decide +kernel
theorem dX8_findOrder_42 : decode cX8_findOrder 42 = .ok (.bipush (-9), 2) := by decide +kernel
theorem dX8_findOrder_44 : decode cX8_findOrder 44 = .ok (.putfield 202, 3) := by decide +kernel
theorem dX8_findOrder_47 : decode cX8_findOrder 47 = .ok (.aload_n 0, 1) := by decide +kernel
theorem dX8_findOrder_48 : decode cX8_findOrder 48 = .ok (.iconst 0, 1) := by decide +kernel
theorem dX8_findOrder_49 : decode cX8_findOrder 49 = .ok (.putfield 205, 3) := by decide +kernel
theorem dX8_findOrder_52 : decode cX8_findOrder 52 = .ok (.iconst 0, 1) := by decide +kernel
theorem dX8_findOrder_53 : decode cX8_findOrder 53 = .ok (.istore_n 3, 1) := by decide +kernel
theorem dX8_findOrder_54 : decode cX8_findOrder 54 = .ok (.iload_n 3, 1) := by decide +kernel
theorem dX8_findOrder_55 : decode cX8_findOrder 55 = .ok (.iload_n 2, 1) := by decide +kernel
theorem dX8_findOrder_56 : decode cX8_findOrder 56 = .ok (.if_icmp .ge 83, 3) := by decide +kernel
theorem dX8_findOrder_59 : decode cX8_findOrder 59 = .ok (.iload_n 1, 1) := by decide +kernel
theorem dX8_findOrder_60 : decode cX8_findOrder 60 = .ok (.ifCond .le 79, 3) := by decide +kernel
theorem dX8_findOrder_63 : decode cX8_findOrder 63 = .ok (.aload_n 0, 1) := by decide +kernel
theorem dX8_findOrder_64 : decode cX8_findOrder 64 = .ok (.iload_n 3, 1) := by decide +kernel
theorem dX8_findOrder_65 : decode cX8_findOrder 65 = .ok (.invokevirtual 208, 3) := by decide +kernel
theorem dX8_findOrder_68 : decode cX8_findOrder 68 = .ok (.ifCond .eq 65, 3) := by decide +kernel
theorem dX8_findOrder_71 : decode cX8_findOrder 71 = .ok (.aload_n 0, 1) := by decide +kernel
theorem dX8_findOrder_72 : decode cX8_findOrder 72 = .ok (.invokevirtual 211, 3) := by decide +kernel
theorem dX8_findOrder_75 : decode cX8_findOrder 75 = .ok (.istore 4, 2) := by decide +kernel
theorem dX8_findOrder_77 : decode cX8_findOrder 77 = .ok (.iload 4, 2) := by decide +kernel
theorem dX8_findOrder_79 : decode cX8_findOrder 79 = .ok (.aload_n 0, 1) := by decide +kernel
theorem dX8_findOrder_80 : decode cX8_findOrder 80 = .ok (.getfield 202, 3) := by decide +kernel
theorem dX8_findOrder_83 : decode cX8_findOrder 83 = .ok (.if_icmp .le 50, 3) := by decide +kernel
theorem dX8_findOrder_86 : decode cX8_findOrder 86 = .ok (.aload_n 0, 1) := by decide +kernel
theorem dX8_findOrder_87 : decode cX8_findOrder 87 = .ok (.iload 4, 2) := by decide +kernel
theorem dX8_findOrder_89 : decode cX8_findOrder 89 = .ok (.putfield 202, 3) := by decide +kernel
theorem dX8_findOrder_92 : decode cX8_findOrder 92 = .ok (.aload_n 0, 1) := by decide +kernel
theorem dX8_findOrder_93 : decode cX8_findOrder 93 = .ok (.iconst 0, 1) := by decide +kernel
theorem dX8_findOrder_94 : decode cX8_findOrder 94 = .ok (.putfield 205, 3) := by decide +kernel
theorem dX8_findOrder_97 : decode cX8_findOrder 97 = .ok (.iconst 0, 1) := by decide +kernel
theorem dX8_findOrder_98 : decode cX8_findOrder 98 = .ok (.istore 5, 2) := by decide +kernel
theorem dX8_findOrder_100 : decode cX8_findOrder 100 = .ok (.iload 5, 2) := by decide +kernel
theorem dX8_findOrder_102 : decode cX8_findOrder 102 = .ok (.iload_n 1, 1) := by decide +kernel
theorem dX8_findOrder_103 : decode cX8_findOrder 103 = .ok (.if_icmp .ge 30, 3) := by decide +kernel
theorem dX8_findOrder_106 : decode cX8_findOrder 106 = .ok (.aload_n 0, 1) := by decide +kernel
theorem dX8_findOrder_107 : decode cX8_findOrder 107 = .ok (.bipush 10, 2) := by decide +kernel
theorem dX8_findOrder_109 : decode cX8_findOrder 109 = .ok (.aload_n 0, 1) := by decide +kernel
theorem dX8_findOrder_110 : decode cX8_findOrder 110 = .ok (.getfield 205, 3) := by decide +kernel
theorem dX8_findOrder_113 : decode cX8_findOrder 113 = .ok (.imul, 1) := by decide +kernel
theorem dX8_findOrder_114 : decode cX8_findOrder 114 = .ok (.aload_n 0, 1) := by decide +kernel
theorem dX8_findOrder_115 : decode cX8_findOrder 115 = .ok (.getfield 50, 3) := by decide +kernel
theorem dX8_findOrder_118 : decode cX8_findOrder 118 = .ok (.iload 5, 2) := by decide +kernel
theorem dX8_findOrder_120 : decode cX8_findOrder 120 = .ok (.iaload, 1) := by decide +kernel
theorem dX8_findOrder_121 : decode cX8_findOrder 121 = .ok (.iadd, 1) := by decide +kernel
theorem dX8_findOrder_122 : decode cX8_findOrder 122 = .ok (.iconst 1, 1) := by decide +kernel
theorem dX8_findOrder_123 : decode cX8_findOrder 123 = .ok (.iadd, 1) := by decide +kernel
theorem dX8_findOrder_124 : decode cX8_findOrder 124 = .ok (.putfield 205, 3) := by decide +kernel
theorem dX8_findOrder_127 : decode cX8_findOrder 127 = .ok (.iinc 5 1, 3) := by decide +kernel
theorem dX8_findOrder_130 : decode cX8_findOrder 130 = .ok (.goto (-30), 3) := by decide +kernel
theorem dX8_findOrder_133 : decode cX8_findOrder 133 = .ok (.iinc 3 1, 3) := by decide +kernel
theorem dX8_findOrder_136 : decode cX8_findOrder 136 = .ok (.goto (-82), 3) := by decide +kernel
theorem dX8_findOrder_139 : decode cX8_findOrder 139 = .ok (.return_, 1) := by decide +kernel
def bs_X8_bestValue : List (List Cond) := [[.code yX8_bestValue cX8_bestValue 1 (some .int)], wsX8_bestValue_r1, wsX8_bestValue_r2, wsX8_bestValue_r3, wsX80]
theorem bi_X8_bestValue : ∀ w ∈ bs_X8_bestValue.flatten, w ∈ wsX8_bestValue := by
  have h : bs_X8_bestValue.flatten = wsX8_bestValue := by simp only [bs_X8_bestValue, wsX8_bestValue, List.flatten_cons, List.flatten_nil, List.append_assoc, List.append_nil, List.nil_append, List.cons_append]
  intro w hw; rw [h] at hw; exact hw
set_option maxRecDepth 20000 in
theorem ggX8_bestValue_X8_refused : GoodIn wsX8_bestValue wsX8_refused := goodIn_bb bs_X8_bestValue bi_X8_bestValue _ [(1, 6), (1, 7), (4, 0), (4, 1), (4, 2), (4, 3), (4, 4), (4, 5), (4, 6), (4, 7), (4, 8), (4, 9), (4, 10), (4, 11), (4, 12), (4, 13), (4, 14), (4, 15), (4, 16), (4, 17), (4, 18)] rfl (by decide +kernel)
set_option maxRecDepth 20000 in
theorem gX8_bestValue_X8_refused : GoodIn wsX8_bestValue (wsV RX8 88 RX8 yX8_refused wsX8_refused) := goodIn_app (goodIn_bb bs_X8_bestValue bi_X8_bestValue _ [(1, 2), (1, 3), (1, 4), (1, 5)] rfl (by decide +kernel)) ggX8_bestValue_X8_refused
set_option maxRecDepth 20000 in
theorem ggX8_bestValue_X8_findOrder : GoodIn wsX8_bestValue wsX8_findOrder := goodIn_bb bs_X8_bestValue bi_X8_bestValue _ [(1, 11), (1, 0), (1, 1), (1, 12), (1, 13), (1, 14), (1, 15), (1, 16), (1, 5), (1, 17), (1, 18), (1, 19), (1, 20), (1, 21), (1, 22), (1, 23), (2, 0), (2, 1), (2, 2), (2, 3), (2, 4), (2, 5), (2, 6), (2, 7), (2, 8), (2, 9), (2, 10), (2, 11), (2, 12), (2, 13), (2, 14), (2, 15), (2, 16), (2, 17), (2, 18), (2, 19), (2, 20), (2, 21), (2, 22), (2, 23), (3, 0), (3, 1), (3, 2), (3, 3), (3, 4), (3, 5), (3, 6), (3, 7), (3, 8), (3, 9), (4, 0), (4, 1), (4, 2), (4, 3), (4, 4), (4, 5), (4, 6), (4, 7), (4, 8), (4, 9), (4, 10), (4, 11), (4, 12), (4, 13), (4, 14), (4, 15), (4, 16), (4, 17), (4, 18)] rfl (by decide +kernel)
set_option maxRecDepth 20000 in
theorem gX8_bestValue_X8_findOrder : GoodIn wsX8_bestValue (wsV RX8 214 RX8 yX8_findOrder wsX8_findOrder) := goodIn_app (goodIn_bb bs_X8_bestValue bi_X8_bestValue _ [(1, 8), (1, 9), (1, 10), (1, 5)] rfl (by decide +kernel)) ggX8_bestValue_X8_findOrder
theorem dX8_bestValue_0 : decode cX8_bestValue 0 = .ok (.aload_n 0, 1) := by decide +kernel
theorem dX8_bestValue_1 : decode cX8_bestValue 1 = .ok (.aload_n 0, 1) := by decide +kernel
theorem dX8_bestValue_2 : decode cX8_bestValue 2 = .ok (.getfield 16, 3) := by decide +kernel
theorem dX8_bestValue_5 : decode cX8_bestValue 5 = .ok (.bipush 23, 2) := by decide +kernel
theorem dX8_bestValue_7 : decode cX8_bestValue 7 = .ok (.iaload, 1) := by decide +kernel
theorem dX8_bestValue_8 : decode cX8_bestValue 8 = .ok (.iconst 1, 1) := by decide +kernel
theorem dX8_bestValue_9 : decode cX8_bestValue 9 = .ok (.if_icmp .ne 7, 3) := by decide +kernel
theorem dX8_bestValue_12 : decode cX8_bestValue 12 = .ok (.iconst 1, 1) := by decide +kernel
theorem dX8_bestValue_13 : decode cX8_bestValue 13 = .ok (.goto 4, 3) := by decide +kernel
theorem dX8_bestValue_16 : decode cX8_bestValue 16 = .ok (.iconst 0, 1) := by decide +kernel
theorem dX8_bestValue_17 : decode cX8_bestValue 17 = .ok (.invokevirtual 88, 3) := by decide +kernel
theorem dX8_bestValue_20 : decode cX8_bestValue 20 = .ok (.ifCond .eq 5, 3) := by decide +kernel
theorem dX8_bestValue_23 : decode cX8_bestValue 23 = .ok (.iconst 0, 1) := by decide +kernel
theorem dX8_bestValue_24 : decode cX8_bestValue 24 = .ok (.ireturn, 1) := by decide +kernel
theorem dX8_bestValue_25 : decode cX8_bestValue 25 = .ok (.aload_n 0, 1) := by decide +kernel
theorem dX8_bestValue_26 : decode cX8_bestValue 26 = .ok (.invokevirtual 214, 3) := by decide +kernel
theorem dX8_bestValue_29 : decode cX8_bestValue 29 = .ok (.aload_n 0, 1) := by decide +kernel
theorem dX8_bestValue_30 : decode cX8_bestValue 30 = .ok (.getfield 202, 3) := by decide +kernel
theorem dX8_bestValue_33 : decode cX8_bestValue 33 = .ok (.ireturn, 1) := by decide +kernel
def bs_X8_bestOrder : List (List Cond) := [[.code yX8_bestOrder cX8_bestOrder 1 (some .int)], wsX8_bestOrder_r1, wsX8_bestOrder_r2, wsX8_bestOrder_r3, wsX80]
theorem bi_X8_bestOrder : ∀ w ∈ bs_X8_bestOrder.flatten, w ∈ wsX8_bestOrder := by
  have h : bs_X8_bestOrder.flatten = wsX8_bestOrder := by simp only [bs_X8_bestOrder, wsX8_bestOrder, List.flatten_cons, List.flatten_nil, List.append_assoc, List.append_nil, List.nil_append, List.cons_append]
  intro w hw; rw [h] at hw; exact hw
set_option maxRecDepth 20000 in
theorem ggX8_bestOrder_X8_refused : GoodIn wsX8_bestOrder wsX8_refused := goodIn_bb bs_X8_bestOrder bi_X8_bestOrder _ [(1, 6), (1, 7), (4, 0), (4, 1), (4, 2), (4, 3), (4, 4), (4, 5), (4, 6), (4, 7), (4, 8), (4, 9), (4, 10), (4, 11), (4, 12), (4, 13), (4, 14), (4, 15), (4, 16), (4, 17), (4, 18)] rfl (by decide +kernel)
set_option maxRecDepth 20000 in
theorem gX8_bestOrder_X8_refused : GoodIn wsX8_bestOrder (wsV RX8 88 RX8 yX8_refused wsX8_refused) := goodIn_app (goodIn_bb bs_X8_bestOrder bi_X8_bestOrder _ [(1, 2), (1, 3), (1, 4), (1, 5)] rfl (by decide +kernel)) ggX8_bestOrder_X8_refused
set_option maxRecDepth 20000 in
theorem ggX8_bestOrder_X8_findOrder : GoodIn wsX8_bestOrder wsX8_findOrder := goodIn_bb bs_X8_bestOrder bi_X8_bestOrder _ [(1, 11), (1, 0), (1, 12), (1, 1), (1, 13), (1, 14), (1, 15), (1, 16), (1, 5), (1, 17), (1, 18), (1, 19), (1, 20), (1, 21), (1, 22), (1, 23), (2, 0), (2, 1), (2, 2), (2, 3), (2, 4), (2, 5), (2, 6), (2, 7), (2, 8), (2, 9), (2, 10), (2, 11), (2, 12), (2, 13), (2, 14), (2, 15), (2, 16), (2, 17), (2, 18), (2, 19), (2, 20), (2, 21), (2, 22), (2, 23), (3, 0), (3, 1), (3, 2), (3, 3), (3, 4), (3, 5), (3, 6), (3, 7), (3, 8), (3, 9), (4, 0), (4, 1), (4, 2), (4, 3), (4, 4), (4, 5), (4, 6), (4, 7), (4, 8), (4, 9), (4, 10), (4, 11), (4, 12), (4, 13), (4, 14), (4, 15), (4, 16), (4, 17), (4, 18)] rfl (by decide +kernel)
set_option maxRecDepth 20000 in
theorem gX8_bestOrder_X8_findOrder : GoodIn wsX8_bestOrder (wsV RX8 214 RX8 yX8_findOrder wsX8_findOrder) := goodIn_app (goodIn_bb bs_X8_bestOrder bi_X8_bestOrder _ [(1, 8), (1, 9), (1, 10), (1, 5)] rfl (by decide +kernel)) ggX8_bestOrder_X8_findOrder
theorem dX8_bestOrder_0 : decode cX8_bestOrder 0 = .ok (.aload_n 0, 1) := by decide +kernel
theorem dX8_bestOrder_1 : decode cX8_bestOrder 1 = .ok (.aload_n 0, 1) := by decide +kernel
theorem dX8_bestOrder_2 : decode cX8_bestOrder 2 = .ok (.getfield 16, 3) := by decide +kernel
theorem dX8_bestOrder_5 : decode cX8_bestOrder 5 = .ok (.bipush 23, 2) := by decide +kernel
theorem dX8_bestOrder_7 : decode cX8_bestOrder 7 = .ok (.iaload, 1) := by decide +kernel
theorem dX8_bestOrder_8 : decode cX8_bestOrder 8 = .ok (.iconst 1, 1) := by decide +kernel
theorem dX8_bestOrder_9 : decode cX8_bestOrder 9 = .ok (.if_icmp .ne 7, 3) := by decide +kernel
theorem dX8_bestOrder_12 : decode cX8_bestOrder 12 = .ok (.iconst 1, 1) := by decide +kernel
theorem dX8_bestOrder_13 : decode cX8_bestOrder 13 = .ok (.goto 4, 3) := by decide +kernel
theorem dX8_bestOrder_16 : decode cX8_bestOrder 16 = .ok (.iconst 0, 1) := by decide +kernel
theorem dX8_bestOrder_17 : decode cX8_bestOrder 17 = .ok (.invokevirtual 88, 3) := by decide +kernel
theorem dX8_bestOrder_20 : decode cX8_bestOrder 20 = .ok (.ifCond .eq 5, 3) := by decide +kernel
theorem dX8_bestOrder_23 : decode cX8_bestOrder 23 = .ok (.iconst 0, 1) := by decide +kernel
theorem dX8_bestOrder_24 : decode cX8_bestOrder 24 = .ok (.ireturn, 1) := by decide +kernel
theorem dX8_bestOrder_25 : decode cX8_bestOrder 25 = .ok (.aload_n 0, 1) := by decide +kernel
theorem dX8_bestOrder_26 : decode cX8_bestOrder 26 = .ok (.invokevirtual 214, 3) := by decide +kernel
theorem dX8_bestOrder_29 : decode cX8_bestOrder 29 = .ok (.aload_n 0, 1) := by decide +kernel
theorem dX8_bestOrder_30 : decode cX8_bestOrder 30 = .ok (.getfield 205, 3) := by decide +kernel
theorem dX8_bestOrder_33 : decode cX8_bestOrder 33 = .ok (.ireturn, 1) := by decide +kernel
def bs_X8_randomWalk : List (List Cond) := [[.code yX8_randomWalk cX8_randomWalk 10 (some .int)], wsX8_randomWalk_r1, wsX8_randomWalk_r2, wsX80]
theorem bi_X8_randomWalk : ∀ w ∈ bs_X8_randomWalk.flatten, w ∈ wsX8_randomWalk := by
  have h : bs_X8_randomWalk.flatten = wsX8_randomWalk := by simp only [bs_X8_randomWalk, wsX8_randomWalk, List.flatten_cons, List.flatten_nil, List.append_assoc, List.append_nil, List.nil_append, List.cons_append]
  intro w hw; rw [h] at hw; exact hw
set_option maxRecDepth 20000 in
theorem ggX8_randomWalk_X8_in : GoodIn wsX8_randomWalk wsX8_in := goodIn_bb bs_X8_randomWalk bi_X8_randomWalk _ [(1, 8)] rfl (by decide +kernel)
set_option maxRecDepth 20000 in
theorem gX8_randomWalk_X8_in : GoodIn wsX8_randomWalk (va_wsS RX8 65 yX8_in wsX8_in) := goodIn_app (goodIn_bb bs_X8_randomWalk bi_X8_randomWalk _ [(1, 5), (1, 6), (1, 7)] rfl (by decide +kernel)) ggX8_randomWalk_X8_in
set_option maxRecDepth 20000 in
theorem ggX8_randomWalk_X8_refused : GoodIn wsX8_randomWalk wsX8_refused := goodIn_bb bs_X8_randomWalk bi_X8_randomWalk _ [(1, 12), (1, 13), (3, 0), (3, 1), (3, 2), (3, 3), (3, 4), (3, 5), (3, 6), (3, 7), (3, 8), (3, 9), (3, 10), (3, 11), (3, 12), (3, 13), (3, 14), (3, 15), (3, 16), (3, 17), (3, 18)] rfl (by decide +kernel)
set_option maxRecDepth 20000 in
theorem gX8_randomWalk_X8_refused : GoodIn wsX8_randomWalk (wsV RX8 88 RX8 yX8_refused wsX8_refused) := goodIn_app (goodIn_bb bs_X8_randomWalk bi_X8_randomWalk _ [(1, 9), (1, 10), (1, 11), (1, 7)] rfl (by decide +kernel)) ggX8_randomWalk_X8_refused
set_option maxRecDepth 20000 in
theorem ggX8_randomWalk_X8_isBrightIn : GoodIn wsX8_randomWalk wsX8_isBrightIn := goodIn_bb bs_X8_randomWalk bi_X8_randomWalk _ [(1, 17), (1, 18), (1, 19), (1, 20), (1, 21), (1, 7), (1, 22), (1, 23), (2, 0), (2, 1), (2, 2), (2, 3), (2, 4), (2, 5), (2, 6), (2, 7), (2, 8), (2, 9), (3, 0), (3, 1), (3, 2), (3, 3), (3, 4), (3, 5), (3, 6), (3, 7), (3, 8), (3, 9), (3, 10), (3, 11), (3, 12), (3, 13), (3, 14), (3, 15), (3, 16), (3, 17), (3, 18)] rfl (by decide +kernel)
set_option maxRecDepth 20000 in
theorem gX8_randomWalk_X8_isBrightIn : GoodIn wsX8_randomWalk (wsV RX8 110 RX8 yX8_isBrightIn wsX8_isBrightIn) := goodIn_app (goodIn_bb bs_X8_randomWalk bi_X8_randomWalk _ [(1, 14), (1, 15), (1, 16), (1, 7)] rfl (by decide +kernel)) ggX8_randomWalk_X8_isBrightIn
theorem dX8_randomWalk_0 : decode cX8_randomWalk 0 = .ok (.aload_n 0, 1) := by decide +kernel
theorem dX8_randomWalk_1 : decode cX8_randomWalk 1 = .ok (.iload_n 3, 1) := by decide +kernel
theorem dX8_randomWalk_2 : decode cX8_randomWalk 2 = .ok (.i2l, 1) := by decide +kernel
theorem dX8_randomWalk_3 : decode cX8_randomWalk 3 = .ok (.lconst 1, 1) := by decide +kernel
theorem dX8_randomWalk_4 : decode cX8_randomWalk 4 = .ok (.ldc2_w 184, 3) := by decide +kernel
theorem dX8_randomWalk_7 : decode cX8_randomWalk 7 = .ok (.invokestatic 65, 3) := by decide +kernel
theorem dX8_randomWalk_10 : decode cX8_randomWalk 10 = .ok (.ifCond .ne 7, 3) := by decide +kernel
theorem dX8_randomWalk_13 : decode cX8_randomWalk 13 = .ok (.iconst 1, 1) := by decide +kernel
theorem dX8_randomWalk_14 : decode cX8_randomWalk 14 = .ok (.goto 19, 3) := by decide +kernel
theorem dX8_randomWalk_17 : decode cX8_randomWalk 17 = .ok (.aload_n 0, 1) := by decide +kernel
theorem dX8_randomWalk_18 : decode cX8_randomWalk 18 = .ok (.getfield 16, 3) := by decide +kernel
theorem dX8_randomWalk_21 : decode cX8_randomWalk 21 = .ok (.bipush 23, 2) := by decide +kernel
theorem dX8_randomWalk_23 : decode cX8_randomWalk 23 = .ok (.iaload, 1) := by decide +kernel
theorem dX8_randomWalk_24 : decode cX8_randomWalk 24 = .ok (.iconst 1, 1) := by decide +kernel
theorem dX8_randomWalk_25 : decode cX8_randomWalk 25 = .ok (.if_icmp .ne 7, 3) := by decide +kernel
theorem dX8_randomWalk_28 : decode cX8_randomWalk 28 = .ok (.iconst 2, 1) := by decide +kernel
theorem dX8_randomWalk_29 : decode cX8_randomWalk 29 = .ok (.goto 4, 3) := by decide +kernel
theorem dX8_randomWalk_32 : decode cX8_randomWalk 32 = .ok (.iconst 0, 1) := by decide +kernel
theorem dX8_randomWalk_33 : decode cX8_randomWalk 33 = .ok (.invokevirtual 88, 3) := by decide +kernel
theorem dX8_randomWalk_36 : decode cX8_randomWalk 36 = .ok (.ifCond .eq 5, 3) := by decide +kernel
theorem dX8_randomWalk_39 : decode cX8_randomWalk 39 = .ok (.iconst 0, 1) := by decide +kernel
theorem dX8_randomWalk_40 : decode cX8_randomWalk 40 = .ok (.ireturn, 1) := by decide +kernel
theorem dX8_randomWalk_41 : decode cX8_randomWalk 41 = .ok (.lload_n 1, 1) := by decide +kernel
theorem dX8_randomWalk_42 : decode cX8_randomWalk 42 = .ok (.lstore 4, 2) := by decide +kernel
theorem dX8_randomWalk_44 : decode cX8_randomWalk 44 = .ok (.aload_n 0, 1) := by decide +kernel
theorem dX8_randomWalk_45 : decode cX8_randomWalk 45 = .ok (.getfield 16, 3) := by decide +kernel
theorem dX8_randomWalk_48 : decode cX8_randomWalk 48 = .ok (.bipush 22, 2) := by decide +kernel
theorem dX8_randomWalk_50 : decode cX8_randomWalk 50 = .ok (.iaload, 1) := by decide +kernel
theorem dX8_randomWalk_51 : decode cX8_randomWalk 51 = .ok (.istore 6, 2) := by decide +kernel
theorem dX8_randomWalk_53 : decode cX8_randomWalk 53 = .ok (.iconst 1, 1) := by decide +kernel
theorem dX8_randomWalk_54 : decode cX8_randomWalk 54 = .ok (.istore 7, 2) := by decide +kernel
theorem dX8_randomWalk_56 : decode cX8_randomWalk 56 = .ok (.iload 7, 2) := by decide +kernel
theorem dX8_randomWalk_58 : decode cX8_randomWalk 58 = .ok (.iload_n 3, 1) := by decide +kernel
theorem dX8_randomWalk_59 : decode cX8_randomWalk 59 = .ok (.if_icmp .gt 112, 3) := by decide +kernel
theorem dX8_randomWalk_62 : decode cX8_randomWalk 62 = .ok (.lload 4, 2) := by decide +kernel
theorem dX8_randomWalk_64 : decode cX8_randomWalk 64 = .ok (.ldc2_w 217, 3) := by decide +kernel
theorem dX8_randomWalk_67 : decode cX8_randomWalk 67 = .ok (.lmul, 1) := by decide +kernel
theorem dX8_randomWalk_68 : decode cX8_randomWalk 68 = .ok (.ldc2_w 219, 3) := by decide +kernel
theorem dX8_randomWalk_71 : decode cX8_randomWalk 71 = .ok (.ladd, 1) := by decide +kernel
theorem dX8_randomWalk_72 : decode cX8_randomWalk 72 = .ok (.lstore 4, 2) := by decide +kernel
theorem dX8_randomWalk_74 : decode cX8_randomWalk 74 = .ok (.lload 4, 2) := by decide +kernel
theorem dX8_randomWalk_76 : decode cX8_randomWalk 76 = .ok (.bipush 33, 2) := by decide +kernel
theorem dX8_randomWalk_78 : decode cX8_randomWalk 78 = .ok (.lushr, 1) := by decide +kernel
theorem dX8_randomWalk_79 : decode cX8_randomWalk 79 = .ok (.l2i, 1) := by decide +kernel
theorem dX8_randomWalk_80 : decode cX8_randomWalk 80 = .ok (.iconst 5, 1) := by decide +kernel
theorem dX8_randomWalk_81 : decode cX8_randomWalk 81 = .ok (.irem, 1) := by decide +kernel
theorem dX8_randomWalk_82 : decode cX8_randomWalk 82 = .ok (.istore 8, 2) := by decide +kernel
theorem dX8_randomWalk_84 : decode cX8_randomWalk 84 = .ok (.iload 8, 2) := by decide +kernel
theorem dX8_randomWalk_86 : decode cX8_randomWalk 86 = .ok (.iconst 4, 1) := by decide +kernel
theorem dX8_randomWalk_87 : decode cX8_randomWalk 87 = .ok (.if_icmp .ge 18, 3) := by decide +kernel
theorem dX8_randomWalk_90 : decode cX8_randomWalk 90 = .ok (.aload_n 0, 1) := by decide +kernel
theorem dX8_randomWalk_91 : decode cX8_randomWalk 91 = .ok (.getfield 13, 3) := by decide +kernel
theorem dX8_randomWalk_94 : decode cX8_randomWalk 94 = .ok (.iconst 4, 1) := by decide +kernel
theorem dX8_randomWalk_95 : decode cX8_randomWalk 95 = .ok (.iload 6, 2) := by decide +kernel
theorem dX8_randomWalk_97 : decode cX8_randomWalk 97 = .ok (.imul, 1) := by decide +kernel
theorem dX8_randomWalk_98 : decode cX8_randomWalk 98 = .ok (.iload 8, 2) := by decide +kernel
theorem dX8_randomWalk_100 : decode cX8_randomWalk 100 = .ok (.iadd, 1) := by decide +kernel
theorem dX8_randomWalk_101 : decode cX8_randomWalk 101 = .ok (.iaload, 1) := by decide +kernel
theorem dX8_randomWalk_102 : decode cX8_randomWalk 102 = .ok (.goto 5, 3) := by decide +kernel
theorem dX8_randomWalk_105 : decode cX8_randomWalk 105 = .ok (.iload 6, 2) := by decide +kernel
theorem dX8_randomWalk_107 : decode cX8_randomWalk 107 = .ok (.istore 9, 2) := by decide +kernel
theorem dX8_randomWalk_109 : decode cX8_randomWalk 109 = .ok (.aload_n 0, 1) := by decide +kernel
theorem dX8_randomWalk_110 : decode cX8_randomWalk 110 = .ok (.aload_n 0, 1) := by decide +kernel
theorem dX8_randomWalk_111 : decode cX8_randomWalk 111 = .ok (.getfield 16, 3) := by decide +kernel
theorem dX8_randomWalk_114 : decode cX8_randomWalk 114 = .ok (.iload 9, 2) := by decide +kernel
theorem dX8_randomWalk_116 : decode cX8_randomWalk 116 = .ok (.aload_n 0, 1) := by decide +kernel
theorem dX8_randomWalk_117 : decode cX8_randomWalk 117 = .ok (.getfield 16, 3) := by decide +kernel
theorem dX8_randomWalk_120 : decode cX8_randomWalk 120 = .ok (.bipush 21, 2) := by decide +kernel
theorem dX8_randomWalk_122 : decode cX8_randomWalk 122 = .ok (.iaload, 1) := by decide +kernel
theorem dX8_randomWalk_123 : decode cX8_randomWalk 123 = .ok (.iload 7, 2) := by decide +kernel
theorem dX8_randomWalk_125 : decode cX8_randomWalk 125 = .ok (.iadd, 1) := by decide +kernel
theorem dX8_randomWalk_126 : decode cX8_randomWalk 126 = .ok (.invokevirtual 110, 3) := by decide +kernel
theorem dX8_randomWalk_129 : decode cX8_randomWalk 129 = .ok (.ifCond .ne 10, 3) := by decide +kernel
theorem dX8_randomWalk_132 : decode cX8_randomWalk 132 = .ok (.iload 9, 2) := by decide +kernel
theorem dX8_randomWalk_134 : decode cX8_randomWalk 134 = .ok (.istore 6, 2) := by decide +kernel
theorem dX8_randomWalk_136 : decode cX8_randomWalk 136 = .ok (.goto 29, 3) := by decide +kernel
theorem dX8_randomWalk_139 : decode cX8_randomWalk 139 = .ok (.aload_n 0, 1) := by decide +kernel
theorem dX8_randomWalk_140 : decode cX8_randomWalk 140 = .ok (.aload_n 0, 1) := by decide +kernel
theorem dX8_randomWalk_141 : decode cX8_randomWalk 141 = .ok (.getfield 16, 3) := by decide +kernel
theorem dX8_randomWalk_144 : decode cX8_randomWalk 144 = .ok (.iload 6, 2) := by decide +kernel
theorem dX8_randomWalk_146 : decode cX8_randomWalk 146 = .ok (.aload_n 0, 1) := by decide +kernel
theorem dX8_randomWalk_147 : decode cX8_randomWalk 147 = .ok (.getfield 16, 3) := by decide +kernel
theorem dX8_randomWalk_150 : decode cX8_randomWalk 150 = .ok (.bipush 21, 2) := by decide +kernel
theorem dX8_randomWalk_152 : decode cX8_randomWalk 152 = .ok (.iaload, 1) := by decide +kernel
theorem dX8_randomWalk_153 : decode cX8_randomWalk 153 = .ok (.iload 7, 2) := by decide +kernel
theorem dX8_randomWalk_155 : decode cX8_randomWalk 155 = .ok (.iadd, 1) := by decide +kernel
theorem dX8_randomWalk_156 : decode cX8_randomWalk 156 = .ok (.invokevirtual 110, 3) := by decide +kernel
theorem dX8_randomWalk_159 : decode cX8_randomWalk 159 = .ok (.ifCond .eq 6, 3) := by decide +kernel
theorem dX8_randomWalk_162 : decode cX8_randomWalk 162 = .ok (.iload 6, 2) := by decide +kernel
theorem dX8_randomWalk_164 : decode cX8_randomWalk 164 = .ok (.ireturn, 1) := by decide +kernel
theorem dX8_randomWalk_165 : decode cX8_randomWalk 165 = .ok (.iinc 7 1, 3) := by decide +kernel
theorem dX8_randomWalk_168 : decode cX8_randomWalk 168 = .ok (.goto (-112), 3) := by decide +kernel
theorem dX8_randomWalk_171 : decode cX8_randomWalk 171 = .ok (.iload 6, 2) := by decide +kernel
theorem dX8_randomWalk_173 : decode cX8_randomWalk 173 = .ok (.ireturn, 1) := by decide +kernel
def bs_X8_save : List (List Cond) := [[.code yX8_save cX8_save 3 (some .int)], [.fieldLink RX8 28 "SlewPlannerModel" "isKept" "[Z", .fieldLink RX8 25 "SlewPlannerModel" "kept" "[I", .fieldLink RX8 16 "SlewPlannerModel" "now" "[I", .methodLink RX8 65 yX8_in, .static yX8_in, .initialized RX8, .code yX8_in cX8_in 6 (some .boolean), .methodLink RX8 88 yX8_refused, .instanceMethod yX8_refused, .selects RX8 yX8_refused yX8_refused, .code yX8_refused cX8_refused 2 (some .boolean), .fieldLink RX8 57 "SlewPlannerModel" "refusal" "I"], wsX80]
theorem bi_X8_save : ∀ w ∈ bs_X8_save.flatten, w ∈ wsX8_save := by
  have h : bs_X8_save.flatten = wsX8_save := by simp only [bs_X8_save, wsX8_save, List.flatten_cons, List.flatten_nil, List.append_assoc, List.append_nil, List.nil_append, List.cons_append]
  intro w hw; rw [h] at hw; exact hw
set_option maxRecDepth 20000 in
theorem ggX8_save_X8_in : GoodIn wsX8_save wsX8_in := goodIn_bb bs_X8_save bi_X8_save _ [(1, 6)] rfl (by decide +kernel)
set_option maxRecDepth 20000 in
theorem gX8_save_X8_in : GoodIn wsX8_save (va_wsS RX8 65 yX8_in wsX8_in) := goodIn_app (goodIn_bb bs_X8_save bi_X8_save _ [(1, 3), (1, 4), (1, 5)] rfl (by decide +kernel)) ggX8_save_X8_in
set_option maxRecDepth 20000 in
theorem ggX8_save_X8_refused : GoodIn wsX8_save wsX8_refused := goodIn_bb bs_X8_save bi_X8_save _ [(1, 10), (1, 11), (2, 0), (2, 1), (2, 2), (2, 3), (2, 4), (2, 5), (2, 6), (2, 7), (2, 8), (2, 9), (2, 10), (2, 11), (2, 12), (2, 13), (2, 14), (2, 15), (2, 16), (2, 17), (2, 18)] rfl (by decide +kernel)
set_option maxRecDepth 20000 in
theorem gX8_save_X8_refused : GoodIn wsX8_save (wsV RX8 88 RX8 yX8_refused wsX8_refused) := goodIn_app (goodIn_bb bs_X8_save bi_X8_save _ [(1, 7), (1, 8), (1, 9), (1, 5)] rfl (by decide +kernel)) ggX8_save_X8_refused
theorem dX8_save_0 : decode cX8_save 0 = .ok (.aload_n 0, 1) := by decide +kernel
theorem dX8_save_1 : decode cX8_save 1 = .ok (.iload_n 1, 1) := by decide +kernel
theorem dX8_save_2 : decode cX8_save 2 = .ok (.i2l, 1) := by decide +kernel
theorem dX8_save_3 : decode cX8_save 3 = .ok (.lconst 0, 1) := by decide +kernel
theorem dX8_save_4 : decode cX8_save 4 = .ok (.lconst 1, 1) := by decide +kernel
theorem dX8_save_5 : decode cX8_save 5 = .ok (.invokestatic 65, 3) := by decide +kernel
theorem dX8_save_8 : decode cX8_save 8 = .ok (.ifCond .eq 7, 3) := by decide +kernel
theorem dX8_save_11 : decode cX8_save 11 = .ok (.iconst 0, 1) := by decide +kernel
theorem dX8_save_12 : decode cX8_save 12 = .ok (.goto 4, 3) := by decide +kernel
theorem dX8_save_15 : decode cX8_save 15 = .ok (.iconst 1, 1) := by decide +kernel
theorem dX8_save_16 : decode cX8_save 16 = .ok (.invokevirtual 88, 3) := by decide +kernel
theorem dX8_save_19 : decode cX8_save 19 = .ok (.ifCond .eq 5, 3) := by decide +kernel
theorem dX8_save_22 : decode cX8_save 22 = .ok (.iconst 0, 1) := by decide +kernel
theorem dX8_save_23 : decode cX8_save 23 = .ok (.ireturn, 1) := by decide +kernel
theorem dX8_save_24 : decode cX8_save 24 = .ok (.aload_n 0, 1) := by decide +kernel
theorem dX8_save_25 : decode cX8_save 25 = .ok (.getfield 28, 3) := by decide +kernel
theorem dX8_save_28 : decode cX8_save 28 = .ok (.iload_n 1, 1) := by decide +kernel
theorem dX8_save_29 : decode cX8_save 29 = .ok (.iconst 1, 1) := by decide +kernel
theorem dX8_save_30 : decode cX8_save 30 = .ok (.bastore, 1) := by decide +kernel
theorem dX8_save_31 : decode cX8_save 31 = .ok (.iconst 0, 1) := by decide +kernel
theorem dX8_save_32 : decode cX8_save 32 = .ok (.istore_n 2, 1) := by decide +kernel
theorem dX8_save_33 : decode cX8_save 33 = .ok (.iload_n 2, 1) := by decide +kernel
theorem dX8_save_34 : decode cX8_save 34 = .ok (.bipush 37, 2) := by decide +kernel
theorem dX8_save_36 : decode cX8_save 36 = .ok (.if_icmp .ge 26, 3) := by decide +kernel
theorem dX8_save_39 : decode cX8_save 39 = .ok (.aload_n 0, 1) := by decide +kernel
theorem dX8_save_40 : decode cX8_save 40 = .ok (.getfield 25, 3) := by decide +kernel
theorem dX8_save_43 : decode cX8_save 43 = .ok (.bipush 37, 2) := by decide +kernel
theorem dX8_save_45 : decode cX8_save 45 = .ok (.iload_n 1, 1) := by decide +kernel
theorem dX8_save_46 : decode cX8_save 46 = .ok (.imul, 1) := by decide +kernel
theorem dX8_save_47 : decode cX8_save 47 = .ok (.iload_n 2, 1) := by decide +kernel
theorem dX8_save_48 : decode cX8_save 48 = .ok (.iadd, 1) := by decide +kernel
theorem dX8_save_49 : decode cX8_save 49 = .ok (.aload_n 0, 1) := by decide +kernel
theorem dX8_save_50 : decode cX8_save 50 = .ok (.getfield 16, 3) := by decide +kernel
theorem dX8_save_53 : decode cX8_save 53 = .ok (.iload_n 2, 1) := by decide +kernel
theorem dX8_save_54 : decode cX8_save 54 = .ok (.iaload, 1) := by decide +kernel
theorem dX8_save_55 : decode cX8_save 55 = .ok (.iastore, 1) := by decide +kernel
theorem dX8_save_56 : decode cX8_save 56 = .ok (.iinc 2 1, 3) := by decide +kernel
theorem dX8_save_59 : decode cX8_save 59 = .ok (.goto (-26), 3) := by decide +kernel
theorem dX8_save_62 : decode cX8_save 62 = .ok (.aload_n 0, 1) := by decide +kernel
theorem dX8_save_63 : decode cX8_save 63 = .ok (.getfield 16, 3) := by decide +kernel
theorem dX8_save_66 : decode cX8_save 66 = .ok (.bipush 21, 2) := by decide +kernel
theorem dX8_save_68 : decode cX8_save 68 = .ok (.iaload, 1) := by decide +kernel
theorem dX8_save_69 : decode cX8_save 69 = .ok (.ireturn, 1) := by decide +kernel
def bs_X8_restore : List (List Cond) := [[.code yX8_restore cX8_restore 3 (some .int)], [.fieldLink RX8 28 "SlewPlannerModel" "isKept" "[Z", .fieldLink RX8 16 "SlewPlannerModel" "now" "[I", .fieldLink RX8 25 "SlewPlannerModel" "kept" "[I", .fieldLink RX8 136 "SlewPlannerModel" "acts" "I", .methodLink RX8 65 yX8_in, .static yX8_in, .initialized RX8, .code yX8_in cX8_in 6 (some .boolean), .methodLink RX8 88 yX8_refused, .instanceMethod yX8_refused, .selects RX8 yX8_refused yX8_refused, .code yX8_refused cX8_refused 2 (some .boolean), .fieldLink RX8 57 "SlewPlannerModel" "refusal" "I"], wsX80]
theorem bi_X8_restore : ∀ w ∈ bs_X8_restore.flatten, w ∈ wsX8_restore := by
  have h : bs_X8_restore.flatten = wsX8_restore := by simp only [bs_X8_restore, wsX8_restore, List.flatten_cons, List.flatten_nil, List.append_assoc, List.append_nil, List.nil_append, List.cons_append]
  intro w hw; rw [h] at hw; exact hw
set_option maxRecDepth 20000 in
theorem ggX8_restore_X8_in : GoodIn wsX8_restore wsX8_in := goodIn_bb bs_X8_restore bi_X8_restore _ [(1, 7)] rfl (by decide +kernel)
set_option maxRecDepth 20000 in
theorem gX8_restore_X8_in : GoodIn wsX8_restore (va_wsS RX8 65 yX8_in wsX8_in) := goodIn_app (goodIn_bb bs_X8_restore bi_X8_restore _ [(1, 4), (1, 5), (1, 6)] rfl (by decide +kernel)) ggX8_restore_X8_in
set_option maxRecDepth 20000 in
theorem ggX8_restore_X8_refused : GoodIn wsX8_restore wsX8_refused := goodIn_bb bs_X8_restore bi_X8_restore _ [(1, 11), (1, 12), (2, 0), (2, 1), (2, 2), (2, 3), (2, 4), (2, 5), (2, 6), (2, 7), (2, 8), (2, 9), (2, 10), (2, 11), (2, 12), (2, 13), (2, 14), (2, 15), (2, 16), (2, 17), (2, 18)] rfl (by decide +kernel)
set_option maxRecDepth 20000 in
theorem gX8_restore_X8_refused : GoodIn wsX8_restore (wsV RX8 88 RX8 yX8_refused wsX8_refused) := goodIn_app (goodIn_bb bs_X8_restore bi_X8_restore _ [(1, 8), (1, 9), (1, 10), (1, 6)] rfl (by decide +kernel)) ggX8_restore_X8_refused
theorem dX8_restore_0 : decode cX8_restore 0 = .ok (.aload_n 0, 1) := by decide +kernel
theorem dX8_restore_1 : decode cX8_restore 1 = .ok (.iload_n 1, 1) := by decide +kernel
theorem dX8_restore_2 : decode cX8_restore 2 = .ok (.i2l, 1) := by decide +kernel
theorem dX8_restore_3 : decode cX8_restore 3 = .ok (.lconst 0, 1) := by decide +kernel
theorem dX8_restore_4 : decode cX8_restore 4 = .ok (.lconst 1, 1) := by decide +kernel
theorem dX8_restore_5 : decode cX8_restore 5 = .ok (.invokestatic 65, 3) := by decide +kernel
theorem dX8_restore_8 : decode cX8_restore 8 = .ok (.ifCond .ne 7, 3) := by decide +kernel
theorem dX8_restore_11 : decode cX8_restore 11 = .ok (.iconst 1, 1) := by decide +kernel
theorem dX8_restore_12 : decode cX8_restore 12 = .ok (.goto 17, 3) := by decide +kernel
theorem dX8_restore_15 : decode cX8_restore 15 = .ok (.aload_n 0, 1) := by decide +kernel
theorem dX8_restore_16 : decode cX8_restore 16 = .ok (.getfield 28, 3) := by decide +kernel
theorem dX8_restore_19 : decode cX8_restore 19 = .ok (.iload_n 1, 1) := by decide +kernel
theorem dX8_restore_20 : decode cX8_restore 20 = .ok (.baload, 1) := by decide +kernel
theorem dX8_restore_21 : decode cX8_restore 21 = .ok (.ifCond .ne 7, 3) := by decide +kernel
theorem dX8_restore_24 : decode cX8_restore 24 = .ok (.iconst 2, 1) := by decide +kernel
theorem dX8_restore_25 : decode cX8_restore 25 = .ok (.goto 4, 3) := by decide +kernel
theorem dX8_restore_28 : decode cX8_restore 28 = .ok (.iconst 0, 1) := by decide +kernel
theorem dX8_restore_29 : decode cX8_restore 29 = .ok (.invokevirtual 88, 3) := by decide +kernel
theorem dX8_restore_32 : decode cX8_restore 32 = .ok (.ifCond .eq 5, 3) := by decide +kernel
theorem dX8_restore_35 : decode cX8_restore 35 = .ok (.iconst 0, 1) := by decide +kernel
theorem dX8_restore_36 : decode cX8_restore 36 = .ok (.ireturn, 1) := by decide +kernel
theorem dX8_restore_37 : decode cX8_restore 37 = .ok (.iconst 0, 1) := by decide +kernel
theorem dX8_restore_38 : decode cX8_restore 38 = .ok (.istore_n 2, 1) := by decide +kernel
theorem dX8_restore_39 : decode cX8_restore 39 = .ok (.iload_n 2, 1) := by decide +kernel
theorem dX8_restore_40 : decode cX8_restore 40 = .ok (.bipush 37, 2) := by decide +kernel
theorem dX8_restore_42 : decode cX8_restore 42 = .ok (.if_icmp .ge 26, 3) := by decide +kernel
theorem dX8_restore_45 : decode cX8_restore 45 = .ok (.aload_n 0, 1) := by decide +kernel
theorem dX8_restore_46 : decode cX8_restore 46 = .ok (.getfield 16, 3) := by decide +kernel
theorem dX8_restore_49 : decode cX8_restore 49 = .ok (.iload_n 2, 1) := by decide +kernel
theorem dX8_restore_50 : decode cX8_restore 50 = .ok (.aload_n 0, 1) := by decide +kernel
theorem dX8_restore_51 : decode cX8_restore 51 = .ok (.getfield 25, 3) := by decide +kernel
theorem dX8_restore_54 : decode cX8_restore 54 = .ok (.bipush 37, 2) := by decide +kernel
theorem dX8_restore_56 : decode cX8_restore 56 = .ok (.iload_n 1, 1) := by decide +kernel
theorem dX8_restore_57 : decode cX8_restore 57 = .ok (.imul, 1) := by decide +kernel
theorem dX8_restore_58 : decode cX8_restore 58 = .ok (.iload_n 2, 1) := by decide +kernel
theorem dX8_restore_59 : decode cX8_restore 59 = .ok (.iadd, 1) := by decide +kernel
theorem dX8_restore_60 : decode cX8_restore 60 = .ok (.iaload, 1) := by decide +kernel
theorem dX8_restore_61 : decode cX8_restore 61 = .ok (.iastore, 1) := by decide +kernel
theorem dX8_restore_62 : decode cX8_restore 62 = .ok (.iinc 2 1, 3) := by decide +kernel
theorem dX8_restore_65 : decode cX8_restore 65 = .ok (.goto (-26), 3) := by decide +kernel
theorem dX8_restore_68 : decode cX8_restore 68 = .ok (.aload_n 0, 1) := by decide +kernel
theorem dX8_restore_69 : decode cX8_restore 69 = .ok (.iconst 0, 1) := by decide +kernel
theorem dX8_restore_70 : decode cX8_restore 70 = .ok (.putfield 136, 3) := by decide +kernel
theorem dX8_restore_73 : decode cX8_restore 73 = .ok (.aload_n 0, 1) := by decide +kernel
theorem dX8_restore_74 : decode cX8_restore 74 = .ok (.getfield 16, 3) := by decide +kernel
theorem dX8_restore_77 : decode cX8_restore 77 = .ok (.bipush 21, 2) := by decide +kernel
theorem dX8_restore_79 : decode cX8_restore 79 = .ok (.iaload, 1) := by decide +kernel
theorem dX8_restore_80 : decode cX8_restore 80 = .ok (.ireturn, 1) := by decide +kernel
