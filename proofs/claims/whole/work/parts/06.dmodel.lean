theorem dX6_init_0 : decode cX6_init 0 = .ok (.aload_n 0, 1) := by decide +kernel
theorem dX6_init_1 : decode cX6_init 1 = .ok (.invokespecial 1, 3) := by decide +kernel
theorem dX6_init_4 : decode cX6_init 4 = .ok (.aload_n 0, 1) := by decide +kernel
theorem dX6_init_5 : decode cX6_init 5 = .ok (.iconst 3, 1) := by decide +kernel
theorem dX6_init_6 : decode cX6_init 6 = .ok (.newarray .long, 2) := by decide +kernel
theorem dX6_init_8 : decode cX6_init 8 = .ok (.putfield 7, 3) := by decide +kernel
theorem dX6_init_11 : decode cX6_init 11 = .ok (.aload_n 0, 1) := by decide +kernel
theorem dX6_init_12 : decode cX6_init 12 = .ok (.iconst 3, 1) := by decide +kernel
theorem dX6_init_13 : decode cX6_init 13 = .ok (.newarray .long, 2) := by decide +kernel
theorem dX6_init_15 : decode cX6_init 15 = .ok (.putfield 13, 3) := by decide +kernel
theorem dX6_init_18 : decode cX6_init 18 = .ok (.aload_n 0, 1) := by decide +kernel
theorem dX6_init_19 : decode cX6_init 19 = .ok (.iconst 3, 1) := by decide +kernel
theorem dX6_init_20 : decode cX6_init 20 = .ok (.newarray .long, 2) := by decide +kernel
theorem dX6_init_22 : decode cX6_init 22 = .ok (.putfield 16, 3) := by decide +kernel
theorem dX6_init_25 : decode cX6_init 25 = .ok (.aload_n 0, 1) := by decide +kernel
theorem dX6_init_26 : decode cX6_init 26 = .ok (.iconst 3, 1) := by decide +kernel
theorem dX6_init_27 : decode cX6_init 27 = .ok (.newarray .int, 2) := by decide +kernel
theorem dX6_init_29 : decode cX6_init 29 = .ok (.putfield 19, 3) := by decide +kernel
theorem dX6_init_32 : decode cX6_init 32 = .ok (.aload_n 0, 1) := by decide +kernel
theorem dX6_init_33 : decode cX6_init 33 = .ok (.iconst 3, 1) := by decide +kernel
theorem dX6_init_34 : decode cX6_init 34 = .ok (.newarray .int, 2) := by decide +kernel
theorem dX6_init_36 : decode cX6_init 36 = .ok (.putfield 23, 3) := by decide +kernel
theorem dX6_init_39 : decode cX6_init 39 = .ok (.aload_n 0, 1) := by decide +kernel
theorem dX6_init_40 : decode cX6_init 40 = .ok (.iconst 3, 1) := by decide +kernel
theorem dX6_init_41 : decode cX6_init 41 = .ok (.newarray .long, 2) := by decide +kernel
theorem dX6_init_43 : decode cX6_init 43 = .ok (.putfield 26, 3) := by decide +kernel
theorem dX6_init_46 : decode cX6_init 46 = .ok (.aload_n 0, 1) := by decide +kernel
theorem dX6_init_47 : decode cX6_init 47 = .ok (.iconst 3, 1) := by decide +kernel
theorem dX6_init_48 : decode cX6_init 48 = .ok (.newarray .long, 2) := by decide +kernel
theorem dX6_init_50 : decode cX6_init 50 = .ok (.putfield 29, 3) := by decide +kernel
theorem dX6_init_53 : decode cX6_init 53 = .ok (.aload_n 0, 1) := by decide +kernel
theorem dX6_init_54 : decode cX6_init 54 = .ok (.bipush 33, 2) := by decide +kernel
theorem dX6_init_56 : decode cX6_init 56 = .ok (.newarray .long, 2) := by decide +kernel
theorem dX6_init_58 : decode cX6_init 58 = .ok (.putfield 32, 3) := by decide +kernel
theorem dX6_init_61 : decode cX6_init 61 = .ok (.aload_n 0, 1) := by decide +kernel
theorem dX6_init_62 : decode cX6_init 62 = .ok (.bipush 9, 2) := by decide +kernel
theorem dX6_init_64 : decode cX6_init 64 = .ok (.newarray .long, 2) := by decide +kernel
theorem dX6_init_66 : decode cX6_init 66 = .ok (.putfield 35, 3) := by decide +kernel
theorem dX6_init_69 : decode cX6_init 69 = .ok (.aload_n 0, 1) := by decide +kernel
theorem dX6_init_70 : decode cX6_init 70 = .ok (.iconst 3, 1) := by decide +kernel
theorem dX6_init_71 : decode cX6_init 71 = .ok (.newarray .long, 2) := by decide +kernel
theorem dX6_init_73 : decode cX6_init 73 = .ok (.putfield 38, 3) := by decide +kernel
theorem dX6_init_76 : decode cX6_init 76 = .ok (.aload_n 0, 1) := by decide +kernel
theorem dX6_init_77 : decode cX6_init 77 = .ok (.iconst 3, 1) := by decide +kernel
theorem dX6_init_78 : decode cX6_init 78 = .ok (.newarray .long, 2) := by decide +kernel
theorem dX6_init_80 : decode cX6_init 80 = .ok (.putfield 41, 3) := by decide +kernel
theorem dX6_init_83 : decode cX6_init 83 = .ok (.aload_n 0, 1) := by decide +kernel
theorem dX6_init_84 : decode cX6_init 84 = .ok (.iconst 3, 1) := by decide +kernel
theorem dX6_init_85 : decode cX6_init 85 = .ok (.newarray .long, 2) := by decide +kernel
theorem dX6_init_87 : decode cX6_init 87 = .ok (.putfield 44, 3) := by decide +kernel
theorem dX6_init_90 : decode cX6_init 90 = .ok (.aload_n 0, 1) := by decide +kernel
theorem dX6_init_91 : decode cX6_init 91 = .ok (.iconst 3, 1) := by decide +kernel
theorem dX6_init_92 : decode cX6_init 92 = .ok (.newarray .long, 2) := by decide +kernel
theorem dX6_init_94 : decode cX6_init 94 = .ok (.putfield 47, 3) := by decide +kernel
theorem dX6_init_97 : decode cX6_init 97 = .ok (.aload_n 0, 1) := by decide +kernel
theorem dX6_init_98 : decode cX6_init 98 = .ok (.iconst 3, 1) := by decide +kernel
theorem dX6_init_99 : decode cX6_init 99 = .ok (.newarray .int, 2) := by decide +kernel
theorem dX6_init_101 : decode cX6_init 101 = .ok (.putfield 50, 3) := by decide +kernel
theorem dX6_init_104 : decode cX6_init 104 = .ok (.aload_n 0, 1) := by decide +kernel
theorem dX6_init_105 : decode cX6_init 105 = .ok (.iconst 3, 1) := by decide +kernel
theorem dX6_init_106 : decode cX6_init 106 = .ok (.newarray .int, 2) := by decide +kernel
theorem dX6_init_108 : decode cX6_init 108 = .ok (.putfield 53, 3) := by decide +kernel
theorem dX6_init_111 : decode cX6_init 111 = .ok (.aload_n 0, 1) := by decide +kernel
theorem dX6_init_112 : decode cX6_init 112 = .ok (.iconst 3, 1) := by decide +kernel
theorem dX6_init_113 : decode cX6_init 113 = .ok (.newarray .int, 2) := by decide +kernel
theorem dX6_init_115 : decode cX6_init 115 = .ok (.putfield 56, 3) := by decide +kernel
theorem dX6_init_118 : decode cX6_init 118 = .ok (.aload_n 0, 1) := by decide +kernel
theorem dX6_init_119 : decode cX6_init 119 = .ok (.iconst 3, 1) := by decide +kernel
theorem dX6_init_120 : decode cX6_init 120 = .ok (.newarray .long, 2) := by decide +kernel
theorem dX6_init_122 : decode cX6_init 122 = .ok (.putfield 59, 3) := by decide +kernel
theorem dX6_init_125 : decode cX6_init 125 = .ok (.aload_n 0, 1) := by decide +kernel
theorem dX6_init_126 : decode cX6_init 126 = .ok (.iconst 3, 1) := by decide +kernel
theorem dX6_init_127 : decode cX6_init 127 = .ok (.newarray .boolean, 2) := by decide +kernel
theorem dX6_init_129 : decode cX6_init 129 = .ok (.putfield 62, 3) := by decide +kernel
theorem dX6_init_132 : decode cX6_init 132 = .ok (.aload_n 0, 1) := by decide +kernel
theorem dX6_init_133 : decode cX6_init 133 = .ok (.iconst 3, 1) := by decide +kernel
theorem dX6_init_134 : decode cX6_init 134 = .ok (.newarray .boolean, 2) := by decide +kernel
theorem dX6_init_136 : decode cX6_init 136 = .ok (.putfield 66, 3) := by decide +kernel
theorem dX6_init_139 : decode cX6_init 139 = .ok (.aload_n 0, 1) := by decide +kernel
theorem dX6_init_140 : decode cX6_init 140 = .ok (.iconst 3, 1) := by decide +kernel
theorem dX6_init_141 : decode cX6_init 141 = .ok (.newarray .boolean, 2) := by decide +kernel
theorem dX6_init_143 : decode cX6_init 143 = .ok (.putfield 69, 3) := by decide +kernel
theorem dX6_init_146 : decode cX6_init 146 = .ok (.aload_n 0, 1) := by decide +kernel
theorem dX6_init_147 : decode cX6_init 147 = .ok (.iconst 3, 1) := by decide +kernel
theorem dX6_init_148 : decode cX6_init 148 = .ok (.newarray .int, 2) := by decide +kernel
theorem dX6_init_150 : decode cX6_init 150 = .ok (.putfield 72, 3) := by decide +kernel
theorem dX6_init_153 : decode cX6_init 153 = .ok (.aload_n 0, 1) := by decide +kernel
theorem dX6_init_154 : decode cX6_init 154 = .ok (.iconst 3, 1) := by decide +kernel
theorem dX6_init_155 : decode cX6_init 155 = .ok (.newarray .long, 2) := by decide +kernel
theorem dX6_init_157 : decode cX6_init 157 = .ok (.putfield 75, 3) := by decide +kernel
theorem dX6_init_160 : decode cX6_init 160 = .ok (.aload_n 0, 1) := by decide +kernel
theorem dX6_init_161 : decode cX6_init 161 = .ok (.iconst 3, 1) := by decide +kernel
theorem dX6_init_162 : decode cX6_init 162 = .ok (.newarray .long, 2) := by decide +kernel
theorem dX6_init_164 : decode cX6_init 164 = .ok (.putfield 78, 3) := by decide +kernel
theorem dX6_init_167 : decode cX6_init 167 = .ok (.aload_n 0, 1) := by decide +kernel
theorem dX6_init_168 : decode cX6_init 168 = .ok (.iconst 3, 1) := by decide +kernel
theorem dX6_init_169 : decode cX6_init 169 = .ok (.newarray .long, 2) := by decide +kernel
theorem dX6_init_171 : decode cX6_init 171 = .ok (.putfield 81, 3) := by decide +kernel
theorem dX6_init_174 : decode cX6_init 174 = .ok (.aload_n 0, 1) := by decide +kernel
theorem dX6_init_175 : decode cX6_init 175 = .ok (.iconst 3, 1) := by decide +kernel
theorem dX6_init_176 : decode cX6_init 176 = .ok (.newarray .boolean, 2) := by decide +kernel
theorem dX6_init_178 : decode cX6_init 178 = .ok (.putfield 84, 3) := by decide +kernel
theorem dX6_init_181 : decode cX6_init 181 = .ok (.aload_n 0, 1) := by decide +kernel
theorem dX6_init_182 : decode cX6_init 182 = .ok (.iconst 3, 1) := by decide +kernel
theorem dX6_init_183 : decode cX6_init 183 = .ok (.newarray .int, 2) := by decide +kernel
theorem dX6_init_185 : decode cX6_init 185 = .ok (.putfield 87, 3) := by decide +kernel
theorem dX6_init_188 : decode cX6_init 188 = .ok (.aload_n 0, 1) := by decide +kernel
theorem dX6_init_189 : decode cX6_init 189 = .ok (.bipush 15, 2) := by decide +kernel
theorem dX6_init_191 : decode cX6_init 191 = .ok (.newarray .long, 2) := by decide +kernel
theorem dX6_init_193 : decode cX6_init 193 = .ok (.putfield 90, 3) := by decide +kernel
theorem dX6_init_196 : decode cX6_init 196 = .ok (.aload_n 0, 1) := by decide +kernel
theorem dX6_init_197 : decode cX6_init 197 = .ok (.bipush 45, 2) := by decide +kernel
theorem dX6_init_199 : decode cX6_init 199 = .ok (.newarray .long, 2) := by decide +kernel
theorem dX6_init_201 : decode cX6_init 201 = .ok (.putfield 93, 3) := by decide +kernel
theorem dX6_init_204 : decode cX6_init 204 = .ok (.aload_n 0, 1) := by decide +kernel
theorem dX6_init_205 : decode cX6_init 205 = .ok (.iconst 3, 1) := by decide +kernel
theorem dX6_init_206 : decode cX6_init 206 = .ok (.newarray .int, 2) := by decide +kernel
theorem dX6_init_208 : decode cX6_init 208 = .ok (.putfield 96, 3) := by decide +kernel
theorem dX6_init_211 : decode cX6_init 211 = .ok (.aload_n 0, 1) := by decide +kernel
theorem dX6_init_212 : decode cX6_init 212 = .ok (.iconst 3, 1) := by decide +kernel
theorem dX6_init_213 : decode cX6_init 213 = .ok (.newarray .long, 2) := by decide +kernel
theorem dX6_init_215 : decode cX6_init 215 = .ok (.putfield 99, 3) := by decide +kernel
theorem dX6_init_218 : decode cX6_init 218 = .ok (.aload_n 0, 1) := by decide +kernel
theorem dX6_init_219 : decode cX6_init 219 = .ok (.iconst 3, 1) := by decide +kernel
theorem dX6_init_220 : decode cX6_init 220 = .ok (.newarray .int, 2) := by decide +kernel
theorem dX6_init_222 : decode cX6_init 222 = .ok (.putfield 102, 3) := by decide +kernel
theorem dX6_init_225 : decode cX6_init 225 = .ok (.aload_n 0, 1) := by decide +kernel
theorem dX6_init_226 : decode cX6_init 226 = .ok (.iconst 3, 1) := by decide +kernel
theorem dX6_init_227 : decode cX6_init 227 = .ok (.newarray .int, 2) := by decide +kernel
theorem dX6_init_229 : decode cX6_init 229 = .ok (.putfield 105, 3) := by decide +kernel
theorem dX6_init_232 : decode cX6_init 232 = .ok (.aload_n 0, 1) := by decide +kernel
theorem dX6_init_233 : decode cX6_init 233 = .ok (.iconst 3, 1) := by decide +kernel
theorem dX6_init_234 : decode cX6_init 234 = .ok (.newarray .boolean, 2) := by decide +kernel
theorem dX6_init_236 : decode cX6_init 236 = .ok (.putfield 108, 3) := by decide +kernel
theorem dX6_init_239 : decode cX6_init 239 = .ok (.aload_n 0, 1) := by decide +kernel
theorem dX6_init_240 : decode cX6_init 240 = .ok (.iconst 3, 1) := by decide +kernel
theorem dX6_init_241 : decode cX6_init 241 = .ok (.newarray .int, 2) := by decide +kernel
theorem dX6_init_243 : decode cX6_init 243 = .ok (.putfield 111, 3) := by decide +kernel
theorem dX6_init_246 : decode cX6_init 246 = .ok (.aload_n 0, 1) := by decide +kernel
theorem dX6_init_247 : decode cX6_init 247 = .ok (.iconst 3, 1) := by decide +kernel
theorem dX6_init_248 : decode cX6_init 248 = .ok (.newarray .int, 2) := by decide +kernel
theorem dX6_init_250 : decode cX6_init 250 = .ok (.putfield 114, 3) := by decide +kernel
theorem dX6_init_253 : decode cX6_init 253 = .ok (.aload_n 0, 1) := by decide +kernel
theorem dX6_init_254 : decode cX6_init 254 = .ok (.iconst 3, 1) := by decide +kernel
theorem dX6_init_255 : decode cX6_init 255 = .ok (.newarray .int, 2) := by decide +kernel
theorem dX6_init_257 : decode cX6_init 257 = .ok (.putfield 117, 3) := by decide +kernel
theorem dX6_init_260 : decode cX6_init 260 = .ok (.aload_n 0, 1) := by decide +kernel
theorem dX6_init_261 : decode cX6_init 261 = .ok (.iconst 3, 1) := by decide +kernel
theorem dX6_init_262 : decode cX6_init 262 = .ok (.newarray .long, 2) := by decide +kernel
theorem dX6_init_264 : decode cX6_init 264 = .ok (.putfield 120, 3) := by decide +kernel
theorem dX6_init_267 : decode cX6_init 267 = .ok (.aload_n 0, 1) := by decide +kernel
theorem dX6_init_268 : decode cX6_init 268 = .ok (.iconst 3, 1) := by decide +kernel
theorem dX6_init_269 : decode cX6_init 269 = .ok (.newarray .long, 2) := by decide +kernel
theorem dX6_init_271 : decode cX6_init 271 = .ok (.putfield 123, 3) := by decide +kernel
theorem dX6_init_274 : decode cX6_init 274 = .ok (.aload_n 0, 1) := by decide +kernel
theorem dX6_init_275 : decode cX6_init 275 = .ok (.iconst 3, 1) := by decide +kernel
theorem dX6_init_276 : decode cX6_init 276 = .ok (.newarray .int, 2) := by decide +kernel
theorem dX6_init_278 : decode cX6_init 278 = .ok (.putfield 126, 3) := by decide +kernel
theorem dX6_init_281 : decode cX6_init 281 = .ok (.aload_n 0, 1) := by decide +kernel
theorem dX6_init_282 : decode cX6_init 282 = .ok (.iconst 3, 1) := by decide +kernel
theorem dX6_init_283 : decode cX6_init 283 = .ok (.newarray .long, 2) := by decide +kernel
theorem dX6_init_285 : decode cX6_init 285 = .ok (.putfield 129, 3) := by decide +kernel
theorem dX6_init_288 : decode cX6_init 288 = .ok (.iconst 0, 1) := by decide +kernel
theorem dX6_init_289 : decode cX6_init 289 = .ok (.istore_n 1, 1) := by decide +kernel
theorem dX6_init_290 : decode cX6_init 290 = .ok (.iload_n 1, 1) := by decide +kernel
theorem dX6_init_291 : decode cX6_init 291 = .ok (.iconst 3, 1) := by decide +kernel
theorem dX6_init_292 : decode cX6_init 292 = .ok (.if_icmp .ge 69, 3) := by decide +kernel
theorem dX6_init_295 : decode cX6_init 295 = .ok (.aload_n 0, 1) := by decide +kernel
theorem dX6_init_296 : decode cX6_init 296 = .ok (.getfield 7, 3) := by decide +kernel
theorem dX6_init_299 : decode cX6_init 299 = .ok (.iload_n 1, 1) := by decide +kernel
theorem dX6_init_300 : decode cX6_init 300 = .ok (.ldc2_w 132, 3) := by decide +kernel
theorem dX6_init_303 : decode cX6_init 303 = .ok (.lastore, 1) := by decide +kernel
theorem dX6_init_304 : decode cX6_init 304 = .ok (.aload_n 0, 1) := by decide +kernel
theorem dX6_init_305 : decode cX6_init 305 = .ok (.getfield 16, 3) := by decide +kernel
theorem dX6_init_308 : decode cX6_init 308 = .ok (.iload_n 1, 1) := by decide +kernel
theorem dX6_init_309 : decode cX6_init 309 = .ok (.ldc2_w 134, 3) := by decide +kernel
theorem dX6_init_312 : decode cX6_init 312 = .ok (.lastore, 1) := by decide +kernel
theorem dX6_init_313 : decode cX6_init 313 = .ok (.aload_n 0, 1) := by decide +kernel
theorem dX6_init_314 : decode cX6_init 314 = .ok (.getfield 35, 3) := by decide +kernel
theorem dX6_init_317 : decode cX6_init 317 = .ok (.iconst 3, 1) := by decide +kernel
theorem dX6_init_318 : decode cX6_init 318 = .ok (.iload_n 1, 1) := by decide +kernel
theorem dX6_init_319 : decode cX6_init 319 = .ok (.imul, 1) := by decide +kernel
theorem dX6_init_320 : decode cX6_init 320 = .ok (.ldc2_w 136, 3) := by decide +kernel
theorem dX6_init_323 : decode cX6_init 323 = .ok (.lastore, 1) := by decide +kernel
theorem dX6_init_324 : decode cX6_init 324 = .ok (.aload_n 0, 1) := by decide +kernel
theorem dX6_init_325 : decode cX6_init 325 = .ok (.getfield 35, 3) := by decide +kernel
theorem dX6_init_328 : decode cX6_init 328 = .ok (.iconst 3, 1) := by decide +kernel
theorem dX6_init_329 : decode cX6_init 329 = .ok (.iload_n 1, 1) := by decide +kernel
theorem dX6_init_330 : decode cX6_init 330 = .ok (.imul, 1) := by decide +kernel
theorem dX6_init_331 : decode cX6_init 331 = .ok (.iconst 1, 1) := by decide +kernel
theorem dX6_init_332 : decode cX6_init 332 = .ok (.iadd, 1) := by decide +kernel
theorem dX6_init_333 : decode cX6_init 333 = .ok (.ldc2_w 138, 3) := by decide +kernel
theorem dX6_init_336 : decode cX6_init 336 = .ok (.lastore, 1) := by decide +kernel
theorem dX6_init_337 : decode cX6_init 337 = .ok (.aload_n 0, 1) := by decide +kernel
theorem dX6_init_338 : decode cX6_init 338 = .ok (.getfield 41, 3) := by decide +kernel
theorem dX6_init_341 : decode cX6_init 341 = .ok (.iload_n 1, 1) := by decide +kernel
theorem dX6_init_342 : decode cX6_init 342 = .ok (.ldc2_w 140, 3) := by decide +kernel
theorem dX6_init_345 : decode cX6_init 345 = .ok (.lastore, 1) := by decide +kernel
theorem dX6_init_346 : decode cX6_init 346 = .ok (.aload_n 0, 1) := by decide +kernel
theorem dX6_init_347 : decode cX6_init 347 = .ok (.getfield 53, 3) := by decide +kernel
theorem dX6_init_350 : decode cX6_init 350 = .ok (.iload_n 1, 1) := by decide +kernel
theorem dX6_init_351 : decode cX6_init 351 = .ok (.sipush 500, 3) := by decide +kernel
theorem dX6_init_354 : decode cX6_init 354 = .ok (.iastore, 1) := by decide +kernel
theorem dX6_init_355 : decode cX6_init 355 = .ok (.iinc 1 1, 3) := by decide +kernel
theorem dX6_init_358 : decode cX6_init 358 = .ok (.goto (-68), 3) := by decide +kernel
theorem dX6_init_361 : decode cX6_init 361 = .ok (.return_, 1) := by decide +kernel
theorem dX6_thrown_0 : decode cX6_thrown 0 = .ok (.aload_n 0, 1) := by decide +kernel
theorem dX6_thrown_1 : decode cX6_thrown 1 = .ok (.getfield 142, 3) := by decide +kernel
theorem dX6_thrown_4 : decode cX6_thrown 4 = .ok (.ireturn, 1) := by decide +kernel
theorem dX6_can_0 : decode cX6_can 0 = .ok (.aload_n 0, 1) := by decide +kernel
theorem dX6_can_1 : decode cX6_can 1 = .ok (.iload_n 1, 1) := by decide +kernel
theorem dX6_can_2 : decode cX6_can 2 = .ok (.putfield 142, 3) := by decide +kernel
theorem dX6_can_5 : decode cX6_can 5 = .ok (.iload_n 1, 1) := by decide +kernel
theorem dX6_can_6 : decode cX6_can 6 = .ok (.ifCond .ne 7, 3) := by decide +kernel
theorem dX6_can_9 : decode cX6_can 9 = .ok (.iconst 1, 1) := by decide +kernel
theorem dX6_can_10 : decode cX6_can 10 = .ok (.goto 4, 3) := by decide +kernel
theorem dX6_can_13 : decode cX6_can 13 = .ok (.iconst 0, 1) := by decide +kernel
theorem dX6_can_14 : decode cX6_can 14 = .ok (.ireturn, 1) := by decide +kernel
theorem dX6_isLoop_0 : decode cX6_isLoop 0 = .ok (.iload_n 0, 1) := by decide +kernel
theorem dX6_isLoop_1 : decode cX6_isLoop 1 = .ok (.ifCond .lt 12, 3) := by decide +kernel
theorem dX6_isLoop_4 : decode cX6_isLoop 4 = .ok (.iload_n 0, 1) := by decide +kernel
theorem dX6_isLoop_5 : decode cX6_isLoop 5 = .ok (.iconst 3, 1) := by decide +kernel
theorem dX6_isLoop_6 : decode cX6_isLoop 6 = .ok (.if_icmp .ge 7, 3) := by decide +kernel
theorem dX6_isLoop_9 : decode cX6_isLoop 9 = .ok (.iconst 1, 1) := by decide +kernel
theorem dX6_isLoop_10 : decode cX6_isLoop 10 = .ok (.goto 4, 3) := by decide +kernel
theorem dX6_isLoop_13 : decode cX6_isLoop 13 = .ok (.iconst 0, 1) := by decide +kernel
theorem dX6_isLoop_14 : decode cX6_isLoop 14 = .ok (.ireturn, 1) := by decide +kernel
theorem dX6_isIn_0 : decode cX6_isIn 0 = .ok (.iload_n 0, 1) := by decide +kernel
theorem dX6_isIn_1 : decode cX6_isIn 1 = .ok (.iload_n 1, 1) := by decide +kernel
theorem dX6_isIn_2 : decode cX6_isIn 2 = .ok (.if_icmp .lt 12, 3) := by decide +kernel
theorem dX6_isIn_5 : decode cX6_isIn 5 = .ok (.iload_n 0, 1) := by decide +kernel
theorem dX6_isIn_6 : decode cX6_isIn 6 = .ok (.iload_n 2, 1) := by decide +kernel
theorem dX6_isIn_7 : decode cX6_isIn 7 = .ok (.if_icmp .gt 7, 3) := by decide +kernel
theorem dX6_isIn_10 : decode cX6_isIn 10 = .ok (.iconst 1, 1) := by decide +kernel
theorem dX6_isIn_11 : decode cX6_isIn 11 = .ok (.goto 4, 3) := by decide +kernel
theorem dX6_isIn_14 : decode cX6_isIn 14 = .ok (.iconst 0, 1) := by decide +kernel
theorem dX6_isIn_15 : decode cX6_isIn 15 = .ok (.ireturn, 1) := by decide +kernel
theorem dX6_floor_0 : decode cX6_floor 0 = .ok (.lload_n 0, 1) := by decide +kernel
theorem dX6_floor_1 : decode cX6_floor 1 = .ok (.lload_n 2, 1) := by decide +kernel
theorem dX6_floor_2 : decode cX6_floor 2 = .ok (.ldiv, 1) := by decide +kernel
theorem dX6_floor_3 : decode cX6_floor 3 = .ok (.lstore 4, 2) := by decide +kernel
theorem dX6_floor_5 : decode cX6_floor 5 = .ok (.lload 4, 2) := by decide +kernel
theorem dX6_floor_7 : decode cX6_floor 7 = .ok (.lload_n 2, 1) := by decide +kernel
theorem dX6_floor_8 : decode cX6_floor 8 = .ok (.lmul, 1) := by decide +kernel
theorem dX6_floor_9 : decode cX6_floor 9 = .ok (.lload_n 0, 1) := by decide +kernel
theorem dX6_floor_10 : decode cX6_floor 10 = .ok (.lcmp, 1) := by decide +kernel
theorem dX6_floor_11 : decode cX6_floor 11 = .ok (.ifCond .le 10, 3) := by decide +kernel
theorem dX6_floor_14 : decode cX6_floor 14 = .ok (.lload 4, 2) := by decide +kernel
theorem dX6_floor_16 : decode cX6_floor 16 = .ok (.lconst 1, 1) := by decide +kernel
theorem dX6_floor_17 : decode cX6_floor 17 = .ok (.lsub, 1) := by decide +kernel
theorem dX6_floor_18 : decode cX6_floor 18 = .ok (.goto 5, 3) := by decide +kernel
theorem dX6_floor_21 : decode cX6_floor 21 = .ok (.lload 4, 2) := by decide +kernel
theorem dX6_floor_23 : decode cX6_floor 23 = .ok (.lreturn, 1) := by decide +kernel
theorem dX6_within_0 : decode cX6_within 0 = .ok (.lload_n 0, 1) := by decide +kernel
theorem dX6_within_1 : decode cX6_within 1 = .ok (.lload_n 2, 1) := by decide +kernel
theorem dX6_within_2 : decode cX6_within 2 = .ok (.lcmp, 1) := by decide +kernel
theorem dX6_within_3 : decode cX6_within 3 = .ok (.ifCond .ge 7, 3) := by decide +kernel
theorem dX6_within_6 : decode cX6_within 6 = .ok (.lload_n 2, 1) := by decide +kernel
theorem dX6_within_7 : decode cX6_within 7 = .ok (.goto 16, 3) := by decide +kernel
theorem dX6_within_10 : decode cX6_within 10 = .ok (.lload_n 0, 1) := by decide +kernel
theorem dX6_within_11 : decode cX6_within 11 = .ok (.lload 4, 2) := by decide +kernel
theorem dX6_within_13 : decode cX6_within 13 = .ok (.lcmp, 1) := by decide +kernel
theorem dX6_within_14 : decode cX6_within 14 = .ok (.ifCond .le 8, 3) := by decide +kernel
theorem dX6_within_17 : decode cX6_within 17 = .ok (.lload 4, 2) := by decide +kernel
theorem dX6_within_19 : decode cX6_within 19 = .ok (.goto 4, 3) := by decide +kernel
theorem dX6_within_22 : decode cX6_within 22 = .ok (.lload_n 0, 1) := by decide +kernel
theorem dX6_within_23 : decode cX6_within 23 = .ok (.lreturn, 1) := by decide +kernel
theorem dX6_areGains_0 : decode cX6_areGains 0 = .ok (.iload_n 0, 1) := by decide +kernel
theorem dX6_areGains_1 : decode cX6_areGains 1 = .ok (.sipush (-20000), 3) := by decide +kernel
theorem dX6_areGains_4 : decode cX6_areGains 4 = .ok (.sipush 20000, 3) := by decide +kernel
theorem dX6_areGains_7 : decode cX6_areGains 7 = .ok (.invokestatic 146, 3) := by decide +kernel
theorem dX6_areGains_10 : decode cX6_areGains 10 = .ok (.ifCond .eq 31, 3) := by decide +kernel
theorem dX6_areGains_13 : decode cX6_areGains 13 = .ok (.iload_n 1, 1) := by decide +kernel
theorem dX6_areGains_14 : decode cX6_areGains 14 = .ok (.sipush (-5000), 3) := by decide +kernel
theorem dX6_areGains_17 : decode cX6_areGains 17 = .ok (.sipush 5000, 3) := by decide +kernel
theorem dX6_areGains_20 : decode cX6_areGains 20 = .ok (.invokestatic 146, 3) := by decide +kernel
theorem dX6_areGains_23 : decode cX6_areGains 23 = .ok (.ifCond .eq 18, 3) := by decide +kernel
theorem dX6_areGains_26 : decode cX6_areGains 26 = .ok (.iload_n 2, 1) := by decide +kernel
theorem dX6_areGains_27 : decode cX6_areGains 27 = .ok (.ldc 150, 2) := by decide +kernel
theorem dX6_areGains_29 : decode cX6_areGains 29 = .ok (.ldc 151, 2) := by decide +kernel
theorem dX6_areGains_31 : decode cX6_areGains 31 = .ok (.invokestatic 146, 3) := by decide +kernel
theorem dX6_areGains_34 : decode cX6_areGains 34 = .ok (.ifCond .eq 7, 3) := by decide +kernel
theorem dX6_areGains_37 : decode cX6_areGains 37 = .ok (.iconst 1, 1) := by decide +kernel
theorem dX6_areGains_38 : decode cX6_areGains 38 = .ok (.goto 4, 3) := by decide +kernel
theorem dX6_areGains_41 : decode cX6_areGains 41 = .ok (.iconst 0, 1) := by decide +kernel
theorem dX6_areGains_42 : decode cX6_areGains 42 = .ok (.ireturn, 1) := by decide +kernel
theorem dX6_error_0 : decode cX6_error 0 = .ok (.aload_n 0, 1) := by decide +kernel
theorem dX6_error_1 : decode cX6_error 1 = .ok (.getfield 44, 3) := by decide +kernel
theorem dX6_error_4 : decode cX6_error 4 = .ok (.iload_n 1, 1) := by decide +kernel
theorem dX6_error_5 : decode cX6_error 5 = .ok (.laload, 1) := by decide +kernel
theorem dX6_error_6 : decode cX6_error 6 = .ok (.aload_n 0, 1) := by decide +kernel
theorem dX6_error_7 : decode cX6_error 7 = .ok (.getfield 26, 3) := by decide +kernel
theorem dX6_error_10 : decode cX6_error 10 = .ok (.iload_n 1, 1) := by decide +kernel
theorem dX6_error_11 : decode cX6_error 11 = .ok (.laload, 1) := by decide +kernel
theorem dX6_error_12 : decode cX6_error 12 = .ok (.lsub, 1) := by decide +kernel
theorem dX6_error_13 : decode cX6_error 13 = .ok (.lreturn, 1) := by decide +kernel
theorem dX6_rate_0 : decode cX6_rate 0 = .ok (.aload_n 0, 1) := by decide +kernel
theorem dX6_rate_1 : decode cX6_rate 1 = .ok (.getfield 29, 3) := by decide +kernel
theorem dX6_rate_4 : decode cX6_rate 4 = .ok (.iload_n 1, 1) := by decide +kernel
theorem dX6_rate_5 : decode cX6_rate 5 = .ok (.laload, 1) := by decide +kernel
theorem dX6_rate_6 : decode cX6_rate 6 = .ok (.aload_n 0, 1) := by decide +kernel
theorem dX6_rate_7 : decode cX6_rate 7 = .ok (.getfield 26, 3) := by decide +kernel
theorem dX6_rate_10 : decode cX6_rate 10 = .ok (.iload_n 1, 1) := by decide +kernel
theorem dX6_rate_11 : decode cX6_rate 11 = .ok (.laload, 1) := by decide +kernel
theorem dX6_rate_12 : decode cX6_rate 12 = .ok (.lsub, 1) := by decide +kernel
theorem dX6_rate_13 : decode cX6_rate 13 = .ok (.lreturn, 1) := by decide +kernel
theorem dX6_latest_0 : decode cX6_latest 0 = .ok (.aload_n 0, 1) := by decide +kernel
theorem dX6_latest_1 : decode cX6_latest 1 = .ok (.getfield 32, 3) := by decide +kernel
theorem dX6_latest_4 : decode cX6_latest 4 = .ok (.bipush 11, 2) := by decide +kernel
theorem dX6_latest_6 : decode cX6_latest 6 = .ok (.iload_n 1, 1) := by decide +kernel
theorem dX6_latest_7 : decode cX6_latest 7 = .ok (.imul, 1) := by decide +kernel
theorem dX6_latest_8 : decode cX6_latest 8 = .ok (.laload, 1) := by decide +kernel
theorem dX6_latest_9 : decode cX6_latest 9 = .ok (.lreturn, 1) := by decide +kernel
theorem dX6_setPlant_0 : decode cX6_setPlant 0 = .ok (.iload_n 2, 1) := by decide +kernel
theorem dX6_setPlant_1 : decode cX6_setPlant 1 = .ok (.sipush (-2000), 3) := by decide +kernel
theorem dX6_setPlant_4 : decode cX6_setPlant 4 = .ok (.sipush 2000, 3) := by decide +kernel
theorem dX6_setPlant_7 : decode cX6_setPlant 7 = .ok (.invokestatic 146, 3) := by decide +kernel
theorem dX6_setPlant_10 : decode cX6_setPlant 10 = .ok (.ifCond .eq 45, 3) := by decide +kernel
theorem dX6_setPlant_13 : decode cX6_setPlant 13 = .ok (.iload_n 3, 1) := by decide +kernel
theorem dX6_setPlant_14 : decode cX6_setPlant 14 = .ok (.sipush (-1000), 3) := by decide +kernel
theorem dX6_setPlant_17 : decode cX6_setPlant 17 = .ok (.sipush 1000, 3) := by decide +kernel
theorem dX6_setPlant_20 : decode cX6_setPlant 20 = .ok (.invokestatic 146, 3) := by decide +kernel
theorem dX6_setPlant_23 : decode cX6_setPlant 23 = .ok (.ifCond .eq 32, 3) := by decide +kernel
theorem dX6_setPlant_26 : decode cX6_setPlant 26 = .ok (.iload 4, 2) := by decide +kernel
theorem dX6_setPlant_28 : decode cX6_setPlant 28 = .ok (.sipush (-2000), 3) := by decide +kernel
theorem dX6_setPlant_31 : decode cX6_setPlant 31 = .ok (.sipush 2000, 3) := by decide +kernel
theorem dX6_setPlant_34 : decode cX6_setPlant 34 = .ok (.invokestatic 146, 3) := by decide +kernel
theorem dX6_setPlant_37 : decode cX6_setPlant 37 = .ok (.ifCond .eq 18, 3) := by decide +kernel
theorem dX6_setPlant_40 : decode cX6_setPlant 40 = .ok (.iload 5, 2) := by decide +kernel
theorem dX6_setPlant_42 : decode cX6_setPlant 42 = .ok (.iconst 0, 1) := by decide +kernel
theorem dX6_setPlant_43 : decode cX6_setPlant 43 = .ok (.bipush 10, 2) := by decide +kernel
theorem dX6_setPlant_45 : decode cX6_setPlant 45 = .ok (.invokestatic 146, 3) := by decide +kernel
theorem dX6_setPlant_48 : decode cX6_setPlant 48 = .ok (.ifCond .eq 7, 3) := by decide +kernel
theorem dX6_setPlant_51 : decode cX6_setPlant 51 = .ok (.iconst 1, 1) := by decide +kernel
theorem dX6_setPlant_52 : decode cX6_setPlant 52 = .ok (.goto 4, 3) := by decide +kernel
theorem dX6_setPlant_55 : decode cX6_setPlant 55 = .ok (.iconst 0, 1) := by decide +kernel
theorem dX6_setPlant_56 : decode cX6_setPlant 56 = .ok (.istore 6, 2) := by decide +kernel
theorem dX6_setPlant_58 : decode cX6_setPlant 58 = .ok (.aload_n 0, 1) := by decide +kernel
theorem dX6_setPlant_59 : decode cX6_setPlant 59 = .ok (.iload_n 1, 1) := by decide +kernel
theorem dX6_setPlant_60 : decode cX6_setPlant 60 = .ok (.invokestatic 152, 3) := by decide +kernel
theorem dX6_setPlant_63 : decode cX6_setPlant 63 = .ok (.ifCond .ne 7, 3) := by decide +kernel
theorem dX6_setPlant_66 : decode cX6_setPlant 66 = .ok (.iconst 1, 1) := by decide +kernel
theorem dX6_setPlant_67 : decode cX6_setPlant 67 = .ok (.goto 13, 3) := by decide +kernel
theorem dX6_setPlant_70 : decode cX6_setPlant 70 = .ok (.iload 6, 2) := by decide +kernel
theorem dX6_setPlant_72 : decode cX6_setPlant 72 = .ok (.ifCond .eq 7, 3) := by decide +kernel
theorem dX6_setPlant_75 : decode cX6_setPlant 75 = .ok (.iconst 0, 1) := by decide +kernel
theorem dX6_setPlant_76 : decode cX6_setPlant 76 = .ok (.goto 4, 3) := by decide +kernel
theorem dX6_setPlant_79 : decode cX6_setPlant 79 = .ok (.iconst 2, 1) := by decide +kernel
theorem dX6_setPlant_80 : decode cX6_setPlant 80 = .ok (.invokevirtual 156, 3) := by decide +kernel
theorem dX6_setPlant_83 : decode cX6_setPlant 83 = .ok (.ifCond .eq 36, 3) := by decide +kernel
theorem dX6_setPlant_86 : decode cX6_setPlant 86 = .ok (.aload_n 0, 1) := by decide +kernel
theorem dX6_setPlant_87 : decode cX6_setPlant 87 = .ok (.getfield 7, 3) := by decide +kernel
theorem dX6_setPlant_90 : decode cX6_setPlant 90 = .ok (.iload_n 1, 1) := by decide +kernel
theorem dX6_setPlant_91 : decode cX6_setPlant 91 = .ok (.iload_n 2, 1) := by decide +kernel
theorem dX6_setPlant_92 : decode cX6_setPlant 92 = .ok (.i2l, 1) := by decide +kernel
theorem dX6_setPlant_93 : decode cX6_setPlant 93 = .ok (.lastore, 1) := by decide +kernel
theorem dX6_setPlant_94 : decode cX6_setPlant 94 = .ok (.aload_n 0, 1) := by decide +kernel
theorem dX6_setPlant_95 : decode cX6_setPlant 95 = .ok (.getfield 13, 3) := by decide +kernel
theorem dX6_setPlant_98 : decode cX6_setPlant 98 = .ok (.iload_n 1, 1) := by decide +kernel
theorem dX6_setPlant_99 : decode cX6_setPlant 99 = .ok (.iload_n 3, 1) := by decide +kernel
theorem dX6_setPlant_100 : decode cX6_setPlant 100 = .ok (.i2l, 1) := by decide +kernel
theorem dX6_setPlant_101 : decode cX6_setPlant 101 = .ok (.lastore, 1) := by decide +kernel
theorem dX6_setPlant_102 : decode cX6_setPlant 102 = .ok (.aload_n 0, 1) := by decide +kernel
theorem dX6_setPlant_103 : decode cX6_setPlant 103 = .ok (.getfield 16, 3) := by decide +kernel
theorem dX6_setPlant_106 : decode cX6_setPlant 106 = .ok (.iload_n 1, 1) := by decide +kernel
theorem dX6_setPlant_107 : decode cX6_setPlant 107 = .ok (.iload 4, 2) := by decide +kernel
theorem dX6_setPlant_109 : decode cX6_setPlant 109 = .ok (.i2l, 1) := by decide +kernel
theorem dX6_setPlant_110 : decode cX6_setPlant 110 = .ok (.lastore, 1) := by decide +kernel
theorem dX6_setPlant_111 : decode cX6_setPlant 111 = .ok (.aload_n 0, 1) := by decide +kernel
theorem dX6_setPlant_112 : decode cX6_setPlant 112 = .ok (.getfield 19, 3) := by decide +kernel
theorem dX6_setPlant_115 : decode cX6_setPlant 115 = .ok (.iload_n 1, 1) := by decide +kernel
theorem dX6_setPlant_116 : decode cX6_setPlant 116 = .ok (.iload 5, 2) := by decide +kernel
theorem dX6_setPlant_118 : decode cX6_setPlant 118 = .ok (.iastore, 1) := by decide +kernel
theorem dX6_setPlant_119 : decode cX6_setPlant 119 = .ok (.return_, 1) := by decide +kernel
theorem dX6_setLoad_0 : decode cX6_setLoad 0 = .ok (.aload_n 0, 1) := by decide +kernel
theorem dX6_setLoad_1 : decode cX6_setLoad 1 = .ok (.iload_n 1, 1) := by decide +kernel
theorem dX6_setLoad_2 : decode cX6_setLoad 2 = .ok (.invokestatic 152, 3) := by decide +kernel
theorem dX6_setLoad_5 : decode cX6_setLoad 5 = .ok (.ifCond .ne 7, 3) := by decide +kernel
theorem dX6_setLoad_8 : decode cX6_setLoad 8 = .ok (.iconst 1, 1) := by decide +kernel
theorem dX6_setLoad_9 : decode cX6_setLoad 9 = .ok (.goto 21, 3) := by decide +kernel
theorem dX6_setLoad_12 : decode cX6_setLoad 12 = .ok (.iload_n 2, 1) := by decide +kernel
theorem dX6_setLoad_13 : decode cX6_setLoad 13 = .ok (.sipush (-10000), 3) := by decide +kernel
theorem dX6_setLoad_16 : decode cX6_setLoad 16 = .ok (.sipush 10000, 3) := by decide +kernel
theorem dX6_setLoad_19 : decode cX6_setLoad 19 = .ok (.invokestatic 146, 3) := by decide +kernel
theorem dX6_setLoad_22 : decode cX6_setLoad 22 = .ok (.ifCond .eq 7, 3) := by decide +kernel
theorem dX6_setLoad_25 : decode cX6_setLoad 25 = .ok (.iconst 0, 1) := by decide +kernel
theorem dX6_setLoad_26 : decode cX6_setLoad 26 = .ok (.goto 4, 3) := by decide +kernel
theorem dX6_setLoad_29 : decode cX6_setLoad 29 = .ok (.iconst 2, 1) := by decide +kernel
theorem dX6_setLoad_30 : decode cX6_setLoad 30 = .ok (.invokevirtual 156, 3) := by decide +kernel
theorem dX6_setLoad_33 : decode cX6_setLoad 33 = .ok (.ifCond .ne 5, 3) := by decide +kernel
theorem dX6_setLoad_36 : decode cX6_setLoad 36 = .ok (.iconst 0, 1) := by decide +kernel
theorem dX6_setLoad_37 : decode cX6_setLoad 37 = .ok (.ireturn, 1) := by decide +kernel
theorem dX6_setLoad_38 : decode cX6_setLoad 38 = .ok (.aload_n 0, 1) := by decide +kernel
theorem dX6_setLoad_39 : decode cX6_setLoad 39 = .ok (.getfield 23, 3) := by decide +kernel
theorem dX6_setLoad_42 : decode cX6_setLoad 42 = .ok (.iload_n 1, 1) := by decide +kernel
theorem dX6_setLoad_43 : decode cX6_setLoad 43 = .ok (.iaload, 1) := by decide +kernel
theorem dX6_setLoad_44 : decode cX6_setLoad 44 = .ok (.istore_n 3, 1) := by decide +kernel
theorem dX6_setLoad_45 : decode cX6_setLoad 45 = .ok (.aload_n 0, 1) := by decide +kernel
theorem dX6_setLoad_46 : decode cX6_setLoad 46 = .ok (.getfield 23, 3) := by decide +kernel
theorem dX6_setLoad_49 : decode cX6_setLoad 49 = .ok (.iload_n 1, 1) := by decide +kernel
theorem dX6_setLoad_50 : decode cX6_setLoad 50 = .ok (.iload_n 2, 1) := by decide +kernel
theorem dX6_setLoad_51 : decode cX6_setLoad 51 = .ok (.iastore, 1) := by decide +kernel
theorem dX6_setLoad_52 : decode cX6_setLoad 52 = .ok (.iload_n 3, 1) := by decide +kernel
theorem dX6_setLoad_53 : decode cX6_setLoad 53 = .ok (.ireturn, 1) := by decide +kernel
theorem dX6_changes_0 : decode cX6_changes 0 = .ok (.aload_n 0, 1) := by decide +kernel
theorem dX6_changes_1 : decode cX6_changes 1 = .ok (.getfield 47, 3) := by decide +kernel
theorem dX6_changes_4 : decode cX6_changes 4 = .ok (.iload_n 1, 1) := by decide +kernel
theorem dX6_changes_5 : decode cX6_changes 5 = .ok (.dup2, 1) := by decide +kernel
theorem dX6_changes_6 : decode cX6_changes 6 = .ok (.laload, 1) := by decide +kernel
theorem dX6_changes_7 : decode cX6_changes 7 = .ok (.aload_n 0, 1) := by decide +kernel
theorem dX6_changes_8 : decode cX6_changes 8 = .ok (.getfield 35, 3) := by decide +kernel
theorem dX6_changes_11 : decode cX6_changes 11 = .ok (.iconst 3, 1) := by decide +kernel
theorem dX6_changes_12 : decode cX6_changes 12 = .ok (.iload_n 1, 1) := by decide +kernel
theorem dX6_changes_13 : decode cX6_changes 13 = .ok (.imul, 1) := by decide +kernel
theorem dX6_changes_14 : decode cX6_changes 14 = .ok (.laload, 1) := by decide +kernel
theorem dX6_changes_15 : decode cX6_changes 15 = .ok (.lload_n 2, 1) := by decide +kernel
theorem dX6_changes_16 : decode cX6_changes 16 = .ok (.lsub, 1) := by decide +kernel
theorem dX6_changes_17 : decode cX6_changes 17 = .ok (.aload_n 0, 1) := by decide +kernel
theorem dX6_changes_18 : decode cX6_changes 18 = .ok (.iload_n 1, 1) := by decide +kernel
theorem dX6_changes_19 : decode cX6_changes 19 = .ok (.invokevirtual 159, 3) := by decide +kernel
theorem dX6_changes_22 : decode cX6_changes 22 = .ok (.lmul, 1) := by decide +kernel
theorem dX6_changes_23 : decode cX6_changes 23 = .ok (.aload_n 0, 1) := by decide +kernel
theorem dX6_changes_24 : decode cX6_changes 24 = .ok (.getfield 35, 3) := by decide +kernel
theorem dX6_changes_27 : decode cX6_changes 27 = .ok (.iconst 3, 1) := by decide +kernel
theorem dX6_changes_28 : decode cX6_changes 28 = .ok (.iload_n 1, 1) := by decide +kernel
theorem dX6_changes_29 : decode cX6_changes 29 = .ok (.imul, 1) := by decide +kernel
theorem dX6_changes_30 : decode cX6_changes 30 = .ok (.iconst 2, 1) := by decide +kernel
theorem dX6_changes_31 : decode cX6_changes 31 = .ok (.iadd, 1) := by decide +kernel
theorem dX6_changes_32 : decode cX6_changes 32 = .ok (.laload, 1) := by decide +kernel
theorem dX6_changes_33 : decode cX6_changes 33 = .ok (.lload 6, 2) := by decide +kernel
theorem dX6_changes_35 : decode cX6_changes 35 = .ok (.lsub, 1) := by decide +kernel
theorem dX6_changes_36 : decode cX6_changes 36 = .ok (.aload_n 0, 1) := by decide +kernel
theorem dX6_changes_37 : decode cX6_changes 37 = .ok (.iload_n 1, 1) := by decide +kernel
theorem dX6_changes_38 : decode cX6_changes 38 = .ok (.invokevirtual 163, 3) := by decide +kernel
theorem dX6_changes_41 : decode cX6_changes 41 = .ok (.lmul, 1) := by decide +kernel
theorem dX6_changes_42 : decode cX6_changes 42 = .ok (.ladd, 1) := by decide +kernel
theorem dX6_changes_43 : decode cX6_changes 43 = .ok (.ladd, 1) := by decide +kernel
theorem dX6_changes_44 : decode cX6_changes 44 = .ok (.lastore, 1) := by decide +kernel
theorem dX6_changes_45 : decode cX6_changes 45 = .ok (.aload_n 0, 1) := by decide +kernel
theorem dX6_changes_46 : decode cX6_changes 46 = .ok (.getfield 35, 3) := by decide +kernel
theorem dX6_changes_49 : decode cX6_changes 49 = .ok (.iconst 3, 1) := by decide +kernel
theorem dX6_changes_50 : decode cX6_changes 50 = .ok (.iload_n 1, 1) := by decide +kernel
theorem dX6_changes_51 : decode cX6_changes 51 = .ok (.imul, 1) := by decide +kernel
theorem dX6_changes_52 : decode cX6_changes 52 = .ok (.lload_n 2, 1) := by decide +kernel
theorem dX6_changes_53 : decode cX6_changes 53 = .ok (.lastore, 1) := by decide +kernel
theorem dX6_changes_54 : decode cX6_changes 54 = .ok (.aload_n 0, 1) := by decide +kernel
theorem dX6_changes_55 : decode cX6_changes 55 = .ok (.getfield 35, 3) := by decide +kernel
theorem dX6_changes_58 : decode cX6_changes 58 = .ok (.iconst 3, 1) := by decide +kernel
theorem dX6_changes_59 : decode cX6_changes 59 = .ok (.iload_n 1, 1) := by decide +kernel
theorem dX6_changes_60 : decode cX6_changes 60 = .ok (.imul, 1) := by decide +kernel
theorem dX6_changes_61 : decode cX6_changes 61 = .ok (.iconst 1, 1) := by decide +kernel
theorem dX6_changes_62 : decode cX6_changes 62 = .ok (.iadd, 1) := by decide +kernel
theorem dX6_changes_63 : decode cX6_changes 63 = .ok (.lload 4, 2) := by decide +kernel
theorem dX6_changes_65 : decode cX6_changes 65 = .ok (.lastore, 1) := by decide +kernel
theorem dX6_changes_66 : decode cX6_changes 66 = .ok (.aload_n 0, 1) := by decide +kernel
theorem dX6_changes_67 : decode cX6_changes 67 = .ok (.getfield 35, 3) := by decide +kernel
theorem dX6_changes_70 : decode cX6_changes 70 = .ok (.iconst 3, 1) := by decide +kernel
theorem dX6_changes_71 : decode cX6_changes 71 = .ok (.iload_n 1, 1) := by decide +kernel
theorem dX6_changes_72 : decode cX6_changes 72 = .ok (.imul, 1) := by decide +kernel
theorem dX6_changes_73 : decode cX6_changes 73 = .ok (.iconst 2, 1) := by decide +kernel
theorem dX6_changes_74 : decode cX6_changes 74 = .ok (.iadd, 1) := by decide +kernel
theorem dX6_changes_75 : decode cX6_changes 75 = .ok (.lload 6, 2) := by decide +kernel
theorem dX6_changes_77 : decode cX6_changes 77 = .ok (.lastore, 1) := by decide +kernel
theorem dX6_changes_78 : decode cX6_changes 78 = .ok (.return_, 1) := by decide +kernel
theorem dX6_setGains_0 : decode cX6_setGains 0 = .ok (.aload_n 0, 1) := by decide +kernel
theorem dX6_setGains_1 : decode cX6_setGains 1 = .ok (.iload_n 1, 1) := by decide +kernel
theorem dX6_setGains_2 : decode cX6_setGains 2 = .ok (.invokestatic 152, 3) := by decide +kernel
theorem dX6_setGains_5 : decode cX6_setGains 5 = .ok (.ifCond .ne 7, 3) := by decide +kernel
theorem dX6_setGains_8 : decode cX6_setGains 8 = .ok (.iconst 1, 1) := by decide +kernel
theorem dX6_setGains_9 : decode cX6_setGains 9 = .ok (.goto 32, 3) := by decide +kernel
theorem dX6_setGains_12 : decode cX6_setGains 12 = .ok (.iload_n 2, 1) := by decide +kernel
theorem dX6_setGains_13 : decode cX6_setGains 13 = .ok (.iload_n 3, 1) := by decide +kernel
theorem dX6_setGains_14 : decode cX6_setGains 14 = .ok (.iload 4, 2) := by decide +kernel
theorem dX6_setGains_16 : decode cX6_setGains 16 = .ok (.invokestatic 166, 3) := by decide +kernel
theorem dX6_setGains_19 : decode cX6_setGains 19 = .ok (.ifCond .ne 7, 3) := by decide +kernel
theorem dX6_setGains_22 : decode cX6_setGains 22 = .ok (.iconst 2, 1) := by decide +kernel
theorem dX6_setGains_23 : decode cX6_setGains 23 = .ok (.goto 18, 3) := by decide +kernel
theorem dX6_setGains_26 : decode cX6_setGains 26 = .ok (.aload_n 0, 1) := by decide +kernel
theorem dX6_setGains_27 : decode cX6_setGains 27 = .ok (.getfield 56, 3) := by decide +kernel
theorem dX6_setGains_30 : decode cX6_setGains 30 = .ok (.iload_n 1, 1) := by decide +kernel
theorem dX6_setGains_31 : decode cX6_setGains 31 = .ok (.iaload, 1) := by decide +kernel
theorem dX6_setGains_32 : decode cX6_setGains 32 = .ok (.iconst 3, 1) := by decide +kernel
theorem dX6_setGains_33 : decode cX6_setGains 33 = .ok (.if_icmp .ne 7, 3) := by decide +kernel
theorem dX6_setGains_36 : decode cX6_setGains 36 = .ok (.iconst 3, 1) := by decide +kernel
theorem dX6_setGains_37 : decode cX6_setGains 37 = .ok (.goto 4, 3) := by decide +kernel
theorem dX6_setGains_40 : decode cX6_setGains 40 = .ok (.iconst 0, 1) := by decide +kernel
theorem dX6_setGains_41 : decode cX6_setGains 41 = .ok (.invokevirtual 156, 3) := by decide +kernel
theorem dX6_setGains_44 : decode cX6_setGains 44 = .ok (.ifCond .ne 5, 3) := by decide +kernel
theorem dX6_setGains_47 : decode cX6_setGains 47 = .ok (.iconst 0, 1) := by decide +kernel
theorem dX6_setGains_48 : decode cX6_setGains 48 = .ok (.ireturn, 1) := by decide +kernel
theorem dX6_setGains_49 : decode cX6_setGains 49 = .ok (.aload_n 0, 1) := by decide +kernel
theorem dX6_setGains_50 : decode cX6_setGains 50 = .ok (.getfield 87, 3) := by decide +kernel
theorem dX6_setGains_53 : decode cX6_setGains 53 = .ok (.iload_n 1, 1) := by decide +kernel
theorem dX6_setGains_54 : decode cX6_setGains 54 = .ok (.iaload, 1) := by decide +kernel
theorem dX6_setGains_55 : decode cX6_setGains 55 = .ok (.istore 5, 2) := by decide +kernel
theorem dX6_setGains_57 : decode cX6_setGains 57 = .ok (.aload_n 0, 1) := by decide +kernel
theorem dX6_setGains_58 : decode cX6_setGains 58 = .ok (.getfield 87, 3) := by decide +kernel
theorem dX6_setGains_61 : decode cX6_setGains 61 = .ok (.iload_n 1, 1) := by decide +kernel
theorem dX6_setGains_62 : decode cX6_setGains 62 = .ok (.iconst 0, 1) := by decide +kernel
theorem dX6_setGains_63 : decode cX6_setGains 63 = .ok (.iastore, 1) := by decide +kernel
theorem dX6_setGains_64 : decode cX6_setGains 64 = .ok (.aload_n 0, 1) := by decide +kernel
theorem dX6_setGains_65 : decode cX6_setGains 65 = .ok (.iload_n 1, 1) := by decide +kernel
theorem dX6_setGains_66 : decode cX6_setGains 66 = .ok (.iload_n 2, 1) := by decide +kernel
theorem dX6_setGains_67 : decode cX6_setGains 67 = .ok (.i2l, 1) := by decide +kernel
theorem dX6_setGains_68 : decode cX6_setGains 68 = .ok (.iload_n 3, 1) := by decide +kernel
theorem dX6_setGains_69 : decode cX6_setGains 69 = .ok (.i2l, 1) := by decide +kernel
theorem dX6_setGains_70 : decode cX6_setGains 70 = .ok (.iload 4, 2) := by decide +kernel
theorem dX6_setGains_72 : decode cX6_setGains 72 = .ok (.i2l, 1) := by decide +kernel
theorem dX6_setGains_73 : decode cX6_setGains 73 = .ok (.invokevirtual 169, 3) := by decide +kernel
theorem dX6_setGains_76 : decode cX6_setGains 76 = .ok (.iload 5, 2) := by decide +kernel
theorem dX6_setGains_78 : decode cX6_setGains 78 = .ok (.ireturn, 1) := by decide +kernel
theorem dX6_addPoint_0 : decode cX6_addPoint 0 = .ok (.iload_n 1, 1) := by decide +kernel
theorem dX6_addPoint_1 : decode cX6_addPoint 1 = .ok (.invokestatic 152, 3) := by decide +kernel
theorem dX6_addPoint_4 : decode cX6_addPoint 4 = .ok (.ifCond .eq 61, 3) := by decide +kernel
theorem dX6_addPoint_7 : decode cX6_addPoint 7 = .ok (.iload_n 3, 1) := by decide +kernel
theorem dX6_addPoint_8 : decode cX6_addPoint 8 = .ok (.iload 4, 2) := by decide +kernel
theorem dX6_addPoint_10 : decode cX6_addPoint 10 = .ok (.iload 5, 2) := by decide +kernel
theorem dX6_addPoint_12 : decode cX6_addPoint 12 = .ok (.invokestatic 166, 3) := by decide +kernel
theorem dX6_addPoint_15 : decode cX6_addPoint 15 = .ok (.ifCond .eq 50, 3) := by decide +kernel
theorem dX6_addPoint_18 : decode cX6_addPoint 18 = .ok (.iload_n 2, 1) := by decide +kernel
theorem dX6_addPoint_19 : decode cX6_addPoint 19 = .ok (.ldc 173, 2) := by decide +kernel
theorem dX6_addPoint_21 : decode cX6_addPoint 21 = .ok (.ldc 174, 2) := by decide +kernel
theorem dX6_addPoint_23 : decode cX6_addPoint 23 = .ok (.invokestatic 146, 3) := by decide +kernel
theorem dX6_addPoint_26 : decode cX6_addPoint 26 = .ok (.ifCond .eq 39, 3) := by decide +kernel
theorem dX6_addPoint_29 : decode cX6_addPoint 29 = .ok (.aload_n 0, 1) := by decide +kernel
theorem dX6_addPoint_30 : decode cX6_addPoint 30 = .ok (.getfield 87, 3) := by decide +kernel
theorem dX6_addPoint_33 : decode cX6_addPoint 33 = .ok (.iload_n 1, 1) := by decide +kernel
theorem dX6_addPoint_34 : decode cX6_addPoint 34 = .ok (.iaload, 1) := by decide +kernel
theorem dX6_addPoint_35 : decode cX6_addPoint 35 = .ok (.ifCond .eq 26, 3) := by decide +kernel
theorem dX6_addPoint_38 : decode cX6_addPoint 38 = .ok (.iload_n 2, 1) := by decide +kernel
theorem dX6_addPoint_39 : decode cX6_addPoint 39 = .ok (.i2l, 1) := by decide +kernel
theorem dX6_addPoint_40 : decode cX6_addPoint 40 = .ok (.aload_n 0, 1) := by decide +kernel
theorem dX6_addPoint_41 : decode cX6_addPoint 41 = .ok (.getfield 90, 3) := by decide +kernel
theorem dX6_addPoint_44 : decode cX6_addPoint 44 = .ok (.iconst 5, 1) := by decide +kernel
theorem dX6_addPoint_45 : decode cX6_addPoint 45 = .ok (.iload_n 1, 1) := by decide +kernel
theorem dX6_addPoint_46 : decode cX6_addPoint 46 = .ok (.imul, 1) := by decide +kernel
theorem dX6_addPoint_47 : decode cX6_addPoint 47 = .ok (.aload_n 0, 1) := by decide +kernel
theorem dX6_addPoint_48 : decode cX6_addPoint 48 = .ok (.getfield 87, 3) := by decide +kernel
theorem dX6_addPoint_51 : decode cX6_addPoint 51 = .ok (.iload_n 1, 1) := by decide +kernel
theorem dX6_addPoint_52 : decode cX6_addPoint 52 = .ok (.iaload, 1) := by decide +kernel
theorem dX6_addPoint_53 : decode cX6_addPoint 53 = .ok (.iadd, 1) := by decide +kernel
theorem dX6_addPoint_54 : decode cX6_addPoint 54 = .ok (.iconst 1, 1) := by decide +kernel
theorem dX6_addPoint_55 : decode cX6_addPoint 55 = .ok (.isub, 1) := by decide +kernel
theorem dX6_addPoint_56 : decode cX6_addPoint 56 = .ok (.laload, 1) := by decide +kernel
theorem dX6_addPoint_57 : decode cX6_addPoint 57 = .ok (.lcmp, 1) := by decide +kernel
theorem dX6_addPoint_58 : decode cX6_addPoint 58 = .ok (.ifCond .le 7, 3) := by decide +kernel
theorem dX6_addPoint_61 : decode cX6_addPoint 61 = .ok (.iconst 1, 1) := by decide +kernel
theorem dX6_addPoint_62 : decode cX6_addPoint 62 = .ok (.goto 4, 3) := by decide +kernel
theorem dX6_addPoint_65 : decode cX6_addPoint 65 = .ok (.iconst 0, 1) := by decide +kernel
theorem dX6_addPoint_66 : decode cX6_addPoint 66 = .ok (.istore 6, 2) := by decide +kernel
theorem dX6_addPoint_68 : decode cX6_addPoint 68 = .ok (.aload_n 0, 1) := by decide +kernel
theorem dX6_addPoint_69 : decode cX6_addPoint 69 = .ok (.iload_n 1, 1) := by decide +kernel
theorem dX6_addPoint_70 : decode cX6_addPoint 70 = .ok (.invokestatic 152, 3) := by decide +kernel
theorem dX6_addPoint_73 : decode cX6_addPoint 73 = .ok (.ifCond .ne 7, 3) := by decide +kernel
theorem dX6_addPoint_76 : decode cX6_addPoint 76 = .ok (.iconst 1, 1) := by decide +kernel
theorem dX6_addPoint_77 : decode cX6_addPoint 77 = .ok (.goto 27, 3) := by decide +kernel
theorem dX6_addPoint_80 : decode cX6_addPoint 80 = .ok (.iload 6, 2) := by decide +kernel
theorem dX6_addPoint_82 : decode cX6_addPoint 82 = .ok (.ifCond .ne 7, 3) := by decide +kernel
theorem dX6_addPoint_85 : decode cX6_addPoint 85 = .ok (.iconst 2, 1) := by decide +kernel
theorem dX6_addPoint_86 : decode cX6_addPoint 86 = .ok (.goto 18, 3) := by decide +kernel
theorem dX6_addPoint_89 : decode cX6_addPoint 89 = .ok (.aload_n 0, 1) := by decide +kernel
theorem dX6_addPoint_90 : decode cX6_addPoint 90 = .ok (.getfield 87, 3) := by decide +kernel
theorem dX6_addPoint_93 : decode cX6_addPoint 93 = .ok (.iload_n 1, 1) := by decide +kernel
theorem dX6_addPoint_94 : decode cX6_addPoint 94 = .ok (.iaload, 1) := by decide +kernel
theorem dX6_addPoint_95 : decode cX6_addPoint 95 = .ok (.iconst 5, 1) := by decide +kernel
theorem dX6_addPoint_96 : decode cX6_addPoint 96 = .ok (.if_icmp .ne 7, 3) := by decide +kernel
theorem dX6_addPoint_99 : decode cX6_addPoint 99 = .ok (.iconst 3, 1) := by decide +kernel
theorem dX6_addPoint_100 : decode cX6_addPoint 100 = .ok (.goto 4, 3) := by decide +kernel
theorem dX6_addPoint_103 : decode cX6_addPoint 103 = .ok (.iconst 0, 1) := by decide +kernel
theorem dX6_addPoint_104 : decode cX6_addPoint 104 = .ok (.invokevirtual 156, 3) := by decide +kernel
theorem dX6_addPoint_107 : decode cX6_addPoint 107 = .ok (.ifCond .ne 5, 3) := by decide +kernel
theorem dX6_addPoint_110 : decode cX6_addPoint 110 = .ok (.iconst 0, 1) := by decide +kernel
theorem dX6_addPoint_111 : decode cX6_addPoint 111 = .ok (.ireturn, 1) := by decide +kernel
theorem dX6_addPoint_112 : decode cX6_addPoint 112 = .ok (.iconst 5, 1) := by decide +kernel
theorem dX6_addPoint_113 : decode cX6_addPoint 113 = .ok (.iload_n 1, 1) := by decide +kernel
theorem dX6_addPoint_114 : decode cX6_addPoint 114 = .ok (.imul, 1) := by decide +kernel
theorem dX6_addPoint_115 : decode cX6_addPoint 115 = .ok (.aload_n 0, 1) := by decide +kernel
theorem dX6_addPoint_116 : decode cX6_addPoint 116 = .ok (.getfield 87, 3) := by decide +kernel
theorem dX6_addPoint_119 : decode cX6_addPoint 119 = .ok (.iload_n 1, 1) := by decide +kernel
theorem dX6_addPoint_120 : decode cX6_addPoint 120 = .ok (.iaload, 1) := by decide +kernel
theorem dX6_addPoint_121 : decode cX6_addPoint 121 = .ok (.iadd, 1) := by decide +kernel
theorem dX6_addPoint_122 : decode cX6_addPoint 122 = .ok (.istore 7, 2) := by decide +kernel
theorem dX6_addPoint_124 : decode cX6_addPoint 124 = .ok (.aload_n 0, 1) := by decide +kernel
theorem dX6_addPoint_125 : decode cX6_addPoint 125 = .ok (.getfield 90, 3) := by decide +kernel
theorem dX6_addPoint_128 : decode cX6_addPoint 128 = .ok (.iload 7, 2) := by decide +kernel
theorem dX6_addPoint_130 : decode cX6_addPoint 130 = .ok (.iload_n 2, 1) := by decide +kernel
theorem dX6_addPoint_131 : decode cX6_addPoint 131 = .ok (.i2l, 1) := by decide +kernel
theorem dX6_addPoint_132 : decode cX6_addPoint 132 = .ok (.lastore, 1) := by decide +kernel
theorem dX6_addPoint_133 : decode cX6_addPoint 133 = .ok (.aload_n 0, 1) := by decide +kernel
theorem dX6_addPoint_134 : decode cX6_addPoint 134 = .ok (.getfield 93, 3) := by decide +kernel
theorem dX6_addPoint_137 : decode cX6_addPoint 137 = .ok (.iconst 3, 1) := by decide +kernel
theorem dX6_addPoint_138 : decode cX6_addPoint 138 = .ok (.iload 7, 2) := by decide +kernel
theorem dX6_addPoint_140 : decode cX6_addPoint 140 = .ok (.imul, 1) := by decide +kernel
theorem dX6_addPoint_141 : decode cX6_addPoint 141 = .ok (.iload_n 3, 1) := by decide +kernel
theorem dX6_addPoint_142 : decode cX6_addPoint 142 = .ok (.i2l, 1) := by decide +kernel
theorem dX6_addPoint_143 : decode cX6_addPoint 143 = .ok (.lastore, 1) := by decide +kernel
theorem dX6_addPoint_144 : decode cX6_addPoint 144 = .ok (.aload_n 0, 1) := by decide +kernel
theorem dX6_addPoint_145 : decode cX6_addPoint 145 = .ok (.getfield 93, 3) := by decide +kernel
theorem dX6_addPoint_148 : decode cX6_addPoint 148 = .ok (.iconst 3, 1) := by decide +kernel
theorem dX6_addPoint_149 : decode cX6_addPoint 149 = .ok (.iload 7, 2) := by decide +kernel
theorem dX6_addPoint_151 : decode cX6_addPoint 151 = .ok (.imul, 1) := by decide +kernel
theorem dX6_addPoint_152 : decode cX6_addPoint 152 = .ok (.iconst 1, 1) := by decide +kernel
theorem dX6_addPoint_153 : decode cX6_addPoint 153 = .ok (.iadd, 1) := by decide +kernel
theorem dX6_addPoint_154 : decode cX6_addPoint 154 = .ok (.iload 4, 2) := by decide +kernel
theorem dX6_addPoint_156 : decode cX6_addPoint 156 = .ok (.i2l, 1) := by decide +kernel
theorem dX6_addPoint_157 : decode cX6_addPoint 157 = .ok (.lastore, 1) := by decide +kernel
theorem dX6_addPoint_158 : decode cX6_addPoint 158 = .ok (.aload_n 0, 1) := by decide +kernel
theorem dX6_addPoint_159 : decode cX6_addPoint 159 = .ok (.getfield 93, 3) := by decide +kernel
theorem dX6_addPoint_162 : decode cX6_addPoint 162 = .ok (.iconst 3, 1) := by decide +kernel
theorem dX6_addPoint_163 : decode cX6_addPoint 163 = .ok (.iload 7, 2) := by decide +kernel
theorem dX6_addPoint_165 : decode cX6_addPoint 165 = .ok (.imul, 1) := by decide +kernel
theorem dX6_addPoint_166 : decode cX6_addPoint 166 = .ok (.iconst 2, 1) := by decide +kernel
theorem dX6_addPoint_167 : decode cX6_addPoint 167 = .ok (.iadd, 1) := by decide +kernel
theorem dX6_addPoint_168 : decode cX6_addPoint 168 = .ok (.iload 5, 2) := by decide +kernel
theorem dX6_addPoint_170 : decode cX6_addPoint 170 = .ok (.i2l, 1) := by decide +kernel
theorem dX6_addPoint_171 : decode cX6_addPoint 171 = .ok (.lastore, 1) := by decide +kernel
theorem dX6_addPoint_172 : decode cX6_addPoint 172 = .ok (.aload_n 0, 1) := by decide +kernel
theorem dX6_addPoint_173 : decode cX6_addPoint 173 = .ok (.getfield 87, 3) := by decide +kernel
theorem dX6_addPoint_176 : decode cX6_addPoint 176 = .ok (.iload_n 1, 1) := by decide +kernel
theorem dX6_addPoint_177 : decode cX6_addPoint 177 = .ok (.dup2, 1) := by decide +kernel
theorem dX6_addPoint_178 : decode cX6_addPoint 178 = .ok (.iaload, 1) := by decide +kernel
theorem dX6_addPoint_179 : decode cX6_addPoint 179 = .ok (.iconst 1, 1) := by decide +kernel
theorem dX6_addPoint_180 : decode cX6_addPoint 180 = .ok (.iadd, 1) := by decide +kernel
theorem dX6_addPoint_181 : decode cX6_addPoint 181 = .ok (.iastore, 1) := by decide +kernel
theorem dX6_addPoint_182 : decode cX6_addPoint 182 = .ok (.aload_n 0, 1) := by decide +kernel
theorem dX6_addPoint_183 : decode cX6_addPoint 183 = .ok (.getfield 87, 3) := by decide +kernel
theorem dX6_addPoint_186 : decode cX6_addPoint 186 = .ok (.iload_n 1, 1) := by decide +kernel
theorem dX6_addPoint_187 : decode cX6_addPoint 187 = .ok (.iaload, 1) := by decide +kernel
theorem dX6_addPoint_188 : decode cX6_addPoint 188 = .ok (.ireturn, 1) := by decide +kernel
theorem dX6_setLimits_0 : decode cX6_setLimits 0 = .ok (.aload_n 0, 1) := by decide +kernel
theorem dX6_setLimits_1 : decode cX6_setLimits 1 = .ok (.iload_n 1, 1) := by decide +kernel
theorem dX6_setLimits_2 : decode cX6_setLimits 2 = .ok (.invokestatic 152, 3) := by decide +kernel
theorem dX6_setLimits_5 : decode cX6_setLimits 5 = .ok (.ifCond .ne 7, 3) := by decide +kernel
theorem dX6_setLimits_8 : decode cX6_setLimits 8 = .ok (.iconst 1, 1) := by decide +kernel
theorem dX6_setLimits_9 : decode cX6_setLimits 9 = .ok (.goto 29, 3) := by decide +kernel
theorem dX6_setLimits_12 : decode cX6_setLimits 12 = .ok (.iload_n 2, 1) := by decide +kernel
theorem dX6_setLimits_13 : decode cX6_setLimits 13 = .ok (.ldc 173, 2) := by decide +kernel
theorem dX6_setLimits_15 : decode cX6_setLimits 15 = .ok (.ldc 174, 2) := by decide +kernel
theorem dX6_setLimits_17 : decode cX6_setLimits 17 = .ok (.invokestatic 146, 3) := by decide +kernel
theorem dX6_setLimits_20 : decode cX6_setLimits 20 = .ok (.ifCond .eq 17, 3) := by decide +kernel
theorem dX6_setLimits_23 : decode cX6_setLimits 23 = .ok (.iload_n 3, 1) := by decide +kernel
theorem dX6_setLimits_24 : decode cX6_setLimits 24 = .ok (.iload_n 2, 1) := by decide +kernel
theorem dX6_setLimits_25 : decode cX6_setLimits 25 = .ok (.ldc 174, 2) := by decide +kernel
theorem dX6_setLimits_27 : decode cX6_setLimits 27 = .ok (.invokestatic 146, 3) := by decide +kernel
theorem dX6_setLimits_30 : decode cX6_setLimits 30 = .ok (.ifCond .eq 7, 3) := by decide +kernel
theorem dX6_setLimits_33 : decode cX6_setLimits 33 = .ok (.iconst 0, 1) := by decide +kernel
theorem dX6_setLimits_34 : decode cX6_setLimits 34 = .ok (.goto 4, 3) := by decide +kernel
theorem dX6_setLimits_37 : decode cX6_setLimits 37 = .ok (.iconst 2, 1) := by decide +kernel
theorem dX6_setLimits_38 : decode cX6_setLimits 38 = .ok (.invokevirtual 156, 3) := by decide +kernel
theorem dX6_setLimits_41 : decode cX6_setLimits 41 = .ok (.ifCond .eq 19, 3) := by decide +kernel
theorem dX6_setLimits_44 : decode cX6_setLimits 44 = .ok (.aload_n 0, 1) := by decide +kernel
theorem dX6_setLimits_45 : decode cX6_setLimits 45 = .ok (.getfield 38, 3) := by decide +kernel
theorem dX6_setLimits_48 : decode cX6_setLimits 48 = .ok (.iload_n 1, 1) := by decide +kernel
theorem dX6_setLimits_49 : decode cX6_setLimits 49 = .ok (.iload_n 2, 1) := by decide +kernel
theorem dX6_setLimits_50 : decode cX6_setLimits 50 = .ok (.i2l, 1) := by decide +kernel
theorem dX6_setLimits_51 : decode cX6_setLimits 51 = .ok (.lastore, 1) := by decide +kernel
theorem dX6_setLimits_52 : decode cX6_setLimits 52 = .ok (.aload_n 0, 1) := by decide +kernel
theorem dX6_setLimits_53 : decode cX6_setLimits 53 = .ok (.getfield 41, 3) := by decide +kernel
theorem dX6_setLimits_56 : decode cX6_setLimits 56 = .ok (.iload_n 1, 1) := by decide +kernel
theorem dX6_setLimits_57 : decode cX6_setLimits 57 = .ok (.iload_n 3, 1) := by decide +kernel
theorem dX6_setLimits_58 : decode cX6_setLimits 58 = .ok (.i2l, 1) := by decide +kernel
theorem dX6_setLimits_59 : decode cX6_setLimits 59 = .ok (.lastore, 1) := by decide +kernel
theorem dX6_setLimits_60 : decode cX6_setLimits 60 = .ok (.return_, 1) := by decide +kernel
theorem dX6_setGuard_0 : decode cX6_setGuard 0 = .ok (.aload_n 0, 1) := by decide +kernel
theorem dX6_setGuard_1 : decode cX6_setGuard 1 = .ok (.iload_n 1, 1) := by decide +kernel
theorem dX6_setGuard_2 : decode cX6_setGuard 2 = .ok (.invokestatic 152, 3) := by decide +kernel
theorem dX6_setGuard_5 : decode cX6_setGuard 5 = .ok (.ifCond .ne 7, 3) := by decide +kernel
theorem dX6_setGuard_8 : decode cX6_setGuard 8 = .ok (.iconst 1, 1) := by decide +kernel
theorem dX6_setGuard_9 : decode cX6_setGuard 9 = .ok (.goto 28, 3) := by decide +kernel
theorem dX6_setGuard_12 : decode cX6_setGuard 12 = .ok (.iload_n 2, 1) := by decide +kernel
theorem dX6_setGuard_13 : decode cX6_setGuard 13 = .ok (.iconst 0, 1) := by decide +kernel
theorem dX6_setGuard_14 : decode cX6_setGuard 14 = .ok (.iconst 2, 1) := by decide +kernel
theorem dX6_setGuard_15 : decode cX6_setGuard 15 = .ok (.invokestatic 146, 3) := by decide +kernel
theorem dX6_setGuard_18 : decode cX6_setGuard 18 = .ok (.ifCond .eq 18, 3) := by decide +kernel
theorem dX6_setGuard_21 : decode cX6_setGuard 21 = .ok (.iload_n 3, 1) := by decide +kernel
theorem dX6_setGuard_22 : decode cX6_setGuard 22 = .ok (.iconst 0, 1) := by decide +kernel
theorem dX6_setGuard_23 : decode cX6_setGuard 23 = .ok (.sipush 1000, 3) := by decide +kernel
theorem dX6_setGuard_26 : decode cX6_setGuard 26 = .ok (.invokestatic 146, 3) := by decide +kernel
theorem dX6_setGuard_29 : decode cX6_setGuard 29 = .ok (.ifCond .eq 7, 3) := by decide +kernel
theorem dX6_setGuard_32 : decode cX6_setGuard 32 = .ok (.iconst 0, 1) := by decide +kernel
theorem dX6_setGuard_33 : decode cX6_setGuard 33 = .ok (.goto 4, 3) := by decide +kernel
theorem dX6_setGuard_36 : decode cX6_setGuard 36 = .ok (.iconst 2, 1) := by decide +kernel
theorem dX6_setGuard_37 : decode cX6_setGuard 37 = .ok (.invokevirtual 156, 3) := by decide +kernel
theorem dX6_setGuard_40 : decode cX6_setGuard 40 = .ok (.ifCond .ne 5, 3) := by decide +kernel
theorem dX6_setGuard_43 : decode cX6_setGuard 43 = .ok (.iconst 0, 1) := by decide +kernel
theorem dX6_setGuard_44 : decode cX6_setGuard 44 = .ok (.ireturn, 1) := by decide +kernel
theorem dX6_setGuard_45 : decode cX6_setGuard 45 = .ok (.aload_n 0, 1) := by decide +kernel
theorem dX6_setGuard_46 : decode cX6_setGuard 46 = .ok (.getfield 50, 3) := by decide +kernel
theorem dX6_setGuard_49 : decode cX6_setGuard 49 = .ok (.iload_n 1, 1) := by decide +kernel
theorem dX6_setGuard_50 : decode cX6_setGuard 50 = .ok (.iaload, 1) := by decide +kernel
theorem dX6_setGuard_51 : decode cX6_setGuard 51 = .ok (.istore 4, 2) := by decide +kernel
theorem dX6_setGuard_53 : decode cX6_setGuard 53 = .ok (.aload_n 0, 1) := by decide +kernel
theorem dX6_setGuard_54 : decode cX6_setGuard 54 = .ok (.getfield 50, 3) := by decide +kernel
theorem dX6_setGuard_57 : decode cX6_setGuard 57 = .ok (.iload_n 1, 1) := by decide +kernel
theorem dX6_setGuard_58 : decode cX6_setGuard 58 = .ok (.iload_n 2, 1) := by decide +kernel
theorem dX6_setGuard_59 : decode cX6_setGuard 59 = .ok (.iastore, 1) := by decide +kernel
theorem dX6_setGuard_60 : decode cX6_setGuard 60 = .ok (.aload_n 0, 1) := by decide +kernel
theorem dX6_setGuard_61 : decode cX6_setGuard 61 = .ok (.getfield 53, 3) := by decide +kernel
theorem dX6_setGuard_64 : decode cX6_setGuard 64 = .ok (.iload_n 1, 1) := by decide +kernel
theorem dX6_setGuard_65 : decode cX6_setGuard 65 = .ok (.iload_n 3, 1) := by decide +kernel
theorem dX6_setGuard_66 : decode cX6_setGuard 66 = .ok (.iastore, 1) := by decide +kernel
theorem dX6_setGuard_67 : decode cX6_setGuard 67 = .ok (.iload 4, 2) := by decide +kernel
theorem dX6_setGuard_69 : decode cX6_setGuard 69 = .ok (.ireturn, 1) := by decide +kernel
theorem dX6_setSetpoint_0 : decode cX6_setSetpoint 0 = .ok (.aload_n 0, 1) := by decide +kernel
theorem dX6_setSetpoint_1 : decode cX6_setSetpoint 1 = .ok (.iload_n 1, 1) := by decide +kernel
theorem dX6_setSetpoint_2 : decode cX6_setSetpoint 2 = .ok (.invokestatic 152, 3) := by decide +kernel
theorem dX6_setSetpoint_5 : decode cX6_setSetpoint 5 = .ok (.ifCond .ne 7, 3) := by decide +kernel
theorem dX6_setSetpoint_8 : decode cX6_setSetpoint 8 = .ok (.iconst 1, 1) := by decide +kernel
theorem dX6_setSetpoint_9 : decode cX6_setSetpoint 9 = .ok (.goto 33, 3) := by decide +kernel
theorem dX6_setSetpoint_12 : decode cX6_setSetpoint 12 = .ok (.iload_n 2, 1) := by decide +kernel
theorem dX6_setSetpoint_13 : decode cX6_setSetpoint 13 = .ok (.ldc 173, 2) := by decide +kernel
theorem dX6_setSetpoint_15 : decode cX6_setSetpoint 15 = .ok (.ldc 174, 2) := by decide +kernel
theorem dX6_setSetpoint_17 : decode cX6_setSetpoint 17 = .ok (.invokestatic 146, 3) := by decide +kernel
theorem dX6_setSetpoint_20 : decode cX6_setSetpoint 20 = .ok (.ifCond .ne 7, 3) := by decide +kernel
theorem dX6_setSetpoint_23 : decode cX6_setSetpoint 23 = .ok (.iconst 2, 1) := by decide +kernel
theorem dX6_setSetpoint_24 : decode cX6_setSetpoint 24 = .ok (.goto 18, 3) := by decide +kernel
theorem dX6_setSetpoint_27 : decode cX6_setSetpoint 27 = .ok (.aload_n 0, 1) := by decide +kernel
theorem dX6_setSetpoint_28 : decode cX6_setSetpoint 28 = .ok (.getfield 56, 3) := by decide +kernel
theorem dX6_setSetpoint_31 : decode cX6_setSetpoint 31 = .ok (.iload_n 1, 1) := by decide +kernel
theorem dX6_setSetpoint_32 : decode cX6_setSetpoint 32 = .ok (.iaload, 1) := by decide +kernel
theorem dX6_setSetpoint_33 : decode cX6_setSetpoint 33 = .ok (.iconst 2, 1) := by decide +kernel
theorem dX6_setSetpoint_34 : decode cX6_setSetpoint 34 = .ok (.if_icmp .ne 7, 3) := by decide +kernel
theorem dX6_setSetpoint_37 : decode cX6_setSetpoint 37 = .ok (.iconst 3, 1) := by decide +kernel
theorem dX6_setSetpoint_38 : decode cX6_setSetpoint 38 = .ok (.goto 4, 3) := by decide +kernel
theorem dX6_setSetpoint_41 : decode cX6_setSetpoint 41 = .ok (.iconst 0, 1) := by decide +kernel
theorem dX6_setSetpoint_42 : decode cX6_setSetpoint 42 = .ok (.invokevirtual 156, 3) := by decide +kernel
theorem dX6_setSetpoint_45 : decode cX6_setSetpoint 45 = .ok (.ifCond .ne 5, 3) := by decide +kernel
theorem dX6_setSetpoint_48 : decode cX6_setSetpoint 48 = .ok (.iconst 0, 1) := by decide +kernel
theorem dX6_setSetpoint_49 : decode cX6_setSetpoint 49 = .ok (.ireturn, 1) := by decide +kernel
theorem dX6_setSetpoint_50 : decode cX6_setSetpoint 50 = .ok (.aload_n 0, 1) := by decide +kernel
theorem dX6_setSetpoint_51 : decode cX6_setSetpoint 51 = .ok (.getfield 44, 3) := by decide +kernel
theorem dX6_setSetpoint_54 : decode cX6_setSetpoint 54 = .ok (.iload_n 1, 1) := by decide +kernel
theorem dX6_setSetpoint_55 : decode cX6_setSetpoint 55 = .ok (.laload, 1) := by decide +kernel
theorem dX6_setSetpoint_56 : decode cX6_setSetpoint 56 = .ok (.l2i, 1) := by decide +kernel
theorem dX6_setSetpoint_57 : decode cX6_setSetpoint 57 = .ok (.istore_n 3, 1) := by decide +kernel
theorem dX6_setSetpoint_58 : decode cX6_setSetpoint 58 = .ok (.aload_n 0, 1) := by decide +kernel
theorem dX6_setSetpoint_59 : decode cX6_setSetpoint 59 = .ok (.getfield 44, 3) := by decide +kernel
theorem dX6_setSetpoint_62 : decode cX6_setSetpoint 62 = .ok (.iload_n 1, 1) := by decide +kernel
theorem dX6_setSetpoint_63 : decode cX6_setSetpoint 63 = .ok (.iload_n 2, 1) := by decide +kernel
theorem dX6_setSetpoint_64 : decode cX6_setSetpoint 64 = .ok (.i2l, 1) := by decide +kernel
theorem dX6_setSetpoint_65 : decode cX6_setSetpoint 65 = .ok (.lastore, 1) := by decide +kernel
theorem dX6_setSetpoint_66 : decode cX6_setSetpoint 66 = .ok (.iload_n 3, 1) := by decide +kernel
theorem dX6_setSetpoint_67 : decode cX6_setSetpoint 67 = .ok (.ireturn, 1) := by decide +kernel
theorem dX6_setHand_0 : decode cX6_setHand 0 = .ok (.aload_n 0, 1) := by decide +kernel
theorem dX6_setHand_1 : decode cX6_setHand 1 = .ok (.iload_n 1, 1) := by decide +kernel
theorem dX6_setHand_2 : decode cX6_setHand 2 = .ok (.invokestatic 152, 3) := by decide +kernel
theorem dX6_setHand_5 : decode cX6_setHand 5 = .ok (.ifCond .ne 7, 3) := by decide +kernel
theorem dX6_setHand_8 : decode cX6_setHand 8 = .ok (.iconst 1, 1) := by decide +kernel
theorem dX6_setHand_9 : decode cX6_setHand 9 = .ok (.goto 32, 3) := by decide +kernel
theorem dX6_setHand_12 : decode cX6_setHand 12 = .ok (.iload_n 2, 1) := by decide +kernel
theorem dX6_setHand_13 : decode cX6_setHand 13 = .ok (.ldc 173, 2) := by decide +kernel
theorem dX6_setHand_15 : decode cX6_setHand 15 = .ok (.ldc 174, 2) := by decide +kernel
theorem dX6_setHand_17 : decode cX6_setHand 17 = .ok (.invokestatic 146, 3) := by decide +kernel
theorem dX6_setHand_20 : decode cX6_setHand 20 = .ok (.ifCond .ne 7, 3) := by decide +kernel
theorem dX6_setHand_23 : decode cX6_setHand 23 = .ok (.iconst 2, 1) := by decide +kernel
theorem dX6_setHand_24 : decode cX6_setHand 24 = .ok (.goto 17, 3) := by decide +kernel
theorem dX6_setHand_27 : decode cX6_setHand 27 = .ok (.aload_n 0, 1) := by decide +kernel
theorem dX6_setHand_28 : decode cX6_setHand 28 = .ok (.getfield 56, 3) := by decide +kernel
theorem dX6_setHand_31 : decode cX6_setHand 31 = .ok (.iload_n 1, 1) := by decide +kernel
theorem dX6_setHand_32 : decode cX6_setHand 32 = .ok (.iaload, 1) := by decide +kernel
theorem dX6_setHand_33 : decode cX6_setHand 33 = .ok (.ifCond .eq 7, 3) := by decide +kernel
theorem dX6_setHand_36 : decode cX6_setHand 36 = .ok (.iconst 3, 1) := by decide +kernel
theorem dX6_setHand_37 : decode cX6_setHand 37 = .ok (.goto 4, 3) := by decide +kernel
theorem dX6_setHand_40 : decode cX6_setHand 40 = .ok (.iconst 0, 1) := by decide +kernel
theorem dX6_setHand_41 : decode cX6_setHand 41 = .ok (.invokevirtual 156, 3) := by decide +kernel
theorem dX6_setHand_44 : decode cX6_setHand 44 = .ok (.ifCond .ne 5, 3) := by decide +kernel
theorem dX6_setHand_47 : decode cX6_setHand 47 = .ok (.iconst 0, 1) := by decide +kernel
theorem dX6_setHand_48 : decode cX6_setHand 48 = .ok (.ireturn, 1) := by decide +kernel
theorem dX6_setHand_49 : decode cX6_setHand 49 = .ok (.aload_n 0, 1) := by decide +kernel
theorem dX6_setHand_50 : decode cX6_setHand 50 = .ok (.getfield 59, 3) := by decide +kernel
theorem dX6_setHand_53 : decode cX6_setHand 53 = .ok (.iload_n 1, 1) := by decide +kernel
theorem dX6_setHand_54 : decode cX6_setHand 54 = .ok (.laload, 1) := by decide +kernel
theorem dX6_setHand_55 : decode cX6_setHand 55 = .ok (.l2i, 1) := by decide +kernel
theorem dX6_setHand_56 : decode cX6_setHand 56 = .ok (.istore_n 3, 1) := by decide +kernel
theorem dX6_setHand_57 : decode cX6_setHand 57 = .ok (.aload_n 0, 1) := by decide +kernel
theorem dX6_setHand_58 : decode cX6_setHand 58 = .ok (.getfield 59, 3) := by decide +kernel
theorem dX6_setHand_61 : decode cX6_setHand 61 = .ok (.iload_n 1, 1) := by decide +kernel
theorem dX6_setHand_62 : decode cX6_setHand 62 = .ok (.iload_n 2, 1) := by decide +kernel
theorem dX6_setHand_63 : decode cX6_setHand 63 = .ok (.i2l, 1) := by decide +kernel
theorem dX6_setHand_64 : decode cX6_setHand 64 = .ok (.lastore, 1) := by decide +kernel
theorem dX6_setHand_65 : decode cX6_setHand 65 = .ok (.iload_n 3, 1) := by decide +kernel
theorem dX6_setHand_66 : decode cX6_setHand 66 = .ok (.ireturn, 1) := by decide +kernel
theorem dX6_setTies_0 : decode cX6_setTies 0 = .ok (.aload_n 0, 1) := by decide +kernel
theorem dX6_setTies_1 : decode cX6_setTies 1 = .ok (.iload_n 1, 1) := by decide +kernel
theorem dX6_setTies_2 : decode cX6_setTies 2 = .ok (.invokestatic 152, 3) := by decide +kernel
theorem dX6_setTies_5 : decode cX6_setTies 5 = .ok (.ifCond .ne 7, 3) := by decide +kernel
theorem dX6_setTies_8 : decode cX6_setTies 8 = .ok (.iconst 1, 1) := by decide +kernel
theorem dX6_setTies_9 : decode cX6_setTies 9 = .ok (.goto 34, 3) := by decide +kernel
theorem dX6_setTies_12 : decode cX6_setTies 12 = .ok (.iload_n 3, 1) := by decide +kernel
theorem dX6_setTies_13 : decode cX6_setTies 13 = .ok (.ifCond .eq 11, 3) := by decide +kernel
theorem dX6_setTies_16 : decode cX6_setTies 16 = .ok (.iload_n 1, 1) := by decide +kernel
theorem dX6_setTies_17 : decode cX6_setTies 17 = .ok (.ifCond .ne 7, 3) := by decide +kernel
theorem dX6_setTies_20 : decode cX6_setTies 20 = .ok (.iconst 2, 1) := by decide +kernel
theorem dX6_setTies_21 : decode cX6_setTies 21 = .ok (.goto 22, 3) := by decide +kernel
theorem dX6_setTies_24 : decode cX6_setTies 24 = .ok (.iload_n 3, 1) := by decide +kernel
theorem dX6_setTies_25 : decode cX6_setTies 25 = .ok (.ifCond .ne 17, 3) := by decide +kernel
theorem dX6_setTies_28 : decode cX6_setTies 28 = .ok (.aload_n 0, 1) := by decide +kernel
theorem dX6_setTies_29 : decode cX6_setTies 29 = .ok (.getfield 56, 3) := by decide +kernel
theorem dX6_setTies_32 : decode cX6_setTies 32 = .ok (.iload_n 1, 1) := by decide +kernel
theorem dX6_setTies_33 : decode cX6_setTies 33 = .ok (.iaload, 1) := by decide +kernel
theorem dX6_setTies_34 : decode cX6_setTies 34 = .ok (.iconst 2, 1) := by decide +kernel
theorem dX6_setTies_35 : decode cX6_setTies 35 = .ok (.if_icmp .ne 7, 3) := by decide +kernel
theorem dX6_setTies_38 : decode cX6_setTies 38 = .ok (.iconst 3, 1) := by decide +kernel
theorem dX6_setTies_39 : decode cX6_setTies 39 = .ok (.goto 4, 3) := by decide +kernel
theorem dX6_setTies_42 : decode cX6_setTies 42 = .ok (.iconst 0, 1) := by decide +kernel
theorem dX6_setTies_43 : decode cX6_setTies 43 = .ok (.invokevirtual 156, 3) := by decide +kernel
theorem dX6_setTies_46 : decode cX6_setTies 46 = .ok (.ifCond .eq 17, 3) := by decide +kernel
theorem dX6_setTies_49 : decode cX6_setTies 49 = .ok (.aload_n 0, 1) := by decide +kernel
theorem dX6_setTies_50 : decode cX6_setTies 50 = .ok (.getfield 62, 3) := by decide +kernel
theorem dX6_setTies_53 : decode cX6_setTies 53 = .ok (.iload_n 1, 1) := by decide +kernel
theorem dX6_setTies_54 : decode cX6_setTies 54 = .ok (.iload_n 2, 1) := by decide +kernel
theorem dX6_setTies_55 : decode cX6_setTies 55 = .ok (.bastore, 1) := by decide +kernel
theorem dX6_setTies_56 : decode cX6_setTies 56 = .ok (.aload_n 0, 1) := by decide +kernel
theorem dX6_setTies_57 : decode cX6_setTies 57 = .ok (.getfield 66, 3) := by decide +kernel
theorem dX6_setTies_60 : decode cX6_setTies 60 = .ok (.iload_n 1, 1) := by decide +kernel
theorem dX6_setTies_61 : decode cX6_setTies 61 = .ok (.iload_n 3, 1) := by decide +kernel
theorem dX6_setTies_62 : decode cX6_setTies 62 = .ok (.bastore, 1) := by decide +kernel
theorem dX6_setTies_63 : decode cX6_setTies 63 = .ok (.return_, 1) := by decide +kernel
theorem dX6_settle_0 : decode cX6_settle 0 = .ok (.aload_n 0, 1) := by decide +kernel
theorem dX6_settle_1 : decode cX6_settle 1 = .ok (.getfield 47, 3) := by decide +kernel
theorem dX6_settle_4 : decode cX6_settle 4 = .ok (.iload_n 1, 1) := by decide +kernel
theorem dX6_settle_5 : decode cX6_settle 5 = .ok (.ldc2_w 136, 3) := by decide +kernel
theorem dX6_settle_8 : decode cX6_settle 8 = .ok (.lload_n 2, 1) := by decide +kernel
theorem dX6_settle_9 : decode cX6_settle 9 = .ok (.lmul, 1) := by decide +kernel
theorem dX6_settle_10 : decode cX6_settle 10 = .ok (.aload_n 0, 1) := by decide +kernel
theorem dX6_settle_11 : decode cX6_settle 11 = .ok (.getfield 35, 3) := by decide +kernel
theorem dX6_settle_14 : decode cX6_settle 14 = .ok (.iconst 3, 1) := by decide +kernel
theorem dX6_settle_15 : decode cX6_settle 15 = .ok (.iload_n 1, 1) := by decide +kernel
theorem dX6_settle_16 : decode cX6_settle 16 = .ok (.imul, 1) := by decide +kernel
theorem dX6_settle_17 : decode cX6_settle 17 = .ok (.laload, 1) := by decide +kernel
theorem dX6_settle_18 : decode cX6_settle 18 = .ok (.aload_n 0, 1) := by decide +kernel
theorem dX6_settle_19 : decode cX6_settle 19 = .ok (.iload_n 1, 1) := by decide +kernel
theorem dX6_settle_20 : decode cX6_settle 20 = .ok (.invokevirtual 159, 3) := by decide +kernel
theorem dX6_settle_23 : decode cX6_settle 23 = .ok (.lmul, 1) := by decide +kernel
theorem dX6_settle_24 : decode cX6_settle 24 = .ok (.lsub, 1) := by decide +kernel
theorem dX6_settle_25 : decode cX6_settle 25 = .ok (.aload_n 0, 1) := by decide +kernel
theorem dX6_settle_26 : decode cX6_settle 26 = .ok (.getfield 35, 3) := by decide +kernel
theorem dX6_settle_29 : decode cX6_settle 29 = .ok (.iconst 3, 1) := by decide +kernel
theorem dX6_settle_30 : decode cX6_settle 30 = .ok (.iload_n 1, 1) := by decide +kernel
theorem dX6_settle_31 : decode cX6_settle 31 = .ok (.imul, 1) := by decide +kernel
theorem dX6_settle_32 : decode cX6_settle 32 = .ok (.iconst 2, 1) := by decide +kernel
theorem dX6_settle_33 : decode cX6_settle 33 = .ok (.iadd, 1) := by decide +kernel
theorem dX6_settle_34 : decode cX6_settle 34 = .ok (.laload, 1) := by decide +kernel
theorem dX6_settle_35 : decode cX6_settle 35 = .ok (.aload_n 0, 1) := by decide +kernel
theorem dX6_settle_36 : decode cX6_settle 36 = .ok (.iload_n 1, 1) := by decide +kernel
theorem dX6_settle_37 : decode cX6_settle 37 = .ok (.invokevirtual 163, 3) := by decide +kernel
theorem dX6_settle_40 : decode cX6_settle 40 = .ok (.lmul, 1) := by decide +kernel
theorem dX6_settle_41 : decode cX6_settle 41 = .ok (.lsub, 1) := by decide +kernel
theorem dX6_settle_42 : decode cX6_settle 42 = .ok (.lastore, 1) := by decide +kernel
theorem dX6_settle_43 : decode cX6_settle 43 = .ok (.aload_n 0, 1) := by decide +kernel
theorem dX6_settle_44 : decode cX6_settle 44 = .ok (.getfield 84, 3) := by decide +kernel
theorem dX6_settle_47 : decode cX6_settle 47 = .ok (.iload_n 1, 1) := by decide +kernel
theorem dX6_settle_48 : decode cX6_settle 48 = .ok (.iconst 0, 1) := by decide +kernel
theorem dX6_settle_49 : decode cX6_settle 49 = .ok (.bastore, 1) := by decide +kernel
theorem dX6_settle_50 : decode cX6_settle 50 = .ok (.return_, 1) := by decide +kernel
theorem dX6_setMode_0 : decode cX6_setMode 0 = .ok (.aload_n 0, 1) := by decide +kernel
theorem dX6_setMode_1 : decode cX6_setMode 1 = .ok (.iload_n 1, 1) := by decide +kernel
theorem dX6_setMode_2 : decode cX6_setMode 2 = .ok (.invokestatic 152, 3) := by decide +kernel
theorem dX6_setMode_5 : decode cX6_setMode 5 = .ok (.ifCond .ne 7, 3) := by decide +kernel
theorem dX6_setMode_8 : decode cX6_setMode 8 = .ok (.iconst 1, 1) := by decide +kernel
theorem dX6_setMode_9 : decode cX6_setMode 9 = .ok (.goto 49, 3) := by decide +kernel
theorem dX6_setMode_12 : decode cX6_setMode 12 = .ok (.iload_n 2, 1) := by decide +kernel
theorem dX6_setMode_13 : decode cX6_setMode 13 = .ok (.iconst 0, 1) := by decide +kernel
theorem dX6_setMode_14 : decode cX6_setMode 14 = .ok (.iconst 2, 1) := by decide +kernel
theorem dX6_setMode_15 : decode cX6_setMode 15 = .ok (.invokestatic 146, 3) := by decide +kernel
theorem dX6_setMode_18 : decode cX6_setMode 18 = .ok (.ifCond .ne 7, 3) := by decide +kernel
theorem dX6_setMode_21 : decode cX6_setMode 21 = .ok (.iconst 2, 1) := by decide +kernel
theorem dX6_setMode_22 : decode cX6_setMode 22 = .ok (.goto 36, 3) := by decide +kernel
theorem dX6_setMode_25 : decode cX6_setMode 25 = .ok (.aload_n 0, 1) := by decide +kernel
theorem dX6_setMode_26 : decode cX6_setMode 26 = .ok (.getfield 56, 3) := by decide +kernel
theorem dX6_setMode_29 : decode cX6_setMode 29 = .ok (.iload_n 1, 1) := by decide +kernel
theorem dX6_setMode_30 : decode cX6_setMode 30 = .ok (.iaload, 1) := by decide +kernel
theorem dX6_setMode_31 : decode cX6_setMode 31 = .ok (.iconst 3, 1) := by decide +kernel
theorem dX6_setMode_32 : decode cX6_setMode 32 = .ok (.if_icmp .ne 7, 3) := by decide +kernel
theorem dX6_setMode_35 : decode cX6_setMode 35 = .ok (.iload_n 2, 1) := by decide +kernel
theorem dX6_setMode_36 : decode cX6_setMode 36 = .ok (.ifCond .ne 17, 3) := by decide +kernel
theorem dX6_setMode_39 : decode cX6_setMode 39 = .ok (.iload_n 2, 1) := by decide +kernel
theorem dX6_setMode_40 : decode cX6_setMode 40 = .ok (.iconst 2, 1) := by decide +kernel
theorem dX6_setMode_41 : decode cX6_setMode 41 = .ok (.if_icmp .ne 16, 3) := by decide +kernel
theorem dX6_setMode_44 : decode cX6_setMode 44 = .ok (.aload_n 0, 1) := by decide +kernel
theorem dX6_setMode_45 : decode cX6_setMode 45 = .ok (.getfield 66, 3) := by decide +kernel
theorem dX6_setMode_48 : decode cX6_setMode 48 = .ok (.iload_n 1, 1) := by decide +kernel
theorem dX6_setMode_49 : decode cX6_setMode 49 = .ok (.baload, 1) := by decide +kernel
theorem dX6_setMode_50 : decode cX6_setMode 50 = .ok (.ifCond .ne 7, 3) := by decide +kernel
theorem dX6_setMode_53 : decode cX6_setMode 53 = .ok (.iconst 3, 1) := by decide +kernel
theorem dX6_setMode_54 : decode cX6_setMode 54 = .ok (.goto 4, 3) := by decide +kernel
theorem dX6_setMode_57 : decode cX6_setMode 57 = .ok (.iconst 0, 1) := by decide +kernel
theorem dX6_setMode_58 : decode cX6_setMode 58 = .ok (.invokevirtual 156, 3) := by decide +kernel
theorem dX6_setMode_61 : decode cX6_setMode 61 = .ok (.ifCond .ne 5, 3) := by decide +kernel
theorem dX6_setMode_64 : decode cX6_setMode 64 = .ok (.iconst 0, 1) := by decide +kernel
theorem dX6_setMode_65 : decode cX6_setMode 65 = .ok (.ireturn, 1) := by decide +kernel
theorem dX6_setMode_66 : decode cX6_setMode 66 = .ok (.aload_n 0, 1) := by decide +kernel
theorem dX6_setMode_67 : decode cX6_setMode 67 = .ok (.getfield 56, 3) := by decide +kernel
theorem dX6_setMode_70 : decode cX6_setMode 70 = .ok (.iload_n 1, 1) := by decide +kernel
theorem dX6_setMode_71 : decode cX6_setMode 71 = .ok (.iaload, 1) := by decide +kernel
theorem dX6_setMode_72 : decode cX6_setMode 72 = .ok (.istore_n 3, 1) := by decide +kernel
theorem dX6_setMode_73 : decode cX6_setMode 73 = .ok (.iload_n 3, 1) := by decide +kernel
theorem dX6_setMode_74 : decode cX6_setMode 74 = .ok (.iload_n 2, 1) := by decide +kernel
theorem dX6_setMode_75 : decode cX6_setMode 75 = .ok (.if_icmp .eq 60, 3) := by decide +kernel
theorem dX6_setMode_78 : decode cX6_setMode 78 = .ok (.iload_n 3, 1) := by decide +kernel
theorem dX6_setMode_79 : decode cX6_setMode 79 = .ok (.ifCond .ne 13, 3) := by decide +kernel
theorem dX6_setMode_82 : decode cX6_setMode 82 = .ok (.aload_n 0, 1) := by decide +kernel
theorem dX6_setMode_83 : decode cX6_setMode 83 = .ok (.iload_n 1, 1) := by decide +kernel
theorem dX6_setMode_84 : decode cX6_setMode 84 = .ok (.aload_n 0, 1) := by decide +kernel
theorem dX6_setMode_85 : decode cX6_setMode 85 = .ok (.iload_n 1, 1) := by decide +kernel
theorem dX6_setMode_86 : decode cX6_setMode 86 = .ok (.invokevirtual 175, 3) := by decide +kernel
theorem dX6_setMode_89 : decode cX6_setMode 89 = .ok (.invokevirtual 178, 3) := by decide +kernel
theorem dX6_setMode_92 : decode cX6_setMode 92 = .ok (.iload_n 2, 1) := by decide +kernel
theorem dX6_setMode_93 : decode cX6_setMode 93 = .ok (.ifCond .ne 35, 3) := by decide +kernel
theorem dX6_setMode_96 : decode cX6_setMode 96 = .ok (.aload_n 0, 1) := by decide +kernel
theorem dX6_setMode_97 : decode cX6_setMode 97 = .ok (.getfield 59, 3) := by decide +kernel
theorem dX6_setMode_100 : decode cX6_setMode 100 = .ok (.iload_n 1, 1) := by decide +kernel
theorem dX6_setMode_101 : decode cX6_setMode 101 = .ok (.aload_n 0, 1) := by decide +kernel
theorem dX6_setMode_102 : decode cX6_setMode 102 = .ok (.iload_n 1, 1) := by decide +kernel
theorem dX6_setMode_103 : decode cX6_setMode 103 = .ok (.invokevirtual 175, 3) := by decide +kernel
theorem dX6_setMode_106 : decode cX6_setMode 106 = .ok (.lastore, 1) := by decide +kernel
theorem dX6_setMode_107 : decode cX6_setMode 107 = .ok (.aload_n 0, 1) := by decide +kernel
theorem dX6_setMode_108 : decode cX6_setMode 108 = .ok (.getfield 96, 3) := by decide +kernel
theorem dX6_setMode_111 : decode cX6_setMode 111 = .ok (.iload_n 1, 1) := by decide +kernel
theorem dX6_setMode_112 : decode cX6_setMode 112 = .ok (.iload_n 3, 1) := by decide +kernel
theorem dX6_setMode_113 : decode cX6_setMode 113 = .ok (.iconst 3, 1) := by decide +kernel
theorem dX6_setMode_114 : decode cX6_setMode 114 = .ok (.if_icmp .ne 7, 3) := by decide +kernel
theorem dX6_setMode_117 : decode cX6_setMode 117 = .ok (.iconst 0, 1) := by decide +kernel
theorem dX6_setMode_118 : decode cX6_setMode 118 = .ok (.goto 9, 3) := by decide +kernel
theorem dX6_setMode_121 : decode cX6_setMode 121 = .ok (.aload_n 0, 1) := by decide +kernel
theorem dX6_setMode_122 : decode cX6_setMode 122 = .ok (.getfield 96, 3) := by decide +kernel
theorem dX6_setMode_125 : decode cX6_setMode 125 = .ok (.iload_n 1, 1) := by decide +kernel
theorem dX6_setMode_126 : decode cX6_setMode 126 = .ok (.iaload, 1) := by decide +kernel
theorem dX6_setMode_127 : decode cX6_setMode 127 = .ok (.iastore, 1) := by decide +kernel
theorem dX6_setMode_128 : decode cX6_setMode 128 = .ok (.aload_n 0, 1) := by decide +kernel
theorem dX6_setMode_129 : decode cX6_setMode 129 = .ok (.getfield 56, 3) := by decide +kernel
theorem dX6_setMode_132 : decode cX6_setMode 132 = .ok (.iload_n 1, 1) := by decide +kernel
theorem dX6_setMode_133 : decode cX6_setMode 133 = .ok (.iload_n 2, 1) := by decide +kernel
theorem dX6_setMode_134 : decode cX6_setMode 134 = .ok (.iastore, 1) := by decide +kernel
theorem dX6_setMode_135 : decode cX6_setMode 135 = .ok (.iload_n 3, 1) := by decide +kernel
theorem dX6_setMode_136 : decode cX6_setMode 136 = .ok (.ireturn, 1) := by decide +kernel
theorem dX6_schedules_0 : decode cX6_schedules 0 = .ok (.aload_n 0, 1) := by decide +kernel
theorem dX6_schedules_1 : decode cX6_schedules 1 = .ok (.getfield 87, 3) := by decide +kernel
theorem dX6_schedules_4 : decode cX6_schedules 4 = .ok (.iload_n 1, 1) := by decide +kernel
theorem dX6_schedules_5 : decode cX6_schedules 5 = .ok (.iaload, 1) := by decide +kernel
theorem dX6_schedules_6 : decode cX6_schedules 6 = .ok (.iconst 1, 1) := by decide +kernel
theorem dX6_schedules_7 : decode cX6_schedules 7 = .ok (.isub, 1) := by decide +kernel
theorem dX6_schedules_8 : decode cX6_schedules 8 = .ok (.istore_n 2, 1) := by decide +kernel
theorem dX6_schedules_9 : decode cX6_schedules 9 = .ok (.iload_n 2, 1) := by decide +kernel
theorem dX6_schedules_10 : decode cX6_schedules 10 = .ok (.ifCond .ge 4, 3) := by decide +kernel
theorem dX6_schedules_13 : decode cX6_schedules 13 = .ok (.return_, 1) := by decide +kernel
theorem dX6_schedules_14 : decode cX6_schedules 14 = .ok (.iconst 0, 1) := by decide +kernel
theorem dX6_schedules_15 : decode cX6_schedules 15 = .ok (.istore_n 3, 1) := by decide +kernel
theorem dX6_schedules_16 : decode cX6_schedules 16 = .ok (.iload_n 3, 1) := by decide +kernel
theorem dX6_schedules_17 : decode cX6_schedules 17 = .ok (.iload_n 2, 1) := by decide +kernel
theorem dX6_schedules_18 : decode cX6_schedules 18 = .ok (.if_icmp .ge 31, 3) := by decide +kernel
theorem dX6_schedules_21 : decode cX6_schedules 21 = .ok (.aload_n 0, 1) := by decide +kernel
theorem dX6_schedules_22 : decode cX6_schedules 22 = .ok (.getfield 90, 3) := by decide +kernel
theorem dX6_schedules_25 : decode cX6_schedules 25 = .ok (.iconst 5, 1) := by decide +kernel
theorem dX6_schedules_26 : decode cX6_schedules 26 = .ok (.iload_n 1, 1) := by decide +kernel
theorem dX6_schedules_27 : decode cX6_schedules 27 = .ok (.imul, 1) := by decide +kernel
theorem dX6_schedules_28 : decode cX6_schedules 28 = .ok (.iload_n 3, 1) := by decide +kernel
theorem dX6_schedules_29 : decode cX6_schedules 29 = .ok (.iadd, 1) := by decide +kernel
theorem dX6_schedules_30 : decode cX6_schedules 30 = .ok (.iconst 1, 1) := by decide +kernel
theorem dX6_schedules_31 : decode cX6_schedules 31 = .ok (.iadd, 1) := by decide +kernel
theorem dX6_schedules_32 : decode cX6_schedules 32 = .ok (.laload, 1) := by decide +kernel
theorem dX6_schedules_33 : decode cX6_schedules 33 = .ok (.aload_n 0, 1) := by decide +kernel
theorem dX6_schedules_34 : decode cX6_schedules 34 = .ok (.getfield 26, 3) := by decide +kernel
theorem dX6_schedules_37 : decode cX6_schedules 37 = .ok (.iload_n 1, 1) := by decide +kernel
theorem dX6_schedules_38 : decode cX6_schedules 38 = .ok (.laload, 1) := by decide +kernel
theorem dX6_schedules_39 : decode cX6_schedules 39 = .ok (.lcmp, 1) := by decide +kernel
theorem dX6_schedules_40 : decode cX6_schedules 40 = .ok (.ifCond .gt 9, 3) := by decide +kernel
theorem dX6_schedules_43 : decode cX6_schedules 43 = .ok (.iinc 3 1, 3) := by decide +kernel
theorem dX6_schedules_46 : decode cX6_schedules 46 = .ok (.goto (-30), 3) := by decide +kernel
theorem dX6_schedules_49 : decode cX6_schedules 49 = .ok (.iconst 3, 1) := by decide +kernel
theorem dX6_schedules_50 : decode cX6_schedules 50 = .ok (.iconst 5, 1) := by decide +kernel
theorem dX6_schedules_51 : decode cX6_schedules 51 = .ok (.iload_n 1, 1) := by decide +kernel
theorem dX6_schedules_52 : decode cX6_schedules 52 = .ok (.imul, 1) := by decide +kernel
theorem dX6_schedules_53 : decode cX6_schedules 53 = .ok (.iload_n 3, 1) := by decide +kernel
theorem dX6_schedules_54 : decode cX6_schedules 54 = .ok (.iadd, 1) := by decide +kernel
theorem dX6_schedules_55 : decode cX6_schedules 55 = .ok (.imul, 1) := by decide +kernel
theorem dX6_schedules_56 : decode cX6_schedules 56 = .ok (.istore 4, 2) := by decide +kernel
theorem dX6_schedules_58 : decode cX6_schedules 58 = .ok (.iload_n 3, 1) := by decide +kernel
theorem dX6_schedules_59 : decode cX6_schedules 59 = .ok (.iload_n 2, 1) := by decide +kernel
theorem dX6_schedules_60 : decode cX6_schedules 60 = .ok (.if_icmp .ge 27, 3) := by decide +kernel
theorem dX6_schedules_63 : decode cX6_schedules 63 = .ok (.aload_n 0, 1) := by decide +kernel
theorem dX6_schedules_64 : decode cX6_schedules 64 = .ok (.getfield 26, 3) := by decide +kernel
theorem dX6_schedules_67 : decode cX6_schedules 67 = .ok (.iload_n 1, 1) := by decide +kernel
theorem dX6_schedules_68 : decode cX6_schedules 68 = .ok (.laload, 1) := by decide +kernel
theorem dX6_schedules_69 : decode cX6_schedules 69 = .ok (.aload_n 0, 1) := by decide +kernel
theorem dX6_schedules_70 : decode cX6_schedules 70 = .ok (.getfield 90, 3) := by decide +kernel
theorem dX6_schedules_73 : decode cX6_schedules 73 = .ok (.iconst 5, 1) := by decide +kernel
theorem dX6_schedules_74 : decode cX6_schedules 74 = .ok (.iload_n 1, 1) := by decide +kernel
theorem dX6_schedules_75 : decode cX6_schedules 75 = .ok (.imul, 1) := by decide +kernel
theorem dX6_schedules_76 : decode cX6_schedules 76 = .ok (.iload_n 3, 1) := by decide +kernel
theorem dX6_schedules_77 : decode cX6_schedules 77 = .ok (.iadd, 1) := by decide +kernel
theorem dX6_schedules_78 : decode cX6_schedules 78 = .ok (.laload, 1) := by decide +kernel
theorem dX6_schedules_79 : decode cX6_schedules 79 = .ok (.lcmp, 1) := by decide +kernel
theorem dX6_schedules_80 : decode cX6_schedules 80 = .ok (.ifCond .le 7, 3) := by decide +kernel
theorem dX6_schedules_83 : decode cX6_schedules 83 = .ok (.iconst 1, 1) := by decide +kernel
theorem dX6_schedules_84 : decode cX6_schedules 84 = .ok (.goto 4, 3) := by decide +kernel
theorem dX6_schedules_87 : decode cX6_schedules 87 = .ok (.iconst 0, 1) := by decide +kernel
theorem dX6_schedules_88 : decode cX6_schedules 88 = .ok (.istore 5, 2) := by decide +kernel
theorem dX6_schedules_90 : decode cX6_schedules 90 = .ok (.iload 5, 2) := by decide +kernel
theorem dX6_schedules_92 : decode cX6_schedules 92 = .ok (.ifCond .eq 23, 3) := by decide +kernel
theorem dX6_schedules_95 : decode cX6_schedules 95 = .ok (.aload_n 0, 1) := by decide +kernel
theorem dX6_schedules_96 : decode cX6_schedules 96 = .ok (.getfield 26, 3) := by decide +kernel
theorem dX6_schedules_99 : decode cX6_schedules 99 = .ok (.iload_n 1, 1) := by decide +kernel
theorem dX6_schedules_100 : decode cX6_schedules 100 = .ok (.laload, 1) := by decide +kernel
theorem dX6_schedules_101 : decode cX6_schedules 101 = .ok (.aload_n 0, 1) := by decide +kernel
theorem dX6_schedules_102 : decode cX6_schedules 102 = .ok (.getfield 90, 3) := by decide +kernel
theorem dX6_schedules_105 : decode cX6_schedules 105 = .ok (.iconst 5, 1) := by decide +kernel
theorem dX6_schedules_106 : decode cX6_schedules 106 = .ok (.iload_n 1, 1) := by decide +kernel
theorem dX6_schedules_107 : decode cX6_schedules 107 = .ok (.imul, 1) := by decide +kernel
theorem dX6_schedules_108 : decode cX6_schedules 108 = .ok (.iload_n 3, 1) := by decide +kernel
theorem dX6_schedules_109 : decode cX6_schedules 109 = .ok (.iadd, 1) := by decide +kernel
theorem dX6_schedules_110 : decode cX6_schedules 110 = .ok (.laload, 1) := by decide +kernel
theorem dX6_schedules_111 : decode cX6_schedules 111 = .ok (.lsub, 1) := by decide +kernel
theorem dX6_schedules_112 : decode cX6_schedules 112 = .ok (.goto 4, 3) := by decide +kernel
theorem dX6_schedules_115 : decode cX6_schedules 115 = .ok (.lconst 0, 1) := by decide +kernel
theorem dX6_schedules_116 : decode cX6_schedules 116 = .ok (.lstore 6, 2) := by decide +kernel
theorem dX6_schedules_118 : decode cX6_schedules 118 = .ok (.iload 5, 2) := by decide +kernel
theorem dX6_schedules_120 : decode cX6_schedules 120 = .ok (.ifCond .eq 29, 3) := by decide +kernel
theorem dX6_schedules_123 : decode cX6_schedules 123 = .ok (.aload_n 0, 1) := by decide +kernel
theorem dX6_schedules_124 : decode cX6_schedules 124 = .ok (.getfield 90, 3) := by decide +kernel
theorem dX6_schedules_127 : decode cX6_schedules 127 = .ok (.iconst 5, 1) := by decide +kernel
theorem dX6_schedules_128 : decode cX6_schedules 128 = .ok (.iload_n 1, 1) := by decide +kernel
theorem dX6_schedules_129 : decode cX6_schedules 129 = .ok (.imul, 1) := by decide +kernel
theorem dX6_schedules_130 : decode cX6_schedules 130 = .ok (.iload_n 3, 1) := by decide +kernel
theorem dX6_schedules_131 : decode cX6_schedules 131 = .ok (.iadd, 1) := by decide +kernel
theorem dX6_schedules_132 : decode cX6_schedules 132 = .ok (.iconst 1, 1) := by decide +kernel
theorem dX6_schedules_133 : decode cX6_schedules 133 = .ok (.iadd, 1) := by decide +kernel
theorem dX6_schedules_134 : decode cX6_schedules 134 = .ok (.laload, 1) := by decide +kernel
theorem dX6_schedules_135 : decode cX6_schedules 135 = .ok (.aload_n 0, 1) := by decide +kernel
theorem dX6_schedules_136 : decode cX6_schedules 136 = .ok (.getfield 90, 3) := by decide +kernel
theorem dX6_schedules_139 : decode cX6_schedules 139 = .ok (.iconst 5, 1) := by decide +kernel
theorem dX6_schedules_140 : decode cX6_schedules 140 = .ok (.iload_n 1, 1) := by decide +kernel
theorem dX6_schedules_141 : decode cX6_schedules 141 = .ok (.imul, 1) := by decide +kernel
theorem dX6_schedules_142 : decode cX6_schedules 142 = .ok (.iload_n 3, 1) := by decide +kernel
theorem dX6_schedules_143 : decode cX6_schedules 143 = .ok (.iadd, 1) := by decide +kernel
theorem dX6_schedules_144 : decode cX6_schedules 144 = .ok (.laload, 1) := by decide +kernel
theorem dX6_schedules_145 : decode cX6_schedules 145 = .ok (.lsub, 1) := by decide +kernel
theorem dX6_schedules_146 : decode cX6_schedules 146 = .ok (.goto 4, 3) := by decide +kernel
theorem dX6_schedules_149 : decode cX6_schedules 149 = .ok (.lconst 1, 1) := by decide +kernel
theorem dX6_schedules_150 : decode cX6_schedules 150 = .ok (.lstore 8, 2) := by decide +kernel
theorem dX6_schedules_152 : decode cX6_schedules 152 = .ok (.iload 5, 2) := by decide +kernel
theorem dX6_schedules_154 : decode cX6_schedules 154 = .ok (.ifCond .eq 10, 3) := by decide +kernel
theorem dX6_schedules_157 : decode cX6_schedules 157 = .ok (.iload 4, 2) := by decide +kernel
theorem dX6_schedules_159 : decode cX6_schedules 159 = .ok (.iconst 3, 1) := by decide +kernel
theorem dX6_schedules_160 : decode cX6_schedules 160 = .ok (.iadd, 1) := by decide +kernel
theorem dX6_schedules_161 : decode cX6_schedules 161 = .ok (.goto 5, 3) := by decide +kernel
theorem dX6_schedules_164 : decode cX6_schedules 164 = .ok (.iload 4, 2) := by decide +kernel
theorem dX6_schedules_166 : decode cX6_schedules 166 = .ok (.istore 10, 2) := by decide +kernel
theorem dX6_schedules_168 : decode cX6_schedules 168 = .ok (.aload_n 0, 1) := by decide +kernel
theorem dX6_schedules_169 : decode cX6_schedules 169 = .ok (.iload_n 1, 1) := by decide +kernel
theorem dX6_schedules_170 : decode cX6_schedules 170 = .ok (.aload_n 0, 1) := by decide +kernel
theorem dX6_schedules_171 : decode cX6_schedules 171 = .ok (.getfield 93, 3) := by decide +kernel
theorem dX6_schedules_174 : decode cX6_schedules 174 = .ok (.iload 4, 2) := by decide +kernel
theorem dX6_schedules_176 : decode cX6_schedules 176 = .ok (.laload, 1) := by decide +kernel
theorem dX6_schedules_177 : decode cX6_schedules 177 = .ok (.aload_n 0, 1) := by decide +kernel
theorem dX6_schedules_178 : decode cX6_schedules 178 = .ok (.getfield 93, 3) := by decide +kernel
theorem dX6_schedules_181 : decode cX6_schedules 181 = .ok (.iload 10, 2) := by decide +kernel
theorem dX6_schedules_183 : decode cX6_schedules 183 = .ok (.laload, 1) := by decide +kernel
theorem dX6_schedules_184 : decode cX6_schedules 184 = .ok (.aload_n 0, 1) := by decide +kernel
theorem dX6_schedules_185 : decode cX6_schedules 185 = .ok (.getfield 93, 3) := by decide +kernel
theorem dX6_schedules_188 : decode cX6_schedules 188 = .ok (.iload 4, 2) := by decide +kernel
theorem dX6_schedules_190 : decode cX6_schedules 190 = .ok (.laload, 1) := by decide +kernel
theorem dX6_schedules_191 : decode cX6_schedules 191 = .ok (.lsub, 1) := by decide +kernel
theorem dX6_schedules_192 : decode cX6_schedules 192 = .ok (.lload 6, 2) := by decide +kernel
theorem dX6_schedules_194 : decode cX6_schedules 194 = .ok (.lmul, 1) := by decide +kernel
theorem dX6_schedules_195 : decode cX6_schedules 195 = .ok (.lload 8, 2) := by decide +kernel
theorem dX6_schedules_197 : decode cX6_schedules 197 = .ok (.invokestatic 182, 3) := by decide +kernel
theorem dX6_schedules_200 : decode cX6_schedules 200 = .ok (.ladd, 1) := by decide +kernel
theorem dX6_schedules_201 : decode cX6_schedules 201 = .ok (.aload_n 0, 1) := by decide +kernel
theorem dX6_schedules_202 : decode cX6_schedules 202 = .ok (.getfield 93, 3) := by decide +kernel
theorem dX6_schedules_205 : decode cX6_schedules 205 = .ok (.iload 4, 2) := by decide +kernel
theorem dX6_schedules_207 : decode cX6_schedules 207 = .ok (.iconst 1, 1) := by decide +kernel
theorem dX6_schedules_208 : decode cX6_schedules 208 = .ok (.iadd, 1) := by decide +kernel
theorem dX6_schedules_209 : decode cX6_schedules 209 = .ok (.laload, 1) := by decide +kernel
theorem dX6_schedules_210 : decode cX6_schedules 210 = .ok (.aload_n 0, 1) := by decide +kernel
theorem dX6_schedules_211 : decode cX6_schedules 211 = .ok (.getfield 93, 3) := by decide +kernel
theorem dX6_schedules_214 : decode cX6_schedules 214 = .ok (.iload 10, 2) := by decide +kernel
theorem dX6_schedules_216 : decode cX6_schedules 216 = .ok (.iconst 1, 1) := by decide +kernel
theorem dX6_schedules_217 : decode cX6_schedules 217 = .ok (.iadd, 1) := by decide +kernel
theorem dX6_schedules_218 : decode cX6_schedules 218 = .ok (.laload, 1) := by decide +kernel
theorem dX6_schedules_219 : decode cX6_schedules 219 = .ok (.aload_n 0, 1) := by decide +kernel
theorem dX6_schedules_220 : decode cX6_schedules 220 = .ok (.getfield 93, 3) := by decide +kernel
theorem dX6_schedules_223 : decode cX6_schedules 223 = .ok (.iload 4, 2) := by decide +kernel
theorem dX6_schedules_225 : decode cX6_schedules 225 = .ok (.iconst 1, 1) := by decide +kernel
theorem dX6_schedules_226 : decode cX6_schedules 226 = .ok (.iadd, 1) := by decide +kernel
theorem dX6_schedules_227 : decode cX6_schedules 227 = .ok (.laload, 1) := by decide +kernel
theorem dX6_schedules_228 : decode cX6_schedules 228 = .ok (.lsub, 1) := by decide +kernel
theorem dX6_schedules_229 : decode cX6_schedules 229 = .ok (.lload 6, 2) := by decide +kernel
theorem dX6_schedules_231 : decode cX6_schedules 231 = .ok (.lmul, 1) := by decide +kernel
theorem dX6_schedules_232 : decode cX6_schedules 232 = .ok (.lload 8, 2) := by decide +kernel
theorem dX6_schedules_234 : decode cX6_schedules 234 = .ok (.invokestatic 182, 3) := by decide +kernel
theorem dX6_schedules_237 : decode cX6_schedules 237 = .ok (.ladd, 1) := by decide +kernel
theorem dX6_schedules_238 : decode cX6_schedules 238 = .ok (.aload_n 0, 1) := by decide +kernel
theorem dX6_schedules_239 : decode cX6_schedules 239 = .ok (.getfield 93, 3) := by decide +kernel
theorem dX6_schedules_242 : decode cX6_schedules 242 = .ok (.iload 4, 2) := by decide +kernel
theorem dX6_schedules_244 : decode cX6_schedules 244 = .ok (.iconst 2, 1) := by decide +kernel
theorem dX6_schedules_245 : decode cX6_schedules 245 = .ok (.iadd, 1) := by decide +kernel
theorem dX6_schedules_246 : decode cX6_schedules 246 = .ok (.laload, 1) := by decide +kernel
theorem dX6_schedules_247 : decode cX6_schedules 247 = .ok (.aload_n 0, 1) := by decide +kernel
theorem dX6_schedules_248 : decode cX6_schedules 248 = .ok (.getfield 93, 3) := by decide +kernel
theorem dX6_schedules_251 : decode cX6_schedules 251 = .ok (.iload 10, 2) := by decide +kernel
theorem dX6_schedules_253 : decode cX6_schedules 253 = .ok (.iconst 2, 1) := by decide +kernel
theorem dX6_schedules_254 : decode cX6_schedules 254 = .ok (.iadd, 1) := by decide +kernel
theorem dX6_schedules_255 : decode cX6_schedules 255 = .ok (.laload, 1) := by decide +kernel
theorem dX6_schedules_256 : decode cX6_schedules 256 = .ok (.aload_n 0, 1) := by decide +kernel
theorem dX6_schedules_257 : decode cX6_schedules 257 = .ok (.getfield 93, 3) := by decide +kernel
theorem dX6_schedules_260 : decode cX6_schedules 260 = .ok (.iload 4, 2) := by decide +kernel
theorem dX6_schedules_262 : decode cX6_schedules 262 = .ok (.iconst 2, 1) := by decide +kernel
theorem dX6_schedules_263 : decode cX6_schedules 263 = .ok (.iadd, 1) := by decide +kernel
theorem dX6_schedules_264 : decode cX6_schedules 264 = .ok (.laload, 1) := by decide +kernel
theorem dX6_schedules_265 : decode cX6_schedules 265 = .ok (.lsub, 1) := by decide +kernel
theorem dX6_schedules_266 : decode cX6_schedules 266 = .ok (.lload 6, 2) := by decide +kernel
theorem dX6_schedules_268 : decode cX6_schedules 268 = .ok (.lmul, 1) := by decide +kernel
theorem dX6_schedules_269 : decode cX6_schedules 269 = .ok (.lload 8, 2) := by decide +kernel
theorem dX6_schedules_271 : decode cX6_schedules 271 = .ok (.invokestatic 182, 3) := by decide +kernel
theorem dX6_schedules_274 : decode cX6_schedules 274 = .ok (.ladd, 1) := by decide +kernel
theorem dX6_schedules_275 : decode cX6_schedules 275 = .ok (.invokevirtual 169, 3) := by decide +kernel
theorem dX6_schedules_278 : decode cX6_schedules 278 = .ok (.return_, 1) := by decide +kernel
theorem dX6_controls_0 : decode cX6_controls 0 = .ok (.aload_n 0, 1) := by decide +kernel
theorem dX6_controls_1 : decode cX6_controls 1 = .ok (.iload_n 1, 1) := by decide +kernel
theorem dX6_controls_2 : decode cX6_controls 2 = .ok (.invokevirtual 186, 3) := by decide +kernel
theorem dX6_controls_5 : decode cX6_controls 5 = .ok (.aload_n 0, 1) := by decide +kernel
theorem dX6_controls_6 : decode cX6_controls 6 = .ok (.iload_n 1, 1) := by decide +kernel
theorem dX6_controls_7 : decode cX6_controls 7 = .ok (.invokevirtual 159, 3) := by decide +kernel
theorem dX6_controls_10 : decode cX6_controls 10 = .ok (.lstore_n 2, 1) := by decide +kernel
theorem dX6_controls_11 : decode cX6_controls 11 = .ok (.aload_n 0, 1) := by decide +kernel
theorem dX6_controls_12 : decode cX6_controls 12 = .ok (.iload_n 1, 1) := by decide +kernel
theorem dX6_controls_13 : decode cX6_controls 13 = .ok (.invokevirtual 163, 3) := by decide +kernel
theorem dX6_controls_16 : decode cX6_controls 16 = .ok (.lstore 4, 2) := by decide +kernel
theorem dX6_controls_18 : decode cX6_controls 18 = .ok (.aload_n 0, 1) := by decide +kernel
theorem dX6_controls_19 : decode cX6_controls 19 = .ok (.getfield 35, 3) := by decide +kernel
theorem dX6_controls_22 : decode cX6_controls 22 = .ok (.iconst 3, 1) := by decide +kernel
theorem dX6_controls_23 : decode cX6_controls 23 = .ok (.iload_n 1, 1) := by decide +kernel
theorem dX6_controls_24 : decode cX6_controls 24 = .ok (.imul, 1) := by decide +kernel
theorem dX6_controls_25 : decode cX6_controls 25 = .ok (.laload, 1) := by decide +kernel
theorem dX6_controls_26 : decode cX6_controls 26 = .ok (.lstore 6, 2) := by decide +kernel
theorem dX6_controls_28 : decode cX6_controls 28 = .ok (.aload_n 0, 1) := by decide +kernel
theorem dX6_controls_29 : decode cX6_controls 29 = .ok (.getfield 35, 3) := by decide +kernel
theorem dX6_controls_32 : decode cX6_controls 32 = .ok (.iconst 3, 1) := by decide +kernel
theorem dX6_controls_33 : decode cX6_controls 33 = .ok (.iload_n 1, 1) := by decide +kernel
theorem dX6_controls_34 : decode cX6_controls 34 = .ok (.imul, 1) := by decide +kernel
theorem dX6_controls_35 : decode cX6_controls 35 = .ok (.iconst 1, 1) := by decide +kernel
theorem dX6_controls_36 : decode cX6_controls 36 = .ok (.iadd, 1) := by decide +kernel
theorem dX6_controls_37 : decode cX6_controls 37 = .ok (.laload, 1) := by decide +kernel
theorem dX6_controls_38 : decode cX6_controls 38 = .ok (.lstore 8, 2) := by decide +kernel
theorem dX6_controls_40 : decode cX6_controls 40 = .ok (.aload_n 0, 1) := by decide +kernel
theorem dX6_controls_41 : decode cX6_controls 41 = .ok (.getfield 35, 3) := by decide +kernel
theorem dX6_controls_44 : decode cX6_controls 44 = .ok (.iconst 3, 1) := by decide +kernel
theorem dX6_controls_45 : decode cX6_controls 45 = .ok (.iload_n 1, 1) := by decide +kernel
theorem dX6_controls_46 : decode cX6_controls 46 = .ok (.imul, 1) := by decide +kernel
theorem dX6_controls_47 : decode cX6_controls 47 = .ok (.iconst 2, 1) := by decide +kernel
theorem dX6_controls_48 : decode cX6_controls 48 = .ok (.iadd, 1) := by decide +kernel
theorem dX6_controls_49 : decode cX6_controls 49 = .ok (.laload, 1) := by decide +kernel
theorem dX6_controls_50 : decode cX6_controls 50 = .ok (.lstore 10, 2) := by decide +kernel
theorem dX6_controls_52 : decode cX6_controls 52 = .ok (.aload_n 0, 1) := by decide +kernel
theorem dX6_controls_53 : decode cX6_controls 53 = .ok (.getfield 47, 3) := by decide +kernel
theorem dX6_controls_56 : decode cX6_controls 56 = .ok (.iload_n 1, 1) := by decide +kernel
theorem dX6_controls_57 : decode cX6_controls 57 = .ok (.dup2, 1) := by decide +kernel
theorem dX6_controls_58 : decode cX6_controls 58 = .ok (.laload, 1) := by decide +kernel
theorem dX6_controls_59 : decode cX6_controls 59 = .ok (.lload 8, 2) := by decide +kernel
theorem dX6_controls_61 : decode cX6_controls 61 = .ok (.lload_n 2, 1) := by decide +kernel
theorem dX6_controls_62 : decode cX6_controls 62 = .ok (.lmul, 1) := by decide +kernel
theorem dX6_controls_63 : decode cX6_controls 63 = .ok (.ladd, 1) := by decide +kernel
theorem dX6_controls_64 : decode cX6_controls 64 = .ok (.lastore, 1) := by decide +kernel
theorem dX6_controls_65 : decode cX6_controls 65 = .ok (.lload 6, 2) := by decide +kernel
theorem dX6_controls_67 : decode cX6_controls 67 = .ok (.lload_n 2, 1) := by decide +kernel
theorem dX6_controls_68 : decode cX6_controls 68 = .ok (.lmul, 1) := by decide +kernel
theorem dX6_controls_69 : decode cX6_controls 69 = .ok (.aload_n 0, 1) := by decide +kernel
theorem dX6_controls_70 : decode cX6_controls 70 = .ok (.getfield 47, 3) := by decide +kernel
theorem dX6_controls_73 : decode cX6_controls 73 = .ok (.iload_n 1, 1) := by decide +kernel
theorem dX6_controls_74 : decode cX6_controls 74 = .ok (.laload, 1) := by decide +kernel
theorem dX6_controls_75 : decode cX6_controls 75 = .ok (.ladd, 1) := by decide +kernel
theorem dX6_controls_76 : decode cX6_controls 76 = .ok (.lload 10, 2) := by decide +kernel
theorem dX6_controls_78 : decode cX6_controls 78 = .ok (.lload 4, 2) := by decide +kernel
theorem dX6_controls_80 : decode cX6_controls 80 = .ok (.lmul, 1) := by decide +kernel
theorem dX6_controls_81 : decode cX6_controls 81 = .ok (.ladd, 1) := by decide +kernel
theorem dX6_controls_82 : decode cX6_controls 82 = .ok (.lstore 12, 2) := by decide +kernel
theorem dX6_controls_84 : decode cX6_controls 84 = .ok (.lload 12, 2) := by decide +kernel
theorem dX6_controls_86 : decode cX6_controls 86 = .ok (.ldc2_w 136, 3) := by decide +kernel
theorem dX6_controls_89 : decode cX6_controls 89 = .ok (.invokestatic 182, 3) := by decide +kernel
theorem dX6_controls_92 : decode cX6_controls 92 = .ok (.lstore 14, 2) := by decide +kernel
theorem dX6_controls_94 : decode cX6_controls 94 = .ok (.lload 14, 2) := by decide +kernel
theorem dX6_controls_96 : decode cX6_controls 96 = .ok (.aload_n 0, 1) := by decide +kernel
theorem dX6_controls_97 : decode cX6_controls 97 = .ok (.getfield 38, 3) := by decide +kernel
theorem dX6_controls_100 : decode cX6_controls 100 = .ok (.iload_n 1, 1) := by decide +kernel
theorem dX6_controls_101 : decode cX6_controls 101 = .ok (.laload, 1) := by decide +kernel
theorem dX6_controls_102 : decode cX6_controls 102 = .ok (.aload_n 0, 1) := by decide +kernel
theorem dX6_controls_103 : decode cX6_controls 103 = .ok (.getfield 41, 3) := by decide +kernel
theorem dX6_controls_106 : decode cX6_controls 106 = .ok (.iload_n 1, 1) := by decide +kernel
theorem dX6_controls_107 : decode cX6_controls 107 = .ok (.laload, 1) := by decide +kernel
theorem dX6_controls_108 : decode cX6_controls 108 = .ok (.invokestatic 190, 3) := by decide +kernel
theorem dX6_controls_111 : decode cX6_controls 111 = .ok (.lstore 16, 2) := by decide +kernel
theorem dX6_controls_113 : decode cX6_controls 113 = .ok (.aload_n 0, 1) := by decide +kernel
theorem dX6_controls_114 : decode cX6_controls 114 = .ok (.getfield 50, 3) := by decide +kernel
theorem dX6_controls_117 : decode cX6_controls 117 = .ok (.iload_n 1, 1) := by decide +kernel
theorem dX6_controls_118 : decode cX6_controls 118 = .ok (.iaload, 1) := by decide +kernel
theorem dX6_controls_119 : decode cX6_controls 119 = .ok (.iconst 1, 1) := by decide +kernel
theorem dX6_controls_120 : decode cX6_controls 120 = .ok (.if_icmp .ne 52, 3) := by decide +kernel
theorem dX6_controls_123 : decode cX6_controls 123 = .ok (.lload 14, 2) := by decide +kernel
theorem dX6_controls_125 : decode cX6_controls 125 = .ok (.aload_n 0, 1) := by decide +kernel
theorem dX6_controls_126 : decode cX6_controls 126 = .ok (.getfield 41, 3) := by decide +kernel
theorem dX6_controls_129 : decode cX6_controls 129 = .ok (.iload_n 1, 1) := by decide +kernel
theorem dX6_controls_130 : decode cX6_controls 130 = .ok (.laload, 1) := by decide +kernel
theorem dX6_controls_131 : decode cX6_controls 131 = .ok (.lcmp, 1) := by decide +kernel
theorem dX6_controls_132 : decode cX6_controls 132 = .ok (.ifCond .le 9, 3) := by decide +kernel
theorem dX6_controls_135 : decode cX6_controls 135 = .ok (.lload_n 2, 1) := by decide +kernel
theorem dX6_controls_136 : decode cX6_controls 136 = .ok (.lconst 0, 1) := by decide +kernel
theorem dX6_controls_137 : decode cX6_controls 137 = .ok (.lcmp, 1) := by decide +kernel
theorem dX6_controls_138 : decode cX6_controls 138 = .ok (.ifCond .gt 21, 3) := by decide +kernel
theorem dX6_controls_141 : decode cX6_controls 141 = .ok (.lload 14, 2) := by decide +kernel
theorem dX6_controls_143 : decode cX6_controls 143 = .ok (.aload_n 0, 1) := by decide +kernel
theorem dX6_controls_144 : decode cX6_controls 144 = .ok (.getfield 38, 3) := by decide +kernel
theorem dX6_controls_147 : decode cX6_controls 147 = .ok (.iload_n 1, 1) := by decide +kernel
theorem dX6_controls_148 : decode cX6_controls 148 = .ok (.laload, 1) := by decide +kernel
theorem dX6_controls_149 : decode cX6_controls 149 = .ok (.lcmp, 1) := by decide +kernel
theorem dX6_controls_150 : decode cX6_controls 150 = .ok (.ifCond .ge 22, 3) := by decide +kernel
theorem dX6_controls_153 : decode cX6_controls 153 = .ok (.lload_n 2, 1) := by decide +kernel
theorem dX6_controls_154 : decode cX6_controls 154 = .ok (.lconst 0, 1) := by decide +kernel
theorem dX6_controls_155 : decode cX6_controls 155 = .ok (.lcmp, 1) := by decide +kernel
theorem dX6_controls_156 : decode cX6_controls 156 = .ok (.ifCond .ge 16, 3) := by decide +kernel
theorem dX6_controls_159 : decode cX6_controls 159 = .ok (.aload_n 0, 1) := by decide +kernel
theorem dX6_controls_160 : decode cX6_controls 160 = .ok (.getfield 47, 3) := by decide +kernel
theorem dX6_controls_163 : decode cX6_controls 163 = .ok (.iload_n 1, 1) := by decide +kernel
theorem dX6_controls_164 : decode cX6_controls 164 = .ok (.dup2, 1) := by decide +kernel
theorem dX6_controls_165 : decode cX6_controls 165 = .ok (.laload, 1) := by decide +kernel
theorem dX6_controls_166 : decode cX6_controls 166 = .ok (.lload 8, 2) := by decide +kernel
theorem dX6_controls_168 : decode cX6_controls 168 = .ok (.lload_n 2, 1) := by decide +kernel
theorem dX6_controls_169 : decode cX6_controls 169 = .ok (.lmul, 1) := by decide +kernel
theorem dX6_controls_170 : decode cX6_controls 170 = .ok (.lsub, 1) := by decide +kernel
theorem dX6_controls_171 : decode cX6_controls 171 = .ok (.lastore, 1) := by decide +kernel
theorem dX6_controls_172 : decode cX6_controls 172 = .ok (.aload_n 0, 1) := by decide +kernel
theorem dX6_controls_173 : decode cX6_controls 173 = .ok (.getfield 50, 3) := by decide +kernel
theorem dX6_controls_176 : decode cX6_controls 176 = .ok (.iload_n 1, 1) := by decide +kernel
theorem dX6_controls_177 : decode cX6_controls 177 = .ok (.iaload, 1) := by decide +kernel
theorem dX6_controls_178 : decode cX6_controls 178 = .ok (.iconst 2, 1) := by decide +kernel
theorem dX6_controls_179 : decode cX6_controls 179 = .ok (.if_icmp .ne 25, 3) := by decide +kernel
theorem dX6_controls_182 : decode cX6_controls 182 = .ok (.aload_n 0, 1) := by decide +kernel
theorem dX6_controls_183 : decode cX6_controls 183 = .ok (.getfield 47, 3) := by decide +kernel
theorem dX6_controls_186 : decode cX6_controls 186 = .ok (.iload_n 1, 1) := by decide +kernel
theorem dX6_controls_187 : decode cX6_controls 187 = .ok (.dup2, 1) := by decide +kernel
theorem dX6_controls_188 : decode cX6_controls 188 = .ok (.laload, 1) := by decide +kernel
theorem dX6_controls_189 : decode cX6_controls 189 = .ok (.aload_n 0, 1) := by decide +kernel
theorem dX6_controls_190 : decode cX6_controls 190 = .ok (.getfield 53, 3) := by decide +kernel
theorem dX6_controls_193 : decode cX6_controls 193 = .ok (.iload_n 1, 1) := by decide +kernel
theorem dX6_controls_194 : decode cX6_controls 194 = .ok (.iaload, 1) := by decide +kernel
theorem dX6_controls_195 : decode cX6_controls 195 = .ok (.i2l, 1) := by decide +kernel
theorem dX6_controls_196 : decode cX6_controls 196 = .ok (.lload 16, 2) := by decide +kernel
theorem dX6_controls_198 : decode cX6_controls 198 = .ok (.lload 14, 2) := by decide +kernel
theorem dX6_controls_200 : decode cX6_controls 200 = .ok (.lsub, 1) := by decide +kernel
theorem dX6_controls_201 : decode cX6_controls 201 = .ok (.lmul, 1) := by decide +kernel
theorem dX6_controls_202 : decode cX6_controls 202 = .ok (.ladd, 1) := by decide +kernel
theorem dX6_controls_203 : decode cX6_controls 203 = .ok (.lastore, 1) := by decide +kernel
theorem dX6_controls_204 : decode cX6_controls 204 = .ok (.aload_n 0, 1) := by decide +kernel
theorem dX6_controls_205 : decode cX6_controls 205 = .ok (.getfield 75, 3) := by decide +kernel
theorem dX6_controls_208 : decode cX6_controls 208 = .ok (.iload_n 1, 1) := by decide +kernel
theorem dX6_controls_209 : decode cX6_controls 209 = .ok (.aload_n 0, 1) := by decide +kernel
theorem dX6_controls_210 : decode cX6_controls 210 = .ok (.getfield 84, 3) := by decide +kernel
theorem dX6_controls_213 : decode cX6_controls 213 = .ok (.iload_n 1, 1) := by decide +kernel
theorem dX6_controls_214 : decode cX6_controls 214 = .ok (.baload, 1) := by decide +kernel
theorem dX6_controls_215 : decode cX6_controls 215 = .ok (.ifCond .eq 42, 3) := by decide +kernel
theorem dX6_controls_218 : decode cX6_controls 218 = .ok (.aload_n 0, 1) := by decide +kernel
theorem dX6_controls_219 : decode cX6_controls 219 = .ok (.getfield 75, 3) := by decide +kernel
theorem dX6_controls_222 : decode cX6_controls 222 = .ok (.iload_n 1, 1) := by decide +kernel
theorem dX6_controls_223 : decode cX6_controls 223 = .ok (.laload, 1) := by decide +kernel
theorem dX6_controls_224 : decode cX6_controls 224 = .ok (.lload 6, 2) := by decide +kernel
theorem dX6_controls_226 : decode cX6_controls 226 = .ok (.lload_n 2, 1) := by decide +kernel
theorem dX6_controls_227 : decode cX6_controls 227 = .ok (.aload_n 0, 1) := by decide +kernel
theorem dX6_controls_228 : decode cX6_controls 228 = .ok (.getfield 78, 3) := by decide +kernel
theorem dX6_controls_231 : decode cX6_controls 231 = .ok (.iload_n 1, 1) := by decide +kernel
theorem dX6_controls_232 : decode cX6_controls 232 = .ok (.laload, 1) := by decide +kernel
theorem dX6_controls_233 : decode cX6_controls 233 = .ok (.lsub, 1) := by decide +kernel
theorem dX6_controls_234 : decode cX6_controls 234 = .ok (.lmul, 1) := by decide +kernel
theorem dX6_controls_235 : decode cX6_controls 235 = .ok (.ladd, 1) := by decide +kernel
theorem dX6_controls_236 : decode cX6_controls 236 = .ok (.lload 8, 2) := by decide +kernel
theorem dX6_controls_238 : decode cX6_controls 238 = .ok (.lload_n 2, 1) := by decide +kernel
theorem dX6_controls_239 : decode cX6_controls 239 = .ok (.lmul, 1) := by decide +kernel
theorem dX6_controls_240 : decode cX6_controls 240 = .ok (.ladd, 1) := by decide +kernel
theorem dX6_controls_241 : decode cX6_controls 241 = .ok (.lload 10, 2) := by decide +kernel
theorem dX6_controls_243 : decode cX6_controls 243 = .ok (.lload 4, 2) := by decide +kernel
theorem dX6_controls_245 : decode cX6_controls 245 = .ok (.aload_n 0, 1) := by decide +kernel
theorem dX6_controls_246 : decode cX6_controls 246 = .ok (.getfield 81, 3) := by decide +kernel
theorem dX6_controls_249 : decode cX6_controls 249 = .ok (.iload_n 1, 1) := by decide +kernel
theorem dX6_controls_250 : decode cX6_controls 250 = .ok (.laload, 1) := by decide +kernel
theorem dX6_controls_251 : decode cX6_controls 251 = .ok (.lsub, 1) := by decide +kernel
theorem dX6_controls_252 : decode cX6_controls 252 = .ok (.lmul, 1) := by decide +kernel
theorem dX6_controls_253 : decode cX6_controls 253 = .ok (.ladd, 1) := by decide +kernel
theorem dX6_controls_254 : decode cX6_controls 254 = .ok (.goto 5, 3) := by decide +kernel
theorem dX6_controls_257 : decode cX6_controls 257 = .ok (.lload 12, 2) := by decide +kernel
theorem dX6_controls_259 : decode cX6_controls 259 = .ok (.lastore, 1) := by decide +kernel
theorem dX6_controls_260 : decode cX6_controls 260 = .ok (.aload_n 0, 1) := by decide +kernel
theorem dX6_controls_261 : decode cX6_controls 261 = .ok (.getfield 78, 3) := by decide +kernel
theorem dX6_controls_264 : decode cX6_controls 264 = .ok (.iload_n 1, 1) := by decide +kernel
theorem dX6_controls_265 : decode cX6_controls 265 = .ok (.lload_n 2, 1) := by decide +kernel
theorem dX6_controls_266 : decode cX6_controls 266 = .ok (.lastore, 1) := by decide +kernel
theorem dX6_controls_267 : decode cX6_controls 267 = .ok (.aload_n 0, 1) := by decide +kernel
theorem dX6_controls_268 : decode cX6_controls 268 = .ok (.getfield 81, 3) := by decide +kernel
theorem dX6_controls_271 : decode cX6_controls 271 = .ok (.iload_n 1, 1) := by decide +kernel
theorem dX6_controls_272 : decode cX6_controls 272 = .ok (.lload 4, 2) := by decide +kernel
theorem dX6_controls_274 : decode cX6_controls 274 = .ok (.lastore, 1) := by decide +kernel
theorem dX6_controls_275 : decode cX6_controls 275 = .ok (.aload_n 0, 1) := by decide +kernel
theorem dX6_controls_276 : decode cX6_controls 276 = .ok (.getfield 84, 3) := by decide +kernel
theorem dX6_controls_279 : decode cX6_controls 279 = .ok (.iload_n 1, 1) := by decide +kernel
theorem dX6_controls_280 : decode cX6_controls 280 = .ok (.iconst 1, 1) := by decide +kernel
theorem dX6_controls_281 : decode cX6_controls 281 = .ok (.bastore, 1) := by decide +kernel
theorem dX6_controls_282 : decode cX6_controls 282 = .ok (.aload_n 0, 1) := by decide +kernel
theorem dX6_controls_283 : decode cX6_controls 283 = .ok (.getfield 72, 3) := by decide +kernel
theorem dX6_controls_286 : decode cX6_controls 286 = .ok (.iload_n 1, 1) := by decide +kernel
theorem dX6_controls_287 : decode cX6_controls 287 = .ok (.dup2, 1) := by decide +kernel
theorem dX6_controls_288 : decode cX6_controls 288 = .ok (.iaload, 1) := by decide +kernel
theorem dX6_controls_289 : decode cX6_controls 289 = .ok (.lload 16, 2) := by decide +kernel
theorem dX6_controls_291 : decode cX6_controls 291 = .ok (.lload 14, 2) := by decide +kernel
theorem dX6_controls_293 : decode cX6_controls 293 = .ok (.lcmp, 1) := by decide +kernel
theorem dX6_controls_294 : decode cX6_controls 294 = .ok (.ifCond .ne 7, 3) := by decide +kernel
theorem dX6_controls_297 : decode cX6_controls 297 = .ok (.iconst 0, 1) := by decide +kernel
theorem dX6_controls_298 : decode cX6_controls 298 = .ok (.goto 4, 3) := by decide +kernel
theorem dX6_controls_301 : decode cX6_controls 301 = .ok (.iconst 1, 1) := by decide +kernel
theorem dX6_controls_302 : decode cX6_controls 302 = .ok (.iadd, 1) := by decide +kernel
theorem dX6_controls_303 : decode cX6_controls 303 = .ok (.iastore, 1) := by decide +kernel
theorem dX6_controls_304 : decode cX6_controls 304 = .ok (.lload 16, 2) := by decide +kernel
theorem dX6_controls_306 : decode cX6_controls 306 = .ok (.lreturn, 1) := by decide +kernel
theorem dX6_relays_0 : decode cX6_relays 0 = .ok (.aload_n 0, 1) := by decide +kernel
theorem dX6_relays_1 : decode cX6_relays 1 = .ok (.iload_n 1, 1) := by decide +kernel
theorem dX6_relays_2 : decode cX6_relays 2 = .ok (.invokevirtual 159, 3) := by decide +kernel
theorem dX6_relays_5 : decode cX6_relays 5 = .ok (.lstore_n 2, 1) := by decide +kernel
theorem dX6_relays_6 : decode cX6_relays 6 = .ok (.aload_n 0, 1) := by decide +kernel
theorem dX6_relays_7 : decode cX6_relays 7 = .ok (.getfield 108, 3) := by decide +kernel
theorem dX6_relays_10 : decode cX6_relays 10 = .ok (.iload_n 1, 1) := by decide +kernel
theorem dX6_relays_11 : decode cX6_relays 11 = .ok (.baload, 1) := by decide +kernel
theorem dX6_relays_12 : decode cX6_relays 12 = .ok (.istore 4, 2) := by decide +kernel
theorem dX6_relays_14 : decode cX6_relays 14 = .ok (.aload_n 0, 1) := by decide +kernel
theorem dX6_relays_15 : decode cX6_relays 15 = .ok (.getfield 108, 3) := by decide +kernel
theorem dX6_relays_18 : decode cX6_relays 18 = .ok (.iload_n 1, 1) := by decide +kernel
theorem dX6_relays_19 : decode cX6_relays 19 = .ok (.lload_n 2, 1) := by decide +kernel
theorem dX6_relays_20 : decode cX6_relays 20 = .ok (.aload_n 0, 1) := by decide +kernel
theorem dX6_relays_21 : decode cX6_relays 21 = .ok (.getfield 105, 3) := by decide +kernel
theorem dX6_relays_24 : decode cX6_relays 24 = .ok (.iload_n 1, 1) := by decide +kernel
theorem dX6_relays_25 : decode cX6_relays 25 = .ok (.iaload, 1) := by decide +kernel
theorem dX6_relays_26 : decode cX6_relays 26 = .ok (.i2l, 1) := by decide +kernel
theorem dX6_relays_27 : decode cX6_relays 27 = .ok (.lcmp, 1) := by decide +kernel
theorem dX6_relays_28 : decode cX6_relays 28 = .ok (.ifCond .gt 21, 3) := by decide +kernel
theorem dX6_relays_31 : decode cX6_relays 31 = .ok (.lload_n 2, 1) := by decide +kernel
theorem dX6_relays_32 : decode cX6_relays 32 = .ok (.aload_n 0, 1) := by decide +kernel
theorem dX6_relays_33 : decode cX6_relays 33 = .ok (.getfield 105, 3) := by decide +kernel
theorem dX6_relays_36 : decode cX6_relays 36 = .ok (.iload_n 1, 1) := by decide +kernel
theorem dX6_relays_37 : decode cX6_relays 37 = .ok (.iaload, 1) := by decide +kernel
theorem dX6_relays_38 : decode cX6_relays 38 = .ok (.ineg, 1) := by decide +kernel
theorem dX6_relays_39 : decode cX6_relays 39 = .ok (.i2l, 1) := by decide +kernel
theorem dX6_relays_40 : decode cX6_relays 40 = .ok (.lcmp, 1) := by decide +kernel
theorem dX6_relays_41 : decode cX6_relays 41 = .ok (.ifCond .lt 12, 3) := by decide +kernel
theorem dX6_relays_44 : decode cX6_relays 44 = .ok (.iload 4, 2) := by decide +kernel
theorem dX6_relays_46 : decode cX6_relays 46 = .ok (.ifCond .eq 7, 3) := by decide +kernel
theorem dX6_relays_49 : decode cX6_relays 49 = .ok (.iconst 1, 1) := by decide +kernel
theorem dX6_relays_50 : decode cX6_relays 50 = .ok (.goto 4, 3) := by decide +kernel
theorem dX6_relays_53 : decode cX6_relays 53 = .ok (.iconst 0, 1) := by decide +kernel
theorem dX6_relays_54 : decode cX6_relays 54 = .ok (.bastore, 1) := by decide +kernel
theorem dX6_relays_55 : decode cX6_relays 55 = .ok (.aload_n 0, 1) := by decide +kernel
theorem dX6_relays_56 : decode cX6_relays 56 = .ok (.getfield 111, 3) := by decide +kernel
theorem dX6_relays_59 : decode cX6_relays 59 = .ok (.iload_n 1, 1) := by decide +kernel
theorem dX6_relays_60 : decode cX6_relays 60 = .ok (.dup2, 1) := by decide +kernel
theorem dX6_relays_61 : decode cX6_relays 61 = .ok (.iaload, 1) := by decide +kernel
theorem dX6_relays_62 : decode cX6_relays 62 = .ok (.iconst 1, 1) := by decide +kernel
theorem dX6_relays_63 : decode cX6_relays 63 = .ok (.iadd, 1) := by decide +kernel
theorem dX6_relays_64 : decode cX6_relays 64 = .ok (.iastore, 1) := by decide +kernel
theorem dX6_relays_65 : decode cX6_relays 65 = .ok (.aload_n 0, 1) := by decide +kernel
theorem dX6_relays_66 : decode cX6_relays 66 = .ok (.getfield 108, 3) := by decide +kernel
theorem dX6_relays_69 : decode cX6_relays 69 = .ok (.iload_n 1, 1) := by decide +kernel
theorem dX6_relays_70 : decode cX6_relays 70 = .ok (.baload, 1) := by decide +kernel
theorem dX6_relays_71 : decode cX6_relays 71 = .ok (.ifCond .eq 130, 3) := by decide +kernel
theorem dX6_relays_74 : decode cX6_relays 74 = .ok (.iload 4, 2) := by decide +kernel
theorem dX6_relays_76 : decode cX6_relays 76 = .ok (.ifCond .ne 125, 3) := by decide +kernel
theorem dX6_relays_79 : decode cX6_relays 79 = .ok (.aload_n 0, 1) := by decide +kernel
theorem dX6_relays_80 : decode cX6_relays 80 = .ok (.getfield 114, 3) := by decide +kernel
theorem dX6_relays_83 : decode cX6_relays 83 = .ok (.iload_n 1, 1) := by decide +kernel
theorem dX6_relays_84 : decode cX6_relays 84 = .ok (.dup2, 1) := by decide +kernel
theorem dX6_relays_85 : decode cX6_relays 85 = .ok (.iaload, 1) := by decide +kernel
theorem dX6_relays_86 : decode cX6_relays 86 = .ok (.iconst 1, 1) := by decide +kernel
theorem dX6_relays_87 : decode cX6_relays 87 = .ok (.iadd, 1) := by decide +kernel
theorem dX6_relays_88 : decode cX6_relays 88 = .ok (.iastore, 1) := by decide +kernel
theorem dX6_relays_89 : decode cX6_relays 89 = .ok (.aload_n 0, 1) := by decide +kernel
theorem dX6_relays_90 : decode cX6_relays 90 = .ok (.getfield 117, 3) := by decide +kernel
theorem dX6_relays_93 : decode cX6_relays 93 = .ok (.iload_n 1, 1) := by decide +kernel
theorem dX6_relays_94 : decode cX6_relays 94 = .ok (.aload_n 0, 1) := by decide +kernel
theorem dX6_relays_95 : decode cX6_relays 95 = .ok (.getfield 114, 3) := by decide +kernel
theorem dX6_relays_98 : decode cX6_relays 98 = .ok (.iload_n 1, 1) := by decide +kernel
theorem dX6_relays_99 : decode cX6_relays 99 = .ok (.iaload, 1) := by decide +kernel
theorem dX6_relays_100 : decode cX6_relays 100 = .ok (.iconst 2, 1) := by decide +kernel
theorem dX6_relays_101 : decode cX6_relays 101 = .ok (.if_icmp .ne 12, 3) := by decide +kernel
theorem dX6_relays_104 : decode cX6_relays 104 = .ok (.aload_n 0, 1) := by decide +kernel
theorem dX6_relays_105 : decode cX6_relays 105 = .ok (.getfield 111, 3) := by decide +kernel
theorem dX6_relays_108 : decode cX6_relays 108 = .ok (.iload_n 1, 1) := by decide +kernel
theorem dX6_relays_109 : decode cX6_relays 109 = .ok (.iaload, 1) := by decide +kernel
theorem dX6_relays_110 : decode cX6_relays 110 = .ok (.goto 9, 3) := by decide +kernel
theorem dX6_relays_113 : decode cX6_relays 113 = .ok (.aload_n 0, 1) := by decide +kernel
theorem dX6_relays_114 : decode cX6_relays 114 = .ok (.getfield 117, 3) := by decide +kernel
theorem dX6_relays_117 : decode cX6_relays 117 = .ok (.iload_n 1, 1) := by decide +kernel
theorem dX6_relays_118 : decode cX6_relays 118 = .ok (.iaload, 1) := by decide +kernel
theorem dX6_relays_119 : decode cX6_relays 119 = .ok (.iastore, 1) := by decide +kernel
theorem dX6_relays_120 : decode cX6_relays 120 = .ok (.aload_n 0, 1) := by decide +kernel
theorem dX6_relays_121 : decode cX6_relays 121 = .ok (.getfield 114, 3) := by decide +kernel
theorem dX6_relays_124 : decode cX6_relays 124 = .ok (.iload_n 1, 1) := by decide +kernel
theorem dX6_relays_125 : decode cX6_relays 125 = .ok (.iaload, 1) := by decide +kernel
theorem dX6_relays_126 : decode cX6_relays 126 = .ok (.iconst 4, 1) := by decide +kernel
theorem dX6_relays_127 : decode cX6_relays 127 = .ok (.if_icmp .ne 50, 3) := by decide +kernel
theorem dX6_relays_130 : decode cX6_relays 130 = .ok (.aload_n 0, 1) := by decide +kernel
theorem dX6_relays_131 : decode cX6_relays 131 = .ok (.getfield 96, 3) := by decide +kernel
theorem dX6_relays_134 : decode cX6_relays 134 = .ok (.iload_n 1, 1) := by decide +kernel
theorem dX6_relays_135 : decode cX6_relays 135 = .ok (.iconst 2, 1) := by decide +kernel
theorem dX6_relays_136 : decode cX6_relays 136 = .ok (.iastore, 1) := by decide +kernel
theorem dX6_relays_137 : decode cX6_relays 137 = .ok (.aload_n 0, 1) := by decide +kernel
theorem dX6_relays_138 : decode cX6_relays 138 = .ok (.getfield 126, 3) := by decide +kernel
theorem dX6_relays_141 : decode cX6_relays 141 = .ok (.iload_n 1, 1) := by decide +kernel
theorem dX6_relays_142 : decode cX6_relays 142 = .ok (.aload_n 0, 1) := by decide +kernel
theorem dX6_relays_143 : decode cX6_relays 143 = .ok (.getfield 111, 3) := by decide +kernel
theorem dX6_relays_146 : decode cX6_relays 146 = .ok (.iload_n 1, 1) := by decide +kernel
theorem dX6_relays_147 : decode cX6_relays 147 = .ok (.iaload, 1) := by decide +kernel
theorem dX6_relays_148 : decode cX6_relays 148 = .ok (.aload_n 0, 1) := by decide +kernel
theorem dX6_relays_149 : decode cX6_relays 149 = .ok (.getfield 117, 3) := by decide +kernel
theorem dX6_relays_152 : decode cX6_relays 152 = .ok (.iload_n 1, 1) := by decide +kernel
theorem dX6_relays_153 : decode cX6_relays 153 = .ok (.iaload, 1) := by decide +kernel
theorem dX6_relays_154 : decode cX6_relays 154 = .ok (.isub, 1) := by decide +kernel
theorem dX6_relays_155 : decode cX6_relays 155 = .ok (.iconst 2, 1) := by decide +kernel
theorem dX6_relays_156 : decode cX6_relays 156 = .ok (.idiv, 1) := by decide +kernel
theorem dX6_relays_157 : decode cX6_relays 157 = .ok (.iastore, 1) := by decide +kernel
theorem dX6_relays_158 : decode cX6_relays 158 = .ok (.aload_n 0, 1) := by decide +kernel
theorem dX6_relays_159 : decode cX6_relays 159 = .ok (.getfield 129, 3) := by decide +kernel
theorem dX6_relays_162 : decode cX6_relays 162 = .ok (.iload_n 1, 1) := by decide +kernel
theorem dX6_relays_163 : decode cX6_relays 163 = .ok (.aload_n 0, 1) := by decide +kernel
theorem dX6_relays_164 : decode cX6_relays 164 = .ok (.getfield 120, 3) := by decide +kernel
theorem dX6_relays_167 : decode cX6_relays 167 = .ok (.iload_n 1, 1) := by decide +kernel
theorem dX6_relays_168 : decode cX6_relays 168 = .ok (.laload, 1) := by decide +kernel
theorem dX6_relays_169 : decode cX6_relays 169 = .ok (.aload_n 0, 1) := by decide +kernel
theorem dX6_relays_170 : decode cX6_relays 170 = .ok (.getfield 123, 3) := by decide +kernel
theorem dX6_relays_173 : decode cX6_relays 173 = .ok (.iload_n 1, 1) := by decide +kernel
theorem dX6_relays_174 : decode cX6_relays 174 = .ok (.laload, 1) := by decide +kernel
theorem dX6_relays_175 : decode cX6_relays 175 = .ok (.lsub, 1) := by decide +kernel
theorem dX6_relays_176 : decode cX6_relays 176 = .ok (.lastore, 1) := by decide +kernel
theorem dX6_relays_177 : decode cX6_relays 177 = .ok (.aload_n 0, 1) := by decide +kernel
theorem dX6_relays_178 : decode cX6_relays 178 = .ok (.getfield 120, 3) := by decide +kernel
theorem dX6_relays_181 : decode cX6_relays 181 = .ok (.iload_n 1, 1) := by decide +kernel
theorem dX6_relays_182 : decode cX6_relays 182 = .ok (.aload_n 0, 1) := by decide +kernel
theorem dX6_relays_183 : decode cX6_relays 183 = .ok (.getfield 26, 3) := by decide +kernel
theorem dX6_relays_186 : decode cX6_relays 186 = .ok (.iload_n 1, 1) := by decide +kernel
theorem dX6_relays_187 : decode cX6_relays 187 = .ok (.laload, 1) := by decide +kernel
theorem dX6_relays_188 : decode cX6_relays 188 = .ok (.lastore, 1) := by decide +kernel
theorem dX6_relays_189 : decode cX6_relays 189 = .ok (.aload_n 0, 1) := by decide +kernel
theorem dX6_relays_190 : decode cX6_relays 190 = .ok (.getfield 123, 3) := by decide +kernel
theorem dX6_relays_193 : decode cX6_relays 193 = .ok (.iload_n 1, 1) := by decide +kernel
theorem dX6_relays_194 : decode cX6_relays 194 = .ok (.aload_n 0, 1) := by decide +kernel
theorem dX6_relays_195 : decode cX6_relays 195 = .ok (.getfield 26, 3) := by decide +kernel
theorem dX6_relays_198 : decode cX6_relays 198 = .ok (.iload_n 1, 1) := by decide +kernel
theorem dX6_relays_199 : decode cX6_relays 199 = .ok (.laload, 1) := by decide +kernel
theorem dX6_relays_200 : decode cX6_relays 200 = .ok (.lastore, 1) := by decide +kernel
theorem dX6_relays_201 : decode cX6_relays 201 = .ok (.aload_n 0, 1) := by decide +kernel
theorem dX6_relays_202 : decode cX6_relays 202 = .ok (.getfield 120, 3) := by decide +kernel
theorem dX6_relays_205 : decode cX6_relays 205 = .ok (.iload_n 1, 1) := by decide +kernel
theorem dX6_relays_206 : decode cX6_relays 206 = .ok (.aload_n 0, 1) := by decide +kernel
theorem dX6_relays_207 : decode cX6_relays 207 = .ok (.getfield 26, 3) := by decide +kernel
theorem dX6_relays_210 : decode cX6_relays 210 = .ok (.iload_n 1, 1) := by decide +kernel
theorem dX6_relays_211 : decode cX6_relays 211 = .ok (.laload, 1) := by decide +kernel
theorem dX6_relays_212 : decode cX6_relays 212 = .ok (.aload_n 0, 1) := by decide +kernel
theorem dX6_relays_213 : decode cX6_relays 213 = .ok (.getfield 120, 3) := by decide +kernel
theorem dX6_relays_216 : decode cX6_relays 216 = .ok (.iload_n 1, 1) := by decide +kernel
theorem dX6_relays_217 : decode cX6_relays 217 = .ok (.laload, 1) := by decide +kernel
theorem dX6_relays_218 : decode cX6_relays 218 = .ok (.lcmp, 1) := by decide +kernel
theorem dX6_relays_219 : decode cX6_relays 219 = .ok (.ifCond .le 12, 3) := by decide +kernel
theorem dX6_relays_222 : decode cX6_relays 222 = .ok (.aload_n 0, 1) := by decide +kernel
theorem dX6_relays_223 : decode cX6_relays 223 = .ok (.getfield 26, 3) := by decide +kernel
theorem dX6_relays_226 : decode cX6_relays 226 = .ok (.iload_n 1, 1) := by decide +kernel
theorem dX6_relays_227 : decode cX6_relays 227 = .ok (.laload, 1) := by decide +kernel
theorem dX6_relays_228 : decode cX6_relays 228 = .ok (.goto 9, 3) := by decide +kernel
theorem dX6_relays_231 : decode cX6_relays 231 = .ok (.aload_n 0, 1) := by decide +kernel
theorem dX6_relays_232 : decode cX6_relays 232 = .ok (.getfield 120, 3) := by decide +kernel
theorem dX6_relays_235 : decode cX6_relays 235 = .ok (.iload_n 1, 1) := by decide +kernel
theorem dX6_relays_236 : decode cX6_relays 236 = .ok (.laload, 1) := by decide +kernel
theorem dX6_relays_237 : decode cX6_relays 237 = .ok (.lastore, 1) := by decide +kernel
theorem dX6_relays_238 : decode cX6_relays 238 = .ok (.aload_n 0, 1) := by decide +kernel
theorem dX6_relays_239 : decode cX6_relays 239 = .ok (.getfield 123, 3) := by decide +kernel
theorem dX6_relays_242 : decode cX6_relays 242 = .ok (.iload_n 1, 1) := by decide +kernel
theorem dX6_relays_243 : decode cX6_relays 243 = .ok (.aload_n 0, 1) := by decide +kernel
theorem dX6_relays_244 : decode cX6_relays 244 = .ok (.getfield 26, 3) := by decide +kernel
theorem dX6_relays_247 : decode cX6_relays 247 = .ok (.iload_n 1, 1) := by decide +kernel
theorem dX6_relays_248 : decode cX6_relays 248 = .ok (.laload, 1) := by decide +kernel
theorem dX6_relays_249 : decode cX6_relays 249 = .ok (.aload_n 0, 1) := by decide +kernel
theorem dX6_relays_250 : decode cX6_relays 250 = .ok (.getfield 123, 3) := by decide +kernel
theorem dX6_relays_253 : decode cX6_relays 253 = .ok (.iload_n 1, 1) := by decide +kernel
theorem dX6_relays_254 : decode cX6_relays 254 = .ok (.laload, 1) := by decide +kernel
theorem dX6_relays_255 : decode cX6_relays 255 = .ok (.lcmp, 1) := by decide +kernel
theorem dX6_relays_256 : decode cX6_relays 256 = .ok (.ifCond .ge 12, 3) := by decide +kernel
theorem dX6_relays_259 : decode cX6_relays 259 = .ok (.aload_n 0, 1) := by decide +kernel
theorem dX6_relays_260 : decode cX6_relays 260 = .ok (.getfield 26, 3) := by decide +kernel
theorem dX6_relays_263 : decode cX6_relays 263 = .ok (.iload_n 1, 1) := by decide +kernel
theorem dX6_relays_264 : decode cX6_relays 264 = .ok (.laload, 1) := by decide +kernel
theorem dX6_relays_265 : decode cX6_relays 265 = .ok (.goto 9, 3) := by decide +kernel
theorem dX6_relays_268 : decode cX6_relays 268 = .ok (.aload_n 0, 1) := by decide +kernel
theorem dX6_relays_269 : decode cX6_relays 269 = .ok (.getfield 123, 3) := by decide +kernel
theorem dX6_relays_272 : decode cX6_relays 272 = .ok (.iload_n 1, 1) := by decide +kernel
theorem dX6_relays_273 : decode cX6_relays 273 = .ok (.laload, 1) := by decide +kernel
theorem dX6_relays_274 : decode cX6_relays 274 = .ok (.lastore, 1) := by decide +kernel
theorem dX6_relays_275 : decode cX6_relays 275 = .ok (.aload_n 0, 1) := by decide +kernel
theorem dX6_relays_276 : decode cX6_relays 276 = .ok (.getfield 111, 3) := by decide +kernel
theorem dX6_relays_279 : decode cX6_relays 279 = .ok (.iload_n 1, 1) := by decide +kernel
theorem dX6_relays_280 : decode cX6_relays 280 = .ok (.iaload, 1) := by decide +kernel
theorem dX6_relays_281 : decode cX6_relays 281 = .ok (.sipush 400, 3) := by decide +kernel
theorem dX6_relays_284 : decode cX6_relays 284 = .ok (.if_icmp .ne 20, 3) := by decide +kernel
theorem dX6_relays_287 : decode cX6_relays 287 = .ok (.aload_n 0, 1) := by decide +kernel
theorem dX6_relays_288 : decode cX6_relays 288 = .ok (.getfield 96, 3) := by decide +kernel
theorem dX6_relays_291 : decode cX6_relays 291 = .ok (.iload_n 1, 1) := by decide +kernel
theorem dX6_relays_292 : decode cX6_relays 292 = .ok (.iaload, 1) := by decide +kernel
theorem dX6_relays_293 : decode cX6_relays 293 = .ok (.iconst 1, 1) := by decide +kernel
theorem dX6_relays_294 : decode cX6_relays 294 = .ok (.if_icmp .ne 10, 3) := by decide +kernel
theorem dX6_relays_297 : decode cX6_relays 297 = .ok (.aload_n 0, 1) := by decide +kernel
theorem dX6_relays_298 : decode cX6_relays 298 = .ok (.getfield 96, 3) := by decide +kernel
theorem dX6_relays_301 : decode cX6_relays 301 = .ok (.iload_n 1, 1) := by decide +kernel
theorem dX6_relays_302 : decode cX6_relays 302 = .ok (.iconst 3, 1) := by decide +kernel
theorem dX6_relays_303 : decode cX6_relays 303 = .ok (.iastore, 1) := by decide +kernel
theorem dX6_relays_304 : decode cX6_relays 304 = .ok (.aload_n 0, 1) := by decide +kernel
theorem dX6_relays_305 : decode cX6_relays 305 = .ok (.getfield 96, 3) := by decide +kernel
theorem dX6_relays_308 : decode cX6_relays 308 = .ok (.iload_n 1, 1) := by decide +kernel
theorem dX6_relays_309 : decode cX6_relays 309 = .ok (.iaload, 1) := by decide +kernel
theorem dX6_relays_310 : decode cX6_relays 310 = .ok (.iconst 1, 1) := by decide +kernel
theorem dX6_relays_311 : decode cX6_relays 311 = .ok (.if_icmp .eq 21, 3) := by decide +kernel
theorem dX6_relays_314 : decode cX6_relays 314 = .ok (.aload_n 0, 1) := by decide +kernel
theorem dX6_relays_315 : decode cX6_relays 315 = .ok (.iload_n 1, 1) := by decide +kernel
theorem dX6_relays_316 : decode cX6_relays 316 = .ok (.aload_n 0, 1) := by decide +kernel
theorem dX6_relays_317 : decode cX6_relays 317 = .ok (.getfield 99, 3) := by decide +kernel
theorem dX6_relays_320 : decode cX6_relays 320 = .ok (.iload_n 1, 1) := by decide +kernel
theorem dX6_relays_321 : decode cX6_relays 321 = .ok (.laload, 1) := by decide +kernel
theorem dX6_relays_322 : decode cX6_relays 322 = .ok (.invokevirtual 178, 3) := by decide +kernel
theorem dX6_relays_325 : decode cX6_relays 325 = .ok (.aload_n 0, 1) := by decide +kernel
theorem dX6_relays_326 : decode cX6_relays 326 = .ok (.getfield 56, 3) := by decide +kernel
theorem dX6_relays_329 : decode cX6_relays 329 = .ok (.iload_n 1, 1) := by decide +kernel
theorem dX6_relays_330 : decode cX6_relays 330 = .ok (.iconst 1, 1) := by decide +kernel
theorem dX6_relays_331 : decode cX6_relays 331 = .ok (.iastore, 1) := by decide +kernel
theorem dX6_relays_332 : decode cX6_relays 332 = .ok (.aload_n 0, 1) := by decide +kernel
theorem dX6_relays_333 : decode cX6_relays 333 = .ok (.getfield 99, 3) := by decide +kernel
theorem dX6_relays_336 : decode cX6_relays 336 = .ok (.iload_n 1, 1) := by decide +kernel
theorem dX6_relays_337 : decode cX6_relays 337 = .ok (.laload, 1) := by decide +kernel
theorem dX6_relays_338 : decode cX6_relays 338 = .ok (.aload_n 0, 1) := by decide +kernel
theorem dX6_relays_339 : decode cX6_relays 339 = .ok (.getfield 108, 3) := by decide +kernel
theorem dX6_relays_342 : decode cX6_relays 342 = .ok (.iload_n 1, 1) := by decide +kernel
theorem dX6_relays_343 : decode cX6_relays 343 = .ok (.baload, 1) := by decide +kernel
theorem dX6_relays_344 : decode cX6_relays 344 = .ok (.ifCond .eq 12, 3) := by decide +kernel
theorem dX6_relays_347 : decode cX6_relays 347 = .ok (.aload_n 0, 1) := by decide +kernel
theorem dX6_relays_348 : decode cX6_relays 348 = .ok (.getfield 102, 3) := by decide +kernel
theorem dX6_relays_351 : decode cX6_relays 351 = .ok (.iload_n 1, 1) := by decide +kernel
theorem dX6_relays_352 : decode cX6_relays 352 = .ok (.iaload, 1) := by decide +kernel
theorem dX6_relays_353 : decode cX6_relays 353 = .ok (.goto 10, 3) := by decide +kernel
theorem dX6_relays_356 : decode cX6_relays 356 = .ok (.aload_n 0, 1) := by decide +kernel
theorem dX6_relays_357 : decode cX6_relays 357 = .ok (.getfield 102, 3) := by decide +kernel
theorem dX6_relays_360 : decode cX6_relays 360 = .ok (.iload_n 1, 1) := by decide +kernel
theorem dX6_relays_361 : decode cX6_relays 361 = .ok (.iaload, 1) := by decide +kernel
theorem dX6_relays_362 : decode cX6_relays 362 = .ok (.ineg, 1) := by decide +kernel
theorem dX6_relays_363 : decode cX6_relays 363 = .ok (.i2l, 1) := by decide +kernel
theorem dX6_relays_364 : decode cX6_relays 364 = .ok (.ladd, 1) := by decide +kernel
theorem dX6_relays_365 : decode cX6_relays 365 = .ok (.aload_n 0, 1) := by decide +kernel
theorem dX6_relays_366 : decode cX6_relays 366 = .ok (.getfield 38, 3) := by decide +kernel
theorem dX6_relays_369 : decode cX6_relays 369 = .ok (.iload_n 1, 1) := by decide +kernel
theorem dX6_relays_370 : decode cX6_relays 370 = .ok (.laload, 1) := by decide +kernel
theorem dX6_relays_371 : decode cX6_relays 371 = .ok (.aload_n 0, 1) := by decide +kernel
theorem dX6_relays_372 : decode cX6_relays 372 = .ok (.getfield 41, 3) := by decide +kernel
theorem dX6_relays_375 : decode cX6_relays 375 = .ok (.iload_n 1, 1) := by decide +kernel
theorem dX6_relays_376 : decode cX6_relays 376 = .ok (.laload, 1) := by decide +kernel
theorem dX6_relays_377 : decode cX6_relays 377 = .ok (.invokestatic 190, 3) := by decide +kernel
theorem dX6_relays_380 : decode cX6_relays 380 = .ok (.lreturn, 1) := by decide +kernel
theorem dX6_starves_0 : decode cX6_starves 0 = .ok (.iload_n 1, 1) := by decide +kernel
theorem dX6_starves_1 : decode cX6_starves 1 = .ok (.iconst 1, 1) := by decide +kernel
theorem dX6_starves_2 : decode cX6_starves 2 = .ok (.iadd, 1) := by decide +kernel
theorem dX6_starves_3 : decode cX6_starves 3 = .ok (.iconst 3, 1) := by decide +kernel
theorem dX6_starves_4 : decode cX6_starves 4 = .ok (.if_icmp .ge 30, 3) := by decide +kernel
theorem dX6_starves_7 : decode cX6_starves 7 = .ok (.aload_n 0, 1) := by decide +kernel
theorem dX6_starves_8 : decode cX6_starves 8 = .ok (.getfield 66, 3) := by decide +kernel
theorem dX6_starves_11 : decode cX6_starves 11 = .ok (.iload_n 1, 1) := by decide +kernel
theorem dX6_starves_12 : decode cX6_starves 12 = .ok (.iconst 1, 1) := by decide +kernel
theorem dX6_starves_13 : decode cX6_starves 13 = .ok (.iadd, 1) := by decide +kernel
theorem dX6_starves_14 : decode cX6_starves 14 = .ok (.baload, 1) := by decide +kernel
theorem dX6_starves_15 : decode cX6_starves 15 = .ok (.ifCond .eq 19, 3) := by decide +kernel
theorem dX6_starves_18 : decode cX6_starves 18 = .ok (.aload_n 0, 1) := by decide +kernel
theorem dX6_starves_19 : decode cX6_starves 19 = .ok (.getfield 56, 3) := by decide +kernel
theorem dX6_starves_22 : decode cX6_starves 22 = .ok (.iload_n 1, 1) := by decide +kernel
theorem dX6_starves_23 : decode cX6_starves 23 = .ok (.iconst 1, 1) := by decide +kernel
theorem dX6_starves_24 : decode cX6_starves 24 = .ok (.iadd, 1) := by decide +kernel
theorem dX6_starves_25 : decode cX6_starves 25 = .ok (.iaload, 1) := by decide +kernel
theorem dX6_starves_26 : decode cX6_starves 26 = .ok (.iconst 2, 1) := by decide +kernel
theorem dX6_starves_27 : decode cX6_starves 27 = .ok (.if_icmp .eq 7, 3) := by decide +kernel
theorem dX6_starves_30 : decode cX6_starves 30 = .ok (.iconst 1, 1) := by decide +kernel
theorem dX6_starves_31 : decode cX6_starves 31 = .ok (.goto 4, 3) := by decide +kernel
theorem dX6_starves_34 : decode cX6_starves 34 = .ok (.iconst 0, 1) := by decide +kernel
theorem dX6_starves_35 : decode cX6_starves 35 = .ok (.ireturn, 1) := by decide +kernel
theorem dX6_puts_0 : decode cX6_puts 0 = .ok (.aload_n 0, 1) := by decide +kernel
theorem dX6_puts_1 : decode cX6_puts 1 = .ok (.getfield 69, 3) := by decide +kernel
theorem dX6_puts_4 : decode cX6_puts 4 = .ok (.iload_n 1, 1) := by decide +kernel
theorem dX6_puts_5 : decode cX6_puts 5 = .ok (.iconst 0, 1) := by decide +kernel
theorem dX6_puts_6 : decode cX6_puts 6 = .ok (.bastore, 1) := by decide +kernel
theorem dX6_puts_7 : decode cX6_puts 7 = .ok (.aload_n 0, 1) := by decide +kernel
theorem dX6_puts_8 : decode cX6_puts 8 = .ok (.getfield 56, 3) := by decide +kernel
theorem dX6_puts_11 : decode cX6_puts 11 = .ok (.iload_n 1, 1) := by decide +kernel
theorem dX6_puts_12 : decode cX6_puts 12 = .ok (.iaload, 1) := by decide +kernel
theorem dX6_puts_13 : decode cX6_puts 13 = .ok (.ifCond .ne 62, 3) := by decide +kernel
theorem dX6_puts_16 : decode cX6_puts 16 = .ok (.aload_n 0, 1) := by decide +kernel
theorem dX6_puts_17 : decode cX6_puts 17 = .ok (.getfield 44, 3) := by decide +kernel
theorem dX6_puts_20 : decode cX6_puts 20 = .ok (.iload_n 1, 1) := by decide +kernel
theorem dX6_puts_21 : decode cX6_puts 21 = .ok (.aload_n 0, 1) := by decide +kernel
theorem dX6_puts_22 : decode cX6_puts 22 = .ok (.getfield 62, 3) := by decide +kernel
theorem dX6_puts_25 : decode cX6_puts 25 = .ok (.iload_n 1, 1) := by decide +kernel
theorem dX6_puts_26 : decode cX6_puts 26 = .ok (.baload, 1) := by decide +kernel
theorem dX6_puts_27 : decode cX6_puts 27 = .ok (.ifCond .eq 12, 3) := by decide +kernel
theorem dX6_puts_30 : decode cX6_puts 30 = .ok (.aload_n 0, 1) := by decide +kernel
theorem dX6_puts_31 : decode cX6_puts 31 = .ok (.getfield 26, 3) := by decide +kernel
theorem dX6_puts_34 : decode cX6_puts 34 = .ok (.iload_n 1, 1) := by decide +kernel
theorem dX6_puts_35 : decode cX6_puts 35 = .ok (.laload, 1) := by decide +kernel
theorem dX6_puts_36 : decode cX6_puts 36 = .ok (.goto 9, 3) := by decide +kernel
theorem dX6_puts_39 : decode cX6_puts 39 = .ok (.aload_n 0, 1) := by decide +kernel
theorem dX6_puts_40 : decode cX6_puts 40 = .ok (.getfield 44, 3) := by decide +kernel
theorem dX6_puts_43 : decode cX6_puts 43 = .ok (.iload_n 1, 1) := by decide +kernel
theorem dX6_puts_44 : decode cX6_puts 44 = .ok (.laload, 1) := by decide +kernel
theorem dX6_puts_45 : decode cX6_puts 45 = .ok (.lastore, 1) := by decide +kernel
theorem dX6_puts_46 : decode cX6_puts 46 = .ok (.aload_n 0, 1) := by decide +kernel
theorem dX6_puts_47 : decode cX6_puts 47 = .ok (.getfield 84, 3) := by decide +kernel
theorem dX6_puts_50 : decode cX6_puts 50 = .ok (.iload_n 1, 1) := by decide +kernel
theorem dX6_puts_51 : decode cX6_puts 51 = .ok (.iconst 0, 1) := by decide +kernel
theorem dX6_puts_52 : decode cX6_puts 52 = .ok (.bastore, 1) := by decide +kernel
theorem dX6_puts_53 : decode cX6_puts 53 = .ok (.aload_n 0, 1) := by decide +kernel
theorem dX6_puts_54 : decode cX6_puts 54 = .ok (.getfield 59, 3) := by decide +kernel
theorem dX6_puts_57 : decode cX6_puts 57 = .ok (.iload_n 1, 1) := by decide +kernel
theorem dX6_puts_58 : decode cX6_puts 58 = .ok (.laload, 1) := by decide +kernel
theorem dX6_puts_59 : decode cX6_puts 59 = .ok (.aload_n 0, 1) := by decide +kernel
theorem dX6_puts_60 : decode cX6_puts 60 = .ok (.getfield 38, 3) := by decide +kernel
theorem dX6_puts_63 : decode cX6_puts 63 = .ok (.iload_n 1, 1) := by decide +kernel
theorem dX6_puts_64 : decode cX6_puts 64 = .ok (.laload, 1) := by decide +kernel
theorem dX6_puts_65 : decode cX6_puts 65 = .ok (.aload_n 0, 1) := by decide +kernel
theorem dX6_puts_66 : decode cX6_puts 66 = .ok (.getfield 41, 3) := by decide +kernel
theorem dX6_puts_69 : decode cX6_puts 69 = .ok (.iload_n 1, 1) := by decide +kernel
theorem dX6_puts_70 : decode cX6_puts 70 = .ok (.laload, 1) := by decide +kernel
theorem dX6_puts_71 : decode cX6_puts 71 = .ok (.invokestatic 190, 3) := by decide +kernel
theorem dX6_puts_74 : decode cX6_puts 74 = .ok (.lreturn, 1) := by decide +kernel
theorem dX6_puts_75 : decode cX6_puts 75 = .ok (.aload_n 0, 1) := by decide +kernel
theorem dX6_puts_76 : decode cX6_puts 76 = .ok (.getfield 56, 3) := by decide +kernel
theorem dX6_puts_79 : decode cX6_puts 79 = .ok (.iload_n 1, 1) := by decide +kernel
theorem dX6_puts_80 : decode cX6_puts 80 = .ok (.iaload, 1) := by decide +kernel
theorem dX6_puts_81 : decode cX6_puts 81 = .ok (.iconst 3, 1) := by decide +kernel
theorem dX6_puts_82 : decode cX6_puts 82 = .ok (.if_icmp .ne 16, 3) := by decide +kernel
theorem dX6_puts_85 : decode cX6_puts 85 = .ok (.aload_n 0, 1) := by decide +kernel
theorem dX6_puts_86 : decode cX6_puts 86 = .ok (.getfield 84, 3) := by decide +kernel
theorem dX6_puts_89 : decode cX6_puts 89 = .ok (.iload_n 1, 1) := by decide +kernel
theorem dX6_puts_90 : decode cX6_puts 90 = .ok (.iconst 0, 1) := by decide +kernel
theorem dX6_puts_91 : decode cX6_puts 91 = .ok (.bastore, 1) := by decide +kernel
theorem dX6_puts_92 : decode cX6_puts 92 = .ok (.aload_n 0, 1) := by decide +kernel
theorem dX6_puts_93 : decode cX6_puts 93 = .ok (.iload_n 1, 1) := by decide +kernel
theorem dX6_puts_94 : decode cX6_puts 94 = .ok (.invokevirtual 194, 3) := by decide +kernel
theorem dX6_puts_97 : decode cX6_puts 97 = .ok (.lreturn, 1) := by decide +kernel
theorem dX6_puts_98 : decode cX6_puts 98 = .ok (.aload_n 0, 1) := by decide +kernel
theorem dX6_puts_99 : decode cX6_puts 99 = .ok (.getfield 44, 3) := by decide +kernel
theorem dX6_puts_102 : decode cX6_puts 102 = .ok (.iload_n 1, 1) := by decide +kernel
theorem dX6_puts_103 : decode cX6_puts 103 = .ok (.aload_n 0, 1) := by decide +kernel
theorem dX6_puts_104 : decode cX6_puts 104 = .ok (.getfield 56, 3) := by decide +kernel
theorem dX6_puts_107 : decode cX6_puts 107 = .ok (.iload_n 1, 1) := by decide +kernel
theorem dX6_puts_108 : decode cX6_puts 108 = .ok (.iaload, 1) := by decide +kernel
theorem dX6_puts_109 : decode cX6_puts 109 = .ok (.iconst 2, 1) := by decide +kernel
theorem dX6_puts_110 : decode cX6_puts 110 = .ok (.if_icmp .ne 7, 3) := by decide +kernel
theorem dX6_puts_113 : decode cX6_puts 113 = .ok (.lload_n 2, 1) := by decide +kernel
theorem dX6_puts_114 : decode cX6_puts 114 = .ok (.goto 9, 3) := by decide +kernel
theorem dX6_puts_117 : decode cX6_puts 117 = .ok (.aload_n 0, 1) := by decide +kernel
theorem dX6_puts_118 : decode cX6_puts 118 = .ok (.getfield 44, 3) := by decide +kernel
theorem dX6_puts_121 : decode cX6_puts 121 = .ok (.iload_n 1, 1) := by decide +kernel
theorem dX6_puts_122 : decode cX6_puts 122 = .ok (.laload, 1) := by decide +kernel
theorem dX6_puts_123 : decode cX6_puts 123 = .ok (.lastore, 1) := by decide +kernel
theorem dX6_puts_124 : decode cX6_puts 124 = .ok (.aload_n 0, 1) := by decide +kernel
theorem dX6_puts_125 : decode cX6_puts 125 = .ok (.iload_n 1, 1) := by decide +kernel
theorem dX6_puts_126 : decode cX6_puts 126 = .ok (.invokevirtual 197, 3) := by decide +kernel
theorem dX6_puts_129 : decode cX6_puts 129 = .ok (.ifCond .ne 9, 3) := by decide +kernel
theorem dX6_puts_132 : decode cX6_puts 132 = .ok (.aload_n 0, 1) := by decide +kernel
theorem dX6_puts_133 : decode cX6_puts 133 = .ok (.iload_n 1, 1) := by decide +kernel
theorem dX6_puts_134 : decode cX6_puts 134 = .ok (.invokevirtual 200, 3) := by decide +kernel
theorem dX6_puts_137 : decode cX6_puts 137 = .ok (.lreturn, 1) := by decide +kernel
theorem dX6_puts_138 : decode cX6_puts 138 = .ok (.aload_n 0, 1) := by decide +kernel
theorem dX6_puts_139 : decode cX6_puts 139 = .ok (.getfield 69, 3) := by decide +kernel
theorem dX6_puts_142 : decode cX6_puts 142 = .ok (.iload_n 1, 1) := by decide +kernel
theorem dX6_puts_143 : decode cX6_puts 143 = .ok (.iconst 1, 1) := by decide +kernel
theorem dX6_puts_144 : decode cX6_puts 144 = .ok (.bastore, 1) := by decide +kernel
theorem dX6_puts_145 : decode cX6_puts 145 = .ok (.aload_n 0, 1) := by decide +kernel
theorem dX6_puts_146 : decode cX6_puts 146 = .ok (.getfield 44, 3) := by decide +kernel
theorem dX6_puts_149 : decode cX6_puts 149 = .ok (.iload_n 1, 1) := by decide +kernel
theorem dX6_puts_150 : decode cX6_puts 150 = .ok (.iconst 1, 1) := by decide +kernel
theorem dX6_puts_151 : decode cX6_puts 151 = .ok (.iadd, 1) := by decide +kernel
theorem dX6_puts_152 : decode cX6_puts 152 = .ok (.laload, 1) := by decide +kernel
theorem dX6_puts_153 : decode cX6_puts 153 = .ok (.aload_n 0, 1) := by decide +kernel
theorem dX6_puts_154 : decode cX6_puts 154 = .ok (.getfield 38, 3) := by decide +kernel
theorem dX6_puts_157 : decode cX6_puts 157 = .ok (.iload_n 1, 1) := by decide +kernel
theorem dX6_puts_158 : decode cX6_puts 158 = .ok (.laload, 1) := by decide +kernel
theorem dX6_puts_159 : decode cX6_puts 159 = .ok (.aload_n 0, 1) := by decide +kernel
theorem dX6_puts_160 : decode cX6_puts 160 = .ok (.getfield 41, 3) := by decide +kernel
theorem dX6_puts_163 : decode cX6_puts 163 = .ok (.iload_n 1, 1) := by decide +kernel
theorem dX6_puts_164 : decode cX6_puts 164 = .ok (.laload, 1) := by decide +kernel
theorem dX6_puts_165 : decode cX6_puts 165 = .ok (.invokestatic 190, 3) := by decide +kernel
theorem dX6_puts_168 : decode cX6_puts 168 = .ok (.lstore 4, 2) := by decide +kernel
theorem dX6_puts_170 : decode cX6_puts 170 = .ok (.aload_n 0, 1) := by decide +kernel
theorem dX6_puts_171 : decode cX6_puts 171 = .ok (.iload_n 1, 1) := by decide +kernel
theorem dX6_puts_172 : decode cX6_puts 172 = .ok (.lload 4, 2) := by decide +kernel
theorem dX6_puts_174 : decode cX6_puts 174 = .ok (.invokevirtual 178, 3) := by decide +kernel
theorem dX6_puts_177 : decode cX6_puts 177 = .ok (.lload 4, 2) := by decide +kernel
theorem dX6_puts_179 : decode cX6_puts 179 = .ok (.lreturn, 1) := by decide +kernel
theorem dX6_sample_0 : decode cX6_sample 0 = .ok (.lconst 0, 1) := by decide +kernel
theorem dX6_sample_1 : decode cX6_sample 1 = .ok (.lstore_n 1, 1) := by decide +kernel
theorem dX6_sample_2 : decode cX6_sample 2 = .ok (.iconst 0, 1) := by decide +kernel
theorem dX6_sample_3 : decode cX6_sample 3 = .ok (.istore_n 3, 1) := by decide +kernel
theorem dX6_sample_4 : decode cX6_sample 4 = .ok (.iload_n 3, 1) := by decide +kernel
theorem dX6_sample_5 : decode cX6_sample 5 = .ok (.iconst 3, 1) := by decide +kernel
theorem dX6_sample_6 : decode cX6_sample 6 = .ok (.if_icmp .ge 68, 3) := by decide +kernel
theorem dX6_sample_9 : decode cX6_sample 9 = .ok (.aload_n 0, 1) := by decide +kernel
theorem dX6_sample_10 : decode cX6_sample 10 = .ok (.iload_n 3, 1) := by decide +kernel
theorem dX6_sample_11 : decode cX6_sample 11 = .ok (.lload_n 1, 1) := by decide +kernel
theorem dX6_sample_12 : decode cX6_sample 12 = .ok (.invokevirtual 203, 3) := by decide +kernel
theorem dX6_sample_15 : decode cX6_sample 15 = .ok (.lstore_n 1, 1) := by decide +kernel
theorem dX6_sample_16 : decode cX6_sample 16 = .ok (.bipush 11, 2) := by decide +kernel
theorem dX6_sample_18 : decode cX6_sample 18 = .ok (.iload_n 3, 1) := by decide +kernel
theorem dX6_sample_19 : decode cX6_sample 19 = .ok (.imul, 1) := by decide +kernel
theorem dX6_sample_20 : decode cX6_sample 20 = .ok (.bipush 11, 2) := by decide +kernel
theorem dX6_sample_22 : decode cX6_sample 22 = .ok (.iadd, 1) := by decide +kernel
theorem dX6_sample_23 : decode cX6_sample 23 = .ok (.iconst 1, 1) := by decide +kernel
theorem dX6_sample_24 : decode cX6_sample 24 = .ok (.isub, 1) := by decide +kernel
theorem dX6_sample_25 : decode cX6_sample 25 = .ok (.istore 4, 2) := by decide +kernel
theorem dX6_sample_27 : decode cX6_sample 27 = .ok (.iload 4, 2) := by decide +kernel
theorem dX6_sample_29 : decode cX6_sample 29 = .ok (.bipush 11, 2) := by decide +kernel
theorem dX6_sample_31 : decode cX6_sample 31 = .ok (.iload_n 3, 1) := by decide +kernel
theorem dX6_sample_32 : decode cX6_sample 32 = .ok (.imul, 1) := by decide +kernel
theorem dX6_sample_33 : decode cX6_sample 33 = .ok (.if_icmp .le 25, 3) := by decide +kernel
theorem dX6_sample_36 : decode cX6_sample 36 = .ok (.aload_n 0, 1) := by decide +kernel
theorem dX6_sample_37 : decode cX6_sample 37 = .ok (.getfield 32, 3) := by decide +kernel
theorem dX6_sample_40 : decode cX6_sample 40 = .ok (.iload 4, 2) := by decide +kernel
theorem dX6_sample_42 : decode cX6_sample 42 = .ok (.aload_n 0, 1) := by decide +kernel
theorem dX6_sample_43 : decode cX6_sample 43 = .ok (.getfield 32, 3) := by decide +kernel
theorem dX6_sample_46 : decode cX6_sample 46 = .ok (.iload 4, 2) := by decide +kernel
theorem dX6_sample_48 : decode cX6_sample 48 = .ok (.iconst 1, 1) := by decide +kernel
theorem dX6_sample_49 : decode cX6_sample 49 = .ok (.isub, 1) := by decide +kernel
theorem dX6_sample_50 : decode cX6_sample 50 = .ok (.laload, 1) := by decide +kernel
theorem dX6_sample_51 : decode cX6_sample 51 = .ok (.lastore, 1) := by decide +kernel
theorem dX6_sample_52 : decode cX6_sample 52 = .ok (.iinc 4 (-1), 3) := by decide +kernel
theorem dX6_sample_55 : decode cX6_sample 55 = .ok (.goto (-28), 3) := by decide +kernel
theorem dX6_sample_58 : decode cX6_sample 58 = .ok (.aload_n 0, 1) := by decide +kernel
theorem dX6_sample_59 : decode cX6_sample 59 = .ok (.getfield 32, 3) := by decide +kernel
theorem dX6_sample_62 : decode cX6_sample 62 = .ok (.bipush 11, 2) := by decide +kernel
theorem dX6_sample_64 : decode cX6_sample 64 = .ok (.iload_n 3, 1) := by decide +kernel
theorem dX6_sample_65 : decode cX6_sample 65 = .ok (.imul, 1) := by decide +kernel
theorem dX6_sample_66 : decode cX6_sample 66 = .ok (.lload_n 1, 1) := by decide +kernel
theorem dX6_sample_67 : decode cX6_sample 67 = .ok (.lastore, 1) := by decide +kernel
theorem dX6_sample_68 : decode cX6_sample 68 = .ok (.iinc 3 1, 3) := by decide +kernel
theorem dX6_sample_71 : decode cX6_sample 71 = .ok (.goto (-67), 3) := by decide +kernel
theorem dX6_sample_74 : decode cX6_sample 74 = .ok (.iconst 0, 1) := by decide +kernel
theorem dX6_sample_75 : decode cX6_sample 75 = .ok (.istore_n 3, 1) := by decide +kernel
theorem dX6_sample_76 : decode cX6_sample 76 = .ok (.iload_n 3, 1) := by decide +kernel
theorem dX6_sample_77 : decode cX6_sample 77 = .ok (.iconst 3, 1) := by decide +kernel
theorem dX6_sample_78 : decode cX6_sample 78 = .ok (.if_icmp .ge 105, 3) := by decide +kernel
theorem dX6_sample_81 : decode cX6_sample 81 = .ok (.aload_n 0, 1) := by decide +kernel
theorem dX6_sample_82 : decode cX6_sample 82 = .ok (.getfield 7, 3) := by decide +kernel
theorem dX6_sample_85 : decode cX6_sample 85 = .ok (.iload_n 3, 1) := by decide +kernel
theorem dX6_sample_86 : decode cX6_sample 86 = .ok (.laload, 1) := by decide +kernel
theorem dX6_sample_87 : decode cX6_sample 87 = .ok (.aload_n 0, 1) := by decide +kernel
theorem dX6_sample_88 : decode cX6_sample 88 = .ok (.getfield 26, 3) := by decide +kernel
theorem dX6_sample_91 : decode cX6_sample 91 = .ok (.iload_n 3, 1) := by decide +kernel
theorem dX6_sample_92 : decode cX6_sample 92 = .ok (.laload, 1) := by decide +kernel
theorem dX6_sample_93 : decode cX6_sample 93 = .ok (.lmul, 1) := by decide +kernel
theorem dX6_sample_94 : decode cX6_sample 94 = .ok (.aload_n 0, 1) := by decide +kernel
theorem dX6_sample_95 : decode cX6_sample 95 = .ok (.getfield 13, 3) := by decide +kernel
theorem dX6_sample_98 : decode cX6_sample 98 = .ok (.iload_n 3, 1) := by decide +kernel
theorem dX6_sample_99 : decode cX6_sample 99 = .ok (.laload, 1) := by decide +kernel
theorem dX6_sample_100 : decode cX6_sample 100 = .ok (.aload_n 0, 1) := by decide +kernel
theorem dX6_sample_101 : decode cX6_sample 101 = .ok (.getfield 29, 3) := by decide +kernel
theorem dX6_sample_104 : decode cX6_sample 104 = .ok (.iload_n 3, 1) := by decide +kernel
theorem dX6_sample_105 : decode cX6_sample 105 = .ok (.laload, 1) := by decide +kernel
theorem dX6_sample_106 : decode cX6_sample 106 = .ok (.lmul, 1) := by decide +kernel
theorem dX6_sample_107 : decode cX6_sample 107 = .ok (.ladd, 1) := by decide +kernel
theorem dX6_sample_108 : decode cX6_sample 108 = .ok (.aload_n 0, 1) := by decide +kernel
theorem dX6_sample_109 : decode cX6_sample 109 = .ok (.getfield 16, 3) := by decide +kernel
theorem dX6_sample_112 : decode cX6_sample 112 = .ok (.iload_n 3, 1) := by decide +kernel
theorem dX6_sample_113 : decode cX6_sample 113 = .ok (.laload, 1) := by decide +kernel
theorem dX6_sample_114 : decode cX6_sample 114 = .ok (.aload_n 0, 1) := by decide +kernel
theorem dX6_sample_115 : decode cX6_sample 115 = .ok (.getfield 32, 3) := by decide +kernel
theorem dX6_sample_118 : decode cX6_sample 118 = .ok (.bipush 11, 2) := by decide +kernel
theorem dX6_sample_120 : decode cX6_sample 120 = .ok (.iload_n 3, 1) := by decide +kernel
theorem dX6_sample_121 : decode cX6_sample 121 = .ok (.imul, 1) := by decide +kernel
theorem dX6_sample_122 : decode cX6_sample 122 = .ok (.aload_n 0, 1) := by decide +kernel
theorem dX6_sample_123 : decode cX6_sample 123 = .ok (.getfield 19, 3) := by decide +kernel
theorem dX6_sample_126 : decode cX6_sample 126 = .ok (.iload_n 3, 1) := by decide +kernel
theorem dX6_sample_127 : decode cX6_sample 127 = .ok (.iaload, 1) := by decide +kernel
theorem dX6_sample_128 : decode cX6_sample 128 = .ok (.iadd, 1) := by decide +kernel
theorem dX6_sample_129 : decode cX6_sample 129 = .ok (.laload, 1) := by decide +kernel
theorem dX6_sample_130 : decode cX6_sample 130 = .ok (.lmul, 1) := by decide +kernel
theorem dX6_sample_131 : decode cX6_sample 131 = .ok (.ladd, 1) := by decide +kernel
theorem dX6_sample_132 : decode cX6_sample 132 = .ok (.lstore 4, 2) := by decide +kernel
theorem dX6_sample_134 : decode cX6_sample 134 = .ok (.aload_n 0, 1) := by decide +kernel
theorem dX6_sample_135 : decode cX6_sample 135 = .ok (.getfield 29, 3) := by decide +kernel
theorem dX6_sample_138 : decode cX6_sample 138 = .ok (.iload_n 3, 1) := by decide +kernel
theorem dX6_sample_139 : decode cX6_sample 139 = .ok (.aload_n 0, 1) := by decide +kernel
theorem dX6_sample_140 : decode cX6_sample 140 = .ok (.getfield 26, 3) := by decide +kernel
theorem dX6_sample_143 : decode cX6_sample 143 = .ok (.iload_n 3, 1) := by decide +kernel
theorem dX6_sample_144 : decode cX6_sample 144 = .ok (.laload, 1) := by decide +kernel
theorem dX6_sample_145 : decode cX6_sample 145 = .ok (.lastore, 1) := by decide +kernel
theorem dX6_sample_146 : decode cX6_sample 146 = .ok (.aload_n 0, 1) := by decide +kernel
theorem dX6_sample_147 : decode cX6_sample 147 = .ok (.getfield 26, 3) := by decide +kernel
theorem dX6_sample_150 : decode cX6_sample 150 = .ok (.iload_n 3, 1) := by decide +kernel
theorem dX6_sample_151 : decode cX6_sample 151 = .ok (.lload 4, 2) := by decide +kernel
theorem dX6_sample_153 : decode cX6_sample 153 = .ok (.ldc2_w 136, 3) := by decide +kernel
theorem dX6_sample_156 : decode cX6_sample 156 = .ok (.invokestatic 182, 3) := by decide +kernel
theorem dX6_sample_159 : decode cX6_sample 159 = .ok (.aload_n 0, 1) := by decide +kernel
theorem dX6_sample_160 : decode cX6_sample 160 = .ok (.getfield 23, 3) := by decide +kernel
theorem dX6_sample_163 : decode cX6_sample 163 = .ok (.iload_n 3, 1) := by decide +kernel
theorem dX6_sample_164 : decode cX6_sample 164 = .ok (.iaload, 1) := by decide +kernel
theorem dX6_sample_165 : decode cX6_sample 165 = .ok (.i2l, 1) := by decide +kernel
theorem dX6_sample_166 : decode cX6_sample 166 = .ok (.ladd, 1) := by decide +kernel
theorem dX6_sample_167 : decode cX6_sample 167 = .ok (.ldc2_w 207, 3) := by decide +kernel
theorem dX6_sample_170 : decode cX6_sample 170 = .ok (.ldc2_w 209, 3) := by decide +kernel
theorem dX6_sample_173 : decode cX6_sample 173 = .ok (.invokestatic 190, 3) := by decide +kernel
theorem dX6_sample_176 : decode cX6_sample 176 = .ok (.lastore, 1) := by decide +kernel
theorem dX6_sample_177 : decode cX6_sample 177 = .ok (.iinc 3 1, 3) := by decide +kernel
theorem dX6_sample_180 : decode cX6_sample 180 = .ok (.goto (-104), 3) := by decide +kernel
theorem dX6_sample_183 : decode cX6_sample 183 = .ok (.aload_n 0, 1) := by decide +kernel
theorem dX6_sample_184 : decode cX6_sample 184 = .ok (.dup, 1) := by decide +kernel
theorem dX6_sample_185 : decode cX6_sample 185 = .ok (.getfield 211, 3) := by decide +kernel
theorem dX6_sample_188 : decode cX6_sample 188 = .ok (.iconst 1, 1) := by decide +kernel
theorem dX6_sample_189 : decode cX6_sample 189 = .ok (.iadd, 1) := by decide +kernel
theorem dX6_sample_190 : decode cX6_sample 190 = .ok (.putfield 211, 3) := by decide +kernel
theorem dX6_sample_193 : decode cX6_sample 193 = .ok (.return_, 1) := by decide +kernel
theorem dX6_run_0 : decode cX6_run 0 = .ok (.aload_n 0, 1) := by decide +kernel
theorem dX6_run_1 : decode cX6_run 1 = .ok (.iload_n 1, 1) := by decide +kernel
theorem dX6_run_2 : decode cX6_run 2 = .ok (.iconst 1, 1) := by decide +kernel
theorem dX6_run_3 : decode cX6_run 3 = .ok (.sipush 200, 3) := by decide +kernel
theorem dX6_run_6 : decode cX6_run 6 = .ok (.invokestatic 146, 3) := by decide +kernel
theorem dX6_run_9 : decode cX6_run 9 = .ok (.ifCond .eq 7, 3) := by decide +kernel
theorem dX6_run_12 : decode cX6_run 12 = .ok (.iconst 0, 1) := by decide +kernel
theorem dX6_run_13 : decode cX6_run 13 = .ok (.goto 4, 3) := by decide +kernel
theorem dX6_run_16 : decode cX6_run 16 = .ok (.iconst 1, 1) := by decide +kernel
theorem dX6_run_17 : decode cX6_run 17 = .ok (.invokevirtual 156, 3) := by decide +kernel
theorem dX6_run_20 : decode cX6_run 20 = .ok (.ifCond .ne 5, 3) := by decide +kernel
theorem dX6_run_23 : decode cX6_run 23 = .ok (.iconst 0, 1) := by decide +kernel
theorem dX6_run_24 : decode cX6_run 24 = .ok (.ireturn, 1) := by decide +kernel
theorem dX6_run_25 : decode cX6_run 25 = .ok (.iconst 0, 1) := by decide +kernel
theorem dX6_run_26 : decode cX6_run 26 = .ok (.istore_n 2, 1) := by decide +kernel
theorem dX6_run_27 : decode cX6_run 27 = .ok (.iload_n 2, 1) := by decide +kernel
theorem dX6_run_28 : decode cX6_run 28 = .ok (.iload_n 1, 1) := by decide +kernel
theorem dX6_run_29 : decode cX6_run 29 = .ok (.if_icmp .ge 13, 3) := by decide +kernel
theorem dX6_run_32 : decode cX6_run 32 = .ok (.aload_n 0, 1) := by decide +kernel
theorem dX6_run_33 : decode cX6_run 33 = .ok (.invokevirtual 214, 3) := by decide +kernel
theorem dX6_run_36 : decode cX6_run 36 = .ok (.iinc 2 1, 3) := by decide +kernel
theorem dX6_run_39 : decode cX6_run 39 = .ok (.goto (-12), 3) := by decide +kernel
theorem dX6_run_42 : decode cX6_run 42 = .ok (.aload_n 0, 1) := by decide +kernel
theorem dX6_run_43 : decode cX6_run 43 = .ok (.getfield 211, 3) := by decide +kernel
theorem dX6_run_46 : decode cX6_run 46 = .ok (.ireturn, 1) := by decide +kernel
theorem dX6_isAsked_0 : decode cX6_isAsked 0 = .ok (.aload_n 0, 1) := by decide +kernel
theorem dX6_isAsked_1 : decode cX6_isAsked 1 = .ok (.iload_n 1, 1) := by decide +kernel
theorem dX6_isAsked_2 : decode cX6_isAsked 2 = .ok (.invokestatic 152, 3) := by decide +kernel
theorem dX6_isAsked_5 : decode cX6_isAsked 5 = .ok (.ifCond .eq 7, 3) := by decide +kernel
theorem dX6_isAsked_8 : decode cX6_isAsked 8 = .ok (.iconst 0, 1) := by decide +kernel
theorem dX6_isAsked_9 : decode cX6_isAsked 9 = .ok (.goto 4, 3) := by decide +kernel
theorem dX6_isAsked_12 : decode cX6_isAsked 12 = .ok (.iconst 1, 1) := by decide +kernel
theorem dX6_isAsked_13 : decode cX6_isAsked 13 = .ok (.invokevirtual 156, 3) := by decide +kernel
theorem dX6_isAsked_16 : decode cX6_isAsked 16 = .ok (.ireturn, 1) := by decide +kernel
theorem dX6_measure_0 : decode cX6_measure 0 = .ok (.aload_n 0, 1) := by decide +kernel
theorem dX6_measure_1 : decode cX6_measure 1 = .ok (.iload_n 1, 1) := by decide +kernel
theorem dX6_measure_2 : decode cX6_measure 2 = .ok (.invokevirtual 217, 3) := by decide +kernel
theorem dX6_measure_5 : decode cX6_measure 5 = .ok (.ifCond .eq 12, 3) := by decide +kernel
theorem dX6_measure_8 : decode cX6_measure 8 = .ok (.aload_n 0, 1) := by decide +kernel
theorem dX6_measure_9 : decode cX6_measure 9 = .ok (.getfield 26, 3) := by decide +kernel
theorem dX6_measure_12 : decode cX6_measure 12 = .ok (.iload_n 1, 1) := by decide +kernel
theorem dX6_measure_13 : decode cX6_measure 13 = .ok (.laload, 1) := by decide +kernel
theorem dX6_measure_14 : decode cX6_measure 14 = .ok (.goto 4, 3) := by decide +kernel
theorem dX6_measure_17 : decode cX6_measure 17 = .ok (.lconst 0, 1) := by decide +kernel
theorem dX6_measure_18 : decode cX6_measure 18 = .ok (.lreturn, 1) := by decide +kernel
theorem dX6_output_0 : decode cX6_output 0 = .ok (.aload_n 0, 1) := by decide +kernel
theorem dX6_output_1 : decode cX6_output 1 = .ok (.iload_n 1, 1) := by decide +kernel
theorem dX6_output_2 : decode cX6_output 2 = .ok (.invokevirtual 217, 3) := by decide +kernel
theorem dX6_output_5 : decode cX6_output 5 = .ok (.ifCond .eq 11, 3) := by decide +kernel
theorem dX6_output_8 : decode cX6_output 8 = .ok (.aload_n 0, 1) := by decide +kernel
theorem dX6_output_9 : decode cX6_output 9 = .ok (.iload_n 1, 1) := by decide +kernel
theorem dX6_output_10 : decode cX6_output 10 = .ok (.invokevirtual 175, 3) := by decide +kernel
theorem dX6_output_13 : decode cX6_output 13 = .ok (.goto 4, 3) := by decide +kernel
theorem dX6_output_16 : decode cX6_output 16 = .ok (.lconst 0, 1) := by decide +kernel
theorem dX6_output_17 : decode cX6_output 17 = .ok (.lreturn, 1) := by decide +kernel
theorem dX6_outputByIncrements_0 : decode cX6_outputByIncrements 0 = .ok (.aload_n 0, 1) := by decide +kernel
theorem dX6_outputByIncrements_1 : decode cX6_outputByIncrements 1 = .ok (.iload_n 1, 1) := by decide +kernel
theorem dX6_outputByIncrements_2 : decode cX6_outputByIncrements 2 = .ok (.invokevirtual 217, 3) := by decide +kernel
theorem dX6_outputByIncrements_5 : decode cX6_outputByIncrements 5 = .ok (.ifCond .eq 18, 3) := by decide +kernel
theorem dX6_outputByIncrements_8 : decode cX6_outputByIncrements 8 = .ok (.aload_n 0, 1) := by decide +kernel
theorem dX6_outputByIncrements_9 : decode cX6_outputByIncrements 9 = .ok (.getfield 75, 3) := by decide +kernel
theorem dX6_outputByIncrements_12 : decode cX6_outputByIncrements 12 = .ok (.iload_n 1, 1) := by decide +kernel
theorem dX6_outputByIncrements_13 : decode cX6_outputByIncrements 13 = .ok (.laload, 1) := by decide +kernel
theorem dX6_outputByIncrements_14 : decode cX6_outputByIncrements 14 = .ok (.ldc2_w 136, 3) := by decide +kernel
theorem dX6_outputByIncrements_17 : decode cX6_outputByIncrements 17 = .ok (.invokestatic 182, 3) := by decide +kernel
theorem dX6_outputByIncrements_20 : decode cX6_outputByIncrements 20 = .ok (.goto 4, 3) := by decide +kernel
theorem dX6_outputByIncrements_23 : decode cX6_outputByIncrements 23 = .ok (.lconst 0, 1) := by decide +kernel
theorem dX6_outputByIncrements_24 : decode cX6_outputByIncrements 24 = .ok (.lreturn, 1) := by decide +kernel
theorem dX6_setpoint_0 : decode cX6_setpoint 0 = .ok (.aload_n 0, 1) := by decide +kernel
theorem dX6_setpoint_1 : decode cX6_setpoint 1 = .ok (.iload_n 1, 1) := by decide +kernel
theorem dX6_setpoint_2 : decode cX6_setpoint 2 = .ok (.invokevirtual 217, 3) := by decide +kernel
theorem dX6_setpoint_5 : decode cX6_setpoint 5 = .ok (.ifCond .eq 12, 3) := by decide +kernel
theorem dX6_setpoint_8 : decode cX6_setpoint 8 = .ok (.aload_n 0, 1) := by decide +kernel
theorem dX6_setpoint_9 : decode cX6_setpoint 9 = .ok (.getfield 44, 3) := by decide +kernel
theorem dX6_setpoint_12 : decode cX6_setpoint 12 = .ok (.iload_n 1, 1) := by decide +kernel
theorem dX6_setpoint_13 : decode cX6_setpoint 13 = .ok (.laload, 1) := by decide +kernel
theorem dX6_setpoint_14 : decode cX6_setpoint 14 = .ok (.goto 4, 3) := by decide +kernel
theorem dX6_setpoint_17 : decode cX6_setpoint 17 = .ok (.lconst 0, 1) := by decide +kernel
theorem dX6_setpoint_18 : decode cX6_setpoint 18 = .ok (.lreturn, 1) := by decide +kernel
theorem dX6_integral_0 : decode cX6_integral 0 = .ok (.aload_n 0, 1) := by decide +kernel
theorem dX6_integral_1 : decode cX6_integral 1 = .ok (.iload_n 1, 1) := by decide +kernel
theorem dX6_integral_2 : decode cX6_integral 2 = .ok (.invokevirtual 217, 3) := by decide +kernel
theorem dX6_integral_5 : decode cX6_integral 5 = .ok (.ifCond .eq 12, 3) := by decide +kernel
theorem dX6_integral_8 : decode cX6_integral 8 = .ok (.aload_n 0, 1) := by decide +kernel
theorem dX6_integral_9 : decode cX6_integral 9 = .ok (.getfield 47, 3) := by decide +kernel
theorem dX6_integral_12 : decode cX6_integral 12 = .ok (.iload_n 1, 1) := by decide +kernel
theorem dX6_integral_13 : decode cX6_integral 13 = .ok (.laload, 1) := by decide +kernel
theorem dX6_integral_14 : decode cX6_integral 14 = .ok (.goto 4, 3) := by decide +kernel
theorem dX6_integral_17 : decode cX6_integral 17 = .ok (.lconst 0, 1) := by decide +kernel
theorem dX6_integral_18 : decode cX6_integral 18 = .ok (.lreturn, 1) := by decide +kernel
theorem dX6_gain_0 : decode cX6_gain 0 = .ok (.aload_n 0, 1) := by decide +kernel
theorem dX6_gain_1 : decode cX6_gain 1 = .ok (.iload_n 1, 1) := by decide +kernel
theorem dX6_gain_2 : decode cX6_gain 2 = .ok (.invokestatic 152, 3) := by decide +kernel
theorem dX6_gain_5 : decode cX6_gain 5 = .ok (.ifCond .eq 16, 3) := by decide +kernel
theorem dX6_gain_8 : decode cX6_gain 8 = .ok (.iload_n 2, 1) := by decide +kernel
theorem dX6_gain_9 : decode cX6_gain 9 = .ok (.iconst 0, 1) := by decide +kernel
theorem dX6_gain_10 : decode cX6_gain 10 = .ok (.iconst 2, 1) := by decide +kernel
theorem dX6_gain_11 : decode cX6_gain 11 = .ok (.invokestatic 146, 3) := by decide +kernel
theorem dX6_gain_14 : decode cX6_gain 14 = .ok (.ifCond .eq 7, 3) := by decide +kernel
theorem dX6_gain_17 : decode cX6_gain 17 = .ok (.iconst 0, 1) := by decide +kernel
theorem dX6_gain_18 : decode cX6_gain 18 = .ok (.goto 4, 3) := by decide +kernel
theorem dX6_gain_21 : decode cX6_gain 21 = .ok (.iconst 1, 1) := by decide +kernel
theorem dX6_gain_22 : decode cX6_gain 22 = .ok (.invokevirtual 156, 3) := by decide +kernel
theorem dX6_gain_25 : decode cX6_gain 25 = .ok (.ifCond .eq 17, 3) := by decide +kernel
theorem dX6_gain_28 : decode cX6_gain 28 = .ok (.aload_n 0, 1) := by decide +kernel
theorem dX6_gain_29 : decode cX6_gain 29 = .ok (.getfield 35, 3) := by decide +kernel
theorem dX6_gain_32 : decode cX6_gain 32 = .ok (.iconst 3, 1) := by decide +kernel
theorem dX6_gain_33 : decode cX6_gain 33 = .ok (.iload_n 1, 1) := by decide +kernel
theorem dX6_gain_34 : decode cX6_gain 34 = .ok (.imul, 1) := by decide +kernel
theorem dX6_gain_35 : decode cX6_gain 35 = .ok (.iload_n 2, 1) := by decide +kernel
theorem dX6_gain_36 : decode cX6_gain 36 = .ok (.iadd, 1) := by decide +kernel
theorem dX6_gain_37 : decode cX6_gain 37 = .ok (.laload, 1) := by decide +kernel
theorem dX6_gain_38 : decode cX6_gain 38 = .ok (.l2i, 1) := by decide +kernel
theorem dX6_gain_39 : decode cX6_gain 39 = .ok (.goto 4, 3) := by decide +kernel
theorem dX6_gain_42 : decode cX6_gain 42 = .ok (.iconst 0, 1) := by decide +kernel
theorem dX6_gain_43 : decode cX6_gain 43 = .ok (.ireturn, 1) := by decide +kernel
theorem dX6_mode_0 : decode cX6_mode 0 = .ok (.aload_n 0, 1) := by decide +kernel
theorem dX6_mode_1 : decode cX6_mode 1 = .ok (.iload_n 1, 1) := by decide +kernel
theorem dX6_mode_2 : decode cX6_mode 2 = .ok (.invokevirtual 217, 3) := by decide +kernel
theorem dX6_mode_5 : decode cX6_mode 5 = .ok (.ifCond .eq 12, 3) := by decide +kernel
theorem dX6_mode_8 : decode cX6_mode 8 = .ok (.aload_n 0, 1) := by decide +kernel
theorem dX6_mode_9 : decode cX6_mode 9 = .ok (.getfield 56, 3) := by decide +kernel
theorem dX6_mode_12 : decode cX6_mode 12 = .ok (.iload_n 1, 1) := by decide +kernel
theorem dX6_mode_13 : decode cX6_mode 13 = .ok (.iaload, 1) := by decide +kernel
theorem dX6_mode_14 : decode cX6_mode 14 = .ok (.goto 4, 3) := by decide +kernel
theorem dX6_mode_17 : decode cX6_mode 17 = .ok (.iconst 0, 1) := by decide +kernel
theorem dX6_mode_18 : decode cX6_mode 18 = .ok (.ireturn, 1) := by decide +kernel
theorem dX6_wasStarved_0 : decode cX6_wasStarved 0 = .ok (.aload_n 0, 1) := by decide +kernel
theorem dX6_wasStarved_1 : decode cX6_wasStarved 1 = .ok (.iload_n 1, 1) := by decide +kernel
theorem dX6_wasStarved_2 : decode cX6_wasStarved 2 = .ok (.invokevirtual 217, 3) := by decide +kernel
theorem dX6_wasStarved_5 : decode cX6_wasStarved 5 = .ok (.ifCond .eq 16, 3) := by decide +kernel
theorem dX6_wasStarved_8 : decode cX6_wasStarved 8 = .ok (.aload_n 0, 1) := by decide +kernel
theorem dX6_wasStarved_9 : decode cX6_wasStarved 9 = .ok (.getfield 69, 3) := by decide +kernel
theorem dX6_wasStarved_12 : decode cX6_wasStarved 12 = .ok (.iload_n 1, 1) := by decide +kernel
theorem dX6_wasStarved_13 : decode cX6_wasStarved 13 = .ok (.baload, 1) := by decide +kernel
theorem dX6_wasStarved_14 : decode cX6_wasStarved 14 = .ok (.ifCond .eq 7, 3) := by decide +kernel
theorem dX6_wasStarved_17 : decode cX6_wasStarved 17 = .ok (.iconst 1, 1) := by decide +kernel
theorem dX6_wasStarved_18 : decode cX6_wasStarved 18 = .ok (.goto 4, 3) := by decide +kernel
theorem dX6_wasStarved_21 : decode cX6_wasStarved 21 = .ok (.iconst 0, 1) := by decide +kernel
theorem dX6_wasStarved_22 : decode cX6_wasStarved 22 = .ok (.ireturn, 1) := by decide +kernel
theorem dX6_held_0 : decode cX6_held 0 = .ok (.aload_n 0, 1) := by decide +kernel
theorem dX6_held_1 : decode cX6_held 1 = .ok (.iload_n 1, 1) := by decide +kernel
theorem dX6_held_2 : decode cX6_held 2 = .ok (.invokevirtual 217, 3) := by decide +kernel
theorem dX6_held_5 : decode cX6_held 5 = .ok (.ifCond .eq 12, 3) := by decide +kernel
theorem dX6_held_8 : decode cX6_held 8 = .ok (.aload_n 0, 1) := by decide +kernel
theorem dX6_held_9 : decode cX6_held 9 = .ok (.getfield 72, 3) := by decide +kernel
theorem dX6_held_12 : decode cX6_held 12 = .ok (.iload_n 1, 1) := by decide +kernel
theorem dX6_held_13 : decode cX6_held 13 = .ok (.iaload, 1) := by decide +kernel
theorem dX6_held_14 : decode cX6_held 14 = .ok (.goto 4, 3) := by decide +kernel
theorem dX6_held_17 : decode cX6_held 17 = .ok (.iconst 0, 1) := by decide +kernel
theorem dX6_held_18 : decode cX6_held 18 = .ok (.ireturn, 1) := by decide +kernel
theorem dX6_startRelay_0 : decode cX6_startRelay 0 = .ok (.aload_n 0, 1) := by decide +kernel
theorem dX6_startRelay_1 : decode cX6_startRelay 1 = .ok (.iload_n 1, 1) := by decide +kernel
theorem dX6_startRelay_2 : decode cX6_startRelay 2 = .ok (.invokestatic 152, 3) := by decide +kernel
theorem dX6_startRelay_5 : decode cX6_startRelay 5 = .ok (.ifCond .ne 7, 3) := by decide +kernel
theorem dX6_startRelay_8 : decode cX6_startRelay 8 = .ok (.iconst 1, 1) := by decide +kernel
theorem dX6_startRelay_9 : decode cX6_startRelay 9 = .ok (.goto 42, 3) := by decide +kernel
theorem dX6_startRelay_12 : decode cX6_startRelay 12 = .ok (.iload_n 2, 1) := by decide +kernel
theorem dX6_startRelay_13 : decode cX6_startRelay 13 = .ok (.iconst 1, 1) := by decide +kernel
theorem dX6_startRelay_14 : decode cX6_startRelay 14 = .ok (.ldc 220, 2) := by decide +kernel
theorem dX6_startRelay_16 : decode cX6_startRelay 16 = .ok (.invokestatic 146, 3) := by decide +kernel
theorem dX6_startRelay_19 : decode cX6_startRelay 19 = .ok (.ifCond .eq 13, 3) := by decide +kernel
theorem dX6_startRelay_22 : decode cX6_startRelay 22 = .ok (.iload_n 3, 1) := by decide +kernel
theorem dX6_startRelay_23 : decode cX6_startRelay 23 = .ok (.iconst 0, 1) := by decide +kernel
theorem dX6_startRelay_24 : decode cX6_startRelay 24 = .ok (.ldc 220, 2) := by decide +kernel
theorem dX6_startRelay_26 : decode cX6_startRelay 26 = .ok (.invokestatic 146, 3) := by decide +kernel
theorem dX6_startRelay_29 : decode cX6_startRelay 29 = .ok (.ifCond .ne 7, 3) := by decide +kernel
theorem dX6_startRelay_32 : decode cX6_startRelay 32 = .ok (.iconst 2, 1) := by decide +kernel
theorem dX6_startRelay_33 : decode cX6_startRelay 33 = .ok (.goto 18, 3) := by decide +kernel
theorem dX6_startRelay_36 : decode cX6_startRelay 36 = .ok (.aload_n 0, 1) := by decide +kernel
theorem dX6_startRelay_37 : decode cX6_startRelay 37 = .ok (.getfield 56, 3) := by decide +kernel
theorem dX6_startRelay_40 : decode cX6_startRelay 40 = .ok (.iload_n 1, 1) := by decide +kernel
theorem dX6_startRelay_41 : decode cX6_startRelay 41 = .ok (.iaload, 1) := by decide +kernel
theorem dX6_startRelay_42 : decode cX6_startRelay 42 = .ok (.iconst 1, 1) := by decide +kernel
theorem dX6_startRelay_43 : decode cX6_startRelay 43 = .ok (.if_icmp .eq 7, 3) := by decide +kernel
theorem dX6_startRelay_46 : decode cX6_startRelay 46 = .ok (.iconst 3, 1) := by decide +kernel
theorem dX6_startRelay_47 : decode cX6_startRelay 47 = .ok (.goto 4, 3) := by decide +kernel
theorem dX6_startRelay_50 : decode cX6_startRelay 50 = .ok (.iconst 0, 1) := by decide +kernel
theorem dX6_startRelay_51 : decode cX6_startRelay 51 = .ok (.invokevirtual 156, 3) := by decide +kernel
theorem dX6_startRelay_54 : decode cX6_startRelay 54 = .ok (.ifCond .eq 63, 3) := by decide +kernel
theorem dX6_startRelay_57 : decode cX6_startRelay 57 = .ok (.aload_n 0, 1) := by decide +kernel
theorem dX6_startRelay_58 : decode cX6_startRelay 58 = .ok (.getfield 102, 3) := by decide +kernel
theorem dX6_startRelay_61 : decode cX6_startRelay 61 = .ok (.iload_n 1, 1) := by decide +kernel
theorem dX6_startRelay_62 : decode cX6_startRelay 62 = .ok (.iload_n 2, 1) := by decide +kernel
theorem dX6_startRelay_63 : decode cX6_startRelay 63 = .ok (.iastore, 1) := by decide +kernel
theorem dX6_startRelay_64 : decode cX6_startRelay 64 = .ok (.aload_n 0, 1) := by decide +kernel
theorem dX6_startRelay_65 : decode cX6_startRelay 65 = .ok (.getfield 105, 3) := by decide +kernel
theorem dX6_startRelay_68 : decode cX6_startRelay 68 = .ok (.iload_n 1, 1) := by decide +kernel
theorem dX6_startRelay_69 : decode cX6_startRelay 69 = .ok (.iload_n 3, 1) := by decide +kernel
theorem dX6_startRelay_70 : decode cX6_startRelay 70 = .ok (.iastore, 1) := by decide +kernel
theorem dX6_startRelay_71 : decode cX6_startRelay 71 = .ok (.aload_n 0, 1) := by decide +kernel
theorem dX6_startRelay_72 : decode cX6_startRelay 72 = .ok (.getfield 99, 3) := by decide +kernel
theorem dX6_startRelay_75 : decode cX6_startRelay 75 = .ok (.iload_n 1, 1) := by decide +kernel
theorem dX6_startRelay_76 : decode cX6_startRelay 76 = .ok (.aload_n 0, 1) := by decide +kernel
theorem dX6_startRelay_77 : decode cX6_startRelay 77 = .ok (.iload_n 1, 1) := by decide +kernel
theorem dX6_startRelay_78 : decode cX6_startRelay 78 = .ok (.invokevirtual 175, 3) := by decide +kernel
theorem dX6_startRelay_81 : decode cX6_startRelay 81 = .ok (.lastore, 1) := by decide +kernel
theorem dX6_startRelay_82 : decode cX6_startRelay 82 = .ok (.aload_n 0, 1) := by decide +kernel
theorem dX6_startRelay_83 : decode cX6_startRelay 83 = .ok (.getfield 56, 3) := by decide +kernel
theorem dX6_startRelay_86 : decode cX6_startRelay 86 = .ok (.iload_n 1, 1) := by decide +kernel
theorem dX6_startRelay_87 : decode cX6_startRelay 87 = .ok (.iconst 3, 1) := by decide +kernel
theorem dX6_startRelay_88 : decode cX6_startRelay 88 = .ok (.iastore, 1) := by decide +kernel
theorem dX6_startRelay_89 : decode cX6_startRelay 89 = .ok (.aload_n 0, 1) := by decide +kernel
theorem dX6_startRelay_90 : decode cX6_startRelay 90 = .ok (.getfield 96, 3) := by decide +kernel
theorem dX6_startRelay_93 : decode cX6_startRelay 93 = .ok (.iload_n 1, 1) := by decide +kernel
theorem dX6_startRelay_94 : decode cX6_startRelay 94 = .ok (.iconst 1, 1) := by decide +kernel
theorem dX6_startRelay_95 : decode cX6_startRelay 95 = .ok (.iastore, 1) := by decide +kernel
theorem dX6_startRelay_96 : decode cX6_startRelay 96 = .ok (.aload_n 0, 1) := by decide +kernel
theorem dX6_startRelay_97 : decode cX6_startRelay 97 = .ok (.getfield 108, 3) := by decide +kernel
theorem dX6_startRelay_100 : decode cX6_startRelay 100 = .ok (.iload_n 1, 1) := by decide +kernel
theorem dX6_startRelay_101 : decode cX6_startRelay 101 = .ok (.iconst 1, 1) := by decide +kernel
theorem dX6_startRelay_102 : decode cX6_startRelay 102 = .ok (.bastore, 1) := by decide +kernel
theorem dX6_startRelay_103 : decode cX6_startRelay 103 = .ok (.aload_n 0, 1) := by decide +kernel
theorem dX6_startRelay_104 : decode cX6_startRelay 104 = .ok (.getfield 111, 3) := by decide +kernel
theorem dX6_startRelay_107 : decode cX6_startRelay 107 = .ok (.iload_n 1, 1) := by decide +kernel
theorem dX6_startRelay_108 : decode cX6_startRelay 108 = .ok (.iconst 0, 1) := by decide +kernel
theorem dX6_startRelay_109 : decode cX6_startRelay 109 = .ok (.iastore, 1) := by decide +kernel
theorem dX6_startRelay_110 : decode cX6_startRelay 110 = .ok (.aload_n 0, 1) := by decide +kernel
theorem dX6_startRelay_111 : decode cX6_startRelay 111 = .ok (.getfield 114, 3) := by decide +kernel
theorem dX6_startRelay_114 : decode cX6_startRelay 114 = .ok (.iload_n 1, 1) := by decide +kernel
theorem dX6_startRelay_115 : decode cX6_startRelay 115 = .ok (.iconst 0, 1) := by decide +kernel
theorem dX6_startRelay_116 : decode cX6_startRelay 116 = .ok (.iastore, 1) := by decide +kernel
theorem dX6_startRelay_117 : decode cX6_startRelay 117 = .ok (.return_, 1) := by decide +kernel
theorem dX6_experiment_0 : decode cX6_experiment 0 = .ok (.aload_n 0, 1) := by decide +kernel
theorem dX6_experiment_1 : decode cX6_experiment 1 = .ok (.iload_n 1, 1) := by decide +kernel
theorem dX6_experiment_2 : decode cX6_experiment 2 = .ok (.invokevirtual 217, 3) := by decide +kernel
theorem dX6_experiment_5 : decode cX6_experiment 5 = .ok (.ifCond .eq 12, 3) := by decide +kernel
theorem dX6_experiment_8 : decode cX6_experiment 8 = .ok (.aload_n 0, 1) := by decide +kernel
theorem dX6_experiment_9 : decode cX6_experiment 9 = .ok (.getfield 96, 3) := by decide +kernel
theorem dX6_experiment_12 : decode cX6_experiment 12 = .ok (.iload_n 1, 1) := by decide +kernel
theorem dX6_experiment_13 : decode cX6_experiment 13 = .ok (.iaload, 1) := by decide +kernel
theorem dX6_experiment_14 : decode cX6_experiment 14 = .ok (.goto 4, 3) := by decide +kernel
theorem dX6_experiment_17 : decode cX6_experiment 17 = .ok (.iconst 0, 1) := by decide +kernel
theorem dX6_experiment_18 : decode cX6_experiment 18 = .ok (.ireturn, 1) := by decide +kernel
theorem dX6_isDone_0 : decode cX6_isDone 0 = .ok (.aload_n 0, 1) := by decide +kernel
theorem dX6_isDone_1 : decode cX6_isDone 1 = .ok (.iload_n 1, 1) := by decide +kernel
theorem dX6_isDone_2 : decode cX6_isDone 2 = .ok (.invokestatic 152, 3) := by decide +kernel
theorem dX6_isDone_5 : decode cX6_isDone 5 = .ok (.ifCond .ne 7, 3) := by decide +kernel
theorem dX6_isDone_8 : decode cX6_isDone 8 = .ok (.iconst 1, 1) := by decide +kernel
theorem dX6_isDone_9 : decode cX6_isDone 9 = .ok (.goto 18, 3) := by decide +kernel
theorem dX6_isDone_12 : decode cX6_isDone 12 = .ok (.aload_n 0, 1) := by decide +kernel
theorem dX6_isDone_13 : decode cX6_isDone 13 = .ok (.getfield 96, 3) := by decide +kernel
theorem dX6_isDone_16 : decode cX6_isDone 16 = .ok (.iload_n 1, 1) := by decide +kernel
theorem dX6_isDone_17 : decode cX6_isDone 17 = .ok (.iaload, 1) := by decide +kernel
theorem dX6_isDone_18 : decode cX6_isDone 18 = .ok (.iconst 2, 1) := by decide +kernel
theorem dX6_isDone_19 : decode cX6_isDone 19 = .ok (.if_icmp .ne 7, 3) := by decide +kernel
theorem dX6_isDone_22 : decode cX6_isDone 22 = .ok (.iconst 0, 1) := by decide +kernel
theorem dX6_isDone_23 : decode cX6_isDone 23 = .ok (.goto 4, 3) := by decide +kernel
theorem dX6_isDone_26 : decode cX6_isDone 26 = .ok (.iconst 2, 1) := by decide +kernel
theorem dX6_isDone_27 : decode cX6_isDone 27 = .ok (.invokevirtual 156, 3) := by decide +kernel
theorem dX6_isDone_30 : decode cX6_isDone 30 = .ok (.ireturn, 1) := by decide +kernel
theorem dX6_period_0 : decode cX6_period 0 = .ok (.aload_n 0, 1) := by decide +kernel
theorem dX6_period_1 : decode cX6_period 1 = .ok (.iload_n 1, 1) := by decide +kernel
theorem dX6_period_2 : decode cX6_period 2 = .ok (.invokevirtual 221, 3) := by decide +kernel
theorem dX6_period_5 : decode cX6_period 5 = .ok (.ifCond .eq 12, 3) := by decide +kernel
theorem dX6_period_8 : decode cX6_period 8 = .ok (.aload_n 0, 1) := by decide +kernel
theorem dX6_period_9 : decode cX6_period 9 = .ok (.getfield 126, 3) := by decide +kernel
theorem dX6_period_12 : decode cX6_period 12 = .ok (.iload_n 1, 1) := by decide +kernel
theorem dX6_period_13 : decode cX6_period 13 = .ok (.iaload, 1) := by decide +kernel
theorem dX6_period_14 : decode cX6_period 14 = .ok (.goto 4, 3) := by decide +kernel
theorem dX6_period_17 : decode cX6_period 17 = .ok (.iconst 0, 1) := by decide +kernel
theorem dX6_period_18 : decode cX6_period 18 = .ok (.ireturn, 1) := by decide +kernel
theorem dX6_swing_0 : decode cX6_swing 0 = .ok (.aload_n 0, 1) := by decide +kernel
theorem dX6_swing_1 : decode cX6_swing 1 = .ok (.iload_n 1, 1) := by decide +kernel
theorem dX6_swing_2 : decode cX6_swing 2 = .ok (.invokevirtual 221, 3) := by decide +kernel
theorem dX6_swing_5 : decode cX6_swing 5 = .ok (.ifCond .eq 12, 3) := by decide +kernel
theorem dX6_swing_8 : decode cX6_swing 8 = .ok (.aload_n 0, 1) := by decide +kernel
theorem dX6_swing_9 : decode cX6_swing 9 = .ok (.getfield 129, 3) := by decide +kernel
theorem dX6_swing_12 : decode cX6_swing 12 = .ok (.iload_n 1, 1) := by decide +kernel
theorem dX6_swing_13 : decode cX6_swing 13 = .ok (.laload, 1) := by decide +kernel
theorem dX6_swing_14 : decode cX6_swing 14 = .ok (.goto 4, 3) := by decide +kernel
theorem dX6_swing_17 : decode cX6_swing 17 = .ok (.lconst 0, 1) := by decide +kernel
theorem dX6_swing_18 : decode cX6_swing 18 = .ok (.lreturn, 1) := by decide +kernel
theorem dX6_ultimate_0 : decode cX6_ultimate 0 = .ok (.ldc2_w 224, 3) := by decide +kernel
theorem dX6_ultimate_3 : decode cX6_ultimate 3 = .ok (.aload_n 0, 1) := by decide +kernel
theorem dX6_ultimate_4 : decode cX6_ultimate 4 = .ok (.getfield 102, 3) := by decide +kernel
theorem dX6_ultimate_7 : decode cX6_ultimate 7 = .ok (.iload_n 1, 1) := by decide +kernel
theorem dX6_ultimate_8 : decode cX6_ultimate 8 = .ok (.iaload, 1) := by decide +kernel
theorem dX6_ultimate_9 : decode cX6_ultimate 9 = .ok (.i2l, 1) := by decide +kernel
theorem dX6_ultimate_10 : decode cX6_ultimate 10 = .ok (.lmul, 1) := by decide +kernel
theorem dX6_ultimate_11 : decode cX6_ultimate 11 = .ok (.ldc2_w 226, 3) := by decide +kernel
theorem dX6_ultimate_14 : decode cX6_ultimate 14 = .ok (.aload_n 0, 1) := by decide +kernel
theorem dX6_ultimate_15 : decode cX6_ultimate 15 = .ok (.getfield 129, 3) := by decide +kernel
theorem dX6_ultimate_18 : decode cX6_ultimate 18 = .ok (.iload_n 1, 1) := by decide +kernel
theorem dX6_ultimate_19 : decode cX6_ultimate 19 = .ok (.laload, 1) := by decide +kernel
theorem dX6_ultimate_20 : decode cX6_ultimate 20 = .ok (.lmul, 1) := by decide +kernel
theorem dX6_ultimate_21 : decode cX6_ultimate 21 = .ok (.ldiv, 1) := by decide +kernel
theorem dX6_ultimate_22 : decode cX6_ultimate 22 = .ok (.lreturn, 1) := by decide +kernel
theorem dX6_ultimateGain_0 : decode cX6_ultimateGain 0 = .ok (.aload_n 0, 1) := by decide +kernel
theorem dX6_ultimateGain_1 : decode cX6_ultimateGain 1 = .ok (.iload_n 1, 1) := by decide +kernel
theorem dX6_ultimateGain_2 : decode cX6_ultimateGain 2 = .ok (.invokestatic 152, 3) := by decide +kernel
theorem dX6_ultimateGain_5 : decode cX6_ultimateGain 5 = .ok (.ifCond .ne 7, 3) := by decide +kernel
theorem dX6_ultimateGain_8 : decode cX6_ultimateGain 8 = .ok (.iconst 1, 1) := by decide +kernel
theorem dX6_ultimateGain_9 : decode cX6_ultimateGain 9 = .ok (.goto 29, 3) := by decide +kernel
theorem dX6_ultimateGain_12 : decode cX6_ultimateGain 12 = .ok (.aload_n 0, 1) := by decide +kernel
theorem dX6_ultimateGain_13 : decode cX6_ultimateGain 13 = .ok (.getfield 96, 3) := by decide +kernel
theorem dX6_ultimateGain_16 : decode cX6_ultimateGain 16 = .ok (.iload_n 1, 1) := by decide +kernel
theorem dX6_ultimateGain_17 : decode cX6_ultimateGain 17 = .ok (.iaload, 1) := by decide +kernel
theorem dX6_ultimateGain_18 : decode cX6_ultimateGain 18 = .ok (.iconst 2, 1) := by decide +kernel
theorem dX6_ultimateGain_19 : decode cX6_ultimateGain 19 = .ok (.if_icmp .ne 14, 3) := by decide +kernel
theorem dX6_ultimateGain_22 : decode cX6_ultimateGain 22 = .ok (.aload_n 0, 1) := by decide +kernel
theorem dX6_ultimateGain_23 : decode cX6_ultimateGain 23 = .ok (.getfield 129, 3) := by decide +kernel
theorem dX6_ultimateGain_26 : decode cX6_ultimateGain 26 = .ok (.iload_n 1, 1) := by decide +kernel
theorem dX6_ultimateGain_27 : decode cX6_ultimateGain 27 = .ok (.laload, 1) := by decide +kernel
theorem dX6_ultimateGain_28 : decode cX6_ultimateGain 28 = .ok (.lconst 0, 1) := by decide +kernel
theorem dX6_ultimateGain_29 : decode cX6_ultimateGain 29 = .ok (.lcmp, 1) := by decide +kernel
theorem dX6_ultimateGain_30 : decode cX6_ultimateGain 30 = .ok (.ifCond .ne 7, 3) := by decide +kernel
theorem dX6_ultimateGain_33 : decode cX6_ultimateGain 33 = .ok (.iconst 2, 1) := by decide +kernel
theorem dX6_ultimateGain_34 : decode cX6_ultimateGain 34 = .ok (.goto 4, 3) := by decide +kernel
theorem dX6_ultimateGain_37 : decode cX6_ultimateGain 37 = .ok (.iconst 0, 1) := by decide +kernel
theorem dX6_ultimateGain_38 : decode cX6_ultimateGain 38 = .ok (.invokevirtual 156, 3) := by decide +kernel
theorem dX6_ultimateGain_41 : decode cX6_ultimateGain 41 = .ok (.ifCond .eq 12, 3) := by decide +kernel
theorem dX6_ultimateGain_44 : decode cX6_ultimateGain 44 = .ok (.aload_n 0, 1) := by decide +kernel
theorem dX6_ultimateGain_45 : decode cX6_ultimateGain 45 = .ok (.iload_n 1, 1) := by decide +kernel
theorem dX6_ultimateGain_46 : decode cX6_ultimateGain 46 = .ok (.invokevirtual 228, 3) := by decide +kernel
theorem dX6_ultimateGain_49 : decode cX6_ultimateGain 49 = .ok (.l2i, 1) := by decide +kernel
theorem dX6_ultimateGain_50 : decode cX6_ultimateGain 50 = .ok (.goto 4, 3) := by decide +kernel
theorem dX6_ultimateGain_53 : decode cX6_ultimateGain 53 = .ok (.iconst 0, 1) := by decide +kernel
theorem dX6_ultimateGain_54 : decode cX6_ultimateGain 54 = .ok (.ireturn, 1) := by decide +kernel
theorem dX6_proposed_0 : decode cX6_proposed 0 = .ok (.aload_n 0, 1) := by decide +kernel
theorem dX6_proposed_1 : decode cX6_proposed 1 = .ok (.iload_n 1, 1) := by decide +kernel
theorem dX6_proposed_2 : decode cX6_proposed 2 = .ok (.invokestatic 152, 3) := by decide +kernel
theorem dX6_proposed_5 : decode cX6_proposed 5 = .ok (.ifCond .eq 12, 3) := by decide +kernel
theorem dX6_proposed_8 : decode cX6_proposed 8 = .ok (.iload_n 3, 1) := by decide +kernel
theorem dX6_proposed_9 : decode cX6_proposed 9 = .ok (.iconst 0, 1) := by decide +kernel
theorem dX6_proposed_10 : decode cX6_proposed 10 = .ok (.iconst 2, 1) := by decide +kernel
theorem dX6_proposed_11 : decode cX6_proposed 11 = .ok (.invokestatic 146, 3) := by decide +kernel
theorem dX6_proposed_14 : decode cX6_proposed 14 = .ok (.ifCond .ne 7, 3) := by decide +kernel
theorem dX6_proposed_17 : decode cX6_proposed 17 = .ok (.iconst 1, 1) := by decide +kernel
theorem dX6_proposed_18 : decode cX6_proposed 18 = .ok (.goto 51, 3) := by decide +kernel
theorem dX6_proposed_21 : decode cX6_proposed 21 = .ok (.iload_n 2, 1) := by decide +kernel
theorem dX6_proposed_22 : decode cX6_proposed 22 = .ok (.iconst 0, 1) := by decide +kernel
theorem dX6_proposed_23 : decode cX6_proposed 23 = .ok (.iconst 1, 1) := by decide +kernel
theorem dX6_proposed_24 : decode cX6_proposed 24 = .ok (.invokestatic 146, 3) := by decide +kernel
theorem dX6_proposed_27 : decode cX6_proposed 27 = .ok (.ifCond .ne 7, 3) := by decide +kernel
theorem dX6_proposed_30 : decode cX6_proposed 30 = .ok (.iconst 2, 1) := by decide +kernel
theorem dX6_proposed_31 : decode cX6_proposed 31 = .ok (.goto 38, 3) := by decide +kernel
theorem dX6_proposed_34 : decode cX6_proposed 34 = .ok (.aload_n 0, 1) := by decide +kernel
theorem dX6_proposed_35 : decode cX6_proposed 35 = .ok (.getfield 96, 3) := by decide +kernel
theorem dX6_proposed_38 : decode cX6_proposed 38 = .ok (.iload_n 1, 1) := by decide +kernel
theorem dX6_proposed_39 : decode cX6_proposed 39 = .ok (.iaload, 1) := by decide +kernel
theorem dX6_proposed_40 : decode cX6_proposed 40 = .ok (.iconst 2, 1) := by decide +kernel
theorem dX6_proposed_41 : decode cX6_proposed 41 = .ok (.if_icmp .ne 23, 3) := by decide +kernel
theorem dX6_proposed_44 : decode cX6_proposed 44 = .ok (.aload_n 0, 1) := by decide +kernel
theorem dX6_proposed_45 : decode cX6_proposed 45 = .ok (.getfield 129, 3) := by decide +kernel
theorem dX6_proposed_48 : decode cX6_proposed 48 = .ok (.iload_n 1, 1) := by decide +kernel
theorem dX6_proposed_49 : decode cX6_proposed 49 = .ok (.laload, 1) := by decide +kernel
theorem dX6_proposed_50 : decode cX6_proposed 50 = .ok (.lconst 0, 1) := by decide +kernel
theorem dX6_proposed_51 : decode cX6_proposed 51 = .ok (.lcmp, 1) := by decide +kernel
theorem dX6_proposed_52 : decode cX6_proposed 52 = .ok (.ifCond .eq 12, 3) := by decide +kernel
theorem dX6_proposed_55 : decode cX6_proposed 55 = .ok (.aload_n 0, 1) := by decide +kernel
theorem dX6_proposed_56 : decode cX6_proposed 56 = .ok (.getfield 126, 3) := by decide +kernel
theorem dX6_proposed_59 : decode cX6_proposed 59 = .ok (.iload_n 1, 1) := by decide +kernel
theorem dX6_proposed_60 : decode cX6_proposed 60 = .ok (.iaload, 1) := by decide +kernel
theorem dX6_proposed_61 : decode cX6_proposed 61 = .ok (.ifCond .ne 7, 3) := by decide +kernel
theorem dX6_proposed_64 : decode cX6_proposed 64 = .ok (.iconst 3, 1) := by decide +kernel
theorem dX6_proposed_65 : decode cX6_proposed 65 = .ok (.goto 4, 3) := by decide +kernel
theorem dX6_proposed_68 : decode cX6_proposed 68 = .ok (.iconst 0, 1) := by decide +kernel
theorem dX6_proposed_69 : decode cX6_proposed 69 = .ok (.invokevirtual 156, 3) := by decide +kernel
theorem dX6_proposed_72 : decode cX6_proposed 72 = .ok (.ifCond .ne 5, 3) := by decide +kernel
theorem dX6_proposed_75 : decode cX6_proposed 75 = .ok (.iconst 0, 1) := by decide +kernel
theorem dX6_proposed_76 : decode cX6_proposed 76 = .ok (.ireturn, 1) := by decide +kernel
theorem dX6_proposed_77 : decode cX6_proposed 77 = .ok (.aload_n 0, 1) := by decide +kernel
theorem dX6_proposed_78 : decode cX6_proposed 78 = .ok (.iload_n 1, 1) := by decide +kernel
theorem dX6_proposed_79 : decode cX6_proposed 79 = .ok (.invokevirtual 228, 3) := by decide +kernel
theorem dX6_proposed_82 : decode cX6_proposed 82 = .ok (.lstore 4, 2) := by decide +kernel
theorem dX6_proposed_84 : decode cX6_proposed 84 = .ok (.aload_n 0, 1) := by decide +kernel
theorem dX6_proposed_85 : decode cX6_proposed 85 = .ok (.getfield 126, 3) := by decide +kernel
theorem dX6_proposed_88 : decode cX6_proposed 88 = .ok (.iload_n 1, 1) := by decide +kernel
theorem dX6_proposed_89 : decode cX6_proposed 89 = .ok (.iaload, 1) := by decide +kernel
theorem dX6_proposed_90 : decode cX6_proposed 90 = .ok (.i2l, 1) := by decide +kernel
theorem dX6_proposed_91 : decode cX6_proposed 91 = .ok (.lstore 6, 2) := by decide +kernel
theorem dX6_proposed_93 : decode cX6_proposed 93 = .ok (.iload_n 3, 1) := by decide +kernel
theorem dX6_proposed_94 : decode cX6_proposed 94 = .ok (.ifCond .ne 39, 3) := by decide +kernel
theorem dX6_proposed_97 : decode cX6_proposed 97 = .ok (.iload_n 2, 1) := by decide +kernel
theorem dX6_proposed_98 : decode cX6_proposed 98 = .ok (.ifCond .ne 16, 3) := by decide +kernel
theorem dX6_proposed_101 : decode cX6_proposed 101 = .ok (.ldc2_w 231, 3) := by decide +kernel
theorem dX6_proposed_104 : decode cX6_proposed 104 = .ok (.lload 4, 2) := by decide +kernel
theorem dX6_proposed_106 : decode cX6_proposed 106 = .ok (.lmul, 1) := by decide +kernel
theorem dX6_proposed_107 : decode cX6_proposed 107 = .ok (.ldc2_w 233, 3) := by decide +kernel
theorem dX6_proposed_110 : decode cX6_proposed 110 = .ok (.ldiv, 1) := by decide +kernel
theorem dX6_proposed_111 : decode cX6_proposed 111 = .ok (.goto 13, 3) := by decide +kernel
theorem dX6_proposed_114 : decode cX6_proposed 114 = .ok (.ldc2_w 233, 3) := by decide +kernel
theorem dX6_proposed_117 : decode cX6_proposed 117 = .ok (.lload 4, 2) := by decide +kernel
theorem dX6_proposed_119 : decode cX6_proposed 119 = .ok (.lmul, 1) := by decide +kernel
theorem dX6_proposed_120 : decode cX6_proposed 120 = .ok (.ldc2_w 235, 3) := by decide +kernel
theorem dX6_proposed_123 : decode cX6_proposed 123 = .ok (.ldiv, 1) := by decide +kernel
theorem dX6_proposed_124 : decode cX6_proposed 124 = .ok (.lconst 0, 1) := by decide +kernel
theorem dX6_proposed_125 : decode cX6_proposed 125 = .ok (.ldc2_w 237, 3) := by decide +kernel
theorem dX6_proposed_128 : decode cX6_proposed 128 = .ok (.invokestatic 190, 3) := by decide +kernel
theorem dX6_proposed_131 : decode cX6_proposed 131 = .ok (.l2i, 1) := by decide +kernel
theorem dX6_proposed_132 : decode cX6_proposed 132 = .ok (.ireturn, 1) := by decide +kernel
theorem dX6_proposed_133 : decode cX6_proposed 133 = .ok (.iload_n 3, 1) := by decide +kernel
theorem dX6_proposed_134 : decode cX6_proposed 134 = .ok (.iconst 1, 1) := by decide +kernel
theorem dX6_proposed_135 : decode cX6_proposed 135 = .ok (.if_icmp .ne 45, 3) := by decide +kernel
theorem dX6_proposed_138 : decode cX6_proposed 138 = .ok (.iload_n 2, 1) := by decide +kernel
theorem dX6_proposed_139 : decode cX6_proposed 139 = .ok (.ifCond .ne 19, 3) := by decide +kernel
theorem dX6_proposed_142 : decode cX6_proposed 142 = .ok (.ldc2_w 239, 3) := by decide +kernel
theorem dX6_proposed_145 : decode cX6_proposed 145 = .ok (.lload 4, 2) := by decide +kernel
theorem dX6_proposed_147 : decode cX6_proposed 147 = .ok (.lmul, 1) := by decide +kernel
theorem dX6_proposed_148 : decode cX6_proposed 148 = .ok (.ldc2_w 233, 3) := by decide +kernel
theorem dX6_proposed_151 : decode cX6_proposed 151 = .ok (.lload 6, 2) := by decide +kernel
theorem dX6_proposed_153 : decode cX6_proposed 153 = .ok (.lmul, 1) := by decide +kernel
theorem dX6_proposed_154 : decode cX6_proposed 154 = .ok (.ldiv, 1) := by decide +kernel
theorem dX6_proposed_155 : decode cX6_proposed 155 = .ok (.goto 16, 3) := by decide +kernel
theorem dX6_proposed_158 : decode cX6_proposed 158 = .ok (.ldc2_w 138, 3) := by decide +kernel
theorem dX6_proposed_161 : decode cX6_proposed 161 = .ok (.lload 4, 2) := by decide +kernel
theorem dX6_proposed_163 : decode cX6_proposed 163 = .ok (.lmul, 1) := by decide +kernel
theorem dX6_proposed_164 : decode cX6_proposed 164 = .ok (.ldc2_w 241, 3) := by decide +kernel
theorem dX6_proposed_167 : decode cX6_proposed 167 = .ok (.lload 6, 2) := by decide +kernel
theorem dX6_proposed_169 : decode cX6_proposed 169 = .ok (.lmul, 1) := by decide +kernel
theorem dX6_proposed_170 : decode cX6_proposed 170 = .ok (.ldiv, 1) := by decide +kernel
theorem dX6_proposed_171 : decode cX6_proposed 171 = .ok (.lconst 0, 1) := by decide +kernel
theorem dX6_proposed_172 : decode cX6_proposed 172 = .ok (.ldc2_w 243, 3) := by decide +kernel
theorem dX6_proposed_175 : decode cX6_proposed 175 = .ok (.invokestatic 190, 3) := by decide +kernel
theorem dX6_proposed_178 : decode cX6_proposed 178 = .ok (.l2i, 1) := by decide +kernel
theorem dX6_proposed_179 : decode cX6_proposed 179 = .ok (.ireturn, 1) := by decide +kernel
theorem dX6_proposed_180 : decode cX6_proposed 180 = .ok (.iload_n 2, 1) := by decide +kernel
theorem dX6_proposed_181 : decode cX6_proposed 181 = .ok (.ifCond .ne 19, 3) := by decide +kernel
theorem dX6_proposed_184 : decode cX6_proposed 184 = .ok (.ldc2_w 245, 3) := by decide +kernel
theorem dX6_proposed_187 : decode cX6_proposed 187 = .ok (.lload 4, 2) := by decide +kernel
theorem dX6_proposed_189 : decode cX6_proposed 189 = .ok (.lmul, 1) := by decide +kernel
theorem dX6_proposed_190 : decode cX6_proposed 190 = .ok (.lload 6, 2) := by decide +kernel
theorem dX6_proposed_192 : decode cX6_proposed 192 = .ok (.lmul, 1) := by decide +kernel
theorem dX6_proposed_193 : decode cX6_proposed 193 = .ok (.ldc2_w 247, 3) := by decide +kernel
theorem dX6_proposed_196 : decode cX6_proposed 196 = .ok (.ldiv, 1) := by decide +kernel
theorem dX6_proposed_197 : decode cX6_proposed 197 = .ok (.goto 16, 3) := by decide +kernel
theorem dX6_proposed_200 : decode cX6_proposed 200 = .ok (.ldc2_w 138, 3) := by decide +kernel
theorem dX6_proposed_203 : decode cX6_proposed 203 = .ok (.lload 4, 2) := by decide +kernel
theorem dX6_proposed_205 : decode cX6_proposed 205 = .ok (.lmul, 1) := by decide +kernel
theorem dX6_proposed_206 : decode cX6_proposed 206 = .ok (.lload 6, 2) := by decide +kernel
theorem dX6_proposed_208 : decode cX6_proposed 208 = .ok (.lmul, 1) := by decide +kernel
theorem dX6_proposed_209 : decode cX6_proposed 209 = .ok (.ldc2_w 249, 3) := by decide +kernel
theorem dX6_proposed_212 : decode cX6_proposed 212 = .ok (.ldiv, 1) := by decide +kernel
theorem dX6_proposed_213 : decode cX6_proposed 213 = .ok (.lconst 0, 1) := by decide +kernel
theorem dX6_proposed_214 : decode cX6_proposed 214 = .ok (.ldc2_w 251, 3) := by decide +kernel
theorem dX6_proposed_217 : decode cX6_proposed 217 = .ok (.invokestatic 190, 3) := by decide +kernel
theorem dX6_proposed_220 : decode cX6_proposed 220 = .ok (.l2i, 1) := by decide +kernel
theorem dX6_proposed_221 : decode cX6_proposed 221 = .ok (.ireturn, 1) := by decide +kernel
