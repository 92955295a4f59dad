theorem dL_samples_173 : decode cL_samples 173 = .ok (.iaload, 1) := by decide +kernel
theorem dL_samples_174 : decode cL_samples 174 = .ok (.iconst 2, 1) := by decide +kernel
theorem dL_samples_175 : decode cL_samples 175 = .ok (.if_icmp .ne 36, 3) := by decide +kernel
theorem dL_samples_178 : decode cL_samples 178 = .ok (.iload 12, 2) := by decide +kernel
theorem dL_samples_180 : decode cL_samples 180 = .ok (.iconst 2, 1) := by decide +kernel
theorem dL_samples_181 : decode cL_samples 181 = .ok (.if_icmp .ge 30, 3) := by decide +kernel
theorem dL_samples_184 : decode cL_samples 184 = .ok (.aload_n 1, 1) := by decide +kernel
theorem dL_samples_185 : decode cL_samples 185 = .ok (.iload 13, 2) := by decide +kernel
theorem dL_samples_187 : decode cL_samples 187 = .ok (.bipush 29, 2) := by decide +kernel
theorem dL_samples_189 : decode cL_samples 189 = .ok (.iadd, 1) := by decide +kernel
theorem dL_samples_190 : decode cL_samples 190 = .ok (.laload, 1) := by decide +kernel
theorem dL_samples_191 : decode cL_samples 191 = .ok (.lconst 1, 1) := by decide +kernel
theorem dL_samples_192 : decode cL_samples 192 = .ok (.lcmp, 1) := by decide +kernel
theorem dL_samples_193 : decode cL_samples 193 = .ok (.ifCond .ne 18, 3) := by decide +kernel
theorem dL_samples_196 : decode cL_samples 196 = .ok (.aload 6, 2) := by decide +kernel
theorem dL_samples_198 : decode cL_samples 198 = .ok (.iload 12, 2) := by decide +kernel
theorem dL_samples_200 : decode cL_samples 200 = .ok (.iconst 1, 1) := by decide +kernel
theorem dL_samples_201 : decode cL_samples 201 = .ok (.iadd, 1) := by decide +kernel
theorem dL_samples_202 : decode cL_samples 202 = .ok (.iaload, 1) := by decide +kernel
theorem dL_samples_203 : decode cL_samples 203 = .ok (.iconst 2, 1) := by decide +kernel
theorem dL_samples_204 : decode cL_samples 204 = .ok (.if_icmp .eq 7, 3) := by decide +kernel
theorem dL_samples_207 : decode cL_samples 207 = .ok (.iconst 1, 1) := by decide +kernel
theorem dL_samples_208 : decode cL_samples 208 = .ok (.goto 4, 3) := by decide +kernel
theorem dL_samples_211 : decode cL_samples 211 = .ok (.iconst 0, 1) := by decide +kernel
theorem dL_samples_212 : decode cL_samples 212 = .ok (.istore 20, 2) := by decide +kernel
theorem dL_samples_214 : decode cL_samples 214 = .ok (.aload 6, 2) := by decide +kernel
theorem dL_samples_216 : decode cL_samples 216 = .ok (.iload 12, 2) := by decide +kernel
theorem dL_samples_218 : decode cL_samples 218 = .ok (.iaload, 1) := by decide +kernel
theorem dL_samples_219 : decode cL_samples 219 = .ok (.iconst 2, 1) := by decide +kernel
theorem dL_samples_220 : decode cL_samples 220 = .ok (.if_icmp .ne 14, 3) := by decide +kernel
theorem dL_samples_223 : decode cL_samples 223 = .ok (.aload_n 0, 1) := by decide +kernel
theorem dL_samples_224 : decode cL_samples 224 = .ok (.iload 12, 2) := by decide +kernel
theorem dL_samples_226 : decode cL_samples 226 = .ok (.iconst 1, 1) := by decide +kernel
theorem dL_samples_227 : decode cL_samples 227 = .ok (.isub, 1) := by decide +kernel
theorem dL_samples_228 : decode cL_samples 228 = .ok (.invokevirtual 52, 3) := by decide +kernel
theorem dL_samples_231 : decode cL_samples 231 = .ok (.goto 36, 3) := by decide +kernel
theorem dL_samples_234 : decode cL_samples 234 = .ok (.aload 6, 2) := by decide +kernel
theorem dL_samples_236 : decode cL_samples 236 = .ok (.iload 12, 2) := by decide +kernel
theorem dL_samples_238 : decode cL_samples 238 = .ok (.iaload, 1) := by decide +kernel
theorem dL_samples_239 : decode cL_samples 239 = .ok (.ifCond .ne 23, 3) := by decide +kernel
theorem dL_samples_242 : decode cL_samples 242 = .ok (.aload_n 1, 1) := by decide +kernel
theorem dL_samples_243 : decode cL_samples 243 = .ok (.iload 13, 2) := by decide +kernel
theorem dL_samples_245 : decode cL_samples 245 = .ok (.bipush 8, 2) := by decide +kernel
theorem dL_samples_247 : decode cL_samples 247 = .ok (.iadd, 1) := by decide +kernel
theorem dL_samples_248 : decode cL_samples 248 = .ok (.laload, 1) := by decide +kernel
theorem dL_samples_249 : decode cL_samples 249 = .ok (.lconst 1, 1) := by decide +kernel
theorem dL_samples_250 : decode cL_samples 250 = .ok (.lcmp, 1) := by decide +kernel
theorem dL_samples_251 : decode cL_samples 251 = .ok (.ifCond .ne 11, 3) := by decide +kernel
theorem dL_samples_254 : decode cL_samples 254 = .ok (.aload 9, 2) := by decide +kernel
theorem dL_samples_256 : decode cL_samples 256 = .ok (.iload 12, 2) := by decide +kernel
theorem dL_samples_258 : decode cL_samples 258 = .ok (.laload, 1) := by decide +kernel
theorem dL_samples_259 : decode cL_samples 259 = .ok (.goto 8, 3) := by decide +kernel
theorem dL_samples_262 : decode cL_samples 262 = .ok (.aload 10, 2) := by decide +kernel
theorem dL_samples_264 : decode cL_samples 264 = .ok (.iload 12, 2) := by decide +kernel
theorem dL_samples_266 : decode cL_samples 266 = .ok (.laload, 1) := by decide +kernel
theorem dL_samples_267 : decode cL_samples 267 = .ok (.lstore 21, 2) := by decide +kernel
theorem dL_samples_269 : decode cL_samples 269 = .ok (.aload 6, 2) := by decide +kernel
theorem dL_samples_271 : decode cL_samples 271 = .ok (.iload 12, 2) := by decide +kernel
theorem dL_samples_273 : decode cL_samples 273 = .ok (.iaload, 1) := by decide +kernel
theorem dL_samples_274 : decode cL_samples 274 = .ok (.iconst 1, 1) := by decide +kernel
theorem dL_samples_275 : decode cL_samples 275 = .ok (.if_icmp .eq 12, 3) := by decide +kernel
theorem dL_samples_278 : decode cL_samples 278 = .ok (.aload 6, 2) := by decide +kernel
theorem dL_samples_280 : decode cL_samples 280 = .ok (.iload 12, 2) := by decide +kernel
theorem dL_samples_282 : decode cL_samples 282 = .ok (.iaload, 1) := by decide +kernel
theorem dL_samples_283 : decode cL_samples 283 = .ok (.iconst 2, 1) := by decide +kernel
theorem dL_samples_284 : decode cL_samples 284 = .ok (.if_icmp .ne 12, 3) := by decide +kernel
theorem dL_samples_287 : decode cL_samples 287 = .ok (.iload 20, 2) := by decide +kernel
theorem dL_samples_289 : decode cL_samples 289 = .ok (.ifCond .ne 7, 3) := by decide +kernel
theorem dL_samples_292 : decode cL_samples 292 = .ok (.iconst 1, 1) := by decide +kernel
theorem dL_samples_293 : decode cL_samples 293 = .ok (.goto 4, 3) := by decide +kernel
theorem dL_samples_296 : decode cL_samples 296 = .ok (.iconst 0, 1) := by decide +kernel
theorem dL_samples_297 : decode cL_samples 297 = .ok (.istore 23, 2) := by decide +kernel
theorem dL_samples_299 : decode cL_samples 299 = .ok (.lload 18, 2) := by decide +kernel
theorem dL_samples_301 : decode cL_samples 301 = .ok (.lload 14, 2) := by decide +kernel
theorem dL_samples_303 : decode cL_samples 303 = .ok (.lcmp, 1) := by decide +kernel
theorem dL_samples_304 : decode cL_samples 304 = .ok (.ifCond .lt 91, 3) := by decide +kernel
theorem dL_samples_307 : decode cL_samples 307 = .ok (.lload 18, 2) := by decide +kernel
theorem dL_samples_309 : decode cL_samples 309 = .ok (.lload 16, 2) := by decide +kernel
theorem dL_samples_311 : decode cL_samples 311 = .ok (.lcmp, 1) := by decide +kernel
theorem dL_samples_312 : decode cL_samples 312 = .ok (.ifCond .gt 83, 3) := by decide +kernel
theorem dL_samples_315 : decode cL_samples 315 = .ok (.aload_n 0, 1) := by decide +kernel
theorem dL_samples_316 : decode cL_samples 316 = .ok (.iload 12, 2) := by decide +kernel
theorem dL_samples_318 : decode cL_samples 318 = .ok (.invokevirtual 55, 3) := by decide +kernel
theorem dL_samples_321 : decode cL_samples 321 = .ok (.iload 20, 2) := by decide +kernel
theorem dL_samples_323 : decode cL_samples 323 = .ok (.if_icmp .ne 72, 3) := by decide +kernel
theorem dL_samples_326 : decode cL_samples 326 = .ok (.aload_n 0, 1) := by decide +kernel
theorem dL_samples_327 : decode cL_samples 327 = .ok (.iload 12, 2) := by decide +kernel
theorem dL_samples_329 : decode cL_samples 329 = .ok (.invokevirtual 46, 3) := by decide +kernel
theorem dL_samples_332 : decode cL_samples 332 = .ok (.lload 21, 2) := by decide +kernel
theorem dL_samples_334 : decode cL_samples 334 = .ok (.lcmp, 1) := by decide +kernel
theorem dL_samples_335 : decode cL_samples 335 = .ok (.ifCond .ne 60, 3) := by decide +kernel
theorem dL_samples_338 : decode cL_samples 338 = .ok (.aload_n 0, 1) := by decide +kernel
theorem dL_samples_339 : decode cL_samples 339 = .ok (.iload 12, 2) := by decide +kernel
theorem dL_samples_341 : decode cL_samples 341 = .ok (.invokevirtual 36, 3) := by decide +kernel
theorem dL_samples_344 : decode cL_samples 344 = .ok (.aload 7, 2) := by decide +kernel
theorem dL_samples_346 : decode cL_samples 346 = .ok (.iload 12, 2) := by decide +kernel
theorem dL_samples_348 : decode cL_samples 348 = .ok (.iaload, 1) := by decide +kernel
theorem dL_samples_349 : decode cL_samples 349 = .ok (.isub, 1) := by decide +kernel
theorem dL_samples_350 : decode cL_samples 350 = .ok (.ifCond .lt 45, 3) := by decide +kernel
theorem dL_samples_353 : decode cL_samples 353 = .ok (.iload 23, 2) := by decide +kernel
theorem dL_samples_355 : decode cL_samples 355 = .ok (.ifCond .eq 22, 3) := by decide +kernel
theorem dL_samples_358 : decode cL_samples 358 = .ok (.aload_n 0, 1) := by decide +kernel
theorem dL_samples_359 : decode cL_samples 359 = .ok (.iload 12, 2) := by decide +kernel
theorem dL_samples_361 : decode cL_samples 361 = .ok (.invokevirtual 36, 3) := by decide +kernel
theorem dL_samples_364 : decode cL_samples 364 = .ok (.aload 7, 2) := by decide +kernel
theorem dL_samples_366 : decode cL_samples 366 = .ok (.iload 12, 2) := by decide +kernel
theorem dL_samples_368 : decode cL_samples 368 = .ok (.iaload, 1) := by decide +kernel
theorem dL_samples_369 : decode cL_samples 369 = .ok (.isub, 1) := by decide +kernel
theorem dL_samples_370 : decode cL_samples 370 = .ok (.iconst 1, 1) := by decide +kernel
theorem dL_samples_371 : decode cL_samples 371 = .ok (.if_icmp .gt 24, 3) := by decide +kernel
theorem dL_samples_374 : decode cL_samples 374 = .ok (.goto 17, 3) := by decide +kernel
theorem dL_samples_377 : decode cL_samples 377 = .ok (.aload_n 0, 1) := by decide +kernel
theorem dL_samples_378 : decode cL_samples 378 = .ok (.iload 12, 2) := by decide +kernel
theorem dL_samples_380 : decode cL_samples 380 = .ok (.invokevirtual 36, 3) := by decide +kernel
theorem dL_samples_383 : decode cL_samples 383 = .ok (.aload 7, 2) := by decide +kernel
theorem dL_samples_385 : decode cL_samples 385 = .ok (.iload 12, 2) := by decide +kernel
theorem dL_samples_387 : decode cL_samples 387 = .ok (.iaload, 1) := by decide +kernel
theorem dL_samples_388 : decode cL_samples 388 = .ok (.if_icmp .ne 7, 3) := by decide +kernel
theorem dL_samples_391 : decode cL_samples 391 = .ok (.iconst 1, 1) := by decide +kernel
theorem dL_samples_392 : decode cL_samples 392 = .ok (.goto 4, 3) := by decide +kernel
theorem dL_samples_395 : decode cL_samples 395 = .ok (.iconst 0, 1) := by decide +kernel
theorem dL_samples_396 : decode cL_samples 396 = .ok (.istore 11, 2) := by decide +kernel
theorem dL_samples_398 : decode cL_samples 398 = .ok (.iload 11, 2) := by decide +kernel
theorem dL_samples_400 : decode cL_samples 400 = .ok (.ifCond .eq 60, 3) := by decide +kernel
theorem dL_samples_403 : decode cL_samples 403 = .ok (.aload 6, 2) := by decide +kernel
theorem dL_samples_405 : decode cL_samples 405 = .ok (.iload 12, 2) := by decide +kernel
theorem dL_samples_407 : decode cL_samples 407 = .ok (.iaload, 1) := by decide +kernel
theorem dL_samples_408 : decode cL_samples 408 = .ok (.ifCond .ne 23, 3) := by decide +kernel
theorem dL_samples_411 : decode cL_samples 411 = .ok (.lload 18, 2) := by decide +kernel
theorem dL_samples_413 : decode cL_samples 413 = .ok (.aload_n 1, 1) := by decide +kernel
