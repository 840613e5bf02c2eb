/-! the law's instructions, 0 -/
theorem dL_law_0 : decode code 0 = .ok (.new 7, 3) := by decide +kernel
theorem dL_law_3 : decode code 3 = .ok (.dup, 1) := by decide +kernel
theorem dL_law_4 : decode code 4 = .ok (.invokespecial 9, 3) := by decide +kernel
theorem dL_law_7 : decode code 7 = .ok (.astore_n 1, 1) := by decide +kernel
theorem dL_law_8 : decode code 8 = .ok (.new 10, 3) := by decide +kernel
theorem dL_law_11 : decode code 11 = .ok (.dup, 1) := by decide +kernel
theorem dL_law_12 : decode code 12 = .ok (.invokespecial 12, 3) := by decide +kernel
theorem dL_law_15 : decode code 15 = .ok (.astore_n 2, 1) := by decide +kernel
theorem dL_law_16 : decode code 16 = .ok (.iconst 0, 1) := by decide +kernel
theorem dL_law_17 : decode code 17 = .ok (.istore_n 3, 1) := by decide +kernel
theorem dL_law_18 : decode code 18 = .ok (.iload_n 3, 1) := by decide +kernel
theorem dL_law_19 : decode code 19 = .ok (.aload_n 0, 1) := by decide +kernel
theorem dL_law_20 : decode code 20 = .ok (.arraylength, 1) := by decide +kernel
theorem dL_law_21 : decode code 21 = .ok (.iconst 4, 1) := by decide +kernel
theorem dL_law_22 : decode code 22 = .ok (.isub, 1) := by decide +kernel
theorem dL_law_23 : decode code 23 = .ok (.if_icmp .gt 1105, 3) := by decide +kernel
theorem dL_law_26 : decode code 26 = .ok (.aload_n 0, 1) := by decide +kernel
theorem dL_law_27 : decode code 27 = .ok (.iload_n 3, 1) := by decide +kernel
theorem dL_law_28 : decode code 28 = .ok (.iaload, 1) := by decide +kernel
theorem dL_law_29 : decode code 29 = .ok (.bipush 31, 2) := by decide +kernel
theorem dL_law_31 : decode code 31 = .ok (.iand, 1) := by decide +kernel
theorem dL_law_32 : decode code 32 = .ok (.tableswitch 1090 0 31 #[144, 207, 220, 233, 256, 289, 322, 355, 398, 431, 464, 497, 530, 573, 596, 619, 642, 685, 698, 721, 754, 787, 830, 853, 896, 929, 972, 995, 1008, 1021, 1044, 1067], 144) := by decide +kernel
theorem dL_law_176 : decode code 176 = .ok (.aload_n 1, 1) := by decide +kernel
theorem dL_law_177 : decode code 177 = .ok (.aload_n 0, 1) := by decide +kernel
theorem dL_law_178 : decode code 178 = .ok (.iload_n 3, 1) := by decide +kernel
theorem dL_law_179 : decode code 179 = .ok (.iconst 1, 1) := by decide +kernel
theorem dL_law_180 : decode code 180 = .ok (.iadd, 1) := by decide +kernel
theorem dL_law_181 : decode code 181 = .ok (.iaload, 1) := by decide +kernel
theorem dL_law_182 : decode code 182 = .ok (.aload_n 0, 1) := by decide +kernel
theorem dL_law_183 : decode code 183 = .ok (.iload_n 3, 1) := by decide +kernel
theorem dL_law_184 : decode code 184 = .ok (.iconst 2, 1) := by decide +kernel
theorem dL_law_185 : decode code 185 = .ok (.iadd, 1) := by decide +kernel
theorem dL_law_186 : decode code 186 = .ok (.iaload, 1) := by decide +kernel
theorem dL_law_187 : decode code 187 = .ok (.i2l, 1) := by decide +kernel
theorem dL_law_188 : decode code 188 = .ok (.bipush 32, 2) := by decide +kernel
theorem dL_law_190 : decode code 190 = .ok (.lshl, 1) := by decide +kernel
theorem dL_law_191 : decode code 191 = .ok (.aload_n 0, 1) := by decide +kernel
theorem dL_law_192 : decode code 192 = .ok (.iload_n 3, 1) := by decide +kernel
theorem dL_law_193 : decode code 193 = .ok (.iconst 3, 1) := by decide +kernel
theorem dL_law_194 : decode code 194 = .ok (.iadd, 1) := by decide +kernel
theorem dL_law_195 : decode code 195 = .ok (.iaload, 1) := by decide +kernel
theorem dL_law_196 : decode code 196 = .ok (.i2l, 1) := by decide +kernel
theorem dL_law_197 : decode code 197 = .ok (.ldc2_w 13, 3) := by decide +kernel
theorem dL_law_200 : decode code 200 = .ok (.land, 1) := by decide +kernel
theorem dL_law_201 : decode code 201 = .ok (.lor, 1) := by decide +kernel
theorem dL_law_202 : decode code 202 = .ok (.invokevirtual 15, 3) := by decide +kernel
theorem dL_law_205 : decode code 205 = .ok (.aload_n 2, 1) := by decide +kernel
theorem dL_law_206 : decode code 206 = .ok (.aload_n 0, 1) := by decide +kernel
theorem dL_law_207 : decode code 207 = .ok (.iload_n 3, 1) := by decide +kernel
theorem dL_law_208 : decode code 208 = .ok (.iconst 1, 1) := by decide +kernel
theorem dL_law_209 : decode code 209 = .ok (.iadd, 1) := by decide +kernel
theorem dL_law_210 : decode code 210 = .ok (.iaload, 1) := by decide +kernel
theorem dL_law_211 : decode code 211 = .ok (.aload_n 0, 1) := by decide +kernel
theorem dL_law_212 : decode code 212 = .ok (.iload_n 3, 1) := by decide +kernel
theorem dL_law_213 : decode code 213 = .ok (.iconst 2, 1) := by decide +kernel
theorem dL_law_214 : decode code 214 = .ok (.iadd, 1) := by decide +kernel
theorem dL_law_215 : decode code 215 = .ok (.iaload, 1) := by decide +kernel
theorem dL_law_216 : decode code 216 = .ok (.i2l, 1) := by decide +kernel
theorem dL_law_217 : decode code 217 = .ok (.bipush 32, 2) := by decide +kernel
theorem dL_law_219 : decode code 219 = .ok (.lshl, 1) := by decide +kernel
theorem dL_law_220 : decode code 220 = .ok (.aload_n 0, 1) := by decide +kernel
theorem dL_law_221 : decode code 221 = .ok (.iload_n 3, 1) := by decide +kernel
theorem dL_law_222 : decode code 222 = .ok (.iconst 3, 1) := by decide +kernel
theorem dL_law_223 : decode code 223 = .ok (.iadd, 1) := by decide +kernel
theorem dL_law_224 : decode code 224 = .ok (.iaload, 1) := by decide +kernel
theorem dL_law_225 : decode code 225 = .ok (.i2l, 1) := by decide +kernel
theorem dL_law_226 : decode code 226 = .ok (.ldc2_w 13, 3) := by decide +kernel
theorem dL_law_229 : decode code 229 = .ok (.land, 1) := by decide +kernel
theorem dL_law_230 : decode code 230 = .ok (.lor, 1) := by decide +kernel
theorem dL_law_231 : decode code 231 = .ok (.invokevirtual 19, 3) := by decide +kernel
theorem dL_law_234 : decode code 234 = .ok (.if_icmp .eq 888, 3) := by decide +kernel
theorem dL_law_237 : decode code 237 = .ok (.iconst 0, 1) := by decide +kernel
theorem dL_law_238 : decode code 238 = .ok (.ireturn, 1) := by decide +kernel
theorem dL_law_239 : decode code 239 = .ok (.aload_n 1, 1) := by decide +kernel
theorem dL_law_240 : decode code 240 = .ok (.invokevirtual 20, 3) := by decide +kernel
theorem dL_law_243 : decode code 243 = .ok (.aload_n 2, 1) := by decide +kernel
theorem dL_law_244 : decode code 244 = .ok (.invokevirtual 24, 3) := by decide +kernel
theorem dL_law_247 : decode code 247 = .ok (.if_icmp .eq 875, 3) := by decide +kernel
theorem dL_law_250 : decode code 250 = .ok (.iconst 0, 1) := by decide +kernel
theorem dL_law_251 : decode code 251 = .ok (.ireturn, 1) := by decide +kernel
theorem dL_law_252 : decode code 252 = .ok (.aload_n 1, 1) := by decide +kernel
theorem dL_law_253 : decode code 253 = .ok (.invokevirtual 25, 3) := by decide +kernel
theorem dL_law_256 : decode code 256 = .ok (.aload_n 2, 1) := by decide +kernel
theorem dL_law_257 : decode code 257 = .ok (.invokevirtual 28, 3) := by decide +kernel
theorem dL_law_260 : decode code 260 = .ok (.if_icmp .eq 862, 3) := by decide +kernel
theorem dL_law_263 : decode code 263 = .ok (.iconst 0, 1) := by decide +kernel
theorem dL_law_264 : decode code 264 = .ok (.ireturn, 1) := by decide +kernel
theorem dL_law_265 : decode code 265 = .ok (.aload_n 1, 1) := by decide +kernel
theorem dL_law_266 : decode code 266 = .ok (.aload_n 0, 1) := by decide +kernel
theorem dL_law_267 : decode code 267 = .ok (.iload_n 3, 1) := by decide +kernel
theorem dL_law_268 : decode code 268 = .ok (.iconst 1, 1) := by decide +kernel
theorem dL_law_269 : decode code 269 = .ok (.iadd, 1) := by decide +kernel
theorem dL_law_270 : decode code 270 = .ok (.iaload, 1) := by decide +kernel
theorem dL_law_271 : decode code 271 = .ok (.invokevirtual 29, 3) := by decide +kernel
theorem dL_law_274 : decode code 274 = .ok (.aload_n 2, 1) := by decide +kernel
theorem dL_law_275 : decode code 275 = .ok (.aload_n 0, 1) := by decide +kernel
theorem dL_law_276 : decode code 276 = .ok (.iload_n 3, 1) := by decide +kernel
theorem dL_law_277 : decode code 277 = .ok (.iconst 1, 1) := by decide +kernel
theorem dL_law_278 : decode code 278 = .ok (.iadd, 1) := by decide +kernel
theorem dL_law_279 : decode code 279 = .ok (.iaload, 1) := by decide +kernel
theorem dL_law_280 : decode code 280 = .ok (.invokevirtual 33, 3) := by decide +kernel
theorem dL_law_283 : decode code 283 = .ok (.if_icmp .eq 839, 3) := by decide +kernel
theorem dL_law_286 : decode code 286 = .ok (.iconst 0, 1) := by decide +kernel
theorem dL_law_287 : decode code 287 = .ok (.ireturn, 1) := by decide +kernel
theorem dL_law_288 : decode code 288 = .ok (.aload_n 1, 1) := by decide +kernel
theorem dL_law_289 : decode code 289 = .ok (.aload_n 0, 1) := by decide +kernel
theorem dL_law_290 : decode code 290 = .ok (.iload_n 3, 1) := by decide +kernel
theorem dL_law_291 : decode code 291 = .ok (.iconst 1, 1) := by decide +kernel
theorem dL_law_292 : decode code 292 = .ok (.iadd, 1) := by decide +kernel
theorem dL_law_293 : decode code 293 = .ok (.iaload, 1) := by decide +kernel
theorem dL_law_294 : decode code 294 = .ok (.aload_n 0, 1) := by decide +kernel
theorem dL_law_295 : decode code 295 = .ok (.iload_n 3, 1) := by decide +kernel
theorem dL_law_296 : decode code 296 = .ok (.iconst 2, 1) := by decide +kernel
theorem dL_law_297 : decode code 297 = .ok (.iadd, 1) := by decide +kernel
theorem dL_law_298 : decode code 298 = .ok (.iaload, 1) := by decide +kernel
theorem dL_law_299 : decode code 299 = .ok (.invokevirtual 34, 3) := by decide +kernel
theorem dL_law_302 : decode code 302 = .ok (.aload_n 2, 1) := by decide +kernel
theorem dL_law_303 : decode code 303 = .ok (.aload_n 0, 1) := by decide +kernel
theorem dL_law_304 : decode code 304 = .ok (.iload_n 3, 1) := by decide +kernel
theorem dL_law_305 : decode code 305 = .ok (.iconst 1, 1) := by decide +kernel
theorem dL_law_306 : decode code 306 = .ok (.iadd, 1) := by decide +kernel
theorem dL_law_307 : decode code 307 = .ok (.iaload, 1) := by decide +kernel
theorem dL_law_308 : decode code 308 = .ok (.aload_n 0, 1) := by decide +kernel
theorem dL_law_309 : decode code 309 = .ok (.iload_n 3, 1) := by decide +kernel
theorem dL_law_310 : decode code 310 = .ok (.iconst 2, 1) := by decide +kernel
theorem dL_law_311 : decode code 311 = .ok (.iadd, 1) := by decide +kernel
theorem dL_law_312 : decode code 312 = .ok (.iaload, 1) := by decide +kernel
theorem dL_law_313 : decode code 313 = .ok (.invokevirtual 38, 3) := by decide +kernel
theorem dL_law_316 : decode code 316 = .ok (.if_icmp .eq 806, 3) := by decide +kernel
theorem dL_law_319 : decode code 319 = .ok (.iconst 0, 1) := by decide +kernel
theorem dL_law_320 : decode code 320 = .ok (.ireturn, 1) := by decide +kernel
theorem dL_law_321 : decode code 321 = .ok (.aload_n 1, 1) := by decide +kernel
theorem dL_law_322 : decode code 322 = .ok (.aload_n 0, 1) := by decide +kernel
theorem dL_law_323 : decode code 323 = .ok (.iload_n 3, 1) := by decide +kernel
theorem dL_law_324 : decode code 324 = .ok (.iconst 1, 1) := by decide +kernel
theorem dL_law_325 : decode code 325 = .ok (.iadd, 1) := by decide +kernel
theorem dL_law_326 : decode code 326 = .ok (.iaload, 1) := by decide +kernel
theorem dL_law_327 : decode code 327 = .ok (.aload_n 0, 1) := by decide +kernel
theorem dL_law_328 : decode code 328 = .ok (.iload_n 3, 1) := by decide +kernel
theorem dL_law_329 : decode code 329 = .ok (.iconst 2, 1) := by decide +kernel
theorem dL_law_330 : decode code 330 = .ok (.iadd, 1) := by decide +kernel
theorem dL_law_331 : decode code 331 = .ok (.iaload, 1) := by decide +kernel
theorem dL_law_332 : decode code 332 = .ok (.invokevirtual 39, 3) := by decide +kernel
theorem dL_law_335 : decode code 335 = .ok (.aload_n 2, 1) := by decide +kernel
theorem dL_law_336 : decode code 336 = .ok (.aload_n 0, 1) := by decide +kernel
theorem dL_law_337 : decode code 337 = .ok (.iload_n 3, 1) := by decide +kernel
theorem dL_law_338 : decode code 338 = .ok (.iconst 1, 1) := by decide +kernel
theorem dL_law_339 : decode code 339 = .ok (.iadd, 1) := by decide +kernel
theorem dL_law_340 : decode code 340 = .ok (.iaload, 1) := by decide +kernel
theorem dL_law_341 : decode code 341 = .ok (.aload_n 0, 1) := by decide +kernel
theorem dL_law_342 : decode code 342 = .ok (.iload_n 3, 1) := by decide +kernel
theorem dL_law_343 : decode code 343 = .ok (.iconst 2, 1) := by decide +kernel
theorem dL_law_344 : decode code 344 = .ok (.iadd, 1) := by decide +kernel
theorem dL_law_345 : decode code 345 = .ok (.iaload, 1) := by decide +kernel
theorem dL_law_346 : decode code 346 = .ok (.invokevirtual 42, 3) := by decide +kernel
theorem dL_law_349 : decode code 349 = .ok (.if_icmp .eq 773, 3) := by decide +kernel
theorem dL_law_352 : decode code 352 = .ok (.iconst 0, 1) := by decide +kernel
theorem dL_law_353 : decode code 353 = .ok (.ireturn, 1) := by decide +kernel
theorem dL_law_354 : decode code 354 = .ok (.aload_n 1, 1) := by decide +kernel
theorem dL_law_355 : decode code 355 = .ok (.aload_n 0, 1) := by decide +kernel
theorem dL_law_356 : decode code 356 = .ok (.iload_n 3, 1) := by decide +kernel
theorem dL_law_357 : decode code 357 = .ok (.iconst 1, 1) := by decide +kernel
theorem dL_law_358 : decode code 358 = .ok (.iadd, 1) := by decide +kernel
theorem dL_law_359 : decode code 359 = .ok (.iaload, 1) := by decide +kernel
theorem dL_law_360 : decode code 360 = .ok (.aload_n 0, 1) := by decide +kernel
theorem dL_law_361 : decode code 361 = .ok (.iload_n 3, 1) := by decide +kernel
theorem dL_law_362 : decode code 362 = .ok (.iconst 2, 1) := by decide +kernel
theorem dL_law_363 : decode code 363 = .ok (.iadd, 1) := by decide +kernel
theorem dL_law_364 : decode code 364 = .ok (.iaload, 1) := by decide +kernel
theorem dL_law_365 : decode code 365 = .ok (.invokevirtual 43, 3) := by decide +kernel
theorem dL_law_368 : decode code 368 = .ok (.aload_n 2, 1) := by decide +kernel
theorem dL_law_369 : decode code 369 = .ok (.aload_n 0, 1) := by decide +kernel
theorem dL_law_370 : decode code 370 = .ok (.iload_n 3, 1) := by decide +kernel
theorem dL_law_371 : decode code 371 = .ok (.iconst 1, 1) := by decide +kernel
theorem dL_law_372 : decode code 372 = .ok (.iadd, 1) := by decide +kernel
theorem dL_law_373 : decode code 373 = .ok (.iaload, 1) := by decide +kernel
theorem dL_law_374 : decode code 374 = .ok (.aload_n 0, 1) := by decide +kernel
theorem dL_law_375 : decode code 375 = .ok (.iload_n 3, 1) := by decide +kernel
theorem dL_law_376 : decode code 376 = .ok (.iconst 2, 1) := by decide +kernel
theorem dL_law_377 : decode code 377 = .ok (.iadd, 1) := by decide +kernel
theorem dL_law_378 : decode code 378 = .ok (.iaload, 1) := by decide +kernel
theorem dL_law_379 : decode code 379 = .ok (.invokevirtual 46, 3) := by decide +kernel
theorem dL_law_382 : decode code 382 = .ok (.if_icmp .eq 740, 3) := by decide +kernel
theorem dL_law_385 : decode code 385 = .ok (.iconst 0, 1) := by decide +kernel
theorem dL_law_386 : decode code 386 = .ok (.ireturn, 1) := by decide +kernel
theorem dL_law_387 : decode code 387 = .ok (.aload_n 1, 1) := by decide +kernel
theorem dL_law_388 : decode code 388 = .ok (.aload_n 0, 1) := by decide +kernel
theorem dL_law_389 : decode code 389 = .ok (.iload_n 3, 1) := by decide +kernel
theorem dL_law_390 : decode code 390 = .ok (.iconst 1, 1) := by decide +kernel
theorem dL_law_391 : decode code 391 = .ok (.iadd, 1) := by decide +kernel
theorem dL_law_392 : decode code 392 = .ok (.iaload, 1) := by decide +kernel
theorem dL_law_393 : decode code 393 = .ok (.aload_n 0, 1) := by decide +kernel
theorem dL_law_394 : decode code 394 = .ok (.iload_n 3, 1) := by decide +kernel
theorem dL_law_395 : decode code 395 = .ok (.iconst 2, 1) := by decide +kernel
theorem dL_law_396 : decode code 396 = .ok (.iadd, 1) := by decide +kernel
theorem dL_law_397 : decode code 397 = .ok (.iaload, 1) := by decide +kernel
theorem dL_law_398 : decode code 398 = .ok (.aload_n 0, 1) := by decide +kernel
theorem dL_law_399 : decode code 399 = .ok (.iload_n 3, 1) := by decide +kernel
theorem dL_law_400 : decode code 400 = .ok (.iconst 3, 1) := by decide +kernel
theorem dL_law_401 : decode code 401 = .ok (.iadd, 1) := by decide +kernel
