theorem d_LW_law_237 : decode code 237 = .ok (.iaload, 1) := by decide +kernel
theorem d_LW_law_238 : decode code 238 = .ok (.invokevirtual 30, 3) := by decide +kernel
theorem d_LW_law_241 : decode code 241 = .ok (.if_icmp .eq 430, 3) := by decide +kernel
theorem d_LW_law_244 : decode code 244 = .ok (.iconst 0, 1) := by decide +kernel
theorem d_LW_law_245 : decode code 245 = .ok (.ireturn, 1) := by decide +kernel
theorem d_LW_law_246 : decode code 246 = .ok (.aload_n 1, 1) := by decide +kernel
theorem d_LW_law_247 : decode code 247 = .ok (.aload_n 0, 1) := by decide +kernel
theorem d_LW_law_248 : decode code 248 = .ok (.iload_n 3, 1) := by decide +kernel
theorem d_LW_law_249 : decode code 249 = .ok (.iconst 1, 1) := by decide +kernel
theorem d_LW_law_250 : decode code 250 = .ok (.iadd, 1) := by decide +kernel
theorem d_LW_law_251 : decode code 251 = .ok (.iaload, 1) := by decide +kernel
theorem d_LW_law_252 : decode code 252 = .ok (.aload_n 0, 1) := by decide +kernel
theorem d_LW_law_253 : decode code 253 = .ok (.iload_n 3, 1) := by decide +kernel
theorem d_LW_law_254 : decode code 254 = .ok (.iconst 2, 1) := by decide +kernel
theorem d_LW_law_255 : decode code 255 = .ok (.iadd, 1) := by decide +kernel
theorem d_LW_law_256 : decode code 256 = .ok (.iaload, 1) := by decide +kernel
theorem d_LW_law_257 : decode code 257 = .ok (.invokevirtual 31, 3) := by decide +kernel
theorem d_LW_law_260 : decode code 260 = .ok (.aload_n 2, 1) := by decide +kernel
theorem d_LW_law_261 : decode code 261 = .ok (.aload_n 0, 1) := by decide +kernel
theorem d_LW_law_262 : decode code 262 = .ok (.iload_n 3, 1) := by decide +kernel
theorem d_LW_law_263 : decode code 263 = .ok (.iconst 1, 1) := by decide +kernel
theorem d_LW_law_264 : decode code 264 = .ok (.iadd, 1) := by decide +kernel
theorem d_LW_law_265 : decode code 265 = .ok (.iaload, 1) := by decide +kernel
theorem d_LW_law_266 : decode code 266 = .ok (.aload_n 0, 1) := by decide +kernel
theorem d_LW_law_267 : decode code 267 = .ok (.iload_n 3, 1) := by decide +kernel
theorem d_LW_law_268 : decode code 268 = .ok (.iconst 2, 1) := by decide +kernel
theorem d_LW_law_269 : decode code 269 = .ok (.iadd, 1) := by decide +kernel
theorem d_LW_law_270 : decode code 270 = .ok (.iaload, 1) := by decide +kernel
theorem d_LW_law_271 : decode code 271 = .ok (.invokevirtual 34, 3) := by decide +kernel
theorem d_LW_law_274 : decode code 274 = .ok (.if_icmp .eq 397, 3) := by decide +kernel
theorem d_LW_law_277 : decode code 277 = .ok (.iconst 0, 1) := by decide +kernel
theorem d_LW_law_278 : decode code 278 = .ok (.ireturn, 1) := by decide +kernel
theorem d_LW_law_279 : decode code 279 = .ok (.aload_n 1, 1) := by decide +kernel
theorem d_LW_law_280 : decode code 280 = .ok (.aload_n 0, 1) := by decide +kernel
theorem d_LW_law_281 : decode code 281 = .ok (.iload_n 3, 1) := by decide +kernel
theorem d_LW_law_282 : decode code 282 = .ok (.iconst 1, 1) := by decide +kernel
theorem d_LW_law_283 : decode code 283 = .ok (.iadd, 1) := by decide +kernel
theorem d_LW_law_284 : decode code 284 = .ok (.iaload, 1) := by decide +kernel
theorem d_LW_law_285 : decode code 285 = .ok (.invokevirtual 35, 3) := by decide +kernel
theorem d_LW_law_288 : decode code 288 = .ok (.aload_n 2, 1) := by decide +kernel
theorem d_LW_law_289 : decode code 289 = .ok (.aload_n 0, 1) := by decide +kernel
theorem d_LW_law_290 : decode code 290 = .ok (.iload_n 3, 1) := by decide +kernel
theorem d_LW_law_291 : decode code 291 = .ok (.iconst 1, 1) := by decide +kernel
theorem d_LW_law_292 : decode code 292 = .ok (.iadd, 1) := by decide +kernel
theorem d_LW_law_293 : decode code 293 = .ok (.iaload, 1) := by decide +kernel
theorem d_LW_law_294 : decode code 294 = .ok (.invokevirtual 38, 3) := by decide +kernel
theorem d_LW_law_297 : decode code 297 = .ok (.if_icmp .eq 374, 3) := by decide +kernel
theorem d_LW_law_300 : decode code 300 = .ok (.iconst 0, 1) := by decide +kernel
theorem d_LW_law_301 : decode code 301 = .ok (.ireturn, 1) := by decide +kernel
theorem d_LW_law_302 : decode code 302 = .ok (.aload_n 1, 1) := by decide +kernel
theorem d_LW_law_303 : decode code 303 = .ok (.invokevirtual 39, 3) := by decide +kernel
theorem d_LW_law_306 : decode code 306 = .ok (.aload_n 2, 1) := by decide +kernel
theorem d_LW_law_307 : decode code 307 = .ok (.invokevirtual 43, 3) := by decide +kernel
theorem d_LW_law_310 : decode code 310 = .ok (.if_icmp .eq 361, 3) := by decide +kernel
theorem d_LW_law_313 : decode code 313 = .ok (.iconst 0, 1) := by decide +kernel
theorem d_LW_law_314 : decode code 314 = .ok (.ireturn, 1) := by decide +kernel
theorem d_LW_law_315 : decode code 315 = .ok (.aload_n 1, 1) := by decide +kernel
theorem d_LW_law_316 : decode code 316 = .ok (.invokevirtual 44, 3) := by decide +kernel
theorem d_LW_law_319 : decode code 319 = .ok (.aload_n 2, 1) := by decide +kernel
theorem d_LW_law_320 : decode code 320 = .ok (.invokevirtual 47, 3) := by decide +kernel
theorem d_LW_law_323 : decode code 323 = .ok (.if_icmp .eq 348, 3) := by decide +kernel
theorem d_LW_law_326 : decode code 326 = .ok (.iconst 0, 1) := by decide +kernel
theorem d_LW_law_327 : decode code 327 = .ok (.ireturn, 1) := by decide +kernel
theorem d_LW_law_328 : decode code 328 = .ok (.aload_n 1, 1) := by decide +kernel
theorem d_LW_law_329 : decode code 329 = .ok (.aload_n 0, 1) := by decide +kernel
theorem d_LW_law_330 : decode code 330 = .ok (.iload_n 3, 1) := by decide +kernel
theorem d_LW_law_331 : decode code 331 = .ok (.iconst 1, 1) := by decide +kernel
theorem d_LW_law_332 : decode code 332 = .ok (.iadd, 1) := by decide +kernel
theorem d_LW_law_333 : decode code 333 = .ok (.iaload, 1) := by decide +kernel
theorem d_LW_law_334 : decode code 334 = .ok (.invokevirtual 48, 3) := by decide +kernel
theorem d_LW_law_337 : decode code 337 = .ok (.aload_n 2, 1) := by decide +kernel
theorem d_LW_law_338 : decode code 338 = .ok (.aload_n 0, 1) := by decide +kernel
theorem d_LW_law_339 : decode code 339 = .ok (.iload_n 3, 1) := by decide +kernel
theorem d_LW_law_340 : decode code 340 = .ok (.iconst 1, 1) := by decide +kernel
theorem d_LW_law_341 : decode code 341 = .ok (.iadd, 1) := by decide +kernel
theorem d_LW_law_342 : decode code 342 = .ok (.iaload, 1) := by decide +kernel
theorem d_LW_law_343 : decode code 343 = .ok (.invokevirtual 52, 3) := by decide +kernel
theorem d_LW_law_346 : decode code 346 = .ok (.if_icmp .eq 325, 3) := by decide +kernel
theorem d_LW_law_349 : decode code 349 = .ok (.iconst 0, 1) := by decide +kernel
theorem d_LW_law_350 : decode code 350 = .ok (.ireturn, 1) := by decide +kernel
theorem d_LW_law_351 : decode code 351 = .ok (.aload_n 1, 1) := by decide +kernel
theorem d_LW_law_352 : decode code 352 = .ok (.aload_n 0, 1) := by decide +kernel
theorem d_LW_law_353 : decode code 353 = .ok (.iload_n 3, 1) := by decide +kernel
theorem d_LW_law_354 : decode code 354 = .ok (.iconst 1, 1) := by decide +kernel
theorem d_LW_law_355 : decode code 355 = .ok (.iadd, 1) := by decide +kernel
theorem d_LW_law_356 : decode code 356 = .ok (.iaload, 1) := by decide +kernel
theorem d_LW_law_357 : decode code 357 = .ok (.aload_n 0, 1) := by decide +kernel
theorem d_LW_law_358 : decode code 358 = .ok (.iload_n 3, 1) := by decide +kernel
theorem d_LW_law_359 : decode code 359 = .ok (.iconst 2, 1) := by decide +kernel
theorem d_LW_law_360 : decode code 360 = .ok (.iadd, 1) := by decide +kernel
theorem d_LW_law_361 : decode code 361 = .ok (.iaload, 1) := by decide +kernel
theorem d_LW_law_362 : decode code 362 = .ok (.invokevirtual 53, 3) := by decide +kernel
theorem d_LW_law_365 : decode code 365 = .ok (.aload_n 2, 1) := by decide +kernel
theorem d_LW_law_366 : decode code 366 = .ok (.aload_n 0, 1) := by decide +kernel
theorem d_LW_law_367 : decode code 367 = .ok (.iload_n 3, 1) := by decide +kernel
theorem d_LW_law_368 : decode code 368 = .ok (.iconst 1, 1) := by decide +kernel
theorem d_LW_law_369 : decode code 369 = .ok (.iadd, 1) := by decide +kernel
theorem d_LW_law_370 : decode code 370 = .ok (.iaload, 1) := by decide +kernel
theorem d_LW_law_371 : decode code 371 = .ok (.aload_n 0, 1) := by decide +kernel
theorem d_LW_law_372 : decode code 372 = .ok (.iload_n 3, 1) := by decide +kernel
theorem d_LW_law_373 : decode code 373 = .ok (.iconst 2, 1) := by decide +kernel
theorem d_LW_law_374 : decode code 374 = .ok (.iadd, 1) := by decide +kernel
theorem d_LW_law_375 : decode code 375 = .ok (.iaload, 1) := by decide +kernel
theorem d_LW_law_376 : decode code 376 = .ok (.invokevirtual 57, 3) := by decide +kernel
theorem d_LW_law_379 : decode code 379 = .ok (.if_icmp .eq 292, 3) := by decide +kernel
theorem d_LW_law_382 : decode code 382 = .ok (.iconst 0, 1) := by decide +kernel
theorem d_LW_law_383 : decode code 383 = .ok (.ireturn, 1) := by decide +kernel
theorem d_LW_law_384 : decode code 384 = .ok (.aload_n 1, 1) := by decide +kernel
theorem d_LW_law_385 : decode code 385 = .ok (.aload_n 0, 1) := by decide +kernel
theorem d_LW_law_386 : decode code 386 = .ok (.iload_n 3, 1) := by decide +kernel
theorem d_LW_law_387 : decode code 387 = .ok (.iconst 1, 1) := by decide +kernel
theorem d_LW_law_388 : decode code 388 = .ok (.iadd, 1) := by decide +kernel
theorem d_LW_law_389 : decode code 389 = .ok (.iaload, 1) := by decide +kernel
theorem d_LW_law_390 : decode code 390 = .ok (.aload_n 0, 1) := by decide +kernel
theorem d_LW_law_391 : decode code 391 = .ok (.iload_n 3, 1) := by decide +kernel
