theorem d_L_240 : decode code 240 = .ok (.aload_n 1, 1) := by decide +kernel
theorem d_L_241 : decode code 241 = .ok (.aload_n 0, 1) := by decide +kernel
theorem d_L_242 : decode code 242 = .ok (.iload_n 3, 1) := by decide +kernel
theorem d_L_243 : decode code 243 = .ok (.iconst 1, 1) := by decide +kernel
theorem d_L_244 : decode code 244 = .ok (.iadd, 1) := by decide +kernel
theorem d_L_245 : decode code 245 = .ok (.iaload, 1) := by decide +kernel
theorem d_L_246 : decode code 246 = .ok (.invokevirtual 31, 3) := by decide +kernel
theorem d_L_249 : decode code 249 = .ok (.aload_n 2, 1) := by decide +kernel
theorem d_L_250 : decode code 250 = .ok (.aload_n 0, 1) := by decide +kernel
theorem d_L_251 : decode code 251 = .ok (.iload_n 3, 1) := by decide +kernel
theorem d_L_252 : decode code 252 = .ok (.iconst 1, 1) := by decide +kernel
theorem d_L_253 : decode code 253 = .ok (.iadd, 1) := by decide +kernel
theorem d_L_254 : decode code 254 = .ok (.iaload, 1) := by decide +kernel
theorem d_L_255 : decode code 255 = .ok (.invokevirtual 34, 3) := by decide +kernel
theorem d_L_258 : decode code 258 = .ok (.if_icmp .eq 401, 3) := by decide +kernel
theorem d_L_261 : decode code 261 = .ok (.iconst 0, 1) := by decide +kernel
theorem d_L_262 : decode code 262 = .ok (.ireturn, 1) := by decide +kernel
theorem d_L_263 : decode code 263 = .ok (.aload_n 1, 1) := by decide +kernel
theorem d_L_264 : decode code 264 = .ok (.aload_n 0, 1) := by decide +kernel
theorem d_L_265 : decode code 265 = .ok (.iload_n 3, 1) := by decide +kernel
theorem d_L_266 : decode code 266 = .ok (.iconst 1, 1) := by decide +kernel
theorem d_L_267 : decode code 267 = .ok (.iadd, 1) := by decide +kernel
theorem d_L_268 : decode code 268 = .ok (.iaload, 1) := by decide +kernel
theorem d_L_269 : decode code 269 = .ok (.invokevirtual 35, 3) := by decide +kernel
theorem d_L_272 : decode code 272 = .ok (.aload_n 2, 1) := by decide +kernel
theorem d_L_273 : decode code 273 = .ok (.aload_n 0, 1) := by decide +kernel
theorem d_L_274 : decode code 274 = .ok (.iload_n 3, 1) := by decide +kernel
theorem d_L_275 : decode code 275 = .ok (.iconst 1, 1) := by decide +kernel
theorem d_L_276 : decode code 276 = .ok (.iadd, 1) := by decide +kernel
theorem d_L_277 : decode code 277 = .ok (.iaload, 1) := by decide +kernel
theorem d_L_278 : decode code 278 = .ok (.invokevirtual 38, 3) := by decide +kernel
theorem d_L_281 : decode code 281 = .ok (.if_icmp .eq 378, 3) := by decide +kernel
theorem d_L_284 : decode code 284 = .ok (.iconst 0, 1) := by decide +kernel
theorem d_L_285 : decode code 285 = .ok (.ireturn, 1) := by decide +kernel
theorem d_L_286 : decode code 286 = .ok (.aload_n 1, 1) := by decide +kernel
theorem d_L_287 : decode code 287 = .ok (.aload_n 0, 1) := by decide +kernel
theorem d_L_288 : decode code 288 = .ok (.iload_n 3, 1) := by decide +kernel
theorem d_L_289 : decode code 289 = .ok (.iconst 1, 1) := by decide +kernel
theorem d_L_290 : decode code 290 = .ok (.iadd, 1) := by decide +kernel
theorem d_L_291 : decode code 291 = .ok (.iaload, 1) := by decide +kernel
theorem d_L_292 : decode code 292 = .ok (.aload_n 0, 1) := by decide +kernel
theorem d_L_293 : decode code 293 = .ok (.iload_n 3, 1) := by decide +kernel
theorem d_L_294 : decode code 294 = .ok (.iconst 2, 1) := by decide +kernel
theorem d_L_295 : decode code 295 = .ok (.iadd, 1) := by decide +kernel
theorem d_L_296 : decode code 296 = .ok (.iaload, 1) := by decide +kernel
theorem d_L_297 : decode code 297 = .ok (.invokevirtual 39, 3) := by decide +kernel
theorem d_L_300 : decode code 300 = .ok (.aload_n 2, 1) := by decide +kernel
theorem d_L_301 : decode code 301 = .ok (.aload_n 0, 1) := by decide +kernel
theorem d_L_302 : decode code 302 = .ok (.iload_n 3, 1) := by decide +kernel
theorem d_L_303 : decode code 303 = .ok (.iconst 1, 1) := by decide +kernel
theorem d_L_304 : decode code 304 = .ok (.iadd, 1) := by decide +kernel
theorem d_L_305 : decode code 305 = .ok (.iaload, 1) := by decide +kernel
theorem d_L_306 : decode code 306 = .ok (.aload_n 0, 1) := by decide +kernel
theorem d_L_307 : decode code 307 = .ok (.iload_n 3, 1) := by decide +kernel
theorem d_L_308 : decode code 308 = .ok (.iconst 2, 1) := by decide +kernel
theorem d_L_309 : decode code 309 = .ok (.iadd, 1) := by decide +kernel
theorem d_L_310 : decode code 310 = .ok (.iaload, 1) := by decide +kernel
theorem d_L_311 : decode code 311 = .ok (.invokevirtual 42, 3) := by decide +kernel
theorem d_L_314 : decode code 314 = .ok (.if_icmp .eq 345, 3) := by decide +kernel
theorem d_L_317 : decode code 317 = .ok (.iconst 0, 1) := by decide +kernel
theorem d_L_318 : decode code 318 = .ok (.ireturn, 1) := by decide +kernel
theorem d_L_319 : decode code 319 = .ok (.aload_n 1, 1) := by decide +kernel
theorem d_L_320 : decode code 320 = .ok (.invokevirtual 43, 3) := by decide +kernel
theorem d_L_323 : decode code 323 = .ok (.aload_n 2, 1) := by decide +kernel
theorem d_L_324 : decode code 324 = .ok (.invokevirtual 47, 3) := by decide +kernel
theorem d_L_327 : decode code 327 = .ok (.if_icmp .eq 332, 3) := by decide +kernel
theorem d_L_330 : decode code 330 = .ok (.iconst 0, 1) := by decide +kernel
theorem d_L_331 : decode code 331 = .ok (.ireturn, 1) := by decide +kernel
theorem d_L_332 : decode code 332 = .ok (.aload_n 1, 1) := by decide +kernel
theorem d_L_333 : decode code 333 = .ok (.aload_n 0, 1) := by decide +kernel
theorem d_L_334 : decode code 334 = .ok (.iload_n 3, 1) := by decide +kernel
theorem d_L_335 : decode code 335 = .ok (.iconst 1, 1) := by decide +kernel
theorem d_L_336 : decode code 336 = .ok (.iadd, 1) := by decide +kernel
theorem d_L_337 : decode code 337 = .ok (.iaload, 1) := by decide +kernel
theorem d_L_338 : decode code 338 = .ok (.invokevirtual 48, 3) := by decide +kernel
theorem d_L_341 : decode code 341 = .ok (.aload_n 2, 1) := by decide +kernel
theorem d_L_342 : decode code 342 = .ok (.aload_n 0, 1) := by decide +kernel
theorem d_L_343 : decode code 343 = .ok (.iload_n 3, 1) := by decide +kernel
theorem d_L_344 : decode code 344 = .ok (.iconst 1, 1) := by decide +kernel
theorem d_L_345 : decode code 345 = .ok (.iadd, 1) := by decide +kernel
theorem d_L_346 : decode code 346 = .ok (.iaload, 1) := by decide +kernel
theorem d_L_347 : decode code 347 = .ok (.invokevirtual 51, 3) := by decide +kernel
theorem d_L_350 : decode code 350 = .ok (.if_icmp .eq 309, 3) := by decide +kernel
theorem d_L_353 : decode code 353 = .ok (.iconst 0, 1) := by decide +kernel
theorem d_L_354 : decode code 354 = .ok (.ireturn, 1) := by decide +kernel
theorem d_L_355 : decode code 355 = .ok (.aload_n 1, 1) := by decide +kernel
theorem d_L_356 : decode code 356 = .ok (.aload_n 0, 1) := by decide +kernel
theorem d_L_357 : decode code 357 = .ok (.iload_n 3, 1) := by decide +kernel
theorem d_L_358 : decode code 358 = .ok (.iconst 1, 1) := by decide +kernel
theorem d_L_359 : decode code 359 = .ok (.iadd, 1) := by decide +kernel
theorem d_L_360 : decode code 360 = .ok (.iaload, 1) := by decide +kernel
theorem d_L_361 : decode code 361 = .ok (.invokevirtual 52, 3) := by decide +kernel
theorem d_L_364 : decode code 364 = .ok (.aload_n 2, 1) := by decide +kernel
theorem d_L_365 : decode code 365 = .ok (.aload_n 0, 1) := by decide +kernel
theorem d_L_366 : decode code 366 = .ok (.iload_n 3, 1) := by decide +kernel
theorem d_L_367 : decode code 367 = .ok (.iconst 1, 1) := by decide +kernel
theorem d_L_368 : decode code 368 = .ok (.iadd, 1) := by decide +kernel
theorem d_L_369 : decode code 369 = .ok (.iaload, 1) := by decide +kernel
theorem d_L_370 : decode code 370 = .ok (.invokevirtual 56, 3) := by decide +kernel
theorem d_L_373 : decode code 373 = .ok (.if_icmp .eq 286, 3) := by decide +kernel
theorem d_L_376 : decode code 376 = .ok (.iconst 0, 1) := by decide +kernel
theorem d_L_377 : decode code 377 = .ok (.ireturn, 1) := by decide +kernel
theorem d_L_378 : decode code 378 = .ok (.aload_n 1, 1) := by decide +kernel
theorem d_L_379 : decode code 379 = .ok (.aload_n 0, 1) := by decide +kernel
theorem d_L_380 : decode code 380 = .ok (.iload_n 3, 1) := by decide +kernel
theorem d_L_381 : decode code 381 = .ok (.iconst 1, 1) := by decide +kernel
theorem d_L_382 : decode code 382 = .ok (.iadd, 1) := by decide +kernel
theorem d_L_383 : decode code 383 = .ok (.iaload, 1) := by decide +kernel
theorem d_L_384 : decode code 384 = .ok (.invokevirtual 57, 3) := by decide +kernel
theorem d_L_387 : decode code 387 = .ok (.aload_n 2, 1) := by decide +kernel
