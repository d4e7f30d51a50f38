theorem dL_addsUp_206 : decode cL_addsUp 206 = .ok (.iconst 1, 1) := by decide +kernel
theorem dL_addsUp_207 : decode cL_addsUp 207 = .ok (.invokevirtual 37, 3) := by decide +kernel
theorem dL_addsUp_210 : decode cL_addsUp 210 = .ok (.ifCond .lt 48, 3) := by decide +kernel
theorem dL_addsUp_213 : decode cL_addsUp 213 = .ok (.aload_n 0, 1) := by decide +kernel
theorem dL_addsUp_214 : decode cL_addsUp 214 = .ok (.iload 5, 2) := by decide +kernel
theorem dL_addsUp_216 : decode cL_addsUp 216 = .ok (.iconst 1, 1) := by decide +kernel
theorem dL_addsUp_217 : decode cL_addsUp 217 = .ok (.invokevirtual 37, 3) := by decide +kernel
theorem dL_addsUp_220 : decode cL_addsUp 220 = .ok (.aload_n 0, 1) := by decide +kernel
theorem dL_addsUp_221 : decode cL_addsUp 221 = .ok (.bipush 6, 2) := by decide +kernel
theorem dL_addsUp_223 : decode cL_addsUp 223 = .ok (.invokevirtual 13, 3) := by decide +kernel
theorem dL_addsUp_226 : decode cL_addsUp 226 = .ok (.if_icmp .gt 32, 3) := by decide +kernel
theorem dL_addsUp_229 : decode cL_addsUp 229 = .ok (.iload 5, 2) := by decide +kernel
theorem dL_addsUp_231 : decode cL_addsUp 231 = .ok (.iconst 1, 1) := by decide +kernel
theorem dL_addsUp_232 : decode cL_addsUp 232 = .ok (.if_icmp .eq 22, 3) := by decide +kernel
theorem dL_addsUp_235 : decode cL_addsUp 235 = .ok (.aload_n 0, 1) := by decide +kernel
theorem dL_addsUp_236 : decode cL_addsUp 236 = .ok (.iload 5, 2) := by decide +kernel
theorem dL_addsUp_238 : decode cL_addsUp 238 = .ok (.iconst 1, 1) := by decide +kernel
theorem dL_addsUp_239 : decode cL_addsUp 239 = .ok (.invokevirtual 37, 3) := by decide +kernel
theorem dL_addsUp_242 : decode cL_addsUp 242 = .ok (.aload_n 0, 1) := by decide +kernel
theorem dL_addsUp_243 : decode cL_addsUp 243 = .ok (.iload 5, 2) := by decide +kernel
theorem dL_addsUp_245 : decode cL_addsUp 245 = .ok (.iconst 1, 1) := by decide +kernel
theorem dL_addsUp_246 : decode cL_addsUp 246 = .ok (.isub, 1) := by decide +kernel
theorem dL_addsUp_247 : decode cL_addsUp 247 = .ok (.iconst 1, 1) := by decide +kernel
theorem dL_addsUp_248 : decode cL_addsUp 248 = .ok (.invokevirtual 37, 3) := by decide +kernel
theorem dL_addsUp_251 : decode cL_addsUp 251 = .ok (.if_icmp .lt 7, 3) := by decide +kernel
theorem dL_addsUp_254 : decode cL_addsUp 254 = .ok (.iconst 1, 1) := by decide +kernel
theorem dL_addsUp_255 : decode cL_addsUp 255 = .ok (.goto 4, 3) := by decide +kernel
theorem dL_addsUp_258 : decode cL_addsUp 258 = .ok (.iconst 0, 1) := by decide +kernel
theorem dL_addsUp_259 : decode cL_addsUp 259 = .ok (.istore_n 3, 1) := by decide +kernel
theorem dL_addsUp_260 : decode cL_addsUp 260 = .ok (.iinc 5 1, 3) := by decide +kernel
theorem dL_addsUp_263 : decode cL_addsUp 263 = .ok (.goto (-94), 3) := by decide +kernel
theorem dL_addsUp_266 : decode cL_addsUp 266 = .ok (.lconst 0, 1) := by decide +kernel
theorem dL_addsUp_267 : decode cL_addsUp 267 = .ok (.lstore 5, 2) := by decide +kernel
theorem dL_addsUp_269 : decode cL_addsUp 269 = .ok (.iconst 0, 1) := by decide +kernel
theorem dL_addsUp_270 : decode cL_addsUp 270 = .ok (.istore 7, 2) := by decide +kernel
theorem dL_addsUp_272 : decode cL_addsUp 272 = .ok (.iconst (-1), 1) := by decide +kernel
theorem dL_addsUp_273 : decode cL_addsUp 273 = .ok (.istore 8, 2) := by decide +kernel
theorem dL_addsUp_275 : decode cL_addsUp 275 = .ok (.iconst 0, 1) := by decide +kernel
theorem dL_addsUp_276 : decode cL_addsUp 276 = .ok (.istore 9, 2) := by decide +kernel
theorem dL_addsUp_278 : decode cL_addsUp 278 = .ok (.iload 9, 2) := by decide +kernel
theorem dL_addsUp_280 : decode cL_addsUp 280 = .ok (.aload_n 0, 1) := by decide +kernel
theorem dL_addsUp_281 : decode cL_addsUp 281 = .ok (.iconst 2, 1) := by decide +kernel
theorem dL_addsUp_282 : decode cL_addsUp 282 = .ok (.invokevirtual 13, 3) := by decide +kernel
theorem dL_addsUp_285 : decode cL_addsUp 285 = .ok (.if_icmp .ge 150, 3) := by decide +kernel
theorem dL_addsUp_288 : decode cL_addsUp 288 = .ok (.iload_n 3, 1) := by decide +kernel
theorem dL_addsUp_289 : decode cL_addsUp 289 = .ok (.ifCond .eq 146, 3) := by decide +kernel
theorem dL_addsUp_292 : decode cL_addsUp 292 = .ok (.aload_n 0, 1) := by decide +kernel
theorem dL_addsUp_293 : decode cL_addsUp 293 = .ok (.iload 9, 2) := by decide +kernel
theorem dL_addsUp_295 : decode cL_addsUp 295 = .ok (.iconst 2, 1) := by decide +kernel
theorem dL_addsUp_296 : decode cL_addsUp 296 = .ok (.invokevirtual 34, 3) := by decide +kernel
theorem dL_addsUp_299 : decode cL_addsUp 299 = .ok (.istore 10, 2) := by decide +kernel
theorem dL_addsUp_301 : decode cL_addsUp 301 = .ok (.lload 5, 2) := by decide +kernel
theorem dL_addsUp_303 : decode cL_addsUp 303 = .ok (.aload_n 0, 1) := by decide +kernel
theorem dL_addsUp_304 : decode cL_addsUp 304 = .ok (.iload 9, 2) := by decide +kernel
theorem dL_addsUp_306 : decode cL_addsUp 306 = .ok (.iconst 4, 1) := by decide +kernel
theorem dL_addsUp_307 : decode cL_addsUp 307 = .ok (.invokevirtual 34, 3) := by decide +kernel
theorem dL_addsUp_310 : decode cL_addsUp 310 = .ok (.i2l, 1) := by decide +kernel
theorem dL_addsUp_311 : decode cL_addsUp 311 = .ok (.ladd, 1) := by decide +kernel
theorem dL_addsUp_312 : decode cL_addsUp 312 = .ok (.lstore 5, 2) := by decide +kernel
theorem dL_addsUp_314 : decode cL_addsUp 314 = .ok (.iload 7, 2) := by decide +kernel
theorem dL_addsUp_316 : decode cL_addsUp 316 = .ok (.iload 10, 2) := by decide +kernel
theorem dL_addsUp_318 : decode cL_addsUp 318 = .ok (.ifCond .le 7, 3) := by decide +kernel
theorem dL_addsUp_321 : decode cL_addsUp 321 = .ok (.iconst 1, 1) := by decide +kernel
theorem dL_addsUp_322 : decode cL_addsUp 322 = .ok (.goto 4, 3) := by decide +kernel
theorem dL_addsUp_325 : decode cL_addsUp 325 = .ok (.iconst 0, 1) := by decide +kernel
theorem dL_addsUp_326 : decode cL_addsUp 326 = .ok (.iadd, 1) := by decide +kernel
theorem dL_addsUp_327 : decode cL_addsUp 327 = .ok (.istore 7, 2) := by decide +kernel
theorem dL_addsUp_329 : decode cL_addsUp 329 = .ok (.iload 10, 2) := by decide +kernel
theorem dL_addsUp_331 : decode cL_addsUp 331 = .ok (.ifCond .le 30, 3) := by decide +kernel
theorem dL_addsUp_334 : decode cL_addsUp 334 = .ok (.iload 8, 2) := by decide +kernel
theorem dL_addsUp_336 : decode cL_addsUp 336 = .ok (.ifCond .lt 15, 3) := by decide +kernel
theorem dL_addsUp_339 : decode cL_addsUp 339 = .ok (.aload_n 0, 1) := by decide +kernel
theorem dL_addsUp_340 : decode cL_addsUp 340 = .ok (.iload 9, 2) := by decide +kernel
theorem dL_addsUp_342 : decode cL_addsUp 342 = .ok (.iconst 5, 1) := by decide +kernel
theorem dL_addsUp_343 : decode cL_addsUp 343 = .ok (.invokevirtual 34, 3) := by decide +kernel
theorem dL_addsUp_346 : decode cL_addsUp 346 = .ok (.iload 8, 2) := by decide +kernel
theorem dL_addsUp_348 : decode cL_addsUp 348 = .ok (.if_icmp .ge 13, 3) := by decide +kernel
theorem dL_addsUp_351 : decode cL_addsUp 351 = .ok (.aload_n 0, 1) := by decide +kernel
theorem dL_addsUp_352 : decode cL_addsUp 352 = .ok (.iload 9, 2) := by decide +kernel
theorem dL_addsUp_354 : decode cL_addsUp 354 = .ok (.iconst 5, 1) := by decide +kernel
theorem dL_addsUp_355 : decode cL_addsUp 355 = .ok (.invokevirtual 34, 3) := by decide +kernel
theorem dL_addsUp_358 : decode cL_addsUp 358 = .ok (.goto 5, 3) := by decide +kernel
theorem dL_addsUp_361 : decode cL_addsUp 361 = .ok (.iload 8, 2) := by decide +kernel
theorem dL_addsUp_363 : decode cL_addsUp 363 = .ok (.istore 8, 2) := by decide +kernel
theorem dL_addsUp_365 : decode cL_addsUp 365 = .ok (.iload 10, 2) := by decide +kernel
theorem dL_addsUp_367 : decode cL_addsUp 367 = .ok (.ifCond .lt 60, 3) := by decide +kernel
theorem dL_addsUp_370 : decode cL_addsUp 370 = .ok (.iload 10, 2) := by decide +kernel
theorem dL_addsUp_372 : decode cL_addsUp 372 = .ok (.aload_n 0, 1) := by decide +kernel
theorem dL_addsUp_373 : decode cL_addsUp 373 = .ok (.iload 9, 2) := by decide +kernel
theorem dL_addsUp_375 : decode cL_addsUp 375 = .ok (.iconst 1, 1) := by decide +kernel
theorem dL_addsUp_376 : decode cL_addsUp 376 = .ok (.invokevirtual 34, 3) := by decide +kernel
theorem dL_addsUp_379 : decode cL_addsUp 379 = .ok (.if_icmp .gt 48, 3) := by decide +kernel
theorem dL_addsUp_382 : decode cL_addsUp 382 = .ok (.aload_n 0, 1) := by decide +kernel
theorem dL_addsUp_383 : decode cL_addsUp 383 = .ok (.iload 9, 2) := by decide +kernel
theorem dL_addsUp_385 : decode cL_addsUp 385 = .ok (.iconst 4, 1) := by decide +kernel
theorem dL_addsUp_386 : decode cL_addsUp 386 = .ok (.invokevirtual 34, 3) := by decide +kernel
theorem dL_addsUp_389 : decode cL_addsUp 389 = .ok (.iload 10, 2) := by decide +kernel
theorem dL_addsUp_391 : decode cL_addsUp 391 = .ok (.aload_n 0, 1) := by decide +kernel
theorem dL_addsUp_392 : decode cL_addsUp 392 = .ok (.iload 9, 2) := by decide +kernel
theorem dL_addsUp_394 : decode cL_addsUp 394 = .ok (.iconst 3, 1) := by decide +kernel
theorem dL_addsUp_395 : decode cL_addsUp 395 = .ok (.invokevirtual 34, 3) := by decide +kernel
theorem dL_addsUp_398 : decode cL_addsUp 398 = .ok (.imul, 1) := by decide +kernel
theorem dL_addsUp_399 : decode cL_addsUp 399 = .ok (.if_icmp .ne 28, 3) := by decide +kernel
theorem dL_addsUp_402 : decode cL_addsUp 402 = .ok (.iload 10, 2) := by decide +kernel
theorem dL_addsUp_404 : decode cL_addsUp 404 = .ok (.ifCond .eq 19, 3) := by decide +kernel
theorem dL_addsUp_407 : decode cL_addsUp 407 = .ok (.aload_n 0, 1) := by decide +kernel
theorem dL_addsUp_408 : decode cL_addsUp 408 = .ok (.iload 9, 2) := by decide +kernel
theorem dL_addsUp_410 : decode cL_addsUp 410 = .ok (.iconst 5, 1) := by decide +kernel
theorem dL_addsUp_411 : decode cL_addsUp 411 = .ok (.invokevirtual 34, 3) := by decide +kernel
theorem dL_addsUp_414 : decode cL_addsUp 414 = .ok (.aload_n 0, 1) := by decide +kernel
theorem dL_addsUp_415 : decode cL_addsUp 415 = .ok (.bipush 6, 2) := by decide +kernel
theorem dL_addsUp_417 : decode cL_addsUp 417 = .ok (.invokevirtual 13, 3) := by decide +kernel
theorem dL_addsUp_420 : decode cL_addsUp 420 = .ok (.if_icmp .lt 7, 3) := by decide +kernel
theorem dL_addsUp_423 : decode cL_addsUp 423 = .ok (.iconst 1, 1) := by decide +kernel
theorem dL_addsUp_424 : decode cL_addsUp 424 = .ok (.goto 4, 3) := by decide +kernel
theorem dL_addsUp_427 : decode cL_addsUp 427 = .ok (.iconst 0, 1) := by decide +kernel
theorem dL_addsUp_428 : decode cL_addsUp 428 = .ok (.istore_n 3, 1) := by decide +kernel
theorem dL_addsUp_429 : decode cL_addsUp 429 = .ok (.iinc 9 1, 3) := by decide +kernel
theorem dL_addsUp_432 : decode cL_addsUp 432 = .ok (.goto (-154), 3) := by decide +kernel
theorem dL_addsUp_435 : decode cL_addsUp 435 = .ok (.iload_n 3, 1) := by decide +kernel
theorem dL_addsUp_436 : decode cL_addsUp 436 = .ok (.ifCond .eq 123, 3) := by decide +kernel
theorem dL_addsUp_439 : decode cL_addsUp 439 = .ok (.iload_n 1, 1) := by decide +kernel
theorem dL_addsUp_440 : decode cL_addsUp 440 = .ok (.aload_n 0, 1) := by decide +kernel
theorem dL_addsUp_441 : decode cL_addsUp 441 = .ok (.bipush 7, 2) := by decide +kernel
theorem dL_addsUp_443 : decode cL_addsUp 443 = .ok (.invokevirtual 13, 3) := by decide +kernel
theorem dL_addsUp_446 : decode cL_addsUp 446 = .ok (.if_icmp .ne 113, 3) := by decide +kernel
theorem dL_addsUp_449 : decode cL_addsUp 449 = .ok (.iload_n 2, 1) := by decide +kernel
theorem dL_addsUp_450 : decode cL_addsUp 450 = .ok (.aload_n 0, 1) := by decide +kernel
theorem dL_addsUp_451 : decode cL_addsUp 451 = .ok (.bipush 8, 2) := by decide +kernel
theorem dL_addsUp_453 : decode cL_addsUp 453 = .ok (.invokevirtual 13, 3) := by decide +kernel
theorem dL_addsUp_456 : decode cL_addsUp 456 = .ok (.if_icmp .ne 103, 3) := by decide +kernel
theorem dL_addsUp_459 : decode cL_addsUp 459 = .ok (.iload 4, 2) := by decide +kernel
theorem dL_addsUp_461 : decode cL_addsUp 461 = .ok (.iload_n 1, 1) := by decide +kernel
theorem dL_addsUp_462 : decode cL_addsUp 462 = .ok (.if_icmp .ne 97, 3) := by decide +kernel
theorem dL_addsUp_465 : decode cL_addsUp 465 = .ok (.iload 7, 2) := by decide +kernel
theorem dL_addsUp_467 : decode cL_addsUp 467 = .ok (.aload_n 0, 1) := by decide +kernel
theorem dL_addsUp_468 : decode cL_addsUp 468 = .ok (.iconst 3, 1) := by decide +kernel
theorem dL_addsUp_469 : decode cL_addsUp 469 = .ok (.invokevirtual 13, 3) := by decide +kernel
theorem dL_addsUp_472 : decode cL_addsUp 472 = .ok (.if_icmp .ne 87, 3) := by decide +kernel
theorem dL_addsUp_475 : decode cL_addsUp 475 = .ok (.lload 5, 2) := by decide +kernel
theorem dL_addsUp_477 : decode cL_addsUp 477 = .ok (.aload_n 0, 1) := by decide +kernel
theorem dL_addsUp_478 : decode cL_addsUp 478 = .ok (.iconst 1, 1) := by decide +kernel
theorem dL_addsUp_479 : decode cL_addsUp 479 = .ok (.invokevirtual 40, 3) := by decide +kernel
theorem dL_addsUp_482 : decode cL_addsUp 482 = .ok (.i2l, 1) := by decide +kernel
theorem dL_addsUp_483 : decode cL_addsUp 483 = .ok (.lcmp, 1) := by decide +kernel
