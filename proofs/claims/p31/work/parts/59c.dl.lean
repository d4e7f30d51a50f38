theorem dL_refused_148 : decode cL_refused 148 = .ok (.iconst 1, 1) := by decide +kernel
theorem dL_refused_149 : decode cL_refused 149 = .ok (.iadd, 1) := by decide +kernel
theorem dL_refused_150 : decode cL_refused 150 = .ok (.iconst 0, 1) := by decide +kernel
theorem dL_refused_151 : decode cL_refused 151 = .ok (.invokevirtual 37, 3) := by decide +kernel
theorem dL_refused_154 : decode cL_refused 154 = .ok (.iconst (-1), 1) := by decide +kernel
theorem dL_refused_155 : decode cL_refused 155 = .ok (.if_icmp .ne 41, 3) := by decide +kernel
theorem dL_refused_158 : decode cL_refused 158 = .ok (.aload_n 0, 1) := by decide +kernel
theorem dL_refused_159 : decode cL_refused 159 = .ok (.aload_n 0, 1) := by decide +kernel
theorem dL_refused_160 : decode cL_refused 160 = .ok (.iconst 2, 1) := by decide +kernel
theorem dL_refused_161 : decode cL_refused 161 = .ok (.invokevirtual 13, 3) := by decide +kernel
theorem dL_refused_164 : decode cL_refused 164 = .ok (.iconst 0, 1) := by decide +kernel
theorem dL_refused_165 : decode cL_refused 165 = .ok (.invokevirtual 34, 3) := by decide +kernel
theorem dL_refused_168 : decode cL_refused 168 = .ok (.iconst (-1), 1) := by decide +kernel
theorem dL_refused_169 : decode cL_refused 169 = .ok (.if_icmp .ne 27, 3) := by decide +kernel
theorem dL_refused_172 : decode cL_refused 172 = .ok (.aload_n 0, 1) := by decide +kernel
theorem dL_refused_173 : decode cL_refused 173 = .ok (.iconst (-1), 1) := by decide +kernel
theorem dL_refused_174 : decode cL_refused 174 = .ok (.iconst 0, 1) := by decide +kernel
theorem dL_refused_175 : decode cL_refused 175 = .ok (.invokevirtual 34, 3) := by decide +kernel
theorem dL_refused_178 : decode cL_refused 178 = .ok (.iconst (-1), 1) := by decide +kernel
theorem dL_refused_179 : decode cL_refused 179 = .ok (.if_icmp .ne 17, 3) := by decide +kernel
theorem dL_refused_182 : decode cL_refused 182 = .ok (.aload_n 0, 1) := by decide +kernel
theorem dL_refused_183 : decode cL_refused 183 = .ok (.iload 4, 2) := by decide +kernel
theorem dL_refused_185 : decode cL_refused 185 = .ok (.invokevirtual 31, 3) := by decide +kernel
theorem dL_refused_188 : decode cL_refused 188 = .ok (.iconst (-1), 1) := by decide +kernel
theorem dL_refused_189 : decode cL_refused 189 = .ok (.if_icmp .ne 7, 3) := by decide +kernel
theorem dL_refused_192 : decode cL_refused 192 = .ok (.iconst 1, 1) := by decide +kernel
theorem dL_refused_193 : decode cL_refused 193 = .ok (.goto 4, 3) := by decide +kernel
theorem dL_refused_196 : decode cL_refused 196 = .ok (.iconst 0, 1) := by decide +kernel
theorem dL_refused_197 : decode cL_refused 197 = .ok (.istore 6, 2) := by decide +kernel
theorem dL_refused_199 : decode cL_refused 199 = .ok (.iload 6, 2) := by decide +kernel
theorem dL_refused_201 : decode cL_refused 201 = .ok (.ifCond .eq 244, 3) := by decide +kernel
theorem dL_refused_204 : decode cL_refused 204 = .ok (.aload_n 0, 1) := by decide +kernel
theorem dL_refused_205 : decode cL_refused 205 = .ok (.iload_n 3, 1) := by decide +kernel
theorem dL_refused_206 : decode cL_refused 206 = .ok (.iconst 0, 1) := by decide +kernel
theorem dL_refused_207 : decode cL_refused 207 = .ok (.iconst 1, 1) := by decide +kernel
theorem dL_refused_208 : decode cL_refused 208 = .ok (.invokevirtual 60, 3) := by decide +kernel
theorem dL_refused_211 : decode cL_refused 211 = .ok (.iconst (-1), 1) := by decide +kernel
theorem dL_refused_212 : decode cL_refused 212 = .ok (.if_icmp .ne 233, 3) := by decide +kernel
theorem dL_refused_215 : decode cL_refused 215 = .ok (.aload_n 0, 1) := by decide +kernel
theorem dL_refused_216 : decode cL_refused 216 = .ok (.iconst 0, 1) := by decide +kernel
theorem dL_refused_217 : decode cL_refused 217 = .ok (.iload 4, 2) := by decide +kernel
theorem dL_refused_219 : decode cL_refused 219 = .ok (.iconst 1, 1) := by decide +kernel
theorem dL_refused_220 : decode cL_refused 220 = .ok (.invokevirtual 63, 3) := by decide +kernel
theorem dL_refused_223 : decode cL_refused 223 = .ok (.iconst (-1), 1) := by decide +kernel
theorem dL_refused_224 : decode cL_refused 224 = .ok (.if_icmp .ne 221, 3) := by decide +kernel
theorem dL_refused_227 : decode cL_refused 227 = .ok (.aload_n 0, 1) := by decide +kernel
theorem dL_refused_228 : decode cL_refused 228 = .ok (.iload_n 3, 1) := by decide +kernel
theorem dL_refused_229 : decode cL_refused 229 = .ok (.iconst 0, 1) := by decide +kernel
theorem dL_refused_230 : decode cL_refused 230 = .ok (.iconst 1, 1) := by decide +kernel
theorem dL_refused_231 : decode cL_refused 231 = .ok (.iconst 1, 1) := by decide +kernel
theorem dL_refused_232 : decode cL_refused 232 = .ok (.invokevirtual 66, 3) := by decide +kernel
theorem dL_refused_235 : decode cL_refused 235 = .ok (.iconst (-1), 1) := by decide +kernel
theorem dL_refused_236 : decode cL_refused 236 = .ok (.if_icmp .ne 209, 3) := by decide +kernel
theorem dL_refused_239 : decode cL_refused 239 = .ok (.aload_n 0, 1) := by decide +kernel
theorem dL_refused_240 : decode cL_refused 240 = .ok (.iload_n 3, 1) := by decide +kernel
theorem dL_refused_241 : decode cL_refused 241 = .ok (.invokevirtual 70, 3) := by decide +kernel
theorem dL_refused_244 : decode cL_refused 244 = .ok (.iconst (-1), 1) := by decide +kernel
theorem dL_refused_245 : decode cL_refused 245 = .ok (.if_icmp .ne 200, 3) := by decide +kernel
theorem dL_refused_248 : decode cL_refused 248 = .ok (.aload_n 0, 1) := by decide +kernel
theorem dL_refused_249 : decode cL_refused 249 = .ok (.iconst (-1), 1) := by decide +kernel
theorem dL_refused_250 : decode cL_refused 250 = .ok (.invokevirtual 73, 3) := by decide +kernel
theorem dL_refused_253 : decode cL_refused 253 = .ok (.iconst (-1), 1) := by decide +kernel
theorem dL_refused_254 : decode cL_refused 254 = .ok (.if_icmp .ne 191, 3) := by decide +kernel
theorem dL_refused_257 : decode cL_refused 257 = .ok (.aload_n 0, 1) := by decide +kernel
theorem dL_refused_258 : decode cL_refused 258 = .ok (.iconst 3, 1) := by decide +kernel
theorem dL_refused_259 : decode cL_refused 259 = .ok (.invokevirtual 76, 3) := by decide +kernel
theorem dL_refused_262 : decode cL_refused 262 = .ok (.iconst (-1), 1) := by decide +kernel
theorem dL_refused_263 : decode cL_refused 263 = .ok (.if_icmp .ne 182, 3) := by decide +kernel
theorem dL_refused_266 : decode cL_refused 266 = .ok (.aload_n 0, 1) := by decide +kernel
theorem dL_refused_267 : decode cL_refused 267 = .ok (.iconst (-1), 1) := by decide +kernel
theorem dL_refused_268 : decode cL_refused 268 = .ok (.invokevirtual 76, 3) := by decide +kernel
theorem dL_refused_271 : decode cL_refused 271 = .ok (.iconst (-1), 1) := by decide +kernel
theorem dL_refused_272 : decode cL_refused 272 = .ok (.if_icmp .ne 173, 3) := by decide +kernel
theorem dL_refused_275 : decode cL_refused 275 = .ok (.aload_n 0, 1) := by decide +kernel
theorem dL_refused_276 : decode cL_refused 276 = .ok (.aload_n 0, 1) := by decide +kernel
theorem dL_refused_277 : decode cL_refused 277 = .ok (.iconst 5, 1) := by decide +kernel
theorem dL_refused_278 : decode cL_refused 278 = .ok (.invokevirtual 13, 3) := by decide +kernel
theorem dL_refused_281 : decode cL_refused 281 = .ok (.invokevirtual 76, 3) := by decide +kernel
theorem dL_refused_284 : decode cL_refused 284 = .ok (.bipush (-2), 2) := by decide +kernel
theorem dL_refused_286 : decode cL_refused 286 = .ok (.if_icmp .ne 159, 3) := by decide +kernel
theorem dL_refused_289 : decode cL_refused 289 = .ok (.aload_n 0, 1) := by decide +kernel
theorem dL_refused_290 : decode cL_refused 290 = .ok (.iconst 0, 1) := by decide +kernel
theorem dL_refused_291 : decode cL_refused 291 = .ok (.invokevirtual 79, 3) := by decide +kernel
theorem dL_refused_294 : decode cL_refused 294 = .ok (.iconst (-1), 1) := by decide +kernel
theorem dL_refused_295 : decode cL_refused 295 = .ok (.if_icmp .ne 150, 3) := by decide +kernel
theorem dL_refused_298 : decode cL_refused 298 = .ok (.aload_n 0, 1) := by decide +kernel
theorem dL_refused_299 : decode cL_refused 299 = .ok (.bipush 61, 2) := by decide +kernel
theorem dL_refused_301 : decode cL_refused 301 = .ok (.invokevirtual 79, 3) := by decide +kernel
theorem dL_refused_304 : decode cL_refused 304 = .ok (.iconst (-1), 1) := by decide +kernel
theorem dL_refused_305 : decode cL_refused 305 = .ok (.if_icmp .ne 140, 3) := by decide +kernel
theorem dL_refused_308 : decode cL_refused 308 = .ok (.aload_n 0, 1) := by decide +kernel
theorem dL_refused_309 : decode cL_refused 309 = .ok (.iconst 2, 1) := by decide +kernel
theorem dL_refused_310 : decode cL_refused 310 = .ok (.iconst 1, 1) := by decide +kernel
theorem dL_refused_311 : decode cL_refused 311 = .ok (.invokevirtual 82, 3) := by decide +kernel
theorem dL_refused_314 : decode cL_refused 314 = .ok (.iconst (-1), 1) := by decide +kernel
theorem dL_refused_315 : decode cL_refused 315 = .ok (.if_icmp .ne 130, 3) := by decide +kernel
theorem dL_refused_318 : decode cL_refused 318 = .ok (.aload_n 0, 1) := by decide +kernel
theorem dL_refused_319 : decode cL_refused 319 = .ok (.iconst 0, 1) := by decide +kernel
theorem dL_refused_320 : decode cL_refused 320 = .ok (.iconst (-1), 1) := by decide +kernel
theorem dL_refused_321 : decode cL_refused 321 = .ok (.invokevirtual 82, 3) := by decide +kernel
theorem dL_refused_324 : decode cL_refused 324 = .ok (.iconst (-1), 1) := by decide +kernel
theorem dL_refused_325 : decode cL_refused 325 = .ok (.if_icmp .ne 120, 3) := by decide +kernel
theorem dL_refused_328 : decode cL_refused 328 = .ok (.aload_n 0, 1) := by decide +kernel
theorem dL_refused_329 : decode cL_refused 329 = .ok (.iconst 0, 1) := by decide +kernel
theorem dL_refused_330 : decode cL_refused 330 = .ok (.ldc 85, 2) := by decide +kernel
theorem dL_refused_332 : decode cL_refused 332 = .ok (.invokevirtual 82, 3) := by decide +kernel
theorem dL_refused_335 : decode cL_refused 335 = .ok (.iconst (-1), 1) := by decide +kernel
theorem dL_refused_336 : decode cL_refused 336 = .ok (.if_icmp .ne 109, 3) := by decide +kernel
theorem dL_refused_339 : decode cL_refused 339 = .ok (.aload_n 0, 1) := by decide +kernel
theorem dL_refused_340 : decode cL_refused 340 = .ok (.iconst 1, 1) := by decide +kernel
theorem dL_refused_341 : decode cL_refused 341 = .ok (.iconst 0, 1) := by decide +kernel
theorem dL_refused_342 : decode cL_refused 342 = .ok (.invokevirtual 82, 3) := by decide +kernel
theorem dL_refused_345 : decode cL_refused 345 = .ok (.iconst (-1), 1) := by decide +kernel
theorem dL_refused_346 : decode cL_refused 346 = .ok (.if_icmp .ne 99, 3) := by decide +kernel
theorem dL_refused_349 : decode cL_refused 349 = .ok (.aload_n 0, 1) := by decide +kernel
theorem dL_refused_350 : decode cL_refused 350 = .ok (.iconst 1, 1) := by decide +kernel
theorem dL_refused_351 : decode cL_refused 351 = .ok (.bipush 100, 2) := by decide +kernel
theorem dL_refused_353 : decode cL_refused 353 = .ok (.invokevirtual 82, 3) := by decide +kernel
theorem dL_refused_356 : decode cL_refused 356 = .ok (.iconst (-1), 1) := by decide +kernel
theorem dL_refused_357 : decode cL_refused 357 = .ok (.if_icmp .ne 88, 3) := by decide +kernel
theorem dL_refused_360 : decode cL_refused 360 = .ok (.aload_n 0, 1) := by decide +kernel
theorem dL_refused_361 : decode cL_refused 361 = .ok (.iload 4, 2) := by decide +kernel
theorem dL_refused_363 : decode cL_refused 363 = .ok (.iconst 0, 1) := by decide +kernel
theorem dL_refused_364 : decode cL_refused 364 = .ok (.invokevirtual 28, 3) := by decide +kernel
theorem dL_refused_367 : decode cL_refused 367 = .ok (.iconst (-1), 1) := by decide +kernel
theorem dL_refused_368 : decode cL_refused 368 = .ok (.if_icmp .ne 77, 3) := by decide +kernel
theorem dL_refused_371 : decode cL_refused 371 = .ok (.aload_n 0, 1) := by decide +kernel
theorem dL_refused_372 : decode cL_refused 372 = .ok (.bipush 7, 2) := by decide +kernel
theorem dL_refused_374 : decode cL_refused 374 = .ok (.invokevirtual 40, 3) := by decide +kernel
theorem dL_refused_377 : decode cL_refused 377 = .ok (.iconst (-1), 1) := by decide +kernel
theorem dL_refused_378 : decode cL_refused 378 = .ok (.if_icmp .ne 67, 3) := by decide +kernel
theorem dL_refused_381 : decode cL_refused 381 = .ok (.aload_n 0, 1) := by decide +kernel
theorem dL_refused_382 : decode cL_refused 382 = .ok (.bipush 11, 2) := by decide +kernel
theorem dL_refused_384 : decode cL_refused 384 = .ok (.invokevirtual 13, 3) := by decide +kernel
theorem dL_refused_387 : decode cL_refused 387 = .ok (.iconst (-1), 1) := by decide +kernel
theorem dL_refused_388 : decode cL_refused 388 = .ok (.if_icmp .ne 57, 3) := by decide +kernel
theorem dL_refused_391 : decode cL_refused 391 = .ok (.aload_n 0, 1) := by decide +kernel
theorem dL_refused_392 : decode cL_refused 392 = .ok (.bipush 22, 2) := by decide +kernel
theorem dL_refused_394 : decode cL_refused 394 = .ok (.invokevirtual 13, 3) := by decide +kernel
theorem dL_refused_397 : decode cL_refused 397 = .ok (.iconst (-1), 1) := by decide +kernel
theorem dL_refused_398 : decode cL_refused 398 = .ok (.if_icmp .ne 47, 3) := by decide +kernel
theorem dL_refused_401 : decode cL_refused 401 = .ok (.aload_n 0, 1) := by decide +kernel
theorem dL_refused_402 : decode cL_refused 402 = .ok (.iload 4, 2) := by decide +kernel
theorem dL_refused_404 : decode cL_refused 404 = .ok (.iconst 1, 1) := by decide +kernel
theorem dL_refused_405 : decode cL_refused 405 = .ok (.invokevirtual 86, 3) := by decide +kernel
