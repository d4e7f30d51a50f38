theorem dL_0 : decode cL_law 0 = .ok (.new 7, 3) := by decide +kernel
theorem dL_3 : decode cL_law 3 = .ok (.dup, 1) := by decide +kernel
theorem dL_4 : decode cL_law 4 = .ok (.invokespecial 9, 3) := by decide +kernel
theorem dL_7 : decode cL_law 7 = .ok (.astore_n 1, 1) := by decide +kernel
theorem dL_8 : decode cL_law 8 = .ok (.new 10, 3) := by decide +kernel
theorem dL_11 : decode cL_law 11 = .ok (.dup, 1) := by decide +kernel
theorem dL_12 : decode cL_law 12 = .ok (.invokespecial 12, 3) := by decide +kernel
theorem dL_15 : decode cL_law 15 = .ok (.astore_n 2, 1) := by decide +kernel
theorem dL_16 : decode cL_law 16 = .ok (.iconst 0, 1) := by decide +kernel
theorem dL_17 : decode cL_law 17 = .ok (.istore_n 3, 1) := by decide +kernel
theorem dL_18 : decode cL_law 18 = .ok (.iload_n 3, 1) := by decide +kernel
theorem dL_19 : decode cL_law 19 = .ok (.aload_n 0, 1) := by decide +kernel
theorem dL_20 : decode cL_law 20 = .ok (.arraylength, 1) := by decide +kernel
theorem dL_21 : decode cL_law 21 = .ok (.iconst 5, 1) := by decide +kernel
theorem dL_22 : decode cL_law 22 = .ok (.isub, 1) := by decide +kernel
theorem dL_23 : decode cL_law 23 = .ok (.if_icmp .gt 897, 3) := by decide +kernel
theorem dL_26 : decode cL_law 26 = .ok (.aload_n 0, 1) := by decide +kernel
theorem dL_27 : decode cL_law 27 = .ok (.iload_n 3, 1) := by decide +kernel
theorem dL_28 : decode cL_law 28 = .ok (.iaload, 1) := by decide +kernel
theorem dL_29 : decode cL_law 29 = .ok (.bipush 31, 2) := by decide +kernel
theorem dL_31 : decode cL_law 31 = .ok (.iand, 1) := by decide +kernel
theorem dL_32 : decode cL_law 32 = .ok (.tableswitch 882 0 27 #[128, 141, 164, 197, 240, 273, 306, 339, 372, 395, 438, 481, 534, 557, 580, 603, 626, 659, 692, 715, 738, 751, 784, 797, 810, 833, 846, 869], 128) := by decide +kernel
theorem dL_160 : decode cL_law 160 = .ok (.aload_n 1, 1) := by decide +kernel
theorem dL_161 : decode cL_law 161 = .ok (.invokevirtual 13, 3) := by decide +kernel
theorem dL_164 : decode cL_law 164 = .ok (.aload_n 2, 1) := by decide +kernel
theorem dL_165 : decode cL_law 165 = .ok (.invokevirtual 17, 3) := by decide +kernel
theorem dL_168 : decode cL_law 168 = .ok (.if_icmp .eq 746, 3) := by decide +kernel
theorem dL_171 : decode cL_law 171 = .ok (.iconst 0, 1) := by decide +kernel
theorem dL_172 : decode cL_law 172 = .ok (.ireturn, 1) := by decide +kernel
theorem dL_173 : decode cL_law 173 = .ok (.aload_n 1, 1) := by decide +kernel
theorem dL_174 : decode cL_law 174 = .ok (.aload_n 0, 1) := by decide +kernel
theorem dL_175 : decode cL_law 175 = .ok (.iload_n 3, 1) := by decide +kernel
theorem dL_176 : decode cL_law 176 = .ok (.iconst 1, 1) := by decide +kernel
theorem dL_177 : decode cL_law 177 = .ok (.iadd, 1) := by decide +kernel
theorem dL_178 : decode cL_law 178 = .ok (.iaload, 1) := by decide +kernel
theorem dL_179 : decode cL_law 179 = .ok (.invokevirtual 18, 3) := by decide +kernel
theorem dL_182 : decode cL_law 182 = .ok (.aload_n 2, 1) := by decide +kernel
theorem dL_183 : decode cL_law 183 = .ok (.aload_n 0, 1) := by decide +kernel
theorem dL_184 : decode cL_law 184 = .ok (.iload_n 3, 1) := by decide +kernel
theorem dL_185 : decode cL_law 185 = .ok (.iconst 1, 1) := by decide +kernel
theorem dL_186 : decode cL_law 186 = .ok (.iadd, 1) := by decide +kernel
theorem dL_187 : decode cL_law 187 = .ok (.iaload, 1) := by decide +kernel
theorem dL_188 : decode cL_law 188 = .ok (.invokevirtual 22, 3) := by decide +kernel
theorem dL_191 : decode cL_law 191 = .ok (.if_icmp .eq 723, 3) := by decide +kernel
theorem dL_194 : decode cL_law 194 = .ok (.iconst 0, 1) := by decide +kernel
theorem dL_195 : decode cL_law 195 = .ok (.ireturn, 1) := by decide +kernel
theorem dL_196 : decode cL_law 196 = .ok (.aload_n 1, 1) := by decide +kernel
theorem dL_197 : decode cL_law 197 = .ok (.aload_n 0, 1) := by decide +kernel
theorem dL_198 : decode cL_law 198 = .ok (.iload_n 3, 1) := by decide +kernel
theorem dL_199 : decode cL_law 199 = .ok (.iconst 1, 1) := by decide +kernel
theorem dL_200 : decode cL_law 200 = .ok (.iadd, 1) := by decide +kernel
theorem dL_201 : decode cL_law 201 = .ok (.iaload, 1) := by decide +kernel
theorem dL_202 : decode cL_law 202 = .ok (.aload_n 0, 1) := by decide +kernel
theorem dL_203 : decode cL_law 203 = .ok (.iload_n 3, 1) := by decide +kernel
theorem dL_204 : decode cL_law 204 = .ok (.iconst 2, 1) := by decide +kernel
theorem dL_205 : decode cL_law 205 = .ok (.iadd, 1) := by decide +kernel
theorem dL_206 : decode cL_law 206 = .ok (.iaload, 1) := by decide +kernel
theorem dL_207 : decode cL_law 207 = .ok (.invokevirtual 23, 3) := by decide +kernel
theorem dL_210 : decode cL_law 210 = .ok (.aload_n 2, 1) := by decide +kernel
theorem dL_211 : decode cL_law 211 = .ok (.aload_n 0, 1) := by decide +kernel
theorem dL_212 : decode cL_law 212 = .ok (.iload_n 3, 1) := by decide +kernel
theorem dL_213 : decode cL_law 213 = .ok (.iconst 1, 1) := by decide +kernel
theorem dL_214 : decode cL_law 214 = .ok (.iadd, 1) := by decide +kernel
theorem dL_215 : decode cL_law 215 = .ok (.iaload, 1) := by decide +kernel
theorem dL_216 : decode cL_law 216 = .ok (.aload_n 0, 1) := by decide +kernel
theorem dL_217 : decode cL_law 217 = .ok (.iload_n 3, 1) := by decide +kernel
theorem dL_218 : decode cL_law 218 = .ok (.iconst 2, 1) := by decide +kernel
theorem dL_219 : decode cL_law 219 = .ok (.iadd, 1) := by decide +kernel
theorem dL_220 : decode cL_law 220 = .ok (.iaload, 1) := by decide +kernel
theorem dL_221 : decode cL_law 221 = .ok (.invokevirtual 27, 3) := by decide +kernel
theorem dL_224 : decode cL_law 224 = .ok (.if_icmp .eq 690, 3) := by decide +kernel
theorem dL_227 : decode cL_law 227 = .ok (.iconst 0, 1) := by decide +kernel
theorem dL_228 : decode cL_law 228 = .ok (.ireturn, 1) := by decide +kernel
theorem dL_229 : decode cL_law 229 = .ok (.aload_n 1, 1) := by decide +kernel
theorem dL_230 : decode cL_law 230 = .ok (.aload_n 0, 1) := by decide +kernel
theorem dL_231 : decode cL_law 231 = .ok (.iload_n 3, 1) := by decide +kernel
theorem dL_232 : decode cL_law 232 = .ok (.iconst 1, 1) := by decide +kernel
theorem dL_233 : decode cL_law 233 = .ok (.iadd, 1) := by decide +kernel
theorem dL_234 : decode cL_law 234 = .ok (.iaload, 1) := by decide +kernel
theorem dL_235 : decode cL_law 235 = .ok (.aload_n 0, 1) := by decide +kernel
theorem dL_236 : decode cL_law 236 = .ok (.iload_n 3, 1) := by decide +kernel
theorem dL_237 : decode cL_law 237 = .ok (.iconst 2, 1) := by decide +kernel
theorem dL_238 : decode cL_law 238 = .ok (.iadd, 1) := by decide +kernel
theorem dL_239 : decode cL_law 239 = .ok (.iaload, 1) := by decide +kernel
theorem dL_240 : decode cL_law 240 = .ok (.aload_n 0, 1) := by decide +kernel
theorem dL_241 : decode cL_law 241 = .ok (.iload_n 3, 1) := by decide +kernel
theorem dL_242 : decode cL_law 242 = .ok (.iconst 3, 1) := by decide +kernel
theorem dL_243 : decode cL_law 243 = .ok (.iadd, 1) := by decide +kernel
theorem dL_244 : decode cL_law 244 = .ok (.iaload, 1) := by decide +kernel
theorem dL_245 : decode cL_law 245 = .ok (.invokevirtual 28, 3) := by decide +kernel
theorem dL_248 : decode cL_law 248 = .ok (.aload_n 2, 1) := by decide +kernel
theorem dL_249 : decode cL_law 249 = .ok (.aload_n 0, 1) := by decide +kernel
theorem dL_250 : decode cL_law 250 = .ok (.iload_n 3, 1) := by decide +kernel
theorem dL_251 : decode cL_law 251 = .ok (.iconst 1, 1) := by decide +kernel
theorem dL_252 : decode cL_law 252 = .ok (.iadd, 1) := by decide +kernel
theorem dL_253 : decode cL_law 253 = .ok (.iaload, 1) := by decide +kernel
theorem dL_254 : decode cL_law 254 = .ok (.aload_n 0, 1) := by decide +kernel
theorem dL_255 : decode cL_law 255 = .ok (.iload_n 3, 1) := by decide +kernel
theorem dL_256 : decode cL_law 256 = .ok (.iconst 2, 1) := by decide +kernel
theorem dL_257 : decode cL_law 257 = .ok (.iadd, 1) := by decide +kernel
theorem dL_258 : decode cL_law 258 = .ok (.iaload, 1) := by decide +kernel
theorem dL_259 : decode cL_law 259 = .ok (.aload_n 0, 1) := by decide +kernel
theorem dL_260 : decode cL_law 260 = .ok (.iload_n 3, 1) := by decide +kernel
theorem dL_261 : decode cL_law 261 = .ok (.iconst 3, 1) := by decide +kernel
theorem dL_262 : decode cL_law 262 = .ok (.iadd, 1) := by decide +kernel
theorem dL_263 : decode cL_law 263 = .ok (.iaload, 1) := by decide +kernel
theorem dL_264 : decode cL_law 264 = .ok (.invokevirtual 32, 3) := by decide +kernel
theorem dL_267 : decode cL_law 267 = .ok (.if_icmp .eq 647, 3) := by decide +kernel
theorem dL_270 : decode cL_law 270 = .ok (.iconst 0, 1) := by decide +kernel
theorem dL_271 : decode cL_law 271 = .ok (.ireturn, 1) := by decide +kernel
theorem dL_272 : decode cL_law 272 = .ok (.aload_n 1, 1) := by decide +kernel
theorem dL_273 : decode cL_law 273 = .ok (.aload_n 0, 1) := by decide +kernel
theorem dL_274 : decode cL_law 274 = .ok (.iload_n 3, 1) := by decide +kernel
theorem dL_275 : decode cL_law 275 = .ok (.iconst 1, 1) := by decide +kernel
theorem dL_276 : decode cL_law 276 = .ok (.iadd, 1) := by decide +kernel
theorem dL_277 : decode cL_law 277 = .ok (.iaload, 1) := by decide +kernel
theorem dL_278 : decode cL_law 278 = .ok (.aload_n 0, 1) := by decide +kernel
theorem dL_279 : decode cL_law 279 = .ok (.iload_n 3, 1) := by decide +kernel
theorem dL_280 : decode cL_law 280 = .ok (.iconst 2, 1) := by decide +kernel
theorem dL_281 : decode cL_law 281 = .ok (.iadd, 1) := by decide +kernel
theorem dL_282 : decode cL_law 282 = .ok (.iaload, 1) := by decide +kernel
theorem dL_283 : decode cL_law 283 = .ok (.invokevirtual 33, 3) := by decide +kernel
theorem dL_286 : decode cL_law 286 = .ok (.aload_n 2, 1) := by decide +kernel
theorem dL_287 : decode cL_law 287 = .ok (.aload_n 0, 1) := by decide +kernel
theorem dL_288 : decode cL_law 288 = .ok (.iload_n 3, 1) := by decide +kernel
theorem dL_289 : decode cL_law 289 = .ok (.iconst 1, 1) := by decide +kernel
theorem dL_290 : decode cL_law 290 = .ok (.iadd, 1) := by decide +kernel
theorem dL_291 : decode cL_law 291 = .ok (.iaload, 1) := by decide +kernel
theorem dL_292 : decode cL_law 292 = .ok (.aload_n 0, 1) := by decide +kernel
theorem dL_293 : decode cL_law 293 = .ok (.iload_n 3, 1) := by decide +kernel
theorem dL_294 : decode cL_law 294 = .ok (.iconst 2, 1) := by decide +kernel
theorem dL_295 : decode cL_law 295 = .ok (.iadd, 1) := by decide +kernel
theorem dL_296 : decode cL_law 296 = .ok (.iaload, 1) := by decide +kernel
theorem dL_297 : decode cL_law 297 = .ok (.invokevirtual 36, 3) := by decide +kernel
theorem dL_300 : decode cL_law 300 = .ok (.if_icmp .eq 614, 3) := by decide +kernel
theorem dL_303 : decode cL_law 303 = .ok (.iconst 0, 1) := by decide +kernel
theorem dL_304 : decode cL_law 304 = .ok (.ireturn, 1) := by decide +kernel
theorem dL_305 : decode cL_law 305 = .ok (.aload_n 1, 1) := by decide +kernel
theorem dL_306 : decode cL_law 306 = .ok (.aload_n 0, 1) := by decide +kernel
theorem dL_307 : decode cL_law 307 = .ok (.iload_n 3, 1) := by decide +kernel
theorem dL_308 : decode cL_law 308 = .ok (.iconst 1, 1) := by decide +kernel
theorem dL_309 : decode cL_law 309 = .ok (.iadd, 1) := by decide +kernel
theorem dL_310 : decode cL_law 310 = .ok (.iaload, 1) := by decide +kernel
theorem dL_311 : decode cL_law 311 = .ok (.aload_n 0, 1) := by decide +kernel
theorem dL_312 : decode cL_law 312 = .ok (.iload_n 3, 1) := by decide +kernel
theorem dL_313 : decode cL_law 313 = .ok (.iconst 2, 1) := by decide +kernel
theorem dL_314 : decode cL_law 314 = .ok (.iadd, 1) := by decide +kernel
theorem dL_315 : decode cL_law 315 = .ok (.iaload, 1) := by decide +kernel
theorem dL_316 : decode cL_law 316 = .ok (.invokevirtual 37, 3) := by decide +kernel
theorem dL_319 : decode cL_law 319 = .ok (.aload_n 2, 1) := by decide +kernel
theorem dL_320 : decode cL_law 320 = .ok (.aload_n 0, 1) := by decide +kernel
theorem dL_321 : decode cL_law 321 = .ok (.iload_n 3, 1) := by decide +kernel
theorem dL_322 : decode cL_law 322 = .ok (.iconst 1, 1) := by decide +kernel
