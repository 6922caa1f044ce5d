theorem dL_acts_205 : decode cL_acts 205 = .ok (.iconst 0, 1) := by decide +kernel
theorem dL_acts_206 : decode cL_acts 206 = .ok (.ireturn, 1) := by decide +kernel
theorem dL_acts_207 : decode cL_acts 207 = .ok (.iload_n 1, 1) := by decide +kernel
theorem dL_acts_208 : decode cL_acts 208 = .ok (.iconst 3, 1) := by decide +kernel
theorem dL_acts_209 : decode cL_acts 209 = .ok (.if_icmp .ge 132, 3) := by decide +kernel
theorem dL_acts_212 : decode cL_acts 212 = .ok (.iload_n 2, 1) := by decide +kernel
theorem dL_acts_213 : decode cL_acts 213 = .ok (.iconst 4, 1) := by decide +kernel
theorem dL_acts_214 : decode cL_acts 214 = .ok (.ishr, 1) := by decide +kernel
theorem dL_acts_215 : decode cL_acts 215 = .ok (.bipush 20, 2) := by decide +kernel
theorem dL_acts_217 : decode cL_acts 217 = .ok (.invokestatic 76, 3) := by decide +kernel
theorem dL_acts_220 : decode cL_acts 220 = .ok (.ifCond .ne 15, 3) := by decide +kernel
theorem dL_acts_223 : decode cL_acts 223 = .ok (.iload_n 2, 1) := by decide +kernel
theorem dL_acts_224 : decode cL_acts 224 = .ok (.iconst 3, 1) := by decide +kernel
theorem dL_acts_225 : decode cL_acts 225 = .ok (.ishr, 1) := by decide +kernel
theorem dL_acts_226 : decode cL_acts 226 = .ok (.iconst 2, 1) := by decide +kernel
theorem dL_acts_227 : decode cL_acts 227 = .ok (.invokestatic 76, 3) := by decide +kernel
theorem dL_acts_230 : decode cL_acts 230 = .ok (.iconst 5, 1) := by decide +kernel
theorem dL_acts_231 : decode cL_acts 231 = .ok (.imul, 1) := by decide +kernel
theorem dL_acts_232 : decode cL_acts 232 = .ok (.goto 12, 3) := by decide +kernel
theorem dL_acts_235 : decode cL_acts 235 = .ok (.iconst 1, 1) := by decide +kernel
theorem dL_acts_236 : decode cL_acts 236 = .ok (.iload_n 2, 1) := by decide +kernel
theorem dL_acts_237 : decode cL_acts 237 = .ok (.iconst 4, 1) := by decide +kernel
theorem dL_acts_238 : decode cL_acts 238 = .ok (.ishr, 1) := by decide +kernel
theorem dL_acts_239 : decode cL_acts 239 = .ok (.iconst 3, 1) := by decide +kernel
theorem dL_acts_240 : decode cL_acts 240 = .ok (.invokestatic 76, 3) := by decide +kernel
theorem dL_acts_243 : decode cL_acts 243 = .ok (.iadd, 1) := by decide +kernel
theorem dL_acts_244 : decode cL_acts 244 = .ok (.istore 8, 2) := by decide +kernel
theorem dL_acts_246 : decode cL_acts 246 = .ok (.iload 8, 2) := by decide +kernel
theorem dL_acts_248 : decode cL_acts 248 = .ok (.ifCond .le 13, 3) := by decide +kernel
theorem dL_acts_251 : decode cL_acts 251 = .ok (.iload 8, 2) := by decide +kernel
theorem dL_acts_253 : decode cL_acts 253 = .ok (.iconst 5, 1) := by decide +kernel
theorem dL_acts_254 : decode cL_acts 254 = .ok (.if_icmp .ge 7, 3) := by decide +kernel
theorem dL_acts_257 : decode cL_acts 257 = .ok (.iconst 1, 1) := by decide +kernel
theorem dL_acts_258 : decode cL_acts 258 = .ok (.goto 4, 3) := by decide +kernel
theorem dL_acts_261 : decode cL_acts 261 = .ok (.iconst 0, 1) := by decide +kernel
theorem dL_acts_262 : decode cL_acts 262 = .ok (.istore 9, 2) := by decide +kernel
theorem dL_acts_264 : decode cL_acts 264 = .ok (.iload 7, 2) := by decide +kernel
theorem dL_acts_266 : decode cL_acts 266 = .ok (.ifCond .eq 37, 3) := by decide +kernel
theorem dL_acts_269 : decode cL_acts 269 = .ok (.iload 9, 2) := by decide +kernel
theorem dL_acts_271 : decode cL_acts 271 = .ok (.ifCond .eq 32, 3) := by decide +kernel
theorem dL_acts_274 : decode cL_acts 274 = .ok (.aload 4, 2) := by decide +kernel
theorem dL_acts_276 : decode cL_acts 276 = .ok (.iload 6, 2) := by decide +kernel
theorem dL_acts_278 : decode cL_acts 278 = .ok (.iconst 1, 1) := by decide +kernel
theorem dL_acts_279 : decode cL_acts 279 = .ok (.iload 8, 2) := by decide +kernel
theorem dL_acts_281 : decode cL_acts 281 = .ok (.iconst 1, 1) := by decide +kernel
theorem dL_acts_282 : decode cL_acts 282 = .ok (.isub, 1) := by decide +kernel
theorem dL_acts_283 : decode cL_acts 283 = .ok (.ishl, 1) := by decide +kernel
theorem dL_acts_284 : decode cL_acts 284 = .ok (.iastore, 1) := by decide +kernel
theorem dL_acts_285 : decode cL_acts 285 = .ok (.aload 4, 2) := by decide +kernel
theorem dL_acts_287 : decode cL_acts 287 = .ok (.iconst 4, 1) := by decide +kernel
theorem dL_acts_288 : decode cL_acts 288 = .ok (.iload 6, 2) := by decide +kernel
theorem dL_acts_290 : decode cL_acts 290 = .ok (.iadd, 1) := by decide +kernel
theorem dL_acts_291 : decode cL_acts 291 = .ok (.iload 8, 2) := by decide +kernel
theorem dL_acts_293 : decode cL_acts 293 = .ok (.iastore, 1) := by decide +kernel
theorem dL_acts_294 : decode cL_acts 294 = .ok (.aload 4, 2) := by decide +kernel
theorem dL_acts_296 : decode cL_acts 296 = .ok (.bipush 8, 2) := by decide +kernel
theorem dL_acts_298 : decode cL_acts 298 = .ok (.iload 6, 2) := by decide +kernel
theorem dL_acts_300 : decode cL_acts 300 = .ok (.iadd, 1) := by decide +kernel
theorem dL_acts_301 : decode cL_acts 301 = .ok (.iconst 0, 1) := by decide +kernel
theorem dL_acts_302 : decode cL_acts 302 = .ok (.iastore, 1) := by decide +kernel
theorem dL_acts_303 : decode cL_acts 303 = .ok (.aload_n 0, 1) := by decide +kernel
theorem dL_acts_304 : decode cL_acts 304 = .ok (.iload 6, 2) := by decide +kernel
theorem dL_acts_306 : decode cL_acts 306 = .ok (.iload 8, 2) := by decide +kernel
theorem dL_acts_308 : decode cL_acts 308 = .ok (.invokestatic 83, 3) := by decide +kernel
theorem dL_acts_311 : decode cL_acts 311 = .ok (.iload 7, 2) := by decide +kernel
theorem dL_acts_313 : decode cL_acts 313 = .ok (.ifCond .ne 8, 3) := by decide +kernel
theorem dL_acts_316 : decode cL_acts 316 = .ok (.bipush (-101), 2) := by decide +kernel
theorem dL_acts_318 : decode cL_acts 318 = .ok (.goto 14, 3) := by decide +kernel
theorem dL_acts_321 : decode cL_acts 321 = .ok (.iload 9, 2) := by decide +kernel
theorem dL_acts_323 : decode cL_acts 323 = .ok (.ifCond .eq 7, 3) := by decide +kernel
theorem dL_acts_326 : decode cL_acts 326 = .ok (.iconst 0, 1) := by decide +kernel
theorem dL_acts_327 : decode cL_acts 327 = .ok (.goto 5, 3) := by decide +kernel
theorem dL_acts_330 : decode cL_acts 330 = .ok (.bipush (-102), 2) := by decide +kernel
theorem dL_acts_332 : decode cL_acts 332 = .ok (.if_icmp .ne 7, 3) := by decide +kernel
theorem dL_acts_335 : decode cL_acts 335 = .ok (.iconst 1, 1) := by decide +kernel
theorem dL_acts_336 : decode cL_acts 336 = .ok (.goto 4, 3) := by decide +kernel
theorem dL_acts_339 : decode cL_acts 339 = .ok (.iconst 0, 1) := by decide +kernel
theorem dL_acts_340 : decode cL_acts 340 = .ok (.ireturn, 1) := by decide +kernel
theorem dL_acts_341 : decode cL_acts 341 = .ok (.iload_n 1, 1) := by decide +kernel
theorem dL_acts_342 : decode cL_acts 342 = .ok (.bipush 6, 2) := by decide +kernel
theorem dL_acts_344 : decode cL_acts 344 = .ok (.if_icmp .ge 161, 3) := by decide +kernel
theorem dL_acts_347 : decode cL_acts 347 = .ok (.iload_n 2, 1) := by decide +kernel
theorem dL_acts_348 : decode cL_acts 348 = .ok (.iconst 4, 1) := by decide +kernel
theorem dL_acts_349 : decode cL_acts 349 = .ok (.ishr, 1) := by decide +kernel
theorem dL_acts_350 : decode cL_acts 350 = .ok (.bipush 30, 2) := by decide +kernel
theorem dL_acts_352 : decode cL_acts 352 = .ok (.invokestatic 76, 3) := by decide +kernel
theorem dL_acts_355 : decode cL_acts 355 = .ok (.ifCond .ne 16, 3) := by decide +kernel
theorem dL_acts_358 : decode cL_acts 358 = .ok (.iload_n 2, 1) := by decide +kernel
theorem dL_acts_359 : decode cL_acts 359 = .ok (.iconst 3, 1) := by decide +kernel
theorem dL_acts_360 : decode cL_acts 360 = .ok (.ishr, 1) := by decide +kernel
theorem dL_acts_361 : decode cL_acts 361 = .ok (.iconst 2, 1) := by decide +kernel
theorem dL_acts_362 : decode cL_acts 362 = .ok (.invokestatic 76, 3) := by decide +kernel
theorem dL_acts_365 : decode cL_acts 365 = .ok (.bipush 16, 2) := by decide +kernel
theorem dL_acts_367 : decode cL_acts 367 = .ok (.imul, 1) := by decide +kernel
theorem dL_acts_368 : decode cL_acts 368 = .ok (.goto 13, 3) := by decide +kernel
theorem dL_acts_371 : decode cL_acts 371 = .ok (.iconst 1, 1) := by decide +kernel
theorem dL_acts_372 : decode cL_acts 372 = .ok (.iload_n 2, 1) := by decide +kernel
theorem dL_acts_373 : decode cL_acts 373 = .ok (.iconst 4, 1) := by decide +kernel
theorem dL_acts_374 : decode cL_acts 374 = .ok (.ishr, 1) := by decide +kernel
theorem dL_acts_375 : decode cL_acts 375 = .ok (.bipush 15, 2) := by decide +kernel
theorem dL_acts_377 : decode cL_acts 377 = .ok (.invokestatic 76, 3) := by decide +kernel
theorem dL_acts_380 : decode cL_acts 380 = .ok (.iadd, 1) := by decide +kernel
theorem dL_acts_381 : decode cL_acts 381 = .ok (.istore 8, 2) := by decide +kernel
theorem dL_acts_383 : decode cL_acts 383 = .ok (.iload_n 2, 1) := by decide +kernel
theorem dL_acts_384 : decode cL_acts 384 = .ok (.bipush 8, 2) := by decide +kernel
theorem dL_acts_386 : decode cL_acts 386 = .ok (.ishr, 1) := by decide +kernel
theorem dL_acts_387 : decode cL_acts 387 = .ok (.iconst 5, 1) := by decide +kernel
theorem dL_acts_388 : decode cL_acts 388 = .ok (.invokestatic 76, 3) := by decide +kernel
theorem dL_acts_391 : decode cL_acts 391 = .ok (.istore 9, 2) := by decide +kernel
theorem dL_acts_393 : decode cL_acts 393 = .ok (.iload 8, 2) := by decide +kernel
theorem dL_acts_395 : decode cL_acts 395 = .ok (.ifCond .le 32, 3) := by decide +kernel
theorem dL_acts_398 : decode cL_acts 398 = .ok (.iload 8, 2) := by decide +kernel
theorem dL_acts_400 : decode cL_acts 400 = .ok (.bipush 16, 2) := by decide +kernel
theorem dL_acts_402 : decode cL_acts 402 = .ok (.if_icmp .ge 25, 3) := by decide +kernel
theorem dL_acts_405 : decode cL_acts 405 = .ok (.iload 9, 2) := by decide +kernel
theorem dL_acts_407 : decode cL_acts 407 = .ok (.ifCond .eq 16, 3) := by decide +kernel
theorem dL_acts_410 : decode cL_acts 410 = .ok (.iload 8, 2) := by decide +kernel
theorem dL_acts_412 : decode cL_acts 412 = .ok (.iload 9, 2) := by decide +kernel
theorem dL_acts_414 : decode cL_acts 414 = .ok (.iconst 1, 1) := by decide +kernel
theorem dL_acts_415 : decode cL_acts 415 = .ok (.isub, 1) := by decide +kernel
