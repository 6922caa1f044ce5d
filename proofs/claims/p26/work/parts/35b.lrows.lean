theorem dL_run_178 : decode cL_run 178 = .ok (.goto 5, 3) := by decide +kernel
theorem dL_run_181 : decode cL_run 181 = .ok (.iload 12, 2) := by decide +kernel
theorem dL_run_183 : decode cL_run 183 = .ok (.istore 12, 2) := by decide +kernel
theorem dL_run_185 : decode cL_run 185 = .ok (.aload 4, 2) := by decide +kernel
theorem dL_run_187 : decode cL_run 187 = .ok (.iload 5, 2) := by decide +kernel
theorem dL_run_189 : decode cL_run 189 = .ok (.iconst 0, 1) := by decide +kernel
theorem dL_run_190 : decode cL_run 190 = .ok (.iastore, 1) := by decide +kernel
theorem dL_run_191 : decode cL_run 191 = .ok (.aload 4, 2) := by decide +kernel
theorem dL_run_193 : decode cL_run 193 = .ok (.bipush 14, 2) := by decide +kernel
theorem dL_run_195 : decode cL_run 195 = .ok (.iload 5, 2) := by decide +kernel
theorem dL_run_197 : decode cL_run 197 = .ok (.iadd, 1) := by decide +kernel
theorem dL_run_198 : decode cL_run 198 = .ok (.iconst 0, 1) := by decide +kernel
theorem dL_run_199 : decode cL_run 199 = .ok (.iastore, 1) := by decide +kernel
theorem dL_run_200 : decode cL_run 200 = .ok (.aload 4, 2) := by decide +kernel
theorem dL_run_202 : decode cL_run 202 = .ok (.bipush 28, 2) := by decide +kernel
theorem dL_run_204 : decode cL_run 204 = .ok (.iload 5, 2) := by decide +kernel
theorem dL_run_206 : decode cL_run 206 = .ok (.iadd, 1) := by decide +kernel
theorem dL_run_207 : decode cL_run 207 = .ok (.iload 9, 2) := by decide +kernel
theorem dL_run_209 : decode cL_run 209 = .ok (.ifCond .eq 8, 3) := by decide +kernel
theorem dL_run_212 : decode cL_run 212 = .ok (.iload 12, 2) := by decide +kernel
theorem dL_run_214 : decode cL_run 214 = .ok (.goto 5, 3) := by decide +kernel
theorem dL_run_217 : decode cL_run 217 = .ok (.bipush 9, 2) := by decide +kernel
theorem dL_run_219 : decode cL_run 219 = .ok (.iastore, 1) := by decide +kernel
theorem dL_run_220 : decode cL_run 220 = .ok (.iload 9, 2) := by decide +kernel
theorem dL_run_222 : decode cL_run 222 = .ok (.ifCond .eq 285, 3) := by decide +kernel
theorem dL_run_225 : decode cL_run 225 = .ok (.iload 12, 2) := by decide +kernel
theorem dL_run_227 : decode cL_run 227 = .ok (.ifCond .ne 280, 3) := by decide +kernel
theorem dL_run_230 : decode cL_run 230 = .ok (.bipush 42, 2) := by decide +kernel
theorem dL_run_232 : decode cL_run 232 = .ok (.iconst 3, 1) := by decide +kernel
theorem dL_run_233 : decode cL_run 233 = .ok (.iload 11, 2) := by decide +kernel
theorem dL_run_235 : decode cL_run 235 = .ok (.iconst 1, 1) := by decide +kernel
theorem dL_run_236 : decode cL_run 236 = .ok (.isub, 1) := by decide +kernel
theorem dL_run_237 : decode cL_run 237 = .ok (.imul, 1) := by decide +kernel
theorem dL_run_238 : decode cL_run 238 = .ok (.iadd, 1) := by decide +kernel
theorem dL_run_239 : decode cL_run 239 = .ok (.istore 13, 2) := by decide +kernel
theorem dL_run_241 : decode cL_run 241 = .ok (.aload 4, 2) := by decide +kernel
theorem dL_run_243 : decode cL_run 243 = .ok (.iload 13, 2) := by decide +kernel
theorem dL_run_245 : decode cL_run 245 = .ok (.aload_n 2, 1) := by decide +kernel
theorem dL_run_246 : decode cL_run 246 = .ok (.iconst 4, 1) := by decide +kernel
theorem dL_run_247 : decode cL_run 247 = .ok (.iload 5, 2) := by decide +kernel
theorem dL_run_249 : decode cL_run 249 = .ok (.imul, 1) := by decide +kernel
theorem dL_run_250 : decode cL_run 250 = .ok (.iconst 2, 1) := by decide +kernel
theorem dL_run_251 : decode cL_run 251 = .ok (.iadd, 1) := by decide +kernel
theorem dL_run_252 : decode cL_run 252 = .ok (.iaload, 1) := by decide +kernel
theorem dL_run_253 : decode cL_run 253 = .ok (.iadd, 1) := by decide +kernel
theorem dL_run_254 : decode cL_run 254 = .ok (.iload 8, 2) := by decide +kernel
theorem dL_run_256 : decode cL_run 256 = .ok (.iconst 2, 1) := by decide +kernel
theorem dL_run_257 : decode cL_run 257 = .ok (.iand, 1) := by decide +kernel
theorem dL_run_258 : decode cL_run 258 = .ok (.ifCond .ne 8, 3) := by decide +kernel
theorem dL_run_261 : decode cL_run 261 = .ok (.iload 6, 2) := by decide +kernel
theorem dL_run_263 : decode cL_run 263 = .ok (.goto 17, 3) := by decide +kernel
theorem dL_run_266 : decode cL_run 266 = .ok (.aload 4, 2) := by decide +kernel
theorem dL_run_268 : decode cL_run 268 = .ok (.iload 13, 2) := by decide +kernel
theorem dL_run_270 : decode cL_run 270 = .ok (.aload_n 2, 1) := by decide +kernel
theorem dL_run_271 : decode cL_run 271 = .ok (.iconst 4, 1) := by decide +kernel
theorem dL_run_272 : decode cL_run 272 = .ok (.iload 5, 2) := by decide +kernel
theorem dL_run_274 : decode cL_run 274 = .ok (.imul, 1) := by decide +kernel
theorem dL_run_275 : decode cL_run 275 = .ok (.iconst 2, 1) := by decide +kernel
theorem dL_run_276 : decode cL_run 276 = .ok (.iadd, 1) := by decide +kernel
theorem dL_run_277 : decode cL_run 277 = .ok (.iaload, 1) := by decide +kernel
theorem dL_run_278 : decode cL_run 278 = .ok (.iadd, 1) := by decide +kernel
theorem dL_run_279 : decode cL_run 279 = .ok (.iaload, 1) := by decide +kernel
theorem dL_run_280 : decode cL_run 280 = .ok (.iastore, 1) := by decide +kernel
theorem dL_run_281 : decode cL_run 281 = .ok (.aload_n 2, 1) := by decide +kernel
theorem dL_run_282 : decode cL_run 282 = .ok (.iconst 4, 1) := by decide +kernel
theorem dL_run_283 : decode cL_run 283 = .ok (.iload 5, 2) := by decide +kernel
theorem dL_run_285 : decode cL_run 285 = .ok (.imul, 1) := by decide +kernel
theorem dL_run_286 : decode cL_run 286 = .ok (.iconst 3, 1) := by decide +kernel
theorem dL_run_287 : decode cL_run 287 = .ok (.iadd, 1) := by decide +kernel
theorem dL_run_288 : decode cL_run 288 = .ok (.iaload, 1) := by decide +kernel
theorem dL_run_289 : decode cL_run 289 = .ok (.iconst 3, 1) := by decide +kernel
theorem dL_run_290 : decode cL_run 290 = .ok (.if_icmp .ne 7, 3) := by decide +kernel
theorem dL_run_293 : decode cL_run 293 = .ok (.iconst (-1), 1) := by decide +kernel
theorem dL_run_294 : decode cL_run 294 = .ok (.goto 17, 3) := by decide +kernel
theorem dL_run_297 : decode cL_run 297 = .ok (.aload 4, 2) := by decide +kernel
theorem dL_run_299 : decode cL_run 299 = .ok (.iload 13, 2) := by decide +kernel
theorem dL_run_301 : decode cL_run 301 = .ok (.aload_n 2, 1) := by decide +kernel
theorem dL_run_302 : decode cL_run 302 = .ok (.iconst 4, 1) := by decide +kernel
theorem dL_run_303 : decode cL_run 303 = .ok (.iload 5, 2) := by decide +kernel
theorem dL_run_305 : decode cL_run 305 = .ok (.imul, 1) := by decide +kernel
theorem dL_run_306 : decode cL_run 306 = .ok (.iconst 3, 1) := by decide +kernel
theorem dL_run_307 : decode cL_run 307 = .ok (.iadd, 1) := by decide +kernel
theorem dL_run_308 : decode cL_run 308 = .ok (.iaload, 1) := by decide +kernel
theorem dL_run_309 : decode cL_run 309 = .ok (.iadd, 1) := by decide +kernel
theorem dL_run_310 : decode cL_run 310 = .ok (.iaload, 1) := by decide +kernel
theorem dL_run_311 : decode cL_run 311 = .ok (.istore 14, 2) := by decide +kernel
theorem dL_run_313 : decode cL_run 313 = .ok (.iconst 0, 1) := by decide +kernel
theorem dL_run_314 : decode cL_run 314 = .ok (.istore 15, 2) := by decide +kernel
theorem dL_run_316 : decode cL_run 316 = .ok (.iconst 0, 1) := by decide +kernel
theorem dL_run_317 : decode cL_run 317 = .ok (.istore 16, 2) := by decide +kernel
theorem dL_run_319 : decode cL_run 319 = .ok (.iload 16, 2) := by decide +kernel
theorem dL_run_321 : decode cL_run 321 = .ok (.aload_n 0, 1) := by decide +kernel
theorem dL_run_322 : decode cL_run 322 = .ok (.iconst 0, 1) := by decide +kernel
theorem dL_run_323 : decode cL_run 323 = .ok (.iaload, 1) := by decide +kernel
theorem dL_run_324 : decode cL_run 324 = .ok (.if_icmp .ge 156, 3) := by decide +kernel
theorem dL_run_327 : decode cL_run 327 = .ok (.iload 14, 2) := by decide +kernel
theorem dL_run_329 : decode cL_run 329 = .ok (.ifCond .lt 25, 3) := by decide +kernel
theorem dL_run_332 : decode cL_run 332 = .ok (.iload 16, 2) := by decide +kernel
theorem dL_run_334 : decode cL_run 334 = .ok (.iload 14, 2) := by decide +kernel
theorem dL_run_336 : decode cL_run 336 = .ok (.if_icmp .ne 14, 3) := by decide +kernel
theorem dL_run_339 : decode cL_run 339 = .ok (.iload 14, 2) := by decide +kernel
