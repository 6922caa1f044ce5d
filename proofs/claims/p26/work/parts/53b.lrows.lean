theorem dL_tells_151 : decode cL_tells 151 = .ok (.goto 5, 3) := by decide +kernel
theorem dL_tells_154 : decode cL_tells 154 = .ok (.bipush (-101), 2) := by decide +kernel
theorem dL_tells_156 : decode cL_tells 156 = .ok (.istore 14, 2) := by decide +kernel
theorem dL_tells_158 : decode cL_tells 158 = .ok (.aload_n 0, 1) := by decide +kernel
theorem dL_tells_159 : decode cL_tells 159 = .ok (.iconst 0, 1) := by decide +kernel
theorem dL_tells_160 : decode cL_tells 160 = .ok (.iload 12, 2) := by decide +kernel
theorem dL_tells_162 : decode cL_tells 162 = .ok (.invokestatic 98, 3) := by decide +kernel
theorem dL_tells_165 : decode cL_tells 165 = .ok (.iload 14, 2) := by decide +kernel
theorem dL_tells_167 : decode cL_tells 167 = .ok (.if_icmp .ne 137, 3) := by decide +kernel
theorem dL_tells_170 : decode cL_tells 170 = .ok (.aload_n 0, 1) := by decide +kernel
theorem dL_tells_171 : decode cL_tells 171 = .ok (.iconst 1, 1) := by decide +kernel
theorem dL_tells_172 : decode cL_tells 172 = .ok (.iload 12, 2) := by decide +kernel
theorem dL_tells_174 : decode cL_tells 174 = .ok (.invokestatic 98, 3) := by decide +kernel
theorem dL_tells_177 : decode cL_tells 177 = .ok (.iload 13, 2) := by decide +kernel
theorem dL_tells_179 : decode cL_tells 179 = .ok (.ifCond .eq 11, 3) := by decide +kernel
theorem dL_tells_182 : decode cL_tells 182 = .ok (.aload 7, 2) := by decide +kernel
theorem dL_tells_184 : decode cL_tells 184 = .ok (.iload 12, 2) := by decide +kernel
theorem dL_tells_186 : decode cL_tells 186 = .ok (.iaload, 1) := by decide +kernel
theorem dL_tells_187 : decode cL_tells 187 = .ok (.goto 5, 3) := by decide +kernel
theorem dL_tells_190 : decode cL_tells 190 = .ok (.bipush (-101), 2) := by decide +kernel
theorem dL_tells_192 : decode cL_tells 192 = .ok (.if_icmp .ne 112, 3) := by decide +kernel
theorem dL_tells_195 : decode cL_tells 195 = .ok (.aload_n 0, 1) := by decide +kernel
theorem dL_tells_196 : decode cL_tells 196 = .ok (.iconst 2, 1) := by decide +kernel
theorem dL_tells_197 : decode cL_tells 197 = .ok (.iload 12, 2) := by decide +kernel
theorem dL_tells_199 : decode cL_tells 199 = .ok (.invokestatic 98, 3) := by decide +kernel
theorem dL_tells_202 : decode cL_tells 202 = .ok (.iload 13, 2) := by decide +kernel
theorem dL_tells_204 : decode cL_tells 204 = .ok (.ifCond .eq 14, 3) := by decide +kernel
theorem dL_tells_207 : decode cL_tells 207 = .ok (.aload 7, 2) := by decide +kernel
theorem dL_tells_209 : decode cL_tells 209 = .ok (.bipush 14, 2) := by decide +kernel
theorem dL_tells_211 : decode cL_tells 211 = .ok (.iload 12, 2) := by decide +kernel
theorem dL_tells_213 : decode cL_tells 213 = .ok (.iadd, 1) := by decide +kernel
theorem dL_tells_214 : decode cL_tells 214 = .ok (.iaload, 1) := by decide +kernel
theorem dL_tells_215 : decode cL_tells 215 = .ok (.goto 5, 3) := by decide +kernel
theorem dL_tells_218 : decode cL_tells 218 = .ok (.bipush (-101), 2) := by decide +kernel
theorem dL_tells_220 : decode cL_tells 220 = .ok (.if_icmp .ne 84, 3) := by decide +kernel
theorem dL_tells_223 : decode cL_tells 223 = .ok (.aload_n 0, 1) := by decide +kernel
theorem dL_tells_224 : decode cL_tells 224 = .ok (.iconst 3, 1) := by decide +kernel
theorem dL_tells_225 : decode cL_tells 225 = .ok (.iload 12, 2) := by decide +kernel
theorem dL_tells_227 : decode cL_tells 227 = .ok (.invokestatic 98, 3) := by decide +kernel
theorem dL_tells_230 : decode cL_tells 230 = .ok (.iload 13, 2) := by decide +kernel
theorem dL_tells_232 : decode cL_tells 232 = .ok (.ifCond .eq 14, 3) := by decide +kernel
theorem dL_tells_235 : decode cL_tells 235 = .ok (.aload 7, 2) := by decide +kernel
theorem dL_tells_237 : decode cL_tells 237 = .ok (.bipush 28, 2) := by decide +kernel
theorem dL_tells_239 : decode cL_tells 239 = .ok (.iload 12, 2) := by decide +kernel
theorem dL_tells_241 : decode cL_tells 241 = .ok (.iadd, 1) := by decide +kernel
theorem dL_tells_242 : decode cL_tells 242 = .ok (.iaload, 1) := by decide +kernel
theorem dL_tells_243 : decode cL_tells 243 = .ok (.goto 5, 3) := by decide +kernel
theorem dL_tells_246 : decode cL_tells 246 = .ok (.bipush (-101), 2) := by decide +kernel
theorem dL_tells_248 : decode cL_tells 248 = .ok (.if_icmp .ne 56, 3) := by decide +kernel
theorem dL_tells_251 : decode cL_tells 251 = .ok (.aload_n 0, 1) := by decide +kernel
theorem dL_tells_252 : decode cL_tells 252 = .ok (.iconst 4, 1) := by decide +kernel
theorem dL_tells_253 : decode cL_tells 253 = .ok (.iload 12, 2) := by decide +kernel
theorem dL_tells_255 : decode cL_tells 255 = .ok (.invokestatic 98, 3) := by decide +kernel
theorem dL_tells_258 : decode cL_tells 258 = .ok (.iload 13, 2) := by decide +kernel
theorem dL_tells_260 : decode cL_tells 260 = .ok (.ifCond .eq 11, 3) := by decide +kernel
theorem dL_tells_263 : decode cL_tells 263 = .ok (.aload 8, 2) := by decide +kernel
theorem dL_tells_265 : decode cL_tells 265 = .ok (.iload 12, 2) := by decide +kernel
theorem dL_tells_267 : decode cL_tells 267 = .ok (.iaload, 1) := by decide +kernel
theorem dL_tells_268 : decode cL_tells 268 = .ok (.goto 5, 3) := by decide +kernel
theorem dL_tells_271 : decode cL_tells 271 = .ok (.bipush (-101), 2) := by decide +kernel
theorem dL_tells_273 : decode cL_tells 273 = .ok (.if_icmp .ne 31, 3) := by decide +kernel
theorem dL_tells_276 : decode cL_tells 276 = .ok (.aload_n 0, 1) := by decide +kernel
theorem dL_tells_277 : decode cL_tells 277 = .ok (.iconst 5, 1) := by decide +kernel
theorem dL_tells_278 : decode cL_tells 278 = .ok (.iload 12, 2) := by decide +kernel
theorem dL_tells_280 : decode cL_tells 280 = .ok (.invokestatic 98, 3) := by decide +kernel
theorem dL_tells_283 : decode cL_tells 283 = .ok (.iload 13, 2) := by decide +kernel
theorem dL_tells_285 : decode cL_tells 285 = .ok (.ifCond .eq 14, 3) := by decide +kernel
theorem dL_tells_288 : decode cL_tells 288 = .ok (.aload 8, 2) := by decide +kernel
theorem dL_tells_290 : decode cL_tells 290 = .ok (.bipush 14, 2) := by decide +kernel
theorem dL_tells_292 : decode cL_tells 292 = .ok (.iload 12, 2) := by decide +kernel
theorem dL_tells_294 : decode cL_tells 294 = .ok (.iadd, 1) := by decide +kernel
theorem dL_tells_295 : decode cL_tells 295 = .ok (.iaload, 1) := by decide +kernel
theorem dL_tells_296 : decode cL_tells 296 = .ok (.goto 5, 3) := by decide +kernel
theorem dL_tells_299 : decode cL_tells 299 = .ok (.bipush (-101), 2) := by decide +kernel
theorem dL_tells_301 : decode cL_tells 301 = .ok (.if_icmp .eq 5, 3) := by decide +kernel
theorem dL_tells_304 : decode cL_tells 304 = .ok (.iconst 0, 1) := by decide +kernel
theorem dL_tells_305 : decode cL_tells 305 = .ok (.ireturn, 1) := by decide +kernel
theorem dL_tells_306 : decode cL_tells 306 = .ok (.lload 10, 2) := by decide +kernel
theorem dL_tells_308 : decode cL_tells 308 = .ok (.iload 13, 2) := by decide +kernel
theorem dL_tells_310 : decode cL_tells 310 = .ok (.ifCond .eq 42, 3) := by decide +kernel
theorem dL_tells_313 : decode cL_tells 313 = .ok (.aload 7, 2) := by decide +kernel
theorem dL_tells_315 : decode cL_tells 315 = .ok (.iload 12, 2) := by decide +kernel
theorem dL_tells_317 : decode cL_tells 317 = .ok (.iaload, 1) := by decide +kernel
theorem dL_tells_318 : decode cL_tells 318 = .ok (.aload 8, 2) := by decide +kernel
theorem dL_tells_320 : decode cL_tells 320 = .ok (.iload 12, 2) := by decide +kernel
theorem dL_tells_322 : decode cL_tells 322 = .ok (.iaload, 1) := by decide +kernel
theorem dL_tells_323 : decode cL_tells 323 = .ok (.if_icmp .ne 22, 3) := by decide +kernel
theorem dL_tells_326 : decode cL_tells 326 = .ok (.aload 7, 2) := by decide +kernel
theorem dL_tells_328 : decode cL_tells 328 = .ok (.bipush 14, 2) := by decide +kernel
theorem dL_tells_330 : decode cL_tells 330 = .ok (.iload 12, 2) := by decide +kernel
theorem dL_tells_332 : decode cL_tells 332 = .ok (.iadd, 1) := by decide +kernel
theorem dL_tells_333 : decode cL_tells 333 = .ok (.iaload, 1) := by decide +kernel
theorem dL_tells_334 : decode cL_tells 334 = .ok (.aload 8, 2) := by decide +kernel
theorem dL_tells_336 : decode cL_tells 336 = .ok (.bipush 14, 2) := by decide +kernel
theorem dL_tells_338 : decode cL_tells 338 = .ok (.iload 12, 2) := by decide +kernel
theorem dL_tells_340 : decode cL_tells 340 = .ok (.iadd, 1) := by decide +kernel
theorem dL_tells_341 : decode cL_tells 341 = .ok (.iaload, 1) := by decide +kernel
theorem dL_tells_342 : decode cL_tells 342 = .ok (.if_icmp .eq 10, 3) := by decide +kernel
