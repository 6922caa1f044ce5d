theorem dL_explain_142 : decode cL_explain 142 = .ok (.iaload, 1) := by decide +kernel
theorem dL_explain_143 : decode cL_explain 143 = .ok (.iconst 1, 1) := by decide +kernel
theorem dL_explain_144 : decode cL_explain 144 = .ok (.iload 8, 2) := by decide +kernel
theorem dL_explain_146 : decode cL_explain 146 = .ok (.iconst 5, 1) := by decide +kernel
theorem dL_explain_147 : decode cL_explain 147 = .ok (.irem, 1) := by decide +kernel
theorem dL_explain_148 : decode cL_explain 148 = .ok (.ishl, 1) := by decide +kernel
theorem dL_explain_149 : decode cL_explain 149 = .ok (.ior, 1) := by decide +kernel
theorem dL_explain_150 : decode cL_explain 150 = .ok (.iastore, 1) := by decide +kernel
theorem dL_explain_151 : decode cL_explain 151 = .ok (.aload 5, 2) := by decide +kernel
theorem dL_explain_153 : decode cL_explain 153 = .ok (.iload 9, 2) := by decide +kernel
theorem dL_explain_155 : decode cL_explain 155 = .ok (.iconst 5, 1) := by decide +kernel
theorem dL_explain_156 : decode cL_explain 156 = .ok (.idiv, 1) := by decide +kernel
theorem dL_explain_157 : decode cL_explain 157 = .ok (.dup2, 1) := by decide +kernel
theorem dL_explain_158 : decode cL_explain 158 = .ok (.iaload, 1) := by decide +kernel
theorem dL_explain_159 : decode cL_explain 159 = .ok (.iconst 1, 1) := by decide +kernel
theorem dL_explain_160 : decode cL_explain 160 = .ok (.iload 9, 2) := by decide +kernel
theorem dL_explain_162 : decode cL_explain 162 = .ok (.iconst 5, 1) := by decide +kernel
theorem dL_explain_163 : decode cL_explain 163 = .ok (.irem, 1) := by decide +kernel
theorem dL_explain_164 : decode cL_explain 164 = .ok (.ishl, 1) := by decide +kernel
theorem dL_explain_165 : decode cL_explain 165 = .ok (.ior, 1) := by decide +kernel
theorem dL_explain_166 : decode cL_explain 166 = .ok (.iastore, 1) := by decide +kernel
theorem dL_explain_167 : decode cL_explain 167 = .ok (.aload_n 0, 1) := by decide +kernel
theorem dL_explain_168 : decode cL_explain 168 = .ok (.aload_n 1, 1) := by decide +kernel
theorem dL_explain_169 : decode cL_explain 169 = .ok (.aload_n 2, 1) := by decide +kernel
theorem dL_explain_170 : decode cL_explain 170 = .ok (.aload 5, 2) := by decide +kernel
theorem dL_explain_172 : decode cL_explain 172 = .ok (.aload 6, 2) := by decide +kernel
theorem dL_explain_174 : decode cL_explain 174 = .ok (.invokestatic 11, 3) := by decide +kernel
theorem dL_explain_177 : decode cL_explain 177 = .ok (.aload_n 0, 1) := by decide +kernel
theorem dL_explain_178 : decode cL_explain 178 = .ok (.aload 6, 2) := by decide +kernel
theorem dL_explain_180 : decode cL_explain 180 = .ok (.aload_n 3, 1) := by decide +kernel
theorem dL_explain_181 : decode cL_explain 181 = .ok (.invokestatic 17, 3) := by decide +kernel
theorem dL_explain_184 : decode cL_explain 184 = .ok (.ifCond .eq 77, 3) := by decide +kernel
theorem dL_explain_187 : decode cL_explain 187 = .ok (.aload 4, 2) := by decide +kernel
theorem dL_explain_189 : decode cL_explain 189 = .ok (.iconst 0, 1) := by decide +kernel
theorem dL_explain_190 : decode cL_explain 190 = .ok (.iload 7, 2) := by decide +kernel
theorem dL_explain_192 : decode cL_explain 192 = .ok (.iastore, 1) := by decide +kernel
theorem dL_explain_193 : decode cL_explain 193 = .ok (.aload 4, 2) := by decide +kernel
theorem dL_explain_195 : decode cL_explain 195 = .ok (.iconst 1, 1) := by decide +kernel
theorem dL_explain_196 : decode cL_explain 196 = .ok (.aload 4, 2) := by decide +kernel
theorem dL_explain_198 : decode cL_explain 198 = .ok (.iconst 3, 1) := by decide +kernel
theorem dL_explain_199 : decode cL_explain 199 = .ok (.iaload, 1) := by decide +kernel
theorem dL_explain_200 : decode cL_explain 200 = .ok (.ifCond .ne 18, 3) := by decide +kernel
theorem dL_explain_203 : decode cL_explain 203 = .ok (.iload 8, 2) := by decide +kernel
theorem dL_explain_205 : decode cL_explain 205 = .ok (.iconst 5, 1) := by decide +kernel
theorem dL_explain_206 : decode cL_explain 206 = .ok (.idiv, 1) := by decide +kernel
theorem dL_explain_207 : decode cL_explain 207 = .ok (.bipush 10, 2) := by decide +kernel
theorem dL_explain_209 : decode cL_explain 209 = .ok (.imul, 1) := by decide +kernel
theorem dL_explain_210 : decode cL_explain 210 = .ok (.iload 8, 2) := by decide +kernel
theorem dL_explain_212 : decode cL_explain 212 = .ok (.iconst 5, 1) := by decide +kernel
theorem dL_explain_213 : decode cL_explain 213 = .ok (.irem, 1) := by decide +kernel
theorem dL_explain_214 : decode cL_explain 214 = .ok (.iadd, 1) := by decide +kernel
theorem dL_explain_215 : decode cL_explain 215 = .ok (.goto 7, 3) := by decide +kernel
theorem dL_explain_218 : decode cL_explain 218 = .ok (.aload 4, 2) := by decide +kernel
theorem dL_explain_220 : decode cL_explain 220 = .ok (.iconst 1, 1) := by decide +kernel
theorem dL_explain_221 : decode cL_explain 221 = .ok (.iaload, 1) := by decide +kernel
theorem dL_explain_222 : decode cL_explain 222 = .ok (.iastore, 1) := by decide +kernel
theorem dL_explain_223 : decode cL_explain 223 = .ok (.aload 4, 2) := by decide +kernel
theorem dL_explain_225 : decode cL_explain 225 = .ok (.iconst 2, 1) := by decide +kernel
theorem dL_explain_226 : decode cL_explain 226 = .ok (.aload 4, 2) := by decide +kernel
theorem dL_explain_228 : decode cL_explain 228 = .ok (.iconst 3, 1) := by decide +kernel
theorem dL_explain_229 : decode cL_explain 229 = .ok (.iaload, 1) := by decide +kernel
theorem dL_explain_230 : decode cL_explain 230 = .ok (.ifCond .ne 18, 3) := by decide +kernel
theorem dL_explain_233 : decode cL_explain 233 = .ok (.iload 9, 2) := by decide +kernel
theorem dL_explain_235 : decode cL_explain 235 = .ok (.iconst 5, 1) := by decide +kernel
theorem dL_explain_236 : decode cL_explain 236 = .ok (.idiv, 1) := by decide +kernel
theorem dL_explain_237 : decode cL_explain 237 = .ok (.bipush 10, 2) := by decide +kernel
theorem dL_explain_239 : decode cL_explain 239 = .ok (.imul, 1) := by decide +kernel
theorem dL_explain_240 : decode cL_explain 240 = .ok (.iload 9, 2) := by decide +kernel
theorem dL_explain_242 : decode cL_explain 242 = .ok (.iconst 5, 1) := by decide +kernel
theorem dL_explain_243 : decode cL_explain 243 = .ok (.irem, 1) := by decide +kernel
theorem dL_explain_244 : decode cL_explain 244 = .ok (.iadd, 1) := by decide +kernel
theorem dL_explain_245 : decode cL_explain 245 = .ok (.goto 7, 3) := by decide +kernel
theorem dL_explain_248 : decode cL_explain 248 = .ok (.aload 4, 2) := by decide +kernel
theorem dL_explain_250 : decode cL_explain 250 = .ok (.iconst 2, 1) := by decide +kernel
theorem dL_explain_251 : decode cL_explain 251 = .ok (.iaload, 1) := by decide +kernel
theorem dL_explain_252 : decode cL_explain 252 = .ok (.iastore, 1) := by decide +kernel
theorem dL_explain_253 : decode cL_explain 253 = .ok (.aload 4, 2) := by decide +kernel
theorem dL_explain_255 : decode cL_explain 255 = .ok (.iconst 3, 1) := by decide +kernel
theorem dL_explain_256 : decode cL_explain 256 = .ok (.dup2, 1) := by decide +kernel
theorem dL_explain_257 : decode cL_explain 257 = .ok (.iaload, 1) := by decide +kernel
theorem dL_explain_258 : decode cL_explain 258 = .ok (.iconst 1, 1) := by decide +kernel
theorem dL_explain_259 : decode cL_explain 259 = .ok (.iadd, 1) := by decide +kernel
theorem dL_explain_260 : decode cL_explain 260 = .ok (.iastore, 1) := by decide +kernel
theorem dL_explain_261 : decode cL_explain 261 = .ok (.iinc 9 1, 3) := by decide +kernel
theorem dL_explain_264 : decode cL_explain 264 = .ok (.goto (-178), 3) := by decide +kernel
theorem dL_explain_267 : decode cL_explain 267 = .ok (.iinc 8 1, 3) := by decide +kernel
theorem dL_explain_270 : decode cL_explain 270 = .ok (.goto (-220), 3) := by decide +kernel
theorem dL_explain_273 : decode cL_explain 273 = .ok (.iinc 7 1, 3) := by decide +kernel
theorem dL_explain_276 : decode cL_explain 276 = .ok (.goto (-242), 3) := by decide +kernel
theorem dL_explain_279 : decode cL_explain 279 = .ok (.return_, 1) := by decide +kernel
