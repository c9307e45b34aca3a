theorem dL_arms_148 : decode cL_arms 148 = .ok (.ifCond .eq 53, 3) := by decide +kernel
theorem dL_arms_151 : decode cL_arms 151 = .ok (.aload_n 0, 1) := by decide +kernel
theorem dL_arms_152 : decode cL_arms 152 = .ok (.bipush 7, 2) := by decide +kernel
theorem dL_arms_154 : decode cL_arms 154 = .ok (.iload 7, 2) := by decide +kernel
theorem dL_arms_156 : decode cL_arms 156 = .ok (.bipush 100, 2) := by decide +kernel
theorem dL_arms_158 : decode cL_arms 158 = .ok (.idiv, 1) := by decide +kernel
theorem dL_arms_159 : decode cL_arms 159 = .ok (.iload 7, 2) := by decide +kernel
theorem dL_arms_161 : decode cL_arms 161 = .ok (.bipush 100, 2) := by decide +kernel
theorem dL_arms_163 : decode cL_arms 163 = .ok (.irem, 1) := by decide +kernel
theorem dL_arms_164 : decode cL_arms 164 = .ok (.iconst 0, 1) := by decide +kernel
theorem dL_arms_165 : decode cL_arms 165 = .ok (.invokestatic 144, 3) := by decide +kernel
theorem dL_arms_168 : decode cL_arms 168 = .ok (.invokestatic 201, 3) := by decide +kernel
theorem dL_arms_171 : decode cL_arms 171 = .ok (.ifCond .ne 30, 3) := by decide +kernel
theorem dL_arms_174 : decode cL_arms 174 = .ok (.aload_n 1, 1) := by decide +kernel
theorem dL_arms_175 : decode cL_arms 175 = .ok (.bipush 7, 2) := by decide +kernel
theorem dL_arms_177 : decode cL_arms 177 = .ok (.iload 7, 2) := by decide +kernel
theorem dL_arms_179 : decode cL_arms 179 = .ok (.bipush 100, 2) := by decide +kernel
theorem dL_arms_181 : decode cL_arms 181 = .ok (.idiv, 1) := by decide +kernel
theorem dL_arms_182 : decode cL_arms 182 = .ok (.iload 7, 2) := by decide +kernel
theorem dL_arms_184 : decode cL_arms 184 = .ok (.bipush 100, 2) := by decide +kernel
theorem dL_arms_186 : decode cL_arms 186 = .ok (.irem, 1) := by decide +kernel
theorem dL_arms_187 : decode cL_arms 187 = .ok (.iconst 0, 1) := by decide +kernel
theorem dL_arms_188 : decode cL_arms 188 = .ok (.invokestatic 144, 3) := by decide +kernel
theorem dL_arms_191 : decode cL_arms 191 = .ok (.invokestatic 201, 3) := by decide +kernel
theorem dL_arms_194 : decode cL_arms 194 = .ok (.ifCond .ne 7, 3) := by decide +kernel
theorem dL_arms_197 : decode cL_arms 197 = .ok (.iconst 1, 1) := by decide +kernel
theorem dL_arms_198 : decode cL_arms 198 = .ok (.goto 4, 3) := by decide +kernel
theorem dL_arms_201 : decode cL_arms 201 = .ok (.iconst 0, 1) := by decide +kernel
theorem dL_arms_202 : decode cL_arms 202 = .ok (.istore 8, 2) := by decide +kernel
theorem dL_arms_204 : decode cL_arms 204 = .ok (.aload_n 0, 1) := by decide +kernel
theorem dL_arms_205 : decode cL_arms 205 = .ok (.iload_n 2, 1) := by decide +kernel
theorem dL_arms_206 : decode cL_arms 206 = .ok (.iload_n 3, 1) := by decide +kernel
theorem dL_arms_207 : decode cL_arms 207 = .ok (.invokestatic 171, 3) := by decide +kernel
theorem dL_arms_210 : decode cL_arms 210 = .ok (.istore 10, 2) := by decide +kernel
theorem dL_arms_212 : decode cL_arms 212 = .ok (.iload 8, 2) := by decide +kernel
theorem dL_arms_214 : decode cL_arms 214 = .ok (.ifCond .eq 42, 3) := by decide +kernel
theorem dL_arms_217 : decode cL_arms 217 = .ok (.iload 10, 2) := by decide +kernel
theorem dL_arms_219 : decode cL_arms 219 = .ok (.iload 9, 2) := by decide +kernel
theorem dL_arms_221 : decode cL_arms 221 = .ok (.if_icmp .lt 35, 3) := by decide +kernel
theorem dL_arms_224 : decode cL_arms 224 = .ok (.iload 10, 2) := by decide +kernel
theorem dL_arms_226 : decode cL_arms 226 = .ok (.iload 9, 2) := by decide +kernel
theorem dL_arms_228 : decode cL_arms 228 = .ok (.if_icmp .gt 10, 3) := by decide +kernel
theorem dL_arms_231 : decode cL_arms 231 = .ok (.iload 7, 2) := by decide +kernel
theorem dL_arms_233 : decode cL_arms 233 = .ok (.iload 5, 2) := by decide +kernel
theorem dL_arms_235 : decode cL_arms 235 = .ok (.if_icmp .lt 21, 3) := by decide +kernel
theorem dL_arms_238 : decode cL_arms 238 = .ok (.aload_n 0, 1) := by decide +kernel
theorem dL_arms_239 : decode cL_arms 239 = .ok (.bipush 14, 2) := by decide +kernel
theorem dL_arms_241 : decode cL_arms 241 = .ok (.iload_n 2, 1) := by decide +kernel
theorem dL_arms_242 : decode cL_arms 242 = .ok (.iload_n 3, 1) := by decide +kernel
theorem dL_arms_243 : decode cL_arms 243 = .ok (.iconst 0, 1) := by decide +kernel
theorem dL_arms_244 : decode cL_arms 244 = .ok (.invokestatic 144, 3) := by decide +kernel
theorem dL_arms_247 : decode cL_arms 247 = .ok (.iload 5, 2) := by decide +kernel
theorem dL_arms_249 : decode cL_arms 249 = .ok (.if_icmp .ne 7, 3) := by decide +kernel
theorem dL_arms_252 : decode cL_arms 252 = .ok (.iconst 1, 1) := by decide +kernel
theorem dL_arms_253 : decode cL_arms 253 = .ok (.goto 4, 3) := by decide +kernel
theorem dL_arms_256 : decode cL_arms 256 = .ok (.iconst 0, 1) := by decide +kernel
theorem dL_arms_257 : decode cL_arms 257 = .ok (.istore 8, 2) := by decide +kernel
theorem dL_arms_259 : decode cL_arms 259 = .ok (.iload 8, 2) := by decide +kernel
theorem dL_arms_261 : decode cL_arms 261 = .ok (.ifCond .eq 80, 3) := by decide +kernel
theorem dL_arms_264 : decode cL_arms 264 = .ok (.aload_n 0, 1) := by decide +kernel
theorem dL_arms_265 : decode cL_arms 265 = .ok (.bipush 11, 2) := by decide +kernel
theorem dL_arms_267 : decode cL_arms 267 = .ok (.iconst 0, 1) := by decide +kernel
theorem dL_arms_268 : decode cL_arms 268 = .ok (.iconst 0, 1) := by decide +kernel
theorem dL_arms_269 : decode cL_arms 269 = .ok (.iconst 0, 1) := by decide +kernel
theorem dL_arms_270 : decode cL_arms 270 = .ok (.invokestatic 144, 3) := by decide +kernel
theorem dL_arms_273 : decode cL_arms 273 = .ok (.invokestatic 201, 3) := by decide +kernel
theorem dL_arms_276 : decode cL_arms 276 = .ok (.ifCond .ne 65, 3) := by decide +kernel
theorem dL_arms_279 : decode cL_arms 279 = .ok (.aload_n 1, 1) := by decide +kernel
theorem dL_arms_280 : decode cL_arms 280 = .ok (.bipush 11, 2) := by decide +kernel
theorem dL_arms_282 : decode cL_arms 282 = .ok (.iconst 0, 1) := by decide +kernel
theorem dL_arms_283 : decode cL_arms 283 = .ok (.iconst 0, 1) := by decide +kernel
theorem dL_arms_284 : decode cL_arms 284 = .ok (.iconst 0, 1) := by decide +kernel
theorem dL_arms_285 : decode cL_arms 285 = .ok (.invokestatic 144, 3) := by decide +kernel
theorem dL_arms_288 : decode cL_arms 288 = .ok (.invokestatic 201, 3) := by decide +kernel
theorem dL_arms_291 : decode cL_arms 291 = .ok (.ifCond .ne 50, 3) := by decide +kernel
theorem dL_arms_294 : decode cL_arms 294 = .ok (.aload_n 0, 1) := by decide +kernel
theorem dL_arms_295 : decode cL_arms 295 = .ok (.bipush 11, 2) := by decide +kernel
theorem dL_arms_297 : decode cL_arms 297 = .ok (.iconst 0, 1) := by decide +kernel
theorem dL_arms_298 : decode cL_arms 298 = .ok (.iconst 0, 1) := by decide +kernel
theorem dL_arms_299 : decode cL_arms 299 = .ok (.iconst 0, 1) := by decide +kernel
theorem dL_arms_300 : decode cL_arms 300 = .ok (.invokestatic 144, 3) := by decide +kernel
theorem dL_arms_303 : decode cL_arms 303 = .ok (.invokestatic 201, 3) := by decide +kernel
theorem dL_arms_306 : decode cL_arms 306 = .ok (.ifCond .ne 35, 3) := by decide +kernel
theorem dL_arms_309 : decode cL_arms 309 = .ok (.aload_n 1, 1) := by decide +kernel
theorem dL_arms_310 : decode cL_arms 310 = .ok (.bipush 11, 2) := by decide +kernel
theorem dL_arms_312 : decode cL_arms 312 = .ok (.iconst 0, 1) := by decide +kernel
theorem dL_arms_313 : decode cL_arms 313 = .ok (.iconst 0, 1) := by decide +kernel
theorem dL_arms_314 : decode cL_arms 314 = .ok (.iconst 0, 1) := by decide +kernel
theorem dL_arms_315 : decode cL_arms 315 = .ok (.invokestatic 144, 3) := by decide +kernel
theorem dL_arms_318 : decode cL_arms 318 = .ok (.invokestatic 201, 3) := by decide +kernel
theorem dL_arms_321 : decode cL_arms 321 = .ok (.ifCond .ne 20, 3) := by decide +kernel
theorem dL_arms_324 : decode cL_arms 324 = .ok (.aload_n 0, 1) := by decide +kernel
theorem dL_arms_325 : decode cL_arms 325 = .ok (.iconst 2, 1) := by decide +kernel
theorem dL_arms_326 : decode cL_arms 326 = .ok (.iconst 4, 1) := by decide +kernel
theorem dL_arms_327 : decode cL_arms 327 = .ok (.iconst 0, 1) := by decide +kernel
theorem dL_arms_328 : decode cL_arms 328 = .ok (.iconst 0, 1) := by decide +kernel
theorem dL_arms_329 : decode cL_arms 329 = .ok (.invokestatic 144, 3) := by decide +kernel
theorem dL_arms_332 : decode cL_arms 332 = .ok (.iload 6, 2) := by decide +kernel
theorem dL_arms_334 : decode cL_arms 334 = .ok (.if_icmp .ne 7, 3) := by decide +kernel
theorem dL_arms_337 : decode cL_arms 337 = .ok (.iconst 1, 1) := by decide +kernel
theorem dL_arms_338 : decode cL_arms 338 = .ok (.goto 4, 3) := by decide +kernel
theorem dL_arms_341 : decode cL_arms 341 = .ok (.iconst 0, 1) := by decide +kernel
theorem dL_arms_342 : decode cL_arms 342 = .ok (.ireturn, 1) := by decide +kernel
