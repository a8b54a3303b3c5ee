/-! the law, instruction by instruction -/
theorem pm_a0_0 : pm_as (pm_cd pm_mm0) 0 = some (.new 7, 3) := by decide +kernel
theorem pm_a0_3 : pm_as (pm_cd pm_mm0) 3 = some (.dup, 1) := by decide +kernel
theorem pm_a0_4 : pm_as (pm_cd pm_mm0) 4 = some (.invokespecial 9, 3) := by decide +kernel
theorem pm_a0_7 : pm_as (pm_cd pm_mm0) 7 = some (.astore_n 1, 1) := by decide +kernel
theorem pm_a0_8 : pm_as (pm_cd pm_mm0) 8 = some (.new 10, 3) := by decide +kernel
theorem pm_a0_11 : pm_as (pm_cd pm_mm0) 11 = some (.dup, 1) := by decide +kernel
theorem pm_a0_12 : pm_as (pm_cd pm_mm0) 12 = some (.invokespecial 12, 3) := by decide +kernel
theorem pm_a0_15 : pm_as (pm_cd pm_mm0) 15 = some (.astore_n 2, 1) := by decide +kernel
theorem pm_a0_16 : pm_as (pm_cd pm_mm0) 16 = some (.iconst 0, 1) := by decide +kernel
theorem pm_a0_17 : pm_as (pm_cd pm_mm0) 17 = some (.istore_n 3, 1) := by decide +kernel
theorem pm_a0_18 : pm_as (pm_cd pm_mm0) 18 = some (.iload_n 3, 1) := by decide +kernel
theorem pm_a0_19 : pm_as (pm_cd pm_mm0) 19 = some (.aload_n 0, 1) := by decide +kernel
theorem pm_a0_20 : pm_as (pm_cd pm_mm0) 20 = some (.arraylength, 1) := by decide +kernel
theorem pm_a0_21 : pm_as (pm_cd pm_mm0) 21 = some (.bipush 6, 2) := by decide +kernel
theorem pm_a0_23 : pm_as (pm_cd pm_mm0) 23 = some (.isub, 1) := by decide +kernel
theorem pm_a0_24 : pm_as (pm_cd pm_mm0) 24 = some (.if_icmp .gt 761, 3) := by decide +kernel
theorem pm_a0_27 : pm_as (pm_cd pm_mm0) 27 = some (.aload_n 0, 1) := by decide +kernel
theorem pm_a0_28 : pm_as (pm_cd pm_mm0) 28 = some (.iload_n 3, 1) := by decide +kernel
theorem pm_a0_29 : pm_as (pm_cd pm_mm0) 29 = some (.iaload, 1) := by decide +kernel
theorem pm_a0_30 : pm_as (pm_cd pm_mm0) 30 = some (.bipush 31, 2) := by decide +kernel
theorem pm_a0_32 : pm_as (pm_cd pm_mm0) 32 = some (.iand, 1) := by decide +kernel
theorem pm_a0_33 : pm_as (pm_cd pm_mm0) 33 = some (.tableswitch 746 0 22 #[107, 170, 193, 206, 219, 242, 275, 308, 341, 364, 397, 430, 473, 496, 529, 552, 575, 598, 631, 654, 677, 710, 723], 107) := by decide +kernel
theorem pm_a0_140 : pm_as (pm_cd pm_mm0) 140 = some (.aload_n 1, 1) := by decide +kernel
theorem pm_a0_141 : pm_as (pm_cd pm_mm0) 141 = some (.aload_n 0, 1) := by decide +kernel
theorem pm_a0_142 : pm_as (pm_cd pm_mm0) 142 = some (.iload_n 3, 1) := by decide +kernel
theorem pm_a0_143 : pm_as (pm_cd pm_mm0) 143 = some (.iconst 1, 1) := by decide +kernel
theorem pm_a0_144 : pm_as (pm_cd pm_mm0) 144 = some (.iadd, 1) := by decide +kernel
theorem pm_a0_145 : pm_as (pm_cd pm_mm0) 145 = some (.iaload, 1) := by decide +kernel
theorem pm_a0_146 : pm_as (pm_cd pm_mm0) 146 = some (.aload_n 0, 1) := by decide +kernel
theorem pm_a0_147 : pm_as (pm_cd pm_mm0) 147 = some (.iload_n 3, 1) := by decide +kernel
theorem pm_a0_148 : pm_as (pm_cd pm_mm0) 148 = some (.iconst 2, 1) := by decide +kernel
theorem pm_a0_149 : pm_as (pm_cd pm_mm0) 149 = some (.iadd, 1) := by decide +kernel
theorem pm_a0_150 : pm_as (pm_cd pm_mm0) 150 = some (.iaload, 1) := by decide +kernel
theorem pm_a0_151 : pm_as (pm_cd pm_mm0) 151 = some (.aload_n 0, 1) := by decide +kernel
theorem pm_a0_152 : pm_as (pm_cd pm_mm0) 152 = some (.iload_n 3, 1) := by decide +kernel
theorem pm_a0_153 : pm_as (pm_cd pm_mm0) 153 = some (.iconst 3, 1) := by decide +kernel
theorem pm_a0_154 : pm_as (pm_cd pm_mm0) 154 = some (.iadd, 1) := by decide +kernel
theorem pm_a0_155 : pm_as (pm_cd pm_mm0) 155 = some (.iaload, 1) := by decide +kernel
theorem pm_a0_156 : pm_as (pm_cd pm_mm0) 156 = some (.aload_n 0, 1) := by decide +kernel
theorem pm_a0_157 : pm_as (pm_cd pm_mm0) 157 = some (.iload_n 3, 1) := by decide +kernel
theorem pm_a0_158 : pm_as (pm_cd pm_mm0) 158 = some (.iconst 4, 1) := by decide +kernel
theorem pm_a0_159 : pm_as (pm_cd pm_mm0) 159 = some (.iadd, 1) := by decide +kernel
theorem pm_a0_160 : pm_as (pm_cd pm_mm0) 160 = some (.iaload, 1) := by decide +kernel
theorem pm_a0_161 : pm_as (pm_cd pm_mm0) 161 = some (.aload_n 0, 1) := by decide +kernel
theorem pm_a0_162 : pm_as (pm_cd pm_mm0) 162 = some (.iload_n 3, 1) := by decide +kernel
theorem pm_a0_163 : pm_as (pm_cd pm_mm0) 163 = some (.iconst 5, 1) := by decide +kernel
theorem pm_a0_164 : pm_as (pm_cd pm_mm0) 164 = some (.iadd, 1) := by decide +kernel
theorem pm_a0_165 : pm_as (pm_cd pm_mm0) 165 = some (.iaload, 1) := by decide +kernel
theorem pm_a0_166 : pm_as (pm_cd pm_mm0) 166 = some (.invokevirtual 13, 3) := by decide +kernel
theorem pm_a0_169 : pm_as (pm_cd pm_mm0) 169 = some (.pop, 1) := by decide +kernel
theorem pm_a0_170 : pm_as (pm_cd pm_mm0) 170 = some (.aload_n 2, 1) := by decide +kernel
theorem pm_a0_171 : pm_as (pm_cd pm_mm0) 171 = some (.aload_n 0, 1) := by decide +kernel
theorem pm_a0_172 : pm_as (pm_cd pm_mm0) 172 = some (.iload_n 3, 1) := by decide +kernel
theorem pm_a0_173 : pm_as (pm_cd pm_mm0) 173 = some (.iconst 1, 1) := by decide +kernel
theorem pm_a0_174 : pm_as (pm_cd pm_mm0) 174 = some (.iadd, 1) := by decide +kernel
theorem pm_a0_175 : pm_as (pm_cd pm_mm0) 175 = some (.iaload, 1) := by decide +kernel
theorem pm_a0_176 : pm_as (pm_cd pm_mm0) 176 = some (.aload_n 0, 1) := by decide +kernel
theorem pm_a0_177 : pm_as (pm_cd pm_mm0) 177 = some (.iload_n 3, 1) := by decide +kernel
theorem pm_a0_178 : pm_as (pm_cd pm_mm0) 178 = some (.iconst 2, 1) := by decide +kernel
theorem pm_a0_179 : pm_as (pm_cd pm_mm0) 179 = some (.iadd, 1) := by decide +kernel
theorem pm_a0_180 : pm_as (pm_cd pm_mm0) 180 = some (.iaload, 1) := by decide +kernel
theorem pm_a0_181 : pm_as (pm_cd pm_mm0) 181 = some (.aload_n 0, 1) := by decide +kernel
theorem pm_a0_182 : pm_as (pm_cd pm_mm0) 182 = some (.iload_n 3, 1) := by decide +kernel
theorem pm_a0_183 : pm_as (pm_cd pm_mm0) 183 = some (.iconst 3, 1) := by decide +kernel
theorem pm_a0_184 : pm_as (pm_cd pm_mm0) 184 = some (.iadd, 1) := by decide +kernel
theorem pm_a0_185 : pm_as (pm_cd pm_mm0) 185 = some (.iaload, 1) := by decide +kernel
theorem pm_a0_186 : pm_as (pm_cd pm_mm0) 186 = some (.aload_n 0, 1) := by decide +kernel
theorem pm_a0_187 : pm_as (pm_cd pm_mm0) 187 = some (.iload_n 3, 1) := by decide +kernel
theorem pm_a0_188 : pm_as (pm_cd pm_mm0) 188 = some (.iconst 4, 1) := by decide +kernel
theorem pm_a0_189 : pm_as (pm_cd pm_mm0) 189 = some (.iadd, 1) := by decide +kernel
theorem pm_a0_190 : pm_as (pm_cd pm_mm0) 190 = some (.iaload, 1) := by decide +kernel
theorem pm_a0_191 : pm_as (pm_cd pm_mm0) 191 = some (.aload_n 0, 1) := by decide +kernel
theorem pm_a0_192 : pm_as (pm_cd pm_mm0) 192 = some (.iload_n 3, 1) := by decide +kernel
theorem pm_a0_193 : pm_as (pm_cd pm_mm0) 193 = some (.iconst 5, 1) := by decide +kernel
theorem pm_a0_194 : pm_as (pm_cd pm_mm0) 194 = some (.iadd, 1) := by decide +kernel
theorem pm_a0_195 : pm_as (pm_cd pm_mm0) 195 = some (.iaload, 1) := by decide +kernel
theorem pm_a0_196 : pm_as (pm_cd pm_mm0) 196 = some (.invokevirtual 17, 3) := by decide +kernel
theorem pm_a0_199 : pm_as (pm_cd pm_mm0) 199 = some (.pop, 1) := by decide +kernel
theorem pm_a0_200 : pm_as (pm_cd pm_mm0) 200 = some (.goto 579, 3) := by decide +kernel
theorem pm_a0_203 : pm_as (pm_cd pm_mm0) 203 = some (.aload_n 1, 1) := by decide +kernel
theorem pm_a0_204 : pm_as (pm_cd pm_mm0) 204 = some (.aload_n 0, 1) := by decide +kernel
theorem pm_a0_205 : pm_as (pm_cd pm_mm0) 205 = some (.iload_n 3, 1) := by decide +kernel
theorem pm_a0_206 : pm_as (pm_cd pm_mm0) 206 = some (.iconst 1, 1) := by decide +kernel
theorem pm_a0_207 : pm_as (pm_cd pm_mm0) 207 = some (.iadd, 1) := by decide +kernel
theorem pm_a0_208 : pm_as (pm_cd pm_mm0) 208 = some (.iaload, 1) := by decide +kernel
theorem pm_a0_209 : pm_as (pm_cd pm_mm0) 209 = some (.invokevirtual 18, 3) := by decide +kernel
theorem pm_a0_212 : pm_as (pm_cd pm_mm0) 212 = some (.pop, 1) := by decide +kernel
theorem pm_a0_213 : pm_as (pm_cd pm_mm0) 213 = some (.aload_n 2, 1) := by decide +kernel
theorem pm_a0_214 : pm_as (pm_cd pm_mm0) 214 = some (.aload_n 0, 1) := by decide +kernel
theorem pm_a0_215 : pm_as (pm_cd pm_mm0) 215 = some (.iload_n 3, 1) := by decide +kernel
theorem pm_a0_216 : pm_as (pm_cd pm_mm0) 216 = some (.iconst 1, 1) := by decide +kernel
theorem pm_a0_217 : pm_as (pm_cd pm_mm0) 217 = some (.iadd, 1) := by decide +kernel
theorem pm_a0_218 : pm_as (pm_cd pm_mm0) 218 = some (.iaload, 1) := by decide +kernel
theorem pm_a0_219 : pm_as (pm_cd pm_mm0) 219 = some (.invokevirtual 22, 3) := by decide +kernel
theorem pm_a0_222 : pm_as (pm_cd pm_mm0) 222 = some (.pop, 1) := by decide +kernel
theorem pm_a0_223 : pm_as (pm_cd pm_mm0) 223 = some (.goto 556, 3) := by decide +kernel
theorem pm_a0_226 : pm_as (pm_cd pm_mm0) 226 = some (.aload_n 1, 1) := by decide +kernel
theorem pm_a0_227 : pm_as (pm_cd pm_mm0) 227 = some (.invokevirtual 23, 3) := by decide +kernel
theorem pm_a0_230 : pm_as (pm_cd pm_mm0) 230 = some (.pop, 1) := by decide +kernel
theorem pm_a0_231 : pm_as (pm_cd pm_mm0) 231 = some (.aload_n 2, 1) := by decide +kernel
theorem pm_a0_232 : pm_as (pm_cd pm_mm0) 232 = some (.invokevirtual 27, 3) := by decide +kernel
theorem pm_a0_235 : pm_as (pm_cd pm_mm0) 235 = some (.pop, 1) := by decide +kernel
theorem pm_a0_236 : pm_as (pm_cd pm_mm0) 236 = some (.goto 543, 3) := by decide +kernel
theorem pm_a0_239 : pm_as (pm_cd pm_mm0) 239 = some (.aload_n 1, 1) := by decide +kernel
theorem pm_a0_240 : pm_as (pm_cd pm_mm0) 240 = some (.invokevirtual 28, 3) := by decide +kernel
theorem pm_a0_243 : pm_as (pm_cd pm_mm0) 243 = some (.aload_n 2, 1) := by decide +kernel
theorem pm_a0_244 : pm_as (pm_cd pm_mm0) 244 = some (.invokevirtual 31, 3) := by decide +kernel
theorem pm_a0_247 : pm_as (pm_cd pm_mm0) 247 = some (.if_icmp .eq 532, 3) := by decide +kernel
theorem pm_a0_250 : pm_as (pm_cd pm_mm0) 250 = some (.iconst 0, 1) := by decide +kernel
theorem pm_a0_251 : pm_as (pm_cd pm_mm0) 251 = some (.ireturn, 1) := by decide +kernel
theorem pm_a0_252 : pm_as (pm_cd pm_mm0) 252 = some (.aload_n 1, 1) := by decide +kernel
theorem pm_a0_253 : pm_as (pm_cd pm_mm0) 253 = some (.aload_n 0, 1) := by decide +kernel
theorem pm_a0_254 : pm_as (pm_cd pm_mm0) 254 = some (.iload_n 3, 1) := by decide +kernel
theorem pm_a0_255 : pm_as (pm_cd pm_mm0) 255 = some (.iconst 1, 1) := by decide +kernel
theorem pm_a0_256 : pm_as (pm_cd pm_mm0) 256 = some (.iadd, 1) := by decide +kernel
theorem pm_a0_257 : pm_as (pm_cd pm_mm0) 257 = some (.iaload, 1) := by decide +kernel
theorem pm_a0_258 : pm_as (pm_cd pm_mm0) 258 = some (.invokevirtual 32, 3) := by decide +kernel
theorem pm_a0_261 : pm_as (pm_cd pm_mm0) 261 = some (.pop, 1) := by decide +kernel
theorem pm_a0_262 : pm_as (pm_cd pm_mm0) 262 = some (.aload_n 2, 1) := by decide +kernel
theorem pm_a0_263 : pm_as (pm_cd pm_mm0) 263 = some (.aload_n 0, 1) := by decide +kernel
theorem pm_a0_264 : pm_as (pm_cd pm_mm0) 264 = some (.iload_n 3, 1) := by decide +kernel
theorem pm_a0_265 : pm_as (pm_cd pm_mm0) 265 = some (.iconst 1, 1) := by decide +kernel
theorem pm_a0_266 : pm_as (pm_cd pm_mm0) 266 = some (.iadd, 1) := by decide +kernel
theorem pm_a0_267 : pm_as (pm_cd pm_mm0) 267 = some (.iaload, 1) := by decide +kernel
theorem pm_a0_268 : pm_as (pm_cd pm_mm0) 268 = some (.invokevirtual 35, 3) := by decide +kernel
theorem pm_a0_271 : pm_as (pm_cd pm_mm0) 271 = some (.pop, 1) := by decide +kernel
theorem pm_a0_272 : pm_as (pm_cd pm_mm0) 272 = some (.goto 507, 3) := by decide +kernel
theorem pm_a0_275 : pm_as (pm_cd pm_mm0) 275 = some (.aload_n 1, 1) := by decide +kernel
theorem pm_a0_276 : pm_as (pm_cd pm_mm0) 276 = some (.aload_n 0, 1) := by decide +kernel
theorem pm_a0_277 : pm_as (pm_cd pm_mm0) 277 = some (.iload_n 3, 1) := by decide +kernel
theorem pm_a0_278 : pm_as (pm_cd pm_mm0) 278 = some (.iconst 1, 1) := by decide +kernel
theorem pm_a0_279 : pm_as (pm_cd pm_mm0) 279 = some (.iadd, 1) := by decide +kernel
theorem pm_a0_280 : pm_as (pm_cd pm_mm0) 280 = some (.iaload, 1) := by decide +kernel
theorem pm_a0_281 : pm_as (pm_cd pm_mm0) 281 = some (.aload_n 0, 1) := by decide +kernel
theorem pm_a0_282 : pm_as (pm_cd pm_mm0) 282 = some (.iload_n 3, 1) := by decide +kernel
theorem pm_a0_283 : pm_as (pm_cd pm_mm0) 283 = some (.iconst 2, 1) := by decide +kernel
theorem pm_a0_284 : pm_as (pm_cd pm_mm0) 284 = some (.iadd, 1) := by decide +kernel
theorem pm_a0_285 : pm_as (pm_cd pm_mm0) 285 = some (.iaload, 1) := by decide +kernel
theorem pm_a0_286 : pm_as (pm_cd pm_mm0) 286 = some (.invokevirtual 36, 3) := by decide +kernel
theorem pm_a0_289 : pm_as (pm_cd pm_mm0) 289 = some (.pop, 1) := by decide +kernel
theorem pm_a0_290 : pm_as (pm_cd pm_mm0) 290 = some (.aload_n 2, 1) := by decide +kernel
theorem pm_a0_291 : pm_as (pm_cd pm_mm0) 291 = some (.aload_n 0, 1) := by decide +kernel
theorem pm_a0_292 : pm_as (pm_cd pm_mm0) 292 = some (.iload_n 3, 1) := by decide +kernel
theorem pm_a0_293 : pm_as (pm_cd pm_mm0) 293 = some (.iconst 1, 1) := by decide +kernel
theorem pm_a0_294 : pm_as (pm_cd pm_mm0) 294 = some (.iadd, 1) := by decide +kernel
theorem pm_a0_295 : pm_as (pm_cd pm_mm0) 295 = some (.iaload, 1) := by decide +kernel
theorem pm_a0_296 : pm_as (pm_cd pm_mm0) 296 = some (.aload_n 0, 1) := by decide +kernel
theorem pm_a0_297 : pm_as (pm_cd pm_mm0) 297 = some (.iload_n 3, 1) := by decide +kernel
theorem pm_a0_298 : pm_as (pm_cd pm_mm0) 298 = some (.iconst 2, 1) := by decide +kernel
theorem pm_a0_299 : pm_as (pm_cd pm_mm0) 299 = some (.iadd, 1) := by decide +kernel
theorem pm_a0_300 : pm_as (pm_cd pm_mm0) 300 = some (.iaload, 1) := by decide +kernel
theorem pm_a0_301 : pm_as (pm_cd pm_mm0) 301 = some (.invokevirtual 40, 3) := by decide +kernel
theorem pm_a0_304 : pm_as (pm_cd pm_mm0) 304 = some (.pop, 1) := by decide +kernel
theorem pm_a0_305 : pm_as (pm_cd pm_mm0) 305 = some (.goto 474, 3) := by decide +kernel
theorem pm_a0_308 : pm_as (pm_cd pm_mm0) 308 = some (.aload_n 1, 1) := by decide +kernel
theorem pm_a0_309 : pm_as (pm_cd pm_mm0) 309 = some (.aload_n 0, 1) := by decide +kernel
theorem pm_a0_310 : pm_as (pm_cd pm_mm0) 310 = some (.iload_n 3, 1) := by decide +kernel
theorem pm_a0_311 : pm_as (pm_cd pm_mm0) 311 = some (.iconst 1, 1) := by decide +kernel
theorem pm_a0_312 : pm_as (pm_cd pm_mm0) 312 = some (.iadd, 1) := by decide +kernel
theorem pm_a0_313 : pm_as (pm_cd pm_mm0) 313 = some (.iaload, 1) := by decide +kernel
theorem pm_a0_314 : pm_as (pm_cd pm_mm0) 314 = some (.aload_n 0, 1) := by decide +kernel
theorem pm_a0_315 : pm_as (pm_cd pm_mm0) 315 = some (.iload_n 3, 1) := by decide +kernel
theorem pm_a0_316 : pm_as (pm_cd pm_mm0) 316 = some (.iconst 2, 1) := by decide +kernel
theorem pm_a0_317 : pm_as (pm_cd pm_mm0) 317 = some (.iadd, 1) := by decide +kernel
theorem pm_a0_318 : pm_as (pm_cd pm_mm0) 318 = some (.iaload, 1) := by decide +kernel
theorem pm_a0_319 : pm_as (pm_cd pm_mm0) 319 = some (.invokevirtual 41, 3) := by decide +kernel
theorem pm_a0_322 : pm_as (pm_cd pm_mm0) 322 = some (.pop, 1) := by decide +kernel
theorem pm_a0_323 : pm_as (pm_cd pm_mm0) 323 = some (.aload_n 2, 1) := by decide +kernel
theorem pm_a0_324 : pm_as (pm_cd pm_mm0) 324 = some (.aload_n 0, 1) := by decide +kernel
theorem pm_a0_325 : pm_as (pm_cd pm_mm0) 325 = some (.iload_n 3, 1) := by decide +kernel
theorem pm_a0_326 : pm_as (pm_cd pm_mm0) 326 = some (.iconst 1, 1) := by decide +kernel
theorem pm_a0_327 : pm_as (pm_cd pm_mm0) 327 = some (.iadd, 1) := by decide +kernel
theorem pm_a0_328 : pm_as (pm_cd pm_mm0) 328 = some (.iaload, 1) := by decide +kernel
theorem pm_a0_329 : pm_as (pm_cd pm_mm0) 329 = some (.aload_n 0, 1) := by decide +kernel
theorem pm_a0_330 : pm_as (pm_cd pm_mm0) 330 = some (.iload_n 3, 1) := by decide +kernel
theorem pm_a0_331 : pm_as (pm_cd pm_mm0) 331 = some (.iconst 2, 1) := by decide +kernel
theorem pm_a0_332 : pm_as (pm_cd pm_mm0) 332 = some (.iadd, 1) := by decide +kernel
theorem pm_a0_333 : pm_as (pm_cd pm_mm0) 333 = some (.iaload, 1) := by decide +kernel
theorem pm_a0_334 : pm_as (pm_cd pm_mm0) 334 = some (.invokevirtual 44, 3) := by decide +kernel
theorem pm_a0_337 : pm_as (pm_cd pm_mm0) 337 = some (.pop, 1) := by decide +kernel
theorem pm_a0_338 : pm_as (pm_cd pm_mm0) 338 = some (.goto 441, 3) := by decide +kernel
theorem pm_a0_341 : pm_as (pm_cd pm_mm0) 341 = some (.aload_n 1, 1) := by decide +kernel
theorem pm_a0_342 : pm_as (pm_cd pm_mm0) 342 = some (.aload_n 0, 1) := by decide +kernel
theorem pm_a0_343 : pm_as (pm_cd pm_mm0) 343 = some (.iload_n 3, 1) := by decide +kernel
theorem pm_a0_344 : pm_as (pm_cd pm_mm0) 344 = some (.iconst 1, 1) := by decide +kernel
theorem pm_a0_345 : pm_as (pm_cd pm_mm0) 345 = some (.iadd, 1) := by decide +kernel
theorem pm_a0_346 : pm_as (pm_cd pm_mm0) 346 = some (.iaload, 1) := by decide +kernel
theorem pm_a0_347 : pm_as (pm_cd pm_mm0) 347 = some (.aload_n 0, 1) := by decide +kernel
theorem pm_a0_348 : pm_as (pm_cd pm_mm0) 348 = some (.iload_n 3, 1) := by decide +kernel
theorem pm_a0_349 : pm_as (pm_cd pm_mm0) 349 = some (.iconst 2, 1) := by decide +kernel
theorem pm_a0_350 : pm_as (pm_cd pm_mm0) 350 = some (.iadd, 1) := by decide +kernel
theorem pm_a0_351 : pm_as (pm_cd pm_mm0) 351 = some (.iaload, 1) := by decide +kernel
theorem pm_a0_352 : pm_as (pm_cd pm_mm0) 352 = some (.invokevirtual 45, 3) := by decide +kernel
theorem pm_a0_355 : pm_as (pm_cd pm_mm0) 355 = some (.pop, 1) := by decide +kernel
theorem pm_a0_356 : pm_as (pm_cd pm_mm0) 356 = some (.aload_n 2, 1) := by decide +kernel
theorem pm_a0_357 : pm_as (pm_cd pm_mm0) 357 = some (.aload_n 0, 1) := by decide +kernel
theorem pm_a0_358 : pm_as (pm_cd pm_mm0) 358 = some (.iload_n 3, 1) := by decide +kernel
theorem pm_a0_359 : pm_as (pm_cd pm_mm0) 359 = some (.iconst 1, 1) := by decide +kernel
theorem pm_a0_360 : pm_as (pm_cd pm_mm0) 360 = some (.iadd, 1) := by decide +kernel
theorem pm_a0_361 : pm_as (pm_cd pm_mm0) 361 = some (.iaload, 1) := by decide +kernel
theorem pm_a0_362 : pm_as (pm_cd pm_mm0) 362 = some (.aload_n 0, 1) := by decide +kernel
theorem pm_a0_363 : pm_as (pm_cd pm_mm0) 363 = some (.iload_n 3, 1) := by decide +kernel
theorem pm_a0_364 : pm_as (pm_cd pm_mm0) 364 = some (.iconst 2, 1) := by decide +kernel
theorem pm_a0_365 : pm_as (pm_cd pm_mm0) 365 = some (.iadd, 1) := by decide +kernel
theorem pm_a0_366 : pm_as (pm_cd pm_mm0) 366 = some (.iaload, 1) := by decide +kernel
theorem pm_a0_367 : pm_as (pm_cd pm_mm0) 367 = some (.invokevirtual 48, 3) := by decide +kernel
theorem pm_a0_370 : pm_as (pm_cd pm_mm0) 370 = some (.pop, 1) := by decide +kernel
theorem pm_a0_371 : pm_as (pm_cd pm_mm0) 371 = some (.goto 408, 3) := by decide +kernel
theorem pm_a0_374 : pm_as (pm_cd pm_mm0) 374 = some (.aload_n 1, 1) := by decide +kernel
theorem pm_a0_375 : pm_as (pm_cd pm_mm0) 375 = some (.aload_n 0, 1) := by decide +kernel
theorem pm_a0_376 : pm_as (pm_cd pm_mm0) 376 = some (.iload_n 3, 1) := by decide +kernel
theorem pm_a0_377 : pm_as (pm_cd pm_mm0) 377 = some (.iconst 1, 1) := by decide +kernel
theorem pm_a0_378 : pm_as (pm_cd pm_mm0) 378 = some (.iadd, 1) := by decide +kernel
theorem pm_a0_379 : pm_as (pm_cd pm_mm0) 379 = some (.iaload, 1) := by decide +kernel
theorem pm_a0_380 : pm_as (pm_cd pm_mm0) 380 = some (.invokevirtual 49, 3) := by decide +kernel
theorem pm_a0_383 : pm_as (pm_cd pm_mm0) 383 = some (.pop, 1) := by decide +kernel
theorem pm_a0_384 : pm_as (pm_cd pm_mm0) 384 = some (.aload_n 2, 1) := by decide +kernel
theorem pm_a0_385 : pm_as (pm_cd pm_mm0) 385 = some (.aload_n 0, 1) := by decide +kernel
theorem pm_a0_386 : pm_as (pm_cd pm_mm0) 386 = some (.iload_n 3, 1) := by decide +kernel
theorem pm_a0_387 : pm_as (pm_cd pm_mm0) 387 = some (.iconst 1, 1) := by decide +kernel
theorem pm_a0_388 : pm_as (pm_cd pm_mm0) 388 = some (.iadd, 1) := by decide +kernel
theorem pm_a0_389 : pm_as (pm_cd pm_mm0) 389 = some (.iaload, 1) := by decide +kernel
theorem pm_a0_390 : pm_as (pm_cd pm_mm0) 390 = some (.invokevirtual 52, 3) := by decide +kernel
theorem pm_a0_393 : pm_as (pm_cd pm_mm0) 393 = some (.pop, 1) := by decide +kernel
theorem pm_a0_394 : pm_as (pm_cd pm_mm0) 394 = some (.goto 385, 3) := by decide +kernel
theorem pm_a0_397 : pm_as (pm_cd pm_mm0) 397 = some (.aload_n 1, 1) := by decide +kernel
theorem pm_a0_398 : pm_as (pm_cd pm_mm0) 398 = some (.aload_n 0, 1) := by decide +kernel
theorem pm_a0_399 : pm_as (pm_cd pm_mm0) 399 = some (.iload_n 3, 1) := by decide +kernel
theorem pm_a0_400 : pm_as (pm_cd pm_mm0) 400 = some (.iconst 1, 1) := by decide +kernel
theorem pm_a0_401 : pm_as (pm_cd pm_mm0) 401 = some (.iadd, 1) := by decide +kernel
theorem pm_a0_402 : pm_as (pm_cd pm_mm0) 402 = some (.iaload, 1) := by decide +kernel
theorem pm_a0_403 : pm_as (pm_cd pm_mm0) 403 = some (.aload_n 0, 1) := by decide +kernel
theorem pm_a0_404 : pm_as (pm_cd pm_mm0) 404 = some (.iload_n 3, 1) := by decide +kernel
theorem pm_a0_405 : pm_as (pm_cd pm_mm0) 405 = some (.iconst 2, 1) := by decide +kernel
theorem pm_a0_406 : pm_as (pm_cd pm_mm0) 406 = some (.iadd, 1) := by decide +kernel
theorem pm_a0_407 : pm_as (pm_cd pm_mm0) 407 = some (.iaload, 1) := by decide +kernel
theorem pm_a0_408 : pm_as (pm_cd pm_mm0) 408 = some (.invokevirtual 53, 3) := by decide +kernel
theorem pm_a0_411 : pm_as (pm_cd pm_mm0) 411 = some (.pop, 1) := by decide +kernel
theorem pm_a0_412 : pm_as (pm_cd pm_mm0) 412 = some (.aload_n 2, 1) := by decide +kernel
theorem pm_a0_413 : pm_as (pm_cd pm_mm0) 413 = some (.aload_n 0, 1) := by decide +kernel
theorem pm_a0_414 : pm_as (pm_cd pm_mm0) 414 = some (.iload_n 3, 1) := by decide +kernel
theorem pm_a0_415 : pm_as (pm_cd pm_mm0) 415 = some (.iconst 1, 1) := by decide +kernel
theorem pm_a0_416 : pm_as (pm_cd pm_mm0) 416 = some (.iadd, 1) := by decide +kernel
theorem pm_a0_417 : pm_as (pm_cd pm_mm0) 417 = some (.iaload, 1) := by decide +kernel
theorem pm_a0_418 : pm_as (pm_cd pm_mm0) 418 = some (.aload_n 0, 1) := by decide +kernel
theorem pm_a0_419 : pm_as (pm_cd pm_mm0) 419 = some (.iload_n 3, 1) := by decide +kernel
theorem pm_a0_420 : pm_as (pm_cd pm_mm0) 420 = some (.iconst 2, 1) := by decide +kernel
theorem pm_a0_421 : pm_as (pm_cd pm_mm0) 421 = some (.iadd, 1) := by decide +kernel
theorem pm_a0_422 : pm_as (pm_cd pm_mm0) 422 = some (.iaload, 1) := by decide +kernel
theorem pm_a0_423 : pm_as (pm_cd pm_mm0) 423 = some (.invokevirtual 56, 3) := by decide +kernel
theorem pm_a0_426 : pm_as (pm_cd pm_mm0) 426 = some (.pop, 1) := by decide +kernel
theorem pm_a0_427 : pm_as (pm_cd pm_mm0) 427 = some (.goto 352, 3) := by decide +kernel
theorem pm_a0_430 : pm_as (pm_cd pm_mm0) 430 = some (.aload_n 1, 1) := by decide +kernel
theorem pm_a0_431 : pm_as (pm_cd pm_mm0) 431 = some (.aload_n 0, 1) := by decide +kernel
theorem pm_a0_432 : pm_as (pm_cd pm_mm0) 432 = some (.iload_n 3, 1) := by decide +kernel
theorem pm_a0_433 : pm_as (pm_cd pm_mm0) 433 = some (.iconst 1, 1) := by decide +kernel
theorem pm_a0_434 : pm_as (pm_cd pm_mm0) 434 = some (.iadd, 1) := by decide +kernel
theorem pm_a0_435 : pm_as (pm_cd pm_mm0) 435 = some (.iaload, 1) := by decide +kernel
theorem pm_a0_436 : pm_as (pm_cd pm_mm0) 436 = some (.aload_n 0, 1) := by decide +kernel
theorem pm_a0_437 : pm_as (pm_cd pm_mm0) 437 = some (.iload_n 3, 1) := by decide +kernel
theorem pm_a0_438 : pm_as (pm_cd pm_mm0) 438 = some (.iconst 2, 1) := by decide +kernel
theorem pm_a0_439 : pm_as (pm_cd pm_mm0) 439 = some (.iadd, 1) := by decide +kernel
theorem pm_a0_440 : pm_as (pm_cd pm_mm0) 440 = some (.iaload, 1) := by decide +kernel
theorem pm_a0_441 : pm_as (pm_cd pm_mm0) 441 = some (.invokevirtual 57, 3) := by decide +kernel
theorem pm_a0_444 : pm_as (pm_cd pm_mm0) 444 = some (.pop, 1) := by decide +kernel
theorem pm_a0_445 : pm_as (pm_cd pm_mm0) 445 = some (.aload_n 2, 1) := by decide +kernel
theorem pm_a0_446 : pm_as (pm_cd pm_mm0) 446 = some (.aload_n 0, 1) := by decide +kernel
theorem pm_a0_447 : pm_as (pm_cd pm_mm0) 447 = some (.iload_n 3, 1) := by decide +kernel
theorem pm_a0_448 : pm_as (pm_cd pm_mm0) 448 = some (.iconst 1, 1) := by decide +kernel
theorem pm_a0_449 : pm_as (pm_cd pm_mm0) 449 = some (.iadd, 1) := by decide +kernel
theorem pm_a0_450 : pm_as (pm_cd pm_mm0) 450 = some (.iaload, 1) := by decide +kernel
theorem pm_a0_451 : pm_as (pm_cd pm_mm0) 451 = some (.aload_n 0, 1) := by decide +kernel
theorem pm_a0_452 : pm_as (pm_cd pm_mm0) 452 = some (.iload_n 3, 1) := by decide +kernel
theorem pm_a0_453 : pm_as (pm_cd pm_mm0) 453 = some (.iconst 2, 1) := by decide +kernel
theorem pm_a0_454 : pm_as (pm_cd pm_mm0) 454 = some (.iadd, 1) := by decide +kernel
theorem pm_a0_455 : pm_as (pm_cd pm_mm0) 455 = some (.iaload, 1) := by decide +kernel
theorem pm_a0_456 : pm_as (pm_cd pm_mm0) 456 = some (.invokevirtual 60, 3) := by decide +kernel
theorem pm_a0_459 : pm_as (pm_cd pm_mm0) 459 = some (.pop, 1) := by decide +kernel
theorem pm_a0_460 : pm_as (pm_cd pm_mm0) 460 = some (.goto 319, 3) := by decide +kernel
theorem pm_a0_463 : pm_as (pm_cd pm_mm0) 463 = some (.aload_n 1, 1) := by decide +kernel
theorem pm_a0_464 : pm_as (pm_cd pm_mm0) 464 = some (.aload_n 0, 1) := by decide +kernel
theorem pm_a0_465 : pm_as (pm_cd pm_mm0) 465 = some (.iload_n 3, 1) := by decide +kernel
theorem pm_a0_466 : pm_as (pm_cd pm_mm0) 466 = some (.iconst 1, 1) := by decide +kernel
theorem pm_a0_467 : pm_as (pm_cd pm_mm0) 467 = some (.iadd, 1) := by decide +kernel
theorem pm_a0_468 : pm_as (pm_cd pm_mm0) 468 = some (.iaload, 1) := by decide +kernel
theorem pm_a0_469 : pm_as (pm_cd pm_mm0) 469 = some (.aload_n 0, 1) := by decide +kernel
theorem pm_a0_470 : pm_as (pm_cd pm_mm0) 470 = some (.iload_n 3, 1) := by decide +kernel
theorem pm_a0_471 : pm_as (pm_cd pm_mm0) 471 = some (.iconst 2, 1) := by decide +kernel
theorem pm_a0_472 : pm_as (pm_cd pm_mm0) 472 = some (.iadd, 1) := by decide +kernel
theorem pm_a0_473 : pm_as (pm_cd pm_mm0) 473 = some (.iaload, 1) := by decide +kernel
theorem pm_a0_474 : pm_as (pm_cd pm_mm0) 474 = some (.aload_n 0, 1) := by decide +kernel
theorem pm_a0_475 : pm_as (pm_cd pm_mm0) 475 = some (.iload_n 3, 1) := by decide +kernel
theorem pm_a0_476 : pm_as (pm_cd pm_mm0) 476 = some (.iconst 3, 1) := by decide +kernel
theorem pm_a0_477 : pm_as (pm_cd pm_mm0) 477 = some (.iadd, 1) := by decide +kernel
theorem pm_a0_478 : pm_as (pm_cd pm_mm0) 478 = some (.iaload, 1) := by decide +kernel
theorem pm_a0_479 : pm_as (pm_cd pm_mm0) 479 = some (.invokevirtual 61, 3) := by decide +kernel
theorem pm_a0_482 : pm_as (pm_cd pm_mm0) 482 = some (.pop, 1) := by decide +kernel
theorem pm_a0_483 : pm_as (pm_cd pm_mm0) 483 = some (.aload_n 2, 1) := by decide +kernel
theorem pm_a0_484 : pm_as (pm_cd pm_mm0) 484 = some (.aload_n 0, 1) := by decide +kernel
theorem pm_a0_485 : pm_as (pm_cd pm_mm0) 485 = some (.iload_n 3, 1) := by decide +kernel
theorem pm_a0_486 : pm_as (pm_cd pm_mm0) 486 = some (.iconst 1, 1) := by decide +kernel
theorem pm_a0_487 : pm_as (pm_cd pm_mm0) 487 = some (.iadd, 1) := by decide +kernel
theorem pm_a0_488 : pm_as (pm_cd pm_mm0) 488 = some (.iaload, 1) := by decide +kernel
theorem pm_a0_489 : pm_as (pm_cd pm_mm0) 489 = some (.aload_n 0, 1) := by decide +kernel
theorem pm_a0_490 : pm_as (pm_cd pm_mm0) 490 = some (.iload_n 3, 1) := by decide +kernel
theorem pm_a0_491 : pm_as (pm_cd pm_mm0) 491 = some (.iconst 2, 1) := by decide +kernel
theorem pm_a0_492 : pm_as (pm_cd pm_mm0) 492 = some (.iadd, 1) := by decide +kernel
theorem pm_a0_493 : pm_as (pm_cd pm_mm0) 493 = some (.iaload, 1) := by decide +kernel
theorem pm_a0_494 : pm_as (pm_cd pm_mm0) 494 = some (.aload_n 0, 1) := by decide +kernel
theorem pm_a0_495 : pm_as (pm_cd pm_mm0) 495 = some (.iload_n 3, 1) := by decide +kernel
theorem pm_a0_496 : pm_as (pm_cd pm_mm0) 496 = some (.iconst 3, 1) := by decide +kernel
theorem pm_a0_497 : pm_as (pm_cd pm_mm0) 497 = some (.iadd, 1) := by decide +kernel
theorem pm_a0_498 : pm_as (pm_cd pm_mm0) 498 = some (.iaload, 1) := by decide +kernel
theorem pm_a0_499 : pm_as (pm_cd pm_mm0) 499 = some (.invokevirtual 65, 3) := by decide +kernel
theorem pm_a0_502 : pm_as (pm_cd pm_mm0) 502 = some (.pop, 1) := by decide +kernel
theorem pm_a0_503 : pm_as (pm_cd pm_mm0) 503 = some (.goto 276, 3) := by decide +kernel
theorem pm_a0_506 : pm_as (pm_cd pm_mm0) 506 = some (.aload_n 1, 1) := by decide +kernel
theorem pm_a0_507 : pm_as (pm_cd pm_mm0) 507 = some (.aload_n 0, 1) := by decide +kernel
theorem pm_a0_508 : pm_as (pm_cd pm_mm0) 508 = some (.iload_n 3, 1) := by decide +kernel
theorem pm_a0_509 : pm_as (pm_cd pm_mm0) 509 = some (.iconst 1, 1) := by decide +kernel
theorem pm_a0_510 : pm_as (pm_cd pm_mm0) 510 = some (.iadd, 1) := by decide +kernel
theorem pm_a0_511 : pm_as (pm_cd pm_mm0) 511 = some (.iaload, 1) := by decide +kernel
theorem pm_a0_512 : pm_as (pm_cd pm_mm0) 512 = some (.invokevirtual 66, 3) := by decide +kernel
theorem pm_a0_515 : pm_as (pm_cd pm_mm0) 515 = some (.pop, 1) := by decide +kernel
theorem pm_a0_516 : pm_as (pm_cd pm_mm0) 516 = some (.aload_n 2, 1) := by decide +kernel
theorem pm_a0_517 : pm_as (pm_cd pm_mm0) 517 = some (.aload_n 0, 1) := by decide +kernel
theorem pm_a0_518 : pm_as (pm_cd pm_mm0) 518 = some (.iload_n 3, 1) := by decide +kernel
theorem pm_a0_519 : pm_as (pm_cd pm_mm0) 519 = some (.iconst 1, 1) := by decide +kernel
theorem pm_a0_520 : pm_as (pm_cd pm_mm0) 520 = some (.iadd, 1) := by decide +kernel
theorem pm_a0_521 : pm_as (pm_cd pm_mm0) 521 = some (.iaload, 1) := by decide +kernel
theorem pm_a0_522 : pm_as (pm_cd pm_mm0) 522 = some (.invokevirtual 69, 3) := by decide +kernel
theorem pm_a0_525 : pm_as (pm_cd pm_mm0) 525 = some (.pop, 1) := by decide +kernel
theorem pm_a0_526 : pm_as (pm_cd pm_mm0) 526 = some (.goto 253, 3) := by decide +kernel
theorem pm_a0_529 : pm_as (pm_cd pm_mm0) 529 = some (.aload_n 1, 1) := by decide +kernel
theorem pm_a0_530 : pm_as (pm_cd pm_mm0) 530 = some (.aload_n 0, 1) := by decide +kernel
theorem pm_a0_531 : pm_as (pm_cd pm_mm0) 531 = some (.iload_n 3, 1) := by decide +kernel
theorem pm_a0_532 : pm_as (pm_cd pm_mm0) 532 = some (.iconst 1, 1) := by decide +kernel
theorem pm_a0_533 : pm_as (pm_cd pm_mm0) 533 = some (.iadd, 1) := by decide +kernel
theorem pm_a0_534 : pm_as (pm_cd pm_mm0) 534 = some (.iaload, 1) := by decide +kernel
theorem pm_a0_535 : pm_as (pm_cd pm_mm0) 535 = some (.aload_n 0, 1) := by decide +kernel
theorem pm_a0_536 : pm_as (pm_cd pm_mm0) 536 = some (.iload_n 3, 1) := by decide +kernel
theorem pm_a0_537 : pm_as (pm_cd pm_mm0) 537 = some (.iconst 2, 1) := by decide +kernel
theorem pm_a0_538 : pm_as (pm_cd pm_mm0) 538 = some (.iadd, 1) := by decide +kernel
theorem pm_a0_539 : pm_as (pm_cd pm_mm0) 539 = some (.iaload, 1) := by decide +kernel
theorem pm_a0_540 : pm_as (pm_cd pm_mm0) 540 = some (.invokevirtual 70, 3) := by decide +kernel
theorem pm_a0_543 : pm_as (pm_cd pm_mm0) 543 = some (.pop, 1) := by decide +kernel
theorem pm_a0_544 : pm_as (pm_cd pm_mm0) 544 = some (.aload_n 2, 1) := by decide +kernel
theorem pm_a0_545 : pm_as (pm_cd pm_mm0) 545 = some (.aload_n 0, 1) := by decide +kernel
theorem pm_a0_546 : pm_as (pm_cd pm_mm0) 546 = some (.iload_n 3, 1) := by decide +kernel
theorem pm_a0_547 : pm_as (pm_cd pm_mm0) 547 = some (.iconst 1, 1) := by decide +kernel
theorem pm_a0_548 : pm_as (pm_cd pm_mm0) 548 = some (.iadd, 1) := by decide +kernel
theorem pm_a0_549 : pm_as (pm_cd pm_mm0) 549 = some (.iaload, 1) := by decide +kernel
theorem pm_a0_550 : pm_as (pm_cd pm_mm0) 550 = some (.aload_n 0, 1) := by decide +kernel
theorem pm_a0_551 : pm_as (pm_cd pm_mm0) 551 = some (.iload_n 3, 1) := by decide +kernel
theorem pm_a0_552 : pm_as (pm_cd pm_mm0) 552 = some (.iconst 2, 1) := by decide +kernel
theorem pm_a0_553 : pm_as (pm_cd pm_mm0) 553 = some (.iadd, 1) := by decide +kernel
theorem pm_a0_554 : pm_as (pm_cd pm_mm0) 554 = some (.iaload, 1) := by decide +kernel
theorem pm_a0_555 : pm_as (pm_cd pm_mm0) 555 = some (.invokevirtual 73, 3) := by decide +kernel
theorem pm_a0_558 : pm_as (pm_cd pm_mm0) 558 = some (.pop, 1) := by decide +kernel
theorem pm_a0_559 : pm_as (pm_cd pm_mm0) 559 = some (.goto 220, 3) := by decide +kernel
theorem pm_a0_562 : pm_as (pm_cd pm_mm0) 562 = some (.aload_n 1, 1) := by decide +kernel
theorem pm_a0_563 : pm_as (pm_cd pm_mm0) 563 = some (.aload_n 0, 1) := by decide +kernel
theorem pm_a0_564 : pm_as (pm_cd pm_mm0) 564 = some (.iload_n 3, 1) := by decide +kernel
theorem pm_a0_565 : pm_as (pm_cd pm_mm0) 565 = some (.iconst 1, 1) := by decide +kernel
theorem pm_a0_566 : pm_as (pm_cd pm_mm0) 566 = some (.iadd, 1) := by decide +kernel
theorem pm_a0_567 : pm_as (pm_cd pm_mm0) 567 = some (.iaload, 1) := by decide +kernel
theorem pm_a0_568 : pm_as (pm_cd pm_mm0) 568 = some (.invokevirtual 74, 3) := by decide +kernel
theorem pm_a0_571 : pm_as (pm_cd pm_mm0) 571 = some (.pop, 1) := by decide +kernel
theorem pm_a0_572 : pm_as (pm_cd pm_mm0) 572 = some (.aload_n 2, 1) := by decide +kernel
theorem pm_a0_573 : pm_as (pm_cd pm_mm0) 573 = some (.aload_n 0, 1) := by decide +kernel
theorem pm_a0_574 : pm_as (pm_cd pm_mm0) 574 = some (.iload_n 3, 1) := by decide +kernel
theorem pm_a0_575 : pm_as (pm_cd pm_mm0) 575 = some (.iconst 1, 1) := by decide +kernel
theorem pm_a0_576 : pm_as (pm_cd pm_mm0) 576 = some (.iadd, 1) := by decide +kernel
theorem pm_a0_577 : pm_as (pm_cd pm_mm0) 577 = some (.iaload, 1) := by decide +kernel
theorem pm_a0_578 : pm_as (pm_cd pm_mm0) 578 = some (.invokevirtual 77, 3) := by decide +kernel
theorem pm_a0_581 : pm_as (pm_cd pm_mm0) 581 = some (.pop, 1) := by decide +kernel
theorem pm_a0_582 : pm_as (pm_cd pm_mm0) 582 = some (.goto 197, 3) := by decide +kernel
theorem pm_a0_585 : pm_as (pm_cd pm_mm0) 585 = some (.aload_n 1, 1) := by decide +kernel
theorem pm_a0_586 : pm_as (pm_cd pm_mm0) 586 = some (.aload_n 0, 1) := by decide +kernel
theorem pm_a0_587 : pm_as (pm_cd pm_mm0) 587 = some (.iload_n 3, 1) := by decide +kernel
theorem pm_a0_588 : pm_as (pm_cd pm_mm0) 588 = some (.iconst 1, 1) := by decide +kernel
theorem pm_a0_589 : pm_as (pm_cd pm_mm0) 589 = some (.iadd, 1) := by decide +kernel
theorem pm_a0_590 : pm_as (pm_cd pm_mm0) 590 = some (.iaload, 1) := by decide +kernel
theorem pm_a0_591 : pm_as (pm_cd pm_mm0) 591 = some (.invokevirtual 78, 3) := by decide +kernel
theorem pm_a0_594 : pm_as (pm_cd pm_mm0) 594 = some (.pop, 1) := by decide +kernel
theorem pm_a0_595 : pm_as (pm_cd pm_mm0) 595 = some (.aload_n 2, 1) := by decide +kernel
theorem pm_a0_596 : pm_as (pm_cd pm_mm0) 596 = some (.aload_n 0, 1) := by decide +kernel
theorem pm_a0_597 : pm_as (pm_cd pm_mm0) 597 = some (.iload_n 3, 1) := by decide +kernel
theorem pm_a0_598 : pm_as (pm_cd pm_mm0) 598 = some (.iconst 1, 1) := by decide +kernel
theorem pm_a0_599 : pm_as (pm_cd pm_mm0) 599 = some (.iadd, 1) := by decide +kernel
theorem pm_a0_600 : pm_as (pm_cd pm_mm0) 600 = some (.iaload, 1) := by decide +kernel
theorem pm_a0_601 : pm_as (pm_cd pm_mm0) 601 = some (.invokevirtual 81, 3) := by decide +kernel
theorem pm_a0_604 : pm_as (pm_cd pm_mm0) 604 = some (.pop, 1) := by decide +kernel
theorem pm_a0_605 : pm_as (pm_cd pm_mm0) 605 = some (.goto 174, 3) := by decide +kernel
theorem pm_a0_608 : pm_as (pm_cd pm_mm0) 608 = some (.aload_n 1, 1) := by decide +kernel
theorem pm_a0_609 : pm_as (pm_cd pm_mm0) 609 = some (.aload_n 0, 1) := by decide +kernel
theorem pm_a0_610 : pm_as (pm_cd pm_mm0) 610 = some (.iload_n 3, 1) := by decide +kernel
theorem pm_a0_611 : pm_as (pm_cd pm_mm0) 611 = some (.iconst 1, 1) := by decide +kernel
theorem pm_a0_612 : pm_as (pm_cd pm_mm0) 612 = some (.iadd, 1) := by decide +kernel
theorem pm_a0_613 : pm_as (pm_cd pm_mm0) 613 = some (.iaload, 1) := by decide +kernel
theorem pm_a0_614 : pm_as (pm_cd pm_mm0) 614 = some (.invokevirtual 82, 3) := by decide +kernel
theorem pm_a0_617 : pm_as (pm_cd pm_mm0) 617 = some (.pop, 1) := by decide +kernel
theorem pm_a0_618 : pm_as (pm_cd pm_mm0) 618 = some (.aload_n 2, 1) := by decide +kernel
theorem pm_a0_619 : pm_as (pm_cd pm_mm0) 619 = some (.aload_n 0, 1) := by decide +kernel
theorem pm_a0_620 : pm_as (pm_cd pm_mm0) 620 = some (.iload_n 3, 1) := by decide +kernel
theorem pm_a0_621 : pm_as (pm_cd pm_mm0) 621 = some (.iconst 1, 1) := by decide +kernel
theorem pm_a0_622 : pm_as (pm_cd pm_mm0) 622 = some (.iadd, 1) := by decide +kernel
theorem pm_a0_623 : pm_as (pm_cd pm_mm0) 623 = some (.iaload, 1) := by decide +kernel
theorem pm_a0_624 : pm_as (pm_cd pm_mm0) 624 = some (.invokevirtual 85, 3) := by decide +kernel
theorem pm_a0_627 : pm_as (pm_cd pm_mm0) 627 = some (.pop, 1) := by decide +kernel
theorem pm_a0_628 : pm_as (pm_cd pm_mm0) 628 = some (.goto 151, 3) := by decide +kernel
theorem pm_a0_631 : pm_as (pm_cd pm_mm0) 631 = some (.aload_n 1, 1) := by decide +kernel
theorem pm_a0_632 : pm_as (pm_cd pm_mm0) 632 = some (.aload_n 0, 1) := by decide +kernel
theorem pm_a0_633 : pm_as (pm_cd pm_mm0) 633 = some (.iload_n 3, 1) := by decide +kernel
theorem pm_a0_634 : pm_as (pm_cd pm_mm0) 634 = some (.iconst 1, 1) := by decide +kernel
theorem pm_a0_635 : pm_as (pm_cd pm_mm0) 635 = some (.iadd, 1) := by decide +kernel
theorem pm_a0_636 : pm_as (pm_cd pm_mm0) 636 = some (.iaload, 1) := by decide +kernel
theorem pm_a0_637 : pm_as (pm_cd pm_mm0) 637 = some (.aload_n 0, 1) := by decide +kernel
theorem pm_a0_638 : pm_as (pm_cd pm_mm0) 638 = some (.iload_n 3, 1) := by decide +kernel
theorem pm_a0_639 : pm_as (pm_cd pm_mm0) 639 = some (.iconst 2, 1) := by decide +kernel
theorem pm_a0_640 : pm_as (pm_cd pm_mm0) 640 = some (.iadd, 1) := by decide +kernel
theorem pm_a0_641 : pm_as (pm_cd pm_mm0) 641 = some (.iaload, 1) := by decide +kernel
theorem pm_a0_642 : pm_as (pm_cd pm_mm0) 642 = some (.invokevirtual 86, 3) := by decide +kernel
theorem pm_a0_645 : pm_as (pm_cd pm_mm0) 645 = some (.pop, 1) := by decide +kernel
theorem pm_a0_646 : pm_as (pm_cd pm_mm0) 646 = some (.aload_n 2, 1) := by decide +kernel
theorem pm_a0_647 : pm_as (pm_cd pm_mm0) 647 = some (.aload_n 0, 1) := by decide +kernel
theorem pm_a0_648 : pm_as (pm_cd pm_mm0) 648 = some (.iload_n 3, 1) := by decide +kernel
theorem pm_a0_649 : pm_as (pm_cd pm_mm0) 649 = some (.iconst 1, 1) := by decide +kernel
theorem pm_a0_650 : pm_as (pm_cd pm_mm0) 650 = some (.iadd, 1) := by decide +kernel
theorem pm_a0_651 : pm_as (pm_cd pm_mm0) 651 = some (.iaload, 1) := by decide +kernel
theorem pm_a0_652 : pm_as (pm_cd pm_mm0) 652 = some (.aload_n 0, 1) := by decide +kernel
theorem pm_a0_653 : pm_as (pm_cd pm_mm0) 653 = some (.iload_n 3, 1) := by decide +kernel
theorem pm_a0_654 : pm_as (pm_cd pm_mm0) 654 = some (.iconst 2, 1) := by decide +kernel
theorem pm_a0_655 : pm_as (pm_cd pm_mm0) 655 = some (.iadd, 1) := by decide +kernel
theorem pm_a0_656 : pm_as (pm_cd pm_mm0) 656 = some (.iaload, 1) := by decide +kernel
theorem pm_a0_657 : pm_as (pm_cd pm_mm0) 657 = some (.invokevirtual 89, 3) := by decide +kernel
theorem pm_a0_660 : pm_as (pm_cd pm_mm0) 660 = some (.pop, 1) := by decide +kernel
theorem pm_a0_661 : pm_as (pm_cd pm_mm0) 661 = some (.goto 118, 3) := by decide +kernel
theorem pm_a0_664 : pm_as (pm_cd pm_mm0) 664 = some (.aload_n 1, 1) := by decide +kernel
theorem pm_a0_665 : pm_as (pm_cd pm_mm0) 665 = some (.aload_n 0, 1) := by decide +kernel
theorem pm_a0_666 : pm_as (pm_cd pm_mm0) 666 = some (.iload_n 3, 1) := by decide +kernel
theorem pm_a0_667 : pm_as (pm_cd pm_mm0) 667 = some (.iconst 1, 1) := by decide +kernel
theorem pm_a0_668 : pm_as (pm_cd pm_mm0) 668 = some (.iadd, 1) := by decide +kernel
theorem pm_a0_669 : pm_as (pm_cd pm_mm0) 669 = some (.iaload, 1) := by decide +kernel
theorem pm_a0_670 : pm_as (pm_cd pm_mm0) 670 = some (.invokevirtual 90, 3) := by decide +kernel
theorem pm_a0_673 : pm_as (pm_cd pm_mm0) 673 = some (.pop, 1) := by decide +kernel
theorem pm_a0_674 : pm_as (pm_cd pm_mm0) 674 = some (.aload_n 2, 1) := by decide +kernel
theorem pm_a0_675 : pm_as (pm_cd pm_mm0) 675 = some (.aload_n 0, 1) := by decide +kernel
theorem pm_a0_676 : pm_as (pm_cd pm_mm0) 676 = some (.iload_n 3, 1) := by decide +kernel
theorem pm_a0_677 : pm_as (pm_cd pm_mm0) 677 = some (.iconst 1, 1) := by decide +kernel
theorem pm_a0_678 : pm_as (pm_cd pm_mm0) 678 = some (.iadd, 1) := by decide +kernel
theorem pm_a0_679 : pm_as (pm_cd pm_mm0) 679 = some (.iaload, 1) := by decide +kernel
theorem pm_a0_680 : pm_as (pm_cd pm_mm0) 680 = some (.invokevirtual 93, 3) := by decide +kernel
theorem pm_a0_683 : pm_as (pm_cd pm_mm0) 683 = some (.pop, 1) := by decide +kernel
theorem pm_a0_684 : pm_as (pm_cd pm_mm0) 684 = some (.goto 95, 3) := by decide +kernel
theorem pm_a0_687 : pm_as (pm_cd pm_mm0) 687 = some (.aload_n 1, 1) := by decide +kernel
theorem pm_a0_688 : pm_as (pm_cd pm_mm0) 688 = some (.aload_n 0, 1) := by decide +kernel
theorem pm_a0_689 : pm_as (pm_cd pm_mm0) 689 = some (.iload_n 3, 1) := by decide +kernel
theorem pm_a0_690 : pm_as (pm_cd pm_mm0) 690 = some (.iconst 1, 1) := by decide +kernel
theorem pm_a0_691 : pm_as (pm_cd pm_mm0) 691 = some (.iadd, 1) := by decide +kernel
theorem pm_a0_692 : pm_as (pm_cd pm_mm0) 692 = some (.iaload, 1) := by decide +kernel
theorem pm_a0_693 : pm_as (pm_cd pm_mm0) 693 = some (.invokevirtual 94, 3) := by decide +kernel
theorem pm_a0_696 : pm_as (pm_cd pm_mm0) 696 = some (.pop, 1) := by decide +kernel
theorem pm_a0_697 : pm_as (pm_cd pm_mm0) 697 = some (.aload_n 2, 1) := by decide +kernel
theorem pm_a0_698 : pm_as (pm_cd pm_mm0) 698 = some (.aload_n 0, 1) := by decide +kernel
theorem pm_a0_699 : pm_as (pm_cd pm_mm0) 699 = some (.iload_n 3, 1) := by decide +kernel
theorem pm_a0_700 : pm_as (pm_cd pm_mm0) 700 = some (.iconst 1, 1) := by decide +kernel
theorem pm_a0_701 : pm_as (pm_cd pm_mm0) 701 = some (.iadd, 1) := by decide +kernel
theorem pm_a0_702 : pm_as (pm_cd pm_mm0) 702 = some (.iaload, 1) := by decide +kernel
theorem pm_a0_703 : pm_as (pm_cd pm_mm0) 703 = some (.invokevirtual 97, 3) := by decide +kernel
theorem pm_a0_706 : pm_as (pm_cd pm_mm0) 706 = some (.pop, 1) := by decide +kernel
theorem pm_a0_707 : pm_as (pm_cd pm_mm0) 707 = some (.goto 72, 3) := by decide +kernel
theorem pm_a0_710 : pm_as (pm_cd pm_mm0) 710 = some (.aload_n 1, 1) := by decide +kernel
theorem pm_a0_711 : pm_as (pm_cd pm_mm0) 711 = some (.aload_n 0, 1) := by decide +kernel
theorem pm_a0_712 : pm_as (pm_cd pm_mm0) 712 = some (.iload_n 3, 1) := by decide +kernel
theorem pm_a0_713 : pm_as (pm_cd pm_mm0) 713 = some (.iconst 1, 1) := by decide +kernel
theorem pm_a0_714 : pm_as (pm_cd pm_mm0) 714 = some (.iadd, 1) := by decide +kernel
theorem pm_a0_715 : pm_as (pm_cd pm_mm0) 715 = some (.iaload, 1) := by decide +kernel
theorem pm_a0_716 : pm_as (pm_cd pm_mm0) 716 = some (.aload_n 0, 1) := by decide +kernel
theorem pm_a0_717 : pm_as (pm_cd pm_mm0) 717 = some (.iload_n 3, 1) := by decide +kernel
theorem pm_a0_718 : pm_as (pm_cd pm_mm0) 718 = some (.iconst 2, 1) := by decide +kernel
theorem pm_a0_719 : pm_as (pm_cd pm_mm0) 719 = some (.iadd, 1) := by decide +kernel
theorem pm_a0_720 : pm_as (pm_cd pm_mm0) 720 = some (.iaload, 1) := by decide +kernel
theorem pm_a0_721 : pm_as (pm_cd pm_mm0) 721 = some (.invokevirtual 98, 3) := by decide +kernel
theorem pm_a0_724 : pm_as (pm_cd pm_mm0) 724 = some (.pop, 1) := by decide +kernel
theorem pm_a0_725 : pm_as (pm_cd pm_mm0) 725 = some (.aload_n 2, 1) := by decide +kernel
theorem pm_a0_726 : pm_as (pm_cd pm_mm0) 726 = some (.aload_n 0, 1) := by decide +kernel
theorem pm_a0_727 : pm_as (pm_cd pm_mm0) 727 = some (.iload_n 3, 1) := by decide +kernel
theorem pm_a0_728 : pm_as (pm_cd pm_mm0) 728 = some (.iconst 1, 1) := by decide +kernel
theorem pm_a0_729 : pm_as (pm_cd pm_mm0) 729 = some (.iadd, 1) := by decide +kernel
theorem pm_a0_730 : pm_as (pm_cd pm_mm0) 730 = some (.iaload, 1) := by decide +kernel
theorem pm_a0_731 : pm_as (pm_cd pm_mm0) 731 = some (.aload_n 0, 1) := by decide +kernel
theorem pm_a0_732 : pm_as (pm_cd pm_mm0) 732 = some (.iload_n 3, 1) := by decide +kernel
theorem pm_a0_733 : pm_as (pm_cd pm_mm0) 733 = some (.iconst 2, 1) := by decide +kernel
theorem pm_a0_734 : pm_as (pm_cd pm_mm0) 734 = some (.iadd, 1) := by decide +kernel
theorem pm_a0_735 : pm_as (pm_cd pm_mm0) 735 = some (.iaload, 1) := by decide +kernel
theorem pm_a0_736 : pm_as (pm_cd pm_mm0) 736 = some (.invokevirtual 101, 3) := by decide +kernel
theorem pm_a0_739 : pm_as (pm_cd pm_mm0) 739 = some (.pop, 1) := by decide +kernel
theorem pm_a0_740 : pm_as (pm_cd pm_mm0) 740 = some (.goto 39, 3) := by decide +kernel
theorem pm_a0_743 : pm_as (pm_cd pm_mm0) 743 = some (.aload_n 1, 1) := by decide +kernel
theorem pm_a0_744 : pm_as (pm_cd pm_mm0) 744 = some (.invokevirtual 102, 3) := by decide +kernel
theorem pm_a0_747 : pm_as (pm_cd pm_mm0) 747 = some (.pop, 1) := by decide +kernel
theorem pm_a0_748 : pm_as (pm_cd pm_mm0) 748 = some (.aload_n 2, 1) := by decide +kernel
theorem pm_a0_749 : pm_as (pm_cd pm_mm0) 749 = some (.invokevirtual 105, 3) := by decide +kernel
theorem pm_a0_752 : pm_as (pm_cd pm_mm0) 752 = some (.pop, 1) := by decide +kernel
theorem pm_a0_753 : pm_as (pm_cd pm_mm0) 753 = some (.goto 26, 3) := by decide +kernel
theorem pm_a0_756 : pm_as (pm_cd pm_mm0) 756 = some (.aload_n 1, 1) := by decide +kernel
theorem pm_a0_757 : pm_as (pm_cd pm_mm0) 757 = some (.aload_n 0, 1) := by decide +kernel
theorem pm_a0_758 : pm_as (pm_cd pm_mm0) 758 = some (.iload_n 3, 1) := by decide +kernel
theorem pm_a0_759 : pm_as (pm_cd pm_mm0) 759 = some (.iconst 1, 1) := by decide +kernel
theorem pm_a0_760 : pm_as (pm_cd pm_mm0) 760 = some (.iadd, 1) := by decide +kernel
theorem pm_a0_761 : pm_as (pm_cd pm_mm0) 761 = some (.iaload, 1) := by decide +kernel
theorem pm_a0_762 : pm_as (pm_cd pm_mm0) 762 = some (.invokevirtual 106, 3) := by decide +kernel
theorem pm_a0_765 : pm_as (pm_cd pm_mm0) 765 = some (.pop, 1) := by decide +kernel
theorem pm_a0_766 : pm_as (pm_cd pm_mm0) 766 = some (.aload_n 2, 1) := by decide +kernel
theorem pm_a0_767 : pm_as (pm_cd pm_mm0) 767 = some (.aload_n 0, 1) := by decide +kernel
theorem pm_a0_768 : pm_as (pm_cd pm_mm0) 768 = some (.iload_n 3, 1) := by decide +kernel
theorem pm_a0_769 : pm_as (pm_cd pm_mm0) 769 = some (.iconst 1, 1) := by decide +kernel
theorem pm_a0_770 : pm_as (pm_cd pm_mm0) 770 = some (.iadd, 1) := by decide +kernel
theorem pm_a0_771 : pm_as (pm_cd pm_mm0) 771 = some (.iaload, 1) := by decide +kernel
theorem pm_a0_772 : pm_as (pm_cd pm_mm0) 772 = some (.invokevirtual 109, 3) := by decide +kernel
theorem pm_a0_775 : pm_as (pm_cd pm_mm0) 775 = some (.pop, 1) := by decide +kernel
theorem pm_a0_776 : pm_as (pm_cd pm_mm0) 776 = some (.goto 3, 3) := by decide +kernel
theorem pm_a0_779 : pm_as (pm_cd pm_mm0) 779 = some (.iinc 3 6, 3) := by decide +kernel
theorem pm_a0_782 : pm_as (pm_cd pm_mm0) 782 = some (.goto (-764), 3) := by decide +kernel
theorem pm_a0_785 : pm_as (pm_cd pm_mm0) 785 = some (.iconst 1, 1) := by decide +kernel
theorem pm_a0_786 : pm_as (pm_cd pm_mm0) 786 = some (.ireturn, 1) := by decide +kernel
