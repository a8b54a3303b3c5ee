/-! every instruction of the tables, by its place -/
theorem pm_a0_0 : pm_as (pm_cd pm_mm0) 0 = some (.new 7, 3) := by decide +kernel
theorem pm_a0_3 : pm_as (pm_cd pm_mm0) 3 = some (.dup, 1) := by decide +kernel
theorem pm_a0_4 : pm_as (pm_cd pm_mm0) 4 = some (.invokespecial 9, 3) := by decide +kernel
theorem pm_a0_7 : pm_as (pm_cd pm_mm0) 7 = some (.astore_n 1, 1) := by decide +kernel
theorem pm_a0_8 : pm_as (pm_cd pm_mm0) 8 = some (.new 10, 3) := by decide +kernel
theorem pm_a0_11 : pm_as (pm_cd pm_mm0) 11 = some (.dup, 1) := by decide +kernel
theorem pm_a0_12 : pm_as (pm_cd pm_mm0) 12 = some (.invokespecial 12, 3) := by decide +kernel
theorem pm_a0_15 : pm_as (pm_cd pm_mm0) 15 = some (.astore_n 2, 1) := by decide +kernel
theorem pm_a0_16 : pm_as (pm_cd pm_mm0) 16 = some (.iconst 0, 1) := by decide +kernel
theorem pm_a0_17 : pm_as (pm_cd pm_mm0) 17 = some (.istore_n 3, 1) := by decide +kernel
theorem pm_a0_18 : pm_as (pm_cd pm_mm0) 18 = some (.iload_n 3, 1) := by decide +kernel
theorem pm_a0_19 : pm_as (pm_cd pm_mm0) 19 = some (.aload_n 0, 1) := by decide +kernel
theorem pm_a0_20 : pm_as (pm_cd pm_mm0) 20 = some (.arraylength, 1) := by decide +kernel
theorem pm_a0_21 : pm_as (pm_cd pm_mm0) 21 = some (.bipush 6, 2) := by decide +kernel
theorem pm_a0_23 : pm_as (pm_cd pm_mm0) 23 = some (.isub, 1) := by decide +kernel
theorem pm_a0_24 : pm_as (pm_cd pm_mm0) 24 = some (.if_icmp .gt 761, 3) := by decide +kernel
theorem pm_a0_27 : pm_as (pm_cd pm_mm0) 27 = some (.aload_n 0, 1) := by decide +kernel
theorem pm_a0_28 : pm_as (pm_cd pm_mm0) 28 = some (.iload_n 3, 1) := by decide +kernel
theorem pm_a0_29 : pm_as (pm_cd pm_mm0) 29 = some (.iaload, 1) := by decide +kernel
theorem pm_a0_30 : pm_as (pm_cd pm_mm0) 30 = some (.bipush 31, 2) := by decide +kernel
theorem pm_a0_32 : pm_as (pm_cd pm_mm0) 32 = some (.iand, 1) := by decide +kernel
theorem pm_a0_33 : pm_as (pm_cd pm_mm0) 33 = some (.tableswitch 746 0 22 #[107, 170, 193, 206, 219, 242, 275, 308, 341, 364, 397, 430, 473, 496, 529, 552, 575, 598, 631, 654, 677, 710, 723], 107) := by decide +kernel
theorem pm_a0_140 : pm_as (pm_cd pm_mm0) 140 = some (.aload_n 1, 1) := by decide +kernel
theorem pm_a0_141 : pm_as (pm_cd pm_mm0) 141 = some (.aload_n 0, 1) := by decide +kernel
theorem pm_a0_142 : pm_as (pm_cd pm_mm0) 142 = some (.iload_n 3, 1) := by decide +kernel
theorem pm_a0_143 : pm_as (pm_cd pm_mm0) 143 = some (.iconst 1, 1) := by decide +kernel
theorem pm_a0_144 : pm_as (pm_cd pm_mm0) 144 = some (.iadd, 1) := by decide +kernel
theorem pm_a0_145 : pm_as (pm_cd pm_mm0) 145 = some (.iaload, 1) := by decide +kernel
theorem pm_a0_146 : pm_as (pm_cd pm_mm0) 146 = some (.aload_n 0, 1) := by decide +kernel
theorem pm_a0_147 : pm_as (pm_cd pm_mm0) 147 = some (.iload_n 3, 1) := by decide +kernel
theorem pm_a0_148 : pm_as (pm_cd pm_mm0) 148 = some (.iconst 2, 1) := by decide +kernel
theorem pm_a0_149 : pm_as (pm_cd pm_mm0) 149 = some (.iadd, 1) := by decide +kernel
theorem pm_a0_150 : pm_as (pm_cd pm_mm0) 150 = some (.iaload, 1) := by decide +kernel
theorem pm_a0_151 : pm_as (pm_cd pm_mm0) 151 = some (.aload_n 0, 1) := by decide +kernel
theorem pm_a0_152 : pm_as (pm_cd pm_mm0) 152 = some (.iload_n 3, 1) := by decide +kernel
theorem pm_a0_153 : pm_as (pm_cd pm_mm0) 153 = some (.iconst 3, 1) := by decide +kernel
theorem pm_a0_154 : pm_as (pm_cd pm_mm0) 154 = some (.iadd, 1) := by decide +kernel
theorem pm_a0_155 : pm_as (pm_cd pm_mm0) 155 = some (.iaload, 1) := by decide +kernel
theorem pm_a0_156 : pm_as (pm_cd pm_mm0) 156 = some (.aload_n 0, 1) := by decide +kernel
theorem pm_a0_157 : pm_as (pm_cd pm_mm0) 157 = some (.iload_n 3, 1) := by decide +kernel
theorem pm_a0_158 : pm_as (pm_cd pm_mm0) 158 = some (.iconst 4, 1) := by decide +kernel
theorem pm_a0_159 : pm_as (pm_cd pm_mm0) 159 = some (.iadd, 1) := by decide +kernel
theorem pm_a0_160 : pm_as (pm_cd pm_mm0) 160 = some (.iaload, 1) := by decide +kernel
theorem pm_a0_161 : pm_as (pm_cd pm_mm0) 161 = some (.aload_n 0, 1) := by decide +kernel
theorem pm_a0_162 : pm_as (pm_cd pm_mm0) 162 = some (.iload_n 3, 1) := by decide +kernel
theorem pm_a0_163 : pm_as (pm_cd pm_mm0) 163 = some (.iconst 5, 1) := by decide +kernel
theorem pm_a0_164 : pm_as (pm_cd pm_mm0) 164 = some (.iadd, 1) := by decide +kernel
theorem pm_a0_165 : pm_as (pm_cd pm_mm0) 165 = some (.iaload, 1) := by decide +kernel
theorem pm_a0_166 : pm_as (pm_cd pm_mm0) 166 = some (.invokevirtual 13, 3) := by decide +kernel
theorem pm_a0_169 : pm_as (pm_cd pm_mm0) 169 = some (.aload_n 2, 1) := by decide +kernel
theorem pm_a0_170 : pm_as (pm_cd pm_mm0) 170 = some (.aload_n 0, 1) := by decide +kernel
theorem pm_a0_171 : pm_as (pm_cd pm_mm0) 171 = some (.iload_n 3, 1) := by decide +kernel
theorem pm_a0_172 : pm_as (pm_cd pm_mm0) 172 = some (.iconst 1, 1) := by decide +kernel
theorem pm_a0_173 : pm_as (pm_cd pm_mm0) 173 = some (.iadd, 1) := by decide +kernel
theorem pm_a0_174 : pm_as (pm_cd pm_mm0) 174 = some (.iaload, 1) := by decide +kernel
theorem pm_a0_175 : pm_as (pm_cd pm_mm0) 175 = some (.aload_n 0, 1) := by decide +kernel
theorem pm_a0_176 : pm_as (pm_cd pm_mm0) 176 = some (.iload_n 3, 1) := by decide +kernel
theorem pm_a0_177 : pm_as (pm_cd pm_mm0) 177 = some (.iconst 2, 1) := by decide +kernel
theorem pm_a0_178 : pm_as (pm_cd pm_mm0) 178 = some (.iadd, 1) := by decide +kernel
theorem pm_a0_179 : pm_as (pm_cd pm_mm0) 179 = some (.iaload, 1) := by decide +kernel
theorem pm_a0_180 : pm_as (pm_cd pm_mm0) 180 = some (.aload_n 0, 1) := by decide +kernel
theorem pm_a0_181 : pm_as (pm_cd pm_mm0) 181 = some (.iload_n 3, 1) := by decide +kernel
theorem pm_a0_182 : pm_as (pm_cd pm_mm0) 182 = some (.iconst 3, 1) := by decide +kernel
theorem pm_a0_183 : pm_as (pm_cd pm_mm0) 183 = some (.iadd, 1) := by decide +kernel
theorem pm_a0_184 : pm_as (pm_cd pm_mm0) 184 = some (.iaload, 1) := by decide +kernel
theorem pm_a0_185 : pm_as (pm_cd pm_mm0) 185 = some (.aload_n 0, 1) := by decide +kernel
theorem pm_a0_186 : pm_as (pm_cd pm_mm0) 186 = some (.iload_n 3, 1) := by decide +kernel
theorem pm_a0_187 : pm_as (pm_cd pm_mm0) 187 = some (.iconst 4, 1) := by decide +kernel
theorem pm_a0_188 : pm_as (pm_cd pm_mm0) 188 = some (.iadd, 1) := by decide +kernel
theorem pm_a0_189 : pm_as (pm_cd pm_mm0) 189 = some (.iaload, 1) := by decide +kernel
theorem pm_a0_190 : pm_as (pm_cd pm_mm0) 190 = some (.aload_n 0, 1) := by decide +kernel
theorem pm_a0_191 : pm_as (pm_cd pm_mm0) 191 = some (.iload_n 3, 1) := by decide +kernel
theorem pm_a0_192 : pm_as (pm_cd pm_mm0) 192 = some (.iconst 5, 1) := by decide +kernel
theorem pm_a0_193 : pm_as (pm_cd pm_mm0) 193 = some (.iadd, 1) := by decide +kernel
theorem pm_a0_194 : pm_as (pm_cd pm_mm0) 194 = some (.iaload, 1) := by decide +kernel
theorem pm_a0_195 : pm_as (pm_cd pm_mm0) 195 = some (.invokevirtual 17, 3) := by decide +kernel
theorem pm_a0_198 : pm_as (pm_cd pm_mm0) 198 = some (.if_icmp .eq 581, 3) := by decide +kernel
theorem pm_a0_203 : pm_as (pm_cd pm_mm0) 203 = some (.aload_n 1, 1) := by decide +kernel
theorem pm_a0_204 : pm_as (pm_cd pm_mm0) 204 = some (.aload_n 0, 1) := by decide +kernel
theorem pm_a0_205 : pm_as (pm_cd pm_mm0) 205 = some (.iload_n 3, 1) := by decide +kernel
theorem pm_a0_206 : pm_as (pm_cd pm_mm0) 206 = some (.iconst 1, 1) := by decide +kernel
theorem pm_a0_207 : pm_as (pm_cd pm_mm0) 207 = some (.iadd, 1) := by decide +kernel
theorem pm_a0_208 : pm_as (pm_cd pm_mm0) 208 = some (.iaload, 1) := by decide +kernel
theorem pm_a0_209 : pm_as (pm_cd pm_mm0) 209 = some (.invokevirtual 18, 3) := by decide +kernel
theorem pm_a0_212 : pm_as (pm_cd pm_mm0) 212 = some (.aload_n 2, 1) := by decide +kernel
theorem pm_a0_213 : pm_as (pm_cd pm_mm0) 213 = some (.aload_n 0, 1) := by decide +kernel
theorem pm_a0_214 : pm_as (pm_cd pm_mm0) 214 = some (.iload_n 3, 1) := by decide +kernel
theorem pm_a0_215 : pm_as (pm_cd pm_mm0) 215 = some (.iconst 1, 1) := by decide +kernel
theorem pm_a0_216 : pm_as (pm_cd pm_mm0) 216 = some (.iadd, 1) := by decide +kernel
theorem pm_a0_217 : pm_as (pm_cd pm_mm0) 217 = some (.iaload, 1) := by decide +kernel
theorem pm_a0_218 : pm_as (pm_cd pm_mm0) 218 = some (.invokevirtual 22, 3) := by decide +kernel
theorem pm_a0_221 : pm_as (pm_cd pm_mm0) 221 = some (.if_icmp .eq 558, 3) := by decide +kernel
theorem pm_a0_226 : pm_as (pm_cd pm_mm0) 226 = some (.aload_n 1, 1) := by decide +kernel
theorem pm_a0_227 : pm_as (pm_cd pm_mm0) 227 = some (.invokevirtual 23, 3) := by decide +kernel
theorem pm_a0_230 : pm_as (pm_cd pm_mm0) 230 = some (.aload_n 2, 1) := by decide +kernel
theorem pm_a0_231 : pm_as (pm_cd pm_mm0) 231 = some (.invokevirtual 27, 3) := by decide +kernel
theorem pm_a0_234 : pm_as (pm_cd pm_mm0) 234 = some (.if_icmp .eq 545, 3) := by decide +kernel
theorem pm_a0_239 : pm_as (pm_cd pm_mm0) 239 = some (.aload_n 1, 1) := by decide +kernel
theorem pm_a0_240 : pm_as (pm_cd pm_mm0) 240 = some (.invokevirtual 28, 3) := by decide +kernel
theorem pm_a0_243 : pm_as (pm_cd pm_mm0) 243 = some (.aload_n 2, 1) := by decide +kernel
theorem pm_a0_244 : pm_as (pm_cd pm_mm0) 244 = some (.invokevirtual 31, 3) := by decide +kernel
theorem pm_a0_247 : pm_as (pm_cd pm_mm0) 247 = some (.if_icmp .eq 532, 3) := by decide +kernel
theorem pm_a0_252 : pm_as (pm_cd pm_mm0) 252 = some (.aload_n 1, 1) := by decide +kernel
theorem pm_a0_253 : pm_as (pm_cd pm_mm0) 253 = some (.aload_n 0, 1) := by decide +kernel
theorem pm_a0_254 : pm_as (pm_cd pm_mm0) 254 = some (.iload_n 3, 1) := by decide +kernel
theorem pm_a0_255 : pm_as (pm_cd pm_mm0) 255 = some (.iconst 1, 1) := by decide +kernel
theorem pm_a0_256 : pm_as (pm_cd pm_mm0) 256 = some (.iadd, 1) := by decide +kernel
theorem pm_a0_257 : pm_as (pm_cd pm_mm0) 257 = some (.iaload, 1) := by decide +kernel
theorem pm_a0_258 : pm_as (pm_cd pm_mm0) 258 = some (.invokevirtual 32, 3) := by decide +kernel
theorem pm_a0_261 : pm_as (pm_cd pm_mm0) 261 = some (.aload_n 2, 1) := by decide +kernel
theorem pm_a0_262 : pm_as (pm_cd pm_mm0) 262 = some (.aload_n 0, 1) := by decide +kernel
theorem pm_a0_263 : pm_as (pm_cd pm_mm0) 263 = some (.iload_n 3, 1) := by decide +kernel
theorem pm_a0_264 : pm_as (pm_cd pm_mm0) 264 = some (.iconst 1, 1) := by decide +kernel
theorem pm_a0_265 : pm_as (pm_cd pm_mm0) 265 = some (.iadd, 1) := by decide +kernel
theorem pm_a0_266 : pm_as (pm_cd pm_mm0) 266 = some (.iaload, 1) := by decide +kernel
theorem pm_a0_267 : pm_as (pm_cd pm_mm0) 267 = some (.invokevirtual 35, 3) := by decide +kernel
theorem pm_a0_270 : pm_as (pm_cd pm_mm0) 270 = some (.if_icmp .eq 509, 3) := by decide +kernel
theorem pm_a0_275 : pm_as (pm_cd pm_mm0) 275 = some (.aload_n 1, 1) := by decide +kernel
theorem pm_a0_276 : pm_as (pm_cd pm_mm0) 276 = some (.aload_n 0, 1) := by decide +kernel
theorem pm_a0_277 : pm_as (pm_cd pm_mm0) 277 = some (.iload_n 3, 1) := by decide +kernel
theorem pm_a0_278 : pm_as (pm_cd pm_mm0) 278 = some (.iconst 1, 1) := by decide +kernel
theorem pm_a0_279 : pm_as (pm_cd pm_mm0) 279 = some (.iadd, 1) := by decide +kernel
theorem pm_a0_280 : pm_as (pm_cd pm_mm0) 280 = some (.iaload, 1) := by decide +kernel
theorem pm_a0_281 : pm_as (pm_cd pm_mm0) 281 = some (.aload_n 0, 1) := by decide +kernel
theorem pm_a0_282 : pm_as (pm_cd pm_mm0) 282 = some (.iload_n 3, 1) := by decide +kernel
theorem pm_a0_283 : pm_as (pm_cd pm_mm0) 283 = some (.iconst 2, 1) := by decide +kernel
theorem pm_a0_284 : pm_as (pm_cd pm_mm0) 284 = some (.iadd, 1) := by decide +kernel
theorem pm_a0_285 : pm_as (pm_cd pm_mm0) 285 = some (.iaload, 1) := by decide +kernel
theorem pm_a0_286 : pm_as (pm_cd pm_mm0) 286 = some (.invokevirtual 36, 3) := by decide +kernel
theorem pm_a0_289 : pm_as (pm_cd pm_mm0) 289 = some (.aload_n 2, 1) := by decide +kernel
theorem pm_a0_290 : pm_as (pm_cd pm_mm0) 290 = some (.aload_n 0, 1) := by decide +kernel
theorem pm_a0_291 : pm_as (pm_cd pm_mm0) 291 = some (.iload_n 3, 1) := by decide +kernel
theorem pm_a0_292 : pm_as (pm_cd pm_mm0) 292 = some (.iconst 1, 1) := by decide +kernel
theorem pm_a0_293 : pm_as (pm_cd pm_mm0) 293 = some (.iadd, 1) := by decide +kernel
theorem pm_a0_294 : pm_as (pm_cd pm_mm0) 294 = some (.iaload, 1) := by decide +kernel
theorem pm_a0_295 : pm_as (pm_cd pm_mm0) 295 = some (.aload_n 0, 1) := by decide +kernel
theorem pm_a0_296 : pm_as (pm_cd pm_mm0) 296 = some (.iload_n 3, 1) := by decide +kernel
theorem pm_a0_297 : pm_as (pm_cd pm_mm0) 297 = some (.iconst 2, 1) := by decide +kernel
theorem pm_a0_298 : pm_as (pm_cd pm_mm0) 298 = some (.iadd, 1) := by decide +kernel
theorem pm_a0_299 : pm_as (pm_cd pm_mm0) 299 = some (.iaload, 1) := by decide +kernel
theorem pm_a0_300 : pm_as (pm_cd pm_mm0) 300 = some (.invokevirtual 40, 3) := by decide +kernel
theorem pm_a0_303 : pm_as (pm_cd pm_mm0) 303 = some (.if_icmp .eq 476, 3) := by decide +kernel
theorem pm_a0_308 : pm_as (pm_cd pm_mm0) 308 = some (.aload_n 1, 1) := by decide +kernel
theorem pm_a0_309 : pm_as (pm_cd pm_mm0) 309 = some (.aload_n 0, 1) := by decide +kernel
theorem pm_a0_310 : pm_as (pm_cd pm_mm0) 310 = some (.iload_n 3, 1) := by decide +kernel
theorem pm_a0_311 : pm_as (pm_cd pm_mm0) 311 = some (.iconst 1, 1) := by decide +kernel
theorem pm_a0_312 : pm_as (pm_cd pm_mm0) 312 = some (.iadd, 1) := by decide +kernel
theorem pm_a0_313 : pm_as (pm_cd pm_mm0) 313 = some (.iaload, 1) := by decide +kernel
theorem pm_a0_314 : pm_as (pm_cd pm_mm0) 314 = some (.aload_n 0, 1) := by decide +kernel
theorem pm_a0_315 : pm_as (pm_cd pm_mm0) 315 = some (.iload_n 3, 1) := by decide +kernel
theorem pm_a0_316 : pm_as (pm_cd pm_mm0) 316 = some (.iconst 2, 1) := by decide +kernel
theorem pm_a0_317 : pm_as (pm_cd pm_mm0) 317 = some (.iadd, 1) := by decide +kernel
theorem pm_a0_318 : pm_as (pm_cd pm_mm0) 318 = some (.iaload, 1) := by decide +kernel
theorem pm_a0_319 : pm_as (pm_cd pm_mm0) 319 = some (.invokevirtual 41, 3) := by decide +kernel
theorem pm_a0_322 : pm_as (pm_cd pm_mm0) 322 = some (.aload_n 2, 1) := by decide +kernel
theorem pm_a0_323 : pm_as (pm_cd pm_mm0) 323 = some (.aload_n 0, 1) := by decide +kernel
theorem pm_a0_324 : pm_as (pm_cd pm_mm0) 324 = some (.iload_n 3, 1) := by decide +kernel
theorem pm_a0_325 : pm_as (pm_cd pm_mm0) 325 = some (.iconst 1, 1) := by decide +kernel
theorem pm_a0_326 : pm_as (pm_cd pm_mm0) 326 = some (.iadd, 1) := by decide +kernel
theorem pm_a0_327 : pm_as (pm_cd pm_mm0) 327 = some (.iaload, 1) := by decide +kernel
theorem pm_a0_328 : pm_as (pm_cd pm_mm0) 328 = some (.aload_n 0, 1) := by decide +kernel
theorem pm_a0_329 : pm_as (pm_cd pm_mm0) 329 = some (.iload_n 3, 1) := by decide +kernel
theorem pm_a0_330 : pm_as (pm_cd pm_mm0) 330 = some (.iconst 2, 1) := by decide +kernel
theorem pm_a0_331 : pm_as (pm_cd pm_mm0) 331 = some (.iadd, 1) := by decide +kernel
theorem pm_a0_332 : pm_as (pm_cd pm_mm0) 332 = some (.iaload, 1) := by decide +kernel
theorem pm_a0_333 : pm_as (pm_cd pm_mm0) 333 = some (.invokevirtual 44, 3) := by decide +kernel
theorem pm_a0_336 : pm_as (pm_cd pm_mm0) 336 = some (.if_icmp .eq 443, 3) := by decide +kernel
theorem pm_a0_341 : pm_as (pm_cd pm_mm0) 341 = some (.aload_n 1, 1) := by decide +kernel
theorem pm_a0_342 : pm_as (pm_cd pm_mm0) 342 = some (.aload_n 0, 1) := by decide +kernel
theorem pm_a0_343 : pm_as (pm_cd pm_mm0) 343 = some (.iload_n 3, 1) := by decide +kernel
theorem pm_a0_344 : pm_as (pm_cd pm_mm0) 344 = some (.iconst 1, 1) := by decide +kernel
theorem pm_a0_345 : pm_as (pm_cd pm_mm0) 345 = some (.iadd, 1) := by decide +kernel
theorem pm_a0_346 : pm_as (pm_cd pm_mm0) 346 = some (.iaload, 1) := by decide +kernel
theorem pm_a0_347 : pm_as (pm_cd pm_mm0) 347 = some (.aload_n 0, 1) := by decide +kernel
theorem pm_a0_348 : pm_as (pm_cd pm_mm0) 348 = some (.iload_n 3, 1) := by decide +kernel
theorem pm_a0_349 : pm_as (pm_cd pm_mm0) 349 = some (.iconst 2, 1) := by decide +kernel
theorem pm_a0_350 : pm_as (pm_cd pm_mm0) 350 = some (.iadd, 1) := by decide +kernel
theorem pm_a0_351 : pm_as (pm_cd pm_mm0) 351 = some (.iaload, 1) := by decide +kernel
theorem pm_a0_352 : pm_as (pm_cd pm_mm0) 352 = some (.invokevirtual 45, 3) := by decide +kernel
theorem pm_a0_355 : pm_as (pm_cd pm_mm0) 355 = some (.aload_n 2, 1) := by decide +kernel
theorem pm_a0_356 : pm_as (pm_cd pm_mm0) 356 = some (.aload_n 0, 1) := by decide +kernel
theorem pm_a0_357 : pm_as (pm_cd pm_mm0) 357 = some (.iload_n 3, 1) := by decide +kernel
theorem pm_a0_358 : pm_as (pm_cd pm_mm0) 358 = some (.iconst 1, 1) := by decide +kernel
theorem pm_a0_359 : pm_as (pm_cd pm_mm0) 359 = some (.iadd, 1) := by decide +kernel
theorem pm_a0_360 : pm_as (pm_cd pm_mm0) 360 = some (.iaload, 1) := by decide +kernel
theorem pm_a0_361 : pm_as (pm_cd pm_mm0) 361 = some (.aload_n 0, 1) := by decide +kernel
theorem pm_a0_362 : pm_as (pm_cd pm_mm0) 362 = some (.iload_n 3, 1) := by decide +kernel
theorem pm_a0_363 : pm_as (pm_cd pm_mm0) 363 = some (.iconst 2, 1) := by decide +kernel
theorem pm_a0_364 : pm_as (pm_cd pm_mm0) 364 = some (.iadd, 1) := by decide +kernel
theorem pm_a0_365 : pm_as (pm_cd pm_mm0) 365 = some (.iaload, 1) := by decide +kernel
theorem pm_a0_366 : pm_as (pm_cd pm_mm0) 366 = some (.invokevirtual 48, 3) := by decide +kernel
theorem pm_a0_369 : pm_as (pm_cd pm_mm0) 369 = some (.if_icmp .eq 410, 3) := by decide +kernel
theorem pm_a0_374 : pm_as (pm_cd pm_mm0) 374 = some (.aload_n 1, 1) := by decide +kernel
theorem pm_a0_375 : pm_as (pm_cd pm_mm0) 375 = some (.aload_n 0, 1) := by decide +kernel
theorem pm_a0_376 : pm_as (pm_cd pm_mm0) 376 = some (.iload_n 3, 1) := by decide +kernel
theorem pm_a0_377 : pm_as (pm_cd pm_mm0) 377 = some (.iconst 1, 1) := by decide +kernel
theorem pm_a0_378 : pm_as (pm_cd pm_mm0) 378 = some (.iadd, 1) := by decide +kernel
theorem pm_a0_379 : pm_as (pm_cd pm_mm0) 379 = some (.iaload, 1) := by decide +kernel
theorem pm_a0_380 : pm_as (pm_cd pm_mm0) 380 = some (.invokevirtual 49, 3) := by decide +kernel
theorem pm_a0_383 : pm_as (pm_cd pm_mm0) 383 = some (.aload_n 2, 1) := by decide +kernel
theorem pm_a0_384 : pm_as (pm_cd pm_mm0) 384 = some (.aload_n 0, 1) := by decide +kernel
theorem pm_a0_385 : pm_as (pm_cd pm_mm0) 385 = some (.iload_n 3, 1) := by decide +kernel
theorem pm_a0_386 : pm_as (pm_cd pm_mm0) 386 = some (.iconst 1, 1) := by decide +kernel
theorem pm_a0_387 : pm_as (pm_cd pm_mm0) 387 = some (.iadd, 1) := by decide +kernel
theorem pm_a0_388 : pm_as (pm_cd pm_mm0) 388 = some (.iaload, 1) := by decide +kernel
theorem pm_a0_389 : pm_as (pm_cd pm_mm0) 389 = some (.invokevirtual 52, 3) := by decide +kernel
theorem pm_a0_392 : pm_as (pm_cd pm_mm0) 392 = some (.if_icmp .eq 387, 3) := by decide +kernel
theorem pm_a0_397 : pm_as (pm_cd pm_mm0) 397 = some (.aload_n 1, 1) := by decide +kernel
theorem pm_a0_398 : pm_as (pm_cd pm_mm0) 398 = some (.aload_n 0, 1) := by decide +kernel
theorem pm_a0_399 : pm_as (pm_cd pm_mm0) 399 = some (.iload_n 3, 1) := by decide +kernel
theorem pm_a0_400 : pm_as (pm_cd pm_mm0) 400 = some (.iconst 1, 1) := by decide +kernel
theorem pm_a0_401 : pm_as (pm_cd pm_mm0) 401 = some (.iadd, 1) := by decide +kernel
theorem pm_a0_402 : pm_as (pm_cd pm_mm0) 402 = some (.iaload, 1) := by decide +kernel
theorem pm_a0_403 : pm_as (pm_cd pm_mm0) 403 = some (.aload_n 0, 1) := by decide +kernel
theorem pm_a0_404 : pm_as (pm_cd pm_mm0) 404 = some (.iload_n 3, 1) := by decide +kernel
theorem pm_a0_405 : pm_as (pm_cd pm_mm0) 405 = some (.iconst 2, 1) := by decide +kernel
theorem pm_a0_406 : pm_as (pm_cd pm_mm0) 406 = some (.iadd, 1) := by decide +kernel
theorem pm_a0_407 : pm_as (pm_cd pm_mm0) 407 = some (.iaload, 1) := by decide +kernel
theorem pm_a0_408 : pm_as (pm_cd pm_mm0) 408 = some (.invokevirtual 53, 3) := by decide +kernel
theorem pm_a0_411 : pm_as (pm_cd pm_mm0) 411 = some (.aload_n 2, 1) := by decide +kernel
theorem pm_a0_412 : pm_as (pm_cd pm_mm0) 412 = some (.aload_n 0, 1) := by decide +kernel
theorem pm_a0_413 : pm_as (pm_cd pm_mm0) 413 = some (.iload_n 3, 1) := by decide +kernel
theorem pm_a0_414 : pm_as (pm_cd pm_mm0) 414 = some (.iconst 1, 1) := by decide +kernel
theorem pm_a0_415 : pm_as (pm_cd pm_mm0) 415 = some (.iadd, 1) := by decide +kernel
theorem pm_a0_416 : pm_as (pm_cd pm_mm0) 416 = some (.iaload, 1) := by decide +kernel
theorem pm_a0_417 : pm_as (pm_cd pm_mm0) 417 = some (.aload_n 0, 1) := by decide +kernel
theorem pm_a0_418 : pm_as (pm_cd pm_mm0) 418 = some (.iload_n 3, 1) := by decide +kernel
theorem pm_a0_419 : pm_as (pm_cd pm_mm0) 419 = some (.iconst 2, 1) := by decide +kernel
theorem pm_a0_420 : pm_as (pm_cd pm_mm0) 420 = some (.iadd, 1) := by decide +kernel
theorem pm_a0_421 : pm_as (pm_cd pm_mm0) 421 = some (.iaload, 1) := by decide +kernel
theorem pm_a0_422 : pm_as (pm_cd pm_mm0) 422 = some (.invokevirtual 56, 3) := by decide +kernel
theorem pm_a0_425 : pm_as (pm_cd pm_mm0) 425 = some (.if_icmp .eq 354, 3) := by decide +kernel
theorem pm_a0_430 : pm_as (pm_cd pm_mm0) 430 = some (.aload_n 1, 1) := by decide +kernel
theorem pm_a0_431 : pm_as (pm_cd pm_mm0) 431 = some (.aload_n 0, 1) := by decide +kernel
theorem pm_a0_432 : pm_as (pm_cd pm_mm0) 432 = some (.iload_n 3, 1) := by decide +kernel
theorem pm_a0_433 : pm_as (pm_cd pm_mm0) 433 = some (.iconst 1, 1) := by decide +kernel
theorem pm_a0_434 : pm_as (pm_cd pm_mm0) 434 = some (.iadd, 1) := by decide +kernel
theorem pm_a0_435 : pm_as (pm_cd pm_mm0) 435 = some (.iaload, 1) := by decide +kernel
theorem pm_a0_436 : pm_as (pm_cd pm_mm0) 436 = some (.aload_n 0, 1) := by decide +kernel
theorem pm_a0_437 : pm_as (pm_cd pm_mm0) 437 = some (.iload_n 3, 1) := by decide +kernel
theorem pm_a0_438 : pm_as (pm_cd pm_mm0) 438 = some (.iconst 2, 1) := by decide +kernel
theorem pm_a0_439 : pm_as (pm_cd pm_mm0) 439 = some (.iadd, 1) := by decide +kernel
theorem pm_a0_440 : pm_as (pm_cd pm_mm0) 440 = some (.iaload, 1) := by decide +kernel
theorem pm_a0_441 : pm_as (pm_cd pm_mm0) 441 = some (.invokevirtual 57, 3) := by decide +kernel
theorem pm_a0_444 : pm_as (pm_cd pm_mm0) 444 = some (.aload_n 2, 1) := by decide +kernel
theorem pm_a0_445 : pm_as (pm_cd pm_mm0) 445 = some (.aload_n 0, 1) := by decide +kernel
theorem pm_a0_446 : pm_as (pm_cd pm_mm0) 446 = some (.iload_n 3, 1) := by decide +kernel
theorem pm_a0_447 : pm_as (pm_cd pm_mm0) 447 = some (.iconst 1, 1) := by decide +kernel
theorem pm_a0_448 : pm_as (pm_cd pm_mm0) 448 = some (.iadd, 1) := by decide +kernel
theorem pm_a0_449 : pm_as (pm_cd pm_mm0) 449 = some (.iaload, 1) := by decide +kernel
theorem pm_a0_450 : pm_as (pm_cd pm_mm0) 450 = some (.aload_n 0, 1) := by decide +kernel
theorem pm_a0_451 : pm_as (pm_cd pm_mm0) 451 = some (.iload_n 3, 1) := by decide +kernel
theorem pm_a0_452 : pm_as (pm_cd pm_mm0) 452 = some (.iconst 2, 1) := by decide +kernel
theorem pm_a0_453 : pm_as (pm_cd pm_mm0) 453 = some (.iadd, 1) := by decide +kernel
theorem pm_a0_454 : pm_as (pm_cd pm_mm0) 454 = some (.iaload, 1) := by decide +kernel
theorem pm_a0_455 : pm_as (pm_cd pm_mm0) 455 = some (.invokevirtual 60, 3) := by decide +kernel
theorem pm_a0_458 : pm_as (pm_cd pm_mm0) 458 = some (.if_icmp .eq 321, 3) := by decide +kernel
theorem pm_a0_463 : pm_as (pm_cd pm_mm0) 463 = some (.aload_n 1, 1) := by decide +kernel
theorem pm_a0_464 : pm_as (pm_cd pm_mm0) 464 = some (.aload_n 0, 1) := by decide +kernel
theorem pm_a0_465 : pm_as (pm_cd pm_mm0) 465 = some (.iload_n 3, 1) := by decide +kernel
theorem pm_a0_466 : pm_as (pm_cd pm_mm0) 466 = some (.iconst 1, 1) := by decide +kernel
theorem pm_a0_467 : pm_as (pm_cd pm_mm0) 467 = some (.iadd, 1) := by decide +kernel
theorem pm_a0_468 : pm_as (pm_cd pm_mm0) 468 = some (.iaload, 1) := by decide +kernel
theorem pm_a0_469 : pm_as (pm_cd pm_mm0) 469 = some (.aload_n 0, 1) := by decide +kernel
theorem pm_a0_470 : pm_as (pm_cd pm_mm0) 470 = some (.iload_n 3, 1) := by decide +kernel
theorem pm_a0_471 : pm_as (pm_cd pm_mm0) 471 = some (.iconst 2, 1) := by decide +kernel
theorem pm_a0_472 : pm_as (pm_cd pm_mm0) 472 = some (.iadd, 1) := by decide +kernel
theorem pm_a0_473 : pm_as (pm_cd pm_mm0) 473 = some (.iaload, 1) := by decide +kernel
theorem pm_a0_474 : pm_as (pm_cd pm_mm0) 474 = some (.aload_n 0, 1) := by decide +kernel
theorem pm_a0_475 : pm_as (pm_cd pm_mm0) 475 = some (.iload_n 3, 1) := by decide +kernel
theorem pm_a0_476 : pm_as (pm_cd pm_mm0) 476 = some (.iconst 3, 1) := by decide +kernel
theorem pm_a0_477 : pm_as (pm_cd pm_mm0) 477 = some (.iadd, 1) := by decide +kernel
theorem pm_a0_478 : pm_as (pm_cd pm_mm0) 478 = some (.iaload, 1) := by decide +kernel
theorem pm_a0_479 : pm_as (pm_cd pm_mm0) 479 = some (.invokevirtual 61, 3) := by decide +kernel
theorem pm_a0_482 : pm_as (pm_cd pm_mm0) 482 = some (.aload_n 2, 1) := by decide +kernel
theorem pm_a0_483 : pm_as (pm_cd pm_mm0) 483 = some (.aload_n 0, 1) := by decide +kernel
theorem pm_a0_484 : pm_as (pm_cd pm_mm0) 484 = some (.iload_n 3, 1) := by decide +kernel
theorem pm_a0_485 : pm_as (pm_cd pm_mm0) 485 = some (.iconst 1, 1) := by decide +kernel
theorem pm_a0_486 : pm_as (pm_cd pm_mm0) 486 = some (.iadd, 1) := by decide +kernel
theorem pm_a0_487 : pm_as (pm_cd pm_mm0) 487 = some (.iaload, 1) := by decide +kernel
theorem pm_a0_488 : pm_as (pm_cd pm_mm0) 488 = some (.aload_n 0, 1) := by decide +kernel
theorem pm_a0_489 : pm_as (pm_cd pm_mm0) 489 = some (.iload_n 3, 1) := by decide +kernel
theorem pm_a0_490 : pm_as (pm_cd pm_mm0) 490 = some (.iconst 2, 1) := by decide +kernel
theorem pm_a0_491 : pm_as (pm_cd pm_mm0) 491 = some (.iadd, 1) := by decide +kernel
theorem pm_a0_492 : pm_as (pm_cd pm_mm0) 492 = some (.iaload, 1) := by decide +kernel
theorem pm_a0_493 : pm_as (pm_cd pm_mm0) 493 = some (.aload_n 0, 1) := by decide +kernel
theorem pm_a0_494 : pm_as (pm_cd pm_mm0) 494 = some (.iload_n 3, 1) := by decide +kernel
theorem pm_a0_495 : pm_as (pm_cd pm_mm0) 495 = some (.iconst 3, 1) := by decide +kernel
theorem pm_a0_496 : pm_as (pm_cd pm_mm0) 496 = some (.iadd, 1) := by decide +kernel
theorem pm_a0_497 : pm_as (pm_cd pm_mm0) 497 = some (.iaload, 1) := by decide +kernel
theorem pm_a0_498 : pm_as (pm_cd pm_mm0) 498 = some (.invokevirtual 65, 3) := by decide +kernel
theorem pm_a0_501 : pm_as (pm_cd pm_mm0) 501 = some (.if_icmp .eq 278, 3) := by decide +kernel
theorem pm_a0_506 : pm_as (pm_cd pm_mm0) 506 = some (.aload_n 1, 1) := by decide +kernel
theorem pm_a0_507 : pm_as (pm_cd pm_mm0) 507 = some (.aload_n 0, 1) := by decide +kernel
theorem pm_a0_508 : pm_as (pm_cd pm_mm0) 508 = some (.iload_n 3, 1) := by decide +kernel
theorem pm_a0_509 : pm_as (pm_cd pm_mm0) 509 = some (.iconst 1, 1) := by decide +kernel
theorem pm_a0_510 : pm_as (pm_cd pm_mm0) 510 = some (.iadd, 1) := by decide +kernel
theorem pm_a0_511 : pm_as (pm_cd pm_mm0) 511 = some (.iaload, 1) := by decide +kernel
theorem pm_a0_512 : pm_as (pm_cd pm_mm0) 512 = some (.invokevirtual 66, 3) := by decide +kernel
theorem pm_a0_515 : pm_as (pm_cd pm_mm0) 515 = some (.aload_n 2, 1) := by decide +kernel
theorem pm_a0_516 : pm_as (pm_cd pm_mm0) 516 = some (.aload_n 0, 1) := by decide +kernel
theorem pm_a0_517 : pm_as (pm_cd pm_mm0) 517 = some (.iload_n 3, 1) := by decide +kernel
theorem pm_a0_518 : pm_as (pm_cd pm_mm0) 518 = some (.iconst 1, 1) := by decide +kernel
theorem pm_a0_519 : pm_as (pm_cd pm_mm0) 519 = some (.iadd, 1) := by decide +kernel
theorem pm_a0_520 : pm_as (pm_cd pm_mm0) 520 = some (.iaload, 1) := by decide +kernel
theorem pm_a0_521 : pm_as (pm_cd pm_mm0) 521 = some (.invokevirtual 69, 3) := by decide +kernel
theorem pm_a0_524 : pm_as (pm_cd pm_mm0) 524 = some (.if_icmp .eq 255, 3) := by decide +kernel
theorem pm_a0_529 : pm_as (pm_cd pm_mm0) 529 = some (.aload_n 1, 1) := by decide +kernel
theorem pm_a0_530 : pm_as (pm_cd pm_mm0) 530 = some (.aload_n 0, 1) := by decide +kernel
theorem pm_a0_531 : pm_as (pm_cd pm_mm0) 531 = some (.iload_n 3, 1) := by decide +kernel
theorem pm_a0_532 : pm_as (pm_cd pm_mm0) 532 = some (.iconst 1, 1) := by decide +kernel
theorem pm_a0_533 : pm_as (pm_cd pm_mm0) 533 = some (.iadd, 1) := by decide +kernel
theorem pm_a0_534 : pm_as (pm_cd pm_mm0) 534 = some (.iaload, 1) := by decide +kernel
theorem pm_a0_535 : pm_as (pm_cd pm_mm0) 535 = some (.aload_n 0, 1) := by decide +kernel
theorem pm_a0_536 : pm_as (pm_cd pm_mm0) 536 = some (.iload_n 3, 1) := by decide +kernel
theorem pm_a0_537 : pm_as (pm_cd pm_mm0) 537 = some (.iconst 2, 1) := by decide +kernel
theorem pm_a0_538 : pm_as (pm_cd pm_mm0) 538 = some (.iadd, 1) := by decide +kernel
theorem pm_a0_539 : pm_as (pm_cd pm_mm0) 539 = some (.iaload, 1) := by decide +kernel
theorem pm_a0_540 : pm_as (pm_cd pm_mm0) 540 = some (.invokevirtual 70, 3) := by decide +kernel
theorem pm_a0_543 : pm_as (pm_cd pm_mm0) 543 = some (.aload_n 2, 1) := by decide +kernel
theorem pm_a0_544 : pm_as (pm_cd pm_mm0) 544 = some (.aload_n 0, 1) := by decide +kernel
theorem pm_a0_545 : pm_as (pm_cd pm_mm0) 545 = some (.iload_n 3, 1) := by decide +kernel
theorem pm_a0_546 : pm_as (pm_cd pm_mm0) 546 = some (.iconst 1, 1) := by decide +kernel
theorem pm_a0_547 : pm_as (pm_cd pm_mm0) 547 = some (.iadd, 1) := by decide +kernel
theorem pm_a0_548 : pm_as (pm_cd pm_mm0) 548 = some (.iaload, 1) := by decide +kernel
theorem pm_a0_549 : pm_as (pm_cd pm_mm0) 549 = some (.aload_n 0, 1) := by decide +kernel
theorem pm_a0_550 : pm_as (pm_cd pm_mm0) 550 = some (.iload_n 3, 1) := by decide +kernel
theorem pm_a0_551 : pm_as (pm_cd pm_mm0) 551 = some (.iconst 2, 1) := by decide +kernel
theorem pm_a0_552 : pm_as (pm_cd pm_mm0) 552 = some (.iadd, 1) := by decide +kernel
theorem pm_a0_553 : pm_as (pm_cd pm_mm0) 553 = some (.iaload, 1) := by decide +kernel
theorem pm_a0_554 : pm_as (pm_cd pm_mm0) 554 = some (.invokevirtual 73, 3) := by decide +kernel
theorem pm_a0_557 : pm_as (pm_cd pm_mm0) 557 = some (.if_icmp .eq 222, 3) := by decide +kernel
theorem pm_a0_562 : pm_as (pm_cd pm_mm0) 562 = some (.aload_n 1, 1) := by decide +kernel
theorem pm_a0_563 : pm_as (pm_cd pm_mm0) 563 = some (.aload_n 0, 1) := by decide +kernel
theorem pm_a0_564 : pm_as (pm_cd pm_mm0) 564 = some (.iload_n 3, 1) := by decide +kernel
theorem pm_a0_565 : pm_as (pm_cd pm_mm0) 565 = some (.iconst 1, 1) := by decide +kernel
theorem pm_a0_566 : pm_as (pm_cd pm_mm0) 566 = some (.iadd, 1) := by decide +kernel
theorem pm_a0_567 : pm_as (pm_cd pm_mm0) 567 = some (.iaload, 1) := by decide +kernel
theorem pm_a0_568 : pm_as (pm_cd pm_mm0) 568 = some (.invokevirtual 74, 3) := by decide +kernel
theorem pm_a0_571 : pm_as (pm_cd pm_mm0) 571 = some (.aload_n 2, 1) := by decide +kernel
theorem pm_a0_572 : pm_as (pm_cd pm_mm0) 572 = some (.aload_n 0, 1) := by decide +kernel
theorem pm_a0_573 : pm_as (pm_cd pm_mm0) 573 = some (.iload_n 3, 1) := by decide +kernel
theorem pm_a0_574 : pm_as (pm_cd pm_mm0) 574 = some (.iconst 1, 1) := by decide +kernel
theorem pm_a0_575 : pm_as (pm_cd pm_mm0) 575 = some (.iadd, 1) := by decide +kernel
theorem pm_a0_576 : pm_as (pm_cd pm_mm0) 576 = some (.iaload, 1) := by decide +kernel
theorem pm_a0_577 : pm_as (pm_cd pm_mm0) 577 = some (.invokevirtual 77, 3) := by decide +kernel
theorem pm_a0_580 : pm_as (pm_cd pm_mm0) 580 = some (.if_icmp .eq 199, 3) := by decide +kernel
theorem pm_a0_585 : pm_as (pm_cd pm_mm0) 585 = some (.aload_n 1, 1) := by decide +kernel
theorem pm_a0_586 : pm_as (pm_cd pm_mm0) 586 = some (.aload_n 0, 1) := by decide +kernel
theorem pm_a0_587 : pm_as (pm_cd pm_mm0) 587 = some (.iload_n 3, 1) := by decide +kernel
theorem pm_a0_588 : pm_as (pm_cd pm_mm0) 588 = some (.iconst 1, 1) := by decide +kernel
theorem pm_a0_589 : pm_as (pm_cd pm_mm0) 589 = some (.iadd, 1) := by decide +kernel
theorem pm_a0_590 : pm_as (pm_cd pm_mm0) 590 = some (.iaload, 1) := by decide +kernel
theorem pm_a0_591 : pm_as (pm_cd pm_mm0) 591 = some (.invokevirtual 78, 3) := by decide +kernel
theorem pm_a0_594 : pm_as (pm_cd pm_mm0) 594 = some (.aload_n 2, 1) := by decide +kernel
theorem pm_a0_595 : pm_as (pm_cd pm_mm0) 595 = some (.aload_n 0, 1) := by decide +kernel
theorem pm_a0_596 : pm_as (pm_cd pm_mm0) 596 = some (.iload_n 3, 1) := by decide +kernel
theorem pm_a0_597 : pm_as (pm_cd pm_mm0) 597 = some (.iconst 1, 1) := by decide +kernel
theorem pm_a0_598 : pm_as (pm_cd pm_mm0) 598 = some (.iadd, 1) := by decide +kernel
theorem pm_a0_599 : pm_as (pm_cd pm_mm0) 599 = some (.iaload, 1) := by decide +kernel
theorem pm_a0_600 : pm_as (pm_cd pm_mm0) 600 = some (.invokevirtual 81, 3) := by decide +kernel
theorem pm_a0_603 : pm_as (pm_cd pm_mm0) 603 = some (.if_icmp .eq 176, 3) := by decide +kernel
theorem pm_a0_608 : pm_as (pm_cd pm_mm0) 608 = some (.aload_n 1, 1) := by decide +kernel
theorem pm_a0_609 : pm_as (pm_cd pm_mm0) 609 = some (.aload_n 0, 1) := by decide +kernel
theorem pm_a0_610 : pm_as (pm_cd pm_mm0) 610 = some (.iload_n 3, 1) := by decide +kernel
theorem pm_a0_611 : pm_as (pm_cd pm_mm0) 611 = some (.iconst 1, 1) := by decide +kernel
theorem pm_a0_612 : pm_as (pm_cd pm_mm0) 612 = some (.iadd, 1) := by decide +kernel
theorem pm_a0_613 : pm_as (pm_cd pm_mm0) 613 = some (.iaload, 1) := by decide +kernel
theorem pm_a0_614 : pm_as (pm_cd pm_mm0) 614 = some (.invokevirtual 82, 3) := by decide +kernel
theorem pm_a0_617 : pm_as (pm_cd pm_mm0) 617 = some (.aload_n 2, 1) := by decide +kernel
theorem pm_a0_618 : pm_as (pm_cd pm_mm0) 618 = some (.aload_n 0, 1) := by decide +kernel
theorem pm_a0_619 : pm_as (pm_cd pm_mm0) 619 = some (.iload_n 3, 1) := by decide +kernel
theorem pm_a0_620 : pm_as (pm_cd pm_mm0) 620 = some (.iconst 1, 1) := by decide +kernel
theorem pm_a0_621 : pm_as (pm_cd pm_mm0) 621 = some (.iadd, 1) := by decide +kernel
theorem pm_a0_622 : pm_as (pm_cd pm_mm0) 622 = some (.iaload, 1) := by decide +kernel
theorem pm_a0_623 : pm_as (pm_cd pm_mm0) 623 = some (.invokevirtual 85, 3) := by decide +kernel
theorem pm_a0_626 : pm_as (pm_cd pm_mm0) 626 = some (.if_icmp .eq 153, 3) := by decide +kernel
theorem pm_a0_631 : pm_as (pm_cd pm_mm0) 631 = some (.aload_n 1, 1) := by decide +kernel
theorem pm_a0_632 : pm_as (pm_cd pm_mm0) 632 = some (.aload_n 0, 1) := by decide +kernel
theorem pm_a0_633 : pm_as (pm_cd pm_mm0) 633 = some (.iload_n 3, 1) := by decide +kernel
theorem pm_a0_634 : pm_as (pm_cd pm_mm0) 634 = some (.iconst 1, 1) := by decide +kernel
theorem pm_a0_635 : pm_as (pm_cd pm_mm0) 635 = some (.iadd, 1) := by decide +kernel
theorem pm_a0_636 : pm_as (pm_cd pm_mm0) 636 = some (.iaload, 1) := by decide +kernel
theorem pm_a0_637 : pm_as (pm_cd pm_mm0) 637 = some (.aload_n 0, 1) := by decide +kernel
theorem pm_a0_638 : pm_as (pm_cd pm_mm0) 638 = some (.iload_n 3, 1) := by decide +kernel
theorem pm_a0_639 : pm_as (pm_cd pm_mm0) 639 = some (.iconst 2, 1) := by decide +kernel
theorem pm_a0_640 : pm_as (pm_cd pm_mm0) 640 = some (.iadd, 1) := by decide +kernel
theorem pm_a0_641 : pm_as (pm_cd pm_mm0) 641 = some (.iaload, 1) := by decide +kernel
theorem pm_a0_642 : pm_as (pm_cd pm_mm0) 642 = some (.invokevirtual 86, 3) := by decide +kernel
theorem pm_a0_645 : pm_as (pm_cd pm_mm0) 645 = some (.aload_n 2, 1) := by decide +kernel
theorem pm_a0_646 : pm_as (pm_cd pm_mm0) 646 = some (.aload_n 0, 1) := by decide +kernel
theorem pm_a0_647 : pm_as (pm_cd pm_mm0) 647 = some (.iload_n 3, 1) := by decide +kernel
theorem pm_a0_648 : pm_as (pm_cd pm_mm0) 648 = some (.iconst 1, 1) := by decide +kernel
theorem pm_a0_649 : pm_as (pm_cd pm_mm0) 649 = some (.iadd, 1) := by decide +kernel
theorem pm_a0_650 : pm_as (pm_cd pm_mm0) 650 = some (.iaload, 1) := by decide +kernel
theorem pm_a0_651 : pm_as (pm_cd pm_mm0) 651 = some (.aload_n 0, 1) := by decide +kernel
theorem pm_a0_652 : pm_as (pm_cd pm_mm0) 652 = some (.iload_n 3, 1) := by decide +kernel
theorem pm_a0_653 : pm_as (pm_cd pm_mm0) 653 = some (.iconst 2, 1) := by decide +kernel
theorem pm_a0_654 : pm_as (pm_cd pm_mm0) 654 = some (.iadd, 1) := by decide +kernel
theorem pm_a0_655 : pm_as (pm_cd pm_mm0) 655 = some (.iaload, 1) := by decide +kernel
theorem pm_a0_656 : pm_as (pm_cd pm_mm0) 656 = some (.invokevirtual 89, 3) := by decide +kernel
theorem pm_a0_659 : pm_as (pm_cd pm_mm0) 659 = some (.if_icmp .eq 120, 3) := by decide +kernel
theorem pm_a0_664 : pm_as (pm_cd pm_mm0) 664 = some (.aload_n 1, 1) := by decide +kernel
theorem pm_a0_665 : pm_as (pm_cd pm_mm0) 665 = some (.aload_n 0, 1) := by decide +kernel
theorem pm_a0_666 : pm_as (pm_cd pm_mm0) 666 = some (.iload_n 3, 1) := by decide +kernel
theorem pm_a0_667 : pm_as (pm_cd pm_mm0) 667 = some (.iconst 1, 1) := by decide +kernel
theorem pm_a0_668 : pm_as (pm_cd pm_mm0) 668 = some (.iadd, 1) := by decide +kernel
theorem pm_a0_669 : pm_as (pm_cd pm_mm0) 669 = some (.iaload, 1) := by decide +kernel
theorem pm_a0_670 : pm_as (pm_cd pm_mm0) 670 = some (.invokevirtual 90, 3) := by decide +kernel
theorem pm_a0_673 : pm_as (pm_cd pm_mm0) 673 = some (.aload_n 2, 1) := by decide +kernel
theorem pm_a0_674 : pm_as (pm_cd pm_mm0) 674 = some (.aload_n 0, 1) := by decide +kernel
theorem pm_a0_675 : pm_as (pm_cd pm_mm0) 675 = some (.iload_n 3, 1) := by decide +kernel
theorem pm_a0_676 : pm_as (pm_cd pm_mm0) 676 = some (.iconst 1, 1) := by decide +kernel
theorem pm_a0_677 : pm_as (pm_cd pm_mm0) 677 = some (.iadd, 1) := by decide +kernel
theorem pm_a0_678 : pm_as (pm_cd pm_mm0) 678 = some (.iaload, 1) := by decide +kernel
theorem pm_a0_679 : pm_as (pm_cd pm_mm0) 679 = some (.invokevirtual 93, 3) := by decide +kernel
theorem pm_a0_682 : pm_as (pm_cd pm_mm0) 682 = some (.if_icmp .eq 97, 3) := by decide +kernel
theorem pm_a0_687 : pm_as (pm_cd pm_mm0) 687 = some (.aload_n 1, 1) := by decide +kernel
theorem pm_a0_688 : pm_as (pm_cd pm_mm0) 688 = some (.aload_n 0, 1) := by decide +kernel
theorem pm_a0_689 : pm_as (pm_cd pm_mm0) 689 = some (.iload_n 3, 1) := by decide +kernel
theorem pm_a0_690 : pm_as (pm_cd pm_mm0) 690 = some (.iconst 1, 1) := by decide +kernel
theorem pm_a0_691 : pm_as (pm_cd pm_mm0) 691 = some (.iadd, 1) := by decide +kernel
theorem pm_a0_692 : pm_as (pm_cd pm_mm0) 692 = some (.iaload, 1) := by decide +kernel
theorem pm_a0_693 : pm_as (pm_cd pm_mm0) 693 = some (.invokevirtual 94, 3) := by decide +kernel
theorem pm_a0_696 : pm_as (pm_cd pm_mm0) 696 = some (.aload_n 2, 1) := by decide +kernel
theorem pm_a0_697 : pm_as (pm_cd pm_mm0) 697 = some (.aload_n 0, 1) := by decide +kernel
theorem pm_a0_698 : pm_as (pm_cd pm_mm0) 698 = some (.iload_n 3, 1) := by decide +kernel
theorem pm_a0_699 : pm_as (pm_cd pm_mm0) 699 = some (.iconst 1, 1) := by decide +kernel
theorem pm_a0_700 : pm_as (pm_cd pm_mm0) 700 = some (.iadd, 1) := by decide +kernel
theorem pm_a0_701 : pm_as (pm_cd pm_mm0) 701 = some (.iaload, 1) := by decide +kernel
theorem pm_a0_702 : pm_as (pm_cd pm_mm0) 702 = some (.invokevirtual 97, 3) := by decide +kernel
theorem pm_a0_705 : pm_as (pm_cd pm_mm0) 705 = some (.if_icmp .eq 74, 3) := by decide +kernel
theorem pm_a0_710 : pm_as (pm_cd pm_mm0) 710 = some (.aload_n 1, 1) := by decide +kernel
theorem pm_a0_711 : pm_as (pm_cd pm_mm0) 711 = some (.aload_n 0, 1) := by decide +kernel
theorem pm_a0_712 : pm_as (pm_cd pm_mm0) 712 = some (.iload_n 3, 1) := by decide +kernel
theorem pm_a0_713 : pm_as (pm_cd pm_mm0) 713 = some (.iconst 1, 1) := by decide +kernel
theorem pm_a0_714 : pm_as (pm_cd pm_mm0) 714 = some (.iadd, 1) := by decide +kernel
theorem pm_a0_715 : pm_as (pm_cd pm_mm0) 715 = some (.iaload, 1) := by decide +kernel
theorem pm_a0_716 : pm_as (pm_cd pm_mm0) 716 = some (.aload_n 0, 1) := by decide +kernel
theorem pm_a0_717 : pm_as (pm_cd pm_mm0) 717 = some (.iload_n 3, 1) := by decide +kernel
theorem pm_a0_718 : pm_as (pm_cd pm_mm0) 718 = some (.iconst 2, 1) := by decide +kernel
theorem pm_a0_719 : pm_as (pm_cd pm_mm0) 719 = some (.iadd, 1) := by decide +kernel
theorem pm_a0_720 : pm_as (pm_cd pm_mm0) 720 = some (.iaload, 1) := by decide +kernel
theorem pm_a0_721 : pm_as (pm_cd pm_mm0) 721 = some (.invokevirtual 98, 3) := by decide +kernel
theorem pm_a0_724 : pm_as (pm_cd pm_mm0) 724 = some (.aload_n 2, 1) := by decide +kernel
theorem pm_a0_725 : pm_as (pm_cd pm_mm0) 725 = some (.aload_n 0, 1) := by decide +kernel
theorem pm_a0_726 : pm_as (pm_cd pm_mm0) 726 = some (.iload_n 3, 1) := by decide +kernel
theorem pm_a0_727 : pm_as (pm_cd pm_mm0) 727 = some (.iconst 1, 1) := by decide +kernel
theorem pm_a0_728 : pm_as (pm_cd pm_mm0) 728 = some (.iadd, 1) := by decide +kernel
theorem pm_a0_729 : pm_as (pm_cd pm_mm0) 729 = some (.iaload, 1) := by decide +kernel
theorem pm_a0_730 : pm_as (pm_cd pm_mm0) 730 = some (.aload_n 0, 1) := by decide +kernel
theorem pm_a0_731 : pm_as (pm_cd pm_mm0) 731 = some (.iload_n 3, 1) := by decide +kernel
theorem pm_a0_732 : pm_as (pm_cd pm_mm0) 732 = some (.iconst 2, 1) := by decide +kernel
theorem pm_a0_733 : pm_as (pm_cd pm_mm0) 733 = some (.iadd, 1) := by decide +kernel
theorem pm_a0_734 : pm_as (pm_cd pm_mm0) 734 = some (.iaload, 1) := by decide +kernel
theorem pm_a0_735 : pm_as (pm_cd pm_mm0) 735 = some (.invokevirtual 101, 3) := by decide +kernel
theorem pm_a0_738 : pm_as (pm_cd pm_mm0) 738 = some (.if_icmp .eq 41, 3) := by decide +kernel
theorem pm_a0_743 : pm_as (pm_cd pm_mm0) 743 = some (.aload_n 1, 1) := by decide +kernel
theorem pm_a0_744 : pm_as (pm_cd pm_mm0) 744 = some (.invokevirtual 102, 3) := by decide +kernel
theorem pm_a0_747 : pm_as (pm_cd pm_mm0) 747 = some (.aload_n 2, 1) := by decide +kernel
theorem pm_a0_748 : pm_as (pm_cd pm_mm0) 748 = some (.invokevirtual 105, 3) := by decide +kernel
theorem pm_a0_751 : pm_as (pm_cd pm_mm0) 751 = some (.if_icmp .eq 28, 3) := by decide +kernel
theorem pm_a0_756 : pm_as (pm_cd pm_mm0) 756 = some (.aload_n 1, 1) := by decide +kernel
theorem pm_a0_757 : pm_as (pm_cd pm_mm0) 757 = some (.aload_n 0, 1) := by decide +kernel
theorem pm_a0_758 : pm_as (pm_cd pm_mm0) 758 = some (.iload_n 3, 1) := by decide +kernel
theorem pm_a0_759 : pm_as (pm_cd pm_mm0) 759 = some (.iconst 1, 1) := by decide +kernel
theorem pm_a0_760 : pm_as (pm_cd pm_mm0) 760 = some (.iadd, 1) := by decide +kernel
theorem pm_a0_761 : pm_as (pm_cd pm_mm0) 761 = some (.iaload, 1) := by decide +kernel
theorem pm_a0_762 : pm_as (pm_cd pm_mm0) 762 = some (.invokevirtual 106, 3) := by decide +kernel
theorem pm_a0_765 : pm_as (pm_cd pm_mm0) 765 = some (.aload_n 2, 1) := by decide +kernel
theorem pm_a0_766 : pm_as (pm_cd pm_mm0) 766 = some (.aload_n 0, 1) := by decide +kernel
theorem pm_a0_767 : pm_as (pm_cd pm_mm0) 767 = some (.iload_n 3, 1) := by decide +kernel
theorem pm_a0_768 : pm_as (pm_cd pm_mm0) 768 = some (.iconst 1, 1) := by decide +kernel
theorem pm_a0_769 : pm_as (pm_cd pm_mm0) 769 = some (.iadd, 1) := by decide +kernel
theorem pm_a0_770 : pm_as (pm_cd pm_mm0) 770 = some (.iaload, 1) := by decide +kernel
theorem pm_a0_771 : pm_as (pm_cd pm_mm0) 771 = some (.invokevirtual 109, 3) := by decide +kernel
theorem pm_a0_774 : pm_as (pm_cd pm_mm0) 774 = some (.if_icmp .eq 5, 3) := by decide +kernel
theorem pm_a0_779 : pm_as (pm_cd pm_mm0) 779 = some (.iinc 3 6, 3) := by decide +kernel
theorem pm_a0_782 : pm_as (pm_cd pm_mm0) 782 = some (.goto (-764), 3) := by decide +kernel
theorem pm_a0_785 : pm_as (pm_cd pm_mm0) 785 = some (.iconst 1, 1) := by decide +kernel
theorem pm_a0_786 : pm_as (pm_cd pm_mm0) 786 = some (.ireturn, 1) := by decide +kernel
theorem pm_a1_0 : pm_as (pm_cd pm_mm1) 0 = some (.aload_n 0, 1) := by decide +kernel
theorem pm_a1_1 : pm_as (pm_cd pm_mm1) 1 = some (.invokespecial 1, 3) := by decide +kernel
theorem pm_a1_4 : pm_as (pm_cd pm_mm1) 4 = some (.aload_n 0, 1) := by decide +kernel
theorem pm_a1_5 : pm_as (pm_cd pm_mm1) 5 = some (.new 7, 3) := by decide +kernel
theorem pm_a1_8 : pm_as (pm_cd pm_mm1) 8 = some (.dup, 1) := by decide +kernel
theorem pm_a1_9 : pm_as (pm_cd pm_mm1) 9 = some (.invokespecial 9, 3) := by decide +kernel
theorem pm_a1_12 : pm_as (pm_cd pm_mm1) 12 = some (.putfield 10, 3) := by decide +kernel
theorem pm_a1_15 : pm_as (pm_cd pm_mm1) 15 = some (.aload_n 0, 1) := by decide +kernel
theorem pm_a1_16 : pm_as (pm_cd pm_mm1) 16 = some (.bipush 32, 2) := by decide +kernel
theorem pm_a1_18 : pm_as (pm_cd pm_mm1) 18 = some (.anewarray 16, 3) := by decide +kernel
theorem pm_a1_21 : pm_as (pm_cd pm_mm1) 21 = some (.putfield 18, 3) := by decide +kernel
theorem pm_a1_24 : pm_as (pm_cd pm_mm1) 24 = some (.aload_n 0, 1) := by decide +kernel
theorem pm_a1_25 : pm_as (pm_cd pm_mm1) 25 = some (.new 16, 3) := by decide +kernel
theorem pm_a1_28 : pm_as (pm_cd pm_mm1) 28 = some (.dup, 1) := by decide +kernel
theorem pm_a1_29 : pm_as (pm_cd pm_mm1) 29 = some (.sipush 500, 3) := by decide +kernel
theorem pm_a1_32 : pm_as (pm_cd pm_mm1) 32 = some (.invokespecial 22, 3) := by decide +kernel
theorem pm_a1_35 : pm_as (pm_cd pm_mm1) 35 = some (.putfield 25, 3) := by decide +kernel
theorem pm_a1_38 : pm_as (pm_cd pm_mm1) 38 = some (.aload_n 0, 1) := by decide +kernel
theorem pm_a1_39 : pm_as (pm_cd pm_mm1) 39 = some (.new 29, 3) := by decide +kernel
theorem pm_a1_42 : pm_as (pm_cd pm_mm1) 42 = some (.dup, 1) := by decide +kernel
theorem pm_a1_43 : pm_as (pm_cd pm_mm1) 43 = some (.invokespecial 31, 3) := by decide +kernel
theorem pm_a1_46 : pm_as (pm_cd pm_mm1) 46 = some (.putfield 32, 3) := by decide +kernel
theorem pm_a1_49 : pm_as (pm_cd pm_mm1) 49 = some (.aload_n 0, 1) := by decide +kernel
theorem pm_a1_50 : pm_as (pm_cd pm_mm1) 50 = some (.new 36, 3) := by decide +kernel
theorem pm_a1_53 : pm_as (pm_cd pm_mm1) 53 = some (.dup, 1) := by decide +kernel
theorem pm_a1_54 : pm_as (pm_cd pm_mm1) 54 = some (.aload_n 0, 1) := by decide +kernel
theorem pm_a1_55 : pm_as (pm_cd pm_mm1) 55 = some (.getfield 10, 3) := by decide +kernel
theorem pm_a1_58 : pm_as (pm_cd pm_mm1) 58 = some (.invokespecial 38, 3) := by decide +kernel
theorem pm_a1_61 : pm_as (pm_cd pm_mm1) 61 = some (.putfield 41, 3) := by decide +kernel
theorem pm_a1_64 : pm_as (pm_cd pm_mm1) 64 = some (.aload_n 0, 1) := by decide +kernel
theorem pm_a1_65 : pm_as (pm_cd pm_mm1) 65 = some (.new 45, 3) := by decide +kernel
theorem pm_a1_68 : pm_as (pm_cd pm_mm1) 68 = some (.dup, 1) := by decide +kernel
theorem pm_a1_69 : pm_as (pm_cd pm_mm1) 69 = some (.invokespecial 47, 3) := by decide +kernel
theorem pm_a1_72 : pm_as (pm_cd pm_mm1) 72 = some (.putfield 48, 3) := by decide +kernel
theorem pm_a1_75 : pm_as (pm_cd pm_mm1) 75 = some (.aload_n 0, 1) := by decide +kernel
theorem pm_a1_76 : pm_as (pm_cd pm_mm1) 76 = some (.new 52, 3) := by decide +kernel
theorem pm_a1_79 : pm_as (pm_cd pm_mm1) 79 = some (.dup, 1) := by decide +kernel
theorem pm_a1_80 : pm_as (pm_cd pm_mm1) 80 = some (.aload_n 0, 1) := by decide +kernel
theorem pm_a1_81 : pm_as (pm_cd pm_mm1) 81 = some (.getfield 32, 3) := by decide +kernel
theorem pm_a1_84 : pm_as (pm_cd pm_mm1) 84 = some (.invokespecial 54, 3) := by decide +kernel
theorem pm_a1_87 : pm_as (pm_cd pm_mm1) 87 = some (.putfield 57, 3) := by decide +kernel
theorem pm_a1_90 : pm_as (pm_cd pm_mm1) 90 = some (.return_, 1) := by decide +kernel
theorem pm_a2_0 : pm_as (pm_cd pm_mm2) 0 = some (.aload_n 0, 1) := by decide +kernel
theorem pm_a2_1 : pm_as (pm_cd pm_mm2) 1 = some (.invokespecial 3, 3) := by decide +kernel
theorem pm_a2_4 : pm_as (pm_cd pm_mm2) 4 = some (.aload_n 0, 1) := by decide +kernel
theorem pm_a2_5 : pm_as (pm_cd pm_mm2) 5 = some (.sipush 600, 3) := by decide +kernel
theorem pm_a2_8 : pm_as (pm_cd pm_mm2) 8 = some (.newarray .int, 2) := by decide +kernel
theorem pm_a2_10 : pm_as (pm_cd pm_mm2) 10 = some (.putfield 9, 3) := by decide +kernel
theorem pm_a2_13 : pm_as (pm_cd pm_mm2) 13 = some (.return_, 1) := by decide +kernel
theorem pm_a3_0 : pm_as (pm_cd pm_mm3) 0 = some (.aload_n 0, 1) := by decide +kernel
theorem pm_a3_1 : pm_as (pm_cd pm_mm3) 1 = some (.invokespecial 3, 3) := by decide +kernel
theorem pm_a3_4 : pm_as (pm_cd pm_mm3) 4 = some (.aload_n 0, 1) := by decide +kernel
theorem pm_a3_5 : pm_as (pm_cd pm_mm3) 5 = some (.iload_n 1, 1) := by decide +kernel
theorem pm_a3_6 : pm_as (pm_cd pm_mm3) 6 = some (.iconst 0, 1) := by decide +kernel
theorem pm_a3_7 : pm_as (pm_cd pm_mm3) 7 = some (.invokestatic 9, 3) := by decide +kernel
theorem pm_a3_10 : pm_as (pm_cd pm_mm3) 10 = some (.newarray .int, 2) := by decide +kernel
theorem pm_a3_12 : pm_as (pm_cd pm_mm3) 12 = some (.putfield 15, 3) := by decide +kernel
theorem pm_a3_15 : pm_as (pm_cd pm_mm3) 15 = some (.return_, 1) := by decide +kernel
theorem pm_a4_0 : pm_as (pm_cd pm_mm4) 0 = some (.aload_n 0, 1) := by decide +kernel
theorem pm_a4_1 : pm_as (pm_cd pm_mm4) 1 = some (.invokespecial 3, 3) := by decide +kernel
theorem pm_a4_4 : pm_as (pm_cd pm_mm4) 4 = some (.aload_n 0, 1) := by decide +kernel
theorem pm_a4_5 : pm_as (pm_cd pm_mm4) 5 = some (.sipush 502, 3) := by decide +kernel
theorem pm_a4_8 : pm_as (pm_cd pm_mm4) 8 = some (.newarray .int, 2) := by decide +kernel
theorem pm_a4_10 : pm_as (pm_cd pm_mm4) 10 = some (.putfield 11, 3) := by decide +kernel
theorem pm_a4_13 : pm_as (pm_cd pm_mm4) 13 = some (.aload_n 0, 1) := by decide +kernel
theorem pm_a4_14 : pm_as (pm_cd pm_mm4) 14 = some (.sipush 502, 3) := by decide +kernel
theorem pm_a4_17 : pm_as (pm_cd pm_mm4) 17 = some (.newarray .int, 2) := by decide +kernel
theorem pm_a4_19 : pm_as (pm_cd pm_mm4) 19 = some (.putfield 17, 3) := by decide +kernel
theorem pm_a4_22 : pm_as (pm_cd pm_mm4) 22 = some (.return_, 1) := by decide +kernel
theorem pm_a5_0 : pm_as (pm_cd pm_mm5) 0 = some (.aload_n 0, 1) := by decide +kernel
theorem pm_a5_1 : pm_as (pm_cd pm_mm5) 1 = some (.invokespecial 3, 3) := by decide +kernel
theorem pm_a5_4 : pm_as (pm_cd pm_mm5) 4 = some (.aload_n 0, 1) := by decide +kernel
theorem pm_a5_5 : pm_as (pm_cd pm_mm5) 5 = some (.sipush 601, 3) := by decide +kernel
theorem pm_a5_8 : pm_as (pm_cd pm_mm5) 8 = some (.newarray .int, 2) := by decide +kernel
theorem pm_a5_10 : pm_as (pm_cd pm_mm5) 10 = some (.putfield 9, 3) := by decide +kernel
theorem pm_a5_13 : pm_as (pm_cd pm_mm5) 13 = some (.aload_n 0, 1) := by decide +kernel
theorem pm_a5_14 : pm_as (pm_cd pm_mm5) 14 = some (.bipush 40, 2) := by decide +kernel
theorem pm_a5_16 : pm_as (pm_cd pm_mm5) 16 = some (.newarray .int, 2) := by decide +kernel
theorem pm_a5_18 : pm_as (pm_cd pm_mm5) 18 = some (.putfield 15, 3) := by decide +kernel
theorem pm_a5_21 : pm_as (pm_cd pm_mm5) 21 = some (.aload_n 0, 1) := by decide +kernel
theorem pm_a5_22 : pm_as (pm_cd pm_mm5) 22 = some (.bipush 40, 2) := by decide +kernel
theorem pm_a5_24 : pm_as (pm_cd pm_mm5) 24 = some (.newarray .int, 2) := by decide +kernel
theorem pm_a5_26 : pm_as (pm_cd pm_mm5) 26 = some (.putfield 18, 3) := by decide +kernel
theorem pm_a5_29 : pm_as (pm_cd pm_mm5) 29 = some (.aload_n 0, 1) := by decide +kernel
theorem pm_a5_30 : pm_as (pm_cd pm_mm5) 30 = some (.aload_n 1, 1) := by decide +kernel
theorem pm_a5_31 : pm_as (pm_cd pm_mm5) 31 = some (.putfield 21, 3) := by decide +kernel
theorem pm_a5_34 : pm_as (pm_cd pm_mm5) 34 = some (.return_, 1) := by decide +kernel
theorem pm_a6_0 : pm_as (pm_cd pm_mm6) 0 = some (.aload_n 0, 1) := by decide +kernel
theorem pm_a6_1 : pm_as (pm_cd pm_mm6) 1 = some (.invokespecial 3, 3) := by decide +kernel
theorem pm_a6_4 : pm_as (pm_cd pm_mm6) 4 = some (.aload_n 0, 1) := by decide +kernel
theorem pm_a6_5 : pm_as (pm_cd pm_mm6) 5 = some (.sipush 500, 3) := by decide +kernel
theorem pm_a6_8 : pm_as (pm_cd pm_mm6) 8 = some (.newarray .int, 2) := by decide +kernel
theorem pm_a6_10 : pm_as (pm_cd pm_mm6) 10 = some (.putfield 9, 3) := by decide +kernel
theorem pm_a6_13 : pm_as (pm_cd pm_mm6) 13 = some (.return_, 1) := by decide +kernel
theorem pm_a7_0 : pm_as (pm_cd pm_mm7) 0 = some (.aload_n 0, 1) := by decide +kernel
theorem pm_a7_1 : pm_as (pm_cd pm_mm7) 1 = some (.invokespecial 3, 3) := by decide +kernel
theorem pm_a7_4 : pm_as (pm_cd pm_mm7) 4 = some (.aload_n 0, 1) := by decide +kernel
theorem pm_a7_5 : pm_as (pm_cd pm_mm7) 5 = some (.new 9, 3) := by decide +kernel
theorem pm_a7_8 : pm_as (pm_cd pm_mm7) 8 = some (.dup, 1) := by decide +kernel
theorem pm_a7_9 : pm_as (pm_cd pm_mm7) 9 = some (.sipush 500, 3) := by decide +kernel
theorem pm_a7_12 : pm_as (pm_cd pm_mm7) 12 = some (.invokespecial 11, 3) := by decide +kernel
theorem pm_a7_15 : pm_as (pm_cd pm_mm7) 15 = some (.putfield 14, 3) := by decide +kernel
theorem pm_a7_18 : pm_as (pm_cd pm_mm7) 18 = some (.aload_n 0, 1) := by decide +kernel
theorem pm_a7_19 : pm_as (pm_cd pm_mm7) 19 = some (.aload_n 1, 1) := by decide +kernel
theorem pm_a7_20 : pm_as (pm_cd pm_mm7) 20 = some (.putfield 20, 3) := by decide +kernel
theorem pm_a7_23 : pm_as (pm_cd pm_mm7) 23 = some (.return_, 1) := by decide +kernel
theorem pm_a8_0 : pm_as (pm_cd pm_mm8) 0 = some (.aload_n 0, 1) := by decide +kernel
theorem pm_a8_1 : pm_as (pm_cd pm_mm8) 1 = some (.getfield 10, 3) := by decide +kernel
theorem pm_a8_4 : pm_as (pm_cd pm_mm8) 4 = some (.getfield 61, 3) := by decide +kernel
theorem pm_a8_7 : pm_as (pm_cd pm_mm8) 7 = some (.bipush 20, 2) := by decide +kernel
theorem pm_a8_9 : pm_as (pm_cd pm_mm8) 9 = some (.iadd, 1) := by decide +kernel
theorem pm_a8_10 : pm_as (pm_cd pm_mm8) 10 = some (.sipush 600, 3) := by decide +kernel
theorem pm_a8_13 : pm_as (pm_cd pm_mm8) 13 = some (.if_icmp .le 6, 3) := by decide +kernel
theorem pm_a8_19 : pm_as (pm_cd pm_mm8) 19 = some (.aload_n 0, 1) := by decide +kernel
theorem pm_a8_20 : pm_as (pm_cd pm_mm8) 20 = some (.getfield 10, 3) := by decide +kernel
theorem pm_a8_23 : pm_as (pm_cd pm_mm8) 23 = some (.iload_n 1, 1) := by decide +kernel
theorem pm_a8_24 : pm_as (pm_cd pm_mm8) 24 = some (.invokevirtual 65, 3) := by decide +kernel
theorem pm_a8_27 : pm_as (pm_cd pm_mm8) 27 = some (.aload_n 0, 1) := by decide +kernel
theorem pm_a8_28 : pm_as (pm_cd pm_mm8) 28 = some (.getfield 10, 3) := by decide +kernel
theorem pm_a8_31 : pm_as (pm_cd pm_mm8) 31 = some (.iload_n 2, 1) := by decide +kernel
theorem pm_a8_32 : pm_as (pm_cd pm_mm8) 32 = some (.invokevirtual 65, 3) := by decide +kernel
theorem pm_a8_35 : pm_as (pm_cd pm_mm8) 35 = some (.aload_n 0, 1) := by decide +kernel
theorem pm_a8_36 : pm_as (pm_cd pm_mm8) 36 = some (.getfield 10, 3) := by decide +kernel
theorem pm_a8_39 : pm_as (pm_cd pm_mm8) 39 = some (.iload_n 3, 1) := by decide +kernel
theorem pm_a8_40 : pm_as (pm_cd pm_mm8) 40 = some (.invokevirtual 65, 3) := by decide +kernel
theorem pm_a8_43 : pm_as (pm_cd pm_mm8) 43 = some (.aload_n 0, 1) := by decide +kernel
theorem pm_a8_44 : pm_as (pm_cd pm_mm8) 44 = some (.getfield 10, 3) := by decide +kernel
theorem pm_a8_47 : pm_as (pm_cd pm_mm8) 47 = some (.iload 4, 2) := by decide +kernel
theorem pm_a8_49 : pm_as (pm_cd pm_mm8) 49 = some (.invokevirtual 65, 3) := by decide +kernel
theorem pm_a8_52 : pm_as (pm_cd pm_mm8) 52 = some (.aload_n 0, 1) := by decide +kernel
theorem pm_a8_53 : pm_as (pm_cd pm_mm8) 53 = some (.getfield 10, 3) := by decide +kernel
theorem pm_a8_56 : pm_as (pm_cd pm_mm8) 56 = some (.iload 5, 2) := by decide +kernel
theorem pm_a8_58 : pm_as (pm_cd pm_mm8) 58 = some (.invokevirtual 65, 3) := by decide +kernel
theorem pm_a8_61 : pm_as (pm_cd pm_mm8) 61 = some (.aload_n 0, 1) := by decide +kernel
theorem pm_a8_62 : pm_as (pm_cd pm_mm8) 62 = some (.getfield 10, 3) := by decide +kernel
theorem pm_a8_65 : pm_as (pm_cd pm_mm8) 65 = some (.getfield 61, 3) := by decide +kernel
theorem pm_a8_68 : pm_as (pm_cd pm_mm8) 68 = some (.ireturn, 1) := by decide +kernel
theorem pm_a9_0 : pm_as (pm_cd pm_mm9) 0 = some (.bipush 24, 2) := by decide +kernel
theorem pm_a9_2 : pm_as (pm_cd pm_mm9) 2 = some (.istore_n 2, 1) := by decide +kernel
theorem pm_a9_3 : pm_as (pm_cd pm_mm9) 3 = some (.iload_n 2, 1) := by decide +kernel
theorem pm_a9_4 : pm_as (pm_cd pm_mm9) 4 = some (.ifCond .lt 47, 3) := by decide +kernel
theorem pm_a9_7 : pm_as (pm_cd pm_mm9) 7 = some (.aload_n 0, 1) := by decide +kernel
theorem pm_a9_8 : pm_as (pm_cd pm_mm9) 8 = some (.getfield 15, 3) := by decide +kernel
theorem pm_a9_11 : pm_as (pm_cd pm_mm9) 11 = some (.aload_n 0, 1) := by decide +kernel
theorem pm_a9_12 : pm_as (pm_cd pm_mm9) 12 = some (.getfield 9, 3) := by decide +kernel
theorem pm_a9_15 : pm_as (pm_cd pm_mm9) 15 = some (.arraylength, 1) := by decide +kernel
theorem pm_a9_16 : pm_as (pm_cd pm_mm9) 16 = some (.if_icmp .ge 29, 3) := by decide +kernel
theorem pm_a9_19 : pm_as (pm_cd pm_mm9) 19 = some (.aload_n 0, 1) := by decide +kernel
theorem pm_a9_20 : pm_as (pm_cd pm_mm9) 20 = some (.getfield 9, 3) := by decide +kernel
theorem pm_a9_23 : pm_as (pm_cd pm_mm9) 23 = some (.aload_n 0, 1) := by decide +kernel
theorem pm_a9_24 : pm_as (pm_cd pm_mm9) 24 = some (.getfield 15, 3) := by decide +kernel
theorem pm_a9_27 : pm_as (pm_cd pm_mm9) 27 = some (.iload_n 1, 1) := by decide +kernel
theorem pm_a9_28 : pm_as (pm_cd pm_mm9) 28 = some (.iload_n 2, 1) := by decide +kernel
theorem pm_a9_29 : pm_as (pm_cd pm_mm9) 29 = some (.iushr, 1) := by decide +kernel
theorem pm_a9_30 : pm_as (pm_cd pm_mm9) 30 = some (.sipush 255, 3) := by decide +kernel
theorem pm_a9_33 : pm_as (pm_cd pm_mm9) 33 = some (.iand, 1) := by decide +kernel
theorem pm_a9_34 : pm_as (pm_cd pm_mm9) 34 = some (.iastore, 1) := by decide +kernel
theorem pm_a9_35 : pm_as (pm_cd pm_mm9) 35 = some (.aload_n 0, 1) := by decide +kernel
theorem pm_a9_36 : pm_as (pm_cd pm_mm9) 36 = some (.dup, 1) := by decide +kernel
theorem pm_a9_37 : pm_as (pm_cd pm_mm9) 37 = some (.getfield 15, 3) := by decide +kernel
theorem pm_a9_40 : pm_as (pm_cd pm_mm9) 40 = some (.iconst 1, 1) := by decide +kernel
theorem pm_a9_41 : pm_as (pm_cd pm_mm9) 41 = some (.iadd, 1) := by decide +kernel
theorem pm_a9_42 : pm_as (pm_cd pm_mm9) 42 = some (.putfield 15, 3) := by decide +kernel
theorem pm_a9_45 : pm_as (pm_cd pm_mm9) 45 = some (.iinc 2 (-8), 3) := by decide +kernel
theorem pm_a9_48 : pm_as (pm_cd pm_mm9) 48 = some (.goto (-45), 3) := by decide +kernel
theorem pm_a9_51 : pm_as (pm_cd pm_mm9) 51 = some (.return_, 1) := by decide +kernel
theorem pm_a10_0 : pm_as (pm_cd pm_mm10) 0 = some (.iload_n 1, 1) := by decide +kernel
theorem pm_a10_1 : pm_as (pm_cd pm_mm10) 1 = some (.ifCond .lt 14, 3) := by decide +kernel
theorem pm_a10_4 : pm_as (pm_cd pm_mm10) 4 = some (.iload_n 1, 1) := by decide +kernel
theorem pm_a10_5 : pm_as (pm_cd pm_mm10) 5 = some (.aload_n 0, 1) := by decide +kernel
theorem pm_a10_6 : pm_as (pm_cd pm_mm10) 6 = some (.getfield 10, 3) := by decide +kernel
theorem pm_a10_9 : pm_as (pm_cd pm_mm10) 9 = some (.getfield 61, 3) := by decide +kernel
theorem pm_a10_12 : pm_as (pm_cd pm_mm10) 12 = some (.if_icmp .le 5, 3) := by decide +kernel
theorem pm_a10_15 : pm_as (pm_cd pm_mm10) 15 = some (.iconst (-1), 1) := by decide +kernel
theorem pm_a10_16 : pm_as (pm_cd pm_mm10) 16 = some (.ireturn, 1) := by decide +kernel
theorem pm_a10_17 : pm_as (pm_cd pm_mm10) 17 = some (.aload_n 0, 1) := by decide +kernel
theorem pm_a10_18 : pm_as (pm_cd pm_mm10) 18 = some (.getfield 10, 3) := by decide +kernel
theorem pm_a10_21 : pm_as (pm_cd pm_mm10) 21 = some (.getfield 61, 3) := by decide +kernel
theorem pm_a10_24 : pm_as (pm_cd pm_mm10) 24 = some (.istore_n 2, 1) := by decide +kernel
theorem pm_a10_25 : pm_as (pm_cd pm_mm10) 25 = some (.aload_n 0, 1) := by decide +kernel
theorem pm_a10_26 : pm_as (pm_cd pm_mm10) 26 = some (.getfield 10, 3) := by decide +kernel
theorem pm_a10_29 : pm_as (pm_cd pm_mm10) 29 = some (.iload_n 1, 1) := by decide +kernel
theorem pm_a10_30 : pm_as (pm_cd pm_mm10) 30 = some (.putfield 61, 3) := by decide +kernel
theorem pm_a10_33 : pm_as (pm_cd pm_mm10) 33 = some (.iload_n 2, 1) := by decide +kernel
theorem pm_a10_34 : pm_as (pm_cd pm_mm10) 34 = some (.ireturn, 1) := by decide +kernel
theorem pm_a11_0 : pm_as (pm_cd pm_mm11) 0 = some (.aload_n 0, 1) := by decide +kernel
theorem pm_a11_1 : pm_as (pm_cd pm_mm11) 1 = some (.invokevirtual 68, 3) := by decide +kernel
theorem pm_a11_4 : pm_as (pm_cd pm_mm11) 4 = some (.astore_n 1, 1) := by decide +kernel
theorem pm_a11_5 : pm_as (pm_cd pm_mm11) 5 = some (.aload_n 1, 1) := by decide +kernel
theorem pm_a11_6 : pm_as (pm_cd pm_mm11) 6 = some (.ifnonnull 6, 3) := by decide +kernel
theorem pm_a11_12 : pm_as (pm_cd pm_mm11) 12 = some (.aload_n 0, 1) := by decide +kernel
theorem pm_a11_13 : pm_as (pm_cd pm_mm11) 13 = some (.aload_n 0, 1) := by decide +kernel
theorem pm_a11_14 : pm_as (pm_cd pm_mm11) 14 = some (.getfield 41, 3) := by decide +kernel
theorem pm_a11_17 : pm_as (pm_cd pm_mm11) 17 = some (.aload_n 1, 1) := by decide +kernel
theorem pm_a11_18 : pm_as (pm_cd pm_mm11) 18 = some (.invokevirtual 72, 3) := by decide +kernel
theorem pm_a11_21 : pm_as (pm_cd pm_mm11) 21 = some (.putfield 76, 3) := by decide +kernel
theorem pm_a11_24 : pm_as (pm_cd pm_mm11) 24 = some (.aload_n 0, 1) := by decide +kernel
theorem pm_a11_25 : pm_as (pm_cd pm_mm11) 25 = some (.getfield 10, 3) := by decide +kernel
theorem pm_a11_28 : pm_as (pm_cd pm_mm11) 28 = some (.iconst 0, 1) := by decide +kernel
theorem pm_a11_29 : pm_as (pm_cd pm_mm11) 29 = some (.putfield 61, 3) := by decide +kernel
theorem pm_a11_32 : pm_as (pm_cd pm_mm11) 32 = some (.aload_n 0, 1) := by decide +kernel
theorem pm_a11_33 : pm_as (pm_cd pm_mm11) 33 = some (.getfield 76, 3) := by decide +kernel
theorem pm_a11_36 : pm_as (pm_cd pm_mm11) 36 = some (.ifCond .ne 10, 3) := by decide +kernel
theorem pm_a11_46 : pm_as (pm_cd pm_mm11) 46 = some (.bipush (-10), 2) := by decide +kernel
theorem pm_a11_48 : pm_as (pm_cd pm_mm11) 48 = some (.aload_n 0, 1) := by decide +kernel
theorem pm_a11_49 : pm_as (pm_cd pm_mm11) 49 = some (.getfield 41, 3) := by decide +kernel
theorem pm_a11_52 : pm_as (pm_cd pm_mm11) 52 = some (.getfield 83, 3) := by decide +kernel
theorem pm_a11_55 : pm_as (pm_cd pm_mm11) 55 = some (.isub, 1) := by decide +kernel
theorem pm_a11_56 : pm_as (pm_cd pm_mm11) 56 = some (.ireturn, 1) := by decide +kernel
theorem pm_a12_0 : pm_as (pm_cd pm_mm12) 0 = some (.aload_n 0, 1) := by decide +kernel
theorem pm_a12_1 : pm_as (pm_cd pm_mm12) 1 = some (.getfield 179, 3) := by decide +kernel
theorem pm_a12_4 : pm_as (pm_cd pm_mm12) 4 = some (.ifCond .lt 15, 3) := by decide +kernel
theorem pm_a12_7 : pm_as (pm_cd pm_mm12) 7 = some (.aload_n 0, 1) := by decide +kernel
theorem pm_a12_8 : pm_as (pm_cd pm_mm12) 8 = some (.getfield 179, 3) := by decide +kernel
theorem pm_a12_11 : pm_as (pm_cd pm_mm12) 11 = some (.aload_n 0, 1) := by decide +kernel
theorem pm_a12_12 : pm_as (pm_cd pm_mm12) 12 = some (.getfield 18, 3) := by decide +kernel
theorem pm_a12_15 : pm_as (pm_cd pm_mm12) 15 = some (.arraylength, 1) := by decide +kernel
theorem pm_a12_16 : pm_as (pm_cd pm_mm12) 16 = some (.if_icmp .lt 5, 3) := by decide +kernel
theorem pm_a12_21 : pm_as (pm_cd pm_mm12) 21 = some (.aload_n 0, 1) := by decide +kernel
theorem pm_a12_22 : pm_as (pm_cd pm_mm12) 22 = some (.getfield 18, 3) := by decide +kernel
theorem pm_a12_25 : pm_as (pm_cd pm_mm12) 25 = some (.aload_n 0, 1) := by decide +kernel
theorem pm_a12_26 : pm_as (pm_cd pm_mm12) 26 = some (.getfield 179, 3) := by decide +kernel
theorem pm_a12_29 : pm_as (pm_cd pm_mm12) 29 = some (.aaload, 1) := by decide +kernel
theorem pm_a12_30 : pm_as (pm_cd pm_mm12) 30 = some (.astore_n 1, 1) := by decide +kernel
theorem pm_a12_31 : pm_as (pm_cd pm_mm12) 31 = some (.aload_n 1, 1) := by decide +kernel
theorem pm_a12_32 : pm_as (pm_cd pm_mm12) 32 = some (.ifnonnull 24, 3) := by decide +kernel
theorem pm_a12_35 : pm_as (pm_cd pm_mm12) 35 = some (.new 16, 3) := by decide +kernel
theorem pm_a12_38 : pm_as (pm_cd pm_mm12) 38 = some (.dup, 1) := by decide +kernel
theorem pm_a12_39 : pm_as (pm_cd pm_mm12) 39 = some (.sipush 500, 3) := by decide +kernel
theorem pm_a12_42 : pm_as (pm_cd pm_mm12) 42 = some (.invokespecial 22, 3) := by decide +kernel
theorem pm_a12_45 : pm_as (pm_cd pm_mm12) 45 = some (.astore_n 1, 1) := by decide +kernel
theorem pm_a12_46 : pm_as (pm_cd pm_mm12) 46 = some (.aload_n 0, 1) := by decide +kernel
theorem pm_a12_47 : pm_as (pm_cd pm_mm12) 47 = some (.getfield 18, 3) := by decide +kernel
theorem pm_a12_50 : pm_as (pm_cd pm_mm12) 50 = some (.aload_n 0, 1) := by decide +kernel
theorem pm_a12_51 : pm_as (pm_cd pm_mm12) 51 = some (.getfield 179, 3) := by decide +kernel
theorem pm_a12_54 : pm_as (pm_cd pm_mm12) 54 = some (.aload_n 1, 1) := by decide +kernel
theorem pm_a12_55 : pm_as (pm_cd pm_mm12) 55 = some (.aastore, 1) := by decide +kernel
theorem pm_a12_56 : pm_as (pm_cd pm_mm12) 56 = some (.aload_n 1, 1) := by decide +kernel
theorem pm_a12_57 : pm_as (pm_cd pm_mm12) 57 = some (.invokevirtual 185, 3) := by decide +kernel
theorem pm_a12_60 : pm_as (pm_cd pm_mm12) 60 = some (.aload_n 1, 1) := by decide +kernel
theorem pm_a12_61 : pm_as (pm_cd pm_mm12) 61 = some (.areturn, 1) := by decide +kernel
theorem pm_a13_0 : pm_as (pm_cd pm_mm13) 0 = some (.aload_n 0, 1) := by decide +kernel
theorem pm_a13_1 : pm_as (pm_cd pm_mm13) 1 = some (.iconst 0, 1) := by decide +kernel
theorem pm_a13_2 : pm_as (pm_cd pm_mm13) 2 = some (.putfield 21, 3) := by decide +kernel
theorem pm_a13_5 : pm_as (pm_cd pm_mm13) 5 = some (.aload_n 0, 1) := by decide +kernel
theorem pm_a13_6 : pm_as (pm_cd pm_mm13) 6 = some (.iconst 0, 1) := by decide +kernel
theorem pm_a13_7 : pm_as (pm_cd pm_mm13) 7 = some (.putfield 25, 3) := by decide +kernel
theorem pm_a13_10 : pm_as (pm_cd pm_mm13) 10 = some (.return_, 1) := by decide +kernel
theorem pm_a14_0 : pm_as (pm_cd pm_mm14) 0 = some (.aload_n 0, 1) := by decide +kernel
theorem pm_a14_1 : pm_as (pm_cd pm_mm14) 1 = some (.iconst 0, 1) := by decide +kernel
theorem pm_a14_2 : pm_as (pm_cd pm_mm14) 2 = some (.putfield 25, 3) := by decide +kernel
theorem pm_a14_5 : pm_as (pm_cd pm_mm14) 5 = some (.aload_n 0, 1) := by decide +kernel
theorem pm_a14_6 : pm_as (pm_cd pm_mm14) 6 = some (.iconst 0, 1) := by decide +kernel
theorem pm_a14_7 : pm_as (pm_cd pm_mm14) 7 = some (.putfield 29, 3) := by decide +kernel
theorem pm_a14_10 : pm_as (pm_cd pm_mm14) 10 = some (.aload_n 0, 1) := by decide +kernel
theorem pm_a14_11 : pm_as (pm_cd pm_mm14) 11 = some (.iconst 0, 1) := by decide +kernel
theorem pm_a14_12 : pm_as (pm_cd pm_mm14) 12 = some (.putfield 32, 3) := by decide +kernel
theorem pm_a14_15 : pm_as (pm_cd pm_mm14) 15 = some (.aload_n 0, 1) := by decide +kernel
theorem pm_a14_16 : pm_as (pm_cd pm_mm14) 16 = some (.iconst 0, 1) := by decide +kernel
theorem pm_a14_17 : pm_as (pm_cd pm_mm14) 17 = some (.putfield 35, 3) := by decide +kernel
theorem pm_a14_20 : pm_as (pm_cd pm_mm14) 20 = some (.aload_n 0, 1) := by decide +kernel
theorem pm_a14_21 : pm_as (pm_cd pm_mm14) 21 = some (.iconst 0, 1) := by decide +kernel
theorem pm_a14_22 : pm_as (pm_cd pm_mm14) 22 = some (.putfield 38, 3) := by decide +kernel
theorem pm_a14_25 : pm_as (pm_cd pm_mm14) 25 = some (.aload_n 0, 1) := by decide +kernel
theorem pm_a14_26 : pm_as (pm_cd pm_mm14) 26 = some (.iconst 0, 1) := by decide +kernel
theorem pm_a14_27 : pm_as (pm_cd pm_mm14) 27 = some (.putfield 41, 3) := by decide +kernel
theorem pm_a14_30 : pm_as (pm_cd pm_mm14) 30 = some (.aload_n 0, 1) := by decide +kernel
theorem pm_a14_31 : pm_as (pm_cd pm_mm14) 31 = some (.invokevirtual 44, 3) := by decide +kernel
theorem pm_a14_34 : pm_as (pm_cd pm_mm14) 34 = some (.aload_n 0, 1) := by decide +kernel
theorem pm_a14_35 : pm_as (pm_cd pm_mm14) 35 = some (.invokevirtual 47, 3) := by decide +kernel
theorem pm_a14_38 : pm_as (pm_cd pm_mm14) 38 = some (.aload_n 0, 1) := by decide +kernel
theorem pm_a14_39 : pm_as (pm_cd pm_mm14) 39 = some (.getfield 38, 3) := by decide +kernel
theorem pm_a14_42 : pm_as (pm_cd pm_mm14) 42 = some (.ifCond .ne 8, 3) := by decide +kernel
theorem pm_a14_50 : pm_as (pm_cd pm_mm14) 50 = some (.aload_n 0, 1) := by decide +kernel
theorem pm_a14_51 : pm_as (pm_cd pm_mm14) 51 = some (.getfield 38, 3) := by decide +kernel
theorem pm_a14_54 : pm_as (pm_cd pm_mm14) 54 = some (.ireturn, 1) := by decide +kernel
theorem pm_a15_0 : pm_as (pm_cd pm_mm15) 0 = some (.aload_n 0, 1) := by decide +kernel
theorem pm_a15_1 : pm_as (pm_cd pm_mm15) 1 = some (.aload_n 0, 1) := by decide +kernel
theorem pm_a15_2 : pm_as (pm_cd pm_mm15) 2 = some (.getfield 25, 3) := by decide +kernel
theorem pm_a15_5 : pm_as (pm_cd pm_mm15) 5 = some (.putfield 140, 3) := by decide +kernel
theorem pm_a15_8 : pm_as (pm_cd pm_mm15) 8 = some (.aload_n 0, 1) := by decide +kernel
theorem pm_a15_9 : pm_as (pm_cd pm_mm15) 9 = some (.iconst 0, 1) := by decide +kernel
theorem pm_a15_10 : pm_as (pm_cd pm_mm15) 10 = some (.invokevirtual 121, 3) := by decide +kernel
theorem pm_a15_13 : pm_as (pm_cd pm_mm15) 13 = some (.return_, 1) := by decide +kernel
theorem pm_a16_0 : pm_as (pm_cd pm_mm16) 0 = some (.aload_n 0, 1) := by decide +kernel
theorem pm_a16_1 : pm_as (pm_cd pm_mm16) 1 = some (.getfield 25, 3) := by decide +kernel
theorem pm_a16_4 : pm_as (pm_cd pm_mm16) 4 = some (.ifCond .lt 35, 3) := by decide +kernel
theorem pm_a16_7 : pm_as (pm_cd pm_mm16) 7 = some (.aload_n 0, 1) := by decide +kernel
theorem pm_a16_8 : pm_as (pm_cd pm_mm16) 8 = some (.getfield 25, 3) := by decide +kernel
theorem pm_a16_11 : pm_as (pm_cd pm_mm16) 11 = some (.aload_n 0, 1) := by decide +kernel
theorem pm_a16_12 : pm_as (pm_cd pm_mm16) 12 = some (.getfield 9, 3) := by decide +kernel
theorem pm_a16_15 : pm_as (pm_cd pm_mm16) 15 = some (.arraylength, 1) := by decide +kernel
theorem pm_a16_16 : pm_as (pm_cd pm_mm16) 16 = some (.if_icmp .ge 23, 3) := by decide +kernel
theorem pm_a16_19 : pm_as (pm_cd pm_mm16) 19 = some (.aload_n 0, 1) := by decide +kernel
theorem pm_a16_20 : pm_as (pm_cd pm_mm16) 20 = some (.getfield 9, 3) := by decide +kernel
theorem pm_a16_23 : pm_as (pm_cd pm_mm16) 23 = some (.aload_n 0, 1) := by decide +kernel
theorem pm_a16_24 : pm_as (pm_cd pm_mm16) 24 = some (.getfield 25, 3) := by decide +kernel
theorem pm_a16_27 : pm_as (pm_cd pm_mm16) 27 = some (.iload_n 1, 1) := by decide +kernel
theorem pm_a16_28 : pm_as (pm_cd pm_mm16) 28 = some (.iastore, 1) := by decide +kernel
theorem pm_a16_29 : pm_as (pm_cd pm_mm16) 29 = some (.aload_n 0, 1) := by decide +kernel
theorem pm_a16_30 : pm_as (pm_cd pm_mm16) 30 = some (.dup, 1) := by decide +kernel
theorem pm_a16_31 : pm_as (pm_cd pm_mm16) 31 = some (.getfield 25, 3) := by decide +kernel
theorem pm_a16_34 : pm_as (pm_cd pm_mm16) 34 = some (.iconst 1, 1) := by decide +kernel
theorem pm_a16_35 : pm_as (pm_cd pm_mm16) 35 = some (.iadd, 1) := by decide +kernel
theorem pm_a16_36 : pm_as (pm_cd pm_mm16) 36 = some (.putfield 25, 3) := by decide +kernel
theorem pm_a16_39 : pm_as (pm_cd pm_mm16) 39 = some (.return_, 1) := by decide +kernel
theorem pm_a17_0 : pm_as (pm_cd pm_mm17) 0 = some (.aload_n 0, 1) := by decide +kernel
theorem pm_a17_1 : pm_as (pm_cd pm_mm17) 1 = some (.iconst 4, 1) := by decide +kernel
theorem pm_a17_2 : pm_as (pm_cd pm_mm17) 2 = some (.putfield 54, 3) := by decide +kernel
theorem pm_a17_5 : pm_as (pm_cd pm_mm17) 5 = some (.iconst 0, 1) := by decide +kernel
theorem pm_a17_6 : pm_as (pm_cd pm_mm17) 6 = some (.istore_n 1, 1) := by decide +kernel
theorem pm_a17_7 : pm_as (pm_cd pm_mm17) 7 = some (.iload_n 1, 1) := by decide +kernel
theorem pm_a17_8 : pm_as (pm_cd pm_mm17) 8 = some (.sipush 600, 3) := by decide +kernel
theorem pm_a17_11 : pm_as (pm_cd pm_mm17) 11 = some (.if_icmp .gt 38, 3) := by decide +kernel
theorem pm_a17_14 : pm_as (pm_cd pm_mm17) 14 = some (.aload_n 0, 1) := by decide +kernel
theorem pm_a17_15 : pm_as (pm_cd pm_mm17) 15 = some (.getfield 54, 3) := by decide +kernel
theorem pm_a17_18 : pm_as (pm_cd pm_mm17) 18 = some (.ifCond .eq 31, 3) := by decide +kernel
theorem pm_a17_21 : pm_as (pm_cd pm_mm17) 21 = some (.aload_n 0, 1) := by decide +kernel
theorem pm_a17_22 : pm_as (pm_cd pm_mm17) 22 = some (.getfield 38, 3) := by decide +kernel
theorem pm_a17_25 : pm_as (pm_cd pm_mm17) 25 = some (.ifCond .ne 24, 3) := by decide +kernel
theorem pm_a17_28 : pm_as (pm_cd pm_mm17) 28 = some (.aload_n 0, 1) := by decide +kernel
theorem pm_a17_29 : pm_as (pm_cd pm_mm17) 29 = some (.invokevirtual 57, 3) := by decide +kernel
theorem pm_a17_32 : pm_as (pm_cd pm_mm17) 32 = some (.aload_n 0, 1) := by decide +kernel
theorem pm_a17_33 : pm_as (pm_cd pm_mm17) 33 = some (.getfield 38, 3) := by decide +kernel
theorem pm_a17_36 : pm_as (pm_cd pm_mm17) 36 = some (.ifCond .ne 7, 3) := by decide +kernel
theorem pm_a17_39 : pm_as (pm_cd pm_mm17) 39 = some (.aload_n 0, 1) := by decide +kernel
theorem pm_a17_40 : pm_as (pm_cd pm_mm17) 40 = some (.invokevirtual 60, 3) := by decide +kernel
theorem pm_a17_43 : pm_as (pm_cd pm_mm17) 43 = some (.iinc 1 1, 3) := by decide +kernel
theorem pm_a17_46 : pm_as (pm_cd pm_mm17) 46 = some (.goto (-39), 3) := by decide +kernel
theorem pm_a17_49 : pm_as (pm_cd pm_mm17) 49 = some (.return_, 1) := by decide +kernel
theorem pm_a18_0 : pm_as (pm_cd pm_mm18) 0 = some (.aload_n 0, 1) := by decide +kernel
theorem pm_a18_1 : pm_as (pm_cd pm_mm18) 1 = some (.getfield 35, 3) := by decide +kernel
theorem pm_a18_4 : pm_as (pm_cd pm_mm18) 4 = some (.aload_n 0, 1) := by decide +kernel
theorem pm_a18_5 : pm_as (pm_cd pm_mm18) 5 = some (.getfield 21, 3) := by decide +kernel
theorem pm_a18_8 : pm_as (pm_cd pm_mm18) 8 = some (.getfield 63, 3) := by decide +kernel
theorem pm_a18_11 : pm_as (pm_cd pm_mm18) 11 = some (.if_icmp .ge 32, 3) := by decide +kernel
theorem pm_a18_43 : pm_as (pm_cd pm_mm18) 43 = some (.aload_n 0, 1) := by decide +kernel
theorem pm_a18_44 : pm_as (pm_cd pm_mm18) 44 = some (.aload_n 0, 1) := by decide +kernel
theorem pm_a18_45 : pm_as (pm_cd pm_mm18) 45 = some (.getfield 35, 3) := by decide +kernel
theorem pm_a18_48 : pm_as (pm_cd pm_mm18) 48 = some (.putfield 72, 3) := by decide +kernel
theorem pm_a18_51 : pm_as (pm_cd pm_mm18) 51 = some (.aload_n 0, 1) := by decide +kernel
theorem pm_a18_52 : pm_as (pm_cd pm_mm18) 52 = some (.getfield 21, 3) := by decide +kernel
theorem pm_a18_55 : pm_as (pm_cd pm_mm18) 55 = some (.aload_n 0, 1) := by decide +kernel
theorem pm_a18_56 : pm_as (pm_cd pm_mm18) 56 = some (.getfield 72, 3) := by decide +kernel
theorem pm_a18_59 : pm_as (pm_cd pm_mm18) 59 = some (.invokevirtual 68, 3) := by decide +kernel
theorem pm_a18_62 : pm_as (pm_cd pm_mm18) 62 = some (.istore_n 1, 1) := by decide +kernel
theorem pm_a18_63 : pm_as (pm_cd pm_mm18) 63 = some (.aload_n 0, 1) := by decide +kernel
theorem pm_a18_64 : pm_as (pm_cd pm_mm18) 64 = some (.getfield 72, 3) := by decide +kernel
theorem pm_a18_67 : pm_as (pm_cd pm_mm18) 67 = some (.aload_n 0, 1) := by decide +kernel
theorem pm_a18_68 : pm_as (pm_cd pm_mm18) 68 = some (.getfield 21, 3) := by decide +kernel
theorem pm_a18_71 : pm_as (pm_cd pm_mm18) 71 = some (.getfield 63, 3) := by decide +kernel
theorem pm_a18_74 : pm_as (pm_cd pm_mm18) 74 = some (.if_icmp .lt 11, 3) := by decide +kernel
theorem pm_a18_77 : pm_as (pm_cd pm_mm18) 77 = some (.aload_n 0, 1) := by decide +kernel
theorem pm_a18_78 : pm_as (pm_cd pm_mm18) 78 = some (.iconst 0, 1) := by decide +kernel
theorem pm_a18_79 : pm_as (pm_cd pm_mm18) 79 = some (.putfield 54, 3) := by decide +kernel
theorem pm_a18_82 : pm_as (pm_cd pm_mm18) 82 = some (.goto 106, 3) := by decide +kernel
theorem pm_a18_188 : pm_as (pm_cd pm_mm18) 188 = some (.return_, 1) := by decide +kernel
theorem pm_a19_0 : pm_as (pm_cd pm_mm19) 0 = some (.iload_n 1, 1) := by decide +kernel
theorem pm_a19_1 : pm_as (pm_cd pm_mm19) 1 = some (.ifCond .lt 29, 3) := by decide +kernel
theorem pm_a19_4 : pm_as (pm_cd pm_mm19) 4 = some (.iload_n 1, 1) := by decide +kernel
theorem pm_a19_5 : pm_as (pm_cd pm_mm19) 5 = some (.aload_n 0, 1) := by decide +kernel
theorem pm_a19_6 : pm_as (pm_cd pm_mm19) 6 = some (.getfield 15, 3) := by decide +kernel
theorem pm_a19_9 : pm_as (pm_cd pm_mm19) 9 = some (.if_icmp .ge 21, 3) := by decide +kernel
theorem pm_a19_30 : pm_as (pm_cd pm_mm19) 30 = some (.iconst (-1), 1) := by decide +kernel
theorem pm_a19_31 : pm_as (pm_cd pm_mm19) 31 = some (.ireturn, 1) := by decide +kernel
theorem pm_a20_0 : pm_as (pm_cd pm_mm20) 0 = some (.aload_n 0, 1) := by decide +kernel
theorem pm_a20_1 : pm_as (pm_cd pm_mm20) 1 = some (.iload_n 1, 1) := by decide +kernel
theorem pm_a20_2 : pm_as (pm_cd pm_mm20) 2 = some (.putfield 38, 3) := by decide +kernel
theorem pm_a20_5 : pm_as (pm_cd pm_mm20) 5 = some (.aload_n 0, 1) := by decide +kernel
theorem pm_a20_6 : pm_as (pm_cd pm_mm20) 6 = some (.aload_n 0, 1) := by decide +kernel
theorem pm_a20_7 : pm_as (pm_cd pm_mm20) 7 = some (.getfield 72, 3) := by decide +kernel
theorem pm_a20_10 : pm_as (pm_cd pm_mm20) 10 = some (.putfield 41, 3) := by decide +kernel
theorem pm_a20_13 : pm_as (pm_cd pm_mm20) 13 = some (.return_, 1) := by decide +kernel
theorem pm_a21_0 : pm_as (pm_cd pm_mm21) 0 = some (.aload_n 0, 1) := by decide +kernel
theorem pm_a21_1 : pm_as (pm_cd pm_mm21) 1 = some (.getfield 32, 3) := by decide +kernel
theorem pm_a21_4 : pm_as (pm_cd pm_mm21) 4 = some (.ifCond .eq 8, 3) := by decide +kernel
theorem pm_a21_12 : pm_as (pm_cd pm_mm21) 12 = some (.aload_n 0, 1) := by decide +kernel
theorem pm_a21_13 : pm_as (pm_cd pm_mm21) 13 = some (.getfield 54, 3) := by decide +kernel
theorem pm_a21_16 : pm_as (pm_cd pm_mm21) 16 = some (.tableswitch 98 1 4 #[32, 39, 54, 80], 32) := by decide +kernel
theorem pm_a21_114 : pm_as (pm_cd pm_mm21) 114 = some (.aload_n 0, 1) := by decide +kernel
theorem pm_a21_115 : pm_as (pm_cd pm_mm21) 115 = some (.invokevirtual 115, 3) := by decide +kernel
theorem pm_a21_118 : pm_as (pm_cd pm_mm21) 118 = some (.return_, 1) := by decide +kernel
theorem pm_a22_0 : pm_as (pm_cd pm_mm22) 0 = some (.aload_n 0, 1) := by decide +kernel
theorem pm_a22_1 : pm_as (pm_cd pm_mm22) 1 = some (.getfield 140, 3) := by decide +kernel
theorem pm_a22_4 : pm_as (pm_cd pm_mm22) 4 = some (.ifCond .lt 27, 3) := by decide +kernel
theorem pm_a22_7 : pm_as (pm_cd pm_mm22) 7 = some (.aload_n 0, 1) := by decide +kernel
theorem pm_a22_8 : pm_as (pm_cd pm_mm22) 8 = some (.getfield 140, 3) := by decide +kernel
theorem pm_a22_11 : pm_as (pm_cd pm_mm22) 11 = some (.aload_n 0, 1) := by decide +kernel
theorem pm_a22_12 : pm_as (pm_cd pm_mm22) 12 = some (.getfield 9, 3) := by decide +kernel
theorem pm_a22_15 : pm_as (pm_cd pm_mm22) 15 = some (.arraylength, 1) := by decide +kernel
theorem pm_a22_16 : pm_as (pm_cd pm_mm22) 16 = some (.if_icmp .ge 15, 3) := by decide +kernel
theorem pm_a22_19 : pm_as (pm_cd pm_mm22) 19 = some (.aload_n 0, 1) := by decide +kernel
theorem pm_a22_20 : pm_as (pm_cd pm_mm22) 20 = some (.getfield 9, 3) := by decide +kernel
theorem pm_a22_23 : pm_as (pm_cd pm_mm22) 23 = some (.aload_n 0, 1) := by decide +kernel
theorem pm_a22_24 : pm_as (pm_cd pm_mm22) 24 = some (.getfield 140, 3) := by decide +kernel
theorem pm_a22_27 : pm_as (pm_cd pm_mm22) 27 = some (.iaload, 1) := by decide +kernel
theorem pm_a22_28 : pm_as (pm_cd pm_mm22) 28 = some (.ifCond .ne 7, 3) := by decide +kernel
theorem pm_a22_31 : pm_as (pm_cd pm_mm22) 31 = some (.iconst 1, 1) := by decide +kernel
theorem pm_a22_32 : pm_as (pm_cd pm_mm22) 32 = some (.goto 4, 3) := by decide +kernel
theorem pm_a22_36 : pm_as (pm_cd pm_mm22) 36 = some (.ireturn, 1) := by decide +kernel
theorem pm_a23_0 : pm_as (pm_cd pm_mm23) 0 = some (.aload_n 0, 1) := by decide +kernel
theorem pm_a23_1 : pm_as (pm_cd pm_mm23) 1 = some (.invokevirtual 133, 3) := by decide +kernel
theorem pm_a23_4 : pm_as (pm_cd pm_mm23) 4 = some (.ifCond .ne 10, 3) := by decide +kernel
theorem pm_a23_14 : pm_as (pm_cd pm_mm23) 14 = some (.aload_n 0, 1) := by decide +kernel
theorem pm_a23_15 : pm_as (pm_cd pm_mm23) 15 = some (.iconst 2, 1) := by decide +kernel
theorem pm_a23_16 : pm_as (pm_cd pm_mm23) 16 = some (.invokevirtual 95, 3) := by decide +kernel
theorem pm_a23_19 : pm_as (pm_cd pm_mm23) 19 = some (.return_, 1) := by decide +kernel
theorem pm_a24_0 : pm_as (pm_cd pm_mm24) 0 = some (.aload_n 0, 1) := by decide +kernel
theorem pm_a24_1 : pm_as (pm_cd pm_mm24) 1 = some (.getfield 76, 3) := by decide +kernel
theorem pm_a24_4 : pm_as (pm_cd pm_mm24) 4 = some (.ireturn, 1) := by decide +kernel
theorem pm_a25_0 : pm_as (pm_cd pm_mm25) 0 = some (.aload_n 0, 1) := by decide +kernel
theorem pm_a25_1 : pm_as (pm_cd pm_mm25) 1 = some (.iload_n 1, 1) := by decide +kernel
theorem pm_a25_2 : pm_as (pm_cd pm_mm25) 2 = some (.invokevirtual 86, 3) := by decide +kernel
theorem pm_a25_5 : pm_as (pm_cd pm_mm25) 5 = some (.astore_n 2, 1) := by decide +kernel
theorem pm_a25_6 : pm_as (pm_cd pm_mm25) 6 = some (.aload_n 2, 1) := by decide +kernel
theorem pm_a25_7 : pm_as (pm_cd pm_mm25) 7 = some (.ifnonnull 7, 3) := by decide +kernel
theorem pm_a25_10 : pm_as (pm_cd pm_mm25) 10 = some (.iconst (-1), 1) := by decide +kernel
theorem pm_a25_11 : pm_as (pm_cd pm_mm25) 11 = some (.goto 7, 3) := by decide +kernel
theorem pm_a25_18 : pm_as (pm_cd pm_mm25) 18 = some (.ireturn, 1) := by decide +kernel
theorem pm_a26_0 : pm_as (pm_cd pm_mm26) 0 = some (.iload_n 1, 1) := by decide +kernel
theorem pm_a26_1 : pm_as (pm_cd pm_mm26) 1 = some (.ifCond .lt 29, 3) := by decide +kernel
theorem pm_a26_4 : pm_as (pm_cd pm_mm26) 4 = some (.iload_n 1, 1) := by decide +kernel
theorem pm_a26_5 : pm_as (pm_cd pm_mm26) 5 = some (.aload_n 0, 1) := by decide +kernel
theorem pm_a26_6 : pm_as (pm_cd pm_mm26) 6 = some (.getfield 179, 3) := by decide +kernel
theorem pm_a26_9 : pm_as (pm_cd pm_mm26) 9 = some (.if_icmp .ge 21, 3) := by decide +kernel
theorem pm_a26_30 : pm_as (pm_cd pm_mm26) 30 = some (.aconst_null, 1) := by decide +kernel
theorem pm_a26_31 : pm_as (pm_cd pm_mm26) 31 = some (.areturn, 1) := by decide +kernel
theorem pm_a27_0 : pm_as (pm_cd pm_mm27) 0 = some (.aload_n 0, 1) := by decide +kernel
theorem pm_a27_1 : pm_as (pm_cd pm_mm27) 1 = some (.iload_n 1, 1) := by decide +kernel
theorem pm_a27_2 : pm_as (pm_cd pm_mm27) 2 = some (.invokevirtual 86, 3) := by decide +kernel
theorem pm_a27_5 : pm_as (pm_cd pm_mm27) 5 = some (.astore_n 3, 1) := by decide +kernel
theorem pm_a27_6 : pm_as (pm_cd pm_mm27) 6 = some (.aload_n 3, 1) := by decide +kernel
theorem pm_a27_7 : pm_as (pm_cd pm_mm27) 7 = some (.ifnonnull 7, 3) := by decide +kernel
theorem pm_a27_10 : pm_as (pm_cd pm_mm27) 10 = some (.iconst (-1), 1) := by decide +kernel
theorem pm_a27_11 : pm_as (pm_cd pm_mm27) 11 = some (.goto 8, 3) := by decide +kernel
theorem pm_a27_19 : pm_as (pm_cd pm_mm27) 19 = some (.ireturn, 1) := by decide +kernel
theorem pm_a28_0 : pm_as (pm_cd pm_mm28) 0 = some (.aload_n 0, 1) := by decide +kernel
theorem pm_a28_1 : pm_as (pm_cd pm_mm28) 1 = some (.iload_n 1, 1) := by decide +kernel
theorem pm_a28_2 : pm_as (pm_cd pm_mm28) 2 = some (.invokevirtual 86, 3) := by decide +kernel
theorem pm_a28_5 : pm_as (pm_cd pm_mm28) 5 = some (.astore_n 3, 1) := by decide +kernel
theorem pm_a28_6 : pm_as (pm_cd pm_mm28) 6 = some (.aload_n 3, 1) := by decide +kernel
theorem pm_a28_7 : pm_as (pm_cd pm_mm28) 7 = some (.ifnonnull 7, 3) := by decide +kernel
theorem pm_a28_10 : pm_as (pm_cd pm_mm28) 10 = some (.iconst (-1), 1) := by decide +kernel
theorem pm_a28_11 : pm_as (pm_cd pm_mm28) 11 = some (.goto 12, 3) := by decide +kernel
theorem pm_a28_23 : pm_as (pm_cd pm_mm28) 23 = some (.ireturn, 1) := by decide +kernel
theorem pm_a29_0 : pm_as (pm_cd pm_mm29) 0 = some (.aload_n 0, 1) := by decide +kernel
theorem pm_a29_1 : pm_as (pm_cd pm_mm29) 1 = some (.iload_n 1, 1) := by decide +kernel
theorem pm_a29_2 : pm_as (pm_cd pm_mm29) 2 = some (.invokevirtual 86, 3) := by decide +kernel
theorem pm_a29_5 : pm_as (pm_cd pm_mm29) 5 = some (.astore_n 3, 1) := by decide +kernel
theorem pm_a29_6 : pm_as (pm_cd pm_mm29) 6 = some (.aload_n 0, 1) := by decide +kernel
theorem pm_a29_7 : pm_as (pm_cd pm_mm29) 7 = some (.iload_n 2, 1) := by decide +kernel
theorem pm_a29_8 : pm_as (pm_cd pm_mm29) 8 = some (.invokevirtual 86, 3) := by decide +kernel
theorem pm_a29_11 : pm_as (pm_cd pm_mm29) 11 = some (.astore 4, 2) := by decide +kernel
theorem pm_a29_13 : pm_as (pm_cd pm_mm29) 13 = some (.aload_n 3, 1) := by decide +kernel
theorem pm_a29_14 : pm_as (pm_cd pm_mm29) 14 = some (.ifnull 8, 3) := by decide +kernel
theorem pm_a29_22 : pm_as (pm_cd pm_mm29) 22 = some (.iconst (-1), 1) := by decide +kernel
theorem pm_a29_23 : pm_as (pm_cd pm_mm29) 23 = some (.ireturn, 1) := by decide +kernel
theorem pm_a30_0 : pm_as (pm_cd pm_mm30) 0 = some (.aload_n 0, 1) := by decide +kernel
theorem pm_a30_1 : pm_as (pm_cd pm_mm30) 1 = some (.iload_n 1, 1) := by decide +kernel
theorem pm_a30_2 : pm_as (pm_cd pm_mm30) 2 = some (.invokevirtual 86, 3) := by decide +kernel
theorem pm_a30_5 : pm_as (pm_cd pm_mm30) 5 = some (.astore_n 2, 1) := by decide +kernel
theorem pm_a30_6 : pm_as (pm_cd pm_mm30) 6 = some (.aload_n 2, 1) := by decide +kernel
theorem pm_a30_7 : pm_as (pm_cd pm_mm30) 7 = some (.ifnonnull 5, 3) := by decide +kernel
theorem pm_a30_10 : pm_as (pm_cd pm_mm30) 10 = some (.iconst (-1), 1) := by decide +kernel
theorem pm_a30_11 : pm_as (pm_cd pm_mm30) 11 = some (.ireturn, 1) := by decide +kernel
theorem pm_a31_0 : pm_as (pm_cd pm_mm31) 0 = some (.aload_n 0, 1) := by decide +kernel
theorem pm_a31_1 : pm_as (pm_cd pm_mm31) 1 = some (.iload_n 1, 1) := by decide +kernel
theorem pm_a31_2 : pm_as (pm_cd pm_mm31) 2 = some (.invokevirtual 86, 3) := by decide +kernel
theorem pm_a31_5 : pm_as (pm_cd pm_mm31) 5 = some (.astore_n 3, 1) := by decide +kernel
theorem pm_a31_6 : pm_as (pm_cd pm_mm31) 6 = some (.aload_n 0, 1) := by decide +kernel
theorem pm_a31_7 : pm_as (pm_cd pm_mm31) 7 = some (.iload_n 2, 1) := by decide +kernel
theorem pm_a31_8 : pm_as (pm_cd pm_mm31) 8 = some (.invokevirtual 86, 3) := by decide +kernel
theorem pm_a31_11 : pm_as (pm_cd pm_mm31) 11 = some (.astore 4, 2) := by decide +kernel
theorem pm_a31_13 : pm_as (pm_cd pm_mm31) 13 = some (.aload_n 3, 1) := by decide +kernel
theorem pm_a31_14 : pm_as (pm_cd pm_mm31) 14 = some (.ifnull 8, 3) := by decide +kernel
theorem pm_a31_22 : pm_as (pm_cd pm_mm31) 22 = some (.iconst (-1), 1) := by decide +kernel
theorem pm_a31_23 : pm_as (pm_cd pm_mm31) 23 = some (.ireturn, 1) := by decide +kernel
theorem pm_a32_0 : pm_as (pm_cd pm_mm32) 0 = some (.aload_n 0, 1) := by decide +kernel
theorem pm_a32_1 : pm_as (pm_cd pm_mm32) 1 = some (.iload_n 1, 1) := by decide +kernel
theorem pm_a32_2 : pm_as (pm_cd pm_mm32) 2 = some (.invokevirtual 86, 3) := by decide +kernel
theorem pm_a32_5 : pm_as (pm_cd pm_mm32) 5 = some (.astore_n 3, 1) := by decide +kernel
theorem pm_a32_6 : pm_as (pm_cd pm_mm32) 6 = some (.aload_n 3, 1) := by decide +kernel
theorem pm_a32_7 : pm_as (pm_cd pm_mm32) 7 = some (.ifnull 10, 3) := by decide +kernel
theorem pm_a32_17 : pm_as (pm_cd pm_mm32) 17 = some (.iconst (-1), 1) := by decide +kernel
theorem pm_a32_18 : pm_as (pm_cd pm_mm32) 18 = some (.goto 12, 3) := by decide +kernel
theorem pm_a32_30 : pm_as (pm_cd pm_mm32) 30 = some (.ireturn, 1) := by decide +kernel
theorem pm_a33_0 : pm_as (pm_cd pm_mm33) 0 = some (.aload_n 0, 1) := by decide +kernel
theorem pm_a33_1 : pm_as (pm_cd pm_mm33) 1 = some (.iload_n 1, 1) := by decide +kernel
theorem pm_a33_2 : pm_as (pm_cd pm_mm33) 2 = some (.invokevirtual 86, 3) := by decide +kernel
theorem pm_a33_5 : pm_as (pm_cd pm_mm33) 5 = some (.astore 4, 2) := by decide +kernel
theorem pm_a33_7 : pm_as (pm_cd pm_mm33) 7 = some (.aload 4, 2) := by decide +kernel
theorem pm_a33_9 : pm_as (pm_cd pm_mm33) 9 = some (.ifnull 17, 3) := by decide +kernel
theorem pm_a33_26 : pm_as (pm_cd pm_mm33) 26 = some (.iconst (-1), 1) := by decide +kernel
theorem pm_a33_27 : pm_as (pm_cd pm_mm33) 27 = some (.ireturn, 1) := by decide +kernel
theorem pm_a34_0 : pm_as (pm_cd pm_mm34) 0 = some (.iload_n 1, 1) := by decide +kernel
theorem pm_a34_1 : pm_as (pm_cd pm_mm34) 1 = some (.lookupswitch 37 #[(0, 27), (1, 32)], 27) := by decide +kernel
theorem pm_a34_28 : pm_as (pm_cd pm_mm34) 28 = some (.aload_n 0, 1) := by decide +kernel
theorem pm_a34_29 : pm_as (pm_cd pm_mm34) 29 = some (.getfield 127, 3) := by decide +kernel
theorem pm_a34_32 : pm_as (pm_cd pm_mm34) 32 = some (.ireturn, 1) := by decide +kernel
theorem pm_a34_33 : pm_as (pm_cd pm_mm34) 33 = some (.aload_n 0, 1) := by decide +kernel
theorem pm_a34_34 : pm_as (pm_cd pm_mm34) 34 = some (.getfield 124, 3) := by decide +kernel
theorem pm_a34_37 : pm_as (pm_cd pm_mm34) 37 = some (.ireturn, 1) := by decide +kernel
theorem pm_a34_38 : pm_as (pm_cd pm_mm34) 38 = some (.iconst (-1), 1) := by decide +kernel
theorem pm_a34_39 : pm_as (pm_cd pm_mm34) 39 = some (.ireturn, 1) := by decide +kernel
theorem pm_a35_0 : pm_as (pm_cd pm_mm35) 0 = some (.aload_n 0, 1) := by decide +kernel
theorem pm_a35_1 : pm_as (pm_cd pm_mm35) 1 = some (.iload_n 1, 1) := by decide +kernel
theorem pm_a35_2 : pm_as (pm_cd pm_mm35) 2 = some (.invokevirtual 86, 3) := by decide +kernel
theorem pm_a35_5 : pm_as (pm_cd pm_mm35) 5 = some (.astore_n 3, 1) := by decide +kernel
theorem pm_a35_6 : pm_as (pm_cd pm_mm35) 6 = some (.aload_n 3, 1) := by decide +kernel
theorem pm_a35_7 : pm_as (pm_cd pm_mm35) 7 = some (.ifnull 10, 3) := by decide +kernel
theorem pm_a35_17 : pm_as (pm_cd pm_mm35) 17 = some (.iconst (-1), 1) := by decide +kernel
theorem pm_a35_18 : pm_as (pm_cd pm_mm35) 18 = some (.goto 12, 3) := by decide +kernel
theorem pm_a35_30 : pm_as (pm_cd pm_mm35) 30 = some (.ireturn, 1) := by decide +kernel
theorem pm_a36_0 : pm_as (pm_cd pm_mm36) 0 = some (.aload_n 0, 1) := by decide +kernel
theorem pm_a36_1 : pm_as (pm_cd pm_mm36) 1 = some (.iload_n 1, 1) := by decide +kernel
theorem pm_a36_2 : pm_as (pm_cd pm_mm36) 2 = some (.invokevirtual 86, 3) := by decide +kernel
theorem pm_a36_5 : pm_as (pm_cd pm_mm36) 5 = some (.astore_n 2, 1) := by decide +kernel
theorem pm_a36_6 : pm_as (pm_cd pm_mm36) 6 = some (.aload_n 2, 1) := by decide +kernel
theorem pm_a36_7 : pm_as (pm_cd pm_mm36) 7 = some (.ifnonnull 7, 3) := by decide +kernel
theorem pm_a36_10 : pm_as (pm_cd pm_mm36) 10 = some (.iconst (-1), 1) := by decide +kernel
theorem pm_a36_11 : pm_as (pm_cd pm_mm36) 11 = some (.goto 11, 3) := by decide +kernel
theorem pm_a36_22 : pm_as (pm_cd pm_mm36) 22 = some (.ireturn, 1) := by decide +kernel
theorem pm_a37_0 : pm_as (pm_cd pm_mm37) 0 = some (.aload_n 0, 1) := by decide +kernel
theorem pm_a37_1 : pm_as (pm_cd pm_mm37) 1 = some (.iload_n 1, 1) := by decide +kernel
theorem pm_a37_2 : pm_as (pm_cd pm_mm37) 2 = some (.invokevirtual 86, 3) := by decide +kernel
theorem pm_a37_5 : pm_as (pm_cd pm_mm37) 5 = some (.astore_n 2, 1) := by decide +kernel
theorem pm_a37_6 : pm_as (pm_cd pm_mm37) 6 = some (.aload_n 2, 1) := by decide +kernel
theorem pm_a37_7 : pm_as (pm_cd pm_mm37) 7 = some (.ifnonnull 5, 3) := by decide +kernel
theorem pm_a37_10 : pm_as (pm_cd pm_mm37) 10 = some (.iconst (-1), 1) := by decide +kernel
theorem pm_a37_11 : pm_as (pm_cd pm_mm37) 11 = some (.ireturn, 1) := by decide +kernel
theorem pm_a38_0 : pm_as (pm_cd pm_mm38) 0 = some (.aload_n 0, 1) := by decide +kernel
theorem pm_a38_1 : pm_as (pm_cd pm_mm38) 1 = some (.iload_n 1, 1) := by decide +kernel
theorem pm_a38_2 : pm_as (pm_cd pm_mm38) 2 = some (.invokevirtual 86, 3) := by decide +kernel
theorem pm_a38_5 : pm_as (pm_cd pm_mm38) 5 = some (.astore_n 2, 1) := by decide +kernel
theorem pm_a38_6 : pm_as (pm_cd pm_mm38) 6 = some (.aload_n 2, 1) := by decide +kernel
theorem pm_a38_7 : pm_as (pm_cd pm_mm38) 7 = some (.ifnonnull 7, 3) := by decide +kernel
theorem pm_a38_10 : pm_as (pm_cd pm_mm38) 10 = some (.iconst (-1), 1) := by decide +kernel
theorem pm_a38_11 : pm_as (pm_cd pm_mm38) 11 = some (.goto 7, 3) := by decide +kernel
theorem pm_a38_18 : pm_as (pm_cd pm_mm38) 18 = some (.ireturn, 1) := by decide +kernel
theorem pm_a39_0 : pm_as (pm_cd pm_mm39) 0 = some (.aload_n 0, 1) := by decide +kernel
theorem pm_a39_1 : pm_as (pm_cd pm_mm39) 1 = some (.iload_n 1, 1) := by decide +kernel
theorem pm_a39_2 : pm_as (pm_cd pm_mm39) 2 = some (.invokevirtual 86, 3) := by decide +kernel
theorem pm_a39_5 : pm_as (pm_cd pm_mm39) 5 = some (.astore_n 3, 1) := by decide +kernel
theorem pm_a39_6 : pm_as (pm_cd pm_mm39) 6 = some (.aload_n 3, 1) := by decide +kernel
theorem pm_a39_7 : pm_as (pm_cd pm_mm39) 7 = some (.ifnull 10, 3) := by decide +kernel
theorem pm_a39_17 : pm_as (pm_cd pm_mm39) 17 = some (.iconst (-1), 1) := by decide +kernel
theorem pm_a39_18 : pm_as (pm_cd pm_mm39) 18 = some (.ireturn, 1) := by decide +kernel
theorem pm_a40_0 : pm_as (pm_cd pm_mm40) 0 = some (.aload_n 0, 1) := by decide +kernel
theorem pm_a40_1 : pm_as (pm_cd pm_mm40) 1 = some (.iload_n 1, 1) := by decide +kernel
theorem pm_a40_2 : pm_as (pm_cd pm_mm40) 2 = some (.invokevirtual 86, 3) := by decide +kernel
theorem pm_a40_5 : pm_as (pm_cd pm_mm40) 5 = some (.astore_n 2, 1) := by decide +kernel
theorem pm_a40_6 : pm_as (pm_cd pm_mm40) 6 = some (.aload_n 2, 1) := by decide +kernel
theorem pm_a40_7 : pm_as (pm_cd pm_mm40) 7 = some (.ifnonnull 5, 3) := by decide +kernel
theorem pm_a40_10 : pm_as (pm_cd pm_mm40) 10 = some (.iconst (-1), 1) := by decide +kernel
theorem pm_a40_11 : pm_as (pm_cd pm_mm40) 11 = some (.ireturn, 1) := by decide +kernel
theorem pm_a41_0 : pm_as (pm_cd pm_mm41) 0 = some (.aload_n 0, 1) := by decide +kernel
theorem pm_a41_1 : pm_as (pm_cd pm_mm41) 1 = some (.getfield 159, 3) := by decide +kernel
theorem pm_a41_4 : pm_as (pm_cd pm_mm41) 4 = some (.ifnonnull 7, 3) := by decide +kernel
theorem pm_a41_7 : pm_as (pm_cd pm_mm41) 7 = some (.iconst (-1), 1) := by decide +kernel
theorem pm_a41_8 : pm_as (pm_cd pm_mm41) 8 = some (.goto 14, 3) := by decide +kernel
theorem pm_a41_22 : pm_as (pm_cd pm_mm41) 22 = some (.ireturn, 1) := by decide +kernel
theorem pm_a42_0 : pm_as (pm_cd pm_mm42) 0 = some (.aload_n 0, 1) := by decide +kernel
theorem pm_a42_1 : pm_as (pm_cd pm_mm42) 1 = some (.iload_n 1, 1) := by decide +kernel
theorem pm_a42_2 : pm_as (pm_cd pm_mm42) 2 = some (.invokevirtual 86, 3) := by decide +kernel
theorem pm_a42_5 : pm_as (pm_cd pm_mm42) 5 = some (.astore_n 3, 1) := by decide +kernel
theorem pm_a42_6 : pm_as (pm_cd pm_mm42) 6 = some (.aload_n 3, 1) := by decide +kernel
theorem pm_a42_7 : pm_as (pm_cd pm_mm42) 7 = some (.ifnonnull 5, 3) := by decide +kernel
theorem pm_a42_10 : pm_as (pm_cd pm_mm42) 10 = some (.iconst (-1), 1) := by decide +kernel
theorem pm_a42_11 : pm_as (pm_cd pm_mm42) 11 = some (.ireturn, 1) := by decide +kernel
theorem pm_a43_0 : pm_as (pm_cd pm_mm43) 0 = some (.aload_n 0, 1) := by decide +kernel
theorem pm_a43_1 : pm_as (pm_cd pm_mm43) 1 = some (.getfield 179, 3) := by decide +kernel
theorem pm_a43_4 : pm_as (pm_cd pm_mm43) 4 = some (.ifCond .ne 6, 3) := by decide +kernel
theorem pm_a43_7 : pm_as (pm_cd pm_mm43) 7 = some (.bipush (-4), 2) := by decide +kernel
theorem pm_a43_9 : pm_as (pm_cd pm_mm43) 9 = some (.ireturn, 1) := by decide +kernel
theorem pm_a44_0 : pm_as (pm_cd pm_mm44) 0 = some (.iload_n 1, 1) := by decide +kernel
theorem pm_a44_1 : pm_as (pm_cd pm_mm44) 1 = some (.tableswitch 45 0 2 #[27, 32, 40], 27) := by decide +kernel
theorem pm_a44_28 : pm_as (pm_cd pm_mm44) 28 = some (.aload_n 0, 1) := by decide +kernel
theorem pm_a44_29 : pm_as (pm_cd pm_mm44) 29 = some (.getfield 179, 3) := by decide +kernel
theorem pm_a44_32 : pm_as (pm_cd pm_mm44) 32 = some (.ireturn, 1) := by decide +kernel
theorem pm_a44_33 : pm_as (pm_cd pm_mm44) 33 = some (.aload_n 0, 1) := by decide +kernel
theorem pm_a44_34 : pm_as (pm_cd pm_mm44) 34 = some (.getfield 10, 3) := by decide +kernel
theorem pm_a44_37 : pm_as (pm_cd pm_mm44) 37 = some (.getfield 61, 3) := by decide +kernel
theorem pm_a44_40 : pm_as (pm_cd pm_mm44) 40 = some (.ireturn, 1) := by decide +kernel
theorem pm_a44_41 : pm_as (pm_cd pm_mm44) 41 = some (.aload_n 0, 1) := by decide +kernel
theorem pm_a44_42 : pm_as (pm_cd pm_mm44) 42 = some (.invokevirtual 182, 3) := by decide +kernel
theorem pm_a44_45 : pm_as (pm_cd pm_mm44) 45 = some (.ireturn, 1) := by decide +kernel
theorem pm_a44_46 : pm_as (pm_cd pm_mm44) 46 = some (.iconst (-1), 1) := by decide +kernel
theorem pm_a44_47 : pm_as (pm_cd pm_mm44) 47 = some (.ireturn, 1) := by decide +kernel
theorem pm_a45_0 : pm_as (pm_cd pm_mm45) 0 = some (.iconst 0, 1) := by decide +kernel
theorem pm_a45_1 : pm_as (pm_cd pm_mm45) 1 = some (.istore_n 1, 1) := by decide +kernel
theorem pm_a45_2 : pm_as (pm_cd pm_mm45) 2 = some (.iconst 0, 1) := by decide +kernel
theorem pm_a45_3 : pm_as (pm_cd pm_mm45) 3 = some (.istore_n 2, 1) := by decide +kernel
theorem pm_a45_4 : pm_as (pm_cd pm_mm45) 4 = some (.iload_n 2, 1) := by decide +kernel
theorem pm_a45_5 : pm_as (pm_cd pm_mm45) 5 = some (.aload_n 0, 1) := by decide +kernel
theorem pm_a45_6 : pm_as (pm_cd pm_mm45) 6 = some (.getfield 179, 3) := by decide +kernel
theorem pm_a45_9 : pm_as (pm_cd pm_mm45) 9 = some (.if_icmp .ge 30, 3) := by decide +kernel
theorem pm_a45_39 : pm_as (pm_cd pm_mm45) 39 = some (.iload_n 1, 1) := by decide +kernel
theorem pm_a45_40 : pm_as (pm_cd pm_mm45) 40 = some (.ireturn, 1) := by decide +kernel
theorem pm_a46_0 : pm_as (pm_cd pm_mm46) 0 = some (.aload_n 0, 1) := by decide +kernel
theorem pm_a46_1 : pm_as (pm_cd pm_mm46) 1 = some (.invokespecial 1, 3) := by decide +kernel
theorem pm_a46_4 : pm_as (pm_cd pm_mm46) 4 = some (.aload_n 0, 1) := by decide +kernel
theorem pm_a46_5 : pm_as (pm_cd pm_mm46) 5 = some (.bipush 32, 2) := by decide +kernel
theorem pm_a46_7 : pm_as (pm_cd pm_mm46) 7 = some (.newarray .int, 2) := by decide +kernel
theorem pm_a46_9 : pm_as (pm_cd pm_mm46) 9 = some (.putfield 7, 3) := by decide +kernel
theorem pm_a46_12 : pm_as (pm_cd pm_mm46) 12 = some (.aload_n 0, 1) := by decide +kernel
theorem pm_a46_13 : pm_as (pm_cd pm_mm46) 13 = some (.sipush 16000, 3) := by decide +kernel
theorem pm_a46_16 : pm_as (pm_cd pm_mm46) 16 = some (.newarray .int, 2) := by decide +kernel
theorem pm_a46_18 : pm_as (pm_cd pm_mm46) 18 = some (.putfield 13, 3) := by decide +kernel
theorem pm_a46_21 : pm_as (pm_cd pm_mm46) 21 = some (.aload_n 0, 1) := by decide +kernel
theorem pm_a46_22 : pm_as (pm_cd pm_mm46) 22 = some (.sipush 600, 3) := by decide +kernel
theorem pm_a46_25 : pm_as (pm_cd pm_mm46) 25 = some (.newarray .int, 2) := by decide +kernel
theorem pm_a46_27 : pm_as (pm_cd pm_mm46) 27 = some (.putfield 16, 3) := by decide +kernel
theorem pm_a46_30 : pm_as (pm_cd pm_mm46) 30 = some (.aload_n 0, 1) := by decide +kernel
theorem pm_a46_31 : pm_as (pm_cd pm_mm46) 31 = some (.sipush 12000, 3) := by decide +kernel
theorem pm_a46_34 : pm_as (pm_cd pm_mm46) 34 = some (.newarray .int, 2) := by decide +kernel
theorem pm_a46_36 : pm_as (pm_cd pm_mm46) 36 = some (.putfield 19, 3) := by decide +kernel
theorem pm_a46_39 : pm_as (pm_cd pm_mm46) 39 = some (.aload_n 0, 1) := by decide +kernel
theorem pm_a46_40 : pm_as (pm_cd pm_mm46) 40 = some (.sipush 12000, 3) := by decide +kernel
theorem pm_a46_43 : pm_as (pm_cd pm_mm46) 43 = some (.newarray .int, 2) := by decide +kernel
theorem pm_a46_45 : pm_as (pm_cd pm_mm46) 45 = some (.putfield 22, 3) := by decide +kernel
theorem pm_a46_48 : pm_as (pm_cd pm_mm46) 48 = some (.aload_n 0, 1) := by decide +kernel
theorem pm_a46_49 : pm_as (pm_cd pm_mm46) 49 = some (.sipush 12000, 3) := by decide +kernel
theorem pm_a46_52 : pm_as (pm_cd pm_mm46) 52 = some (.newarray .int, 2) := by decide +kernel
theorem pm_a46_54 : pm_as (pm_cd pm_mm46) 54 = some (.putfield 25, 3) := by decide +kernel
theorem pm_a46_57 : pm_as (pm_cd pm_mm46) 57 = some (.aload_n 0, 1) := by decide +kernel
theorem pm_a46_58 : pm_as (pm_cd pm_mm46) 58 = some (.bipush 90, 2) := by decide +kernel
theorem pm_a46_60 : pm_as (pm_cd pm_mm46) 60 = some (.newarray .int, 2) := by decide +kernel
theorem pm_a46_62 : pm_as (pm_cd pm_mm46) 62 = some (.putfield 28, 3) := by decide +kernel
theorem pm_a46_65 : pm_as (pm_cd pm_mm46) 65 = some (.aload_n 0, 1) := by decide +kernel
theorem pm_a46_66 : pm_as (pm_cd pm_mm46) 66 = some (.bipush 90, 2) := by decide +kernel
theorem pm_a46_68 : pm_as (pm_cd pm_mm46) 68 = some (.newarray .boolean, 2) := by decide +kernel
theorem pm_a46_70 : pm_as (pm_cd pm_mm46) 70 = some (.putfield 31, 3) := by decide +kernel
theorem pm_a46_73 : pm_as (pm_cd pm_mm46) 73 = some (.aload_n 0, 1) := by decide +kernel
theorem pm_a46_74 : pm_as (pm_cd pm_mm46) 74 = some (.bipush 90, 2) := by decide +kernel
theorem pm_a46_76 : pm_as (pm_cd pm_mm46) 76 = some (.newarray .int, 2) := by decide +kernel
theorem pm_a46_78 : pm_as (pm_cd pm_mm46) 78 = some (.putfield 35, 3) := by decide +kernel
theorem pm_a46_81 : pm_as (pm_cd pm_mm46) 81 = some (.aload_n 0, 1) := by decide +kernel
theorem pm_a46_82 : pm_as (pm_cd pm_mm46) 82 = some (.bipush 41, 2) := by decide +kernel
theorem pm_a46_84 : pm_as (pm_cd pm_mm46) 84 = some (.newarray .long, 2) := by decide +kernel
theorem pm_a46_86 : pm_as (pm_cd pm_mm46) 86 = some (.putfield 38, 3) := by decide +kernel
theorem pm_a46_89 : pm_as (pm_cd pm_mm46) 89 = some (.aload_n 0, 1) := by decide +kernel
theorem pm_a46_90 : pm_as (pm_cd pm_mm46) 90 = some (.sipush 6000, 3) := by decide +kernel
theorem pm_a46_93 : pm_as (pm_cd pm_mm46) 93 = some (.newarray .int, 2) := by decide +kernel
theorem pm_a46_95 : pm_as (pm_cd pm_mm46) 95 = some (.putfield 42, 3) := by decide +kernel
theorem pm_a46_98 : pm_as (pm_cd pm_mm46) 98 = some (.aload_n 0, 1) := by decide +kernel
theorem pm_a46_99 : pm_as (pm_cd pm_mm46) 99 = some (.sipush 501, 3) := by decide +kernel
theorem pm_a46_102 : pm_as (pm_cd pm_mm46) 102 = some (.newarray .boolean, 2) := by decide +kernel
theorem pm_a46_104 : pm_as (pm_cd pm_mm46) 104 = some (.putfield 45, 3) := by decide +kernel
theorem pm_a46_107 : pm_as (pm_cd pm_mm46) 107 = some (.aload_n 0, 1) := by decide +kernel
theorem pm_a46_108 : pm_as (pm_cd pm_mm46) 108 = some (.sipush 501, 3) := by decide +kernel
theorem pm_a46_111 : pm_as (pm_cd pm_mm46) 111 = some (.newarray .boolean, 2) := by decide +kernel
theorem pm_a46_113 : pm_as (pm_cd pm_mm46) 113 = some (.putfield 48, 3) := by decide +kernel
theorem pm_a46_116 : pm_as (pm_cd pm_mm46) 116 = some (.aload_n 0, 1) := by decide +kernel
theorem pm_a46_117 : pm_as (pm_cd pm_mm46) 117 = some (.sipush 501, 3) := by decide +kernel
theorem pm_a46_120 : pm_as (pm_cd pm_mm46) 120 = some (.newarray .int, 2) := by decide +kernel
theorem pm_a46_122 : pm_as (pm_cd pm_mm46) 122 = some (.putfield 51, 3) := by decide +kernel
theorem pm_a46_125 : pm_as (pm_cd pm_mm46) 125 = some (.aload_n 0, 1) := by decide +kernel
theorem pm_a46_126 : pm_as (pm_cd pm_mm46) 126 = some (.sipush 12000, 3) := by decide +kernel
theorem pm_a46_129 : pm_as (pm_cd pm_mm46) 129 = some (.newarray .int, 2) := by decide +kernel
theorem pm_a46_131 : pm_as (pm_cd pm_mm46) 131 = some (.putfield 54, 3) := by decide +kernel
theorem pm_a46_134 : pm_as (pm_cd pm_mm46) 134 = some (.aload_n 0, 1) := by decide +kernel
theorem pm_a46_135 : pm_as (pm_cd pm_mm46) 135 = some (.sipush 12000, 3) := by decide +kernel
theorem pm_a46_138 : pm_as (pm_cd pm_mm46) 138 = some (.newarray .int, 2) := by decide +kernel
theorem pm_a46_140 : pm_as (pm_cd pm_mm46) 140 = some (.putfield 57, 3) := by decide +kernel
theorem pm_a46_143 : pm_as (pm_cd pm_mm46) 143 = some (.aload_n 0, 1) := by decide +kernel
theorem pm_a46_144 : pm_as (pm_cd pm_mm46) 144 = some (.sipush 9000, 3) := by decide +kernel
theorem pm_a46_147 : pm_as (pm_cd pm_mm46) 147 = some (.newarray .int, 2) := by decide +kernel
theorem pm_a46_149 : pm_as (pm_cd pm_mm46) 149 = some (.putfield 60, 3) := by decide +kernel
theorem pm_a46_152 : pm_as (pm_cd pm_mm46) 152 = some (.aload_n 0, 1) := by decide +kernel
theorem pm_a46_153 : pm_as (pm_cd pm_mm46) 153 = some (.sipush 9000, 3) := by decide +kernel
theorem pm_a46_156 : pm_as (pm_cd pm_mm46) 156 = some (.newarray .int, 2) := by decide +kernel
theorem pm_a46_158 : pm_as (pm_cd pm_mm46) 158 = some (.putfield 63, 3) := by decide +kernel
theorem pm_a46_161 : pm_as (pm_cd pm_mm46) 161 = some (.aload_n 0, 1) := by decide +kernel
theorem pm_a46_162 : pm_as (pm_cd pm_mm46) 162 = some (.sipush 9000, 3) := by decide +kernel
theorem pm_a46_165 : pm_as (pm_cd pm_mm46) 165 = some (.newarray .int, 2) := by decide +kernel
theorem pm_a46_167 : pm_as (pm_cd pm_mm46) 167 = some (.putfield 66, 3) := by decide +kernel
theorem pm_a46_170 : pm_as (pm_cd pm_mm46) 170 = some (.aload_n 0, 1) := by decide +kernel
theorem pm_a46_171 : pm_as (pm_cd pm_mm46) 171 = some (.sipush 20000, 3) := by decide +kernel
theorem pm_a46_174 : pm_as (pm_cd pm_mm46) 174 = some (.newarray .int, 2) := by decide +kernel
theorem pm_a46_176 : pm_as (pm_cd pm_mm46) 176 = some (.putfield 69, 3) := by decide +kernel
theorem pm_a46_179 : pm_as (pm_cd pm_mm46) 179 = some (.aload_n 0, 1) := by decide +kernel
theorem pm_a46_180 : pm_as (pm_cd pm_mm46) 180 = some (.sipush 20000, 3) := by decide +kernel
theorem pm_a46_183 : pm_as (pm_cd pm_mm46) 183 = some (.newarray .int, 2) := by decide +kernel
theorem pm_a46_185 : pm_as (pm_cd pm_mm46) 185 = some (.putfield 72, 3) := by decide +kernel
theorem pm_a46_188 : pm_as (pm_cd pm_mm46) 188 = some (.aload_n 0, 1) := by decide +kernel
theorem pm_a46_189 : pm_as (pm_cd pm_mm46) 189 = some (.sipush 9000, 3) := by decide +kernel
theorem pm_a46_192 : pm_as (pm_cd pm_mm46) 192 = some (.newarray .int, 2) := by decide +kernel
theorem pm_a46_194 : pm_as (pm_cd pm_mm46) 194 = some (.putfield 75, 3) := by decide +kernel
theorem pm_a46_197 : pm_as (pm_cd pm_mm46) 197 = some (.aload_n 0, 1) := by decide +kernel
theorem pm_a46_198 : pm_as (pm_cd pm_mm46) 198 = some (.sipush 9000, 3) := by decide +kernel
theorem pm_a46_201 : pm_as (pm_cd pm_mm46) 201 = some (.newarray .int, 2) := by decide +kernel
theorem pm_a46_203 : pm_as (pm_cd pm_mm46) 203 = some (.putfield 78, 3) := by decide +kernel
theorem pm_a46_206 : pm_as (pm_cd pm_mm46) 206 = some (.aload_n 0, 1) := by decide +kernel
theorem pm_a46_207 : pm_as (pm_cd pm_mm46) 207 = some (.sipush 500, 3) := by decide +kernel
theorem pm_a46_210 : pm_as (pm_cd pm_mm46) 210 = some (.newarray .int, 2) := by decide +kernel
theorem pm_a46_212 : pm_as (pm_cd pm_mm46) 212 = some (.putfield 81, 3) := by decide +kernel
theorem pm_a46_215 : pm_as (pm_cd pm_mm46) 215 = some (.aload_n 0, 1) := by decide +kernel
theorem pm_a46_216 : pm_as (pm_cd pm_mm46) 216 = some (.sipush 500, 3) := by decide +kernel
theorem pm_a46_219 : pm_as (pm_cd pm_mm46) 219 = some (.newarray .int, 2) := by decide +kernel
theorem pm_a46_221 : pm_as (pm_cd pm_mm46) 221 = some (.putfield 84, 3) := by decide +kernel
theorem pm_a46_224 : pm_as (pm_cd pm_mm46) 224 = some (.aload_n 0, 1) := by decide +kernel
theorem pm_a46_225 : pm_as (pm_cd pm_mm46) 225 = some (.sipush 501, 3) := by decide +kernel
theorem pm_a46_228 : pm_as (pm_cd pm_mm46) 228 = some (.newarray .int, 2) := by decide +kernel
theorem pm_a46_230 : pm_as (pm_cd pm_mm46) 230 = some (.putfield 87, 3) := by decide +kernel
theorem pm_a46_233 : pm_as (pm_cd pm_mm46) 233 = some (.aload_n 0, 1) := by decide +kernel
theorem pm_a46_234 : pm_as (pm_cd pm_mm46) 234 = some (.sipush 501, 3) := by decide +kernel
theorem pm_a46_237 : pm_as (pm_cd pm_mm46) 237 = some (.newarray .int, 2) := by decide +kernel
theorem pm_a46_239 : pm_as (pm_cd pm_mm46) 239 = some (.putfield 90, 3) := by decide +kernel
theorem pm_a46_242 : pm_as (pm_cd pm_mm46) 242 = some (.aload_n 0, 1) := by decide +kernel
theorem pm_a46_243 : pm_as (pm_cd pm_mm46) 243 = some (.sipush 500, 3) := by decide +kernel
theorem pm_a46_246 : pm_as (pm_cd pm_mm46) 246 = some (.newarray .int, 2) := by decide +kernel
theorem pm_a46_248 : pm_as (pm_cd pm_mm46) 248 = some (.putfield 93, 3) := by decide +kernel
theorem pm_a46_251 : pm_as (pm_cd pm_mm46) 251 = some (.aload_n 0, 1) := by decide +kernel
theorem pm_a46_252 : pm_as (pm_cd pm_mm46) 252 = some (.sipush 500, 3) := by decide +kernel
theorem pm_a46_255 : pm_as (pm_cd pm_mm46) 255 = some (.newarray .int, 2) := by decide +kernel
theorem pm_a46_257 : pm_as (pm_cd pm_mm46) 257 = some (.putfield 96, 3) := by decide +kernel
theorem pm_a46_260 : pm_as (pm_cd pm_mm46) 260 = some (.aload_n 0, 1) := by decide +kernel
theorem pm_a46_261 : pm_as (pm_cd pm_mm46) 261 = some (.sipush 9000, 3) := by decide +kernel
theorem pm_a46_264 : pm_as (pm_cd pm_mm46) 264 = some (.newarray .int, 2) := by decide +kernel
theorem pm_a46_266 : pm_as (pm_cd pm_mm46) 266 = some (.putfield 99, 3) := by decide +kernel
theorem pm_a46_269 : pm_as (pm_cd pm_mm46) 269 = some (.aload_n 0, 1) := by decide +kernel
theorem pm_a46_270 : pm_as (pm_cd pm_mm46) 270 = some (.sipush 9000, 3) := by decide +kernel
theorem pm_a46_273 : pm_as (pm_cd pm_mm46) 273 = some (.newarray .int, 2) := by decide +kernel
theorem pm_a46_275 : pm_as (pm_cd pm_mm46) 275 = some (.putfield 102, 3) := by decide +kernel
theorem pm_a46_278 : pm_as (pm_cd pm_mm46) 278 = some (.return_, 1) := by decide +kernel
theorem pm_a47_0 : pm_as (pm_cd pm_mm47) 0 = some (.aload_n 0, 1) := by decide +kernel
theorem pm_a47_1 : pm_as (pm_cd pm_mm47) 1 = some (.getfield 105, 3) := by decide +kernel
theorem pm_a47_4 : pm_as (pm_cd pm_mm47) 4 = some (.bipush 20, 2) := by decide +kernel
theorem pm_a47_6 : pm_as (pm_cd pm_mm47) 6 = some (.iadd, 1) := by decide +kernel
theorem pm_a47_7 : pm_as (pm_cd pm_mm47) 7 = some (.sipush 600, 3) := by decide +kernel
theorem pm_a47_10 : pm_as (pm_cd pm_mm47) 10 = some (.if_icmp .le 6, 3) := by decide +kernel
theorem pm_a47_16 : pm_as (pm_cd pm_mm47) 16 = some (.aload_n 0, 1) := by decide +kernel
theorem pm_a47_17 : pm_as (pm_cd pm_mm47) 17 = some (.iload_n 1, 1) := by decide +kernel
theorem pm_a47_18 : pm_as (pm_cd pm_mm47) 18 = some (.invokevirtual 109, 3) := by decide +kernel
theorem pm_a47_21 : pm_as (pm_cd pm_mm47) 21 = some (.aload_n 0, 1) := by decide +kernel
theorem pm_a47_22 : pm_as (pm_cd pm_mm47) 22 = some (.iload_n 2, 1) := by decide +kernel
theorem pm_a47_23 : pm_as (pm_cd pm_mm47) 23 = some (.invokevirtual 109, 3) := by decide +kernel
theorem pm_a47_26 : pm_as (pm_cd pm_mm47) 26 = some (.aload_n 0, 1) := by decide +kernel
theorem pm_a47_27 : pm_as (pm_cd pm_mm47) 27 = some (.iload_n 3, 1) := by decide +kernel
theorem pm_a47_28 : pm_as (pm_cd pm_mm47) 28 = some (.invokevirtual 109, 3) := by decide +kernel
theorem pm_a47_31 : pm_as (pm_cd pm_mm47) 31 = some (.aload_n 0, 1) := by decide +kernel
theorem pm_a47_32 : pm_as (pm_cd pm_mm47) 32 = some (.iload 4, 2) := by decide +kernel
theorem pm_a47_34 : pm_as (pm_cd pm_mm47) 34 = some (.invokevirtual 109, 3) := by decide +kernel
theorem pm_a47_37 : pm_as (pm_cd pm_mm47) 37 = some (.aload_n 0, 1) := by decide +kernel
theorem pm_a47_38 : pm_as (pm_cd pm_mm47) 38 = some (.iload 5, 2) := by decide +kernel
theorem pm_a47_40 : pm_as (pm_cd pm_mm47) 40 = some (.invokevirtual 109, 3) := by decide +kernel
theorem pm_a47_43 : pm_as (pm_cd pm_mm47) 43 = some (.aload_n 0, 1) := by decide +kernel
theorem pm_a47_44 : pm_as (pm_cd pm_mm47) 44 = some (.getfield 105, 3) := by decide +kernel
theorem pm_a47_47 : pm_as (pm_cd pm_mm47) 47 = some (.ireturn, 1) := by decide +kernel
theorem pm_a48_0 : pm_as (pm_cd pm_mm48) 0 = some (.bipush 24, 2) := by decide +kernel
theorem pm_a48_2 : pm_as (pm_cd pm_mm48) 2 = some (.istore_n 2, 1) := by decide +kernel
theorem pm_a48_3 : pm_as (pm_cd pm_mm48) 3 = some (.iload_n 2, 1) := by decide +kernel
theorem pm_a48_4 : pm_as (pm_cd pm_mm48) 4 = some (.ifCond .lt 35, 3) := by decide +kernel
theorem pm_a48_7 : pm_as (pm_cd pm_mm48) 7 = some (.aload_n 0, 1) := by decide +kernel
theorem pm_a48_8 : pm_as (pm_cd pm_mm48) 8 = some (.getfield 16, 3) := by decide +kernel
theorem pm_a48_11 : pm_as (pm_cd pm_mm48) 11 = some (.aload_n 0, 1) := by decide +kernel
theorem pm_a48_12 : pm_as (pm_cd pm_mm48) 12 = some (.getfield 105, 3) := by decide +kernel
theorem pm_a48_15 : pm_as (pm_cd pm_mm48) 15 = some (.iload_n 1, 1) := by decide +kernel
theorem pm_a48_16 : pm_as (pm_cd pm_mm48) 16 = some (.iload_n 2, 1) := by decide +kernel
theorem pm_a48_17 : pm_as (pm_cd pm_mm48) 17 = some (.ishr, 1) := by decide +kernel
theorem pm_a48_18 : pm_as (pm_cd pm_mm48) 18 = some (.sipush 255, 3) := by decide +kernel
theorem pm_a48_21 : pm_as (pm_cd pm_mm48) 21 = some (.iand, 1) := by decide +kernel
theorem pm_a48_22 : pm_as (pm_cd pm_mm48) 22 = some (.iastore, 1) := by decide +kernel
theorem pm_a48_23 : pm_as (pm_cd pm_mm48) 23 = some (.aload_n 0, 1) := by decide +kernel
theorem pm_a48_24 : pm_as (pm_cd pm_mm48) 24 = some (.dup, 1) := by decide +kernel
theorem pm_a48_25 : pm_as (pm_cd pm_mm48) 25 = some (.getfield 105, 3) := by decide +kernel
theorem pm_a48_28 : pm_as (pm_cd pm_mm48) 28 = some (.iconst 1, 1) := by decide +kernel
theorem pm_a48_29 : pm_as (pm_cd pm_mm48) 29 = some (.iadd, 1) := by decide +kernel
theorem pm_a48_30 : pm_as (pm_cd pm_mm48) 30 = some (.putfield 105, 3) := by decide +kernel
theorem pm_a48_33 : pm_as (pm_cd pm_mm48) 33 = some (.iinc 2 (-8), 3) := by decide +kernel
theorem pm_a48_36 : pm_as (pm_cd pm_mm48) 36 = some (.goto (-33), 3) := by decide +kernel
theorem pm_a48_39 : pm_as (pm_cd pm_mm48) 39 = some (.return_, 1) := by decide +kernel
theorem pm_a49_0 : pm_as (pm_cd pm_mm49) 0 = some (.iload_n 1, 1) := by decide +kernel
theorem pm_a49_1 : pm_as (pm_cd pm_mm49) 1 = some (.i2l, 1) := by decide +kernel
theorem pm_a49_2 : pm_as (pm_cd pm_mm49) 2 = some (.lconst 0, 1) := by decide +kernel
theorem pm_a49_3 : pm_as (pm_cd pm_mm49) 3 = some (.aload_n 0, 1) := by decide +kernel
theorem pm_a49_4 : pm_as (pm_cd pm_mm49) 4 = some (.getfield 105, 3) := by decide +kernel
theorem pm_a49_7 : pm_as (pm_cd pm_mm49) 7 = some (.i2l, 1) := by decide +kernel
theorem pm_a49_8 : pm_as (pm_cd pm_mm49) 8 = some (.invokestatic 113, 3) := by decide +kernel
theorem pm_a49_11 : pm_as (pm_cd pm_mm49) 11 = some (.ifCond .ne 5, 3) := by decide +kernel
theorem pm_a49_14 : pm_as (pm_cd pm_mm49) 14 = some (.iconst (-1), 1) := by decide +kernel
theorem pm_a49_15 : pm_as (pm_cd pm_mm49) 15 = some (.ireturn, 1) := by decide +kernel
theorem pm_a49_16 : pm_as (pm_cd pm_mm49) 16 = some (.aload_n 0, 1) := by decide +kernel
theorem pm_a49_17 : pm_as (pm_cd pm_mm49) 17 = some (.getfield 105, 3) := by decide +kernel
theorem pm_a49_20 : pm_as (pm_cd pm_mm49) 20 = some (.istore_n 2, 1) := by decide +kernel
theorem pm_a49_21 : pm_as (pm_cd pm_mm49) 21 = some (.aload_n 0, 1) := by decide +kernel
theorem pm_a49_22 : pm_as (pm_cd pm_mm49) 22 = some (.iload_n 1, 1) := by decide +kernel
theorem pm_a49_23 : pm_as (pm_cd pm_mm49) 23 = some (.putfield 105, 3) := by decide +kernel
theorem pm_a49_26 : pm_as (pm_cd pm_mm49) 26 = some (.iload_n 2, 1) := by decide +kernel
theorem pm_a49_27 : pm_as (pm_cd pm_mm49) 27 = some (.ireturn, 1) := by decide +kernel
theorem pm_a50_0 : pm_as (pm_cd pm_mm50) 0 = some (.lload_n 0, 1) := by decide +kernel
theorem pm_a50_1 : pm_as (pm_cd pm_mm50) 1 = some (.lload_n 2, 1) := by decide +kernel
theorem pm_a50_2 : pm_as (pm_cd pm_mm50) 2 = some (.lcmp, 1) := by decide +kernel
theorem pm_a50_3 : pm_as (pm_cd pm_mm50) 3 = some (.ifCond .lt 14, 3) := by decide +kernel
theorem pm_a50_6 : pm_as (pm_cd pm_mm50) 6 = some (.lload_n 0, 1) := by decide +kernel
theorem pm_a50_7 : pm_as (pm_cd pm_mm50) 7 = some (.lload 4, 2) := by decide +kernel
theorem pm_a50_9 : pm_as (pm_cd pm_mm50) 9 = some (.lcmp, 1) := by decide +kernel
theorem pm_a50_10 : pm_as (pm_cd pm_mm50) 10 = some (.ifCond .gt 7, 3) := by decide +kernel
theorem pm_a50_13 : pm_as (pm_cd pm_mm50) 13 = some (.iconst 1, 1) := by decide +kernel
theorem pm_a50_14 : pm_as (pm_cd pm_mm50) 14 = some (.goto 4, 3) := by decide +kernel
theorem pm_a50_17 : pm_as (pm_cd pm_mm50) 17 = some (.iconst 0, 1) := by decide +kernel
theorem pm_a50_18 : pm_as (pm_cd pm_mm50) 18 = some (.ireturn, 1) := by decide +kernel
theorem pm_a51_0 : pm_as (pm_cd pm_mm51) 0 = some (.aload_n 0, 1) := by decide +kernel
theorem pm_a51_1 : pm_as (pm_cd pm_mm51) 1 = some (.getfield 204, 3) := by decide +kernel
theorem pm_a51_4 : pm_as (pm_cd pm_mm51) 4 = some (.bipush 32, 2) := by decide +kernel
theorem pm_a51_6 : pm_as (pm_cd pm_mm51) 6 = some (.if_icmp .ne 6, 3) := by decide +kernel
theorem pm_a51_12 : pm_as (pm_cd pm_mm51) 12 = some (.aload_n 0, 1) := by decide +kernel
theorem pm_a51_13 : pm_as (pm_cd pm_mm51) 13 = some (.iconst 0, 1) := by decide +kernel
theorem pm_a51_14 : pm_as (pm_cd pm_mm51) 14 = some (.putfield 120, 3) := by decide +kernel
theorem pm_a51_17 : pm_as (pm_cd pm_mm51) 17 = some (.aload_n 0, 1) := by decide +kernel
theorem pm_a51_18 : pm_as (pm_cd pm_mm51) 18 = some (.invokevirtual 207, 3) := by decide +kernel
theorem pm_a51_21 : pm_as (pm_cd pm_mm51) 21 = some (.aload_n 0, 1) := by decide +kernel
theorem pm_a51_22 : pm_as (pm_cd pm_mm51) 22 = some (.iconst 0, 1) := by decide +kernel
theorem pm_a51_23 : pm_as (pm_cd pm_mm51) 23 = some (.putfield 105, 3) := by decide +kernel
theorem pm_a51_26 : pm_as (pm_cd pm_mm51) 26 = some (.aload_n 0, 1) := by decide +kernel
theorem pm_a51_27 : pm_as (pm_cd pm_mm51) 27 = some (.getfield 120, 3) := by decide +kernel
theorem pm_a51_30 : pm_as (pm_cd pm_mm51) 30 = some (.ifCond .le 11, 3) := by decide +kernel
theorem pm_a51_33 : pm_as (pm_cd pm_mm51) 33 = some (.bipush (-10), 2) := by decide +kernel
theorem pm_a51_35 : pm_as (pm_cd pm_mm51) 35 = some (.aload_n 0, 1) := by decide +kernel
theorem pm_a51_36 : pm_as (pm_cd pm_mm51) 36 = some (.getfield 123, 3) := by decide +kernel
theorem pm_a51_39 : pm_as (pm_cd pm_mm51) 39 = some (.isub, 1) := by decide +kernel
theorem pm_a51_40 : pm_as (pm_cd pm_mm51) 40 = some (.ireturn, 1) := by decide +kernel
theorem pm_a52_0 : pm_as (pm_cd pm_mm52) 0 = some (.aload_n 0, 1) := by decide +kernel
theorem pm_a52_1 : pm_as (pm_cd pm_mm52) 1 = some (.iconst 0, 1) := by decide +kernel
theorem pm_a52_2 : pm_as (pm_cd pm_mm52) 2 = some (.putfield 126, 3) := by decide +kernel
theorem pm_a52_5 : pm_as (pm_cd pm_mm52) 5 = some (.aload_n 0, 1) := by decide +kernel
theorem pm_a52_6 : pm_as (pm_cd pm_mm52) 6 = some (.iconst 0, 1) := by decide +kernel
theorem pm_a52_7 : pm_as (pm_cd pm_mm52) 7 = some (.putfield 117, 3) := by decide +kernel
theorem pm_a52_10 : pm_as (pm_cd pm_mm52) 10 = some (.aload_n 0, 1) := by decide +kernel
theorem pm_a52_11 : pm_as (pm_cd pm_mm52) 11 = some (.iconst 0, 1) := by decide +kernel
theorem pm_a52_12 : pm_as (pm_cd pm_mm52) 12 = some (.putfield 167, 3) := by decide +kernel
theorem pm_a52_15 : pm_as (pm_cd pm_mm52) 15 = some (.aload_n 0, 1) := by decide +kernel
theorem pm_a52_16 : pm_as (pm_cd pm_mm52) 16 = some (.iconst 0, 1) := by decide +kernel
theorem pm_a52_17 : pm_as (pm_cd pm_mm52) 17 = some (.putfield 179, 3) := by decide +kernel
theorem pm_a52_20 : pm_as (pm_cd pm_mm52) 20 = some (.aload_n 0, 1) := by decide +kernel
theorem pm_a52_21 : pm_as (pm_cd pm_mm52) 21 = some (.iconst 0, 1) := by decide +kernel
theorem pm_a52_22 : pm_as (pm_cd pm_mm52) 22 = some (.putfield 182, 3) := by decide +kernel
theorem pm_a52_25 : pm_as (pm_cd pm_mm52) 25 = some (.aload_n 0, 1) := by decide +kernel
theorem pm_a52_26 : pm_as (pm_cd pm_mm52) 26 = some (.iconst (-1), 1) := by decide +kernel
theorem pm_a52_27 : pm_as (pm_cd pm_mm52) 27 = some (.invokevirtual 189, 3) := by decide +kernel
theorem pm_a52_30 : pm_as (pm_cd pm_mm52) 30 = some (.aload_n 0, 1) := by decide +kernel
theorem pm_a52_31 : pm_as (pm_cd pm_mm52) 31 = some (.invokevirtual 176, 3) := by decide +kernel
theorem pm_a52_34 : pm_as (pm_cd pm_mm52) 34 = some (.iconst 1, 1) := by decide +kernel
theorem pm_a52_35 : pm_as (pm_cd pm_mm52) 35 = some (.istore_n 1, 1) := by decide +kernel
theorem pm_a52_36 : pm_as (pm_cd pm_mm52) 36 = some (.iload_n 1, 1) := by decide +kernel
theorem pm_a52_37 : pm_as (pm_cd pm_mm52) 37 = some (.ifCond .eq 262, 3) := by decide +kernel
theorem pm_a52_40 : pm_as (pm_cd pm_mm52) 40 = some (.aload_n 0, 1) := by decide +kernel
theorem pm_a52_41 : pm_as (pm_cd pm_mm52) 41 = some (.getfield 120, 3) := by decide +kernel
theorem pm_a52_44 : pm_as (pm_cd pm_mm52) 44 = some (.ifCond .ne 255, 3) := by decide +kernel
theorem pm_a52_47 : pm_as (pm_cd pm_mm52) 47 = some (.aload_n 0, 1) := by decide +kernel
theorem pm_a52_48 : pm_as (pm_cd pm_mm52) 48 = some (.getfield 140, 3) := by decide +kernel
theorem pm_a52_51 : pm_as (pm_cd pm_mm52) 51 = some (.iconst 1, 1) := by decide +kernel
theorem pm_a52_52 : pm_as (pm_cd pm_mm52) 52 = some (.if_icmp .ne 10, 3) := by decide +kernel
theorem pm_a52_62 : pm_as (pm_cd pm_mm52) 62 = some (.aload_n 0, 1) := by decide +kernel
theorem pm_a52_63 : pm_as (pm_cd pm_mm52) 63 = some (.getfield 140, 3) := by decide +kernel
theorem pm_a52_66 : pm_as (pm_cd pm_mm52) 66 = some (.iconst 2, 1) := by decide +kernel
theorem pm_a52_67 : pm_as (pm_cd pm_mm52) 67 = some (.if_icmp .ne 10, 3) := by decide +kernel
theorem pm_a52_77 : pm_as (pm_cd pm_mm52) 77 = some (.aload_n 0, 1) := by decide +kernel
theorem pm_a52_78 : pm_as (pm_cd pm_mm52) 78 = some (.getfield 140, 3) := by decide +kernel
theorem pm_a52_81 : pm_as (pm_cd pm_mm52) 81 = some (.iconst 3, 1) := by decide +kernel
theorem pm_a52_82 : pm_as (pm_cd pm_mm52) 82 = some (.if_icmp .ne 23, 3) := by decide +kernel
theorem pm_a52_105 : pm_as (pm_cd pm_mm52) 105 = some (.aload_n 0, 1) := by decide +kernel
theorem pm_a52_106 : pm_as (pm_cd pm_mm52) 106 = some (.bipush 40, 2) := by decide +kernel
theorem pm_a52_108 : pm_as (pm_cd pm_mm52) 108 = some (.invokevirtual 185, 3) := by decide +kernel
theorem pm_a52_111 : pm_as (pm_cd pm_mm52) 111 = some (.ifCond .eq 50, 3) := by decide +kernel
theorem pm_a52_161 : pm_as (pm_cd pm_mm52) 161 = some (.aload_n 0, 1) := by decide +kernel
theorem pm_a52_162 : pm_as (pm_cd pm_mm52) 162 = some (.bipush 92, 2) := by decide +kernel
theorem pm_a52_164 : pm_as (pm_cd pm_mm52) 164 = some (.invokevirtual 185, 3) := by decide +kernel
theorem pm_a52_167 : pm_as (pm_cd pm_mm52) 167 = some (.ifCond .eq 10, 3) := by decide +kernel
theorem pm_a52_177 : pm_as (pm_cd pm_mm52) 177 = some (.aload_n 0, 1) := by decide +kernel
theorem pm_a52_178 : pm_as (pm_cd pm_mm52) 178 = some (.bipush 41, 2) := by decide +kernel
theorem pm_a52_180 : pm_as (pm_cd pm_mm52) 180 = some (.invokevirtual 185, 3) := by decide +kernel
theorem pm_a52_183 : pm_as (pm_cd pm_mm52) 183 = some (.ifCond .ne 10, 3) := by decide +kernel
theorem pm_a52_186 : pm_as (pm_cd pm_mm52) 186 = some (.aload_n 0, 1) := by decide +kernel
theorem pm_a52_187 : pm_as (pm_cd pm_mm52) 187 = some (.getfield 140, 3) := by decide +kernel
theorem pm_a52_190 : pm_as (pm_cd pm_mm52) 190 = some (.ifCond .ne 97, 3) := by decide +kernel
theorem pm_a52_193 : pm_as (pm_cd pm_mm52) 193 = some (.aload_n 0, 1) := by decide +kernel
theorem pm_a52_194 : pm_as (pm_cd pm_mm52) 194 = some (.invokevirtual 201, 3) := by decide +kernel
theorem pm_a52_197 : pm_as (pm_cd pm_mm52) 197 = some (.aload_n 0, 1) := by decide +kernel
theorem pm_a52_198 : pm_as (pm_cd pm_mm52) 198 = some (.getfield 140, 3) := by decide +kernel
theorem pm_a52_201 : pm_as (pm_cd pm_mm52) 201 = some (.ifCond .eq 7, 3) := by decide +kernel
theorem pm_a52_208 : pm_as (pm_cd pm_mm52) 208 = some (.iconst 0, 1) := by decide +kernel
theorem pm_a52_209 : pm_as (pm_cd pm_mm52) 209 = some (.istore_n 1, 1) := by decide +kernel
theorem pm_a52_210 : pm_as (pm_cd pm_mm52) 210 = some (.aload_n 0, 1) := by decide +kernel
theorem pm_a52_211 : pm_as (pm_cd pm_mm52) 211 = some (.getfield 120, 3) := by decide +kernel
theorem pm_a52_214 : pm_as (pm_cd pm_mm52) 214 = some (.ifCond .ne 35, 3) := by decide +kernel
theorem pm_a52_249 : pm_as (pm_cd pm_mm52) 249 = some (.aload_n 0, 1) := by decide +kernel
theorem pm_a52_250 : pm_as (pm_cd pm_mm52) 250 = some (.getfield 120, 3) := by decide +kernel
theorem pm_a52_253 : pm_as (pm_cd pm_mm52) 253 = some (.ifCond .ne (-217), 3) := by decide +kernel
theorem pm_a52_299 : pm_as (pm_cd pm_mm52) 299 = some (.aload_n 0, 1) := by decide +kernel
theorem pm_a52_300 : pm_as (pm_cd pm_mm52) 300 = some (.getfield 120, 3) := by decide +kernel
theorem pm_a52_303 : pm_as (pm_cd pm_mm52) 303 = some (.ifCond .ne 19, 3) := by decide +kernel
theorem pm_a52_322 : pm_as (pm_cd pm_mm52) 322 = some (.return_, 1) := by decide +kernel
theorem pm_a53_0 : pm_as (pm_cd pm_mm53) 0 = some (.aload_n 0, 1) := by decide +kernel
theorem pm_a53_1 : pm_as (pm_cd pm_mm53) 1 = some (.getfield 28, 3) := by decide +kernel
theorem pm_a53_4 : pm_as (pm_cd pm_mm53) 4 = some (.aload_n 0, 1) := by decide +kernel
theorem pm_a53_5 : pm_as (pm_cd pm_mm53) 5 = some (.getfield 167, 3) := by decide +kernel
theorem pm_a53_8 : pm_as (pm_cd pm_mm53) 8 = some (.aload_n 0, 1) := by decide +kernel
theorem pm_a53_9 : pm_as (pm_cd pm_mm53) 9 = some (.getfield 117, 3) := by decide +kernel
theorem pm_a53_12 : pm_as (pm_cd pm_mm53) 12 = some (.iastore, 1) := by decide +kernel
theorem pm_a53_13 : pm_as (pm_cd pm_mm53) 13 = some (.aload_n 0, 1) := by decide +kernel
theorem pm_a53_14 : pm_as (pm_cd pm_mm53) 14 = some (.getfield 31, 3) := by decide +kernel
theorem pm_a53_17 : pm_as (pm_cd pm_mm53) 17 = some (.aload_n 0, 1) := by decide +kernel
theorem pm_a53_18 : pm_as (pm_cd pm_mm53) 18 = some (.getfield 167, 3) := by decide +kernel
theorem pm_a53_21 : pm_as (pm_cd pm_mm53) 21 = some (.iconst 0, 1) := by decide +kernel
theorem pm_a53_22 : pm_as (pm_cd pm_mm53) 22 = some (.bastore, 1) := by decide +kernel
theorem pm_a53_23 : pm_as (pm_cd pm_mm53) 23 = some (.aload_n 0, 1) := by decide +kernel
theorem pm_a53_24 : pm_as (pm_cd pm_mm53) 24 = some (.getfield 35, 3) := by decide +kernel
theorem pm_a53_27 : pm_as (pm_cd pm_mm53) 27 = some (.aload_n 0, 1) := by decide +kernel
theorem pm_a53_28 : pm_as (pm_cd pm_mm53) 28 = some (.getfield 167, 3) := by decide +kernel
theorem pm_a53_31 : pm_as (pm_cd pm_mm53) 31 = some (.iload_n 1, 1) := by decide +kernel
theorem pm_a53_32 : pm_as (pm_cd pm_mm53) 32 = some (.iastore, 1) := by decide +kernel
theorem pm_a53_33 : pm_as (pm_cd pm_mm53) 33 = some (.aload_n 0, 1) := by decide +kernel
theorem pm_a53_34 : pm_as (pm_cd pm_mm53) 34 = some (.dup, 1) := by decide +kernel
theorem pm_a53_35 : pm_as (pm_cd pm_mm53) 35 = some (.getfield 167, 3) := by decide +kernel
theorem pm_a53_38 : pm_as (pm_cd pm_mm53) 38 = some (.iconst 1, 1) := by decide +kernel
theorem pm_a53_39 : pm_as (pm_cd pm_mm53) 39 = some (.iadd, 1) := by decide +kernel
theorem pm_a53_40 : pm_as (pm_cd pm_mm53) 40 = some (.putfield 167, 3) := by decide +kernel
theorem pm_a53_43 : pm_as (pm_cd pm_mm53) 43 = some (.return_, 1) := by decide +kernel
theorem pm_a54_0 : pm_as (pm_cd pm_mm54) 0 = some (.aload_n 0, 1) := by decide +kernel
theorem pm_a54_1 : pm_as (pm_cd pm_mm54) 1 = some (.invokevirtual 129, 3) := by decide +kernel
theorem pm_a54_4 : pm_as (pm_cd pm_mm54) 4 = some (.bipush 32, 2) := by decide +kernel
theorem pm_a54_6 : pm_as (pm_cd pm_mm54) 6 = some (.if_icmp .ne 16, 3) := by decide +kernel
theorem pm_a54_22 : pm_as (pm_cd pm_mm54) 22 = some (.aload_n 0, 1) := by decide +kernel
theorem pm_a54_23 : pm_as (pm_cd pm_mm54) 23 = some (.aload_n 0, 1) := by decide +kernel
theorem pm_a54_24 : pm_as (pm_cd pm_mm54) 24 = some (.getfield 126, 3) := by decide +kernel
theorem pm_a54_27 : pm_as (pm_cd pm_mm54) 27 = some (.putfield 133, 3) := by decide +kernel
theorem pm_a54_30 : pm_as (pm_cd pm_mm54) 30 = some (.aload_n 0, 1) := by decide +kernel
theorem pm_a54_31 : pm_as (pm_cd pm_mm54) 31 = some (.lconst 0, 1) := by decide +kernel
theorem pm_a54_32 : pm_as (pm_cd pm_mm54) 32 = some (.putfield 136, 3) := by decide +kernel
theorem pm_a54_35 : pm_as (pm_cd pm_mm54) 35 = some (.aload_n 0, 1) := by decide +kernel
theorem pm_a54_36 : pm_as (pm_cd pm_mm54) 36 = some (.invokevirtual 129, 3) := by decide +kernel
theorem pm_a54_39 : pm_as (pm_cd pm_mm54) 39 = some (.istore_n 1, 1) := by decide +kernel
theorem pm_a54_40 : pm_as (pm_cd pm_mm54) 40 = some (.iload_n 1, 1) := by decide +kernel
theorem pm_a54_41 : pm_as (pm_cd pm_mm54) 41 = some (.ifCond .ge 11, 3) := by decide +kernel
theorem pm_a54_44 : pm_as (pm_cd pm_mm54) 44 = some (.aload_n 0, 1) := by decide +kernel
theorem pm_a54_45 : pm_as (pm_cd pm_mm54) 45 = some (.iconst 0, 1) := by decide +kernel
theorem pm_a54_46 : pm_as (pm_cd pm_mm54) 46 = some (.putfield 140, 3) := by decide +kernel
theorem pm_a54_49 : pm_as (pm_cd pm_mm54) 49 = some (.goto 341, 3) := by decide +kernel
theorem pm_a54_390 : pm_as (pm_cd pm_mm54) 390 = some (.return_, 1) := by decide +kernel
theorem pm_a55_0 : pm_as (pm_cd pm_mm55) 0 = some (.aload_n 0, 1) := by decide +kernel
theorem pm_a55_1 : pm_as (pm_cd pm_mm55) 1 = some (.getfield 126, 3) := by decide +kernel
theorem pm_a55_4 : pm_as (pm_cd pm_mm55) 4 = some (.aload_n 0, 1) := by decide +kernel
theorem pm_a55_5 : pm_as (pm_cd pm_mm55) 5 = some (.getfield 105, 3) := by decide +kernel
theorem pm_a55_8 : pm_as (pm_cd pm_mm55) 8 = some (.if_icmp .ge 15, 3) := by decide +kernel
theorem pm_a55_23 : pm_as (pm_cd pm_mm55) 23 = some (.iconst (-1), 1) := by decide +kernel
theorem pm_a55_24 : pm_as (pm_cd pm_mm55) 24 = some (.ireturn, 1) := by decide +kernel
theorem pm_a56_0 : pm_as (pm_cd pm_mm56) 0 = some (.aload_n 0, 1) := by decide +kernel
theorem pm_a56_1 : pm_as (pm_cd pm_mm56) 1 = some (.getfield 120, 3) := by decide +kernel
theorem pm_a56_4 : pm_as (pm_cd pm_mm56) 4 = some (.ifCond .ne 13, 3) := by decide +kernel
theorem pm_a56_7 : pm_as (pm_cd pm_mm56) 7 = some (.aload_n 0, 1) := by decide +kernel
theorem pm_a56_8 : pm_as (pm_cd pm_mm56) 8 = some (.iload_n 1, 1) := by decide +kernel
theorem pm_a56_9 : pm_as (pm_cd pm_mm56) 9 = some (.putfield 120, 3) := by decide +kernel
theorem pm_a56_12 : pm_as (pm_cd pm_mm56) 12 = some (.aload_n 0, 1) := by decide +kernel
theorem pm_a56_13 : pm_as (pm_cd pm_mm56) 13 = some (.iload_n 2, 1) := by decide +kernel
theorem pm_a56_14 : pm_as (pm_cd pm_mm56) 14 = some (.putfield 123, 3) := by decide +kernel
theorem pm_a56_17 : pm_as (pm_cd pm_mm56) 17 = some (.return_, 1) := by decide +kernel
theorem pm_a57_0 : pm_as (pm_cd pm_mm57) 0 = some (.aload_n 0, 1) := by decide +kernel
theorem pm_a57_1 : pm_as (pm_cd pm_mm57) 1 = some (.getfield 140, 3) := by decide +kernel
theorem pm_a57_4 : pm_as (pm_cd pm_mm57) 4 = some (.iconst 4, 1) := by decide +kernel
theorem pm_a57_5 : pm_as (pm_cd pm_mm57) 5 = some (.if_icmp .ne 17, 3) := by decide +kernel
theorem pm_a57_22 : pm_as (pm_cd pm_mm57) 22 = some (.iconst 0, 1) := by decide +kernel
theorem pm_a57_23 : pm_as (pm_cd pm_mm57) 23 = some (.ireturn, 1) := by decide +kernel
theorem pm_a58_0 : pm_as (pm_cd pm_mm58) 0 = some (.aload_n 0, 1) := by decide +kernel
theorem pm_a58_1 : pm_as (pm_cd pm_mm58) 1 = some (.getfield 120, 3) := by decide +kernel
theorem pm_a58_4 : pm_as (pm_cd pm_mm58) 4 = some (.ifCond .ne 96, 3) := by decide +kernel
theorem pm_a58_7 : pm_as (pm_cd pm_mm58) 7 = some (.aload_n 0, 1) := by decide +kernel
theorem pm_a58_8 : pm_as (pm_cd pm_mm58) 8 = some (.getfield 35, 3) := by decide +kernel
theorem pm_a58_11 : pm_as (pm_cd pm_mm58) 11 = some (.aload_n 0, 1) := by decide +kernel
theorem pm_a58_12 : pm_as (pm_cd pm_mm58) 12 = some (.getfield 167, 3) := by decide +kernel
theorem pm_a58_15 : pm_as (pm_cd pm_mm58) 15 = some (.iconst 1, 1) := by decide +kernel
theorem pm_a58_16 : pm_as (pm_cd pm_mm58) 16 = some (.isub, 1) := by decide +kernel
theorem pm_a58_17 : pm_as (pm_cd pm_mm58) 17 = some (.iaload, 1) := by decide +kernel
theorem pm_a58_18 : pm_as (pm_cd pm_mm58) 18 = some (.ifCond .le 82, 3) := by decide +kernel
theorem pm_a58_100 : pm_as (pm_cd pm_mm58) 100 = some (.aload_n 0, 1) := by decide +kernel
theorem pm_a58_101 : pm_as (pm_cd pm_mm58) 101 = some (.getfield 120, 3) := by decide +kernel
theorem pm_a58_104 : pm_as (pm_cd pm_mm58) 104 = some (.ifCond .ne 26, 3) := by decide +kernel
theorem pm_a58_107 : pm_as (pm_cd pm_mm58) 107 = some (.aload_n 0, 1) := by decide +kernel
theorem pm_a58_108 : pm_as (pm_cd pm_mm58) 108 = some (.getfield 31, 3) := by decide +kernel
theorem pm_a58_111 : pm_as (pm_cd pm_mm58) 111 = some (.aload_n 0, 1) := by decide +kernel
theorem pm_a58_112 : pm_as (pm_cd pm_mm58) 112 = some (.getfield 167, 3) := by decide +kernel
theorem pm_a58_115 : pm_as (pm_cd pm_mm58) 115 = some (.iconst 1, 1) := by decide +kernel
theorem pm_a58_116 : pm_as (pm_cd pm_mm58) 116 = some (.isub, 1) := by decide +kernel
theorem pm_a58_117 : pm_as (pm_cd pm_mm58) 117 = some (.baload, 1) := by decide +kernel
theorem pm_a58_118 : pm_as (pm_cd pm_mm58) 118 = some (.ifCond .ne 12, 3) := by decide +kernel
theorem pm_a58_121 : pm_as (pm_cd pm_mm58) 121 = some (.aload_n 0, 1) := by decide +kernel
theorem pm_a58_122 : pm_as (pm_cd pm_mm58) 122 = some (.iconst 2, 1) := by decide +kernel
theorem pm_a58_123 : pm_as (pm_cd pm_mm58) 123 = some (.aload_n 0, 1) := by decide +kernel
theorem pm_a58_124 : pm_as (pm_cd pm_mm58) 124 = some (.getfield 133, 3) := by decide +kernel
theorem pm_a58_127 : pm_as (pm_cd pm_mm58) 127 = some (.invokevirtual 151, 3) := by decide +kernel
theorem pm_a58_130 : pm_as (pm_cd pm_mm58) 130 = some (.return_, 1) := by decide +kernel
theorem pm_a59_0 : pm_as (pm_cd pm_mm59) 0 = some (.aload_n 0, 1) := by decide +kernel
theorem pm_a59_1 : pm_as (pm_cd pm_mm59) 1 = some (.getfield 120, 3) := by decide +kernel
theorem pm_a59_4 : pm_as (pm_cd pm_mm59) 4 = some (.ireturn, 1) := by decide +kernel
theorem pm_a60_0 : pm_as (pm_cd pm_mm60) 0 = some (.aload_n 0, 1) := by decide +kernel
theorem pm_a60_1 : pm_as (pm_cd pm_mm60) 1 = some (.iload_n 1, 1) := by decide +kernel
theorem pm_a60_2 : pm_as (pm_cd pm_mm60) 2 = some (.invokevirtual 213, 3) := by decide +kernel
theorem pm_a60_5 : pm_as (pm_cd pm_mm60) 5 = some (.ifCond .eq 12, 3) := by decide +kernel
theorem pm_a60_17 : pm_as (pm_cd pm_mm60) 17 = some (.iconst (-1), 1) := by decide +kernel
theorem pm_a60_18 : pm_as (pm_cd pm_mm60) 18 = some (.ireturn, 1) := by decide +kernel
theorem pm_a61_0 : pm_as (pm_cd pm_mm61) 0 = some (.iload_n 1, 1) := by decide +kernel
theorem pm_a61_1 : pm_as (pm_cd pm_mm61) 1 = some (.i2l, 1) := by decide +kernel
theorem pm_a61_2 : pm_as (pm_cd pm_mm61) 2 = some (.lconst 0, 1) := by decide +kernel
theorem pm_a61_3 : pm_as (pm_cd pm_mm61) 3 = some (.aload_n 0, 1) := by decide +kernel
theorem pm_a61_4 : pm_as (pm_cd pm_mm61) 4 = some (.getfield 204, 3) := by decide +kernel
theorem pm_a61_7 : pm_as (pm_cd pm_mm61) 7 = some (.iconst 1, 1) := by decide +kernel
theorem pm_a61_8 : pm_as (pm_cd pm_mm61) 8 = some (.isub, 1) := by decide +kernel
theorem pm_a61_9 : pm_as (pm_cd pm_mm61) 9 = some (.i2l, 1) := by decide +kernel
theorem pm_a61_10 : pm_as (pm_cd pm_mm61) 10 = some (.invokestatic 113, 3) := by decide +kernel
theorem pm_a61_13 : pm_as (pm_cd pm_mm61) 13 = some (.ireturn, 1) := by decide +kernel
theorem pm_a62_0 : pm_as (pm_cd pm_mm62) 0 = some (.aload_n 0, 1) := by decide +kernel
theorem pm_a62_1 : pm_as (pm_cd pm_mm62) 1 = some (.iload_n 1, 1) := by decide +kernel
theorem pm_a62_2 : pm_as (pm_cd pm_mm62) 2 = some (.invokevirtual 213, 3) := by decide +kernel
theorem pm_a62_5 : pm_as (pm_cd pm_mm62) 5 = some (.ifCond .eq 36, 3) := by decide +kernel
theorem pm_a62_41 : pm_as (pm_cd pm_mm62) 41 = some (.iconst (-1), 1) := by decide +kernel
theorem pm_a62_42 : pm_as (pm_cd pm_mm62) 42 = some (.ireturn, 1) := by decide +kernel
theorem pm_a63_0 : pm_as (pm_cd pm_mm63) 0 = some (.aload_n 0, 1) := by decide +kernel
theorem pm_a63_1 : pm_as (pm_cd pm_mm63) 1 = some (.iload_n 1, 1) := by decide +kernel
theorem pm_a63_2 : pm_as (pm_cd pm_mm63) 2 = some (.invokevirtual 213, 3) := by decide +kernel
theorem pm_a63_5 : pm_as (pm_cd pm_mm63) 5 = some (.ifCond .ne 5, 3) := by decide +kernel
theorem pm_a63_8 : pm_as (pm_cd pm_mm63) 8 = some (.iconst (-1), 1) := by decide +kernel
theorem pm_a63_9 : pm_as (pm_cd pm_mm63) 9 = some (.ireturn, 1) := by decide +kernel
theorem pm_a64_0 : pm_as (pm_cd pm_mm64) 0 = some (.aload_n 0, 1) := by decide +kernel
theorem pm_a64_1 : pm_as (pm_cd pm_mm64) 1 = some (.iload_n 1, 1) := by decide +kernel
theorem pm_a64_2 : pm_as (pm_cd pm_mm64) 2 = some (.invokevirtual 213, 3) := by decide +kernel
theorem pm_a64_5 : pm_as (pm_cd pm_mm64) 5 = some (.ifCond .eq 11, 3) := by decide +kernel
theorem pm_a64_16 : pm_as (pm_cd pm_mm64) 16 = some (.iconst (-1), 1) := by decide +kernel
theorem pm_a64_17 : pm_as (pm_cd pm_mm64) 17 = some (.ireturn, 1) := by decide +kernel
theorem pm_a65_0 : pm_as (pm_cd pm_mm65) 0 = some (.aload_n 0, 1) := by decide +kernel
theorem pm_a65_1 : pm_as (pm_cd pm_mm65) 1 = some (.iload_n 1, 1) := by decide +kernel
theorem pm_a65_2 : pm_as (pm_cd pm_mm65) 2 = some (.invokevirtual 213, 3) := by decide +kernel
theorem pm_a65_5 : pm_as (pm_cd pm_mm65) 5 = some (.ifCond .ne 5, 3) := by decide +kernel
theorem pm_a65_8 : pm_as (pm_cd pm_mm65) 8 = some (.iconst (-1), 1) := by decide +kernel
theorem pm_a65_9 : pm_as (pm_cd pm_mm65) 9 = some (.ireturn, 1) := by decide +kernel
theorem pm_a66_0 : pm_as (pm_cd pm_mm66) 0 = some (.aload_n 0, 1) := by decide +kernel
theorem pm_a66_1 : pm_as (pm_cd pm_mm66) 1 = some (.iload_n 1, 1) := by decide +kernel
theorem pm_a66_2 : pm_as (pm_cd pm_mm66) 2 = some (.invokevirtual 213, 3) := by decide +kernel
theorem pm_a66_5 : pm_as (pm_cd pm_mm66) 5 = some (.ifCond .eq 11, 3) := by decide +kernel
theorem pm_a66_16 : pm_as (pm_cd pm_mm66) 16 = some (.iconst (-1), 1) := by decide +kernel
theorem pm_a66_17 : pm_as (pm_cd pm_mm66) 17 = some (.ireturn, 1) := by decide +kernel
theorem pm_a67_0 : pm_as (pm_cd pm_mm67) 0 = some (.aload_n 0, 1) := by decide +kernel
theorem pm_a67_1 : pm_as (pm_cd pm_mm67) 1 = some (.iload_n 1, 1) := by decide +kernel
theorem pm_a67_2 : pm_as (pm_cd pm_mm67) 2 = some (.invokevirtual 213, 3) := by decide +kernel
theorem pm_a67_5 : pm_as (pm_cd pm_mm67) 5 = some (.ifCond .eq 15, 3) := by decide +kernel
theorem pm_a67_20 : pm_as (pm_cd pm_mm67) 20 = some (.iconst (-1), 1) := by decide +kernel
theorem pm_a67_21 : pm_as (pm_cd pm_mm67) 21 = some (.ireturn, 1) := by decide +kernel
theorem pm_a68_0 : pm_as (pm_cd pm_mm68) 0 = some (.aload_n 0, 1) := by decide +kernel
theorem pm_a68_1 : pm_as (pm_cd pm_mm68) 1 = some (.iload_n 1, 1) := by decide +kernel
theorem pm_a68_2 : pm_as (pm_cd pm_mm68) 2 = some (.invokevirtual 213, 3) := by decide +kernel
theorem pm_a68_5 : pm_as (pm_cd pm_mm68) 5 = some (.ifCond .eq 27, 3) := by decide +kernel
theorem pm_a68_32 : pm_as (pm_cd pm_mm68) 32 = some (.iconst (-1), 1) := by decide +kernel
theorem pm_a68_33 : pm_as (pm_cd pm_mm68) 33 = some (.ireturn, 1) := by decide +kernel
theorem pm_a69_0 : pm_as (pm_cd pm_mm69) 0 = some (.iload_n 1, 1) := by decide +kernel
theorem pm_a69_1 : pm_as (pm_cd pm_mm69) 1 = some (.ifCond .ne 10, 3) := by decide +kernel
theorem pm_a69_4 : pm_as (pm_cd pm_mm69) 4 = some (.aload_n 0, 1) := by decide +kernel
theorem pm_a69_5 : pm_as (pm_cd pm_mm69) 5 = some (.getfield 278, 3) := by decide +kernel
theorem pm_a69_8 : pm_as (pm_cd pm_mm69) 8 = some (.goto 16, 3) := by decide +kernel
theorem pm_a69_11 : pm_as (pm_cd pm_mm69) 11 = some (.iload_n 1, 1) := by decide +kernel
theorem pm_a69_12 : pm_as (pm_cd pm_mm69) 12 = some (.iconst 1, 1) := by decide +kernel
theorem pm_a69_13 : pm_as (pm_cd pm_mm69) 13 = some (.if_icmp .ne 10, 3) := by decide +kernel
theorem pm_a69_16 : pm_as (pm_cd pm_mm69) 16 = some (.aload_n 0, 1) := by decide +kernel
theorem pm_a69_17 : pm_as (pm_cd pm_mm69) 17 = some (.getfield 281, 3) := by decide +kernel
theorem pm_a69_20 : pm_as (pm_cd pm_mm69) 20 = some (.goto 4, 3) := by decide +kernel
theorem pm_a69_23 : pm_as (pm_cd pm_mm69) 23 = some (.iconst (-1), 1) := by decide +kernel
theorem pm_a69_24 : pm_as (pm_cd pm_mm69) 24 = some (.ireturn, 1) := by decide +kernel
theorem pm_a70_0 : pm_as (pm_cd pm_mm70) 0 = some (.aload_n 0, 1) := by decide +kernel
theorem pm_a70_1 : pm_as (pm_cd pm_mm70) 1 = some (.iload_n 1, 1) := by decide +kernel
theorem pm_a70_2 : pm_as (pm_cd pm_mm70) 2 = some (.invokevirtual 213, 3) := by decide +kernel
theorem pm_a70_5 : pm_as (pm_cd pm_mm70) 5 = some (.ifCond .eq 15, 3) := by decide +kernel
theorem pm_a70_20 : pm_as (pm_cd pm_mm70) 20 = some (.iconst (-1), 1) := by decide +kernel
theorem pm_a70_21 : pm_as (pm_cd pm_mm70) 21 = some (.ireturn, 1) := by decide +kernel
theorem pm_a71_0 : pm_as (pm_cd pm_mm71) 0 = some (.aload_n 0, 1) := by decide +kernel
theorem pm_a71_1 : pm_as (pm_cd pm_mm71) 1 = some (.iload_n 1, 1) := by decide +kernel
theorem pm_a71_2 : pm_as (pm_cd pm_mm71) 2 = some (.invokevirtual 213, 3) := by decide +kernel
theorem pm_a71_5 : pm_as (pm_cd pm_mm71) 5 = some (.ifCond .ne 5, 3) := by decide +kernel
theorem pm_a71_8 : pm_as (pm_cd pm_mm71) 8 = some (.iconst (-1), 1) := by decide +kernel
theorem pm_a71_9 : pm_as (pm_cd pm_mm71) 9 = some (.ireturn, 1) := by decide +kernel
theorem pm_a72_0 : pm_as (pm_cd pm_mm72) 0 = some (.aload_n 0, 1) := by decide +kernel
theorem pm_a72_1 : pm_as (pm_cd pm_mm72) 1 = some (.iload_n 1, 1) := by decide +kernel
theorem pm_a72_2 : pm_as (pm_cd pm_mm72) 2 = some (.invokevirtual 213, 3) := by decide +kernel
theorem pm_a72_5 : pm_as (pm_cd pm_mm72) 5 = some (.ifCond .ne 5, 3) := by decide +kernel
theorem pm_a72_8 : pm_as (pm_cd pm_mm72) 8 = some (.iconst (-1), 1) := by decide +kernel
theorem pm_a72_9 : pm_as (pm_cd pm_mm72) 9 = some (.ireturn, 1) := by decide +kernel
theorem pm_a73_0 : pm_as (pm_cd pm_mm73) 0 = some (.aload_n 0, 1) := by decide +kernel
theorem pm_a73_1 : pm_as (pm_cd pm_mm73) 1 = some (.iload_n 1, 1) := by decide +kernel
theorem pm_a73_2 : pm_as (pm_cd pm_mm73) 2 = some (.invokevirtual 213, 3) := by decide +kernel
theorem pm_a73_5 : pm_as (pm_cd pm_mm73) 5 = some (.ifCond .ne 5, 3) := by decide +kernel
theorem pm_a73_8 : pm_as (pm_cd pm_mm73) 8 = some (.iconst (-1), 1) := by decide +kernel
theorem pm_a73_9 : pm_as (pm_cd pm_mm73) 9 = some (.ireturn, 1) := by decide +kernel
theorem pm_a74_0 : pm_as (pm_cd pm_mm74) 0 = some (.aload_n 0, 1) := by decide +kernel
theorem pm_a74_1 : pm_as (pm_cd pm_mm74) 1 = some (.iload_n 1, 1) := by decide +kernel
theorem pm_a74_2 : pm_as (pm_cd pm_mm74) 2 = some (.invokevirtual 213, 3) := by decide +kernel
theorem pm_a74_5 : pm_as (pm_cd pm_mm74) 5 = some (.ifCond .eq 15, 3) := by decide +kernel
theorem pm_a74_20 : pm_as (pm_cd pm_mm74) 20 = some (.iconst (-1), 1) := by decide +kernel
theorem pm_a74_21 : pm_as (pm_cd pm_mm74) 21 = some (.ireturn, 1) := by decide +kernel
theorem pm_a75_0 : pm_as (pm_cd pm_mm75) 0 = some (.aload_n 0, 1) := by decide +kernel
theorem pm_a75_1 : pm_as (pm_cd pm_mm75) 1 = some (.iload_n 1, 1) := by decide +kernel
theorem pm_a75_2 : pm_as (pm_cd pm_mm75) 2 = some (.invokevirtual 213, 3) := by decide +kernel
theorem pm_a75_5 : pm_as (pm_cd pm_mm75) 5 = some (.ifCond .ne 5, 3) := by decide +kernel
theorem pm_a75_8 : pm_as (pm_cd pm_mm75) 8 = some (.iconst (-1), 1) := by decide +kernel
theorem pm_a75_9 : pm_as (pm_cd pm_mm75) 9 = some (.ireturn, 1) := by decide +kernel
theorem pm_a76_0 : pm_as (pm_cd pm_mm76) 0 = some (.iload_n 1, 1) := by decide +kernel
theorem pm_a76_1 : pm_as (pm_cd pm_mm76) 1 = some (.i2l, 1) := by decide +kernel
theorem pm_a76_2 : pm_as (pm_cd pm_mm76) 2 = some (.lconst 0, 1) := by decide +kernel
theorem pm_a76_3 : pm_as (pm_cd pm_mm76) 3 = some (.aload_n 0, 1) := by decide +kernel
theorem pm_a76_4 : pm_as (pm_cd pm_mm76) 4 = some (.getfield 332, 3) := by decide +kernel
theorem pm_a76_7 : pm_as (pm_cd pm_mm76) 7 = some (.iconst 1, 1) := by decide +kernel
theorem pm_a76_8 : pm_as (pm_cd pm_mm76) 8 = some (.isub, 1) := by decide +kernel
theorem pm_a76_9 : pm_as (pm_cd pm_mm76) 9 = some (.i2l, 1) := by decide +kernel
theorem pm_a76_10 : pm_as (pm_cd pm_mm76) 10 = some (.invokestatic 113, 3) := by decide +kernel
theorem pm_a76_13 : pm_as (pm_cd pm_mm76) 13 = some (.ifCond .eq 12, 3) := by decide +kernel
theorem pm_a76_25 : pm_as (pm_cd pm_mm76) 25 = some (.iconst (-1), 1) := by decide +kernel
theorem pm_a76_26 : pm_as (pm_cd pm_mm76) 26 = some (.ireturn, 1) := by decide +kernel
theorem pm_a77_0 : pm_as (pm_cd pm_mm77) 0 = some (.aload_n 0, 1) := by decide +kernel
theorem pm_a77_1 : pm_as (pm_cd pm_mm77) 1 = some (.iload_n 1, 1) := by decide +kernel
theorem pm_a77_2 : pm_as (pm_cd pm_mm77) 2 = some (.invokevirtual 213, 3) := by decide +kernel
theorem pm_a77_5 : pm_as (pm_cd pm_mm77) 5 = some (.ifCond .eq 15, 3) := by decide +kernel
theorem pm_a77_20 : pm_as (pm_cd pm_mm77) 20 = some (.iconst (-1), 1) := by decide +kernel
theorem pm_a77_21 : pm_as (pm_cd pm_mm77) 21 = some (.ireturn, 1) := by decide +kernel
theorem pm_a78_0 : pm_as (pm_cd pm_mm78) 0 = some (.aload_n 0, 1) := by decide +kernel
theorem pm_a78_1 : pm_as (pm_cd pm_mm78) 1 = some (.getfield 204, 3) := by decide +kernel
theorem pm_a78_4 : pm_as (pm_cd pm_mm78) 4 = some (.ifCond .ne 6, 3) := by decide +kernel
theorem pm_a78_7 : pm_as (pm_cd pm_mm78) 7 = some (.bipush (-4), 2) := by decide +kernel
theorem pm_a78_9 : pm_as (pm_cd pm_mm78) 9 = some (.ireturn, 1) := by decide +kernel
theorem pm_a79_0 : pm_as (pm_cd pm_mm79) 0 = some (.iconst 0, 1) := by decide +kernel
theorem pm_a79_1 : pm_as (pm_cd pm_mm79) 1 = some (.istore_n 2, 1) := by decide +kernel
theorem pm_a79_2 : pm_as (pm_cd pm_mm79) 2 = some (.iconst 0, 1) := by decide +kernel
theorem pm_a79_3 : pm_as (pm_cd pm_mm79) 3 = some (.istore_n 3, 1) := by decide +kernel
theorem pm_a79_4 : pm_as (pm_cd pm_mm79) 4 = some (.iload_n 3, 1) := by decide +kernel
theorem pm_a79_5 : pm_as (pm_cd pm_mm79) 5 = some (.aload_n 0, 1) := by decide +kernel
theorem pm_a79_6 : pm_as (pm_cd pm_mm79) 6 = some (.getfield 204, 3) := by decide +kernel
theorem pm_a79_9 : pm_as (pm_cd pm_mm79) 9 = some (.if_icmp .ge 18, 3) := by decide +kernel
theorem pm_a79_27 : pm_as (pm_cd pm_mm79) 27 = some (.iload_n 1, 1) := by decide +kernel
theorem pm_a79_28 : pm_as (pm_cd pm_mm79) 28 = some (.ifCond .ne 10, 3) := by decide +kernel
theorem pm_a79_31 : pm_as (pm_cd pm_mm79) 31 = some (.aload_n 0, 1) := by decide +kernel
theorem pm_a79_32 : pm_as (pm_cd pm_mm79) 32 = some (.getfield 204, 3) := by decide +kernel
theorem pm_a79_35 : pm_as (pm_cd pm_mm79) 35 = some (.goto 25, 3) := by decide +kernel
theorem pm_a79_38 : pm_as (pm_cd pm_mm79) 38 = some (.iload_n 1, 1) := by decide +kernel
theorem pm_a79_39 : pm_as (pm_cd pm_mm79) 39 = some (.iconst 1, 1) := by decide +kernel
theorem pm_a79_40 : pm_as (pm_cd pm_mm79) 40 = some (.if_icmp .ne 10, 3) := by decide +kernel
theorem pm_a79_43 : pm_as (pm_cd pm_mm79) 43 = some (.aload_n 0, 1) := by decide +kernel
theorem pm_a79_44 : pm_as (pm_cd pm_mm79) 44 = some (.getfield 105, 3) := by decide +kernel
theorem pm_a79_47 : pm_as (pm_cd pm_mm79) 47 = some (.goto 13, 3) := by decide +kernel
theorem pm_a79_50 : pm_as (pm_cd pm_mm79) 50 = some (.iload_n 1, 1) := by decide +kernel
theorem pm_a79_51 : pm_as (pm_cd pm_mm79) 51 = some (.iconst 2, 1) := by decide +kernel
theorem pm_a79_52 : pm_as (pm_cd pm_mm79) 52 = some (.if_icmp .ne 7, 3) := by decide +kernel
theorem pm_a79_55 : pm_as (pm_cd pm_mm79) 55 = some (.iload_n 2, 1) := by decide +kernel
theorem pm_a79_56 : pm_as (pm_cd pm_mm79) 56 = some (.goto 4, 3) := by decide +kernel
theorem pm_a79_59 : pm_as (pm_cd pm_mm79) 59 = some (.iconst (-1), 1) := by decide +kernel
theorem pm_a79_60 : pm_as (pm_cd pm_mm79) 60 = some (.ireturn, 1) := by decide +kernel
