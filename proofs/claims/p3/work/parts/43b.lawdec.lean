theorem d_Lw_law_124 : decode b_Lw_law 124 = .ok (.aload_n 1, 1) := by decide +kernel
theorem d_Lw_law_125 : decode b_Lw_law 125 = .ok (.aload_n 0, 1) := by decide +kernel
theorem d_Lw_law_126 : decode b_Lw_law 126 = .ok (.iload 4, 2) := by decide +kernel
theorem d_Lw_law_128 : decode b_Lw_law 128 = .ok (.iconst 1, 1) := by decide +kernel
theorem d_Lw_law_129 : decode b_Lw_law 129 = .ok (.iadd, 1) := by decide +kernel
theorem d_Lw_law_130 : decode b_Lw_law 130 = .ok (.iaload, 1) := by decide +kernel
theorem d_Lw_law_131 : decode b_Lw_law 131 = .ok (.aload_n 0, 1) := by decide +kernel
theorem d_Lw_law_132 : decode b_Lw_law 132 = .ok (.iload 4, 2) := by decide +kernel
theorem d_Lw_law_134 : decode b_Lw_law 134 = .ok (.iconst 2, 1) := by decide +kernel
theorem d_Lw_law_135 : decode b_Lw_law 135 = .ok (.iadd, 1) := by decide +kernel
theorem d_Lw_law_136 : decode b_Lw_law 136 = .ok (.iaload, 1) := by decide +kernel
theorem d_Lw_law_137 : decode b_Lw_law 137 = .ok (.i2l, 1) := by decide +kernel
theorem d_Lw_law_138 : decode b_Lw_law 138 = .ok (.bipush 32, 2) := by decide +kernel
theorem d_Lw_law_140 : decode b_Lw_law 140 = .ok (.lshl, 1) := by decide +kernel
theorem d_Lw_law_141 : decode b_Lw_law 141 = .ok (.aload_n 0, 1) := by decide +kernel
theorem d_Lw_law_142 : decode b_Lw_law 142 = .ok (.iload 4, 2) := by decide +kernel
theorem d_Lw_law_144 : decode b_Lw_law 144 = .ok (.iconst 3, 1) := by decide +kernel
theorem d_Lw_law_145 : decode b_Lw_law 145 = .ok (.iadd, 1) := by decide +kernel
theorem d_Lw_law_146 : decode b_Lw_law 146 = .ok (.iaload, 1) := by decide +kernel
theorem d_Lw_law_147 : decode b_Lw_law 147 = .ok (.i2l, 1) := by decide +kernel
theorem d_Lw_law_148 : decode b_Lw_law 148 = .ok (.ldc2_w 78, 3) := by decide +kernel
theorem d_Lw_law_151 : decode b_Lw_law 151 = .ok (.land, 1) := by decide +kernel
theorem d_Lw_law_152 : decode b_Lw_law 152 = .ok (.lor, 1) := by decide +kernel
theorem d_Lw_law_153 : decode b_Lw_law 153 = .ok (.aload_n 0, 1) := by decide +kernel
theorem d_Lw_law_154 : decode b_Lw_law 154 = .ok (.iload 4, 2) := by decide +kernel
theorem d_Lw_law_156 : decode b_Lw_law 156 = .ok (.iconst 4, 1) := by decide +kernel
theorem d_Lw_law_157 : decode b_Lw_law 157 = .ok (.iadd, 1) := by decide +kernel
theorem d_Lw_law_158 : decode b_Lw_law 158 = .ok (.iaload, 1) := by decide +kernel
theorem d_Lw_law_159 : decode b_Lw_law 159 = .ok (.invokestatic 80, 3) := by decide +kernel
theorem d_Lw_law_162 : decode b_Lw_law 162 = .ok (.istore 5, 2) := by decide +kernel
theorem d_Lw_law_164 : decode b_Lw_law 164 = .ok (.aload_n 2, 1) := by decide +kernel
theorem d_Lw_law_165 : decode b_Lw_law 165 = .ok (.aload_n 0, 1) := by decide +kernel
theorem d_Lw_law_166 : decode b_Lw_law 166 = .ok (.iload 4, 2) := by decide +kernel
theorem d_Lw_law_168 : decode b_Lw_law 168 = .ok (.iconst 1, 1) := by decide +kernel
theorem d_Lw_law_169 : decode b_Lw_law 169 = .ok (.iadd, 1) := by decide +kernel
theorem d_Lw_law_170 : decode b_Lw_law 170 = .ok (.iaload, 1) := by decide +kernel
theorem d_Lw_law_171 : decode b_Lw_law 171 = .ok (.aload_n 0, 1) := by decide +kernel
theorem d_Lw_law_172 : decode b_Lw_law 172 = .ok (.iload 4, 2) := by decide +kernel
theorem d_Lw_law_174 : decode b_Lw_law 174 = .ok (.iconst 2, 1) := by decide +kernel
theorem d_Lw_law_175 : decode b_Lw_law 175 = .ok (.iadd, 1) := by decide +kernel
theorem d_Lw_law_176 : decode b_Lw_law 176 = .ok (.iaload, 1) := by decide +kernel
theorem d_Lw_law_177 : decode b_Lw_law 177 = .ok (.i2l, 1) := by decide +kernel
theorem d_Lw_law_178 : decode b_Lw_law 178 = .ok (.bipush 32, 2) := by decide +kernel
theorem d_Lw_law_180 : decode b_Lw_law 180 = .ok (.lshl, 1) := by decide +kernel
theorem d_Lw_law_181 : decode b_Lw_law 181 = .ok (.aload_n 0, 1) := by decide +kernel
theorem d_Lw_law_182 : decode b_Lw_law 182 = .ok (.iload 4, 2) := by decide +kernel
theorem d_Lw_law_184 : decode b_Lw_law 184 = .ok (.iconst 3, 1) := by decide +kernel
theorem d_Lw_law_185 : decode b_Lw_law 185 = .ok (.iadd, 1) := by decide +kernel
theorem d_Lw_law_186 : decode b_Lw_law 186 = .ok (.iaload, 1) := by decide +kernel
theorem d_Lw_law_187 : decode b_Lw_law 187 = .ok (.i2l, 1) := by decide +kernel
theorem d_Lw_law_188 : decode b_Lw_law 188 = .ok (.ldc2_w 78, 3) := by decide +kernel
theorem d_Lw_law_191 : decode b_Lw_law 191 = .ok (.land, 1) := by decide +kernel
theorem d_Lw_law_192 : decode b_Lw_law 192 = .ok (.lor, 1) := by decide +kernel
theorem d_Lw_law_193 : decode b_Lw_law 193 = .ok (.aload_n 0, 1) := by decide +kernel
theorem d_Lw_law_194 : decode b_Lw_law 194 = .ok (.iload 4, 2) := by decide +kernel
theorem d_Lw_law_196 : decode b_Lw_law 196 = .ok (.iconst 4, 1) := by decide +kernel
theorem d_Lw_law_197 : decode b_Lw_law 197 = .ok (.iadd, 1) := by decide +kernel
theorem d_Lw_law_198 : decode b_Lw_law 198 = .ok (.iaload, 1) := by decide +kernel
theorem d_Lw_law_199 : decode b_Lw_law 199 = .ok (.invokevirtual 85, 3) := by decide +kernel
theorem d_Lw_law_202 : decode b_Lw_law 202 = .ok (.goto 765, 3) := by decide +kernel
theorem d_Lw_law_205 : decode b_Lw_law 205 = .ok (.aload_n 1, 1) := by decide +kernel
theorem d_Lw_law_206 : decode b_Lw_law 206 = .ok (.aload_n 0, 1) := by decide +kernel
theorem d_Lw_law_207 : decode b_Lw_law 207 = .ok (.iload 4, 2) := by decide +kernel
theorem d_Lw_law_209 : decode b_Lw_law 209 = .ok (.iconst 1, 1) := by decide +kernel
theorem d_Lw_law_210 : decode b_Lw_law 210 = .ok (.iadd, 1) := by decide +kernel
theorem d_Lw_law_211 : decode b_Lw_law 211 = .ok (.iaload, 1) := by decide +kernel
theorem d_Lw_law_212 : decode b_Lw_law 212 = .ok (.aload_n 0, 1) := by decide +kernel
theorem d_Lw_law_213 : decode b_Lw_law 213 = .ok (.iload 4, 2) := by decide +kernel
theorem d_Lw_law_215 : decode b_Lw_law 215 = .ok (.iconst 2, 1) := by decide +kernel
theorem d_Lw_law_216 : decode b_Lw_law 216 = .ok (.iadd, 1) := by decide +kernel
theorem d_Lw_law_217 : decode b_Lw_law 217 = .ok (.iaload, 1) := by decide +kernel
theorem d_Lw_law_218 : decode b_Lw_law 218 = .ok (.i2l, 1) := by decide +kernel
theorem d_Lw_law_219 : decode b_Lw_law 219 = .ok (.bipush 32, 2) := by decide +kernel
theorem d_Lw_law_221 : decode b_Lw_law 221 = .ok (.lshl, 1) := by decide +kernel
theorem d_Lw_law_222 : decode b_Lw_law 222 = .ok (.aload_n 0, 1) := by decide +kernel
theorem d_Lw_law_223 : decode b_Lw_law 223 = .ok (.iload 4, 2) := by decide +kernel
theorem d_Lw_law_225 : decode b_Lw_law 225 = .ok (.iconst 3, 1) := by decide +kernel
theorem d_Lw_law_226 : decode b_Lw_law 226 = .ok (.iadd, 1) := by decide +kernel
theorem d_Lw_law_227 : decode b_Lw_law 227 = .ok (.iaload, 1) := by decide +kernel
theorem d_Lw_law_228 : decode b_Lw_law 228 = .ok (.i2l, 1) := by decide +kernel
theorem d_Lw_law_229 : decode b_Lw_law 229 = .ok (.ldc2_w 78, 3) := by decide +kernel
theorem d_Lw_law_232 : decode b_Lw_law 232 = .ok (.land, 1) := by decide +kernel
theorem d_Lw_law_233 : decode b_Lw_law 233 = .ok (.lor, 1) := by decide +kernel
theorem d_Lw_law_234 : decode b_Lw_law 234 = .ok (.aload_n 0, 1) := by decide +kernel
theorem d_Lw_law_235 : decode b_Lw_law 235 = .ok (.iload 4, 2) := by decide +kernel
theorem d_Lw_law_237 : decode b_Lw_law 237 = .ok (.iconst 4, 1) := by decide +kernel
theorem d_Lw_law_238 : decode b_Lw_law 238 = .ok (.iadd, 1) := by decide +kernel
theorem d_Lw_law_239 : decode b_Lw_law 239 = .ok (.iaload, 1) := by decide +kernel
theorem d_Lw_law_240 : decode b_Lw_law 240 = .ok (.aload_n 3, 1) := by decide +kernel
theorem d_Lw_law_241 : decode b_Lw_law 241 = .ok (.invokestatic 86, 3) := by decide +kernel
theorem d_Lw_law_244 : decode b_Lw_law 244 = .ok (.istore 5, 2) := by decide +kernel
theorem d_Lw_law_246 : decode b_Lw_law 246 = .ok (.aload_n 2, 1) := by decide +kernel
theorem d_Lw_law_247 : decode b_Lw_law 247 = .ok (.aload_n 0, 1) := by decide +kernel
theorem d_Lw_law_248 : decode b_Lw_law 248 = .ok (.iload 4, 2) := by decide +kernel
theorem d_Lw_law_250 : decode b_Lw_law 250 = .ok (.iconst 1, 1) := by decide +kernel
theorem d_Lw_law_251 : decode b_Lw_law 251 = .ok (.iadd, 1) := by decide +kernel
theorem d_Lw_law_252 : decode b_Lw_law 252 = .ok (.iaload, 1) := by decide +kernel
theorem d_Lw_law_253 : decode b_Lw_law 253 = .ok (.aload_n 0, 1) := by decide +kernel
theorem d_Lw_law_254 : decode b_Lw_law 254 = .ok (.iload 4, 2) := by decide +kernel
theorem d_Lw_law_256 : decode b_Lw_law 256 = .ok (.iconst 2, 1) := by decide +kernel
theorem d_Lw_law_257 : decode b_Lw_law 257 = .ok (.iadd, 1) := by decide +kernel
theorem d_Lw_law_258 : decode b_Lw_law 258 = .ok (.iaload, 1) := by decide +kernel
theorem d_Lw_law_259 : decode b_Lw_law 259 = .ok (.i2l, 1) := by decide +kernel
theorem d_Lw_law_260 : decode b_Lw_law 260 = .ok (.bipush 32, 2) := by decide +kernel
theorem d_Lw_law_262 : decode b_Lw_law 262 = .ok (.lshl, 1) := by decide +kernel
theorem d_Lw_law_263 : decode b_Lw_law 263 = .ok (.aload_n 0, 1) := by decide +kernel
theorem d_Lw_law_264 : decode b_Lw_law 264 = .ok (.iload 4, 2) := by decide +kernel
theorem d_Lw_law_266 : decode b_Lw_law 266 = .ok (.iconst 3, 1) := by decide +kernel
theorem d_Lw_law_267 : decode b_Lw_law 267 = .ok (.iadd, 1) := by decide +kernel
theorem d_Lw_law_268 : decode b_Lw_law 268 = .ok (.iaload, 1) := by decide +kernel
theorem d_Lw_law_269 : decode b_Lw_law 269 = .ok (.i2l, 1) := by decide +kernel
theorem d_Lw_law_270 : decode b_Lw_law 270 = .ok (.ldc2_w 78, 3) := by decide +kernel
theorem d_Lw_law_273 : decode b_Lw_law 273 = .ok (.land, 1) := by decide +kernel
theorem d_Lw_law_274 : decode b_Lw_law 274 = .ok (.lor, 1) := by decide +kernel
theorem d_Lw_law_275 : decode b_Lw_law 275 = .ok (.aload_n 0, 1) := by decide +kernel
theorem d_Lw_law_276 : decode b_Lw_law 276 = .ok (.iload 4, 2) := by decide +kernel
theorem d_Lw_law_278 : decode b_Lw_law 278 = .ok (.iconst 4, 1) := by decide +kernel
theorem d_Lw_law_279 : decode b_Lw_law 279 = .ok (.iadd, 1) := by decide +kernel
theorem d_Lw_law_280 : decode b_Lw_law 280 = .ok (.iaload, 1) := by decide +kernel
theorem d_Lw_law_281 : decode b_Lw_law 281 = .ok (.invokevirtual 89, 3) := by decide +kernel
theorem d_Lw_law_284 : decode b_Lw_law 284 = .ok (.istore 6, 2) := by decide +kernel
theorem d_Lw_law_286 : decode b_Lw_law 286 = .ok (.aload_n 2, 1) := by decide +kernel
theorem d_Lw_law_287 : decode b_Lw_law 287 = .ok (.invokevirtual 90, 3) := by decide +kernel
theorem d_Lw_law_290 : decode b_Lw_law 290 = .ok (.iload 5, 2) := by decide +kernel
theorem d_Lw_law_292 : decode b_Lw_law 292 = .ok (.if_icmp .eq 5, 3) := by decide +kernel
theorem d_Lw_law_297 : decode b_Lw_law 297 = .ok (.iload 5, 2) := by decide +kernel
theorem d_Lw_law_299 : decode b_Lw_law 299 = .ok (.ifCond .ne 22, 3) := by decide +kernel
theorem d_Lw_law_321 : decode b_Lw_law 321 = .ok (.goto 646, 3) := by decide +kernel
theorem d_Lw_law_302 : decode b_Lw_law 302 = .ok (.aload_n 3, 1) := by decide +kernel
theorem d_Lw_law_303 : decode b_Lw_law 303 = .ok (.iconst 0, 1) := by decide +kernel
theorem d_Lw_law_304 : decode b_Lw_law 304 = .ok (.laload, 1) := by decide +kernel
theorem d_Lw_law_305 : decode b_Lw_law 305 = .ok (.iload 6, 2) := by decide +kernel
theorem d_Lw_law_307 : decode b_Lw_law 307 = .ok (.ifCond .eq 7, 3) := by decide +kernel
theorem d_Lw_law_314 : decode b_Lw_law 314 = .ok (.lconst 0, 1) := by decide +kernel
theorem d_Lw_law_315 : decode b_Lw_law 315 = .ok (.lcmp, 1) := by decide +kernel
theorem d_Lw_law_316 : decode b_Lw_law 316 = .ok (.ifCond .eq 5, 3) := by decide +kernel
theorem d_Lw_law_310 : decode b_Lw_law 310 = .ok (.lconst 1, 1) := by decide +kernel
theorem d_Lw_law_311 : decode b_Lw_law 311 = .ok (.goto 4, 3) := by decide +kernel
theorem d_Lw_law_324 : decode b_Lw_law 324 = .ok (.aload_n 1, 1) := by decide +kernel
theorem d_Lw_law_325 : decode b_Lw_law 325 = .ok (.aload_n 0, 1) := by decide +kernel
theorem d_Lw_law_326 : decode b_Lw_law 326 = .ok (.iload 4, 2) := by decide +kernel
theorem d_Lw_law_328 : decode b_Lw_law 328 = .ok (.iconst 1, 1) := by decide +kernel
theorem d_Lw_law_329 : decode b_Lw_law 329 = .ok (.iadd, 1) := by decide +kernel
theorem d_Lw_law_330 : decode b_Lw_law 330 = .ok (.iaload, 1) := by decide +kernel
theorem d_Lw_law_331 : decode b_Lw_law 331 = .ok (.aload_n 0, 1) := by decide +kernel
theorem d_Lw_law_332 : decode b_Lw_law 332 = .ok (.iload 4, 2) := by decide +kernel
theorem d_Lw_law_334 : decode b_Lw_law 334 = .ok (.iconst 2, 1) := by decide +kernel
theorem d_Lw_law_335 : decode b_Lw_law 335 = .ok (.iadd, 1) := by decide +kernel
theorem d_Lw_law_336 : decode b_Lw_law 336 = .ok (.iaload, 1) := by decide +kernel
theorem d_Lw_law_337 : decode b_Lw_law 337 = .ok (.aload_n 0, 1) := by decide +kernel
theorem d_Lw_law_338 : decode b_Lw_law 338 = .ok (.iload 4, 2) := by decide +kernel
theorem d_Lw_law_340 : decode b_Lw_law 340 = .ok (.iconst 3, 1) := by decide +kernel
theorem d_Lw_law_341 : decode b_Lw_law 341 = .ok (.iadd, 1) := by decide +kernel
theorem d_Lw_law_342 : decode b_Lw_law 342 = .ok (.iaload, 1) := by decide +kernel
theorem d_Lw_law_343 : decode b_Lw_law 343 = .ok (.i2l, 1) := by decide +kernel
theorem d_Lw_law_344 : decode b_Lw_law 344 = .ok (.bipush 32, 2) := by decide +kernel
theorem d_Lw_law_346 : decode b_Lw_law 346 = .ok (.lshl, 1) := by decide +kernel
theorem d_Lw_law_347 : decode b_Lw_law 347 = .ok (.aload_n 0, 1) := by decide +kernel
theorem d_Lw_law_348 : decode b_Lw_law 348 = .ok (.iload 4, 2) := by decide +kernel
theorem d_Lw_law_350 : decode b_Lw_law 350 = .ok (.iconst 4, 1) := by decide +kernel
theorem d_Lw_law_351 : decode b_Lw_law 351 = .ok (.iadd, 1) := by decide +kernel
theorem d_Lw_law_352 : decode b_Lw_law 352 = .ok (.iaload, 1) := by decide +kernel
theorem d_Lw_law_353 : decode b_Lw_law 353 = .ok (.i2l, 1) := by decide +kernel
theorem d_Lw_law_354 : decode b_Lw_law 354 = .ok (.ldc2_w 78, 3) := by decide +kernel
theorem d_Lw_law_357 : decode b_Lw_law 357 = .ok (.land, 1) := by decide +kernel
theorem d_Lw_law_358 : decode b_Lw_law 358 = .ok (.lor, 1) := by decide +kernel
theorem d_Lw_law_359 : decode b_Lw_law 359 = .ok (.invokestatic 94, 3) := by decide +kernel
theorem d_Lw_law_362 : decode b_Lw_law 362 = .ok (.istore 5, 2) := by decide +kernel
theorem d_Lw_law_364 : decode b_Lw_law 364 = .ok (.aload_n 2, 1) := by decide +kernel
theorem d_Lw_law_365 : decode b_Lw_law 365 = .ok (.aload_n 0, 1) := by decide +kernel
theorem d_Lw_law_366 : decode b_Lw_law 366 = .ok (.iload 4, 2) := by decide +kernel
theorem d_Lw_law_368 : decode b_Lw_law 368 = .ok (.iconst 1, 1) := by decide +kernel
theorem d_Lw_law_369 : decode b_Lw_law 369 = .ok (.iadd, 1) := by decide +kernel
theorem d_Lw_law_370 : decode b_Lw_law 370 = .ok (.iaload, 1) := by decide +kernel
theorem d_Lw_law_371 : decode b_Lw_law 371 = .ok (.aload_n 0, 1) := by decide +kernel
theorem d_Lw_law_372 : decode b_Lw_law 372 = .ok (.iload 4, 2) := by decide +kernel
theorem d_Lw_law_374 : decode b_Lw_law 374 = .ok (.iconst 2, 1) := by decide +kernel
theorem d_Lw_law_375 : decode b_Lw_law 375 = .ok (.iadd, 1) := by decide +kernel
theorem d_Lw_law_376 : decode b_Lw_law 376 = .ok (.iaload, 1) := by decide +kernel
theorem d_Lw_law_377 : decode b_Lw_law 377 = .ok (.aload_n 0, 1) := by decide +kernel
theorem d_Lw_law_378 : decode b_Lw_law 378 = .ok (.iload 4, 2) := by decide +kernel
theorem d_Lw_law_380 : decode b_Lw_law 380 = .ok (.iconst 3, 1) := by decide +kernel
theorem d_Lw_law_381 : decode b_Lw_law 381 = .ok (.iadd, 1) := by decide +kernel
theorem d_Lw_law_382 : decode b_Lw_law 382 = .ok (.iaload, 1) := by decide +kernel
theorem d_Lw_law_383 : decode b_Lw_law 383 = .ok (.i2l, 1) := by decide +kernel
theorem d_Lw_law_384 : decode b_Lw_law 384 = .ok (.bipush 32, 2) := by decide +kernel
theorem d_Lw_law_386 : decode b_Lw_law 386 = .ok (.lshl, 1) := by decide +kernel
theorem d_Lw_law_387 : decode b_Lw_law 387 = .ok (.aload_n 0, 1) := by decide +kernel
theorem d_Lw_law_388 : decode b_Lw_law 388 = .ok (.iload 4, 2) := by decide +kernel
theorem d_Lw_law_390 : decode b_Lw_law 390 = .ok (.iconst 4, 1) := by decide +kernel
theorem d_Lw_law_391 : decode b_Lw_law 391 = .ok (.iadd, 1) := by decide +kernel
theorem d_Lw_law_392 : decode b_Lw_law 392 = .ok (.iaload, 1) := by decide +kernel
theorem d_Lw_law_393 : decode b_Lw_law 393 = .ok (.i2l, 1) := by decide +kernel
theorem d_Lw_law_394 : decode b_Lw_law 394 = .ok (.ldc2_w 78, 3) := by decide +kernel
theorem d_Lw_law_397 : decode b_Lw_law 397 = .ok (.land, 1) := by decide +kernel
theorem d_Lw_law_398 : decode b_Lw_law 398 = .ok (.lor, 1) := by decide +kernel
theorem d_Lw_law_399 : decode b_Lw_law 399 = .ok (.invokevirtual 97, 3) := by decide +kernel
theorem d_Lw_law_402 : decode b_Lw_law 402 = .ok (.goto 565, 3) := by decide +kernel
theorem d_Lw_law_405 : decode b_Lw_law 405 = .ok (.aload_n 1, 1) := by decide +kernel
theorem d_Lw_law_406 : decode b_Lw_law 406 = .ok (.aload_n 0, 1) := by decide +kernel
theorem d_Lw_law_407 : decode b_Lw_law 407 = .ok (.iload 4, 2) := by decide +kernel
theorem d_Lw_law_409 : decode b_Lw_law 409 = .ok (.iconst 1, 1) := by decide +kernel
theorem d_Lw_law_410 : decode b_Lw_law 410 = .ok (.iadd, 1) := by decide +kernel
theorem d_Lw_law_411 : decode b_Lw_law 411 = .ok (.iaload, 1) := by decide +kernel
theorem d_Lw_law_412 : decode b_Lw_law 412 = .ok (.aload_n 0, 1) := by decide +kernel
theorem d_Lw_law_413 : decode b_Lw_law 413 = .ok (.iload 4, 2) := by decide +kernel
theorem d_Lw_law_415 : decode b_Lw_law 415 = .ok (.iconst 2, 1) := by decide +kernel
theorem d_Lw_law_416 : decode b_Lw_law 416 = .ok (.iadd, 1) := by decide +kernel
theorem d_Lw_law_417 : decode b_Lw_law 417 = .ok (.iaload, 1) := by decide +kernel
theorem d_Lw_law_418 : decode b_Lw_law 418 = .ok (.aload_n 0, 1) := by decide +kernel
theorem d_Lw_law_419 : decode b_Lw_law 419 = .ok (.iload 4, 2) := by decide +kernel
theorem d_Lw_law_421 : decode b_Lw_law 421 = .ok (.iconst 3, 1) := by decide +kernel
theorem d_Lw_law_422 : decode b_Lw_law 422 = .ok (.iadd, 1) := by decide +kernel
theorem d_Lw_law_423 : decode b_Lw_law 423 = .ok (.iaload, 1) := by decide +kernel
theorem d_Lw_law_424 : decode b_Lw_law 424 = .ok (.aload_n 3, 1) := by decide +kernel
theorem d_Lw_law_425 : decode b_Lw_law 425 = .ok (.invokestatic 98, 3) := by decide +kernel
theorem d_Lw_law_428 : decode b_Lw_law 428 = .ok (.istore 5, 2) := by decide +kernel
theorem d_Lw_law_430 : decode b_Lw_law 430 = .ok (.aload_n 2, 1) := by decide +kernel
theorem d_Lw_law_431 : decode b_Lw_law 431 = .ok (.aload_n 0, 1) := by decide +kernel
theorem d_Lw_law_432 : decode b_Lw_law 432 = .ok (.iload 4, 2) := by decide +kernel
theorem d_Lw_law_434 : decode b_Lw_law 434 = .ok (.iconst 1, 1) := by decide +kernel
theorem d_Lw_law_435 : decode b_Lw_law 435 = .ok (.iadd, 1) := by decide +kernel
theorem d_Lw_law_436 : decode b_Lw_law 436 = .ok (.iaload, 1) := by decide +kernel
theorem d_Lw_law_437 : decode b_Lw_law 437 = .ok (.aload_n 0, 1) := by decide +kernel
theorem d_Lw_law_438 : decode b_Lw_law 438 = .ok (.iload 4, 2) := by decide +kernel
theorem d_Lw_law_440 : decode b_Lw_law 440 = .ok (.iconst 2, 1) := by decide +kernel
theorem d_Lw_law_441 : decode b_Lw_law 441 = .ok (.iadd, 1) := by decide +kernel
theorem d_Lw_law_442 : decode b_Lw_law 442 = .ok (.iaload, 1) := by decide +kernel
theorem d_Lw_law_443 : decode b_Lw_law 443 = .ok (.aload_n 0, 1) := by decide +kernel
theorem d_Lw_law_444 : decode b_Lw_law 444 = .ok (.iload 4, 2) := by decide +kernel
theorem d_Lw_law_446 : decode b_Lw_law 446 = .ok (.iconst 3, 1) := by decide +kernel
theorem d_Lw_law_447 : decode b_Lw_law 447 = .ok (.iadd, 1) := by decide +kernel
theorem d_Lw_law_448 : decode b_Lw_law 448 = .ok (.iaload, 1) := by decide +kernel
theorem d_Lw_law_449 : decode b_Lw_law 449 = .ok (.invokevirtual 101, 3) := by decide +kernel
theorem d_Lw_law_452 : decode b_Lw_law 452 = .ok (.istore 6, 2) := by decide +kernel
theorem d_Lw_law_454 : decode b_Lw_law 454 = .ok (.goto 513, 3) := by decide +kernel
theorem d_Lw_law_457 : decode b_Lw_law 457 = .ok (.aload_n 1, 1) := by decide +kernel
theorem d_Lw_law_458 : decode b_Lw_law 458 = .ok (.aload_n 0, 1) := by decide +kernel
theorem d_Lw_law_459 : decode b_Lw_law 459 = .ok (.iload 4, 2) := by decide +kernel
theorem d_Lw_law_461 : decode b_Lw_law 461 = .ok (.iconst 1, 1) := by decide +kernel
theorem d_Lw_law_462 : decode b_Lw_law 462 = .ok (.iadd, 1) := by decide +kernel
theorem d_Lw_law_463 : decode b_Lw_law 463 = .ok (.iaload, 1) := by decide +kernel
theorem d_Lw_law_464 : decode b_Lw_law 464 = .ok (.aload_n 0, 1) := by decide +kernel
theorem d_Lw_law_465 : decode b_Lw_law 465 = .ok (.iload 4, 2) := by decide +kernel
theorem d_Lw_law_467 : decode b_Lw_law 467 = .ok (.iconst 2, 1) := by decide +kernel
theorem d_Lw_law_468 : decode b_Lw_law 468 = .ok (.iadd, 1) := by decide +kernel
theorem d_Lw_law_469 : decode b_Lw_law 469 = .ok (.iaload, 1) := by decide +kernel
theorem d_Lw_law_470 : decode b_Lw_law 470 = .ok (.aload_n 3, 1) := by decide +kernel
theorem d_Lw_law_471 : decode b_Lw_law 471 = .ok (.invokestatic 102, 3) := by decide +kernel
theorem d_Lw_law_474 : decode b_Lw_law 474 = .ok (.istore 5, 2) := by decide +kernel
theorem d_Lw_law_476 : decode b_Lw_law 476 = .ok (.aload_n 2, 1) := by decide +kernel
theorem d_Lw_law_477 : decode b_Lw_law 477 = .ok (.aload_n 0, 1) := by decide +kernel
theorem d_Lw_law_478 : decode b_Lw_law 478 = .ok (.iload 4, 2) := by decide +kernel
theorem d_Lw_law_480 : decode b_Lw_law 480 = .ok (.iconst 1, 1) := by decide +kernel
theorem d_Lw_law_481 : decode b_Lw_law 481 = .ok (.iadd, 1) := by decide +kernel
theorem d_Lw_law_482 : decode b_Lw_law 482 = .ok (.iaload, 1) := by decide +kernel
theorem d_Lw_law_483 : decode b_Lw_law 483 = .ok (.aload_n 0, 1) := by decide +kernel
theorem d_Lw_law_484 : decode b_Lw_law 484 = .ok (.iload 4, 2) := by decide +kernel
theorem d_Lw_law_486 : decode b_Lw_law 486 = .ok (.iconst 2, 1) := by decide +kernel
theorem d_Lw_law_487 : decode b_Lw_law 487 = .ok (.iadd, 1) := by decide +kernel
theorem d_Lw_law_488 : decode b_Lw_law 488 = .ok (.iaload, 1) := by decide +kernel
theorem d_Lw_law_489 : decode b_Lw_law 489 = .ok (.invokevirtual 105, 3) := by decide +kernel
theorem d_Lw_law_492 : decode b_Lw_law 492 = .ok (.istore 6, 2) := by decide +kernel
theorem d_Lw_law_494 : decode b_Lw_law 494 = .ok (.goto 473, 3) := by decide +kernel
theorem d_Lw_law_497 : decode b_Lw_law 497 = .ok (.aload_n 1, 1) := by decide +kernel
theorem d_Lw_law_498 : decode b_Lw_law 498 = .ok (.aload_n 0, 1) := by decide +kernel
theorem d_Lw_law_499 : decode b_Lw_law 499 = .ok (.iload 4, 2) := by decide +kernel
theorem d_Lw_law_501 : decode b_Lw_law 501 = .ok (.iconst 1, 1) := by decide +kernel
theorem d_Lw_law_502 : decode b_Lw_law 502 = .ok (.iadd, 1) := by decide +kernel
theorem d_Lw_law_503 : decode b_Lw_law 503 = .ok (.iaload, 1) := by decide +kernel
theorem d_Lw_law_504 : decode b_Lw_law 504 = .ok (.aload_n 3, 1) := by decide +kernel
theorem d_Lw_law_505 : decode b_Lw_law 505 = .ok (.invokestatic 106, 3) := by decide +kernel
theorem d_Lw_law_508 : decode b_Lw_law 508 = .ok (.istore 5, 2) := by decide +kernel
theorem d_Lw_law_510 : decode b_Lw_law 510 = .ok (.aload_n 2, 1) := by decide +kernel
theorem d_Lw_law_511 : decode b_Lw_law 511 = .ok (.aload_n 0, 1) := by decide +kernel
theorem d_Lw_law_512 : decode b_Lw_law 512 = .ok (.iload 4, 2) := by decide +kernel
theorem d_Lw_law_514 : decode b_Lw_law 514 = .ok (.iconst 1, 1) := by decide +kernel
theorem d_Lw_law_515 : decode b_Lw_law 515 = .ok (.iadd, 1) := by decide +kernel
theorem d_Lw_law_516 : decode b_Lw_law 516 = .ok (.iaload, 1) := by decide +kernel
theorem d_Lw_law_517 : decode b_Lw_law 517 = .ok (.invokevirtual 109, 3) := by decide +kernel
theorem d_Lw_law_520 : decode b_Lw_law 520 = .ok (.istore 6, 2) := by decide +kernel
theorem d_Lw_law_522 : decode b_Lw_law 522 = .ok (.goto 445, 3) := by decide +kernel
theorem d_Lw_law_525 : decode b_Lw_law 525 = .ok (.aload_n 1, 1) := by decide +kernel
theorem d_Lw_law_526 : decode b_Lw_law 526 = .ok (.aload_n 0, 1) := by decide +kernel
theorem d_Lw_law_527 : decode b_Lw_law 527 = .ok (.iload 4, 2) := by decide +kernel
theorem d_Lw_law_529 : decode b_Lw_law 529 = .ok (.iconst 1, 1) := by decide +kernel
theorem d_Lw_law_530 : decode b_Lw_law 530 = .ok (.iadd, 1) := by decide +kernel
theorem d_Lw_law_531 : decode b_Lw_law 531 = .ok (.iaload, 1) := by decide +kernel
theorem d_Lw_law_532 : decode b_Lw_law 532 = .ok (.aload_n 0, 1) := by decide +kernel
theorem d_Lw_law_533 : decode b_Lw_law 533 = .ok (.iload 4, 2) := by decide +kernel
theorem d_Lw_law_535 : decode b_Lw_law 535 = .ok (.iconst 2, 1) := by decide +kernel
theorem d_Lw_law_536 : decode b_Lw_law 536 = .ok (.iadd, 1) := by decide +kernel
theorem d_Lw_law_537 : decode b_Lw_law 537 = .ok (.iaload, 1) := by decide +kernel
theorem d_Lw_law_538 : decode b_Lw_law 538 = .ok (.i2l, 1) := by decide +kernel
theorem d_Lw_law_539 : decode b_Lw_law 539 = .ok (.bipush 32, 2) := by decide +kernel
theorem d_Lw_law_541 : decode b_Lw_law 541 = .ok (.lshl, 1) := by decide +kernel
theorem d_Lw_law_542 : decode b_Lw_law 542 = .ok (.aload_n 0, 1) := by decide +kernel
theorem d_Lw_law_543 : decode b_Lw_law 543 = .ok (.iload 4, 2) := by decide +kernel
theorem d_Lw_law_545 : decode b_Lw_law 545 = .ok (.iconst 3, 1) := by decide +kernel
theorem d_Lw_law_546 : decode b_Lw_law 546 = .ok (.iadd, 1) := by decide +kernel
theorem d_Lw_law_547 : decode b_Lw_law 547 = .ok (.iaload, 1) := by decide +kernel
theorem d_Lw_law_548 : decode b_Lw_law 548 = .ok (.i2l, 1) := by decide +kernel
theorem d_Lw_law_549 : decode b_Lw_law 549 = .ok (.ldc2_w 78, 3) := by decide +kernel
theorem d_Lw_law_552 : decode b_Lw_law 552 = .ok (.land, 1) := by decide +kernel
theorem d_Lw_law_553 : decode b_Lw_law 553 = .ok (.lor, 1) := by decide +kernel
theorem d_Lw_law_554 : decode b_Lw_law 554 = .ok (.aload_n 0, 1) := by decide +kernel
theorem d_Lw_law_555 : decode b_Lw_law 555 = .ok (.iload 4, 2) := by decide +kernel
theorem d_Lw_law_557 : decode b_Lw_law 557 = .ok (.iconst 4, 1) := by decide +kernel
theorem d_Lw_law_558 : decode b_Lw_law 558 = .ok (.iadd, 1) := by decide +kernel
theorem d_Lw_law_559 : decode b_Lw_law 559 = .ok (.iaload, 1) := by decide +kernel
theorem d_Lw_law_560 : decode b_Lw_law 560 = .ok (.aload_n 3, 1) := by decide +kernel
theorem d_Lw_law_561 : decode b_Lw_law 561 = .ok (.invokestatic 110, 3) := by decide +kernel
theorem d_Lw_law_564 : decode b_Lw_law 564 = .ok (.istore 5, 2) := by decide +kernel
theorem d_Lw_law_566 : decode b_Lw_law 566 = .ok (.aload_n 2, 1) := by decide +kernel
theorem d_Lw_law_567 : decode b_Lw_law 567 = .ok (.aload_n 0, 1) := by decide +kernel
theorem d_Lw_law_568 : decode b_Lw_law 568 = .ok (.iload 4, 2) := by decide +kernel
theorem d_Lw_law_570 : decode b_Lw_law 570 = .ok (.iconst 1, 1) := by decide +kernel
theorem d_Lw_law_571 : decode b_Lw_law 571 = .ok (.iadd, 1) := by decide +kernel
theorem d_Lw_law_572 : decode b_Lw_law 572 = .ok (.iaload, 1) := by decide +kernel
theorem d_Lw_law_573 : decode b_Lw_law 573 = .ok (.aload_n 0, 1) := by decide +kernel
theorem d_Lw_law_574 : decode b_Lw_law 574 = .ok (.iload 4, 2) := by decide +kernel
theorem d_Lw_law_576 : decode b_Lw_law 576 = .ok (.iconst 2, 1) := by decide +kernel
theorem d_Lw_law_577 : decode b_Lw_law 577 = .ok (.iadd, 1) := by decide +kernel
theorem d_Lw_law_578 : decode b_Lw_law 578 = .ok (.iaload, 1) := by decide +kernel
theorem d_Lw_law_579 : decode b_Lw_law 579 = .ok (.i2l, 1) := by decide +kernel
theorem d_Lw_law_580 : decode b_Lw_law 580 = .ok (.bipush 32, 2) := by decide +kernel
theorem d_Lw_law_582 : decode b_Lw_law 582 = .ok (.lshl, 1) := by decide +kernel
theorem d_Lw_law_583 : decode b_Lw_law 583 = .ok (.aload_n 0, 1) := by decide +kernel
theorem d_Lw_law_584 : decode b_Lw_law 584 = .ok (.iload 4, 2) := by decide +kernel
theorem d_Lw_law_586 : decode b_Lw_law 586 = .ok (.iconst 3, 1) := by decide +kernel
theorem d_Lw_law_587 : decode b_Lw_law 587 = .ok (.iadd, 1) := by decide +kernel
theorem d_Lw_law_588 : decode b_Lw_law 588 = .ok (.iaload, 1) := by decide +kernel
theorem d_Lw_law_589 : decode b_Lw_law 589 = .ok (.i2l, 1) := by decide +kernel
theorem d_Lw_law_590 : decode b_Lw_law 590 = .ok (.ldc2_w 78, 3) := by decide +kernel
theorem d_Lw_law_593 : decode b_Lw_law 593 = .ok (.land, 1) := by decide +kernel
theorem d_Lw_law_594 : decode b_Lw_law 594 = .ok (.lor, 1) := by decide +kernel
theorem d_Lw_law_595 : decode b_Lw_law 595 = .ok (.aload_n 0, 1) := by decide +kernel
theorem d_Lw_law_596 : decode b_Lw_law 596 = .ok (.iload 4, 2) := by decide +kernel
theorem d_Lw_law_598 : decode b_Lw_law 598 = .ok (.iconst 4, 1) := by decide +kernel
theorem d_Lw_law_599 : decode b_Lw_law 599 = .ok (.iadd, 1) := by decide +kernel
theorem d_Lw_law_600 : decode b_Lw_law 600 = .ok (.iaload, 1) := by decide +kernel
theorem d_Lw_law_601 : decode b_Lw_law 601 = .ok (.invokevirtual 112, 3) := by decide +kernel
theorem d_Lw_law_604 : decode b_Lw_law 604 = .ok (.istore 6, 2) := by decide +kernel
theorem d_Lw_law_606 : decode b_Lw_law 606 = .ok (.goto 361, 3) := by decide +kernel
theorem d_Lw_law_609 : decode b_Lw_law 609 = .ok (.aload_n 1, 1) := by decide +kernel
theorem d_Lw_law_610 : decode b_Lw_law 610 = .ok (.aload_n 0, 1) := by decide +kernel
theorem d_Lw_law_611 : decode b_Lw_law 611 = .ok (.iload 4, 2) := by decide +kernel
theorem d_Lw_law_613 : decode b_Lw_law 613 = .ok (.iconst 1, 1) := by decide +kernel
theorem d_Lw_law_614 : decode b_Lw_law 614 = .ok (.iadd, 1) := by decide +kernel
theorem d_Lw_law_615 : decode b_Lw_law 615 = .ok (.iaload, 1) := by decide +kernel
theorem d_Lw_law_616 : decode b_Lw_law 616 = .ok (.aload_n 3, 1) := by decide +kernel
theorem d_Lw_law_617 : decode b_Lw_law 617 = .ok (.invokestatic 113, 3) := by decide +kernel
theorem d_Lw_law_620 : decode b_Lw_law 620 = .ok (.istore 5, 2) := by decide +kernel
theorem d_Lw_law_622 : decode b_Lw_law 622 = .ok (.aload_n 2, 1) := by decide +kernel
theorem d_Lw_law_623 : decode b_Lw_law 623 = .ok (.aload_n 0, 1) := by decide +kernel
theorem d_Lw_law_624 : decode b_Lw_law 624 = .ok (.iload 4, 2) := by decide +kernel
theorem d_Lw_law_626 : decode b_Lw_law 626 = .ok (.iconst 1, 1) := by decide +kernel
theorem d_Lw_law_627 : decode b_Lw_law 627 = .ok (.iadd, 1) := by decide +kernel
theorem d_Lw_law_628 : decode b_Lw_law 628 = .ok (.iaload, 1) := by decide +kernel
theorem d_Lw_law_629 : decode b_Lw_law 629 = .ok (.invokevirtual 115, 3) := by decide +kernel
theorem d_Lw_law_632 : decode b_Lw_law 632 = .ok (.istore 6, 2) := by decide +kernel
theorem d_Lw_law_634 : decode b_Lw_law 634 = .ok (.goto 333, 3) := by decide +kernel
theorem d_Lw_law_637 : decode b_Lw_law 637 = .ok (.aload_n 1, 1) := by decide +kernel
theorem d_Lw_law_638 : decode b_Lw_law 638 = .ok (.aload_n 0, 1) := by decide +kernel
theorem d_Lw_law_639 : decode b_Lw_law 639 = .ok (.iload 4, 2) := by decide +kernel
theorem d_Lw_law_641 : decode b_Lw_law 641 = .ok (.iconst 1, 1) := by decide +kernel
theorem d_Lw_law_642 : decode b_Lw_law 642 = .ok (.iadd, 1) := by decide +kernel
theorem d_Lw_law_643 : decode b_Lw_law 643 = .ok (.iaload, 1) := by decide +kernel
theorem d_Lw_law_644 : decode b_Lw_law 644 = .ok (.i2l, 1) := by decide +kernel
theorem d_Lw_law_645 : decode b_Lw_law 645 = .ok (.bipush 32, 2) := by decide +kernel
theorem d_Lw_law_647 : decode b_Lw_law 647 = .ok (.lshl, 1) := by decide +kernel
theorem d_Lw_law_648 : decode b_Lw_law 648 = .ok (.aload_n 0, 1) := by decide +kernel
theorem d_Lw_law_649 : decode b_Lw_law 649 = .ok (.iload 4, 2) := by decide +kernel
theorem d_Lw_law_651 : decode b_Lw_law 651 = .ok (.iconst 2, 1) := by decide +kernel
theorem d_Lw_law_652 : decode b_Lw_law 652 = .ok (.iadd, 1) := by decide +kernel
theorem d_Lw_law_653 : decode b_Lw_law 653 = .ok (.iaload, 1) := by decide +kernel
theorem d_Lw_law_654 : decode b_Lw_law 654 = .ok (.i2l, 1) := by decide +kernel
theorem d_Lw_law_655 : decode b_Lw_law 655 = .ok (.ldc2_w 78, 3) := by decide +kernel
theorem d_Lw_law_658 : decode b_Lw_law 658 = .ok (.land, 1) := by decide +kernel
theorem d_Lw_law_659 : decode b_Lw_law 659 = .ok (.lor, 1) := by decide +kernel
theorem d_Lw_law_660 : decode b_Lw_law 660 = .ok (.aload_n 0, 1) := by decide +kernel
theorem d_Lw_law_661 : decode b_Lw_law 661 = .ok (.iload 4, 2) := by decide +kernel
theorem d_Lw_law_663 : decode b_Lw_law 663 = .ok (.iconst 3, 1) := by decide +kernel
theorem d_Lw_law_664 : decode b_Lw_law 664 = .ok (.iadd, 1) := by decide +kernel
theorem d_Lw_law_665 : decode b_Lw_law 665 = .ok (.iaload, 1) := by decide +kernel
theorem d_Lw_law_666 : decode b_Lw_law 666 = .ok (.aload_n 3, 1) := by decide +kernel
theorem d_Lw_law_667 : decode b_Lw_law 667 = .ok (.invokestatic 116, 3) := by decide +kernel
theorem d_Lw_law_670 : decode b_Lw_law 670 = .ok (.istore 5, 2) := by decide +kernel
theorem d_Lw_law_672 : decode b_Lw_law 672 = .ok (.aload_n 2, 1) := by decide +kernel
theorem d_Lw_law_673 : decode b_Lw_law 673 = .ok (.aload_n 0, 1) := by decide +kernel
theorem d_Lw_law_674 : decode b_Lw_law 674 = .ok (.iload 4, 2) := by decide +kernel
theorem d_Lw_law_676 : decode b_Lw_law 676 = .ok (.iconst 1, 1) := by decide +kernel
theorem d_Lw_law_677 : decode b_Lw_law 677 = .ok (.iadd, 1) := by decide +kernel
theorem d_Lw_law_678 : decode b_Lw_law 678 = .ok (.iaload, 1) := by decide +kernel
theorem d_Lw_law_679 : decode b_Lw_law 679 = .ok (.i2l, 1) := by decide +kernel
theorem d_Lw_law_680 : decode b_Lw_law 680 = .ok (.bipush 32, 2) := by decide +kernel
theorem d_Lw_law_682 : decode b_Lw_law 682 = .ok (.lshl, 1) := by decide +kernel
theorem d_Lw_law_683 : decode b_Lw_law 683 = .ok (.aload_n 0, 1) := by decide +kernel
theorem d_Lw_law_684 : decode b_Lw_law 684 = .ok (.iload 4, 2) := by decide +kernel
theorem d_Lw_law_686 : decode b_Lw_law 686 = .ok (.iconst 2, 1) := by decide +kernel
theorem d_Lw_law_687 : decode b_Lw_law 687 = .ok (.iadd, 1) := by decide +kernel
theorem d_Lw_law_688 : decode b_Lw_law 688 = .ok (.iaload, 1) := by decide +kernel
theorem d_Lw_law_689 : decode b_Lw_law 689 = .ok (.i2l, 1) := by decide +kernel
theorem d_Lw_law_690 : decode b_Lw_law 690 = .ok (.ldc2_w 78, 3) := by decide +kernel
theorem d_Lw_law_693 : decode b_Lw_law 693 = .ok (.land, 1) := by decide +kernel
theorem d_Lw_law_694 : decode b_Lw_law 694 = .ok (.lor, 1) := by decide +kernel
theorem d_Lw_law_695 : decode b_Lw_law 695 = .ok (.aload_n 0, 1) := by decide +kernel
theorem d_Lw_law_696 : decode b_Lw_law 696 = .ok (.iload 4, 2) := by decide +kernel
theorem d_Lw_law_698 : decode b_Lw_law 698 = .ok (.iconst 3, 1) := by decide +kernel
theorem d_Lw_law_699 : decode b_Lw_law 699 = .ok (.iadd, 1) := by decide +kernel
theorem d_Lw_law_700 : decode b_Lw_law 700 = .ok (.iaload, 1) := by decide +kernel
theorem d_Lw_law_701 : decode b_Lw_law 701 = .ok (.invokevirtual 119, 3) := by decide +kernel
theorem d_Lw_law_704 : decode b_Lw_law 704 = .ok (.istore 6, 2) := by decide +kernel
theorem d_Lw_law_706 : decode b_Lw_law 706 = .ok (.goto 261, 3) := by decide +kernel
theorem d_Lw_law_709 : decode b_Lw_law 709 = .ok (.aload_n 1, 1) := by decide +kernel
theorem d_Lw_law_710 : decode b_Lw_law 710 = .ok (.aload_n 0, 1) := by decide +kernel
theorem d_Lw_law_711 : decode b_Lw_law 711 = .ok (.iload 4, 2) := by decide +kernel
theorem d_Lw_law_713 : decode b_Lw_law 713 = .ok (.iconst 1, 1) := by decide +kernel
theorem d_Lw_law_714 : decode b_Lw_law 714 = .ok (.iadd, 1) := by decide +kernel
theorem d_Lw_law_715 : decode b_Lw_law 715 = .ok (.iaload, 1) := by decide +kernel
theorem d_Lw_law_716 : decode b_Lw_law 716 = .ok (.aload_n 3, 1) := by decide +kernel
theorem d_Lw_law_717 : decode b_Lw_law 717 = .ok (.invokestatic 120, 3) := by decide +kernel
theorem d_Lw_law_720 : decode b_Lw_law 720 = .ok (.istore 5, 2) := by decide +kernel
theorem d_Lw_law_722 : decode b_Lw_law 722 = .ok (.aload_n 2, 1) := by decide +kernel
theorem d_Lw_law_723 : decode b_Lw_law 723 = .ok (.aload_n 0, 1) := by decide +kernel
theorem d_Lw_law_724 : decode b_Lw_law 724 = .ok (.iload 4, 2) := by decide +kernel
theorem d_Lw_law_726 : decode b_Lw_law 726 = .ok (.iconst 1, 1) := by decide +kernel
theorem d_Lw_law_727 : decode b_Lw_law 727 = .ok (.iadd, 1) := by decide +kernel
theorem d_Lw_law_728 : decode b_Lw_law 728 = .ok (.iaload, 1) := by decide +kernel
theorem d_Lw_law_729 : decode b_Lw_law 729 = .ok (.invokevirtual 122, 3) := by decide +kernel
theorem d_Lw_law_732 : decode b_Lw_law 732 = .ok (.istore 6, 2) := by decide +kernel
theorem d_Lw_law_734 : decode b_Lw_law 734 = .ok (.goto 233, 3) := by decide +kernel
theorem d_Lw_law_737 : decode b_Lw_law 737 = .ok (.aload_n 1, 1) := by decide +kernel
theorem d_Lw_law_738 : decode b_Lw_law 738 = .ok (.aload_n 0, 1) := by decide +kernel
theorem d_Lw_law_739 : decode b_Lw_law 739 = .ok (.iload 4, 2) := by decide +kernel
theorem d_Lw_law_741 : decode b_Lw_law 741 = .ok (.iconst 1, 1) := by decide +kernel
theorem d_Lw_law_742 : decode b_Lw_law 742 = .ok (.iadd, 1) := by decide +kernel
theorem d_Lw_law_743 : decode b_Lw_law 743 = .ok (.iaload, 1) := by decide +kernel
theorem d_Lw_law_744 : decode b_Lw_law 744 = .ok (.invokestatic 123, 3) := by decide +kernel
theorem d_Lw_law_747 : decode b_Lw_law 747 = .ok (.istore 5, 2) := by decide +kernel
theorem d_Lw_law_749 : decode b_Lw_law 749 = .ok (.aload_n 2, 1) := by decide +kernel
theorem d_Lw_law_750 : decode b_Lw_law 750 = .ok (.aload_n 0, 1) := by decide +kernel
theorem d_Lw_law_751 : decode b_Lw_law 751 = .ok (.iload 4, 2) := by decide +kernel
theorem d_Lw_law_753 : decode b_Lw_law 753 = .ok (.iconst 1, 1) := by decide +kernel
theorem d_Lw_law_754 : decode b_Lw_law 754 = .ok (.iadd, 1) := by decide +kernel
theorem d_Lw_law_755 : decode b_Lw_law 755 = .ok (.iaload, 1) := by decide +kernel
theorem d_Lw_law_756 : decode b_Lw_law 756 = .ok (.invokevirtual 126, 3) := by decide +kernel
theorem d_Lw_law_759 : decode b_Lw_law 759 = .ok (.goto 208, 3) := by decide +kernel
theorem d_Lw_law_762 : decode b_Lw_law 762 = .ok (.aload_n 1, 1) := by decide +kernel
theorem d_Lw_law_763 : decode b_Lw_law 763 = .ok (.aload_n 0, 1) := by decide +kernel
theorem d_Lw_law_764 : decode b_Lw_law 764 = .ok (.iload 4, 2) := by decide +kernel
theorem d_Lw_law_766 : decode b_Lw_law 766 = .ok (.iconst 1, 1) := by decide +kernel
theorem d_Lw_law_767 : decode b_Lw_law 767 = .ok (.iadd, 1) := by decide +kernel
theorem d_Lw_law_768 : decode b_Lw_law 768 = .ok (.iaload, 1) := by decide +kernel
theorem d_Lw_law_769 : decode b_Lw_law 769 = .ok (.aload_n 0, 1) := by decide +kernel
theorem d_Lw_law_770 : decode b_Lw_law 770 = .ok (.iload 4, 2) := by decide +kernel
theorem d_Lw_law_772 : decode b_Lw_law 772 = .ok (.iconst 2, 1) := by decide +kernel
theorem d_Lw_law_773 : decode b_Lw_law 773 = .ok (.iadd, 1) := by decide +kernel
theorem d_Lw_law_774 : decode b_Lw_law 774 = .ok (.iaload, 1) := by decide +kernel
theorem d_Lw_law_775 : decode b_Lw_law 775 = .ok (.aload_n 3, 1) := by decide +kernel
theorem d_Lw_law_776 : decode b_Lw_law 776 = .ok (.invokestatic 127, 3) := by decide +kernel
theorem d_Lw_law_779 : decode b_Lw_law 779 = .ok (.istore 5, 2) := by decide +kernel
theorem d_Lw_law_781 : decode b_Lw_law 781 = .ok (.aload_n 2, 1) := by decide +kernel
theorem d_Lw_law_782 : decode b_Lw_law 782 = .ok (.aload_n 0, 1) := by decide +kernel
theorem d_Lw_law_783 : decode b_Lw_law 783 = .ok (.iload 4, 2) := by decide +kernel
theorem d_Lw_law_785 : decode b_Lw_law 785 = .ok (.iconst 1, 1) := by decide +kernel
theorem d_Lw_law_786 : decode b_Lw_law 786 = .ok (.iadd, 1) := by decide +kernel
theorem d_Lw_law_787 : decode b_Lw_law 787 = .ok (.iaload, 1) := by decide +kernel
theorem d_Lw_law_788 : decode b_Lw_law 788 = .ok (.aload_n 0, 1) := by decide +kernel
theorem d_Lw_law_789 : decode b_Lw_law 789 = .ok (.iload 4, 2) := by decide +kernel
theorem d_Lw_law_791 : decode b_Lw_law 791 = .ok (.iconst 2, 1) := by decide +kernel
theorem d_Lw_law_792 : decode b_Lw_law 792 = .ok (.iadd, 1) := by decide +kernel
theorem d_Lw_law_793 : decode b_Lw_law 793 = .ok (.iaload, 1) := by decide +kernel
theorem d_Lw_law_794 : decode b_Lw_law 794 = .ok (.invokevirtual 129, 3) := by decide +kernel
theorem d_Lw_law_797 : decode b_Lw_law 797 = .ok (.istore 6, 2) := by decide +kernel
theorem d_Lw_law_799 : decode b_Lw_law 799 = .ok (.goto 168, 3) := by decide +kernel
theorem d_Lw_law_802 : decode b_Lw_law 802 = .ok (.aload_n 1, 1) := by decide +kernel
theorem d_Lw_law_803 : decode b_Lw_law 803 = .ok (.aload_n 0, 1) := by decide +kernel
theorem d_Lw_law_804 : decode b_Lw_law 804 = .ok (.iload 4, 2) := by decide +kernel
theorem d_Lw_law_806 : decode b_Lw_law 806 = .ok (.iconst 1, 1) := by decide +kernel
theorem d_Lw_law_807 : decode b_Lw_law 807 = .ok (.iadd, 1) := by decide +kernel
theorem d_Lw_law_808 : decode b_Lw_law 808 = .ok (.iaload, 1) := by decide +kernel
theorem d_Lw_law_809 : decode b_Lw_law 809 = .ok (.aload_n 3, 1) := by decide +kernel
theorem d_Lw_law_810 : decode b_Lw_law 810 = .ok (.invokestatic 130, 3) := by decide +kernel
theorem d_Lw_law_813 : decode b_Lw_law 813 = .ok (.istore 5, 2) := by decide +kernel
theorem d_Lw_law_815 : decode b_Lw_law 815 = .ok (.aload_n 2, 1) := by decide +kernel
theorem d_Lw_law_816 : decode b_Lw_law 816 = .ok (.aload_n 0, 1) := by decide +kernel
theorem d_Lw_law_817 : decode b_Lw_law 817 = .ok (.iload 4, 2) := by decide +kernel
theorem d_Lw_law_819 : decode b_Lw_law 819 = .ok (.iconst 1, 1) := by decide +kernel
theorem d_Lw_law_820 : decode b_Lw_law 820 = .ok (.iadd, 1) := by decide +kernel
theorem d_Lw_law_821 : decode b_Lw_law 821 = .ok (.iaload, 1) := by decide +kernel
theorem d_Lw_law_822 : decode b_Lw_law 822 = .ok (.invokevirtual 132, 3) := by decide +kernel
theorem d_Lw_law_825 : decode b_Lw_law 825 = .ok (.istore 6, 2) := by decide +kernel
theorem d_Lw_law_827 : decode b_Lw_law 827 = .ok (.goto 140, 3) := by decide +kernel
theorem d_Lw_law_830 : decode b_Lw_law 830 = .ok (.aload_n 1, 1) := by decide +kernel
theorem d_Lw_law_831 : decode b_Lw_law 831 = .ok (.invokevirtual 133, 3) := by decide +kernel
theorem d_Lw_law_834 : decode b_Lw_law 834 = .ok (.pop, 1) := by decide +kernel
theorem d_Lw_law_835 : decode b_Lw_law 835 = .ok (.aload_n 2, 1) := by decide +kernel
theorem d_Lw_law_836 : decode b_Lw_law 836 = .ok (.invokevirtual 136, 3) := by decide +kernel
theorem d_Lw_law_839 : decode b_Lw_law 839 = .ok (.pop, 1) := by decide +kernel
theorem d_Lw_law_840 : decode b_Lw_law 840 = .ok (.goto 127, 3) := by decide +kernel
theorem d_Lw_law_843 : decode b_Lw_law 843 = .ok (.aload_n 1, 1) := by decide +kernel
theorem d_Lw_law_844 : decode b_Lw_law 844 = .ok (.aload_n 0, 1) := by decide +kernel
theorem d_Lw_law_845 : decode b_Lw_law 845 = .ok (.iload 4, 2) := by decide +kernel
theorem d_Lw_law_847 : decode b_Lw_law 847 = .ok (.iconst 1, 1) := by decide +kernel
theorem d_Lw_law_848 : decode b_Lw_law 848 = .ok (.iadd, 1) := by decide +kernel
theorem d_Lw_law_849 : decode b_Lw_law 849 = .ok (.iaload, 1) := by decide +kernel
theorem d_Lw_law_850 : decode b_Lw_law 850 = .ok (.aload_n 3, 1) := by decide +kernel
theorem d_Lw_law_851 : decode b_Lw_law 851 = .ok (.invokestatic 137, 3) := by decide +kernel
theorem d_Lw_law_854 : decode b_Lw_law 854 = .ok (.istore 5, 2) := by decide +kernel
theorem d_Lw_law_856 : decode b_Lw_law 856 = .ok (.aload_n 2, 1) := by decide +kernel
theorem d_Lw_law_857 : decode b_Lw_law 857 = .ok (.aload_n 0, 1) := by decide +kernel
theorem d_Lw_law_858 : decode b_Lw_law 858 = .ok (.iload 4, 2) := by decide +kernel
theorem d_Lw_law_860 : decode b_Lw_law 860 = .ok (.iconst 1, 1) := by decide +kernel
theorem d_Lw_law_861 : decode b_Lw_law 861 = .ok (.iadd, 1) := by decide +kernel
theorem d_Lw_law_862 : decode b_Lw_law 862 = .ok (.iaload, 1) := by decide +kernel
theorem d_Lw_law_863 : decode b_Lw_law 863 = .ok (.invokevirtual 139, 3) := by decide +kernel
theorem d_Lw_law_866 : decode b_Lw_law 866 = .ok (.istore 6, 2) := by decide +kernel
theorem d_Lw_law_868 : decode b_Lw_law 868 = .ok (.goto 99, 3) := by decide +kernel
theorem d_Lw_law_871 : decode b_Lw_law 871 = .ok (.aload_n 1, 1) := by decide +kernel
theorem d_Lw_law_872 : decode b_Lw_law 872 = .ok (.aload_n 0, 1) := by decide +kernel
theorem d_Lw_law_873 : decode b_Lw_law 873 = .ok (.iload 4, 2) := by decide +kernel
theorem d_Lw_law_875 : decode b_Lw_law 875 = .ok (.iconst 1, 1) := by decide +kernel
theorem d_Lw_law_876 : decode b_Lw_law 876 = .ok (.iadd, 1) := by decide +kernel
theorem d_Lw_law_877 : decode b_Lw_law 877 = .ok (.iaload, 1) := by decide +kernel
theorem d_Lw_law_878 : decode b_Lw_law 878 = .ok (.aload_n 3, 1) := by decide +kernel
theorem d_Lw_law_879 : decode b_Lw_law 879 = .ok (.invokestatic 140, 3) := by decide +kernel
theorem d_Lw_law_882 : decode b_Lw_law 882 = .ok (.istore 5, 2) := by decide +kernel
theorem d_Lw_law_884 : decode b_Lw_law 884 = .ok (.aload_n 2, 1) := by decide +kernel
theorem d_Lw_law_885 : decode b_Lw_law 885 = .ok (.aload_n 0, 1) := by decide +kernel
theorem d_Lw_law_886 : decode b_Lw_law 886 = .ok (.iload 4, 2) := by decide +kernel
theorem d_Lw_law_888 : decode b_Lw_law 888 = .ok (.iconst 1, 1) := by decide +kernel
theorem d_Lw_law_889 : decode b_Lw_law 889 = .ok (.iadd, 1) := by decide +kernel
theorem d_Lw_law_890 : decode b_Lw_law 890 = .ok (.iaload, 1) := by decide +kernel
theorem d_Lw_law_891 : decode b_Lw_law 891 = .ok (.invokevirtual 142, 3) := by decide +kernel
theorem d_Lw_law_894 : decode b_Lw_law 894 = .ok (.istore 6, 2) := by decide +kernel
theorem d_Lw_law_896 : decode b_Lw_law 896 = .ok (.goto 71, 3) := by decide +kernel
theorem d_Lw_law_899 : decode b_Lw_law 899 = .ok (.aload_n 1, 1) := by decide +kernel
theorem d_Lw_law_900 : decode b_Lw_law 900 = .ok (.aload_n 0, 1) := by decide +kernel
theorem d_Lw_law_901 : decode b_Lw_law 901 = .ok (.iload 4, 2) := by decide +kernel
theorem d_Lw_law_903 : decode b_Lw_law 903 = .ok (.iconst 1, 1) := by decide +kernel
theorem d_Lw_law_904 : decode b_Lw_law 904 = .ok (.iadd, 1) := by decide +kernel
theorem d_Lw_law_905 : decode b_Lw_law 905 = .ok (.iaload, 1) := by decide +kernel
theorem d_Lw_law_906 : decode b_Lw_law 906 = .ok (.aload_n 3, 1) := by decide +kernel
theorem d_Lw_law_907 : decode b_Lw_law 907 = .ok (.invokestatic 143, 3) := by decide +kernel
theorem d_Lw_law_910 : decode b_Lw_law 910 = .ok (.istore 5, 2) := by decide +kernel
theorem d_Lw_law_912 : decode b_Lw_law 912 = .ok (.aload_n 2, 1) := by decide +kernel
theorem d_Lw_law_913 : decode b_Lw_law 913 = .ok (.aload_n 0, 1) := by decide +kernel
theorem d_Lw_law_914 : decode b_Lw_law 914 = .ok (.iload 4, 2) := by decide +kernel
theorem d_Lw_law_916 : decode b_Lw_law 916 = .ok (.iconst 1, 1) := by decide +kernel
theorem d_Lw_law_917 : decode b_Lw_law 917 = .ok (.iadd, 1) := by decide +kernel
theorem d_Lw_law_918 : decode b_Lw_law 918 = .ok (.iaload, 1) := by decide +kernel
theorem d_Lw_law_919 : decode b_Lw_law 919 = .ok (.invokevirtual 145, 3) := by decide +kernel
theorem d_Lw_law_922 : decode b_Lw_law 922 = .ok (.istore 6, 2) := by decide +kernel
theorem d_Lw_law_924 : decode b_Lw_law 924 = .ok (.goto 43, 3) := by decide +kernel
theorem d_Lw_law_927 : decode b_Lw_law 927 = .ok (.aload_n 1, 1) := by decide +kernel
theorem d_Lw_law_928 : decode b_Lw_law 928 = .ok (.aload_n 0, 1) := by decide +kernel
theorem d_Lw_law_929 : decode b_Lw_law 929 = .ok (.iload 4, 2) := by decide +kernel
theorem d_Lw_law_931 : decode b_Lw_law 931 = .ok (.iconst 1, 1) := by decide +kernel
theorem d_Lw_law_932 : decode b_Lw_law 932 = .ok (.iadd, 1) := by decide +kernel
theorem d_Lw_law_933 : decode b_Lw_law 933 = .ok (.iaload, 1) := by decide +kernel
theorem d_Lw_law_934 : decode b_Lw_law 934 = .ok (.aload_n 0, 1) := by decide +kernel
theorem d_Lw_law_935 : decode b_Lw_law 935 = .ok (.iload 4, 2) := by decide +kernel
theorem d_Lw_law_937 : decode b_Lw_law 937 = .ok (.iconst 2, 1) := by decide +kernel
theorem d_Lw_law_938 : decode b_Lw_law 938 = .ok (.iadd, 1) := by decide +kernel
theorem d_Lw_law_939 : decode b_Lw_law 939 = .ok (.iaload, 1) := by decide +kernel
theorem d_Lw_law_940 : decode b_Lw_law 940 = .ok (.aload_n 3, 1) := by decide +kernel
theorem d_Lw_law_941 : decode b_Lw_law 941 = .ok (.invokestatic 146, 3) := by decide +kernel
theorem d_Lw_law_944 : decode b_Lw_law 944 = .ok (.istore 5, 2) := by decide +kernel
theorem d_Lw_law_946 : decode b_Lw_law 946 = .ok (.aload_n 2, 1) := by decide +kernel
theorem d_Lw_law_947 : decode b_Lw_law 947 = .ok (.aload_n 0, 1) := by decide +kernel
theorem d_Lw_law_948 : decode b_Lw_law 948 = .ok (.iload 4, 2) := by decide +kernel
theorem d_Lw_law_950 : decode b_Lw_law 950 = .ok (.iconst 1, 1) := by decide +kernel
theorem d_Lw_law_951 : decode b_Lw_law 951 = .ok (.iadd, 1) := by decide +kernel
theorem d_Lw_law_952 : decode b_Lw_law 952 = .ok (.iaload, 1) := by decide +kernel
theorem d_Lw_law_953 : decode b_Lw_law 953 = .ok (.aload_n 0, 1) := by decide +kernel
theorem d_Lw_law_954 : decode b_Lw_law 954 = .ok (.iload 4, 2) := by decide +kernel
theorem d_Lw_law_956 : decode b_Lw_law 956 = .ok (.iconst 2, 1) := by decide +kernel
theorem d_Lw_law_957 : decode b_Lw_law 957 = .ok (.iadd, 1) := by decide +kernel
theorem d_Lw_law_958 : decode b_Lw_law 958 = .ok (.iaload, 1) := by decide +kernel
theorem d_Lw_law_959 : decode b_Lw_law 959 = .ok (.invokevirtual 148, 3) := by decide +kernel
theorem d_Lw_law_962 : decode b_Lw_law 962 = .ok (.lstore 6, 2) := by decide +kernel
theorem d_Lw_law_964 : decode b_Lw_law 964 = .ok (.goto 3, 3) := by decide +kernel
theorem lw_same {P : Prop} {a k : Int32} (h : (a = 0 ∧ P) ∨ (a = 1 ∧ ¬ P)) (h2 : (k = 0 ∧ P) ∨ (k = 1 ∧ ¬ P)) : a = k := by
  rcases h with ⟨h, hp⟩ | ⟨h, hp⟩ <;> rcases h2 with ⟨h2, hq⟩ | ⟨h2, hq⟩
  · rw [h, h2]
  · exact absurd hp hq
  · exact absurd hq hp
  · rw [h, h2]
