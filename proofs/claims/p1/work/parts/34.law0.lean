theorem d_Lw_law_124 : decode b_Lw_law 124 = .ok (.aload_n 1, 1) := by decide +kernel
theorem d_Lw_law_125 : decode b_Lw_law 125 = .ok (.aload_n 0, 1) := by decide +kernel
theorem d_Lw_law_126 : decode b_Lw_law 126 = .ok (.iload 4, 2) := by decide +kernel
theorem d_Lw_law_128 : decode b_Lw_law 128 = .ok (.iconst 1, 1) := by decide +kernel
theorem d_Lw_law_129 : decode b_Lw_law 129 = .ok (.iadd, 1) := by decide +kernel
theorem d_Lw_law_130 : decode b_Lw_law 130 = .ok (.iaload, 1) := by decide +kernel
theorem d_Lw_law_131 : decode b_Lw_law 131 = .ok (.aload_n 0, 1) := by decide +kernel
theorem d_Lw_law_132 : decode b_Lw_law 132 = .ok (.iload 4, 2) := by decide +kernel
theorem d_Lw_law_134 : decode b_Lw_law 134 = .ok (.iconst 2, 1) := by decide +kernel
theorem d_Lw_law_135 : decode b_Lw_law 135 = .ok (.iadd, 1) := by decide +kernel
theorem d_Lw_law_136 : decode b_Lw_law 136 = .ok (.iaload, 1) := by decide +kernel
theorem d_Lw_law_137 : decode b_Lw_law 137 = .ok (.i2l, 1) := by decide +kernel
theorem d_Lw_law_138 : decode b_Lw_law 138 = .ok (.bipush 32, 2) := by decide +kernel
theorem d_Lw_law_140 : decode b_Lw_law 140 = .ok (.lshl, 1) := by decide +kernel
theorem d_Lw_law_141 : decode b_Lw_law 141 = .ok (.aload_n 0, 1) := by decide +kernel
theorem d_Lw_law_142 : decode b_Lw_law 142 = .ok (.iload 4, 2) := by decide +kernel
theorem d_Lw_law_144 : decode b_Lw_law 144 = .ok (.iconst 3, 1) := by decide +kernel
theorem d_Lw_law_145 : decode b_Lw_law 145 = .ok (.iadd, 1) := by decide +kernel
theorem d_Lw_law_146 : decode b_Lw_law 146 = .ok (.iaload, 1) := by decide +kernel
theorem d_Lw_law_147 : decode b_Lw_law 147 = .ok (.i2l, 1) := by decide +kernel
theorem d_Lw_law_148 : decode b_Lw_law 148 = .ok (.ldc2_w 78, 3) := by decide +kernel
theorem d_Lw_law_151 : decode b_Lw_law 151 = .ok (.land, 1) := by decide +kernel
theorem d_Lw_law_152 : decode b_Lw_law 152 = .ok (.lor, 1) := by decide +kernel
theorem d_Lw_law_153 : decode b_Lw_law 153 = .ok (.aload_n 0, 1) := by decide +kernel
theorem d_Lw_law_154 : decode b_Lw_law 154 = .ok (.iload 4, 2) := by decide +kernel
theorem d_Lw_law_156 : decode b_Lw_law 156 = .ok (.iconst 4, 1) := by decide +kernel
theorem d_Lw_law_157 : decode b_Lw_law 157 = .ok (.iadd, 1) := by decide +kernel
theorem d_Lw_law_158 : decode b_Lw_law 158 = .ok (.iaload, 1) := by decide +kernel
theorem d_Lw_law_159 : decode b_Lw_law 159 = .ok (.invokestatic 80, 3) := by decide +kernel
theorem d_Lw_law_162 : decode b_Lw_law 162 = .ok (.istore 5, 2) := by decide +kernel
theorem d_Lw_law_164 : decode b_Lw_law 164 = .ok (.aload_n 2, 1) := by decide +kernel
theorem d_Lw_law_165 : decode b_Lw_law 165 = .ok (.aload_n 0, 1) := by decide +kernel
theorem d_Lw_law_166 : decode b_Lw_law 166 = .ok (.iload 4, 2) := by decide +kernel
theorem d_Lw_law_168 : decode b_Lw_law 168 = .ok (.iconst 1, 1) := by decide +kernel
theorem d_Lw_law_169 : decode b_Lw_law 169 = .ok (.iadd, 1) := by decide +kernel
theorem d_Lw_law_170 : decode b_Lw_law 170 = .ok (.iaload, 1) := by decide +kernel
theorem d_Lw_law_171 : decode b_Lw_law 171 = .ok (.aload_n 0, 1) := by decide +kernel
theorem d_Lw_law_172 : decode b_Lw_law 172 = .ok (.iload 4, 2) := by decide +kernel
theorem d_Lw_law_174 : decode b_Lw_law 174 = .ok (.iconst 2, 1) := by decide +kernel
theorem d_Lw_law_175 : decode b_Lw_law 175 = .ok (.iadd, 1) := by decide +kernel
theorem d_Lw_law_176 : decode b_Lw_law 176 = .ok (.iaload, 1) := by decide +kernel
theorem d_Lw_law_177 : decode b_Lw_law 177 = .ok (.i2l, 1) := by decide +kernel
theorem d_Lw_law_178 : decode b_Lw_law 178 = .ok (.bipush 32, 2) := by decide +kernel
theorem d_Lw_law_180 : decode b_Lw_law 180 = .ok (.lshl, 1) := by decide +kernel
theorem d_Lw_law_181 : decode b_Lw_law 181 = .ok (.aload_n 0, 1) := by decide +kernel
theorem d_Lw_law_182 : decode b_Lw_law 182 = .ok (.iload 4, 2) := by decide +kernel
theorem d_Lw_law_184 : decode b_Lw_law 184 = .ok (.iconst 3, 1) := by decide +kernel
theorem d_Lw_law_185 : decode b_Lw_law 185 = .ok (.iadd, 1) := by decide +kernel
theorem d_Lw_law_186 : decode b_Lw_law 186 = .ok (.iaload, 1) := by decide +kernel
theorem d_Lw_law_187 : decode b_Lw_law 187 = .ok (.i2l, 1) := by decide +kernel
theorem d_Lw_law_188 : decode b_Lw_law 188 = .ok (.ldc2_w 78, 3) := by decide +kernel
theorem d_Lw_law_191 : decode b_Lw_law 191 = .ok (.land, 1) := by decide +kernel
theorem d_Lw_law_192 : decode b_Lw_law 192 = .ok (.lor, 1) := by decide +kernel
theorem d_Lw_law_193 : decode b_Lw_law 193 = .ok (.aload_n 0, 1) := by decide +kernel
theorem d_Lw_law_194 : decode b_Lw_law 194 = .ok (.iload 4, 2) := by decide +kernel
theorem d_Lw_law_196 : decode b_Lw_law 196 = .ok (.iconst 4, 1) := by decide +kernel
theorem d_Lw_law_197 : decode b_Lw_law 197 = .ok (.iadd, 1) := by decide +kernel
theorem d_Lw_law_198 : decode b_Lw_law 198 = .ok (.iaload, 1) := by decide +kernel
theorem d_Lw_law_199 : decode b_Lw_law 199 = .ok (.invokevirtual 85, 3) := by decide +kernel
theorem d_Lw_law_202 : decode b_Lw_law 202 = .ok (.aload_n 2, 1) := by decide +kernel
theorem d_Lw_law_203 : decode b_Lw_law 203 = .ok (.invokevirtual 86, 3) := by decide +kernel
theorem d_Lw_law_206 : decode b_Lw_law 206 = .ok (.iload 5, 2) := by decide +kernel
theorem d_Lw_law_208 : decode b_Lw_law 208 = .ok (.if_icmp .eq 5, 3) := by decide +kernel
theorem d_Lw_law_213 : decode b_Lw_law 213 = .ok (.goto 1150, 3) := by decide +kernel
theorem d_Lw_law_216 : decode b_Lw_law 216 = .ok (.aload_n 1, 1) := by decide +kernel
theorem d_Lw_law_217 : decode b_Lw_law 217 = .ok (.aload_n 0, 1) := by decide +kernel
theorem d_Lw_law_218 : decode b_Lw_law 218 = .ok (.iload 4, 2) := by decide +kernel
theorem d_Lw_law_220 : decode b_Lw_law 220 = .ok (.iconst 1, 1) := by decide +kernel
theorem d_Lw_law_221 : decode b_Lw_law 221 = .ok (.iadd, 1) := by decide +kernel
theorem d_Lw_law_222 : decode b_Lw_law 222 = .ok (.iaload, 1) := by decide +kernel
theorem d_Lw_law_223 : decode b_Lw_law 223 = .ok (.aload_n 0, 1) := by decide +kernel
theorem d_Lw_law_224 : decode b_Lw_law 224 = .ok (.iload 4, 2) := by decide +kernel
theorem d_Lw_law_226 : decode b_Lw_law 226 = .ok (.iconst 2, 1) := by decide +kernel
theorem d_Lw_law_227 : decode b_Lw_law 227 = .ok (.iadd, 1) := by decide +kernel
theorem d_Lw_law_228 : decode b_Lw_law 228 = .ok (.iaload, 1) := by decide +kernel
theorem d_Lw_law_229 : decode b_Lw_law 229 = .ok (.i2l, 1) := by decide +kernel
theorem d_Lw_law_230 : decode b_Lw_law 230 = .ok (.bipush 32, 2) := by decide +kernel
theorem d_Lw_law_232 : decode b_Lw_law 232 = .ok (.lshl, 1) := by decide +kernel
theorem d_Lw_law_233 : decode b_Lw_law 233 = .ok (.aload_n 0, 1) := by decide +kernel
theorem d_Lw_law_234 : decode b_Lw_law 234 = .ok (.iload 4, 2) := by decide +kernel
theorem d_Lw_law_236 : decode b_Lw_law 236 = .ok (.iconst 3, 1) := by decide +kernel
theorem d_Lw_law_237 : decode b_Lw_law 237 = .ok (.iadd, 1) := by decide +kernel
theorem d_Lw_law_238 : decode b_Lw_law 238 = .ok (.iaload, 1) := by decide +kernel
theorem d_Lw_law_239 : decode b_Lw_law 239 = .ok (.i2l, 1) := by decide +kernel
theorem d_Lw_law_240 : decode b_Lw_law 240 = .ok (.ldc2_w 78, 3) := by decide +kernel
theorem d_Lw_law_243 : decode b_Lw_law 243 = .ok (.land, 1) := by decide +kernel
theorem d_Lw_law_244 : decode b_Lw_law 244 = .ok (.lor, 1) := by decide +kernel
theorem d_Lw_law_245 : decode b_Lw_law 245 = .ok (.aload_n 0, 1) := by decide +kernel
theorem d_Lw_law_246 : decode b_Lw_law 246 = .ok (.iload 4, 2) := by decide +kernel
theorem d_Lw_law_248 : decode b_Lw_law 248 = .ok (.iconst 4, 1) := by decide +kernel
theorem d_Lw_law_249 : decode b_Lw_law 249 = .ok (.iadd, 1) := by decide +kernel
theorem d_Lw_law_250 : decode b_Lw_law 250 = .ok (.iaload, 1) := by decide +kernel
theorem d_Lw_law_251 : decode b_Lw_law 251 = .ok (.aload_n 3, 1) := by decide +kernel
theorem d_Lw_law_252 : decode b_Lw_law 252 = .ok (.invokestatic 90, 3) := by decide +kernel
theorem d_Lw_law_255 : decode b_Lw_law 255 = .ok (.istore 5, 2) := by decide +kernel
theorem d_Lw_law_257 : decode b_Lw_law 257 = .ok (.aload_n 2, 1) := by decide +kernel
theorem d_Lw_law_258 : decode b_Lw_law 258 = .ok (.aload_n 0, 1) := by decide +kernel
theorem d_Lw_law_259 : decode b_Lw_law 259 = .ok (.iload 4, 2) := by decide +kernel
theorem d_Lw_law_261 : decode b_Lw_law 261 = .ok (.iconst 1, 1) := by decide +kernel
theorem d_Lw_law_262 : decode b_Lw_law 262 = .ok (.iadd, 1) := by decide +kernel
theorem d_Lw_law_263 : decode b_Lw_law 263 = .ok (.iaload, 1) := by decide +kernel
theorem d_Lw_law_264 : decode b_Lw_law 264 = .ok (.aload_n 0, 1) := by decide +kernel
theorem d_Lw_law_265 : decode b_Lw_law 265 = .ok (.iload 4, 2) := by decide +kernel
theorem d_Lw_law_267 : decode b_Lw_law 267 = .ok (.iconst 2, 1) := by decide +kernel
theorem d_Lw_law_268 : decode b_Lw_law 268 = .ok (.iadd, 1) := by decide +kernel
theorem d_Lw_law_269 : decode b_Lw_law 269 = .ok (.iaload, 1) := by decide +kernel
theorem d_Lw_law_270 : decode b_Lw_law 270 = .ok (.i2l, 1) := by decide +kernel
theorem d_Lw_law_271 : decode b_Lw_law 271 = .ok (.bipush 32, 2) := by decide +kernel
theorem d_Lw_law_273 : decode b_Lw_law 273 = .ok (.lshl, 1) := by decide +kernel
theorem d_Lw_law_274 : decode b_Lw_law 274 = .ok (.aload_n 0, 1) := by decide +kernel
theorem d_Lw_law_275 : decode b_Lw_law 275 = .ok (.iload 4, 2) := by decide +kernel
theorem d_Lw_law_277 : decode b_Lw_law 277 = .ok (.iconst 3, 1) := by decide +kernel
theorem d_Lw_law_278 : decode b_Lw_law 278 = .ok (.iadd, 1) := by decide +kernel
theorem d_Lw_law_279 : decode b_Lw_law 279 = .ok (.iaload, 1) := by decide +kernel
theorem d_Lw_law_280 : decode b_Lw_law 280 = .ok (.i2l, 1) := by decide +kernel
theorem d_Lw_law_281 : decode b_Lw_law 281 = .ok (.ldc2_w 78, 3) := by decide +kernel
theorem d_Lw_law_284 : decode b_Lw_law 284 = .ok (.land, 1) := by decide +kernel
theorem d_Lw_law_285 : decode b_Lw_law 285 = .ok (.lor, 1) := by decide +kernel
theorem d_Lw_law_286 : decode b_Lw_law 286 = .ok (.aload_n 0, 1) := by decide +kernel
theorem d_Lw_law_287 : decode b_Lw_law 287 = .ok (.iload 4, 2) := by decide +kernel
theorem d_Lw_law_289 : decode b_Lw_law 289 = .ok (.iconst 4, 1) := by decide +kernel
theorem d_Lw_law_290 : decode b_Lw_law 290 = .ok (.iadd, 1) := by decide +kernel
theorem d_Lw_law_291 : decode b_Lw_law 291 = .ok (.iaload, 1) := by decide +kernel
theorem d_Lw_law_292 : decode b_Lw_law 292 = .ok (.invokevirtual 93, 3) := by decide +kernel
theorem d_Lw_law_295 : decode b_Lw_law 295 = .ok (.istore 6, 2) := by decide +kernel
theorem d_Lw_law_297 : decode b_Lw_law 297 = .ok (.aload_n 2, 1) := by decide +kernel
theorem d_Lw_law_298 : decode b_Lw_law 298 = .ok (.invokevirtual 86, 3) := by decide +kernel
theorem d_Lw_law_301 : decode b_Lw_law 301 = .ok (.iload 5, 2) := by decide +kernel
theorem d_Lw_law_303 : decode b_Lw_law 303 = .ok (.if_icmp .eq 5, 3) := by decide +kernel
theorem d_Lw_law_308 : decode b_Lw_law 308 = .ok (.iload 5, 2) := by decide +kernel
theorem d_Lw_law_310 : decode b_Lw_law 310 = .ok (.ifCond .ne 22, 3) := by decide +kernel
theorem d_Lw_law_332 : decode b_Lw_law 332 = .ok (.goto 1031, 3) := by decide +kernel
theorem d_Lw_law_313 : decode b_Lw_law 313 = .ok (.aload_n 3, 1) := by decide +kernel
theorem d_Lw_law_314 : decode b_Lw_law 314 = .ok (.iconst 0, 1) := by decide +kernel
theorem d_Lw_law_315 : decode b_Lw_law 315 = .ok (.laload, 1) := by decide +kernel
theorem d_Lw_law_316 : decode b_Lw_law 316 = .ok (.iload 6, 2) := by decide +kernel
theorem d_Lw_law_318 : decode b_Lw_law 318 = .ok (.ifCond .eq 7, 3) := by decide +kernel
theorem d_Lw_law_321 : decode b_Lw_law 321 = .ok (.lconst 1, 1) := by decide +kernel
theorem d_Lw_law_322 : decode b_Lw_law 322 = .ok (.goto 4, 3) := by decide +kernel
theorem d_Lw_law_326 : decode b_Lw_law 326 = .ok (.lcmp, 1) := by decide +kernel
theorem d_Lw_law_327 : decode b_Lw_law 327 = .ok (.ifCond .eq 5, 3) := by decide +kernel
theorem d_Lw_law_335 : decode b_Lw_law 335 = .ok (.aload_n 1, 1) := by decide +kernel
theorem d_Lw_law_336 : decode b_Lw_law 336 = .ok (.aload_n 0, 1) := by decide +kernel
theorem d_Lw_law_337 : decode b_Lw_law 337 = .ok (.iload 4, 2) := by decide +kernel
theorem d_Lw_law_339 : decode b_Lw_law 339 = .ok (.iconst 1, 1) := by decide +kernel
theorem d_Lw_law_340 : decode b_Lw_law 340 = .ok (.iadd, 1) := by decide +kernel
theorem d_Lw_law_341 : decode b_Lw_law 341 = .ok (.iaload, 1) := by decide +kernel
theorem d_Lw_law_342 : decode b_Lw_law 342 = .ok (.aload_n 0, 1) := by decide +kernel
theorem d_Lw_law_343 : decode b_Lw_law 343 = .ok (.iload 4, 2) := by decide +kernel
theorem d_Lw_law_345 : decode b_Lw_law 345 = .ok (.iconst 2, 1) := by decide +kernel
theorem d_Lw_law_346 : decode b_Lw_law 346 = .ok (.iadd, 1) := by decide +kernel
theorem d_Lw_law_347 : decode b_Lw_law 347 = .ok (.iaload, 1) := by decide +kernel
theorem d_Lw_law_348 : decode b_Lw_law 348 = .ok (.aload_n 0, 1) := by decide +kernel
theorem d_Lw_law_349 : decode b_Lw_law 349 = .ok (.iload 4, 2) := by decide +kernel
theorem d_Lw_law_351 : decode b_Lw_law 351 = .ok (.iconst 3, 1) := by decide +kernel
theorem d_Lw_law_352 : decode b_Lw_law 352 = .ok (.iadd, 1) := by decide +kernel
theorem d_Lw_law_353 : decode b_Lw_law 353 = .ok (.iaload, 1) := by decide +kernel
theorem d_Lw_law_354 : decode b_Lw_law 354 = .ok (.i2l, 1) := by decide +kernel
theorem d_Lw_law_355 : decode b_Lw_law 355 = .ok (.bipush 32, 2) := by decide +kernel
theorem d_Lw_law_357 : decode b_Lw_law 357 = .ok (.lshl, 1) := by decide +kernel
theorem d_Lw_law_358 : decode b_Lw_law 358 = .ok (.aload_n 0, 1) := by decide +kernel
theorem d_Lw_law_359 : decode b_Lw_law 359 = .ok (.iload 4, 2) := by decide +kernel
theorem d_Lw_law_361 : decode b_Lw_law 361 = .ok (.iconst 4, 1) := by decide +kernel
theorem d_Lw_law_362 : decode b_Lw_law 362 = .ok (.iadd, 1) := by decide +kernel
theorem d_Lw_law_363 : decode b_Lw_law 363 = .ok (.iaload, 1) := by decide +kernel
theorem d_Lw_law_364 : decode b_Lw_law 364 = .ok (.i2l, 1) := by decide +kernel
theorem d_Lw_law_365 : decode b_Lw_law 365 = .ok (.ldc2_w 78, 3) := by decide +kernel
theorem d_Lw_law_368 : decode b_Lw_law 368 = .ok (.land, 1) := by decide +kernel
theorem d_Lw_law_369 : decode b_Lw_law 369 = .ok (.lor, 1) := by decide +kernel
theorem d_Lw_law_370 : decode b_Lw_law 370 = .ok (.invokestatic 94, 3) := by decide +kernel
theorem d_Lw_law_373 : decode b_Lw_law 373 = .ok (.istore 5, 2) := by decide +kernel
theorem d_Lw_law_375 : decode b_Lw_law 375 = .ok (.aload_n 2, 1) := by decide +kernel
theorem d_Lw_law_376 : decode b_Lw_law 376 = .ok (.aload_n 0, 1) := by decide +kernel
theorem d_Lw_law_377 : decode b_Lw_law 377 = .ok (.iload 4, 2) := by decide +kernel
theorem d_Lw_law_379 : decode b_Lw_law 379 = .ok (.iconst 1, 1) := by decide +kernel
theorem d_Lw_law_380 : decode b_Lw_law 380 = .ok (.iadd, 1) := by decide +kernel
theorem d_Lw_law_381 : decode b_Lw_law 381 = .ok (.iaload, 1) := by decide +kernel
theorem d_Lw_law_382 : decode b_Lw_law 382 = .ok (.aload_n 0, 1) := by decide +kernel
theorem d_Lw_law_383 : decode b_Lw_law 383 = .ok (.iload 4, 2) := by decide +kernel
theorem d_Lw_law_385 : decode b_Lw_law 385 = .ok (.iconst 2, 1) := by decide +kernel
theorem d_Lw_law_386 : decode b_Lw_law 386 = .ok (.iadd, 1) := by decide +kernel
theorem d_Lw_law_387 : decode b_Lw_law 387 = .ok (.iaload, 1) := by decide +kernel
theorem d_Lw_law_388 : decode b_Lw_law 388 = .ok (.aload_n 0, 1) := by decide +kernel
theorem d_Lw_law_389 : decode b_Lw_law 389 = .ok (.iload 4, 2) := by decide +kernel
theorem d_Lw_law_391 : decode b_Lw_law 391 = .ok (.iconst 3, 1) := by decide +kernel
theorem d_Lw_law_392 : decode b_Lw_law 392 = .ok (.iadd, 1) := by decide +kernel
theorem d_Lw_law_393 : decode b_Lw_law 393 = .ok (.iaload, 1) := by decide +kernel
theorem d_Lw_law_394 : decode b_Lw_law 394 = .ok (.i2l, 1) := by decide +kernel
theorem d_Lw_law_395 : decode b_Lw_law 395 = .ok (.bipush 32, 2) := by decide +kernel
theorem d_Lw_law_397 : decode b_Lw_law 397 = .ok (.lshl, 1) := by decide +kernel
theorem d_Lw_law_398 : decode b_Lw_law 398 = .ok (.aload_n 0, 1) := by decide +kernel
theorem d_Lw_law_399 : decode b_Lw_law 399 = .ok (.iload 4, 2) := by decide +kernel
theorem d_Lw_law_401 : decode b_Lw_law 401 = .ok (.iconst 4, 1) := by decide +kernel
theorem d_Lw_law_402 : decode b_Lw_law 402 = .ok (.iadd, 1) := by decide +kernel
theorem d_Lw_law_403 : decode b_Lw_law 403 = .ok (.iaload, 1) := by decide +kernel
theorem d_Lw_law_404 : decode b_Lw_law 404 = .ok (.i2l, 1) := by decide +kernel
theorem d_Lw_law_405 : decode b_Lw_law 405 = .ok (.ldc2_w 78, 3) := by decide +kernel
theorem d_Lw_law_408 : decode b_Lw_law 408 = .ok (.land, 1) := by decide +kernel
theorem d_Lw_law_409 : decode b_Lw_law 409 = .ok (.lor, 1) := by decide +kernel
theorem d_Lw_law_410 : decode b_Lw_law 410 = .ok (.invokevirtual 97, 3) := by decide +kernel
theorem d_Lw_law_413 : decode b_Lw_law 413 = .ok (.aload_n 2, 1) := by decide +kernel
theorem d_Lw_law_414 : decode b_Lw_law 414 = .ok (.invokevirtual 86, 3) := by decide +kernel
theorem d_Lw_law_417 : decode b_Lw_law 417 = .ok (.iload 5, 2) := by decide +kernel
theorem d_Lw_law_419 : decode b_Lw_law 419 = .ok (.if_icmp .eq 5, 3) := by decide +kernel
theorem d_Lw_law_424 : decode b_Lw_law 424 = .ok (.goto 939, 3) := by decide +kernel
set_option maxHeartbeats 4000000 in
set_option maxRecDepth 100000 in
theorem lw_case0 {p : Program} {l : Launch} {e : Env} {s : State} {m : MethodId} {args : Array Value} {below : List Frame} {meth : Method} {c : Code} {Q : State → Prop} {A : Nat → Prop} {b : Nat} {xs : Nat → Int32} {H : Heap} {locs : List Loc} {ls : Array Slot} (dC : Nat → ClassId) (dI : Nat → Nat → Nat) (cT : Nat → ClassId) (ds : Nat) (dr : Nat) (sv : Nat) (rr : Nat) (se : Nat) (pw : Nat) (g0 : Nat) (ty : Nat) (an : Nat) (aw : Nat) (ts : Nat) (ss : Nat) (rq : Nat) (sh : Nat) (sr : Nat) (uh : Nat) (ur : Nat) (tx : Nat) (tr : Nat) (wo : Nat) (di : Nat) (ar : Nat) (a1 : Nat) (t1 : Nat) (s1 : Nat) (sa : Nat) (mo : Nat) (ou : Nat) (st us : Nat) (gs gp : Nat → Option Nat) (df sf mc mz mf mZ : Nat → Int32) (mS mQ fo : Nat → Int64) (mq : Nat → Nat) (hx : p.tables.exec = Jvm.exec) (hb : c.code = b_Lw_law) (hml : c.maxLocals = 8) (hown : s.vm.findClass "DoorServerLaw" = some m.cls) (hg : ∀ w ∈ BIG, w.before args s = true) (hX : va_X b 5 xs s s.heap) (hbl : b < s.heap.size) (hbA : ¬ A b) (hA : ∀ q : Nat, s.heap.size ≤ q → A q) (hK : va_K (dC, dI) vcl (tyL cT) s) (hfl : l.flags = pinnedFlags ++ [noTraceFlag]) (hXm : xm A s s.heap) (hXz : xz_T A s s.heap) (hst : st < 4) (hus : us < 32) (hgs : gs st = some sh) (hgp : gp us = some uh) (hst1 : ¬ xs 1 < 0 → ¬ 3 < xs 1 → xs 1 = nI st) (hus1 : ¬ xs 1 < 0 → ¬ 31 < xs 1 → xs 1 = nI us) (hdf : df 0 = 1 ∧ df 1 = 0 ∧ df 2 = 0 ∧ df 3 = 20 ∧ ∀ q9, q9 < 8 → df (4 + q9) = bn_at 0 q9 ∧ df (12 + q9) = bn_at 0 q9 ^^^ 90) (hmf : mf 0 = 1 ∧ mf 1 = 0 ∧ mf 2 = 0 ∧ mf 3 = 20 ∧ ∀ k9, k9 < 16 → mf (4 + k9) = mb_at 0 k9) (hmz : ∀ q9, q9 < 4 → mz q9 = 1) (hz : mZ 14 = 0 ∧ mZ 17 = 0 ∧ mZ 24 = 0 ∧ mZ 33 = 0 ∧ mZ 43 = 0 ∧ mZ 44 = 0) (kk : ∀ (H : Heap) (locs : List Loc) (ls : Array Slot), va_S A s.heap H locs → lv_has ls 8 [(0, .ref b), (4, .int 0)] → W p l e room_1 s m args below meth c H locs 900 33000 Q (F0 m 1363 ls [])) (hP : va_P (dC, dI) vcl [(ds, .inr (0, [.ref dr, .ref sv])), (dr, .inr (2, [.ref rr, .int (nI 20)])), (rr, .inl ((cT 0), 1000, .inl df)), (sv, .inr (5, [.ref se, .ref pw, .ref g0, .ref ty, .ref an, .ref aw, .ref ts, .ref ss, .ref rq, .int 0, .int 0, .int 0])), (se, .inl ((cT 2), 4, .inr (.inr (.inr (.inr gs))))), (sh, .inr (1, [.ref sr, .int (nI 1)])), (sr, .inl ((cT 0), 40, .inl sf)), (pw, .inl ((cT 2), 32, .inr (.inr (.inr (.inr gp))))), (uh, .inr (1, [.ref ur, .int 0])), (ur, .inl ((cT 0), 60, .inl (fun _ => 0))), (g0, .inr (3, [.ref tx, .ref wo, .ref di, .int 0, .int 0, .int 0, .int 0])), (tx, .inr (1, [.ref tr, .int (nI 0)])), (tr, .inl ((cT 0), 1192, .inl (fun _ => 0))), (wo, .inl ((cT 0), 16, .inl (fun _ => 0))), (di, .inl ((cT 0), 16, .inl (fun _ => 0))), (an, .inr (2, [.ref ar, .int 0])), (ar, .inl ((cT 0), 72, .inl (fun _ => 0))), (aw, .inr (6, [.ref a1, .int 0, .int 0])), (ts, .inr (9, [.ref t1, .long 0, .long 1, .int 0])), (ss, .inr (11, [.ref s1, .int 0])), (rq, .inr (4, [.ref dr, .ref sa])), (sa, .inl ((cT 0), 256, .inl (fun _ => 0))), (mo, .inr (12, mdF mq mZ mQ 0 0 (nI 20) (nI 0))), (mq 0, .inl ((cT 1), 64, .inr (.inl mS))), (mq 3, .inl ((cT 0), 160, .inl mc)), (mq 4, .inl ((cT 0), 4, .inl mz)), (mq 5, .inl ((cT 0), 1920, .inl (fun _ => 0))), (mq 6, .inl ((cT 0), 32, .inl (fun _ => 0))), (mq 7, .inl ((cT 0), 1000, .inl mf)), (mq 9, .inl ((cT 0), 1400, .inl (fun _ => 0))), (mq 11, .inl ((cT 0), 16, .inl (fun _ => 0))), (mq 12, .inl ((cT 0), 1200, .inl (fun _ => 0))), (ou, .inl ((cT 1), 1, .inr (.inl fo)))] H) (hD : va_D A [(ds, .inr (0, [.ref dr, .ref sv])), (dr, .inr (2, [.ref rr, .int (nI 20)])), (rr, .inl ((cT 0), 1000, .inl df)), (sv, .inr (5, [.ref se, .ref pw, .ref g0, .ref ty, .ref an, .ref aw, .ref ts, .ref ss, .ref rq, .int 0, .int 0, .int 0])), (se, .inl ((cT 2), 4, .inr (.inr (.inr (.inr gs))))), (sh, .inr (1, [.ref sr, .int (nI 1)])), (sr, .inl ((cT 0), 40, .inl sf)), (pw, .inl ((cT 2), 32, .inr (.inr (.inr (.inr gp))))), (uh, .inr (1, [.ref ur, .int 0])), (ur, .inl ((cT 0), 60, .inl (fun _ => 0))), (g0, .inr (3, [.ref tx, .ref wo, .ref di, .int 0, .int 0, .int 0, .int 0])), (tx, .inr (1, [.ref tr, .int (nI 0)])), (tr, .inl ((cT 0), 1192, .inl (fun _ => 0))), (wo, .inl ((cT 0), 16, .inl (fun _ => 0))), (di, .inl ((cT 0), 16, .inl (fun _ => 0))), (an, .inr (2, [.ref ar, .int 0])), (ar, .inl ((cT 0), 72, .inl (fun _ => 0))), (aw, .inr (6, [.ref a1, .int 0, .int 0])), (ts, .inr (9, [.ref t1, .long 0, .long 1, .int 0])), (ss, .inr (11, [.ref s1, .int 0])), (rq, .inr (4, [.ref dr, .ref sa])), (sa, .inl ((cT 0), 256, .inl (fun _ => 0))), (mo, .inr (12, mdF mq mZ mQ 0 0 (nI 20) (nI 0))), (mq 0, .inl ((cT 1), 64, .inr (.inl mS))), (mq 3, .inl ((cT 0), 160, .inl mc)), (mq 4, .inl ((cT 0), 4, .inl mz)), (mq 5, .inl ((cT 0), 1920, .inl (fun _ => 0))), (mq 6, .inl ((cT 0), 32, .inl (fun _ => 0))), (mq 7, .inl ((cT 0), 1000, .inl mf)), (mq 9, .inl ((cT 0), 1400, .inl (fun _ => 0))), (mq 11, .inl ((cT 0), 16, .inl (fun _ => 0))), (mq 12, .inl ((cT 0), 1200, .inl (fun _ => 0))), (ou, .inl ((cT 1), 1, .inr (.inl fo)))]) (hS : va_S A s.heap H locs) (hl : lv_has ls 8 [(0, .ref b), (1, .ref ds), (2, .ref mo), (3, .ref ou), (4, .int 0)]) : W p l e room_1 s m args below meth c H locs 800 32000 Q (F0 m 124 ls []) := by
  by_cases h1 : xs 1 < 0 ∨ 3 < xs 1
  · skip
    have hP := hP.sub (ws' := [(ds, .inr (0, [.ref dr, .ref sv])), (mo, .inr (12, mdF mq mZ mQ 0 0 (nI 20) (nI 0)))]) [0, 22] rfl
    have hD := hD.sub (ws' := [(ds, .inr (0, [.ref dr, .ref sv])), (mo, .inr (12, mdF mq mZ mQ 0 0 (nI 20) (nI 0)))]) [0, 22] (by decide) rfl
    refine lv_aload_n hx hb d_Lw_law_124 rfl (lv_at hl 1 rfl) ?_
    refine lv_aload_n hx hb d_Lw_law_125 rfl (lv_at hl 0 rfl) ?_
    refine lv_iload hx hb d_Lw_law_126 (lv_at hl 4 rfl) ?_
    refine lv_iconst (v := 1) hx hb d_Lw_law_128 (by decide) ?_
    refine lv_iadd hx hb d_Lw_law_129 ?_
    refine va_sld hx hb hX hbl hbA hS (i := (0 + 1)) (vin (by decide)) d_Lw_law_130 ?_
    refine lv_topi (fun x2 e1 => ?_)
    obtain rfl : x2 = xs 1 := by rw [e1]; exact congrArg xs (by decide)
    refine lv_aload_n hx hb d_Lw_law_131 rfl (lv_at hl 0 rfl) ?_
    refine lv_iload hx hb d_Lw_law_132 (lv_at hl 4 rfl) ?_
    refine lv_iconst (v := 2) hx hb d_Lw_law_134 (by decide) ?_
    refine lv_iadd hx hb d_Lw_law_135 ?_
    refine va_sld hx hb hX hbl hbA hS (i := (0 + 2)) (vin (by decide)) d_Lw_law_136 ?_
    refine lv_topi (fun x4 e3 => ?_)
    obtain rfl : x4 = xs 2 := by rw [e3]; exact congrArg xs (by decide)
    refine lv_i2l (v := (xs 2).toInt64) hx hb d_Lw_law_137 rfl ?_
    refine lv_bipush (v := 32) hx hb d_Lw_law_138 (by decide) ?_
    refine lv_lshl (v := ((xs 2).toInt64) <<< ((32 : Int32).toInt64 &&& 63)) hx hb d_Lw_law_140 rfl ?_
    refine lv_aload_n hx hb d_Lw_law_141 rfl (lv_at hl 0 rfl) ?_
    refine lv_iload hx hb d_Lw_law_142 (lv_at hl 4 rfl) ?_
    refine lv_iconst (v := 3) hx hb d_Lw_law_144 (by decide) ?_
    refine lv_iadd hx hb d_Lw_law_145 ?_
    refine va_sld hx hb hX hbl hbA hS (i := (0 + 3)) (vin (by decide)) d_Lw_law_146 ?_
    refine lv_topi (fun x6 e5 => ?_)
    obtain rfl : x6 = xs 3 := by rw [e5]; exact congrArg xs (by decide)
    refine lv_i2l (v := (xs 3).toInt64) hx hb d_Lw_law_147 rfl ?_
    refine lv_ldc2 (v := 4294967295) hx hb hown (hg _ k_1418) d_Lw_law_148 ?_
    refine lv_land hx hb d_Lw_law_151 ?_
    refine lv_lor hx hb d_Lw_law_152 ?_
    refine lv_aload_n hx hb d_Lw_law_153 rfl (lv_at hl 0 rfl) ?_
    refine lv_iload hx hb d_Lw_law_154 (lv_at hl 4 rfl) ?_
    refine lv_iconst (v := 4) hx hb d_Lw_law_156 (by decide) ?_
    refine lv_iadd hx hb d_Lw_law_157 ?_
    refine va_sld hx hb hX hbl hbA hS (i := (0 + 4)) (vin (by decide)) d_Lw_law_158 ?_
    refine lv_topi (fun x8 e7 => ?_)
    obtain rfl : x8 = xs 4 := by rw [e7]; exact congrArg xs (by decide)
    have hPc := hP.sub (ws' := [(ds, .inr (0, [.ref dr, .ref sv]))]) [0] rfl
    have hDc := hD.sub (ws' := [(ds, .inr (0, [.ref dr, .ref sv]))]) [0] (by decide) rfl
    have hFc := va_free (wc := [(ds, .inr (0, [.ref dr, .ref sv]))]) hD hS hA [0] rfl
    refine va_calli (xw_runS (As := [.ref ds, .int (xs 1), .long ((((xs 2).toInt64) <<< ((32 : Int32).toInt64 &&& 63)) ||| (((xs 3).toInt64) &&& 4294967295)), .int (xs 4)]) (rest := []) ⟨hx, hb, hml, hown, hg⟩ (t_secret1 l dC dI cT H.size ds (xs 1) ((((xs 2).toInt64) <<< ((32 : Int32).toInt64 &&& 63)) ||| (((xs 3).toInt64) &&& 4294967295)) (xs 4) dr sv (hfl) (h1)) rfl (gI (List.forall_mem_cons.mpr ⟨k_381, fun _ h => h⟩)) (hg _ k_379) (hg _ k_380) (hg _ k_0) rfl rfl (n := 4) (by decide +kernel) ⟨Nat.le_of_ble_eq_true rfl, Nat.le_of_ble_eq_true rfl⟩ ⟨fun a U g mk q => by obtain ⟨q0, q1, qP, qK, qD, qE⟩ := q; exact ⟨q0, q1, qP, va_K.moved (u := U) (U := U.calling g mk a) (Vm.Alike.refl U.vm) qK, qD, qE.at (State.WarmedH.refl _) (fun _ _ _ => rfl) (fun _ h => h)⟩, fun U hU hW => ⟨rfl, by rw [hU], by rw [hU]; exact hPc, va_K.moved hW.alike hK, hDc.weaken (fun _ _ _ _ => trivial), by rw [hU]; exact hXz.at hW hS.2.1 (fun _ h => h.elim)⟩⟩ rfl rfl hl.1 rfl (lv_room (Nat.le_of_ble_eq_true rfl)) d_Lw_law_159 ⟨Nat.le_of_ble_eq_true rfl, Nat.le_of_ble_eq_true rfl⟩) hS (fun q _ h => hFc q h) hFc (fun rv9 u t H1 locs ht hvm hw hB hz1 hk1 hS => ?_)
    try dsimp only at hw hB
    obtain ⟨hP1, hK1, hD1⟩ := hB
    rw [ht] at hP1
    obtain ⟨rfl, hw⟩ := hw
    obtain ⟨hP, hD⟩ := va_join (wr := [(mo, .inr (12, mdF mq mZ mQ 0 0 (nI 20) (nI 0)))]) (w1 := []) hP hD [0] [1] rfl rfl (by decide) (by decide) hk1 hFc hP1 hD1
    have hw9 := hw
    clear hPc hDc hFc hz1 hk1 hP1 hK1 hD1
    generalize H1 = H at hP hS ⊢
    have hP : va_P (dC, dI) vcl [(mo, .inr (12, mdF mq mZ mQ 0 0 (nI 20) (nI 0)))] H := hP
    have hD : va_D A [(mo, .inr (12, mdF mq mZ mQ 0 0 (nI 20) (nI 0)))] := hD
    refine lv_istore (lv' := [(5, .int 1), (0, .ref b), (1, .ref ds), (2, .ref mo), (3, .ref ou), (4, .int 0)]) hx hb d_Lw_law_162 hl (by decide) rfl (fun ls hl => ?_)
    refine lv_aload_n hx hb d_Lw_law_164 rfl (lv_at hl 3 rfl) ?_
    refine lv_aload_n hx hb d_Lw_law_165 rfl (lv_at hl 1 rfl) ?_
    refine lv_iload hx hb d_Lw_law_166 (lv_at hl 5 rfl) ?_
    refine lv_iconst (v := 1) hx hb d_Lw_law_168 (by decide) ?_
    refine lv_iadd hx hb d_Lw_law_169 ?_
    refine va_sld hx hb hX hbl hbA hS (i := (0 + 1)) (vin (by decide)) d_Lw_law_170 ?_
    refine lv_topi (fun x11 e10 => ?_)
    obtain rfl : x11 = xs 1 := by rw [e10]; exact congrArg xs (by decide)
    refine lv_aload_n hx hb d_Lw_law_171 rfl (lv_at hl 1 rfl) ?_
    refine lv_iload hx hb d_Lw_law_172 (lv_at hl 5 rfl) ?_
    refine lv_iconst (v := 2) hx hb d_Lw_law_174 (by decide) ?_
    refine lv_iadd hx hb d_Lw_law_175 ?_
    refine va_sld hx hb hX hbl hbA hS (i := (0 + 2)) (vin (by decide)) d_Lw_law_176 ?_
    refine lv_topi (fun x13 e12 => ?_)
    obtain rfl : x13 = xs 2 := by rw [e12]; exact congrArg xs (by decide)
    refine lv_i2l (v := (xs 2).toInt64) hx hb d_Lw_law_177 rfl ?_
    refine lv_bipush (v := 32) hx hb d_Lw_law_178 (by decide) ?_
    refine lv_lshl (v := ((xs 2).toInt64) <<< ((32 : Int32).toInt64 &&& 63)) hx hb d_Lw_law_180 rfl ?_
    refine lv_aload_n hx hb d_Lw_law_181 rfl (lv_at hl 1 rfl) ?_
    refine lv_iload hx hb d_Lw_law_182 (lv_at hl 5 rfl) ?_
    refine lv_iconst (v := 3) hx hb d_Lw_law_184 (by decide) ?_
    refine lv_iadd hx hb d_Lw_law_185 ?_
    refine va_sld hx hb hX hbl hbA hS (i := (0 + 3)) (vin (by decide)) d_Lw_law_186 ?_
    refine lv_topi (fun x15 e14 => ?_)
    obtain rfl : x15 = xs 3 := by rw [e14]; exact congrArg xs (by decide)
    refine lv_i2l (v := (xs 3).toInt64) hx hb d_Lw_law_187 rfl ?_
    refine lv_ldc2 (v := 4294967295) hx hb hown (hg _ k_1418) d_Lw_law_188 ?_
    refine lv_land hx hb d_Lw_law_191 ?_
    refine lv_lor hx hb d_Lw_law_192 ?_
    refine lv_aload_n hx hb d_Lw_law_193 rfl (lv_at hl 1 rfl) ?_
    refine lv_iload hx hb d_Lw_law_194 (lv_at hl 5 rfl) ?_
    refine lv_iconst (v := 4) hx hb d_Lw_law_196 (by decide) ?_
    refine lv_iadd hx hb d_Lw_law_197 ?_
    refine va_sld hx hb hX hbl hbA hS (i := (0 + 4)) (vin (by decide)) d_Lw_law_198 ?_
    refine lv_topi (fun x17 e16 => ?_)
    obtain rfl : x17 = xs 4 := by rw [e16]; exact congrArg xs (by decide)
    have hPc := hP.sub (ws' := [(mo, .inr (12, mdF mq mZ mQ 0 0 (nI 20) (nI 0)))]) [0] rfl
    have hDc := hD.sub (ws' := [(mo, .inr (12, mdF mq mZ mQ 0 0 (nI 20) (nI 0)))]) [0] (by decide) rfl
    have hFc := va_free (wc := [(mo, .inr (12, mdF mq mZ mQ 0 0 (nI 20) (nI 0)))]) hD hS hA [0] rfl
    refine va_callv (va_runV (C := "DoorServerModel") (As := [.int (xs 1), .long ((((xs 2).toInt64) <<< ((32 : Int32).toInt64 &&& 63)) ||| (((xs 3).toInt64) &&& 4294967295)), .int (xs 4)]) (rest := []) ⟨hx, hb, hml, hown, hg⟩ (b_secret1 l dC dI cT H.size mo mq mZ mQ 0 0 20 0 (xs 1) ((((xs 2).toInt64) <<< ((32 : Int32).toInt64 &&& 63)) ||| (((xs 3).toInt64) &&& 4294967295)) (xs 4) (h1)) (cwV 3 hg (gI (List.forall_mem_append.mpr ⟨List.forall_mem_cons.mpr ⟨k_1161, List.forall_mem_cons.mpr ⟨k_1162, List.forall_mem_cons.mpr ⟨k_1163, List.forall_mem_cons.mpr ⟨k_13, fun _ h => absurd h List.not_mem_nil⟩⟩⟩⟩, List.forall_mem_cons.mpr ⟨k_1164, fun _ h => h⟩⟩)) rfl rfl rfl (by decide +kernel) ⟨Nat.le_of_ble_eq_true rfl, Nat.le_of_ble_eq_true rfl⟩) ⟨fun a U g mk q => by obtain ⟨q0, q1, qP, qK, qD⟩ := q; exact ⟨q0, q1, qP, va_K.moved (u := U) (U := U.calling g mk a) (Vm.Alike.refl U.vm) qK, qD⟩, va_recv (q0 := 0) (ci := 12) hK hP rfl rfl, fun U hU hW => ⟨rfl, by rw [hU], by rw [hU]; exact hPc, va_K.moved hW.alike hK, hDc.weaken (fun _ _ _ _ => trivial)⟩⟩ rfl rfl hl.1 rfl (lv_room (Nat.le_of_ble_eq_true rfl)) d_Lw_law_199 ⟨Nat.le_of_ble_eq_true rfl, Nat.le_of_ble_eq_true rfl⟩) hS (fun q _ h => hFc q h) hFc (fun u t H1 locs ht hvm hw hB hz1 hk1 hS => ?_)
    try dsimp only at hw hB
    obtain ⟨hP1, hK1, hD1⟩ := hB
    rw [ht] at hP1
    obtain ⟨hP, hD⟩ := va_join (wr := []) (w1 := [(mo, .inr (12, mdF mq mZ mQ 1 0 (nI 20) (nI 0)))]) hP hD [0] [] rfl rfl (by decide) (by decide) hk1 hFc hP1 hD1
    have hw18 := hw
    clear hPc hDc hFc hz1 hk1 hP1 hK1 hD1
    generalize H1 = H at hP hS ⊢
    have hP : va_P (dC, dI) vcl [(mo, .inr (12, mdF mq mZ mQ 1 0 (nI 20) (nI 0)))] H := hP
    have hD : va_D A [(mo, .inr (12, mdF mq mZ mQ 1 0 (nI 20) (nI 0)))] := hD
    refine lv_aload_n hx hb d_Lw_law_202 rfl (lv_at hl 3 rfl) ?_
    have hPc := hP.sub (ws' := [(mo, .inr (12, mdF mq mZ mQ 1 0 (nI 20) (nI 0)))]) [0] rfl
    have hDc := hD.sub (ws' := [(mo, .inr (12, mdF mq mZ mQ 1 0 (nI 20) (nI 0)))]) [0] (by decide) rfl
    have hFc := va_free (wc := [(mo, .inr (12, mdF mq mZ mQ 1 0 (nI 20) (nI 0)))]) hD hS hA [0] rfl
    refine va_calli (va_runV (C := "DoorServerModel") (As := []) (rest := []) ⟨hx, hb, hml, hown, hg⟩ (m_thrown l dC dI cT H.size mo mq mZ mQ 1 0 20 0 ) (cwV 0 hg (gI (List.forall_mem_append.mpr ⟨List.forall_mem_cons.mpr ⟨k_1157, List.forall_mem_cons.mpr ⟨k_1158, List.forall_mem_cons.mpr ⟨k_1159, List.forall_mem_cons.mpr ⟨k_13, fun _ h => absurd h List.not_mem_nil⟩⟩⟩⟩, List.forall_mem_cons.mpr ⟨k_1160, fun _ h => h⟩⟩)) rfl rfl rfl (by decide +kernel) ⟨Nat.le_of_ble_eq_true rfl, Nat.le_of_ble_eq_true rfl⟩) ⟨fun a U g mk q => by obtain ⟨q0, q1, qP, qK, qD⟩ := q; exact ⟨q0, q1, qP, va_K.moved (u := U) (U := U.calling g mk a) (Vm.Alike.refl U.vm) qK, qD⟩, va_recv (q0 := 0) (ci := 12) hK hP rfl rfl, fun U hU hW => ⟨rfl, by rw [hU], by rw [hU]; exact hPc, va_K.moved hW.alike hK, hDc.weaken (fun _ _ _ _ => trivial)⟩⟩ rfl rfl hl.1 rfl (lv_room (Nat.le_of_ble_eq_true rfl)) d_Lw_law_203 ⟨Nat.le_of_ble_eq_true rfl, Nat.le_of_ble_eq_true rfl⟩) hS (fun q _ h => hFc q h) hFc (fun rv9 u t H1 locs ht hvm hw hB hz1 hk1 hS => ?_)
    try dsimp only at hw hB
    obtain ⟨hP1, hK1, hD1⟩ := hB
    rw [ht] at hP1
    obtain ⟨rfl, hw⟩ := hw
    obtain ⟨hP, hD⟩ := va_join (wr := []) (w1 := []) hP hD [0] [] rfl rfl (by decide) (by decide) hk1 hFc hP1 hD1
    have hw19 := hw
    clear hPc hDc hFc hz1 hk1 hP1 hK1 hD1
    generalize H1 = H at hP hS ⊢
    have hP : va_P (dC, dI) vcl [] H := hP
    have hD : va_D A [] := hD
    refine lv_iload hx hb d_Lw_law_206 (lv_at hl 0 rfl) ?_
    refine lv_icmp_eq (tgt := 213) hx hb d_Lw_law_208 (by decide) (fun hc20 => ?_) (fun hn9 => absurd (rfl) hn9)
    refine lv_goto (tgt := 1363) hx hb d_Lw_law_213 (by decide) ?_
    refine W.widen (k := 900) (n := 33000) (Nat.le_of_ble_eq_true rfl) (Nat.le_of_ble_eq_true rfl) ?_
    have hl9 : lv_has ls 8 [(0, .ref b), (4, .int 0)] := lv_sub hl [1, 5] rfl
    exact kk _ _ _ hS hl9
  have h1a : ¬ xs 1 < 0 := fun h9 => h1 (Or.inl h9)
  have h1b : ¬ 3 < xs 1 := fun h9 => h1 (Or.inr h9)
  by_cases h2 : xs 4 < 1 ∨ 40 < xs 4
  · skip
    have hP := hP.sub (ws' := [(ds, .inr (0, [.ref dr, .ref sv])), (mo, .inr (12, mdF mq mZ mQ 0 0 (nI 20) (nI 0)))]) [0, 22] rfl
    have hD := hD.sub (ws' := [(ds, .inr (0, [.ref dr, .ref sv])), (mo, .inr (12, mdF mq mZ mQ 0 0 (nI 20) (nI 0)))]) [0, 22] (by decide) rfl
    refine lv_aload_n hx hb d_Lw_law_124 rfl (lv_at hl 1 rfl) ?_
    refine lv_aload_n hx hb d_Lw_law_125 rfl (lv_at hl 0 rfl) ?_
    refine lv_iload hx hb d_Lw_law_126 (lv_at hl 4 rfl) ?_
    refine lv_iconst (v := 1) hx hb d_Lw_law_128 (by decide) ?_
    refine lv_iadd hx hb d_Lw_law_129 ?_
    refine va_sld hx hb hX hbl hbA hS (i := (0 + 1)) (vin (by decide)) d_Lw_law_130 ?_
    refine lv_topi (fun x22 e21 => ?_)
    obtain rfl : x22 = xs 1 := by rw [e21]; exact congrArg xs (by decide)
    refine lv_aload_n hx hb d_Lw_law_131 rfl (lv_at hl 0 rfl) ?_
    refine lv_iload hx hb d_Lw_law_132 (lv_at hl 4 rfl) ?_
    refine lv_iconst (v := 2) hx hb d_Lw_law_134 (by decide) ?_
    refine lv_iadd hx hb d_Lw_law_135 ?_
    refine va_sld hx hb hX hbl hbA hS (i := (0 + 2)) (vin (by decide)) d_Lw_law_136 ?_
    refine lv_topi (fun x24 e23 => ?_)
    obtain rfl : x24 = xs 2 := by rw [e23]; exact congrArg xs (by decide)
    refine lv_i2l (v := (xs 2).toInt64) hx hb d_Lw_law_137 rfl ?_
    refine lv_bipush (v := 32) hx hb d_Lw_law_138 (by decide) ?_
    refine lv_lshl (v := ((xs 2).toInt64) <<< ((32 : Int32).toInt64 &&& 63)) hx hb d_Lw_law_140 rfl ?_
    refine lv_aload_n hx hb d_Lw_law_141 rfl (lv_at hl 0 rfl) ?_
    refine lv_iload hx hb d_Lw_law_142 (lv_at hl 4 rfl) ?_
    refine lv_iconst (v := 3) hx hb d_Lw_law_144 (by decide) ?_
    refine lv_iadd hx hb d_Lw_law_145 ?_
    refine va_sld hx hb hX hbl hbA hS (i := (0 + 3)) (vin (by decide)) d_Lw_law_146 ?_
    refine lv_topi (fun x26 e25 => ?_)
    obtain rfl : x26 = xs 3 := by rw [e25]; exact congrArg xs (by decide)
    refine lv_i2l (v := (xs 3).toInt64) hx hb d_Lw_law_147 rfl ?_
    refine lv_ldc2 (v := 4294967295) hx hb hown (hg _ k_1418) d_Lw_law_148 ?_
    refine lv_land hx hb d_Lw_law_151 ?_
    refine lv_lor hx hb d_Lw_law_152 ?_
    refine lv_aload_n hx hb d_Lw_law_153 rfl (lv_at hl 0 rfl) ?_
    refine lv_iload hx hb d_Lw_law_154 (lv_at hl 4 rfl) ?_
    refine lv_iconst (v := 4) hx hb d_Lw_law_156 (by decide) ?_
    refine lv_iadd hx hb d_Lw_law_157 ?_
    refine va_sld hx hb hX hbl hbA hS (i := (0 + 4)) (vin (by decide)) d_Lw_law_158 ?_
    refine lv_topi (fun x28 e27 => ?_)
    obtain rfl : x28 = xs 4 := by rw [e27]; exact congrArg xs (by decide)
    have hPc := hP.sub (ws' := [(ds, .inr (0, [.ref dr, .ref sv]))]) [0] rfl
    have hDc := hD.sub (ws' := [(ds, .inr (0, [.ref dr, .ref sv]))]) [0] (by decide) rfl
    have hFc := va_free (wc := [(ds, .inr (0, [.ref dr, .ref sv]))]) hD hS hA [0] rfl
    refine va_calli (xw_runS (As := [.ref ds, .int (xs 1), .long ((((xs 2).toInt64) <<< ((32 : Int32).toInt64 &&& 63)) ||| (((xs 3).toInt64) &&& 4294967295)), .int (xs 4)]) (rest := []) ⟨hx, hb, hml, hown, hg⟩ (t_secret2 l dC dI cT H.size ds (xs 1) ((((xs 2).toInt64) <<< ((32 : Int32).toInt64 &&& 63)) ||| (((xs 3).toInt64) &&& 4294967295)) (xs 4) dr sv (hfl) (h1a) (h1b) (h2)) rfl (gI (List.forall_mem_cons.mpr ⟨k_381, fun _ h => h⟩)) (hg _ k_379) (hg _ k_380) (hg _ k_0) rfl rfl (n := 4) (by decide +kernel) ⟨Nat.le_of_ble_eq_true rfl, Nat.le_of_ble_eq_true rfl⟩ ⟨fun a U g mk q => by obtain ⟨q0, q1, qP, qK, qD, qE⟩ := q; exact ⟨q0, q1, qP, va_K.moved (u := U) (U := U.calling g mk a) (Vm.Alike.refl U.vm) qK, qD, qE.at (State.WarmedH.refl _) (fun _ _ _ => rfl) (fun _ h => h)⟩, fun U hU hW => ⟨rfl, by rw [hU], by rw [hU]; exact hPc, va_K.moved hW.alike hK, hDc.weaken (fun _ _ _ _ => trivial), by rw [hU]; exact hXz.at hW hS.2.1 (fun _ h => h.elim)⟩⟩ rfl rfl hl.1 rfl (lv_room (Nat.le_of_ble_eq_true rfl)) d_Lw_law_159 ⟨Nat.le_of_ble_eq_true rfl, Nat.le_of_ble_eq_true rfl⟩) hS (fun q _ h => hFc q h) hFc (fun rv9 u t H1 locs ht hvm hw hB hz1 hk1 hS => ?_)
    try dsimp only at hw hB
    obtain ⟨hP1, hK1, hD1⟩ := hB
    rw [ht] at hP1
    obtain ⟨rfl, hw⟩ := hw
    obtain ⟨hP, hD⟩ := va_join (wr := [(mo, .inr (12, mdF mq mZ mQ 0 0 (nI 20) (nI 0)))]) (w1 := []) hP hD [0] [1] rfl rfl (by decide) (by decide) hk1 hFc hP1 hD1
    have hw29 := hw
    clear hPc hDc hFc hz1 hk1 hP1 hK1 hD1
    generalize H1 = H at hP hS ⊢
    have hP : va_P (dC, dI) vcl [(mo, .inr (12, mdF mq mZ mQ 0 0 (nI 20) (nI 0)))] H := hP
    have hD : va_D A [(mo, .inr (12, mdF mq mZ mQ 0 0 (nI 20) (nI 0)))] := hD
    refine lv_istore (lv' := [(5, .int 1), (0, .ref b), (1, .ref ds), (2, .ref mo), (3, .ref ou), (4, .int 0)]) hx hb d_Lw_law_162 hl (by decide) rfl (fun ls hl => ?_)
    refine lv_aload_n hx hb d_Lw_law_164 rfl (lv_at hl 3 rfl) ?_
    refine lv_aload_n hx hb d_Lw_law_165 rfl (lv_at hl 1 rfl) ?_
    refine lv_iload hx hb d_Lw_law_166 (lv_at hl 5 rfl) ?_
    refine lv_iconst (v := 1) hx hb d_Lw_law_168 (by decide) ?_
    refine lv_iadd hx hb d_Lw_law_169 ?_
    refine va_sld hx hb hX hbl hbA hS (i := (0 + 1)) (vin (by decide)) d_Lw_law_170 ?_
    refine lv_topi (fun x31 e30 => ?_)
    obtain rfl : x31 = xs 1 := by rw [e30]; exact congrArg xs (by decide)
    refine lv_aload_n hx hb d_Lw_law_171 rfl (lv_at hl 1 rfl) ?_
    refine lv_iload hx hb d_Lw_law_172 (lv_at hl 5 rfl) ?_
    refine lv_iconst (v := 2) hx hb d_Lw_law_174 (by decide) ?_
    refine lv_iadd hx hb d_Lw_law_175 ?_
    refine va_sld hx hb hX hbl hbA hS (i := (0 + 2)) (vin (by decide)) d_Lw_law_176 ?_
    refine lv_topi (fun x33 e32 => ?_)
    obtain rfl : x33 = xs 2 := by rw [e32]; exact congrArg xs (by decide)
    refine lv_i2l (v := (xs 2).toInt64) hx hb d_Lw_law_177 rfl ?_
    refine lv_bipush (v := 32) hx hb d_Lw_law_178 (by decide) ?_
    refine lv_lshl (v := ((xs 2).toInt64) <<< ((32 : Int32).toInt64 &&& 63)) hx hb d_Lw_law_180 rfl ?_
    refine lv_aload_n hx hb d_Lw_law_181 rfl (lv_at hl 1 rfl) ?_
    refine lv_iload hx hb d_Lw_law_182 (lv_at hl 5 rfl) ?_
    refine lv_iconst (v := 3) hx hb d_Lw_law_184 (by decide) ?_
    refine lv_iadd hx hb d_Lw_law_185 ?_
    refine va_sld hx hb hX hbl hbA hS (i := (0 + 3)) (vin (by decide)) d_Lw_law_186 ?_
    refine lv_topi (fun x35 e34 => ?_)
    obtain rfl : x35 = xs 3 := by rw [e34]; exact congrArg xs (by decide)
    refine lv_i2l (v := (xs 3).toInt64) hx hb d_Lw_law_187 rfl ?_
    refine lv_ldc2 (v := 4294967295) hx hb hown (hg _ k_1418) d_Lw_law_188 ?_
    refine lv_land hx hb d_Lw_law_191 ?_
    refine lv_lor hx hb d_Lw_law_192 ?_
    refine lv_aload_n hx hb d_Lw_law_193 rfl (lv_at hl 1 rfl) ?_
    refine lv_iload hx hb d_Lw_law_194 (lv_at hl 5 rfl) ?_
    refine lv_iconst (v := 4) hx hb d_Lw_law_196 (by decide) ?_
    refine lv_iadd hx hb d_Lw_law_197 ?_
    refine va_sld hx hb hX hbl hbA hS (i := (0 + 4)) (vin (by decide)) d_Lw_law_198 ?_
    refine lv_topi (fun x37 e36 => ?_)
    obtain rfl : x37 = xs 4 := by rw [e36]; exact congrArg xs (by decide)
    have hPc := hP.sub (ws' := [(mo, .inr (12, mdF mq mZ mQ 0 0 (nI 20) (nI 0)))]) [0] rfl
    have hDc := hD.sub (ws' := [(mo, .inr (12, mdF mq mZ mQ 0 0 (nI 20) (nI 0)))]) [0] (by decide) rfl
    have hFc := va_free (wc := [(mo, .inr (12, mdF mq mZ mQ 0 0 (nI 20) (nI 0)))]) hD hS hA [0] rfl
    refine va_callv (va_runV (C := "DoorServerModel") (As := [.int (xs 1), .long ((((xs 2).toInt64) <<< ((32 : Int32).toInt64 &&& 63)) ||| (((xs 3).toInt64) &&& 4294967295)), .int (xs 4)]) (rest := []) ⟨hx, hb, hml, hown, hg⟩ (b_secret2 l dC dI cT H.size mo mq mZ mQ 0 0 20 0 (xs 1) ((((xs 2).toInt64) <<< ((32 : Int32).toInt64 &&& 63)) ||| (((xs 3).toInt64) &&& 4294967295)) (xs 4) (h1a) (h1b) (h2)) (cwV 3 hg (gI (List.forall_mem_append.mpr ⟨List.forall_mem_cons.mpr ⟨k_1161, List.forall_mem_cons.mpr ⟨k_1162, List.forall_mem_cons.mpr ⟨k_1163, List.forall_mem_cons.mpr ⟨k_13, fun _ h => absurd h List.not_mem_nil⟩⟩⟩⟩, List.forall_mem_cons.mpr ⟨k_1164, fun _ h => h⟩⟩)) rfl rfl rfl (by decide +kernel) ⟨Nat.le_of_ble_eq_true rfl, Nat.le_of_ble_eq_true rfl⟩) ⟨fun a U g mk q => by obtain ⟨q0, q1, qP, qK, qD⟩ := q; exact ⟨q0, q1, qP, va_K.moved (u := U) (U := U.calling g mk a) (Vm.Alike.refl U.vm) qK, qD⟩, va_recv (q0 := 0) (ci := 12) hK hP rfl rfl, fun U hU hW => ⟨rfl, by rw [hU], by rw [hU]; exact hPc, va_K.moved hW.alike hK, hDc.weaken (fun _ _ _ _ => trivial)⟩⟩ rfl rfl hl.1 rfl (lv_room (Nat.le_of_ble_eq_true rfl)) d_Lw_law_199 ⟨Nat.le_of_ble_eq_true rfl, Nat.le_of_ble_eq_true rfl⟩) hS (fun q _ h => hFc q h) hFc (fun u t H1 locs ht hvm hw hB hz1 hk1 hS => ?_)
    try dsimp only at hw hB
    obtain ⟨hP1, hK1, hD1⟩ := hB
    rw [ht] at hP1
    obtain ⟨hP, hD⟩ := va_join (wr := []) (w1 := [(mo, .inr (12, mdF mq mZ mQ 1 0 (nI 20) (nI 0)))]) hP hD [0] [] rfl rfl (by decide) (by decide) hk1 hFc hP1 hD1
    have hw38 := hw
    clear hPc hDc hFc hz1 hk1 hP1 hK1 hD1
    generalize H1 = H at hP hS ⊢
    have hP : va_P (dC, dI) vcl [(mo, .inr (12, mdF mq mZ mQ 1 0 (nI 20) (nI 0)))] H := hP
    have hD : va_D A [(mo, .inr (12, mdF mq mZ mQ 1 0 (nI 20) (nI 0)))] := hD
    refine lv_aload_n hx hb d_Lw_law_202 rfl (lv_at hl 3 rfl) ?_
    have hPc := hP.sub (ws' := [(mo, .inr (12, mdF mq mZ mQ 1 0 (nI 20) (nI 0)))]) [0] rfl
    have hDc := hD.sub (ws' := [(mo, .inr (12, mdF mq mZ mQ 1 0 (nI 20) (nI 0)))]) [0] (by decide) rfl
    have hFc := va_free (wc := [(mo, .inr (12, mdF mq mZ mQ 1 0 (nI 20) (nI 0)))]) hD hS hA [0] rfl
    refine va_calli (va_runV (C := "DoorServerModel") (As := []) (rest := []) ⟨hx, hb, hml, hown, hg⟩ (m_thrown l dC dI cT H.size mo mq mZ mQ 1 0 20 0 ) (cwV 0 hg (gI (List.forall_mem_append.mpr ⟨List.forall_mem_cons.mpr ⟨k_1157, List.forall_mem_cons.mpr ⟨k_1158, List.forall_mem_cons.mpr ⟨k_1159, List.forall_mem_cons.mpr ⟨k_13, fun _ h => absurd h List.not_mem_nil⟩⟩⟩⟩, List.forall_mem_cons.mpr ⟨k_1160, fun _ h => h⟩⟩)) rfl rfl rfl (by decide +kernel) ⟨Nat.le_of_ble_eq_true rfl, Nat.le_of_ble_eq_true rfl⟩) ⟨fun a U g mk q => by obtain ⟨q0, q1, qP, qK, qD⟩ := q; exact ⟨q0, q1, qP, va_K.moved (u := U) (U := U.calling g mk a) (Vm.Alike.refl U.vm) qK, qD⟩, va_recv (q0 := 0) (ci := 12) hK hP rfl rfl, fun U hU hW => ⟨rfl, by rw [hU], by rw [hU]; exact hPc, va_K.moved hW.alike hK, hDc.weaken (fun _ _ _ _ => trivial)⟩⟩ rfl rfl hl.1 rfl (lv_room (Nat.le_of_ble_eq_true rfl)) d_Lw_law_203 ⟨Nat.le_of_ble_eq_true rfl, Nat.le_of_ble_eq_true rfl⟩) hS (fun q _ h => hFc q h) hFc (fun rv9 u t H1 locs ht hvm hw hB hz1 hk1 hS => ?_)
    try dsimp only at hw hB
    obtain ⟨hP1, hK1, hD1⟩ := hB
    rw [ht] at hP1
    obtain ⟨rfl, hw⟩ := hw
    obtain ⟨hP, hD⟩ := va_join (wr := []) (w1 := []) hP hD [0] [] rfl rfl (by decide) (by decide) hk1 hFc hP1 hD1
    have hw39 := hw
    clear hPc hDc hFc hz1 hk1 hP1 hK1 hD1
    generalize H1 = H at hP hS ⊢
    have hP : va_P (dC, dI) vcl [] H := hP
    have hD : va_D A [] := hD
    refine lv_iload hx hb d_Lw_law_206 (lv_at hl 0 rfl) ?_
    refine lv_icmp_eq (tgt := 213) hx hb d_Lw_law_208 (by decide) (fun hc40 => ?_) (fun hn9 => absurd (rfl) hn9)
    refine lv_goto (tgt := 1363) hx hb d_Lw_law_213 (by decide) ?_
    refine W.widen (k := 900) (n := 33000) (Nat.le_of_ble_eq_true rfl) (Nat.le_of_ble_eq_true rfl) ?_
    have hl9 : lv_has ls 8 [(0, .ref b), (4, .int 0)] := lv_sub hl [1, 5] rfl
    exact kk _ _ _ hS hl9
  have h2a : ¬ xs 4 < 1 := fun h9 => h2 (Or.inl h9)
  have h2b : ¬ 40 < xs 4 := fun h9 => h2 (Or.inr h9)
  obtain ⟨k, hk1, hk2, he⟩ := rng_1 (M := 40) (n := 40) (by decide) (by decide) h2a h2b
  have hs1 := hst1 h1a h1b
  have hP := hP.sub (ws' := [(ds, .inr (0, [.ref dr, .ref sv])), (sv, .inr (5, [.ref se, .ref pw, .ref g0, .ref ty, .ref an, .ref aw, .ref ts, .ref ss, .ref rq, .int 0, .int 0, .int 0])), (se, .inl ((cT 2), 4, .inr (.inr (.inr (.inr gs))))), (sh, .inr (1, [.ref sr, .int (nI 1)])), (sr, .inl ((cT 0), 40, .inl sf)), (mo, .inr (12, mdF mq mZ mQ 0 0 (nI 20) (nI 0))), (mq 3, .inl ((cT 0), 160, .inl mc)), (mq 4, .inl ((cT 0), 4, .inl mz))]) [0, 3, 4, 5, 6, 22, 24, 25] rfl
  have hD := hD.sub (ws' := [(ds, .inr (0, [.ref dr, .ref sv])), (sv, .inr (5, [.ref se, .ref pw, .ref g0, .ref ty, .ref an, .ref aw, .ref ts, .ref ss, .ref rq, .int 0, .int 0, .int 0])), (se, .inl ((cT 2), 4, .inr (.inr (.inr (.inr gs))))), (sh, .inr (1, [.ref sr, .int (nI 1)])), (sr, .inl ((cT 0), 40, .inl sf)), (mo, .inr (12, mdF mq mZ mQ 0 0 (nI 20) (nI 0))), (mq 3, .inl ((cT 0), 160, .inl mc)), (mq 4, .inl ((cT 0), 4, .inl mz))]) [0, 3, 4, 5, 6, 22, 24, 25] (by decide) rfl
  refine lv_aload_n hx hb d_Lw_law_124 rfl (lv_at hl 1 rfl) ?_
  refine lv_aload_n hx hb d_Lw_law_125 rfl (lv_at hl 0 rfl) ?_
  refine lv_iload hx hb d_Lw_law_126 (lv_at hl 4 rfl) ?_
  refine lv_iconst (v := 1) hx hb d_Lw_law_128 (by decide) ?_
  refine lv_iadd hx hb d_Lw_law_129 ?_
  refine va_sld hx hb hX hbl hbA hS (i := (0 + 1)) (vin (by decide)) d_Lw_law_130 ?_
  refine lv_topi (fun x42 e41 => ?_)
  obtain rfl : x42 = nI st := by rw [e41]; exact (congrArg xs (by decide)).trans (hs1)
  refine lv_aload_n hx hb d_Lw_law_131 rfl (lv_at hl 0 rfl) ?_
  refine lv_iload hx hb d_Lw_law_132 (lv_at hl 4 rfl) ?_
  refine lv_iconst (v := 2) hx hb d_Lw_law_134 (by decide) ?_
  refine lv_iadd hx hb d_Lw_law_135 ?_
  refine va_sld hx hb hX hbl hbA hS (i := (0 + 2)) (vin (by decide)) d_Lw_law_136 ?_
  refine lv_topi (fun x44 e43 => ?_)
  obtain rfl : x44 = xs 2 := by rw [e43]; exact congrArg xs (by decide)
  refine lv_i2l (v := (xs 2).toInt64) hx hb d_Lw_law_137 rfl ?_
  refine lv_bipush (v := 32) hx hb d_Lw_law_138 (by decide) ?_
  refine lv_lshl (v := ((xs 2).toInt64) <<< ((32 : Int32).toInt64 &&& 63)) hx hb d_Lw_law_140 rfl ?_
  refine lv_aload_n hx hb d_Lw_law_141 rfl (lv_at hl 0 rfl) ?_
  refine lv_iload hx hb d_Lw_law_142 (lv_at hl 4 rfl) ?_
  refine lv_iconst (v := 3) hx hb d_Lw_law_144 (by decide) ?_
  refine lv_iadd hx hb d_Lw_law_145 ?_
  refine va_sld hx hb hX hbl hbA hS (i := (0 + 3)) (vin (by decide)) d_Lw_law_146 ?_
  refine lv_topi (fun x46 e45 => ?_)
  obtain rfl : x46 = xs 3 := by rw [e45]; exact congrArg xs (by decide)
  refine lv_i2l (v := (xs 3).toInt64) hx hb d_Lw_law_147 rfl ?_
  refine lv_ldc2 (v := 4294967295) hx hb hown (hg _ k_1418) d_Lw_law_148 ?_
  refine lv_land hx hb d_Lw_law_151 ?_
  refine lv_lor hx hb d_Lw_law_152 ?_
  refine lv_aload_n hx hb d_Lw_law_153 rfl (lv_at hl 0 rfl) ?_
  refine lv_iload hx hb d_Lw_law_154 (lv_at hl 4 rfl) ?_
  refine lv_iconst (v := 4) hx hb d_Lw_law_156 (by decide) ?_
  refine lv_iadd hx hb d_Lw_law_157 ?_
  refine va_sld hx hb hX hbl hbA hS (i := (0 + 4)) (vin (by decide)) d_Lw_law_158 ?_
  refine lv_topi (fun x48 e47 => ?_)
  obtain rfl : x48 = nI k := by rw [e47]; exact (congrArg xs (by decide)).trans (he)
  have hPc := hP.sub (ws' := [(ds, .inr (0, [.ref dr, .ref sv])), (sv, .inr (5, [.ref se, .ref pw, .ref g0, .ref ty, .ref an, .ref aw, .ref ts, .ref ss, .ref rq, .int 0, .int 0, .int 0])), (se, .inl ((cT 2), 4, .inr (.inr (.inr (.inr gs))))), (sh, .inr (1, [.ref sr, .int (nI 1)])), (sr, .inl ((cT 0), 40, .inl sf))]) [0, 1, 2, 3, 4] rfl
  have hDc := hD.sub (ws' := [(ds, .inr (0, [.ref dr, .ref sv])), (sv, .inr (5, [.ref se, .ref pw, .ref g0, .ref ty, .ref an, .ref aw, .ref ts, .ref ss, .ref rq, .int 0, .int 0, .int 0])), (se, .inl ((cT 2), 4, .inr (.inr (.inr (.inr gs))))), (sh, .inr (1, [.ref sr, .int (nI 1)])), (sr, .inl ((cT 0), 40, .inl sf))]) [0, 1, 2, 3, 4] (by decide) rfl
  have hFc := va_free (wc := [(ds, .inr (0, [.ref dr, .ref sv])), (sv, .inr (5, [.ref se, .ref pw, .ref g0, .ref ty, .ref an, .ref aw, .ref ts, .ref ss, .ref rq, .int 0, .int 0, .int 0])), (se, .inl ((cT 2), 4, .inr (.inr (.inr (.inr gs))))), (sh, .inr (1, [.ref sr, .int (nI 1)])), (sr, .inl ((cT 0), 40, .inl sf))]) hD hS hA [0, 1, 2, 3, 4] rfl
  refine va_calli (xw_runS (As := [.ref ds, .int (nI st), .long ((((xs 2).toInt64) <<< ((32 : Int32).toInt64 &&& 63)) ||| (((xs 3).toInt64) &&& 4294967295)), .int (nI k)]) (rest := []) ⟨hx, hb, hml, hown, hg⟩ (l_secret l dC dI cT H.size ds dr sv rr g0 se pw ty an aw ts ss rq 0 0 0 sh sr 40 1 sf gs st ((((xs 2).toInt64) <<< ((32 : Int32).toInt64 &&& 63)) ||| (((xs 3).toInt64) &&& 4294967295)) k (hst) (hgs) (hk1) (hk2) (rfl)) rfl (gI (List.forall_mem_cons.mpr ⟨k_381, fun _ h => h⟩)) (hg _ k_379) (hg _ k_380) (hg _ k_0) rfl rfl (n := 4) (by decide +kernel) ⟨Nat.le_of_ble_eq_true rfl, Nat.le_of_ble_eq_true rfl⟩ ⟨fun a U g mk q => by obtain ⟨q0, q1, qP, qK, qD⟩ := q; exact ⟨q0, q1, qP, va_K.moved (u := U) (U := U.calling g mk a) (Vm.Alike.refl U.vm) qK, qD⟩, fun U hU hW => ⟨rfl, by rw [hU], by rw [hU]; exact hPc, va_K.moved hW.alike hK, hDc.weaken (fun _ _ _ _ => trivial)⟩⟩ rfl rfl hl.1 rfl (lv_room (Nat.le_of_ble_eq_true rfl)) d_Lw_law_159 ⟨Nat.le_of_ble_eq_true rfl, Nat.le_of_ble_eq_true rfl⟩) hS (fun q _ h => hFc q h) hFc (fun rv9 u t H1 locs ht hvm hw hB hz1 hk1 hS => ?_)
  try dsimp only at hw hB
  obtain ⟨hP1, hK1, hD1⟩ := hB
  rw [ht] at hP1
  obtain ⟨rfl, hw⟩ := hw
  obtain ⟨hP, hD⟩ := va_join (wr := [(mo, .inr (12, mdF mq mZ mQ 0 0 (nI 20) (nI 0))), (mq 3, .inl ((cT 0), 160, .inl mc)), (mq 4, .inl ((cT 0), 4, .inl mz))]) (w1 := []) hP hD [0, 1, 2, 3, 4] [5, 6, 7] rfl rfl (by decide) (by decide) hk1 hFc hP1 hD1
  have hw49 := hw
  clear hPc hDc hFc hz1 hk1 hP1 hK1 hD1
  generalize H1 = H at hP hS ⊢
  have hP : va_P (dC, dI) vcl [(mo, .inr (12, mdF mq mZ mQ 0 0 (nI 20) (nI 0))), (mq 3, .inl ((cT 0), 160, .inl mc)), (mq 4, .inl ((cT 0), 4, .inl mz))] H := hP
  have hD : va_D A [(mo, .inr (12, mdF mq mZ mQ 0 0 (nI 20) (nI 0))), (mq 3, .inl ((cT 0), 160, .inl mc)), (mq 4, .inl ((cT 0), 4, .inl mz))] := hD
  refine lv_istore (lv' := [(5, .int 0), (0, .ref b), (1, .ref ds), (2, .ref mo), (3, .ref ou), (4, .int 0)]) hx hb d_Lw_law_162 hl (by decide) rfl (fun ls hl => ?_)
  refine lv_aload_n hx hb d_Lw_law_164 rfl (lv_at hl 3 rfl) ?_
  refine lv_aload_n hx hb d_Lw_law_165 rfl (lv_at hl 1 rfl) ?_
  refine lv_iload hx hb d_Lw_law_166 (lv_at hl 5 rfl) ?_
  refine lv_iconst (v := 1) hx hb d_Lw_law_168 (by decide) ?_
  refine lv_iadd hx hb d_Lw_law_169 ?_
  refine va_sld hx hb hX hbl hbA hS (i := (0 + 1)) (vin (by decide)) d_Lw_law_170 ?_
  refine lv_topi (fun x51 e50 => ?_)
  obtain rfl : x51 = nI st := by rw [e50]; exact (congrArg xs (by decide)).trans (hs1)
  refine lv_aload_n hx hb d_Lw_law_171 rfl (lv_at hl 1 rfl) ?_
  refine lv_iload hx hb d_Lw_law_172 (lv_at hl 5 rfl) ?_
  refine lv_iconst (v := 2) hx hb d_Lw_law_174 (by decide) ?_
  refine lv_iadd hx hb d_Lw_law_175 ?_
  refine va_sld hx hb hX hbl hbA hS (i := (0 + 2)) (vin (by decide)) d_Lw_law_176 ?_
  refine lv_topi (fun x53 e52 => ?_)
  obtain rfl : x53 = xs 2 := by rw [e52]; exact congrArg xs (by decide)
  refine lv_i2l (v := (xs 2).toInt64) hx hb d_Lw_law_177 rfl ?_
  refine lv_bipush (v := 32) hx hb d_Lw_law_178 (by decide) ?_
  refine lv_lshl (v := ((xs 2).toInt64) <<< ((32 : Int32).toInt64 &&& 63)) hx hb d_Lw_law_180 rfl ?_
  refine lv_aload_n hx hb d_Lw_law_181 rfl (lv_at hl 1 rfl) ?_
  refine lv_iload hx hb d_Lw_law_182 (lv_at hl 5 rfl) ?_
  refine lv_iconst (v := 3) hx hb d_Lw_law_184 (by decide) ?_
  refine lv_iadd hx hb d_Lw_law_185 ?_
  refine va_sld hx hb hX hbl hbA hS (i := (0 + 3)) (vin (by decide)) d_Lw_law_186 ?_
  refine lv_topi (fun x55 e54 => ?_)
  obtain rfl : x55 = xs 3 := by rw [e54]; exact congrArg xs (by decide)
  refine lv_i2l (v := (xs 3).toInt64) hx hb d_Lw_law_187 rfl ?_
  refine lv_ldc2 (v := 4294967295) hx hb hown (hg _ k_1418) d_Lw_law_188 ?_
  refine lv_land hx hb d_Lw_law_191 ?_
  refine lv_lor hx hb d_Lw_law_192 ?_
  refine lv_aload_n hx hb d_Lw_law_193 rfl (lv_at hl 1 rfl) ?_
  refine lv_iload hx hb d_Lw_law_194 (lv_at hl 5 rfl) ?_
  refine lv_iconst (v := 4) hx hb d_Lw_law_196 (by decide) ?_
  refine lv_iadd hx hb d_Lw_law_197 ?_
  refine va_sld hx hb hX hbl hbA hS (i := (0 + 4)) (vin (by decide)) d_Lw_law_198 ?_
  refine lv_topi (fun x57 e56 => ?_)
  obtain rfl : x57 = nI k := by rw [e56]; exact (congrArg xs (by decide)).trans (he)
  have hPc := hP.sub (ws' := [(mo, .inr (12, mdF mq mZ mQ 0 0 (nI 20) (nI 0))), (mq 3, .inl ((cT 0), 160, .inl mc)), (mq 4, .inl ((cT 0), 4, .inl mz))]) [0, 1, 2] rfl
  have hDc := hD.sub (ws' := [(mo, .inr (12, mdF mq mZ mQ 0 0 (nI 20) (nI 0))), (mq 3, .inl ((cT 0), 160, .inl mc)), (mq 4, .inl ((cT 0), 4, .inl mz))]) [0, 1, 2] (by decide) rfl
  have hFc := va_free (wc := [(mo, .inr (12, mdF mq mZ mQ 0 0 (nI 20) (nI 0))), (mq 3, .inl ((cT 0), 160, .inl mc)), (mq 4, .inl ((cT 0), 4, .inl mz))]) hD hS hA [0, 1, 2] rfl
  refine va_callv (va_runV (C := "DoorServerModel") (As := [.int (nI st), .long ((((xs 2).toInt64) <<< ((32 : Int32).toInt64 &&& 63)) ||| (((xs 3).toInt64) &&& 4294967295)), .int (nI k)]) (rest := []) ⟨hx, hb, hml, hown, hg⟩ (o_secret l dC dI cT H.size mo mq mZ mQ 0 0 20 0 mc mz st ((((xs 2).toInt64) <<< ((32 : Int32).toInt64 &&& 63)) ||| (((xs 3).toInt64) &&& 4294967295)) k (hst) (hk1) (hk2)) (cwV 3 hg (gI (List.forall_mem_append.mpr ⟨List.forall_mem_cons.mpr ⟨k_1161, List.forall_mem_cons.mpr ⟨k_1162, List.forall_mem_cons.mpr ⟨k_1163, List.forall_mem_cons.mpr ⟨k_13, fun _ h => absurd h List.not_mem_nil⟩⟩⟩⟩, List.forall_mem_cons.mpr ⟨k_1164, fun _ h => h⟩⟩)) rfl rfl rfl (by decide +kernel) ⟨Nat.le_of_ble_eq_true rfl, Nat.le_of_ble_eq_true rfl⟩) ⟨fun a U g mk q => by obtain ⟨q0, q1, qP, qK, qD⟩ := q; exact ⟨q0, q1, qP, va_K.moved (u := U) (U := U.calling g mk a) (Vm.Alike.refl U.vm) qK, qD⟩, va_recv (q0 := 0) (ci := 12) hK hP rfl rfl, fun U hU hW => ⟨rfl, by rw [hU], by rw [hU]; exact hPc, va_K.moved hW.alike hK, hDc.weaken (fun _ _ _ _ => trivial)⟩⟩ rfl rfl hl.1 rfl (lv_room (Nat.le_of_ble_eq_true rfl)) d_Lw_law_199 ⟨Nat.le_of_ble_eq_true rfl, Nat.le_of_ble_eq_true rfl⟩) hS (fun q _ h => hFc q h) hFc (fun u t H1 locs ht hvm hw hB hz1 hk1 hS => ?_)
  try dsimp only at hw hB
  obtain ⟨hP1, hK1, hD1⟩ := hB
  rw [ht] at hP1
  obtain ⟨hP, hD⟩ := va_join (wr := []) (w1 := [(mo, .inr (12, mdF mq mZ mQ 0 0 (nI 20) (nI 0)))]) hP hD [0, 1, 2] [] rfl rfl (by decide) (by decide) hk1 hFc hP1 hD1
  have hw58 := hw
  clear hPc hDc hFc hz1 hk1 hP1 hK1 hD1
  generalize H1 = H at hP hS ⊢
  have hP : va_P (dC, dI) vcl [(mo, .inr (12, mdF mq mZ mQ 0 0 (nI 20) (nI 0)))] H := hP
  have hD : va_D A [(mo, .inr (12, mdF mq mZ mQ 0 0 (nI 20) (nI 0)))] := hD
  refine lv_aload_n hx hb d_Lw_law_202 rfl (lv_at hl 3 rfl) ?_
  have hPc := hP.sub (ws' := [(mo, .inr (12, mdF mq mZ mQ 0 0 (nI 20) (nI 0)))]) [0] rfl
  have hDc := hD.sub (ws' := [(mo, .inr (12, mdF mq mZ mQ 0 0 (nI 20) (nI 0)))]) [0] (by decide) rfl
  have hFc := va_free (wc := [(mo, .inr (12, mdF mq mZ mQ 0 0 (nI 20) (nI 0)))]) hD hS hA [0] rfl
  refine va_calli (va_runV (C := "DoorServerModel") (As := []) (rest := []) ⟨hx, hb, hml, hown, hg⟩ (m_thrown l dC dI cT H.size mo mq mZ mQ 0 0 20 0 ) (cwV 0 hg (gI (List.forall_mem_append.mpr ⟨List.forall_mem_cons.mpr ⟨k_1157, List.forall_mem_cons.mpr ⟨k_1158, List.forall_mem_cons.mpr ⟨k_1159, List.forall_mem_cons.mpr ⟨k_13, fun _ h => absurd h List.not_mem_nil⟩⟩⟩⟩, List.forall_mem_cons.mpr ⟨k_1160, fun _ h => h⟩⟩)) rfl rfl rfl (by decide +kernel) ⟨Nat.le_of_ble_eq_true rfl, Nat.le_of_ble_eq_true rfl⟩) ⟨fun a U g mk q => by obtain ⟨q0, q1, qP, qK, qD⟩ := q; exact ⟨q0, q1, qP, va_K.moved (u := U) (U := U.calling g mk a) (Vm.Alike.refl U.vm) qK, qD⟩, va_recv (q0 := 0) (ci := 12) hK hP rfl rfl, fun U hU hW => ⟨rfl, by rw [hU], by rw [hU]; exact hPc, va_K.moved hW.alike hK, hDc.weaken (fun _ _ _ _ => trivial)⟩⟩ rfl rfl hl.1 rfl (lv_room (Nat.le_of_ble_eq_true rfl)) d_Lw_law_203 ⟨Nat.le_of_ble_eq_true rfl, Nat.le_of_ble_eq_true rfl⟩) hS (fun q _ h => hFc q h) hFc (fun rv9 u t H1 locs ht hvm hw hB hz1 hk1 hS => ?_)
  try dsimp only at hw hB
  obtain ⟨hP1, hK1, hD1⟩ := hB
  rw [ht] at hP1
  obtain ⟨rfl, hw⟩ := hw
  obtain ⟨hP, hD⟩ := va_join (wr := []) (w1 := []) hP hD [0] [] rfl rfl (by decide) (by decide) hk1 hFc hP1 hD1
  have hw59 := hw
  clear hPc hDc hFc hz1 hk1 hP1 hK1 hD1
  generalize H1 = H at hP hS ⊢
  have hP : va_P (dC, dI) vcl [] H := hP
  have hD : va_D A [] := hD
  refine lv_iload hx hb d_Lw_law_206 (lv_at hl 0 rfl) ?_
  refine lv_icmp_eq (tgt := 213) hx hb d_Lw_law_208 (by decide) (fun hc60 => ?_) (fun hn9 => absurd (rfl) hn9)
  refine lv_goto (tgt := 1363) hx hb d_Lw_law_213 (by decide) ?_
  refine W.widen (k := 900) (n := 33000) (Nat.le_of_ble_eq_true rfl) (Nat.le_of_ble_eq_true rfl) ?_
  have hl9 : lv_has ls 8 [(0, .ref b), (4, .int 0)] := lv_sub hl [1, 5] rfl
  exact kk _ _ _ hS hl9
set_option maxHeartbeats 4000000 in
set_option maxRecDepth 100000 in
theorem lw_case1 {p : Program} {l : Launch} {e : Env} {s : State} {m : MethodId} {args : Array Value} {below : List Frame} {meth : Method} {c : Code} {Q : State → Prop} {A : Nat → Prop} {b : Nat} {xs : Nat → Int32} {H : Heap} {locs : List Loc} {ls : Array Slot} (dC : Nat → ClassId) (dI : Nat → Nat → Nat) (cT : Nat → ClassId) (ds : Nat) (dr : Nat) (sv : Nat) (rr : Nat) (se : Nat) (pw : Nat) (g0 : Nat) (ty : Nat) (an : Nat) (aw : Nat) (ts : Nat) (ss : Nat) (rq : Nat) (sh : Nat) (sr : Nat) (uh : Nat) (ur : Nat) (tx : Nat) (tr : Nat) (wo : Nat) (di : Nat) (ar : Nat) (a1 : Nat) (t1 : Nat) (s1 : Nat) (sa : Nat) (mo : Nat) (ou : Nat) (st us : Nat) (gs gp : Nat → Option Nat) (df sf mc mz mf mZ : Nat → Int32) (mS mQ fo : Nat → Int64) (mq : Nat → Nat) (hx : p.tables.exec = Jvm.exec) (hb : c.code = b_Lw_law) (hml : c.maxLocals = 8) (hown : s.vm.findClass "DoorServerLaw" = some m.cls) (hg : ∀ w ∈ BIG, w.before args s = true) (hX : va_X b 5 xs s s.heap) (hbl : b < s.heap.size) (hbA : ¬ A b) (hA : ∀ q : Nat, s.heap.size ≤ q → A q) (hK : va_K (dC, dI) vcl (tyL cT) s) (hfl : l.flags = pinnedFlags ++ [noTraceFlag]) (hXm : xm A s s.heap) (hXz : xz_T A s s.heap) (hst : st < 4) (hus : us < 32) (hgs : gs st = some sh) (hgp : gp us = some uh) (hst1 : ¬ xs 1 < 0 → ¬ 3 < xs 1 → xs 1 = nI st) (hus1 : ¬ xs 1 < 0 → ¬ 31 < xs 1 → xs 1 = nI us) (hdf : df 0 = 1 ∧ df 1 = 0 ∧ df 2 = 0 ∧ df 3 = 20 ∧ ∀ q9, q9 < 8 → df (4 + q9) = bn_at 0 q9 ∧ df (12 + q9) = bn_at 0 q9 ^^^ 90) (hmf : mf 0 = 1 ∧ mf 1 = 0 ∧ mf 2 = 0 ∧ mf 3 = 20 ∧ ∀ k9, k9 < 16 → mf (4 + k9) = mb_at 0 k9) (hmz : ∀ q9, q9 < 4 → mz q9 = 1) (hz : mZ 14 = 0 ∧ mZ 17 = 0 ∧ mZ 24 = 0 ∧ mZ 33 = 0 ∧ mZ 43 = 0 ∧ mZ 44 = 0) (kk : ∀ (H : Heap) (locs : List Loc) (ls : Array Slot), va_S A s.heap H locs → lv_has ls 8 [(0, .ref b), (4, .int 0)] → W p l e room_1 s m args below meth c H locs 900 33000 Q (F0 m 1363 ls [])) (hP : va_P (dC, dI) vcl [(ds, .inr (0, [.ref dr, .ref sv])), (dr, .inr (2, [.ref rr, .int (nI 20)])), (rr, .inl ((cT 0), 1000, .inl df)), (sv, .inr (5, [.ref se, .ref pw, .ref g0, .ref ty, .ref an, .ref aw, .ref ts, .ref ss, .ref rq, .int 0, .int 0, .int 0])), (se, .inl ((cT 2), 4, .inr (.inr (.inr (.inr gs))))), (sh, .inr (1, [.ref sr, .int (nI 1)])), (sr, .inl ((cT 0), 40, .inl sf)), (pw, .inl ((cT 2), 32, .inr (.inr (.inr (.inr gp))))), (uh, .inr (1, [.ref ur, .int 0])), (ur, .inl ((cT 0), 60, .inl (fun _ => 0))), (g0, .inr (3, [.ref tx, .ref wo, .ref di, .int 0, .int 0, .int 0, .int 0])), (tx, .inr (1, [.ref tr, .int (nI 0)])), (tr, .inl ((cT 0), 1192, .inl (fun _ => 0))), (wo, .inl ((cT 0), 16, .inl (fun _ => 0))), (di, .inl ((cT 0), 16, .inl (fun _ => 0))), (an, .inr (2, [.ref ar, .int 0])), (ar, .inl ((cT 0), 72, .inl (fun _ => 0))), (aw, .inr (6, [.ref a1, .int 0, .int 0])), (ts, .inr (9, [.ref t1, .long 0, .long 1, .int 0])), (ss, .inr (11, [.ref s1, .int 0])), (rq, .inr (4, [.ref dr, .ref sa])), (sa, .inl ((cT 0), 256, .inl (fun _ => 0))), (mo, .inr (12, mdF mq mZ mQ 0 0 (nI 20) (nI 0))), (mq 0, .inl ((cT 1), 64, .inr (.inl mS))), (mq 3, .inl ((cT 0), 160, .inl mc)), (mq 4, .inl ((cT 0), 4, .inl mz)), (mq 5, .inl ((cT 0), 1920, .inl (fun _ => 0))), (mq 6, .inl ((cT 0), 32, .inl (fun _ => 0))), (mq 7, .inl ((cT 0), 1000, .inl mf)), (mq 9, .inl ((cT 0), 1400, .inl (fun _ => 0))), (mq 11, .inl ((cT 0), 16, .inl (fun _ => 0))), (mq 12, .inl ((cT 0), 1200, .inl (fun _ => 0))), (ou, .inl ((cT 1), 1, .inr (.inl fo)))] H) (hD : va_D A [(ds, .inr (0, [.ref dr, .ref sv])), (dr, .inr (2, [.ref rr, .int (nI 20)])), (rr, .inl ((cT 0), 1000, .inl df)), (sv, .inr (5, [.ref se, .ref pw, .ref g0, .ref ty, .ref an, .ref aw, .ref ts, .ref ss, .ref rq, .int 0, .int 0, .int 0])), (se, .inl ((cT 2), 4, .inr (.inr (.inr (.inr gs))))), (sh, .inr (1, [.ref sr, .int (nI 1)])), (sr, .inl ((cT 0), 40, .inl sf)), (pw, .inl ((cT 2), 32, .inr (.inr (.inr (.inr gp))))), (uh, .inr (1, [.ref ur, .int 0])), (ur, .inl ((cT 0), 60, .inl (fun _ => 0))), (g0, .inr (3, [.ref tx, .ref wo, .ref di, .int 0, .int 0, .int 0, .int 0])), (tx, .inr (1, [.ref tr, .int (nI 0)])), (tr, .inl ((cT 0), 1192, .inl (fun _ => 0))), (wo, .inl ((cT 0), 16, .inl (fun _ => 0))), (di, .inl ((cT 0), 16, .inl (fun _ => 0))), (an, .inr (2, [.ref ar, .int 0])), (ar, .inl ((cT 0), 72, .inl (fun _ => 0))), (aw, .inr (6, [.ref a1, .int 0, .int 0])), (ts, .inr (9, [.ref t1, .long 0, .long 1, .int 0])), (ss, .inr (11, [.ref s1, .int 0])), (rq, .inr (4, [.ref dr, .ref sa])), (sa, .inl ((cT 0), 256, .inl (fun _ => 0))), (mo, .inr (12, mdF mq mZ mQ 0 0 (nI 20) (nI 0))), (mq 0, .inl ((cT 1), 64, .inr (.inl mS))), (mq 3, .inl ((cT 0), 160, .inl mc)), (mq 4, .inl ((cT 0), 4, .inl mz)), (mq 5, .inl ((cT 0), 1920, .inl (fun _ => 0))), (mq 6, .inl ((cT 0), 32, .inl (fun _ => 0))), (mq 7, .inl ((cT 0), 1000, .inl mf)), (mq 9, .inl ((cT 0), 1400, .inl (fun _ => 0))), (mq 11, .inl ((cT 0), 16, .inl (fun _ => 0))), (mq 12, .inl ((cT 0), 1200, .inl (fun _ => 0))), (ou, .inl ((cT 1), 1, .inr (.inl fo)))]) (hS : va_S A s.heap H locs) (hl : lv_has ls 8 [(0, .ref b), (1, .ref ds), (2, .ref mo), (3, .ref ou), (4, .int 0)]) : W p l e room_1 s m args below meth c H locs 800 32000 Q (F0 m 216 ls []) := by
  by_cases h1 : xs 1 < 0 ∨ 31 < xs 1
  · skip
    have hP := hP.sub (ws' := [(ds, .inr (0, [.ref dr, .ref sv])), (mo, .inr (12, mdF mq mZ mQ 0 0 (nI 20) (nI 0)))]) [0, 22] rfl
    have hD := hD.sub (ws' := [(ds, .inr (0, [.ref dr, .ref sv])), (mo, .inr (12, mdF mq mZ mQ 0 0 (nI 20) (nI 0)))]) [0, 22] (by decide) rfl
    refine lv_aload_n hx hb d_Lw_law_216 rfl (lv_at hl 1 rfl) ?_
    refine lv_aload_n hx hb d_Lw_law_217 rfl (lv_at hl 0 rfl) ?_
    refine lv_iload hx hb d_Lw_law_218 (lv_at hl 4 rfl) ?_
    refine lv_iconst (v := 1) hx hb d_Lw_law_220 (by decide) ?_
    refine lv_iadd hx hb d_Lw_law_221 ?_
    refine va_sld hx hb hX hbl hbA hS (i := (0 + 1)) (vin (by decide)) d_Lw_law_222 ?_
    refine lv_topi (fun x62 e61 => ?_)
    obtain rfl : x62 = xs 1 := by rw [e61]; exact congrArg xs (by decide)
    refine lv_aload_n hx hb d_Lw_law_223 rfl (lv_at hl 0 rfl) ?_
    refine lv_iload hx hb d_Lw_law_224 (lv_at hl 4 rfl) ?_
    refine lv_iconst (v := 2) hx hb d_Lw_law_226 (by decide) ?_
    refine lv_iadd hx hb d_Lw_law_227 ?_
    refine va_sld hx hb hX hbl hbA hS (i := (0 + 2)) (vin (by decide)) d_Lw_law_228 ?_
    refine lv_topi (fun x64 e63 => ?_)
    obtain rfl : x64 = xs 2 := by rw [e63]; exact congrArg xs (by decide)
    refine lv_i2l (v := (xs 2).toInt64) hx hb d_Lw_law_229 rfl ?_
    refine lv_bipush (v := 32) hx hb d_Lw_law_230 (by decide) ?_
    refine lv_lshl (v := ((xs 2).toInt64) <<< ((32 : Int32).toInt64 &&& 63)) hx hb d_Lw_law_232 rfl ?_
    refine lv_aload_n hx hb d_Lw_law_233 rfl (lv_at hl 0 rfl) ?_
    refine lv_iload hx hb d_Lw_law_234 (lv_at hl 4 rfl) ?_
    refine lv_iconst (v := 3) hx hb d_Lw_law_236 (by decide) ?_
    refine lv_iadd hx hb d_Lw_law_237 ?_
    refine va_sld hx hb hX hbl hbA hS (i := (0 + 3)) (vin (by decide)) d_Lw_law_238 ?_
    refine lv_topi (fun x66 e65 => ?_)
    obtain rfl : x66 = xs 3 := by rw [e65]; exact congrArg xs (by decide)
    refine lv_i2l (v := (xs 3).toInt64) hx hb d_Lw_law_239 rfl ?_
    refine lv_ldc2 (v := 4294967295) hx hb hown (hg _ k_1418) d_Lw_law_240 ?_
    refine lv_land hx hb d_Lw_law_243 ?_
    refine lv_lor hx hb d_Lw_law_244 ?_
    refine lv_aload_n hx hb d_Lw_law_245 rfl (lv_at hl 0 rfl) ?_
    refine lv_iload hx hb d_Lw_law_246 (lv_at hl 4 rfl) ?_
    refine lv_iconst (v := 4) hx hb d_Lw_law_248 (by decide) ?_
    refine lv_iadd hx hb d_Lw_law_249 ?_
    refine va_sld hx hb hX hbl hbA hS (i := (0 + 4)) (vin (by decide)) d_Lw_law_250 ?_
    refine lv_topi (fun x68 e67 => ?_)
    obtain rfl : x68 = xs 4 := by rw [e67]; exact congrArg xs (by decide)
    refine lv_aload_n hx hb d_Lw_law_251 rfl (lv_at hl 3 rfl) ?_
    have hPc := hP.sub (ws' := [(ds, .inr (0, [.ref dr, .ref sv]))]) [0] rfl
    have hDc := hD.sub (ws' := [(ds, .inr (0, [.ref dr, .ref sv]))]) [0] (by decide) rfl
    have hFc := va_free (wc := [(ds, .inr (0, [.ref dr, .ref sv]))]) hD hS hA [0] rfl
    refine va_calli (xw_runS (As := [.ref ds, .int (xs 1), .long ((((xs 2).toInt64) <<< ((32 : Int32).toInt64 &&& 63)) ||| (((xs 3).toInt64) &&& 4294967295)), .int (xs 4), .ref ou]) (rest := []) ⟨hx, hb, hml, hown, hg⟩ (t_user1 l dC dI cT H.size ds (xs 1) ((((xs 2).toInt64) <<< ((32 : Int32).toInt64 &&& 63)) ||| (((xs 3).toInt64) &&& 4294967295)) (xs 4) dr sv ou (hfl) (h1)) rfl (gI (List.forall_mem_cons.mpr ⟨k_470, fun _ h => h⟩)) (hg _ k_468) (hg _ k_469) (hg _ k_0) rfl rfl (n := 5) (by decide +kernel) ⟨Nat.le_of_ble_eq_true rfl, Nat.le_of_ble_eq_true rfl⟩ ⟨fun a U g mk q => by obtain ⟨q0, q1, qP, qK, qD, qE⟩ := q; exact ⟨q0, q1, qP, va_K.moved (u := U) (U := U.calling g mk a) (Vm.Alike.refl U.vm) qK, qD, qE.at (State.WarmedH.refl _) (fun _ _ _ => rfl) (fun _ h => h)⟩, fun U hU hW => ⟨rfl, by rw [hU], by rw [hU]; exact hPc, va_K.moved hW.alike hK, hDc.weaken (fun _ _ _ _ => trivial), by rw [hU]; exact hXz.at hW hS.2.1 (fun _ h => h.elim)⟩⟩ rfl rfl hl.1 rfl (lv_room (Nat.le_of_ble_eq_true rfl)) d_Lw_law_252 ⟨Nat.le_of_ble_eq_true rfl, Nat.le_of_ble_eq_true rfl⟩) hS (fun q _ h => hFc q h) hFc (fun rv9 u t H1 locs ht hvm hw hB hz1 hk1 hS => ?_)
    try dsimp only at hw hB
    obtain ⟨hP1, hK1, hD1⟩ := hB
    rw [ht] at hP1
    obtain ⟨rfl, hw⟩ := hw
    obtain ⟨hP, hD⟩ := va_join (wr := [(mo, .inr (12, mdF mq mZ mQ 0 0 (nI 20) (nI 0)))]) (w1 := []) hP hD [0] [1] rfl rfl (by decide) (by decide) hk1 hFc hP1 hD1
    have hw69 := hw
    clear hPc hDc hFc hz1 hk1 hP1 hK1 hD1
    generalize H1 = H at hP hS ⊢
    have hP : va_P (dC, dI) vcl [(mo, .inr (12, mdF mq mZ mQ 0 0 (nI 20) (nI 0)))] H := hP
    have hD : va_D A [(mo, .inr (12, mdF mq mZ mQ 0 0 (nI 20) (nI 0)))] := hD
    refine lv_istore (lv' := [(5, .int 1), (0, .ref b), (1, .ref ds), (2, .ref mo), (3, .ref ou), (4, .int 0)]) hx hb d_Lw_law_255 hl (by decide) rfl (fun ls hl => ?_)
    refine lv_aload_n hx hb d_Lw_law_257 rfl (lv_at hl 3 rfl) ?_
    refine lv_aload_n hx hb d_Lw_law_258 rfl (lv_at hl 1 rfl) ?_
    refine lv_iload hx hb d_Lw_law_259 (lv_at hl 5 rfl) ?_
    refine lv_iconst (v := 1) hx hb d_Lw_law_261 (by decide) ?_
    refine lv_iadd hx hb d_Lw_law_262 ?_
    refine va_sld hx hb hX hbl hbA hS (i := (0 + 1)) (vin (by decide)) d_Lw_law_263 ?_
    refine lv_topi (fun x71 e70 => ?_)
    obtain rfl : x71 = xs 1 := by rw [e70]; exact congrArg xs (by decide)
    refine lv_aload_n hx hb d_Lw_law_264 rfl (lv_at hl 1 rfl) ?_
    refine lv_iload hx hb d_Lw_law_265 (lv_at hl 5 rfl) ?_
    refine lv_iconst (v := 2) hx hb d_Lw_law_267 (by decide) ?_
    refine lv_iadd hx hb d_Lw_law_268 ?_
    refine va_sld hx hb hX hbl hbA hS (i := (0 + 2)) (vin (by decide)) d_Lw_law_269 ?_
    refine lv_topi (fun x73 e72 => ?_)
    obtain rfl : x73 = xs 2 := by rw [e72]; exact congrArg xs (by decide)
    refine lv_i2l (v := (xs 2).toInt64) hx hb d_Lw_law_270 rfl ?_
    refine lv_bipush (v := 32) hx hb d_Lw_law_271 (by decide) ?_
    refine lv_lshl (v := ((xs 2).toInt64) <<< ((32 : Int32).toInt64 &&& 63)) hx hb d_Lw_law_273 rfl ?_
    refine lv_aload_n hx hb d_Lw_law_274 rfl (lv_at hl 1 rfl) ?_
    refine lv_iload hx hb d_Lw_law_275 (lv_at hl 5 rfl) ?_
    refine lv_iconst (v := 3) hx hb d_Lw_law_277 (by decide) ?_
    refine lv_iadd hx hb d_Lw_law_278 ?_
    refine va_sld hx hb hX hbl hbA hS (i := (0 + 3)) (vin (by decide)) d_Lw_law_279 ?_
    refine lv_topi (fun x75 e74 => ?_)
    obtain rfl : x75 = xs 3 := by rw [e74]; exact congrArg xs (by decide)
    refine lv_i2l (v := (xs 3).toInt64) hx hb d_Lw_law_280 rfl ?_
    refine lv_ldc2 (v := 4294967295) hx hb hown (hg _ k_1418) d_Lw_law_281 ?_
    refine lv_land hx hb d_Lw_law_284 ?_
    refine lv_lor hx hb d_Lw_law_285 ?_
    refine lv_aload_n hx hb d_Lw_law_286 rfl (lv_at hl 1 rfl) ?_
    refine lv_iload hx hb d_Lw_law_287 (lv_at hl 5 rfl) ?_
    refine lv_iconst (v := 4) hx hb d_Lw_law_289 (by decide) ?_
    refine lv_iadd hx hb d_Lw_law_290 ?_
    refine va_sld hx hb hX hbl hbA hS (i := (0 + 4)) (vin (by decide)) d_Lw_law_291 ?_
    refine lv_topi (fun x77 e76 => ?_)
    obtain rfl : x77 = xs 4 := by rw [e76]; exact congrArg xs (by decide)
    have hPc := hP.sub (ws' := [(mo, .inr (12, mdF mq mZ mQ 0 0 (nI 20) (nI 0)))]) [0] rfl
    have hDc := hD.sub (ws' := [(mo, .inr (12, mdF mq mZ mQ 0 0 (nI 20) (nI 0)))]) [0] (by decide) rfl
    have hFc := va_free (wc := [(mo, .inr (12, mdF mq mZ mQ 0 0 (nI 20) (nI 0)))]) hD hS hA [0] rfl
    refine va_calli (va_runV (C := "DoorServerModel") (As := [.int (xs 1), .long ((((xs 2).toInt64) <<< ((32 : Int32).toInt64 &&& 63)) ||| (((xs 3).toInt64) &&& 4294967295)), .int (xs 4)]) (rest := []) ⟨hx, hb, hml, hown, hg⟩ (b_user1 l dC dI cT H.size mo mq mZ mQ 0 0 20 0 (xs 1) ((((xs 2).toInt64) <<< ((32 : Int32).toInt64 &&& 63)) ||| (((xs 3).toInt64) &&& 4294967295)) (xs 4) (h1)) (cwV 3 hg (gI (List.forall_mem_append.mpr ⟨List.forall_mem_cons.mpr ⟨k_1173, List.forall_mem_cons.mpr ⟨k_1174, List.forall_mem_cons.mpr ⟨k_1175, List.forall_mem_cons.mpr ⟨k_13, fun _ h => absurd h List.not_mem_nil⟩⟩⟩⟩, List.forall_mem_cons.mpr ⟨k_1176, fun _ h => h⟩⟩)) rfl rfl rfl (by decide +kernel) ⟨Nat.le_of_ble_eq_true rfl, Nat.le_of_ble_eq_true rfl⟩) ⟨fun a U g mk q => by obtain ⟨q0, q1, qP, qK, qD⟩ := q; exact ⟨q0, q1, qP, va_K.moved (u := U) (U := U.calling g mk a) (Vm.Alike.refl U.vm) qK, qD⟩, va_recv (q0 := 0) (ci := 12) hK hP rfl rfl, fun U hU hW => ⟨rfl, by rw [hU], by rw [hU]; exact hPc, va_K.moved hW.alike hK, hDc.weaken (fun _ _ _ _ => trivial)⟩⟩ rfl rfl hl.1 rfl (lv_room (Nat.le_of_ble_eq_true rfl)) d_Lw_law_292 ⟨Nat.le_of_ble_eq_true rfl, Nat.le_of_ble_eq_true rfl⟩) hS (fun q _ h => hFc q h) hFc (fun rv9 u t H1 locs ht hvm hw hB hz1 hk1 hS => ?_)
    try dsimp only at hw hB
    obtain ⟨hP1, hK1, hD1⟩ := hB
    rw [ht] at hP1
    generalize rv9 = r78 at hw ⊢
    obtain ⟨hP, hD⟩ := va_join (wr := []) (w1 := [(mo, .inr (12, mdF mq mZ mQ 1 0 (nI 20) (nI 0)))]) hP hD [0] [] rfl rfl (by decide) (by decide) hk1 hFc hP1 hD1
    have hw79 := hw
    clear hPc hDc hFc hz1 hk1 hP1 hK1 hD1
    generalize H1 = H at hP hS ⊢
    have hP : va_P (dC, dI) vcl [(mo, .inr (12, mdF mq mZ mQ 1 0 (nI 20) (nI 0)))] H := hP
    have hD : va_D A [(mo, .inr (12, mdF mq mZ mQ 1 0 (nI 20) (nI 0)))] := hD
    refine lv_istore (lv' := [(6, .int r78), (5, .int 1), (0, .ref b), (1, .ref ds), (2, .ref mo), (3, .ref ou), (4, .int 0)]) hx hb d_Lw_law_295 hl (by decide) rfl (fun ls hl => ?_)
    refine lv_aload_n hx hb d_Lw_law_297 rfl (lv_at hl 4 rfl) ?_
    have hPc := hP.sub (ws' := [(mo, .inr (12, mdF mq mZ mQ 1 0 (nI 20) (nI 0)))]) [0] rfl
    have hDc := hD.sub (ws' := [(mo, .inr (12, mdF mq mZ mQ 1 0 (nI 20) (nI 0)))]) [0] (by decide) rfl
    have hFc := va_free (wc := [(mo, .inr (12, mdF mq mZ mQ 1 0 (nI 20) (nI 0)))]) hD hS hA [0] rfl
    refine va_calli (va_runV (C := "DoorServerModel") (As := []) (rest := []) ⟨hx, hb, hml, hown, hg⟩ (m_thrown l dC dI cT H.size mo mq mZ mQ 1 0 20 0 ) (cwV 0 hg (gI (List.forall_mem_append.mpr ⟨List.forall_mem_cons.mpr ⟨k_1157, List.forall_mem_cons.mpr ⟨k_1158, List.forall_mem_cons.mpr ⟨k_1159, List.forall_mem_cons.mpr ⟨k_13, fun _ h => absurd h List.not_mem_nil⟩⟩⟩⟩, List.forall_mem_cons.mpr ⟨k_1160, fun _ h => h⟩⟩)) rfl rfl rfl (by decide +kernel) ⟨Nat.le_of_ble_eq_true rfl, Nat.le_of_ble_eq_true rfl⟩) ⟨fun a U g mk q => by obtain ⟨q0, q1, qP, qK, qD⟩ := q; exact ⟨q0, q1, qP, va_K.moved (u := U) (U := U.calling g mk a) (Vm.Alike.refl U.vm) qK, qD⟩, va_recv (q0 := 0) (ci := 12) hK hP rfl rfl, fun U hU hW => ⟨rfl, by rw [hU], by rw [hU]; exact hPc, va_K.moved hW.alike hK, hDc.weaken (fun _ _ _ _ => trivial)⟩⟩ rfl rfl hl.1 rfl (lv_room (Nat.le_of_ble_eq_true rfl)) d_Lw_law_298 ⟨Nat.le_of_ble_eq_true rfl, Nat.le_of_ble_eq_true rfl⟩) hS (fun q _ h => hFc q h) hFc (fun rv9 u t H1 locs ht hvm hw hB hz1 hk1 hS => ?_)
    try dsimp only at hw hB
    obtain ⟨hP1, hK1, hD1⟩ := hB
    rw [ht] at hP1
    obtain ⟨rfl, hw⟩ := hw
    obtain ⟨hP, hD⟩ := va_join (wr := []) (w1 := []) hP hD [0] [] rfl rfl (by decide) (by decide) hk1 hFc hP1 hD1
    have hw80 := hw
    clear hPc hDc hFc hz1 hk1 hP1 hK1 hD1
    generalize H1 = H at hP hS ⊢
    have hP : va_P (dC, dI) vcl [] H := hP
    have hD : va_D A [] := hD
    refine lv_iload hx hb d_Lw_law_301 (lv_at hl 1 rfl) ?_
    refine lv_icmp_eq (tgt := 308) hx hb d_Lw_law_303 (by decide) (fun hc81 => ?_) (fun hn9 => absurd (rfl) hn9)
    refine lv_iload hx hb d_Lw_law_308 (lv_at hl 1 rfl) ?_
    refine lv_if_ne (tgt := 332) hx hb d_Lw_law_310 (by decide) (fun hc82 => ?_) (fun hn9 => absurd hn9 (by decide))
    refine lv_goto (tgt := 1363) hx hb d_Lw_law_332 (by decide) ?_
    refine W.widen (k := 900) (n := 33000) (Nat.le_of_ble_eq_true rfl) (Nat.le_of_ble_eq_true rfl) ?_
    have hl9 : lv_has ls 8 [(0, .ref b), (4, .int 0)] := lv_sub hl [2, 6] rfl
    exact kk _ _ _ hS hl9
  have h1a : ¬ xs 1 < 0 := fun h9 => h1 (Or.inl h9)
  have h1b : ¬ 31 < xs 1 := fun h9 => h1 (Or.inr h9)
  by_cases h2 : xs 4 < 1 ∨ 60 < xs 4
  · skip
    have hP := hP.sub (ws' := [(ds, .inr (0, [.ref dr, .ref sv])), (mo, .inr (12, mdF mq mZ mQ 0 0 (nI 20) (nI 0)))]) [0, 22] rfl
    have hD := hD.sub (ws' := [(ds, .inr (0, [.ref dr, .ref sv])), (mo, .inr (12, mdF mq mZ mQ 0 0 (nI 20) (nI 0)))]) [0, 22] (by decide) rfl
    refine lv_aload_n hx hb d_Lw_law_216 rfl (lv_at hl 1 rfl) ?_
    refine lv_aload_n hx hb d_Lw_law_217 rfl (lv_at hl 0 rfl) ?_
    refine lv_iload hx hb d_Lw_law_218 (lv_at hl 4 rfl) ?_
    refine lv_iconst (v := 1) hx hb d_Lw_law_220 (by decide) ?_
    refine lv_iadd hx hb d_Lw_law_221 ?_
    refine va_sld hx hb hX hbl hbA hS (i := (0 + 1)) (vin (by decide)) d_Lw_law_222 ?_
    refine lv_topi (fun x84 e83 => ?_)
    obtain rfl : x84 = xs 1 := by rw [e83]; exact congrArg xs (by decide)
    refine lv_aload_n hx hb d_Lw_law_223 rfl (lv_at hl 0 rfl) ?_
    refine lv_iload hx hb d_Lw_law_224 (lv_at hl 4 rfl) ?_
    refine lv_iconst (v := 2) hx hb d_Lw_law_226 (by decide) ?_
    refine lv_iadd hx hb d_Lw_law_227 ?_
    refine va_sld hx hb hX hbl hbA hS (i := (0 + 2)) (vin (by decide)) d_Lw_law_228 ?_
    refine lv_topi (fun x86 e85 => ?_)
    obtain rfl : x86 = xs 2 := by rw [e85]; exact congrArg xs (by decide)
    refine lv_i2l (v := (xs 2).toInt64) hx hb d_Lw_law_229 rfl ?_
    refine lv_bipush (v := 32) hx hb d_Lw_law_230 (by decide) ?_
    refine lv_lshl (v := ((xs 2).toInt64) <<< ((32 : Int32).toInt64 &&& 63)) hx hb d_Lw_law_232 rfl ?_
    refine lv_aload_n hx hb d_Lw_law_233 rfl (lv_at hl 0 rfl) ?_
    refine lv_iload hx hb d_Lw_law_234 (lv_at hl 4 rfl) ?_
    refine lv_iconst (v := 3) hx hb d_Lw_law_236 (by decide) ?_
    refine lv_iadd hx hb d_Lw_law_237 ?_
    refine va_sld hx hb hX hbl hbA hS (i := (0 + 3)) (vin (by decide)) d_Lw_law_238 ?_
    refine lv_topi (fun x88 e87 => ?_)
    obtain rfl : x88 = xs 3 := by rw [e87]; exact congrArg xs (by decide)
    refine lv_i2l (v := (xs 3).toInt64) hx hb d_Lw_law_239 rfl ?_
    refine lv_ldc2 (v := 4294967295) hx hb hown (hg _ k_1418) d_Lw_law_240 ?_
    refine lv_land hx hb d_Lw_law_243 ?_
    refine lv_lor hx hb d_Lw_law_244 ?_
    refine lv_aload_n hx hb d_Lw_law_245 rfl (lv_at hl 0 rfl) ?_
    refine lv_iload hx hb d_Lw_law_246 (lv_at hl 4 rfl) ?_
    refine lv_iconst (v := 4) hx hb d_Lw_law_248 (by decide) ?_
    refine lv_iadd hx hb d_Lw_law_249 ?_
    refine va_sld hx hb hX hbl hbA hS (i := (0 + 4)) (vin (by decide)) d_Lw_law_250 ?_
    refine lv_topi (fun x90 e89 => ?_)
    obtain rfl : x90 = xs 4 := by rw [e89]; exact congrArg xs (by decide)
    refine lv_aload_n hx hb d_Lw_law_251 rfl (lv_at hl 3 rfl) ?_
    have hPc := hP.sub (ws' := [(ds, .inr (0, [.ref dr, .ref sv]))]) [0] rfl
    have hDc := hD.sub (ws' := [(ds, .inr (0, [.ref dr, .ref sv]))]) [0] (by decide) rfl
    have hFc := va_free (wc := [(ds, .inr (0, [.ref dr, .ref sv]))]) hD hS hA [0] rfl
    refine va_calli (xw_runS (As := [.ref ds, .int (xs 1), .long ((((xs 2).toInt64) <<< ((32 : Int32).toInt64 &&& 63)) ||| (((xs 3).toInt64) &&& 4294967295)), .int (xs 4), .ref ou]) (rest := []) ⟨hx, hb, hml, hown, hg⟩ (t_user2 l dC dI cT H.size ds (xs 1) ((((xs 2).toInt64) <<< ((32 : Int32).toInt64 &&& 63)) ||| (((xs 3).toInt64) &&& 4294967295)) (xs 4) dr sv ou (hfl) (h1a) (h1b) (h2)) rfl (gI (List.forall_mem_cons.mpr ⟨k_470, fun _ h => h⟩)) (hg _ k_468) (hg _ k_469) (hg _ k_0) rfl rfl (n := 5) (by decide +kernel) ⟨Nat.le_of_ble_eq_true rfl, Nat.le_of_ble_eq_true rfl⟩ ⟨fun a U g mk q => by obtain ⟨q0, q1, qP, qK, qD, qE⟩ := q; exact ⟨q0, q1, qP, va_K.moved (u := U) (U := U.calling g mk a) (Vm.Alike.refl U.vm) qK, qD, qE.at (State.WarmedH.refl _) (fun _ _ _ => rfl) (fun _ h => h)⟩, fun U hU hW => ⟨rfl, by rw [hU], by rw [hU]; exact hPc, va_K.moved hW.alike hK, hDc.weaken (fun _ _ _ _ => trivial), by rw [hU]; exact hXz.at hW hS.2.1 (fun _ h => h.elim)⟩⟩ rfl rfl hl.1 rfl (lv_room (Nat.le_of_ble_eq_true rfl)) d_Lw_law_252 ⟨Nat.le_of_ble_eq_true rfl, Nat.le_of_ble_eq_true rfl⟩) hS (fun q _ h => hFc q h) hFc (fun rv9 u t H1 locs ht hvm hw hB hz1 hk1 hS => ?_)
    try dsimp only at hw hB
    obtain ⟨hP1, hK1, hD1⟩ := hB
    rw [ht] at hP1
    obtain ⟨rfl, hw⟩ := hw
    obtain ⟨hP, hD⟩ := va_join (wr := [(mo, .inr (12, mdF mq mZ mQ 0 0 (nI 20) (nI 0)))]) (w1 := []) hP hD [0] [1] rfl rfl (by decide) (by decide) hk1 hFc hP1 hD1
    have hw91 := hw
    clear hPc hDc hFc hz1 hk1 hP1 hK1 hD1
    generalize H1 = H at hP hS ⊢
    have hP : va_P (dC, dI) vcl [(mo, .inr (12, mdF mq mZ mQ 0 0 (nI 20) (nI 0)))] H := hP
    have hD : va_D A [(mo, .inr (12, mdF mq mZ mQ 0 0 (nI 20) (nI 0)))] := hD
    refine lv_istore (lv' := [(5, .int 1), (0, .ref b), (1, .ref ds), (2, .ref mo), (3, .ref ou), (4, .int 0)]) hx hb d_Lw_law_255 hl (by decide) rfl (fun ls hl => ?_)
    refine lv_aload_n hx hb d_Lw_law_257 rfl (lv_at hl 3 rfl) ?_
    refine lv_aload_n hx hb d_Lw_law_258 rfl (lv_at hl 1 rfl) ?_
    refine lv_iload hx hb d_Lw_law_259 (lv_at hl 5 rfl) ?_
    refine lv_iconst (v := 1) hx hb d_Lw_law_261 (by decide) ?_
    refine lv_iadd hx hb d_Lw_law_262 ?_
    refine va_sld hx hb hX hbl hbA hS (i := (0 + 1)) (vin (by decide)) d_Lw_law_263 ?_
    refine lv_topi (fun x93 e92 => ?_)
    obtain rfl : x93 = xs 1 := by rw [e92]; exact congrArg xs (by decide)
    refine lv_aload_n hx hb d_Lw_law_264 rfl (lv_at hl 1 rfl) ?_
    refine lv_iload hx hb d_Lw_law_265 (lv_at hl 5 rfl) ?_
    refine lv_iconst (v := 2) hx hb d_Lw_law_267 (by decide) ?_
    refine lv_iadd hx hb d_Lw_law_268 ?_
    refine va_sld hx hb hX hbl hbA hS (i := (0 + 2)) (vin (by decide)) d_Lw_law_269 ?_
    refine lv_topi (fun x95 e94 => ?_)
    obtain rfl : x95 = xs 2 := by rw [e94]; exact congrArg xs (by decide)
    refine lv_i2l (v := (xs 2).toInt64) hx hb d_Lw_law_270 rfl ?_
    refine lv_bipush (v := 32) hx hb d_Lw_law_271 (by decide) ?_
    refine lv_lshl (v := ((xs 2).toInt64) <<< ((32 : Int32).toInt64 &&& 63)) hx hb d_Lw_law_273 rfl ?_
    refine lv_aload_n hx hb d_Lw_law_274 rfl (lv_at hl 1 rfl) ?_
    refine lv_iload hx hb d_Lw_law_275 (lv_at hl 5 rfl) ?_
    refine lv_iconst (v := 3) hx hb d_Lw_law_277 (by decide) ?_
    refine lv_iadd hx hb d_Lw_law_278 ?_
    refine va_sld hx hb hX hbl hbA hS (i := (0 + 3)) (vin (by decide)) d_Lw_law_279 ?_
    refine lv_topi (fun x97 e96 => ?_)
    obtain rfl : x97 = xs 3 := by rw [e96]; exact congrArg xs (by decide)
    refine lv_i2l (v := (xs 3).toInt64) hx hb d_Lw_law_280 rfl ?_
    refine lv_ldc2 (v := 4294967295) hx hb hown (hg _ k_1418) d_Lw_law_281 ?_
    refine lv_land hx hb d_Lw_law_284 ?_
    refine lv_lor hx hb d_Lw_law_285 ?_
    refine lv_aload_n hx hb d_Lw_law_286 rfl (lv_at hl 1 rfl) ?_
    refine lv_iload hx hb d_Lw_law_287 (lv_at hl 5 rfl) ?_
    refine lv_iconst (v := 4) hx hb d_Lw_law_289 (by decide) ?_
    refine lv_iadd hx hb d_Lw_law_290 ?_
    refine va_sld hx hb hX hbl hbA hS (i := (0 + 4)) (vin (by decide)) d_Lw_law_291 ?_
    refine lv_topi (fun x99 e98 => ?_)
    obtain rfl : x99 = xs 4 := by rw [e98]; exact congrArg xs (by decide)
    have hPc := hP.sub (ws' := [(mo, .inr (12, mdF mq mZ mQ 0 0 (nI 20) (nI 0)))]) [0] rfl
    have hDc := hD.sub (ws' := [(mo, .inr (12, mdF mq mZ mQ 0 0 (nI 20) (nI 0)))]) [0] (by decide) rfl
    have hFc := va_free (wc := [(mo, .inr (12, mdF mq mZ mQ 0 0 (nI 20) (nI 0)))]) hD hS hA [0] rfl
    refine va_calli (va_runV (C := "DoorServerModel") (As := [.int (xs 1), .long ((((xs 2).toInt64) <<< ((32 : Int32).toInt64 &&& 63)) ||| (((xs 3).toInt64) &&& 4294967295)), .int (xs 4)]) (rest := []) ⟨hx, hb, hml, hown, hg⟩ (b_user2 l dC dI cT H.size mo mq mZ mQ 0 0 20 0 (xs 1) ((((xs 2).toInt64) <<< ((32 : Int32).toInt64 &&& 63)) ||| (((xs 3).toInt64) &&& 4294967295)) (xs 4) (h1a) (h1b) (h2)) (cwV 3 hg (gI (List.forall_mem_append.mpr ⟨List.forall_mem_cons.mpr ⟨k_1173, List.forall_mem_cons.mpr ⟨k_1174, List.forall_mem_cons.mpr ⟨k_1175, List.forall_mem_cons.mpr ⟨k_13, fun _ h => absurd h List.not_mem_nil⟩⟩⟩⟩, List.forall_mem_cons.mpr ⟨k_1176, fun _ h => h⟩⟩)) rfl rfl rfl (by decide +kernel) ⟨Nat.le_of_ble_eq_true rfl, Nat.le_of_ble_eq_true rfl⟩) ⟨fun a U g mk q => by obtain ⟨q0, q1, qP, qK, qD⟩ := q; exact ⟨q0, q1, qP, va_K.moved (u := U) (U := U.calling g mk a) (Vm.Alike.refl U.vm) qK, qD⟩, va_recv (q0 := 0) (ci := 12) hK hP rfl rfl, fun U hU hW => ⟨rfl, by rw [hU], by rw [hU]; exact hPc, va_K.moved hW.alike hK, hDc.weaken (fun _ _ _ _ => trivial)⟩⟩ rfl rfl hl.1 rfl (lv_room (Nat.le_of_ble_eq_true rfl)) d_Lw_law_292 ⟨Nat.le_of_ble_eq_true rfl, Nat.le_of_ble_eq_true rfl⟩) hS (fun q _ h => hFc q h) hFc (fun rv9 u t H1 locs ht hvm hw hB hz1 hk1 hS => ?_)
    try dsimp only at hw hB
    obtain ⟨hP1, hK1, hD1⟩ := hB
    rw [ht] at hP1
    generalize rv9 = r100 at hw ⊢
    obtain ⟨hP, hD⟩ := va_join (wr := []) (w1 := [(mo, .inr (12, mdF mq mZ mQ 1 0 (nI 20) (nI 0)))]) hP hD [0] [] rfl rfl (by decide) (by decide) hk1 hFc hP1 hD1
    have hw101 := hw
    clear hPc hDc hFc hz1 hk1 hP1 hK1 hD1
    generalize H1 = H at hP hS ⊢
    have hP : va_P (dC, dI) vcl [(mo, .inr (12, mdF mq mZ mQ 1 0 (nI 20) (nI 0)))] H := hP
    have hD : va_D A [(mo, .inr (12, mdF mq mZ mQ 1 0 (nI 20) (nI 0)))] := hD
    refine lv_istore (lv' := [(6, .int r100), (5, .int 1), (0, .ref b), (1, .ref ds), (2, .ref mo), (3, .ref ou), (4, .int 0)]) hx hb d_Lw_law_295 hl (by decide) rfl (fun ls hl => ?_)
    refine lv_aload_n hx hb d_Lw_law_297 rfl (lv_at hl 4 rfl) ?_
    have hPc := hP.sub (ws' := [(mo, .inr (12, mdF mq mZ mQ 1 0 (nI 20) (nI 0)))]) [0] rfl
    have hDc := hD.sub (ws' := [(mo, .inr (12, mdF mq mZ mQ 1 0 (nI 20) (nI 0)))]) [0] (by decide) rfl
    have hFc := va_free (wc := [(mo, .inr (12, mdF mq mZ mQ 1 0 (nI 20) (nI 0)))]) hD hS hA [0] rfl
    refine va_calli (va_runV (C := "DoorServerModel") (As := []) (rest := []) ⟨hx, hb, hml, hown, hg⟩ (m_thrown l dC dI cT H.size mo mq mZ mQ 1 0 20 0 ) (cwV 0 hg (gI (List.forall_mem_append.mpr ⟨List.forall_mem_cons.mpr ⟨k_1157, List.forall_mem_cons.mpr ⟨k_1158, List.forall_mem_cons.mpr ⟨k_1159, List.forall_mem_cons.mpr ⟨k_13, fun _ h => absurd h List.not_mem_nil⟩⟩⟩⟩, List.forall_mem_cons.mpr ⟨k_1160, fun _ h => h⟩⟩)) rfl rfl rfl (by decide +kernel) ⟨Nat.le_of_ble_eq_true rfl, Nat.le_of_ble_eq_true rfl⟩) ⟨fun a U g mk q => by obtain ⟨q0, q1, qP, qK, qD⟩ := q; exact ⟨q0, q1, qP, va_K.moved (u := U) (U := U.calling g mk a) (Vm.Alike.refl U.vm) qK, qD⟩, va_recv (q0 := 0) (ci := 12) hK hP rfl rfl, fun U hU hW => ⟨rfl, by rw [hU], by rw [hU]; exact hPc, va_K.moved hW.alike hK, hDc.weaken (fun _ _ _ _ => trivial)⟩⟩ rfl rfl hl.1 rfl (lv_room (Nat.le_of_ble_eq_true rfl)) d_Lw_law_298 ⟨Nat.le_of_ble_eq_true rfl, Nat.le_of_ble_eq_true rfl⟩) hS (fun q _ h => hFc q h) hFc (fun rv9 u t H1 locs ht hvm hw hB hz1 hk1 hS => ?_)
    try dsimp only at hw hB
    obtain ⟨hP1, hK1, hD1⟩ := hB
    rw [ht] at hP1
    obtain ⟨rfl, hw⟩ := hw
    obtain ⟨hP, hD⟩ := va_join (wr := []) (w1 := []) hP hD [0] [] rfl rfl (by decide) (by decide) hk1 hFc hP1 hD1
    have hw102 := hw
    clear hPc hDc hFc hz1 hk1 hP1 hK1 hD1
    generalize H1 = H at hP hS ⊢
    have hP : va_P (dC, dI) vcl [] H := hP
    have hD : va_D A [] := hD
    refine lv_iload hx hb d_Lw_law_301 (lv_at hl 1 rfl) ?_
    refine lv_icmp_eq (tgt := 308) hx hb d_Lw_law_303 (by decide) (fun hc103 => ?_) (fun hn9 => absurd (rfl) hn9)
    refine lv_iload hx hb d_Lw_law_308 (lv_at hl 1 rfl) ?_
    refine lv_if_ne (tgt := 332) hx hb d_Lw_law_310 (by decide) (fun hc104 => ?_) (fun hn9 => absurd hn9 (by decide))
    refine lv_goto (tgt := 1363) hx hb d_Lw_law_332 (by decide) ?_
    refine W.widen (k := 900) (n := 33000) (Nat.le_of_ble_eq_true rfl) (Nat.le_of_ble_eq_true rfl) ?_
    have hl9 : lv_has ls 8 [(0, .ref b), (4, .int 0)] := lv_sub hl [2, 6] rfl
    exact kk _ _ _ hS hl9
  have h2a : ¬ xs 4 < 1 := fun h9 => h2 (Or.inl h9)
  have h2b : ¬ 60 < xs 4 := fun h9 => h2 (Or.inr h9)
  obtain ⟨k, hk1, hk2, he⟩ := rng_1 (M := 60) (n := 60) (by decide) (by decide) h2a h2b
  have hs1 := hus1 h1a h1b
  have hP := hP.sub (ws' := [(ds, .inr (0, [.ref dr, .ref sv])), (sv, .inr (5, [.ref se, .ref pw, .ref g0, .ref ty, .ref an, .ref aw, .ref ts, .ref ss, .ref rq, .int 0, .int 0, .int 0])), (pw, .inl ((cT 2), 32, .inr (.inr (.inr (.inr gp))))), (uh, .inr (1, [.ref ur, .int 0])), (ur, .inl ((cT 0), 60, .inl (fun _ => 0))), (mo, .inr (12, mdF mq mZ mQ 0 0 (nI 20) (nI 0))), (mq 5, .inl ((cT 0), 1920, .inl (fun _ => 0))), (mq 6, .inl ((cT 0), 32, .inl (fun _ => 0))), (ou, .inl ((cT 1), 1, .inr (.inl fo)))]) [0, 3, 7, 8, 9, 22, 26, 27, 32] rfl
  have hD := hD.sub (ws' := [(ds, .inr (0, [.ref dr, .ref sv])), (sv, .inr (5, [.ref se, .ref pw, .ref g0, .ref ty, .ref an, .ref aw, .ref ts, .ref ss, .ref rq, .int 0, .int 0, .int 0])), (pw, .inl ((cT 2), 32, .inr (.inr (.inr (.inr gp))))), (uh, .inr (1, [.ref ur, .int 0])), (ur, .inl ((cT 0), 60, .inl (fun _ => 0))), (mo, .inr (12, mdF mq mZ mQ 0 0 (nI 20) (nI 0))), (mq 5, .inl ((cT 0), 1920, .inl (fun _ => 0))), (mq 6, .inl ((cT 0), 32, .inl (fun _ => 0))), (ou, .inl ((cT 1), 1, .inr (.inl fo)))]) [0, 3, 7, 8, 9, 22, 26, 27, 32] (by decide) rfl
  refine lv_aload_n hx hb d_Lw_law_216 rfl (lv_at hl 1 rfl) ?_
  refine lv_aload_n hx hb d_Lw_law_217 rfl (lv_at hl 0 rfl) ?_
  refine lv_iload hx hb d_Lw_law_218 (lv_at hl 4 rfl) ?_
  refine lv_iconst (v := 1) hx hb d_Lw_law_220 (by decide) ?_
  refine lv_iadd hx hb d_Lw_law_221 ?_
  refine va_sld hx hb hX hbl hbA hS (i := (0 + 1)) (vin (by decide)) d_Lw_law_222 ?_
  refine lv_topi (fun x106 e105 => ?_)
  obtain rfl : x106 = nI us := by rw [e105]; exact (congrArg xs (by decide)).trans (hs1)
  refine lv_aload_n hx hb d_Lw_law_223 rfl (lv_at hl 0 rfl) ?_
  refine lv_iload hx hb d_Lw_law_224 (lv_at hl 4 rfl) ?_
  refine lv_iconst (v := 2) hx hb d_Lw_law_226 (by decide) ?_
  refine lv_iadd hx hb d_Lw_law_227 ?_
  refine va_sld hx hb hX hbl hbA hS (i := (0 + 2)) (vin (by decide)) d_Lw_law_228 ?_
  refine lv_topi (fun x108 e107 => ?_)
  obtain rfl : x108 = xs 2 := by rw [e107]; exact congrArg xs (by decide)
  refine lv_i2l (v := (xs 2).toInt64) hx hb d_Lw_law_229 rfl ?_
  refine lv_bipush (v := 32) hx hb d_Lw_law_230 (by decide) ?_
  refine lv_lshl (v := ((xs 2).toInt64) <<< ((32 : Int32).toInt64 &&& 63)) hx hb d_Lw_law_232 rfl ?_
  refine lv_aload_n hx hb d_Lw_law_233 rfl (lv_at hl 0 rfl) ?_
  refine lv_iload hx hb d_Lw_law_234 (lv_at hl 4 rfl) ?_
  refine lv_iconst (v := 3) hx hb d_Lw_law_236 (by decide) ?_
  refine lv_iadd hx hb d_Lw_law_237 ?_
  refine va_sld hx hb hX hbl hbA hS (i := (0 + 3)) (vin (by decide)) d_Lw_law_238 ?_
  refine lv_topi (fun x110 e109 => ?_)
  obtain rfl : x110 = xs 3 := by rw [e109]; exact congrArg xs (by decide)
  refine lv_i2l (v := (xs 3).toInt64) hx hb d_Lw_law_239 rfl ?_
  refine lv_ldc2 (v := 4294967295) hx hb hown (hg _ k_1418) d_Lw_law_240 ?_
  refine lv_land hx hb d_Lw_law_243 ?_
  refine lv_lor hx hb d_Lw_law_244 ?_
  refine lv_aload_n hx hb d_Lw_law_245 rfl (lv_at hl 0 rfl) ?_
  refine lv_iload hx hb d_Lw_law_246 (lv_at hl 4 rfl) ?_
  refine lv_iconst (v := 4) hx hb d_Lw_law_248 (by decide) ?_
  refine lv_iadd hx hb d_Lw_law_249 ?_
  refine va_sld hx hb hX hbl hbA hS (i := (0 + 4)) (vin (by decide)) d_Lw_law_250 ?_
  refine lv_topi (fun x112 e111 => ?_)
  obtain rfl : x112 = nI k := by rw [e111]; exact (congrArg xs (by decide)).trans (he)
  refine lv_aload_n hx hb d_Lw_law_251 rfl (lv_at hl 3 rfl) ?_
  have hPc := hP.sub (ws' := [(ds, .inr (0, [.ref dr, .ref sv])), (sv, .inr (5, [.ref se, .ref pw, .ref g0, .ref ty, .ref an, .ref aw, .ref ts, .ref ss, .ref rq, .int 0, .int 0, .int 0])), (pw, .inl ((cT 2), 32, .inr (.inr (.inr (.inr gp))))), (uh, .inr (1, [.ref ur, .int 0])), (ur, .inl ((cT 0), 60, .inl (fun _ => 0))), (ou, .inl ((cT 1), 1, .inr (.inl fo)))]) [0, 1, 2, 3, 4, 8] rfl
  have hDc := hD.sub (ws' := [(ds, .inr (0, [.ref dr, .ref sv])), (sv, .inr (5, [.ref se, .ref pw, .ref g0, .ref ty, .ref an, .ref aw, .ref ts, .ref ss, .ref rq, .int 0, .int 0, .int 0])), (pw, .inl ((cT 2), 32, .inr (.inr (.inr (.inr gp))))), (uh, .inr (1, [.ref ur, .int 0])), (ur, .inl ((cT 0), 60, .inl (fun _ => 0))), (ou, .inl ((cT 1), 1, .inr (.inl fo)))]) [0, 1, 2, 3, 4, 8] (by decide) rfl
  have hFc := va_free (wc := [(ds, .inr (0, [.ref dr, .ref sv])), (sv, .inr (5, [.ref se, .ref pw, .ref g0, .ref ty, .ref an, .ref aw, .ref ts, .ref ss, .ref rq, .int 0, .int 0, .int 0])), (pw, .inl ((cT 2), 32, .inr (.inr (.inr (.inr gp))))), (uh, .inr (1, [.ref ur, .int 0])), (ur, .inl ((cT 0), 60, .inl (fun _ => 0))), (ou, .inl ((cT 1), 1, .inr (.inl fo)))]) hD hS hA [0, 1, 2, 3, 4, 8] rfl
  refine va_calli (xw_runS (As := [.ref ds, .int (nI us), .long ((((xs 2).toInt64) <<< ((32 : Int32).toInt64 &&& 63)) ||| (((xs 3).toInt64) &&& 4294967295)), .int (nI k), .ref ou]) (rest := []) ⟨hx, hb, hml, hown, hg⟩ (l_user l dC dI cT H.size ds dr sv rr g0 se pw ty an aw ts ss rq 0 0 0 uh ur (fun _ => 0) gp us ((((xs 2).toInt64) <<< ((32 : Int32).toInt64 &&& 63)) ||| (((xs 3).toInt64) &&& 4294967295)) k ou fo (hus) (hgp) (hk1) (hk2)) rfl (gI (List.forall_mem_cons.mpr ⟨k_470, fun _ h => h⟩)) (hg _ k_468) (hg _ k_469) (hg _ k_0) rfl rfl (n := 5) (by decide +kernel) ⟨Nat.le_of_ble_eq_true rfl, Nat.le_of_ble_eq_true rfl⟩ ⟨fun a U g mk q => by obtain ⟨q0, q1, qP, qK, qD⟩ := q; exact ⟨q0, q1, qP, va_K.moved (u := U) (U := U.calling g mk a) (Vm.Alike.refl U.vm) qK, qD⟩, fun U hU hW => ⟨rfl, by rw [hU], by rw [hU]; exact hPc, va_K.moved hW.alike hK, hDc.weaken (fun _ _ _ _ => trivial)⟩⟩ rfl rfl hl.1 rfl (lv_room (Nat.le_of_ble_eq_true rfl)) d_Lw_law_252 ⟨Nat.le_of_ble_eq_true rfl, Nat.le_of_ble_eq_true rfl⟩) hS (fun q _ h => hFc q h) hFc (fun rv9 u t H1 locs ht hvm hw hB hz1 hk1 hS => ?_)
  try dsimp only at hw hB
  obtain ⟨hP1, hK1, hD1⟩ := hB
  rw [ht] at hP1
  obtain ⟨rfl, hw⟩ := hw
  obtain ⟨hP, hD⟩ := va_join (wr := [(mo, .inr (12, mdF mq mZ mQ 0 0 (nI 20) (nI 0))), (mq 5, .inl ((cT 0), 1920, .inl (fun _ => 0))), (mq 6, .inl ((cT 0), 32, .inl (fun _ => 0)))]) (w1 := [(ou, .inl ((cT 1), 1, .inr (.inl (vp_updL fo (0 : Int32).toNatClampNeg 1))))]) hP hD [0, 1, 2, 3, 4, 8] [5, 6, 7] rfl rfl (by decide) (by decide) hk1 hFc hP1 hD1
  have hw113 := hw
  clear hPc hDc hFc hz1 hk1 hP1 hK1 hD1
  generalize H1 = H at hP hS ⊢
  have hP : va_P (dC, dI) vcl [(mo, .inr (12, mdF mq mZ mQ 0 0 (nI 20) (nI 0))), (mq 5, .inl ((cT 0), 1920, .inl (fun _ => 0))), (mq 6, .inl ((cT 0), 32, .inl (fun _ => 0))), (ou, .inl ((cT 1), 1, .inr (.inl (vp_updL fo (0 : Int32).toNatClampNeg 1))))] H := hP
  have hD : va_D A [(mo, .inr (12, mdF mq mZ mQ 0 0 (nI 20) (nI 0))), (mq 5, .inl ((cT 0), 1920, .inl (fun _ => 0))), (mq 6, .inl ((cT 0), 32, .inl (fun _ => 0))), (ou, .inl ((cT 1), 1, .inr (.inl (vp_updL fo (0 : Int32).toNatClampNeg 1))))] := hD
  refine lv_istore (lv' := [(5, .int 0), (0, .ref b), (1, .ref ds), (2, .ref mo), (3, .ref ou), (4, .int 0)]) hx hb d_Lw_law_255 hl (by decide) rfl (fun ls hl => ?_)
  refine lv_aload_n hx hb d_Lw_law_257 rfl (lv_at hl 3 rfl) ?_
  refine lv_aload_n hx hb d_Lw_law_258 rfl (lv_at hl 1 rfl) ?_
  refine lv_iload hx hb d_Lw_law_259 (lv_at hl 5 rfl) ?_
  refine lv_iconst (v := 1) hx hb d_Lw_law_261 (by decide) ?_
  refine lv_iadd hx hb d_Lw_law_262 ?_
  refine va_sld hx hb hX hbl hbA hS (i := (0 + 1)) (vin (by decide)) d_Lw_law_263 ?_
  refine lv_topi (fun x115 e114 => ?_)
  obtain rfl : x115 = nI us := by rw [e114]; exact (congrArg xs (by decide)).trans (hs1)
  refine lv_aload_n hx hb d_Lw_law_264 rfl (lv_at hl 1 rfl) ?_
  refine lv_iload hx hb d_Lw_law_265 (lv_at hl 5 rfl) ?_
  refine lv_iconst (v := 2) hx hb d_Lw_law_267 (by decide) ?_
  refine lv_iadd hx hb d_Lw_law_268 ?_
  refine va_sld hx hb hX hbl hbA hS (i := (0 + 2)) (vin (by decide)) d_Lw_law_269 ?_
  refine lv_topi (fun x117 e116 => ?_)
  obtain rfl : x117 = xs 2 := by rw [e116]; exact congrArg xs (by decide)
  refine lv_i2l (v := (xs 2).toInt64) hx hb d_Lw_law_270 rfl ?_
  refine lv_bipush (v := 32) hx hb d_Lw_law_271 (by decide) ?_
  refine lv_lshl (v := ((xs 2).toInt64) <<< ((32 : Int32).toInt64 &&& 63)) hx hb d_Lw_law_273 rfl ?_
  refine lv_aload_n hx hb d_Lw_law_274 rfl (lv_at hl 1 rfl) ?_
  refine lv_iload hx hb d_Lw_law_275 (lv_at hl 5 rfl) ?_
  refine lv_iconst (v := 3) hx hb d_Lw_law_277 (by decide) ?_
  refine lv_iadd hx hb d_Lw_law_278 ?_
  refine va_sld hx hb hX hbl hbA hS (i := (0 + 3)) (vin (by decide)) d_Lw_law_279 ?_
  refine lv_topi (fun x119 e118 => ?_)
  obtain rfl : x119 = xs 3 := by rw [e118]; exact congrArg xs (by decide)
  refine lv_i2l (v := (xs 3).toInt64) hx hb d_Lw_law_280 rfl ?_
  refine lv_ldc2 (v := 4294967295) hx hb hown (hg _ k_1418) d_Lw_law_281 ?_
  refine lv_land hx hb d_Lw_law_284 ?_
  refine lv_lor hx hb d_Lw_law_285 ?_
  refine lv_aload_n hx hb d_Lw_law_286 rfl (lv_at hl 1 rfl) ?_
  refine lv_iload hx hb d_Lw_law_287 (lv_at hl 5 rfl) ?_
  refine lv_iconst (v := 4) hx hb d_Lw_law_289 (by decide) ?_
  refine lv_iadd hx hb d_Lw_law_290 ?_
  refine va_sld hx hb hX hbl hbA hS (i := (0 + 4)) (vin (by decide)) d_Lw_law_291 ?_
  refine lv_topi (fun x121 e120 => ?_)
  obtain rfl : x121 = nI k := by rw [e120]; exact (congrArg xs (by decide)).trans (he)
  have hPc := hP.sub (ws' := [(mo, .inr (12, mdF mq mZ mQ 0 0 (nI 20) (nI 0))), (mq 5, .inl ((cT 0), 1920, .inl (fun _ => 0))), (mq 6, .inl ((cT 0), 32, .inl (fun _ => 0)))]) [0, 1, 2] rfl
  have hDc := hD.sub (ws' := [(mo, .inr (12, mdF mq mZ mQ 0 0 (nI 20) (nI 0))), (mq 5, .inl ((cT 0), 1920, .inl (fun _ => 0))), (mq 6, .inl ((cT 0), 32, .inl (fun _ => 0)))]) [0, 1, 2] (by decide) rfl
  have hFc := va_free (wc := [(mo, .inr (12, mdF mq mZ mQ 0 0 (nI 20) (nI 0))), (mq 5, .inl ((cT 0), 1920, .inl (fun _ => 0))), (mq 6, .inl ((cT 0), 32, .inl (fun _ => 0)))]) hD hS hA [0, 1, 2] rfl
  refine va_calli (va_runV (C := "DoorServerModel") (As := [.int (nI us), .long ((((xs 2).toInt64) <<< ((32 : Int32).toInt64 &&& 63)) ||| (((xs 3).toInt64) &&& 4294967295)), .int (nI k)]) (rest := []) ⟨hx, hb, hml, hown, hg⟩ (o_user l dC dI cT H.size mo mq mZ mQ 0 0 20 0 (fun _ => 0) (fun _ => 0) us ((((xs 2).toInt64) <<< ((32 : Int32).toInt64 &&& 63)) ||| (((xs 3).toInt64) &&& 4294967295)) k (hus) (hk1) (hk2) (rfl)) (cwV 3 hg (gI (List.forall_mem_append.mpr ⟨List.forall_mem_cons.mpr ⟨k_1173, List.forall_mem_cons.mpr ⟨k_1174, List.forall_mem_cons.mpr ⟨k_1175, List.forall_mem_cons.mpr ⟨k_13, fun _ h => absurd h List.not_mem_nil⟩⟩⟩⟩, List.forall_mem_cons.mpr ⟨k_1176, fun _ h => h⟩⟩)) rfl rfl rfl (by decide +kernel) ⟨Nat.le_of_ble_eq_true rfl, Nat.le_of_ble_eq_true rfl⟩) ⟨fun a U g mk q => by obtain ⟨q0, q1, qP, qK, qD⟩ := q; exact ⟨q0, q1, qP, va_K.moved (u := U) (U := U.calling g mk a) (Vm.Alike.refl U.vm) qK, qD⟩, va_recv (q0 := 0) (ci := 12) hK hP rfl rfl, fun U hU hW => ⟨rfl, by rw [hU], by rw [hU]; exact hPc, va_K.moved hW.alike hK, hDc.weaken (fun _ _ _ _ => trivial)⟩⟩ rfl rfl hl.1 rfl (lv_room (Nat.le_of_ble_eq_true rfl)) d_Lw_law_292 ⟨Nat.le_of_ble_eq_true rfl, Nat.le_of_ble_eq_true rfl⟩) hS (fun q _ h => hFc q h) hFc (fun rv9 u t H1 locs ht hvm hw hB hz1 hk1 hS => ?_)
  try dsimp only at hw hB
  obtain ⟨hP1, hK1, hD1⟩ := hB
  rw [ht] at hP1
  obtain ⟨rfl, hw⟩ := hw
  obtain ⟨hP, hD⟩ := va_join (wr := [(ou, .inl ((cT 1), 1, .inr (.inl (vp_updL fo (0 : Int32).toNatClampNeg 1))))]) (w1 := [(mo, .inr (12, mdF mq mZ mQ 0 0 (nI 20) (nI 0)))]) hP hD [0, 1, 2] [3] rfl rfl (by decide) (by decide) hk1 hFc hP1 hD1
  have hw122 := hw
  clear hPc hDc hFc hz1 hk1 hP1 hK1 hD1
  generalize H1 = H at hP hS ⊢
  have hP : va_P (dC, dI) vcl [(ou, .inl ((cT 1), 1, .inr (.inl (vp_updL fo (0 : Int32).toNatClampNeg 1)))), (mo, .inr (12, mdF mq mZ mQ 0 0 (nI 20) (nI 0)))] H := hP
  have hD : va_D A [(ou, .inl ((cT 1), 1, .inr (.inl (vp_updL fo (0 : Int32).toNatClampNeg 1)))), (mo, .inr (12, mdF mq mZ mQ 0 0 (nI 20) (nI 0)))] := hD
  refine lv_istore (lv' := [(6, .int 1), (5, .int 0), (0, .ref b), (1, .ref ds), (2, .ref mo), (3, .ref ou), (4, .int 0)]) hx hb d_Lw_law_295 hl (by decide) rfl (fun ls hl => ?_)
  refine lv_aload_n hx hb d_Lw_law_297 rfl (lv_at hl 4 rfl) ?_
  have hPc := hP.sub (ws' := [(mo, .inr (12, mdF mq mZ mQ 0 0 (nI 20) (nI 0)))]) [1] rfl
  have hDc := hD.sub (ws' := [(mo, .inr (12, mdF mq mZ mQ 0 0 (nI 20) (nI 0)))]) [1] (by decide) rfl
  have hFc := va_free (wc := [(mo, .inr (12, mdF mq mZ mQ 0 0 (nI 20) (nI 0)))]) hD hS hA [1] rfl
  refine va_calli (va_runV (C := "DoorServerModel") (As := []) (rest := []) ⟨hx, hb, hml, hown, hg⟩ (m_thrown l dC dI cT H.size mo mq mZ mQ 0 0 20 0 ) (cwV 0 hg (gI (List.forall_mem_append.mpr ⟨List.forall_mem_cons.mpr ⟨k_1157, List.forall_mem_cons.mpr ⟨k_1158, List.forall_mem_cons.mpr ⟨k_1159, List.forall_mem_cons.mpr ⟨k_13, fun _ h => absurd h List.not_mem_nil⟩⟩⟩⟩, List.forall_mem_cons.mpr ⟨k_1160, fun _ h => h⟩⟩)) rfl rfl rfl (by decide +kernel) ⟨Nat.le_of_ble_eq_true rfl, Nat.le_of_ble_eq_true rfl⟩) ⟨fun a U g mk q => by obtain ⟨q0, q1, qP, qK, qD⟩ := q; exact ⟨q0, q1, qP, va_K.moved (u := U) (U := U.calling g mk a) (Vm.Alike.refl U.vm) qK, qD⟩, va_recv (q0 := 1) (ci := 12) hK hP rfl rfl, fun U hU hW => ⟨rfl, by rw [hU], by rw [hU]; exact hPc, va_K.moved hW.alike hK, hDc.weaken (fun _ _ _ _ => trivial)⟩⟩ rfl rfl hl.1 rfl (lv_room (Nat.le_of_ble_eq_true rfl)) d_Lw_law_298 ⟨Nat.le_of_ble_eq_true rfl, Nat.le_of_ble_eq_true rfl⟩) hS (fun q _ h => hFc q h) hFc (fun rv9 u t H1 locs ht hvm hw hB hz1 hk1 hS => ?_)
  try dsimp only at hw hB
  obtain ⟨hP1, hK1, hD1⟩ := hB
  rw [ht] at hP1
  obtain ⟨rfl, hw⟩ := hw
  obtain ⟨hP, hD⟩ := va_join (wr := [(ou, .inl ((cT 1), 1, .inr (.inl (vp_updL fo (0 : Int32).toNatClampNeg 1))))]) (w1 := []) hP hD [1] [0] rfl rfl (by decide) (by decide) hk1 hFc hP1 hD1
  have hw123 := hw
  clear hPc hDc hFc hz1 hk1 hP1 hK1 hD1
  generalize H1 = H at hP hS ⊢
  have hP : va_P (dC, dI) vcl [(ou, .inl ((cT 1), 1, .inr (.inl (vp_updL fo (0 : Int32).toNatClampNeg 1))))] H := hP
  have hD : va_D A [(ou, .inl ((cT 1), 1, .inr (.inl (vp_updL fo (0 : Int32).toNatClampNeg 1))))] := hD
  refine lv_iload hx hb d_Lw_law_301 (lv_at hl 1 rfl) ?_
  refine lv_icmp_eq (tgt := 308) hx hb d_Lw_law_303 (by decide) (fun hc124 => ?_) (fun hn9 => absurd (rfl) hn9)
  refine lv_iload hx hb d_Lw_law_308 (lv_at hl 1 rfl) ?_
  refine lv_if_ne (tgt := 332) hx hb d_Lw_law_310 (by decide) (fun hn9 => absurd hn9 (fun h => h rfl)) (fun hc125 => ?_)
  refine lv_aload_n hx hb d_Lw_law_313 rfl (lv_at hl 5 rfl) ?_
  refine lv_iconst (v := 0) hx hb d_Lw_law_314 (by decide) ?_
  refine va_lald hx hb hK hP 0 1 rfl rfl (i := 0) (vp_in_nI (n := 0) (N := 1) (by decide) (by decide)) d_Lw_law_315 ?_
  refine lv_topl (fun x127 e126 => ?_)
  obtain rfl : x127 = 1 := by rw [e126]; exact updL_eq
  refine lv_iload hx hb d_Lw_law_316 (lv_at hl 0 rfl) ?_
  refine lv_if_eq (tgt := 325) hx hb d_Lw_law_318 (by decide) (fun hn9 => absurd hn9 (by decide)) (fun hc128 => ?_)
  refine lv_lconst (v := 1) hx hb d_Lw_law_321 (by decide) ?_
  refine lv_goto (tgt := 326) hx hb d_Lw_law_322 (by decide) ?_
  refine W.lcmp hx hb d_Lw_law_326 ?_
  refine lv_if_eq (tgt := 332) hx hb d_Lw_law_327 (by decide) (fun hc129 => ?_) (fun hn9 => absurd (cmp_e (rfl)) hn9)
  refine lv_goto (tgt := 1363) hx hb d_Lw_law_332 (by decide) ?_
  refine W.widen (k := 900) (n := 33000) (Nat.le_of_ble_eq_true rfl) (Nat.le_of_ble_eq_true rfl) ?_
  have hl9 : lv_has ls 8 [(0, .ref b), (4, .int 0)] := lv_sub hl [2, 6] rfl
  exact kk _ _ _ hS hl9
set_option maxHeartbeats 4000000 in
set_option maxRecDepth 100000 in
theorem lw_case2 {p : Program} {l : Launch} {e : Env} {s : State} {m : MethodId} {args : Array Value} {below : List Frame} {meth : Method} {c : Code} {Q : State → Prop} {A : Nat → Prop} {b : Nat} {xs : Nat → Int32} {H : Heap} {locs : List Loc} {ls : Array Slot} (dC : Nat → ClassId) (dI : Nat → Nat → Nat) (cT : Nat → ClassId) (ds : Nat) (dr : Nat) (sv : Nat) (rr : Nat) (se : Nat) (pw : Nat) (g0 : Nat) (ty : Nat) (an : Nat) (aw : Nat) (ts : Nat) (ss : Nat) (rq : Nat) (sh : Nat) (sr : Nat) (uh : Nat) (ur : Nat) (tx : Nat) (tr : Nat) (wo : Nat) (di : Nat) (ar : Nat) (a1 : Nat) (t1 : Nat) (s1 : Nat) (sa : Nat) (mo : Nat) (ou : Nat) (st us : Nat) (gs gp : Nat → Option Nat) (df sf mc mz mf mZ : Nat → Int32) (mS mQ fo : Nat → Int64) (mq : Nat → Nat) (hx : p.tables.exec = Jvm.exec) (hb : c.code = b_Lw_law) (hml : c.maxLocals = 8) (hown : s.vm.findClass "DoorServerLaw" = some m.cls) (hg : ∀ w ∈ BIG, w.before args s = true) (hX : va_X b 5 xs s s.heap) (hbl : b < s.heap.size) (hbA : ¬ A b) (hA : ∀ q : Nat, s.heap.size ≤ q → A q) (hK : va_K (dC, dI) vcl (tyL cT) s) (hfl : l.flags = pinnedFlags ++ [noTraceFlag]) (hXm : xm A s s.heap) (hXz : xz_T A s s.heap) (hst : st < 4) (hus : us < 32) (hgs : gs st = some sh) (hgp : gp us = some uh) (hst1 : ¬ xs 1 < 0 → ¬ 3 < xs 1 → xs 1 = nI st) (hus1 : ¬ xs 1 < 0 → ¬ 31 < xs 1 → xs 1 = nI us) (hdf : df 0 = 1 ∧ df 1 = 0 ∧ df 2 = 0 ∧ df 3 = 20 ∧ ∀ q9, q9 < 8 → df (4 + q9) = bn_at 0 q9 ∧ df (12 + q9) = bn_at 0 q9 ^^^ 90) (hmf : mf 0 = 1 ∧ mf 1 = 0 ∧ mf 2 = 0 ∧ mf 3 = 20 ∧ ∀ k9, k9 < 16 → mf (4 + k9) = mb_at 0 k9) (hmz : ∀ q9, q9 < 4 → mz q9 = 1) (hz : mZ 14 = 0 ∧ mZ 17 = 0 ∧ mZ 24 = 0 ∧ mZ 33 = 0 ∧ mZ 43 = 0 ∧ mZ 44 = 0) (kk : ∀ (H : Heap) (locs : List Loc) (ls : Array Slot), va_S A s.heap H locs → lv_has ls 8 [(0, .ref b), (4, .int 0)] → W p l e room_1 s m args below meth c H locs 900 33000 Q (F0 m 1363 ls [])) (hP : va_P (dC, dI) vcl [(ds, .inr (0, [.ref dr, .ref sv])), (dr, .inr (2, [.ref rr, .int (nI 20)])), (rr, .inl ((cT 0), 1000, .inl df)), (sv, .inr (5, [.ref se, .ref pw, .ref g0, .ref ty, .ref an, .ref aw, .ref ts, .ref ss, .ref rq, .int 0, .int 0, .int 0])), (se, .inl ((cT 2), 4, .inr (.inr (.inr (.inr gs))))), (sh, .inr (1, [.ref sr, .int (nI 1)])), (sr, .inl ((cT 0), 40, .inl sf)), (pw, .inl ((cT 2), 32, .inr (.inr (.inr (.inr gp))))), (uh, .inr (1, [.ref ur, .int 0])), (ur, .inl ((cT 0), 60, .inl (fun _ => 0))), (g0, .inr (3, [.ref tx, .ref wo, .ref di, .int 0, .int 0, .int 0, .int 0])), (tx, .inr (1, [.ref tr, .int (nI 0)])), (tr, .inl ((cT 0), 1192, .inl (fun _ => 0))), (wo, .inl ((cT 0), 16, .inl (fun _ => 0))), (di, .inl ((cT 0), 16, .inl (fun _ => 0))), (an, .inr (2, [.ref ar, .int 0])), (ar, .inl ((cT 0), 72, .inl (fun _ => 0))), (aw, .inr (6, [.ref a1, .int 0, .int 0])), (ts, .inr (9, [.ref t1, .long 0, .long 1, .int 0])), (ss, .inr (11, [.ref s1, .int 0])), (rq, .inr (4, [.ref dr, .ref sa])), (sa, .inl ((cT 0), 256, .inl (fun _ => 0))), (mo, .inr (12, mdF mq mZ mQ 0 0 (nI 20) (nI 0))), (mq 0, .inl ((cT 1), 64, .inr (.inl mS))), (mq 3, .inl ((cT 0), 160, .inl mc)), (mq 4, .inl ((cT 0), 4, .inl mz)), (mq 5, .inl ((cT 0), 1920, .inl (fun _ => 0))), (mq 6, .inl ((cT 0), 32, .inl (fun _ => 0))), (mq 7, .inl ((cT 0), 1000, .inl mf)), (mq 9, .inl ((cT 0), 1400, .inl (fun _ => 0))), (mq 11, .inl ((cT 0), 16, .inl (fun _ => 0))), (mq 12, .inl ((cT 0), 1200, .inl (fun _ => 0))), (ou, .inl ((cT 1), 1, .inr (.inl fo)))] H) (hD : va_D A [(ds, .inr (0, [.ref dr, .ref sv])), (dr, .inr (2, [.ref rr, .int (nI 20)])), (rr, .inl ((cT 0), 1000, .inl df)), (sv, .inr (5, [.ref se, .ref pw, .ref g0, .ref ty, .ref an, .ref aw, .ref ts, .ref ss, .ref rq, .int 0, .int 0, .int 0])), (se, .inl ((cT 2), 4, .inr (.inr (.inr (.inr gs))))), (sh, .inr (1, [.ref sr, .int (nI 1)])), (sr, .inl ((cT 0), 40, .inl sf)), (pw, .inl ((cT 2), 32, .inr (.inr (.inr (.inr gp))))), (uh, .inr (1, [.ref ur, .int 0])), (ur, .inl ((cT 0), 60, .inl (fun _ => 0))), (g0, .inr (3, [.ref tx, .ref wo, .ref di, .int 0, .int 0, .int 0, .int 0])), (tx, .inr (1, [.ref tr, .int (nI 0)])), (tr, .inl ((cT 0), 1192, .inl (fun _ => 0))), (wo, .inl ((cT 0), 16, .inl (fun _ => 0))), (di, .inl ((cT 0), 16, .inl (fun _ => 0))), (an, .inr (2, [.ref ar, .int 0])), (ar, .inl ((cT 0), 72, .inl (fun _ => 0))), (aw, .inr (6, [.ref a1, .int 0, .int 0])), (ts, .inr (9, [.ref t1, .long 0, .long 1, .int 0])), (ss, .inr (11, [.ref s1, .int 0])), (rq, .inr (4, [.ref dr, .ref sa])), (sa, .inl ((cT 0), 256, .inl (fun _ => 0))), (mo, .inr (12, mdF mq mZ mQ 0 0 (nI 20) (nI 0))), (mq 0, .inl ((cT 1), 64, .inr (.inl mS))), (mq 3, .inl ((cT 0), 160, .inl mc)), (mq 4, .inl ((cT 0), 4, .inl mz)), (mq 5, .inl ((cT 0), 1920, .inl (fun _ => 0))), (mq 6, .inl ((cT 0), 32, .inl (fun _ => 0))), (mq 7, .inl ((cT 0), 1000, .inl mf)), (mq 9, .inl ((cT 0), 1400, .inl (fun _ => 0))), (mq 11, .inl ((cT 0), 16, .inl (fun _ => 0))), (mq 12, .inl ((cT 0), 1200, .inl (fun _ => 0))), (ou, .inl ((cT 1), 1, .inr (.inl fo)))]) (hS : va_S A s.heap H locs) (hl : lv_has ls 8 [(0, .ref b), (1, .ref ds), (2, .ref mo), (3, .ref ou), (4, .int 0)]) : W p l e room_1 s m args below meth c H locs 800 32000 Q (F0 m 335 ls []) := by
  by_cases h1 : xs 1 < 0 ∨ 255 < xs 1
  · skip
    have hP := hP.sub (ws' := [(ds, .inr (0, [.ref dr, .ref sv])), (mo, .inr (12, mdF mq mZ mQ 0 0 (nI 20) (nI 0)))]) [0, 22] rfl
    have hD := hD.sub (ws' := [(ds, .inr (0, [.ref dr, .ref sv])), (mo, .inr (12, mdF mq mZ mQ 0 0 (nI 20) (nI 0)))]) [0, 22] (by decide) rfl
    refine lv_aload_n hx hb d_Lw_law_335 rfl (lv_at hl 1 rfl) ?_
    refine lv_aload_n hx hb d_Lw_law_336 rfl (lv_at hl 0 rfl) ?_
    refine lv_iload hx hb d_Lw_law_337 (lv_at hl 4 rfl) ?_
    refine lv_iconst (v := 1) hx hb d_Lw_law_339 (by decide) ?_
    refine lv_iadd hx hb d_Lw_law_340 ?_
    refine va_sld hx hb hX hbl hbA hS (i := (0 + 1)) (vin (by decide)) d_Lw_law_341 ?_
    refine lv_topi (fun x131 e130 => ?_)
    obtain rfl : x131 = xs 1 := by rw [e130]; exact congrArg xs (by decide)
    refine lv_aload_n hx hb d_Lw_law_342 rfl (lv_at hl 0 rfl) ?_
    refine lv_iload hx hb d_Lw_law_343 (lv_at hl 4 rfl) ?_
    refine lv_iconst (v := 2) hx hb d_Lw_law_345 (by decide) ?_
    refine lv_iadd hx hb d_Lw_law_346 ?_
    refine va_sld hx hb hX hbl hbA hS (i := (0 + 2)) (vin (by decide)) d_Lw_law_347 ?_
    refine lv_topi (fun x133 e132 => ?_)
    obtain rfl : x133 = xs 2 := by rw [e132]; exact congrArg xs (by decide)
    refine lv_aload_n hx hb d_Lw_law_348 rfl (lv_at hl 0 rfl) ?_
    refine lv_iload hx hb d_Lw_law_349 (lv_at hl 4 rfl) ?_
    refine lv_iconst (v := 3) hx hb d_Lw_law_351 (by decide) ?_
    refine lv_iadd hx hb d_Lw_law_352 ?_
    refine va_sld hx hb hX hbl hbA hS (i := (0 + 3)) (vin (by decide)) d_Lw_law_353 ?_
    refine lv_topi (fun x135 e134 => ?_)
    obtain rfl : x135 = xs 3 := by rw [e134]; exact congrArg xs (by decide)
    refine lv_i2l (v := (xs 3).toInt64) hx hb d_Lw_law_354 rfl ?_
    refine lv_bipush (v := 32) hx hb d_Lw_law_355 (by decide) ?_
    refine lv_lshl (v := ((xs 3).toInt64) <<< ((32 : Int32).toInt64 &&& 63)) hx hb d_Lw_law_357 rfl ?_
    refine lv_aload_n hx hb d_Lw_law_358 rfl (lv_at hl 0 rfl) ?_
    refine lv_iload hx hb d_Lw_law_359 (lv_at hl 4 rfl) ?_
    refine lv_iconst (v := 4) hx hb d_Lw_law_361 (by decide) ?_
    refine lv_iadd hx hb d_Lw_law_362 ?_
    refine va_sld hx hb hX hbl hbA hS (i := (0 + 4)) (vin (by decide)) d_Lw_law_363 ?_
    refine lv_topi (fun x137 e136 => ?_)
    obtain rfl : x137 = xs 4 := by rw [e136]; exact congrArg xs (by decide)
    refine lv_i2l (v := (xs 4).toInt64) hx hb d_Lw_law_364 rfl ?_
    refine lv_ldc2 (v := 4294967295) hx hb hown (hg _ k_1418) d_Lw_law_365 ?_
    refine lv_land hx hb d_Lw_law_368 ?_
    refine lv_lor hx hb d_Lw_law_369 ?_
    have hPc := hP.sub (ws' := [(ds, .inr (0, [.ref dr, .ref sv]))]) [0] rfl
    have hDc := hD.sub (ws' := [(ds, .inr (0, [.ref dr, .ref sv]))]) [0] (by decide) rfl
    have hFc := va_free (wc := [(ds, .inr (0, [.ref dr, .ref sv]))]) hD hS hA [0] rfl
    refine va_calli (xw_runS (As := [.ref ds, .int (xs 1), .int (xs 2), .long ((((xs 3).toInt64) <<< ((32 : Int32).toInt64 &&& 63)) ||| (((xs 4).toInt64) &&& 4294967295))]) (rest := []) ⟨hx, hb, hml, hown, hg⟩ (t_draft1 l dC dI cT H.size ds (xs 1) (xs 2) ((((xs 3).toInt64) <<< ((32 : Int32).toInt64 &&& 63)) ||| (((xs 4).toInt64) &&& 4294967295)) dr sv (hfl) (h1)) rfl (gI (List.forall_mem_cons.mpr ⟨k_484, fun _ h => h⟩)) (hg _ k_482) (hg _ k_483) (hg _ k_0) rfl rfl (n := 4) (by decide +kernel) ⟨Nat.le_of_ble_eq_true rfl, Nat.le_of_ble_eq_true rfl⟩ ⟨fun a U g mk q => by obtain ⟨q0, q1, qP, qK, qD, qE⟩ := q; exact ⟨q0, q1, qP, va_K.moved (u := U) (U := U.calling g mk a) (Vm.Alike.refl U.vm) qK, qD, qE.at (State.WarmedH.refl _) (fun _ _ _ => rfl) (fun _ h => h)⟩, fun U hU hW => ⟨rfl, by rw [hU], by rw [hU]; exact hPc, va_K.moved hW.alike hK, hDc.weaken (fun _ _ _ _ => trivial), by rw [hU]; exact hXz.at hW hS.2.1 (fun _ h => h.elim)⟩⟩ rfl rfl hl.1 rfl (lv_room (Nat.le_of_ble_eq_true rfl)) d_Lw_law_370 ⟨Nat.le_of_ble_eq_true rfl, Nat.le_of_ble_eq_true rfl⟩) hS (fun q _ h => hFc q h) hFc (fun rv9 u t H1 locs ht hvm hw hB hz1 hk1 hS => ?_)
    try dsimp only at hw hB
    obtain ⟨hP1, hK1, hD1⟩ := hB
    rw [ht] at hP1
    obtain ⟨rfl, hw⟩ := hw
    obtain ⟨hP, hD⟩ := va_join (wr := [(mo, .inr (12, mdF mq mZ mQ 0 0 (nI 20) (nI 0)))]) (w1 := []) hP hD [0] [1] rfl rfl (by decide) (by decide) hk1 hFc hP1 hD1
    have hw138 := hw
    clear hPc hDc hFc hz1 hk1 hP1 hK1 hD1
    generalize H1 = H at hP hS ⊢
    have hP : va_P (dC, dI) vcl [(mo, .inr (12, mdF mq mZ mQ 0 0 (nI 20) (nI 0)))] H := hP
    have hD : va_D A [(mo, .inr (12, mdF mq mZ mQ 0 0 (nI 20) (nI 0)))] := hD
    refine lv_istore (lv' := [(5, .int 1), (0, .ref b), (1, .ref ds), (2, .ref mo), (3, .ref ou), (4, .int 0)]) hx hb d_Lw_law_373 hl (by decide) rfl (fun ls hl => ?_)
    refine lv_aload_n hx hb d_Lw_law_375 rfl (lv_at hl 3 rfl) ?_
    refine lv_aload_n hx hb d_Lw_law_376 rfl (lv_at hl 1 rfl) ?_
    refine lv_iload hx hb d_Lw_law_377 (lv_at hl 5 rfl) ?_
    refine lv_iconst (v := 1) hx hb d_Lw_law_379 (by decide) ?_
    refine lv_iadd hx hb d_Lw_law_380 ?_
    refine va_sld hx hb hX hbl hbA hS (i := (0 + 1)) (vin (by decide)) d_Lw_law_381 ?_
    refine lv_topi (fun x140 e139 => ?_)
    obtain rfl : x140 = xs 1 := by rw [e139]; exact congrArg xs (by decide)
    refine lv_aload_n hx hb d_Lw_law_382 rfl (lv_at hl 1 rfl) ?_
    refine lv_iload hx hb d_Lw_law_383 (lv_at hl 5 rfl) ?_
    refine lv_iconst (v := 2) hx hb d_Lw_law_385 (by decide) ?_
    refine lv_iadd hx hb d_Lw_law_386 ?_
    refine va_sld hx hb hX hbl hbA hS (i := (0 + 2)) (vin (by decide)) d_Lw_law_387 ?_
    refine lv_topi (fun x142 e141 => ?_)
    obtain rfl : x142 = xs 2 := by rw [e141]; exact congrArg xs (by decide)
    refine lv_aload_n hx hb d_Lw_law_388 rfl (lv_at hl 1 rfl) ?_
    refine lv_iload hx hb d_Lw_law_389 (lv_at hl 5 rfl) ?_
    refine lv_iconst (v := 3) hx hb d_Lw_law_391 (by decide) ?_
    refine lv_iadd hx hb d_Lw_law_392 ?_
    refine va_sld hx hb hX hbl hbA hS (i := (0 + 3)) (vin (by decide)) d_Lw_law_393 ?_
    refine lv_topi (fun x144 e143 => ?_)
    obtain rfl : x144 = xs 3 := by rw [e143]; exact congrArg xs (by decide)
    refine lv_i2l (v := (xs 3).toInt64) hx hb d_Lw_law_394 rfl ?_
    refine lv_bipush (v := 32) hx hb d_Lw_law_395 (by decide) ?_
    refine lv_lshl (v := ((xs 3).toInt64) <<< ((32 : Int32).toInt64 &&& 63)) hx hb d_Lw_law_397 rfl ?_
    refine lv_aload_n hx hb d_Lw_law_398 rfl (lv_at hl 1 rfl) ?_
    refine lv_iload hx hb d_Lw_law_399 (lv_at hl 5 rfl) ?_
    refine lv_iconst (v := 4) hx hb d_Lw_law_401 (by decide) ?_
    refine lv_iadd hx hb d_Lw_law_402 ?_
    refine va_sld hx hb hX hbl hbA hS (i := (0 + 4)) (vin (by decide)) d_Lw_law_403 ?_
    refine lv_topi (fun x146 e145 => ?_)
    obtain rfl : x146 = xs 4 := by rw [e145]; exact congrArg xs (by decide)
    refine lv_i2l (v := (xs 4).toInt64) hx hb d_Lw_law_404 rfl ?_
    refine lv_ldc2 (v := 4294967295) hx hb hown (hg _ k_1418) d_Lw_law_405 ?_
    refine lv_land hx hb d_Lw_law_408 ?_
    refine lv_lor hx hb d_Lw_law_409 ?_
    have hPc := hP.sub (ws' := [(mo, .inr (12, mdF mq mZ mQ 0 0 (nI 20) (nI 0)))]) [0] rfl
    have hDc := hD.sub (ws' := [(mo, .inr (12, mdF mq mZ mQ 0 0 (nI 20) (nI 0)))]) [0] (by decide) rfl
    have hFc := va_free (wc := [(mo, .inr (12, mdF mq mZ mQ 0 0 (nI 20) (nI 0)))]) hD hS hA [0] rfl
    refine va_callv (va_runV (C := "DoorServerModel") (As := [.int (xs 1), .int (xs 2), .long ((((xs 3).toInt64) <<< ((32 : Int32).toInt64 &&& 63)) ||| (((xs 4).toInt64) &&& 4294967295))]) (rest := []) ⟨hx, hb, hml, hown, hg⟩ (b_draft1 l dC dI cT H.size mo mq mZ mQ 0 0 20 0 (xs 1) (xs 2) ((((xs 3).toInt64) <<< ((32 : Int32).toInt64 &&& 63)) ||| (((xs 4).toInt64) &&& 4294967295)) (h1)) (cwV 3 hg (gI (List.forall_mem_append.mpr ⟨List.forall_mem_cons.mpr ⟨k_1177, List.forall_mem_cons.mpr ⟨k_1178, List.forall_mem_cons.mpr ⟨k_1179, List.forall_mem_cons.mpr ⟨k_13, fun _ h => absurd h List.not_mem_nil⟩⟩⟩⟩, List.forall_mem_cons.mpr ⟨k_1180, fun _ h => h⟩⟩)) rfl rfl rfl (by decide +kernel) ⟨Nat.le_of_ble_eq_true rfl, Nat.le_of_ble_eq_true rfl⟩) ⟨fun a U g mk q => by obtain ⟨q0, q1, qP, qK, qD⟩ := q; exact ⟨q0, q1, qP, va_K.moved (u := U) (U := U.calling g mk a) (Vm.Alike.refl U.vm) qK, qD⟩, va_recv (q0 := 0) (ci := 12) hK hP rfl rfl, fun U hU hW => ⟨rfl, by rw [hU], by rw [hU]; exact hPc, va_K.moved hW.alike hK, hDc.weaken (fun _ _ _ _ => trivial)⟩⟩ rfl rfl hl.1 rfl (lv_room (Nat.le_of_ble_eq_true rfl)) d_Lw_law_410 ⟨Nat.le_of_ble_eq_true rfl, Nat.le_of_ble_eq_true rfl⟩) hS (fun q _ h => hFc q h) hFc (fun u t H1 locs ht hvm hw hB hz1 hk1 hS => ?_)
    try dsimp only at hw hB
    obtain ⟨hP1, hK1, hD1⟩ := hB
    rw [ht] at hP1
    obtain ⟨hP, hD⟩ := va_join (wr := []) (w1 := [(mo, .inr (12, mdF mq mZ mQ 1 0 (nI 20) (nI 0)))]) hP hD [0] [] rfl rfl (by decide) (by decide) hk1 hFc hP1 hD1
    have hw147 := hw
    clear hPc hDc hFc hz1 hk1 hP1 hK1 hD1
    generalize H1 = H at hP hS ⊢
    have hP : va_P (dC, dI) vcl [(mo, .inr (12, mdF mq mZ mQ 1 0 (nI 20) (nI 0)))] H := hP
    have hD : va_D A [(mo, .inr (12, mdF mq mZ mQ 1 0 (nI 20) (nI 0)))] := hD
    refine lv_aload_n hx hb d_Lw_law_413 rfl (lv_at hl 3 rfl) ?_
    have hPc := hP.sub (ws' := [(mo, .inr (12, mdF mq mZ mQ 1 0 (nI 20) (nI 0)))]) [0] rfl
    have hDc := hD.sub (ws' := [(mo, .inr (12, mdF mq mZ mQ 1 0 (nI 20) (nI 0)))]) [0] (by decide) rfl
    have hFc := va_free (wc := [(mo, .inr (12, mdF mq mZ mQ 1 0 (nI 20) (nI 0)))]) hD hS hA [0] rfl
    refine va_calli (va_runV (C := "DoorServerModel") (As := []) (rest := []) ⟨hx, hb, hml, hown, hg⟩ (m_thrown l dC dI cT H.size mo mq mZ mQ 1 0 20 0 ) (cwV 0 hg (gI (List.forall_mem_append.mpr ⟨List.forall_mem_cons.mpr ⟨k_1157, List.forall_mem_cons.mpr ⟨k_1158, List.forall_mem_cons.mpr ⟨k_1159, List.forall_mem_cons.mpr ⟨k_13, fun _ h => absurd h List.not_mem_nil⟩⟩⟩⟩, List.forall_mem_cons.mpr ⟨k_1160, fun _ h => h⟩⟩)) rfl rfl rfl (by decide +kernel) ⟨Nat.le_of_ble_eq_true rfl, Nat.le_of_ble_eq_true rfl⟩) ⟨fun a U g mk q => by obtain ⟨q0, q1, qP, qK, qD⟩ := q; exact ⟨q0, q1, qP, va_K.moved (u := U) (U := U.calling g mk a) (Vm.Alike.refl U.vm) qK, qD⟩, va_recv (q0 := 0) (ci := 12) hK hP rfl rfl, fun U hU hW => ⟨rfl, by rw [hU], by rw [hU]; exact hPc, va_K.moved hW.alike hK, hDc.weaken (fun _ _ _ _ => trivial)⟩⟩ rfl rfl hl.1 rfl (lv_room (Nat.le_of_ble_eq_true rfl)) d_Lw_law_414 ⟨Nat.le_of_ble_eq_true rfl, Nat.le_of_ble_eq_true rfl⟩) hS (fun q _ h => hFc q h) hFc (fun rv9 u t H1 locs ht hvm hw hB hz1 hk1 hS => ?_)
    try dsimp only at hw hB
    obtain ⟨hP1, hK1, hD1⟩ := hB
    rw [ht] at hP1
    obtain ⟨rfl, hw⟩ := hw
    obtain ⟨hP, hD⟩ := va_join (wr := []) (w1 := []) hP hD [0] [] rfl rfl (by decide) (by decide) hk1 hFc hP1 hD1
    have hw148 := hw
    clear hPc hDc hFc hz1 hk1 hP1 hK1 hD1
    generalize H1 = H at hP hS ⊢
    have hP : va_P (dC, dI) vcl [] H := hP
    have hD : va_D A [] := hD
    refine lv_iload hx hb d_Lw_law_417 (lv_at hl 0 rfl) ?_
    refine lv_icmp_eq (tgt := 424) hx hb d_Lw_law_419 (by decide) (fun hc149 => ?_) (fun hn9 => absurd (rfl) hn9)
    refine lv_goto (tgt := 1363) hx hb d_Lw_law_424 (by decide) ?_
    refine W.widen (k := 900) (n := 33000) (Nat.le_of_ble_eq_true rfl) (Nat.le_of_ble_eq_true rfl) ?_
    have hl9 : lv_has ls 8 [(0, .ref b), (4, .int 0)] := lv_sub hl [1, 5] rfl
    exact kk _ _ _ hS hl9
  have h1a : ¬ xs 1 < 0 := fun h9 => h1 (Or.inl h9)
  have h1b : ¬ 255 < xs 1 := fun h9 => h1 (Or.inr h9)
  by_cases h2 : xs 2 < 0 ∨ 255 < xs 2
  · skip
    have hP := hP.sub (ws' := [(ds, .inr (0, [.ref dr, .ref sv])), (mo, .inr (12, mdF mq mZ mQ 0 0 (nI 20) (nI 0)))]) [0, 22] rfl
    have hD := hD.sub (ws' := [(ds, .inr (0, [.ref dr, .ref sv])), (mo, .inr (12, mdF mq mZ mQ 0 0 (nI 20) (nI 0)))]) [0, 22] (by decide) rfl
    refine lv_aload_n hx hb d_Lw_law_335 rfl (lv_at hl 1 rfl) ?_
    refine lv_aload_n hx hb d_Lw_law_336 rfl (lv_at hl 0 rfl) ?_
    refine lv_iload hx hb d_Lw_law_337 (lv_at hl 4 rfl) ?_
    refine lv_iconst (v := 1) hx hb d_Lw_law_339 (by decide) ?_
    refine lv_iadd hx hb d_Lw_law_340 ?_
    refine va_sld hx hb hX hbl hbA hS (i := (0 + 1)) (vin (by decide)) d_Lw_law_341 ?_
    refine lv_topi (fun x151 e150 => ?_)
    obtain rfl : x151 = xs 1 := by rw [e150]; exact congrArg xs (by decide)
    refine lv_aload_n hx hb d_Lw_law_342 rfl (lv_at hl 0 rfl) ?_
    refine lv_iload hx hb d_Lw_law_343 (lv_at hl 4 rfl) ?_
    refine lv_iconst (v := 2) hx hb d_Lw_law_345 (by decide) ?_
    refine lv_iadd hx hb d_Lw_law_346 ?_
    refine va_sld hx hb hX hbl hbA hS (i := (0 + 2)) (vin (by decide)) d_Lw_law_347 ?_
    refine lv_topi (fun x153 e152 => ?_)
    obtain rfl : x153 = xs 2 := by rw [e152]; exact congrArg xs (by decide)
    refine lv_aload_n hx hb d_Lw_law_348 rfl (lv_at hl 0 rfl) ?_
    refine lv_iload hx hb d_Lw_law_349 (lv_at hl 4 rfl) ?_
    refine lv_iconst (v := 3) hx hb d_Lw_law_351 (by decide) ?_
    refine lv_iadd hx hb d_Lw_law_352 ?_
    refine va_sld hx hb hX hbl hbA hS (i := (0 + 3)) (vin (by decide)) d_Lw_law_353 ?_
    refine lv_topi (fun x155 e154 => ?_)
    obtain rfl : x155 = xs 3 := by rw [e154]; exact congrArg xs (by decide)
    refine lv_i2l (v := (xs 3).toInt64) hx hb d_Lw_law_354 rfl ?_
    refine lv_bipush (v := 32) hx hb d_Lw_law_355 (by decide) ?_
    refine lv_lshl (v := ((xs 3).toInt64) <<< ((32 : Int32).toInt64 &&& 63)) hx hb d_Lw_law_357 rfl ?_
    refine lv_aload_n hx hb d_Lw_law_358 rfl (lv_at hl 0 rfl) ?_
    refine lv_iload hx hb d_Lw_law_359 (lv_at hl 4 rfl) ?_
    refine lv_iconst (v := 4) hx hb d_Lw_law_361 (by decide) ?_
    refine lv_iadd hx hb d_Lw_law_362 ?_
    refine va_sld hx hb hX hbl hbA hS (i := (0 + 4)) (vin (by decide)) d_Lw_law_363 ?_
    refine lv_topi (fun x157 e156 => ?_)
    obtain rfl : x157 = xs 4 := by rw [e156]; exact congrArg xs (by decide)
    refine lv_i2l (v := (xs 4).toInt64) hx hb d_Lw_law_364 rfl ?_
    refine lv_ldc2 (v := 4294967295) hx hb hown (hg _ k_1418) d_Lw_law_365 ?_
    refine lv_land hx hb d_Lw_law_368 ?_
    refine lv_lor hx hb d_Lw_law_369 ?_
    have hPc := hP.sub (ws' := [(ds, .inr (0, [.ref dr, .ref sv]))]) [0] rfl
    have hDc := hD.sub (ws' := [(ds, .inr (0, [.ref dr, .ref sv]))]) [0] (by decide) rfl
    have hFc := va_free (wc := [(ds, .inr (0, [.ref dr, .ref sv]))]) hD hS hA [0] rfl
    refine va_calli (xw_runS (As := [.ref ds, .int (xs 1), .int (xs 2), .long ((((xs 3).toInt64) <<< ((32 : Int32).toInt64 &&& 63)) ||| (((xs 4).toInt64) &&& 4294967295))]) (rest := []) ⟨hx, hb, hml, hown, hg⟩ (t_draft2 l dC dI cT H.size ds (xs 1) (xs 2) ((((xs 3).toInt64) <<< ((32 : Int32).toInt64 &&& 63)) ||| (((xs 4).toInt64) &&& 4294967295)) dr sv (hfl) (h1a) (h1b) (h2)) rfl (gI (List.forall_mem_cons.mpr ⟨k_484, fun _ h => h⟩)) (hg _ k_482) (hg _ k_483) (hg _ k_0) rfl rfl (n := 4) (by decide +kernel) ⟨Nat.le_of_ble_eq_true rfl, Nat.le_of_ble_eq_true rfl⟩ ⟨fun a U g mk q => by obtain ⟨q0, q1, qP, qK, qD, qE⟩ := q; exact ⟨q0, q1, qP, va_K.moved (u := U) (U := U.calling g mk a) (Vm.Alike.refl U.vm) qK, qD, qE.at (State.WarmedH.refl _) (fun _ _ _ => rfl) (fun _ h => h)⟩, fun U hU hW => ⟨rfl, by rw [hU], by rw [hU]; exact hPc, va_K.moved hW.alike hK, hDc.weaken (fun _ _ _ _ => trivial), by rw [hU]; exact hXz.at hW hS.2.1 (fun _ h => h.elim)⟩⟩ rfl rfl hl.1 rfl (lv_room (Nat.le_of_ble_eq_true rfl)) d_Lw_law_370 ⟨Nat.le_of_ble_eq_true rfl, Nat.le_of_ble_eq_true rfl⟩) hS (fun q _ h => hFc q h) hFc (fun rv9 u t H1 locs ht hvm hw hB hz1 hk1 hS => ?_)
    try dsimp only at hw hB
    obtain ⟨hP1, hK1, hD1⟩ := hB
    rw [ht] at hP1
    obtain ⟨rfl, hw⟩ := hw
    obtain ⟨hP, hD⟩ := va_join (wr := [(mo, .inr (12, mdF mq mZ mQ 0 0 (nI 20) (nI 0)))]) (w1 := []) hP hD [0] [1] rfl rfl (by decide) (by decide) hk1 hFc hP1 hD1
    have hw158 := hw
    clear hPc hDc hFc hz1 hk1 hP1 hK1 hD1
    generalize H1 = H at hP hS ⊢
    have hP : va_P (dC, dI) vcl [(mo, .inr (12, mdF mq mZ mQ 0 0 (nI 20) (nI 0)))] H := hP
    have hD : va_D A [(mo, .inr (12, mdF mq mZ mQ 0 0 (nI 20) (nI 0)))] := hD
    refine lv_istore (lv' := [(5, .int 1), (0, .ref b), (1, .ref ds), (2, .ref mo), (3, .ref ou), (4, .int 0)]) hx hb d_Lw_law_373 hl (by decide) rfl (fun ls hl => ?_)
    refine lv_aload_n hx hb d_Lw_law_375 rfl (lv_at hl 3 rfl) ?_
    refine lv_aload_n hx hb d_Lw_law_376 rfl (lv_at hl 1 rfl) ?_
    refine lv_iload hx hb d_Lw_law_377 (lv_at hl 5 rfl) ?_
    refine lv_iconst (v := 1) hx hb d_Lw_law_379 (by decide) ?_
    refine lv_iadd hx hb d_Lw_law_380 ?_
    refine va_sld hx hb hX hbl hbA hS (i := (0 + 1)) (vin (by decide)) d_Lw_law_381 ?_
    refine lv_topi (fun x160 e159 => ?_)
    obtain rfl : x160 = xs 1 := by rw [e159]; exact congrArg xs (by decide)
    refine lv_aload_n hx hb d_Lw_law_382 rfl (lv_at hl 1 rfl) ?_
    refine lv_iload hx hb d_Lw_law_383 (lv_at hl 5 rfl) ?_
    refine lv_iconst (v := 2) hx hb d_Lw_law_385 (by decide) ?_
    refine lv_iadd hx hb d_Lw_law_386 ?_
    refine va_sld hx hb hX hbl hbA hS (i := (0 + 2)) (vin (by decide)) d_Lw_law_387 ?_
    refine lv_topi (fun x162 e161 => ?_)
    obtain rfl : x162 = xs 2 := by rw [e161]; exact congrArg xs (by decide)
    refine lv_aload_n hx hb d_Lw_law_388 rfl (lv_at hl 1 rfl) ?_
    refine lv_iload hx hb d_Lw_law_389 (lv_at hl 5 rfl) ?_
    refine lv_iconst (v := 3) hx hb d_Lw_law_391 (by decide) ?_
    refine lv_iadd hx hb d_Lw_law_392 ?_
    refine va_sld hx hb hX hbl hbA hS (i := (0 + 3)) (vin (by decide)) d_Lw_law_393 ?_
    refine lv_topi (fun x164 e163 => ?_)
    obtain rfl : x164 = xs 3 := by rw [e163]; exact congrArg xs (by decide)
    refine lv_i2l (v := (xs 3).toInt64) hx hb d_Lw_law_394 rfl ?_
    refine lv_bipush (v := 32) hx hb d_Lw_law_395 (by decide) ?_
    refine lv_lshl (v := ((xs 3).toInt64) <<< ((32 : Int32).toInt64 &&& 63)) hx hb d_Lw_law_397 rfl ?_
    refine lv_aload_n hx hb d_Lw_law_398 rfl (lv_at hl 1 rfl) ?_
    refine lv_iload hx hb d_Lw_law_399 (lv_at hl 5 rfl) ?_
    refine lv_iconst (v := 4) hx hb d_Lw_law_401 (by decide) ?_
    refine lv_iadd hx hb d_Lw_law_402 ?_
    refine va_sld hx hb hX hbl hbA hS (i := (0 + 4)) (vin (by decide)) d_Lw_law_403 ?_
    refine lv_topi (fun x166 e165 => ?_)
    obtain rfl : x166 = xs 4 := by rw [e165]; exact congrArg xs (by decide)
    refine lv_i2l (v := (xs 4).toInt64) hx hb d_Lw_law_404 rfl ?_
    refine lv_ldc2 (v := 4294967295) hx hb hown (hg _ k_1418) d_Lw_law_405 ?_
    refine lv_land hx hb d_Lw_law_408 ?_
    refine lv_lor hx hb d_Lw_law_409 ?_
    have hPc := hP.sub (ws' := [(mo, .inr (12, mdF mq mZ mQ 0 0 (nI 20) (nI 0)))]) [0] rfl
    have hDc := hD.sub (ws' := [(mo, .inr (12, mdF mq mZ mQ 0 0 (nI 20) (nI 0)))]) [0] (by decide) rfl
    have hFc := va_free (wc := [(mo, .inr (12, mdF mq mZ mQ 0 0 (nI 20) (nI 0)))]) hD hS hA [0] rfl
    refine va_callv (va_runV (C := "DoorServerModel") (As := [.int (xs 1), .int (xs 2), .long ((((xs 3).toInt64) <<< ((32 : Int32).toInt64 &&& 63)) ||| (((xs 4).toInt64) &&& 4294967295))]) (rest := []) ⟨hx, hb, hml, hown, hg⟩ (b_draft2 l dC dI cT H.size mo mq mZ mQ 0 0 20 0 (xs 1) (xs 2) ((((xs 3).toInt64) <<< ((32 : Int32).toInt64 &&& 63)) ||| (((xs 4).toInt64) &&& 4294967295)) (h1a) (h1b) (h2)) (cwV 3 hg (gI (List.forall_mem_append.mpr ⟨List.forall_mem_cons.mpr ⟨k_1177, List.forall_mem_cons.mpr ⟨k_1178, List.forall_mem_cons.mpr ⟨k_1179, List.forall_mem_cons.mpr ⟨k_13, fun _ h => absurd h List.not_mem_nil⟩⟩⟩⟩, List.forall_mem_cons.mpr ⟨k_1180, fun _ h => h⟩⟩)) rfl rfl rfl (by decide +kernel) ⟨Nat.le_of_ble_eq_true rfl, Nat.le_of_ble_eq_true rfl⟩) ⟨fun a U g mk q => by obtain ⟨q0, q1, qP, qK, qD⟩ := q; exact ⟨q0, q1, qP, va_K.moved (u := U) (U := U.calling g mk a) (Vm.Alike.refl U.vm) qK, qD⟩, va_recv (q0 := 0) (ci := 12) hK hP rfl rfl, fun U hU hW => ⟨rfl, by rw [hU], by rw [hU]; exact hPc, va_K.moved hW.alike hK, hDc.weaken (fun _ _ _ _ => trivial)⟩⟩ rfl rfl hl.1 rfl (lv_room (Nat.le_of_ble_eq_true rfl)) d_Lw_law_410 ⟨Nat.le_of_ble_eq_true rfl, Nat.le_of_ble_eq_true rfl⟩) hS (fun q _ h => hFc q h) hFc (fun u t H1 locs ht hvm hw hB hz1 hk1 hS => ?_)
    try dsimp only at hw hB
    obtain ⟨hP1, hK1, hD1⟩ := hB
    rw [ht] at hP1
    obtain ⟨hP, hD⟩ := va_join (wr := []) (w1 := [(mo, .inr (12, mdF mq mZ mQ 1 0 (nI 20) (nI 0)))]) hP hD [0] [] rfl rfl (by decide) (by decide) hk1 hFc hP1 hD1
    have hw167 := hw
    clear hPc hDc hFc hz1 hk1 hP1 hK1 hD1
    generalize H1 = H at hP hS ⊢
    have hP : va_P (dC, dI) vcl [(mo, .inr (12, mdF mq mZ mQ 1 0 (nI 20) (nI 0)))] H := hP
    have hD : va_D A [(mo, .inr (12, mdF mq mZ mQ 1 0 (nI 20) (nI 0)))] := hD
    refine lv_aload_n hx hb d_Lw_law_413 rfl (lv_at hl 3 rfl) ?_
    have hPc := hP.sub (ws' := [(mo, .inr (12, mdF mq mZ mQ 1 0 (nI 20) (nI 0)))]) [0] rfl
    have hDc := hD.sub (ws' := [(mo, .inr (12, mdF mq mZ mQ 1 0 (nI 20) (nI 0)))]) [0] (by decide) rfl
    have hFc := va_free (wc := [(mo, .inr (12, mdF mq mZ mQ 1 0 (nI 20) (nI 0)))]) hD hS hA [0] rfl
    refine va_calli (va_runV (C := "DoorServerModel") (As := []) (rest := []) ⟨hx, hb, hml, hown, hg⟩ (m_thrown l dC dI cT H.size mo mq mZ mQ 1 0 20 0 ) (cwV 0 hg (gI (List.forall_mem_append.mpr ⟨List.forall_mem_cons.mpr ⟨k_1157, List.forall_mem_cons.mpr ⟨k_1158, List.forall_mem_cons.mpr ⟨k_1159, List.forall_mem_cons.mpr ⟨k_13, fun _ h => absurd h List.not_mem_nil⟩⟩⟩⟩, List.forall_mem_cons.mpr ⟨k_1160, fun _ h => h⟩⟩)) rfl rfl rfl (by decide +kernel) ⟨Nat.le_of_ble_eq_true rfl, Nat.le_of_ble_eq_true rfl⟩) ⟨fun a U g mk q => by obtain ⟨q0, q1, qP, qK, qD⟩ := q; exact ⟨q0, q1, qP, va_K.moved (u := U) (U := U.calling g mk a) (Vm.Alike.refl U.vm) qK, qD⟩, va_recv (q0 := 0) (ci := 12) hK hP rfl rfl, fun U hU hW => ⟨rfl, by rw [hU], by rw [hU]; exact hPc, va_K.moved hW.alike hK, hDc.weaken (fun _ _ _ _ => trivial)⟩⟩ rfl rfl hl.1 rfl (lv_room (Nat.le_of_ble_eq_true rfl)) d_Lw_law_414 ⟨Nat.le_of_ble_eq_true rfl, Nat.le_of_ble_eq_true rfl⟩) hS (fun q _ h => hFc q h) hFc (fun rv9 u t H1 locs ht hvm hw hB hz1 hk1 hS => ?_)
    try dsimp only at hw hB
    obtain ⟨hP1, hK1, hD1⟩ := hB
    rw [ht] at hP1
    obtain ⟨rfl, hw⟩ := hw
    obtain ⟨hP, hD⟩ := va_join (wr := []) (w1 := []) hP hD [0] [] rfl rfl (by decide) (by decide) hk1 hFc hP1 hD1
    have hw168 := hw
    clear hPc hDc hFc hz1 hk1 hP1 hK1 hD1
    generalize H1 = H at hP hS ⊢
    have hP : va_P (dC, dI) vcl [] H := hP
    have hD : va_D A [] := hD
    refine lv_iload hx hb d_Lw_law_417 (lv_at hl 0 rfl) ?_
    refine lv_icmp_eq (tgt := 424) hx hb d_Lw_law_419 (by decide) (fun hc169 => ?_) (fun hn9 => absurd (rfl) hn9)
    refine lv_goto (tgt := 1363) hx hb d_Lw_law_424 (by decide) ?_
    refine W.widen (k := 900) (n := 33000) (Nat.le_of_ble_eq_true rfl) (Nat.le_of_ble_eq_true rfl) ?_
    have hl9 : lv_has ls 8 [(0, .ref b), (4, .int 0)] := lv_sub hl [1, 5] rfl
    exact kk _ _ _ hS hl9
  have h2a : ¬ xs 2 < 0 := fun h9 => h2 (Or.inl h9)
  have h2b : ¬ 255 < xs 2 := fun h9 => h2 (Or.inr h9)
  have hP := hP.sub (ws' := [(ds, .inr (0, [.ref dr, .ref sv])), (dr, .inr (2, [.ref rr, .int (nI 20)])), (rr, .inl ((cT 0), 1000, .inl df)), (mo, .inr (12, mdF mq mZ mQ 0 0 (nI 20) (nI 0))), (mq 7, .inl ((cT 0), 1000, .inl mf))]) [0, 1, 2, 22, 28] rfl
  have hD := hD.sub (ws' := [(ds, .inr (0, [.ref dr, .ref sv])), (dr, .inr (2, [.ref rr, .int (nI 20)])), (rr, .inl ((cT 0), 1000, .inl df)), (mo, .inr (12, mdF mq mZ mQ 0 0 (nI 20) (nI 0))), (mq 7, .inl ((cT 0), 1000, .inl mf))]) [0, 1, 2, 22, 28] (by decide) rfl
  refine lv_aload_n hx hb d_Lw_law_335 rfl (lv_at hl 1 rfl) ?_
  refine lv_aload_n hx hb d_Lw_law_336 rfl (lv_at hl 0 rfl) ?_
  refine lv_iload hx hb d_Lw_law_337 (lv_at hl 4 rfl) ?_
  refine lv_iconst (v := 1) hx hb d_Lw_law_339 (by decide) ?_
  refine lv_iadd hx hb d_Lw_law_340 ?_
  refine va_sld hx hb hX hbl hbA hS (i := (0 + 1)) (vin (by decide)) d_Lw_law_341 ?_
  refine lv_topi (fun x171 e170 => ?_)
  obtain rfl : x171 = xs 1 := by rw [e170]; exact congrArg xs (by decide)
  refine lv_aload_n hx hb d_Lw_law_342 rfl (lv_at hl 0 rfl) ?_
  refine lv_iload hx hb d_Lw_law_343 (lv_at hl 4 rfl) ?_
  refine lv_iconst (v := 2) hx hb d_Lw_law_345 (by decide) ?_
  refine lv_iadd hx hb d_Lw_law_346 ?_
  refine va_sld hx hb hX hbl hbA hS (i := (0 + 2)) (vin (by decide)) d_Lw_law_347 ?_
  refine lv_topi (fun x173 e172 => ?_)
  obtain rfl : x173 = xs 2 := by rw [e172]; exact congrArg xs (by decide)
  refine lv_aload_n hx hb d_Lw_law_348 rfl (lv_at hl 0 rfl) ?_
  refine lv_iload hx hb d_Lw_law_349 (lv_at hl 4 rfl) ?_
  refine lv_iconst (v := 3) hx hb d_Lw_law_351 (by decide) ?_
  refine lv_iadd hx hb d_Lw_law_352 ?_
  refine va_sld hx hb hX hbl hbA hS (i := (0 + 3)) (vin (by decide)) d_Lw_law_353 ?_
  refine lv_topi (fun x175 e174 => ?_)
  obtain rfl : x175 = xs 3 := by rw [e174]; exact congrArg xs (by decide)
  refine lv_i2l (v := (xs 3).toInt64) hx hb d_Lw_law_354 rfl ?_
  refine lv_bipush (v := 32) hx hb d_Lw_law_355 (by decide) ?_
  refine lv_lshl (v := ((xs 3).toInt64) <<< ((32 : Int32).toInt64 &&& 63)) hx hb d_Lw_law_357 rfl ?_
  refine lv_aload_n hx hb d_Lw_law_358 rfl (lv_at hl 0 rfl) ?_
  refine lv_iload hx hb d_Lw_law_359 (lv_at hl 4 rfl) ?_
  refine lv_iconst (v := 4) hx hb d_Lw_law_361 (by decide) ?_
  refine lv_iadd hx hb d_Lw_law_362 ?_
  refine va_sld hx hb hX hbl hbA hS (i := (0 + 4)) (vin (by decide)) d_Lw_law_363 ?_
  refine lv_topi (fun x177 e176 => ?_)
  obtain rfl : x177 = xs 4 := by rw [e176]; exact congrArg xs (by decide)
  refine lv_i2l (v := (xs 4).toInt64) hx hb d_Lw_law_364 rfl ?_
  refine lv_ldc2 (v := 4294967295) hx hb hown (hg _ k_1418) d_Lw_law_365 ?_
  refine lv_land hx hb d_Lw_law_368 ?_
  refine lv_lor hx hb d_Lw_law_369 ?_
  have hPc := hP.sub (ws' := [(ds, .inr (0, [.ref dr, .ref sv])), (dr, .inr (2, [.ref rr, .int (nI 20)])), (rr, .inl ((cT 0), 1000, .inl df))]) [0, 1, 2] rfl
  have hDc := hD.sub (ws' := [(ds, .inr (0, [.ref dr, .ref sv])), (dr, .inr (2, [.ref rr, .int (nI 20)])), (rr, .inl ((cT 0), 1000, .inl df))]) [0, 1, 2] (by decide) rfl
  have hFc := va_free (wc := [(ds, .inr (0, [.ref dr, .ref sv])), (dr, .inr (2, [.ref rr, .int (nI 20)])), (rr, .inl ((cT 0), 1000, .inl df))]) hD hS hA [0, 1, 2] rfl
  refine va_calli (xw_runS (As := [.ref ds, .int (xs 1), .int (xs 2), .long ((((xs 3).toInt64) <<< ((32 : Int32).toInt64 &&& 63)) ||| (((xs 4).toInt64) &&& 4294967295))]) (rest := []) ⟨hx, hb, hml, hown, hg⟩ (l_draft l dC dI cT H.size ds dr sv rr df (xs 1) (xs 2) ((((xs 3).toInt64) <<< ((32 : Int32).toInt64 &&& 63)) ||| (((xs 4).toInt64) &&& 4294967295)) (h1a) (h1b) (h2a) (h2b)) rfl (gI (List.forall_mem_cons.mpr ⟨k_484, fun _ h => h⟩)) (hg _ k_482) (hg _ k_483) (hg _ k_0) rfl rfl (n := 4) (by decide +kernel) ⟨Nat.le_of_ble_eq_true rfl, Nat.le_of_ble_eq_true rfl⟩ ⟨fun a U g mk q => by obtain ⟨q0, q1, qP, qK, qD⟩ := q; exact ⟨q0, q1, qP, va_K.moved (u := U) (U := U.calling g mk a) (Vm.Alike.refl U.vm) qK, qD⟩, fun U hU hW => ⟨rfl, by rw [hU], by rw [hU]; exact hPc, va_K.moved hW.alike hK, hDc.weaken (fun _ _ _ _ => trivial)⟩⟩ rfl rfl hl.1 rfl (lv_room (Nat.le_of_ble_eq_true rfl)) d_Lw_law_370 ⟨Nat.le_of_ble_eq_true rfl, Nat.le_of_ble_eq_true rfl⟩) hS (fun q _ h => hFc q h) hFc (fun rv9 u t H1 locs ht hvm hw hB hz1 hk1 hS => ?_)
  try dsimp only at hw hB
  obtain ⟨hP1, hK1, hD1⟩ := hB
  rw [ht] at hP1
  obtain ⟨rfl, hw⟩ := hw
  obtain ⟨hP, hD⟩ := va_join (wr := [(mo, .inr (12, mdF mq mZ mQ 0 0 (nI 20) (nI 0))), (mq 7, .inl ((cT 0), 1000, .inl mf))]) (w1 := []) hP hD [0, 1, 2] [3, 4] rfl rfl (by decide) (by decide) hk1 hFc hP1 hD1
  have hw178 := hw
  clear hPc hDc hFc hz1 hk1 hP1 hK1 hD1
  generalize H1 = H at hP hS ⊢
  have hP : va_P (dC, dI) vcl [(mo, .inr (12, mdF mq mZ mQ 0 0 (nI 20) (nI 0))), (mq 7, .inl ((cT 0), 1000, .inl mf))] H := hP
  have hD : va_D A [(mo, .inr (12, mdF mq mZ mQ 0 0 (nI 20) (nI 0))), (mq 7, .inl ((cT 0), 1000, .inl mf))] := hD
  refine lv_istore (lv' := [(5, .int 0), (0, .ref b), (1, .ref ds), (2, .ref mo), (3, .ref ou), (4, .int 0)]) hx hb d_Lw_law_373 hl (by decide) rfl (fun ls hl => ?_)
  refine lv_aload_n hx hb d_Lw_law_375 rfl (lv_at hl 3 rfl) ?_
  refine lv_aload_n hx hb d_Lw_law_376 rfl (lv_at hl 1 rfl) ?_
  refine lv_iload hx hb d_Lw_law_377 (lv_at hl 5 rfl) ?_
  refine lv_iconst (v := 1) hx hb d_Lw_law_379 (by decide) ?_
  refine lv_iadd hx hb d_Lw_law_380 ?_
  refine va_sld hx hb hX hbl hbA hS (i := (0 + 1)) (vin (by decide)) d_Lw_law_381 ?_
  refine lv_topi (fun x180 e179 => ?_)
  obtain rfl : x180 = xs 1 := by rw [e179]; exact congrArg xs (by decide)
  refine lv_aload_n hx hb d_Lw_law_382 rfl (lv_at hl 1 rfl) ?_
  refine lv_iload hx hb d_Lw_law_383 (lv_at hl 5 rfl) ?_
  refine lv_iconst (v := 2) hx hb d_Lw_law_385 (by decide) ?_
  refine lv_iadd hx hb d_Lw_law_386 ?_
  refine va_sld hx hb hX hbl hbA hS (i := (0 + 2)) (vin (by decide)) d_Lw_law_387 ?_
  refine lv_topi (fun x182 e181 => ?_)
  obtain rfl : x182 = xs 2 := by rw [e181]; exact congrArg xs (by decide)
  refine lv_aload_n hx hb d_Lw_law_388 rfl (lv_at hl 1 rfl) ?_
  refine lv_iload hx hb d_Lw_law_389 (lv_at hl 5 rfl) ?_
  refine lv_iconst (v := 3) hx hb d_Lw_law_391 (by decide) ?_
  refine lv_iadd hx hb d_Lw_law_392 ?_
  refine va_sld hx hb hX hbl hbA hS (i := (0 + 3)) (vin (by decide)) d_Lw_law_393 ?_
  refine lv_topi (fun x184 e183 => ?_)
  obtain rfl : x184 = xs 3 := by rw [e183]; exact congrArg xs (by decide)
  refine lv_i2l (v := (xs 3).toInt64) hx hb d_Lw_law_394 rfl ?_
  refine lv_bipush (v := 32) hx hb d_Lw_law_395 (by decide) ?_
  refine lv_lshl (v := ((xs 3).toInt64) <<< ((32 : Int32).toInt64 &&& 63)) hx hb d_Lw_law_397 rfl ?_
  refine lv_aload_n hx hb d_Lw_law_398 rfl (lv_at hl 1 rfl) ?_
  refine lv_iload hx hb d_Lw_law_399 (lv_at hl 5 rfl) ?_
  refine lv_iconst (v := 4) hx hb d_Lw_law_401 (by decide) ?_
  refine lv_iadd hx hb d_Lw_law_402 ?_
  refine va_sld hx hb hX hbl hbA hS (i := (0 + 4)) (vin (by decide)) d_Lw_law_403 ?_
  refine lv_topi (fun x186 e185 => ?_)
  obtain rfl : x186 = xs 4 := by rw [e185]; exact congrArg xs (by decide)
  refine lv_i2l (v := (xs 4).toInt64) hx hb d_Lw_law_404 rfl ?_
  refine lv_ldc2 (v := 4294967295) hx hb hown (hg _ k_1418) d_Lw_law_405 ?_
  refine lv_land hx hb d_Lw_law_408 ?_
  refine lv_lor hx hb d_Lw_law_409 ?_
  have hPc := hP.sub (ws' := [(mo, .inr (12, mdF mq mZ mQ 0 0 (nI 20) (nI 0))), (mq 7, .inl ((cT 0), 1000, .inl mf))]) [0, 1] rfl
  have hDc := hD.sub (ws' := [(mo, .inr (12, mdF mq mZ mQ 0 0 (nI 20) (nI 0))), (mq 7, .inl ((cT 0), 1000, .inl mf))]) [0, 1] (by decide) rfl
  have hFc := va_free (wc := [(mo, .inr (12, mdF mq mZ mQ 0 0 (nI 20) (nI 0))), (mq 7, .inl ((cT 0), 1000, .inl mf))]) hD hS hA [0, 1] rfl
  refine va_callv (va_runV (C := "DoorServerModel") (As := [.int (xs 1), .int (xs 2), .long ((((xs 3).toInt64) <<< ((32 : Int32).toInt64 &&& 63)) ||| (((xs 4).toInt64) &&& 4294967295))]) (rest := []) ⟨hx, hb, hml, hown, hg⟩ (o_draft l dC dI cT H.size mo mq mZ mQ 0 0 20 0 mf (xs 1) (xs 2) ((((xs 3).toInt64) <<< ((32 : Int32).toInt64 &&& 63)) ||| (((xs 4).toInt64) &&& 4294967295)) (h1a) (h1b) (h2a) (h2b)) (cwV 3 hg (gI (List.forall_mem_append.mpr ⟨List.forall_mem_cons.mpr ⟨k_1177, List.forall_mem_cons.mpr ⟨k_1178, List.forall_mem_cons.mpr ⟨k_1179, List.forall_mem_cons.mpr ⟨k_13, fun _ h => absurd h List.not_mem_nil⟩⟩⟩⟩, List.forall_mem_cons.mpr ⟨k_1180, fun _ h => h⟩⟩)) rfl rfl rfl (by decide +kernel) ⟨Nat.le_of_ble_eq_true rfl, Nat.le_of_ble_eq_true rfl⟩) ⟨fun a U g mk q => by obtain ⟨q0, q1, qP, qK, qD⟩ := q; exact ⟨q0, q1, qP, va_K.moved (u := U) (U := U.calling g mk a) (Vm.Alike.refl U.vm) qK, qD⟩, va_recv (q0 := 0) (ci := 12) hK hP rfl rfl, fun U hU hW => ⟨rfl, by rw [hU], by rw [hU]; exact hPc, va_K.moved hW.alike hK, hDc.weaken (fun _ _ _ _ => trivial)⟩⟩ rfl rfl hl.1 rfl (lv_room (Nat.le_of_ble_eq_true rfl)) d_Lw_law_410 ⟨Nat.le_of_ble_eq_true rfl, Nat.le_of_ble_eq_true rfl⟩) hS (fun q _ h => hFc q h) hFc (fun u t H1 locs ht hvm hw hB hz1 hk1 hS => ?_)
  try dsimp only at hw hB
  obtain ⟨hP1, hK1, hD1⟩ := hB
  rw [ht] at hP1
  obtain ⟨hP, hD⟩ := va_join (wr := []) (w1 := [(mo, .inr (12, mdF mq mZ mQ 0 0 (nI 20) (nI 0)))]) hP hD [0, 1] [] rfl rfl (by decide) (by decide) hk1 hFc hP1 hD1
  have hw187 := hw
  clear hPc hDc hFc hz1 hk1 hP1 hK1 hD1
  generalize H1 = H at hP hS ⊢
  have hP : va_P (dC, dI) vcl [(mo, .inr (12, mdF mq mZ mQ 0 0 (nI 20) (nI 0)))] H := hP
  have hD : va_D A [(mo, .inr (12, mdF mq mZ mQ 0 0 (nI 20) (nI 0)))] := hD
  refine lv_aload_n hx hb d_Lw_law_413 rfl (lv_at hl 3 rfl) ?_
  have hPc := hP.sub (ws' := [(mo, .inr (12, mdF mq mZ mQ 0 0 (nI 20) (nI 0)))]) [0] rfl
  have hDc := hD.sub (ws' := [(mo, .inr (12, mdF mq mZ mQ 0 0 (nI 20) (nI 0)))]) [0] (by decide) rfl
  have hFc := va_free (wc := [(mo, .inr (12, mdF mq mZ mQ 0 0 (nI 20) (nI 0)))]) hD hS hA [0] rfl
  refine va_calli (va_runV (C := "DoorServerModel") (As := []) (rest := []) ⟨hx, hb, hml, hown, hg⟩ (m_thrown l dC dI cT H.size mo mq mZ mQ 0 0 20 0 ) (cwV 0 hg (gI (List.forall_mem_append.mpr ⟨List.forall_mem_cons.mpr ⟨k_1157, List.forall_mem_cons.mpr ⟨k_1158, List.forall_mem_cons.mpr ⟨k_1159, List.forall_mem_cons.mpr ⟨k_13, fun _ h => absurd h List.not_mem_nil⟩⟩⟩⟩, List.forall_mem_cons.mpr ⟨k_1160, fun _ h => h⟩⟩)) rfl rfl rfl (by decide +kernel) ⟨Nat.le_of_ble_eq_true rfl, Nat.le_of_ble_eq_true rfl⟩) ⟨fun a U g mk q => by obtain ⟨q0, q1, qP, qK, qD⟩ := q; exact ⟨q0, q1, qP, va_K.moved (u := U) (U := U.calling g mk a) (Vm.Alike.refl U.vm) qK, qD⟩, va_recv (q0 := 0) (ci := 12) hK hP rfl rfl, fun U hU hW => ⟨rfl, by rw [hU], by rw [hU]; exact hPc, va_K.moved hW.alike hK, hDc.weaken (fun _ _ _ _ => trivial)⟩⟩ rfl rfl hl.1 rfl (lv_room (Nat.le_of_ble_eq_true rfl)) d_Lw_law_414 ⟨Nat.le_of_ble_eq_true rfl, Nat.le_of_ble_eq_true rfl⟩) hS (fun q _ h => hFc q h) hFc (fun rv9 u t H1 locs ht hvm hw hB hz1 hk1 hS => ?_)
  try dsimp only at hw hB
  obtain ⟨hP1, hK1, hD1⟩ := hB
  rw [ht] at hP1
  obtain ⟨rfl, hw⟩ := hw
  obtain ⟨hP, hD⟩ := va_join (wr := []) (w1 := []) hP hD [0] [] rfl rfl (by decide) (by decide) hk1 hFc hP1 hD1
  have hw188 := hw
  clear hPc hDc hFc hz1 hk1 hP1 hK1 hD1
  generalize H1 = H at hP hS ⊢
  have hP : va_P (dC, dI) vcl [] H := hP
  have hD : va_D A [] := hD
  refine lv_iload hx hb d_Lw_law_417 (lv_at hl 0 rfl) ?_
  refine lv_icmp_eq (tgt := 424) hx hb d_Lw_law_419 (by decide) (fun hc189 => ?_) (fun hn9 => absurd (rfl) hn9)
  refine lv_goto (tgt := 1363) hx hb d_Lw_law_424 (by decide) ?_
  refine W.widen (k := 900) (n := 33000) (Nat.le_of_ble_eq_true rfl) (Nat.le_of_ble_eq_true rfl) ?_
  have hl9 : lv_has ls 8 [(0, .ref b), (4, .int 0)] := lv_sub hl [1, 5] rfl
  exact kk _ _ _ hS hl9
