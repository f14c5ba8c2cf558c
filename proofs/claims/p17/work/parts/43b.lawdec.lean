theorem d_Lw_law_124 : decode b_Lw_law 124 = .ok (.aload_n 1, 1) := by decide +kernel
theorem d_Lw_law_125 : decode b_Lw_law 125 = .ok (.aload_n 0, 1) := by decide +kernel
theorem d_Lw_law_126 : decode b_Lw_law 126 = .ok (.iload 4, 2) := by decide +kernel
theorem d_Lw_law_128 : decode b_Lw_law 128 = .ok (.iconst 1, 1) := by decide +kernel
theorem d_Lw_law_129 : decode b_Lw_law 129 = .ok (.iadd, 1) := by decide +kernel
theorem d_Lw_law_130 : decode b_Lw_law 130 = .ok (.iaload, 1) := by decide +kernel
theorem d_Lw_law_131 : decode b_Lw_law 131 = .ok (.aload_n 0, 1) := by decide +kernel
theorem d_Lw_law_132 : decode b_Lw_law 132 = .ok (.iload 4, 2) := by decide +kernel
theorem d_Lw_law_134 : decode b_Lw_law 134 = .ok (.iconst 2, 1) := by decide +kernel
theorem d_Lw_law_135 : decode b_Lw_law 135 = .ok (.iadd, 1) := by decide +kernel
theorem d_Lw_law_136 : decode b_Lw_law 136 = .ok (.iaload, 1) := by decide +kernel
theorem d_Lw_law_137 : decode b_Lw_law 137 = .ok (.i2l, 1) := by decide +kernel
theorem d_Lw_law_138 : decode b_Lw_law 138 = .ok (.bipush 32, 2) := by decide +kernel
theorem d_Lw_law_140 : decode b_Lw_law 140 = .ok (.lshl, 1) := by decide +kernel
theorem d_Lw_law_141 : decode b_Lw_law 141 = .ok (.aload_n 0, 1) := by decide +kernel
theorem d_Lw_law_142 : decode b_Lw_law 142 = .ok (.iload 4, 2) := by decide +kernel
theorem d_Lw_law_144 : decode b_Lw_law 144 = .ok (.iconst 3, 1) := by decide +kernel
theorem d_Lw_law_145 : decode b_Lw_law 145 = .ok (.iadd, 1) := by decide +kernel
theorem d_Lw_law_146 : decode b_Lw_law 146 = .ok (.iaload, 1) := by decide +kernel
theorem d_Lw_law_147 : decode b_Lw_law 147 = .ok (.i2l, 1) := by decide +kernel
theorem d_Lw_law_148 : decode b_Lw_law 148 = .ok (.ldc2_w 78, 3) := by decide +kernel
theorem d_Lw_law_151 : decode b_Lw_law 151 = .ok (.land, 1) := by decide +kernel
theorem d_Lw_law_152 : decode b_Lw_law 152 = .ok (.lor, 1) := by decide +kernel
theorem d_Lw_law_153 : decode b_Lw_law 153 = .ok (.aload_n 0, 1) := by decide +kernel
theorem d_Lw_law_154 : decode b_Lw_law 154 = .ok (.iload 4, 2) := by decide +kernel
theorem d_Lw_law_156 : decode b_Lw_law 156 = .ok (.iconst 4, 1) := by decide +kernel
theorem d_Lw_law_157 : decode b_Lw_law 157 = .ok (.iadd, 1) := by decide +kernel
theorem d_Lw_law_158 : decode b_Lw_law 158 = .ok (.iaload, 1) := by decide +kernel
theorem d_Lw_law_159 : decode b_Lw_law 159 = .ok (.invokestatic 80, 3) := by decide +kernel
theorem d_Lw_law_162 : decode b_Lw_law 162 = .ok (.istore 5, 2) := by decide +kernel
theorem d_Lw_law_164 : decode b_Lw_law 164 = .ok (.aload_n 2, 1) := by decide +kernel
theorem d_Lw_law_165 : decode b_Lw_law 165 = .ok (.aload_n 0, 1) := by decide +kernel
theorem d_Lw_law_166 : decode b_Lw_law 166 = .ok (.iload 4, 2) := by decide +kernel
theorem d_Lw_law_168 : decode b_Lw_law 168 = .ok (.iconst 1, 1) := by decide +kernel
theorem d_Lw_law_169 : decode b_Lw_law 169 = .ok (.iadd, 1) := by decide +kernel
theorem d_Lw_law_170 : decode b_Lw_law 170 = .ok (.iaload, 1) := by decide +kernel
theorem d_Lw_law_171 : decode b_Lw_law 171 = .ok (.aload_n 0, 1) := by decide +kernel
theorem d_Lw_law_172 : decode b_Lw_law 172 = .ok (.iload 4, 2) := by decide +kernel
theorem d_Lw_law_174 : decode b_Lw_law 174 = .ok (.iconst 2, 1) := by decide +kernel
theorem d_Lw_law_175 : decode b_Lw_law 175 = .ok (.iadd, 1) := by decide +kernel
theorem d_Lw_law_176 : decode b_Lw_law 176 = .ok (.iaload, 1) := by decide +kernel
theorem d_Lw_law_177 : decode b_Lw_law 177 = .ok (.i2l, 1) := by decide +kernel
theorem d_Lw_law_178 : decode b_Lw_law 178 = .ok (.bipush 32, 2) := by decide +kernel
theorem d_Lw_law_180 : decode b_Lw_law 180 = .ok (.lshl, 1) := by decide +kernel
theorem d_Lw_law_181 : decode b_Lw_law 181 = .ok (.aload_n 0, 1) := by decide +kernel
theorem d_Lw_law_182 : decode b_Lw_law 182 = .ok (.iload 4, 2) := by decide +kernel
theorem d_Lw_law_184 : decode b_Lw_law 184 = .ok (.iconst 3, 1) := by decide +kernel
theorem d_Lw_law_185 : decode b_Lw_law 185 = .ok (.iadd, 1) := by decide +kernel
theorem d_Lw_law_186 : decode b_Lw_law 186 = .ok (.iaload, 1) := by decide +kernel
theorem d_Lw_law_187 : decode b_Lw_law 187 = .ok (.i2l, 1) := by decide +kernel
theorem d_Lw_law_188 : decode b_Lw_law 188 = .ok (.ldc2_w 78, 3) := by decide +kernel
theorem d_Lw_law_191 : decode b_Lw_law 191 = .ok (.land, 1) := by decide +kernel
theorem d_Lw_law_192 : decode b_Lw_law 192 = .ok (.lor, 1) := by decide +kernel
theorem d_Lw_law_193 : decode b_Lw_law 193 = .ok (.aload_n 0, 1) := by decide +kernel
theorem d_Lw_law_194 : decode b_Lw_law 194 = .ok (.iload 4, 2) := by decide +kernel
theorem d_Lw_law_196 : decode b_Lw_law 196 = .ok (.iconst 4, 1) := by decide +kernel
theorem d_Lw_law_197 : decode b_Lw_law 197 = .ok (.iadd, 1) := by decide +kernel
theorem d_Lw_law_198 : decode b_Lw_law 198 = .ok (.iaload, 1) := by decide +kernel
theorem d_Lw_law_199 : decode b_Lw_law 199 = .ok (.invokevirtual 85, 3) := by decide +kernel
theorem d_Lw_law_202 : decode b_Lw_law 202 = .ok (.goto 758, 3) := by decide +kernel
theorem d_Lw_law_205 : decode b_Lw_law 205 = .ok (.aload_n 1, 1) := by decide +kernel
theorem d_Lw_law_206 : decode b_Lw_law 206 = .ok (.aload_n 0, 1) := by decide +kernel
theorem d_Lw_law_207 : decode b_Lw_law 207 = .ok (.iload 4, 2) := by decide +kernel
theorem d_Lw_law_209 : decode b_Lw_law 209 = .ok (.iconst 1, 1) := by decide +kernel
theorem d_Lw_law_210 : decode b_Lw_law 210 = .ok (.iadd, 1) := by decide +kernel
theorem d_Lw_law_211 : decode b_Lw_law 211 = .ok (.iaload, 1) := by decide +kernel
theorem d_Lw_law_212 : decode b_Lw_law 212 = .ok (.aload_n 0, 1) := by decide +kernel
theorem d_Lw_law_213 : decode b_Lw_law 213 = .ok (.iload 4, 2) := by decide +kernel
theorem d_Lw_law_215 : decode b_Lw_law 215 = .ok (.iconst 2, 1) := by decide +kernel
theorem d_Lw_law_216 : decode b_Lw_law 216 = .ok (.iadd, 1) := by decide +kernel
theorem d_Lw_law_217 : decode b_Lw_law 217 = .ok (.iaload, 1) := by decide +kernel
theorem d_Lw_law_218 : decode b_Lw_law 218 = .ok (.i2l, 1) := by decide +kernel
theorem d_Lw_law_219 : decode b_Lw_law 219 = .ok (.bipush 32, 2) := by decide +kernel
theorem d_Lw_law_221 : decode b_Lw_law 221 = .ok (.lshl, 1) := by decide +kernel
theorem d_Lw_law_222 : decode b_Lw_law 222 = .ok (.aload_n 0, 1) := by decide +kernel
theorem d_Lw_law_223 : decode b_Lw_law 223 = .ok (.iload 4, 2) := by decide +kernel
theorem d_Lw_law_225 : decode b_Lw_law 225 = .ok (.iconst 3, 1) := by decide +kernel
theorem d_Lw_law_226 : decode b_Lw_law 226 = .ok (.iadd, 1) := by decide +kernel
theorem d_Lw_law_227 : decode b_Lw_law 227 = .ok (.iaload, 1) := by decide +kernel
theorem d_Lw_law_228 : decode b_Lw_law 228 = .ok (.i2l, 1) := by decide +kernel
theorem d_Lw_law_229 : decode b_Lw_law 229 = .ok (.ldc2_w 78, 3) := by decide +kernel
theorem d_Lw_law_232 : decode b_Lw_law 232 = .ok (.land, 1) := by decide +kernel
theorem d_Lw_law_233 : decode b_Lw_law 233 = .ok (.lor, 1) := by decide +kernel
theorem d_Lw_law_234 : decode b_Lw_law 234 = .ok (.aload_n 0, 1) := by decide +kernel
theorem d_Lw_law_235 : decode b_Lw_law 235 = .ok (.iload 4, 2) := by decide +kernel
theorem d_Lw_law_237 : decode b_Lw_law 237 = .ok (.iconst 4, 1) := by decide +kernel
theorem d_Lw_law_238 : decode b_Lw_law 238 = .ok (.iadd, 1) := by decide +kernel
theorem d_Lw_law_239 : decode b_Lw_law 239 = .ok (.iaload, 1) := by decide +kernel
theorem d_Lw_law_240 : decode b_Lw_law 240 = .ok (.aload_n 3, 1) := by decide +kernel
theorem d_Lw_law_241 : decode b_Lw_law 241 = .ok (.invokestatic 86, 3) := by decide +kernel
theorem d_Lw_law_244 : decode b_Lw_law 244 = .ok (.istore 5, 2) := by decide +kernel
theorem d_Lw_law_246 : decode b_Lw_law 246 = .ok (.aload_n 2, 1) := by decide +kernel
theorem d_Lw_law_247 : decode b_Lw_law 247 = .ok (.aload_n 0, 1) := by decide +kernel
theorem d_Lw_law_248 : decode b_Lw_law 248 = .ok (.iload 4, 2) := by decide +kernel
theorem d_Lw_law_250 : decode b_Lw_law 250 = .ok (.iconst 1, 1) := by decide +kernel
theorem d_Lw_law_251 : decode b_Lw_law 251 = .ok (.iadd, 1) := by decide +kernel
theorem d_Lw_law_252 : decode b_Lw_law 252 = .ok (.iaload, 1) := by decide +kernel
theorem d_Lw_law_253 : decode b_Lw_law 253 = .ok (.aload_n 0, 1) := by decide +kernel
theorem d_Lw_law_254 : decode b_Lw_law 254 = .ok (.iload 4, 2) := by decide +kernel
theorem d_Lw_law_256 : decode b_Lw_law 256 = .ok (.iconst 2, 1) := by decide +kernel
theorem d_Lw_law_257 : decode b_Lw_law 257 = .ok (.iadd, 1) := by decide +kernel
theorem d_Lw_law_258 : decode b_Lw_law 258 = .ok (.iaload, 1) := by decide +kernel
theorem d_Lw_law_259 : decode b_Lw_law 259 = .ok (.i2l, 1) := by decide +kernel
theorem d_Lw_law_260 : decode b_Lw_law 260 = .ok (.bipush 32, 2) := by decide +kernel
theorem d_Lw_law_262 : decode b_Lw_law 262 = .ok (.lshl, 1) := by decide +kernel
theorem d_Lw_law_263 : decode b_Lw_law 263 = .ok (.aload_n 0, 1) := by decide +kernel
theorem d_Lw_law_264 : decode b_Lw_law 264 = .ok (.iload 4, 2) := by decide +kernel
theorem d_Lw_law_266 : decode b_Lw_law 266 = .ok (.iconst 3, 1) := by decide +kernel
theorem d_Lw_law_267 : decode b_Lw_law 267 = .ok (.iadd, 1) := by decide +kernel
theorem d_Lw_law_268 : decode b_Lw_law 268 = .ok (.iaload, 1) := by decide +kernel
theorem d_Lw_law_269 : decode b_Lw_law 269 = .ok (.i2l, 1) := by decide +kernel
theorem d_Lw_law_270 : decode b_Lw_law 270 = .ok (.ldc2_w 78, 3) := by decide +kernel
theorem d_Lw_law_273 : decode b_Lw_law 273 = .ok (.land, 1) := by decide +kernel
theorem d_Lw_law_274 : decode b_Lw_law 274 = .ok (.lor, 1) := by decide +kernel
theorem d_Lw_law_275 : decode b_Lw_law 275 = .ok (.aload_n 0, 1) := by decide +kernel
theorem d_Lw_law_276 : decode b_Lw_law 276 = .ok (.iload 4, 2) := by decide +kernel
theorem d_Lw_law_278 : decode b_Lw_law 278 = .ok (.iconst 4, 1) := by decide +kernel
theorem d_Lw_law_279 : decode b_Lw_law 279 = .ok (.iadd, 1) := by decide +kernel
theorem d_Lw_law_280 : decode b_Lw_law 280 = .ok (.iaload, 1) := by decide +kernel
theorem d_Lw_law_281 : decode b_Lw_law 281 = .ok (.invokevirtual 89, 3) := by decide +kernel
theorem d_Lw_law_284 : decode b_Lw_law 284 = .ok (.istore 6, 2) := by decide +kernel
theorem d_Lw_law_286 : decode b_Lw_law 286 = .ok (.goto 674, 3) := by decide +kernel
theorem d_Lw_law_289 : decode b_Lw_law 289 = .ok (.aload_n 1, 1) := by decide +kernel
theorem d_Lw_law_290 : decode b_Lw_law 290 = .ok (.aload_n 0, 1) := by decide +kernel
theorem d_Lw_law_291 : decode b_Lw_law 291 = .ok (.iload 4, 2) := by decide +kernel
theorem d_Lw_law_293 : decode b_Lw_law 293 = .ok (.iconst 1, 1) := by decide +kernel
theorem d_Lw_law_294 : decode b_Lw_law 294 = .ok (.iadd, 1) := by decide +kernel
theorem d_Lw_law_295 : decode b_Lw_law 295 = .ok (.iaload, 1) := by decide +kernel
theorem d_Lw_law_296 : decode b_Lw_law 296 = .ok (.aload_n 0, 1) := by decide +kernel
theorem d_Lw_law_297 : decode b_Lw_law 297 = .ok (.iload 4, 2) := by decide +kernel
theorem d_Lw_law_299 : decode b_Lw_law 299 = .ok (.iconst 2, 1) := by decide +kernel
theorem d_Lw_law_300 : decode b_Lw_law 300 = .ok (.iadd, 1) := by decide +kernel
theorem d_Lw_law_301 : decode b_Lw_law 301 = .ok (.iaload, 1) := by decide +kernel
theorem d_Lw_law_302 : decode b_Lw_law 302 = .ok (.aload_n 0, 1) := by decide +kernel
theorem d_Lw_law_303 : decode b_Lw_law 303 = .ok (.iload 4, 2) := by decide +kernel
theorem d_Lw_law_305 : decode b_Lw_law 305 = .ok (.iconst 3, 1) := by decide +kernel
theorem d_Lw_law_306 : decode b_Lw_law 306 = .ok (.iadd, 1) := by decide +kernel
theorem d_Lw_law_307 : decode b_Lw_law 307 = .ok (.iaload, 1) := by decide +kernel
theorem d_Lw_law_308 : decode b_Lw_law 308 = .ok (.i2l, 1) := by decide +kernel
theorem d_Lw_law_309 : decode b_Lw_law 309 = .ok (.bipush 32, 2) := by decide +kernel
theorem d_Lw_law_311 : decode b_Lw_law 311 = .ok (.lshl, 1) := by decide +kernel
theorem d_Lw_law_312 : decode b_Lw_law 312 = .ok (.aload_n 0, 1) := by decide +kernel
theorem d_Lw_law_313 : decode b_Lw_law 313 = .ok (.iload 4, 2) := by decide +kernel
theorem d_Lw_law_315 : decode b_Lw_law 315 = .ok (.iconst 4, 1) := by decide +kernel
theorem d_Lw_law_316 : decode b_Lw_law 316 = .ok (.iadd, 1) := by decide +kernel
theorem d_Lw_law_317 : decode b_Lw_law 317 = .ok (.iaload, 1) := by decide +kernel
theorem d_Lw_law_318 : decode b_Lw_law 318 = .ok (.i2l, 1) := by decide +kernel
theorem d_Lw_law_319 : decode b_Lw_law 319 = .ok (.ldc2_w 78, 3) := by decide +kernel
theorem d_Lw_law_322 : decode b_Lw_law 322 = .ok (.land, 1) := by decide +kernel
theorem d_Lw_law_323 : decode b_Lw_law 323 = .ok (.lor, 1) := by decide +kernel
theorem d_Lw_law_324 : decode b_Lw_law 324 = .ok (.invokestatic 90, 3) := by decide +kernel
theorem d_Lw_law_327 : decode b_Lw_law 327 = .ok (.istore 5, 2) := by decide +kernel
theorem d_Lw_law_329 : decode b_Lw_law 329 = .ok (.aload_n 2, 1) := by decide +kernel
theorem d_Lw_law_330 : decode b_Lw_law 330 = .ok (.aload_n 0, 1) := by decide +kernel
theorem d_Lw_law_331 : decode b_Lw_law 331 = .ok (.iload 4, 2) := by decide +kernel
theorem d_Lw_law_333 : decode b_Lw_law 333 = .ok (.iconst 1, 1) := by decide +kernel
theorem d_Lw_law_334 : decode b_Lw_law 334 = .ok (.iadd, 1) := by decide +kernel
theorem d_Lw_law_335 : decode b_Lw_law 335 = .ok (.iaload, 1) := by decide +kernel
theorem d_Lw_law_336 : decode b_Lw_law 336 = .ok (.aload_n 0, 1) := by decide +kernel
theorem d_Lw_law_337 : decode b_Lw_law 337 = .ok (.iload 4, 2) := by decide +kernel
theorem d_Lw_law_339 : decode b_Lw_law 339 = .ok (.iconst 2, 1) := by decide +kernel
theorem d_Lw_law_340 : decode b_Lw_law 340 = .ok (.iadd, 1) := by decide +kernel
theorem d_Lw_law_341 : decode b_Lw_law 341 = .ok (.iaload, 1) := by decide +kernel
theorem d_Lw_law_342 : decode b_Lw_law 342 = .ok (.aload_n 0, 1) := by decide +kernel
theorem d_Lw_law_343 : decode b_Lw_law 343 = .ok (.iload 4, 2) := by decide +kernel
theorem d_Lw_law_345 : decode b_Lw_law 345 = .ok (.iconst 3, 1) := by decide +kernel
theorem d_Lw_law_346 : decode b_Lw_law 346 = .ok (.iadd, 1) := by decide +kernel
theorem d_Lw_law_347 : decode b_Lw_law 347 = .ok (.iaload, 1) := by decide +kernel
theorem d_Lw_law_348 : decode b_Lw_law 348 = .ok (.i2l, 1) := by decide +kernel
theorem d_Lw_law_349 : decode b_Lw_law 349 = .ok (.bipush 32, 2) := by decide +kernel
theorem d_Lw_law_351 : decode b_Lw_law 351 = .ok (.lshl, 1) := by decide +kernel
theorem d_Lw_law_352 : decode b_Lw_law 352 = .ok (.aload_n 0, 1) := by decide +kernel
theorem d_Lw_law_353 : decode b_Lw_law 353 = .ok (.iload 4, 2) := by decide +kernel
theorem d_Lw_law_355 : decode b_Lw_law 355 = .ok (.iconst 4, 1) := by decide +kernel
theorem d_Lw_law_356 : decode b_Lw_law 356 = .ok (.iadd, 1) := by decide +kernel
theorem d_Lw_law_357 : decode b_Lw_law 357 = .ok (.iaload, 1) := by decide +kernel
theorem d_Lw_law_358 : decode b_Lw_law 358 = .ok (.i2l, 1) := by decide +kernel
theorem d_Lw_law_359 : decode b_Lw_law 359 = .ok (.ldc2_w 78, 3) := by decide +kernel
theorem d_Lw_law_362 : decode b_Lw_law 362 = .ok (.land, 1) := by decide +kernel
theorem d_Lw_law_363 : decode b_Lw_law 363 = .ok (.lor, 1) := by decide +kernel
theorem d_Lw_law_364 : decode b_Lw_law 364 = .ok (.invokevirtual 93, 3) := by decide +kernel
theorem d_Lw_law_367 : decode b_Lw_law 367 = .ok (.goto 593, 3) := by decide +kernel
theorem d_Lw_law_370 : decode b_Lw_law 370 = .ok (.aload_n 1, 1) := by decide +kernel
theorem d_Lw_law_371 : decode b_Lw_law 371 = .ok (.aload_n 0, 1) := by decide +kernel
theorem d_Lw_law_372 : decode b_Lw_law 372 = .ok (.iload 4, 2) := by decide +kernel
theorem d_Lw_law_374 : decode b_Lw_law 374 = .ok (.iconst 1, 1) := by decide +kernel
theorem d_Lw_law_375 : decode b_Lw_law 375 = .ok (.iadd, 1) := by decide +kernel
theorem d_Lw_law_376 : decode b_Lw_law 376 = .ok (.iaload, 1) := by decide +kernel
theorem d_Lw_law_377 : decode b_Lw_law 377 = .ok (.aload_n 0, 1) := by decide +kernel
theorem d_Lw_law_378 : decode b_Lw_law 378 = .ok (.iload 4, 2) := by decide +kernel
theorem d_Lw_law_380 : decode b_Lw_law 380 = .ok (.iconst 2, 1) := by decide +kernel
theorem d_Lw_law_381 : decode b_Lw_law 381 = .ok (.iadd, 1) := by decide +kernel
theorem d_Lw_law_382 : decode b_Lw_law 382 = .ok (.iaload, 1) := by decide +kernel
theorem d_Lw_law_383 : decode b_Lw_law 383 = .ok (.aload_n 0, 1) := by decide +kernel
theorem d_Lw_law_384 : decode b_Lw_law 384 = .ok (.iload 4, 2) := by decide +kernel
theorem d_Lw_law_386 : decode b_Lw_law 386 = .ok (.iconst 3, 1) := by decide +kernel
theorem d_Lw_law_387 : decode b_Lw_law 387 = .ok (.iadd, 1) := by decide +kernel
theorem d_Lw_law_388 : decode b_Lw_law 388 = .ok (.iaload, 1) := by decide +kernel
theorem d_Lw_law_389 : decode b_Lw_law 389 = .ok (.aload_n 3, 1) := by decide +kernel
theorem d_Lw_law_390 : decode b_Lw_law 390 = .ok (.invokestatic 94, 3) := by decide +kernel
theorem d_Lw_law_393 : decode b_Lw_law 393 = .ok (.istore 5, 2) := by decide +kernel
theorem d_Lw_law_395 : decode b_Lw_law 395 = .ok (.aload_n 2, 1) := by decide +kernel
theorem d_Lw_law_396 : decode b_Lw_law 396 = .ok (.aload_n 0, 1) := by decide +kernel
theorem d_Lw_law_397 : decode b_Lw_law 397 = .ok (.iload 4, 2) := by decide +kernel
theorem d_Lw_law_399 : decode b_Lw_law 399 = .ok (.iconst 1, 1) := by decide +kernel
theorem d_Lw_law_400 : decode b_Lw_law 400 = .ok (.iadd, 1) := by decide +kernel
theorem d_Lw_law_401 : decode b_Lw_law 401 = .ok (.iaload, 1) := by decide +kernel
theorem d_Lw_law_402 : decode b_Lw_law 402 = .ok (.aload_n 0, 1) := by decide +kernel
theorem d_Lw_law_403 : decode b_Lw_law 403 = .ok (.iload 4, 2) := by decide +kernel
theorem d_Lw_law_405 : decode b_Lw_law 405 = .ok (.iconst 2, 1) := by decide +kernel
theorem d_Lw_law_406 : decode b_Lw_law 406 = .ok (.iadd, 1) := by decide +kernel
theorem d_Lw_law_407 : decode b_Lw_law 407 = .ok (.iaload, 1) := by decide +kernel
theorem d_Lw_law_408 : decode b_Lw_law 408 = .ok (.aload_n 0, 1) := by decide +kernel
theorem d_Lw_law_409 : decode b_Lw_law 409 = .ok (.iload 4, 2) := by decide +kernel
theorem d_Lw_law_411 : decode b_Lw_law 411 = .ok (.iconst 3, 1) := by decide +kernel
theorem d_Lw_law_412 : decode b_Lw_law 412 = .ok (.iadd, 1) := by decide +kernel
theorem d_Lw_law_413 : decode b_Lw_law 413 = .ok (.iaload, 1) := by decide +kernel
theorem d_Lw_law_414 : decode b_Lw_law 414 = .ok (.invokevirtual 97, 3) := by decide +kernel
theorem d_Lw_law_417 : decode b_Lw_law 417 = .ok (.istore 6, 2) := by decide +kernel
theorem d_Lw_law_419 : decode b_Lw_law 419 = .ok (.goto 541, 3) := by decide +kernel
theorem d_Lw_law_422 : decode b_Lw_law 422 = .ok (.aload_n 1, 1) := by decide +kernel
theorem d_Lw_law_423 : decode b_Lw_law 423 = .ok (.aload_n 0, 1) := by decide +kernel
theorem d_Lw_law_424 : decode b_Lw_law 424 = .ok (.iload 4, 2) := by decide +kernel
theorem d_Lw_law_426 : decode b_Lw_law 426 = .ok (.iconst 1, 1) := by decide +kernel
theorem d_Lw_law_427 : decode b_Lw_law 427 = .ok (.iadd, 1) := by decide +kernel
theorem d_Lw_law_428 : decode b_Lw_law 428 = .ok (.iaload, 1) := by decide +kernel
theorem d_Lw_law_429 : decode b_Lw_law 429 = .ok (.aload_n 0, 1) := by decide +kernel
theorem d_Lw_law_430 : decode b_Lw_law 430 = .ok (.iload 4, 2) := by decide +kernel
theorem d_Lw_law_432 : decode b_Lw_law 432 = .ok (.iconst 2, 1) := by decide +kernel
theorem d_Lw_law_433 : decode b_Lw_law 433 = .ok (.iadd, 1) := by decide +kernel
theorem d_Lw_law_434 : decode b_Lw_law 434 = .ok (.iaload, 1) := by decide +kernel
theorem d_Lw_law_435 : decode b_Lw_law 435 = .ok (.aload_n 3, 1) := by decide +kernel
theorem d_Lw_law_436 : decode b_Lw_law 436 = .ok (.invokestatic 98, 3) := by decide +kernel
theorem d_Lw_law_439 : decode b_Lw_law 439 = .ok (.istore 5, 2) := by decide +kernel
theorem d_Lw_law_441 : decode b_Lw_law 441 = .ok (.aload_n 2, 1) := by decide +kernel
theorem d_Lw_law_442 : decode b_Lw_law 442 = .ok (.aload_n 0, 1) := by decide +kernel
theorem d_Lw_law_443 : decode b_Lw_law 443 = .ok (.iload 4, 2) := by decide +kernel
theorem d_Lw_law_445 : decode b_Lw_law 445 = .ok (.iconst 1, 1) := by decide +kernel
theorem d_Lw_law_446 : decode b_Lw_law 446 = .ok (.iadd, 1) := by decide +kernel
theorem d_Lw_law_447 : decode b_Lw_law 447 = .ok (.iaload, 1) := by decide +kernel
theorem d_Lw_law_448 : decode b_Lw_law 448 = .ok (.aload_n 0, 1) := by decide +kernel
theorem d_Lw_law_449 : decode b_Lw_law 449 = .ok (.iload 4, 2) := by decide +kernel
theorem d_Lw_law_451 : decode b_Lw_law 451 = .ok (.iconst 2, 1) := by decide +kernel
theorem d_Lw_law_452 : decode b_Lw_law 452 = .ok (.iadd, 1) := by decide +kernel
theorem d_Lw_law_453 : decode b_Lw_law 453 = .ok (.iaload, 1) := by decide +kernel
theorem d_Lw_law_454 : decode b_Lw_law 454 = .ok (.invokevirtual 101, 3) := by decide +kernel
theorem d_Lw_law_457 : decode b_Lw_law 457 = .ok (.istore 6, 2) := by decide +kernel
theorem d_Lw_law_459 : decode b_Lw_law 459 = .ok (.goto 501, 3) := by decide +kernel
theorem d_Lw_law_462 : decode b_Lw_law 462 = .ok (.aload_n 1, 1) := by decide +kernel
theorem d_Lw_law_463 : decode b_Lw_law 463 = .ok (.aload_n 0, 1) := by decide +kernel
theorem d_Lw_law_464 : decode b_Lw_law 464 = .ok (.iload 4, 2) := by decide +kernel
theorem d_Lw_law_466 : decode b_Lw_law 466 = .ok (.iconst 1, 1) := by decide +kernel
theorem d_Lw_law_467 : decode b_Lw_law 467 = .ok (.iadd, 1) := by decide +kernel
theorem d_Lw_law_468 : decode b_Lw_law 468 = .ok (.iaload, 1) := by decide +kernel
theorem d_Lw_law_469 : decode b_Lw_law 469 = .ok (.aload_n 3, 1) := by decide +kernel
theorem d_Lw_law_470 : decode b_Lw_law 470 = .ok (.invokestatic 102, 3) := by decide +kernel
theorem d_Lw_law_473 : decode b_Lw_law 473 = .ok (.istore 5, 2) := by decide +kernel
theorem d_Lw_law_475 : decode b_Lw_law 475 = .ok (.aload_n 2, 1) := by decide +kernel
theorem d_Lw_law_476 : decode b_Lw_law 476 = .ok (.aload_n 0, 1) := by decide +kernel
theorem d_Lw_law_477 : decode b_Lw_law 477 = .ok (.iload 4, 2) := by decide +kernel
theorem d_Lw_law_479 : decode b_Lw_law 479 = .ok (.iconst 1, 1) := by decide +kernel
theorem d_Lw_law_480 : decode b_Lw_law 480 = .ok (.iadd, 1) := by decide +kernel
theorem d_Lw_law_481 : decode b_Lw_law 481 = .ok (.iaload, 1) := by decide +kernel
theorem d_Lw_law_482 : decode b_Lw_law 482 = .ok (.invokevirtual 105, 3) := by decide +kernel
theorem d_Lw_law_485 : decode b_Lw_law 485 = .ok (.istore 6, 2) := by decide +kernel
theorem d_Lw_law_487 : decode b_Lw_law 487 = .ok (.goto 473, 3) := by decide +kernel
theorem d_Lw_law_490 : decode b_Lw_law 490 = .ok (.aload_n 1, 1) := by decide +kernel
theorem d_Lw_law_491 : decode b_Lw_law 491 = .ok (.aload_n 0, 1) := by decide +kernel
theorem d_Lw_law_492 : decode b_Lw_law 492 = .ok (.iload 4, 2) := by decide +kernel
theorem d_Lw_law_494 : decode b_Lw_law 494 = .ok (.iconst 1, 1) := by decide +kernel
theorem d_Lw_law_495 : decode b_Lw_law 495 = .ok (.iadd, 1) := by decide +kernel
theorem d_Lw_law_496 : decode b_Lw_law 496 = .ok (.iaload, 1) := by decide +kernel
theorem d_Lw_law_497 : decode b_Lw_law 497 = .ok (.aload_n 0, 1) := by decide +kernel
theorem d_Lw_law_498 : decode b_Lw_law 498 = .ok (.iload 4, 2) := by decide +kernel
theorem d_Lw_law_500 : decode b_Lw_law 500 = .ok (.iconst 2, 1) := by decide +kernel
theorem d_Lw_law_501 : decode b_Lw_law 501 = .ok (.iadd, 1) := by decide +kernel
theorem d_Lw_law_502 : decode b_Lw_law 502 = .ok (.iaload, 1) := by decide +kernel
theorem d_Lw_law_503 : decode b_Lw_law 503 = .ok (.i2l, 1) := by decide +kernel
theorem d_Lw_law_504 : decode b_Lw_law 504 = .ok (.bipush 32, 2) := by decide +kernel
theorem d_Lw_law_506 : decode b_Lw_law 506 = .ok (.lshl, 1) := by decide +kernel
theorem d_Lw_law_507 : decode b_Lw_law 507 = .ok (.aload_n 0, 1) := by decide +kernel
theorem d_Lw_law_508 : decode b_Lw_law 508 = .ok (.iload 4, 2) := by decide +kernel
theorem d_Lw_law_510 : decode b_Lw_law 510 = .ok (.iconst 3, 1) := by decide +kernel
theorem d_Lw_law_511 : decode b_Lw_law 511 = .ok (.iadd, 1) := by decide +kernel
theorem d_Lw_law_512 : decode b_Lw_law 512 = .ok (.iaload, 1) := by decide +kernel
theorem d_Lw_law_513 : decode b_Lw_law 513 = .ok (.i2l, 1) := by decide +kernel
theorem d_Lw_law_514 : decode b_Lw_law 514 = .ok (.ldc2_w 78, 3) := by decide +kernel
theorem d_Lw_law_517 : decode b_Lw_law 517 = .ok (.land, 1) := by decide +kernel
theorem d_Lw_law_518 : decode b_Lw_law 518 = .ok (.lor, 1) := by decide +kernel
theorem d_Lw_law_519 : decode b_Lw_law 519 = .ok (.aload_n 0, 1) := by decide +kernel
theorem d_Lw_law_520 : decode b_Lw_law 520 = .ok (.iload 4, 2) := by decide +kernel
theorem d_Lw_law_522 : decode b_Lw_law 522 = .ok (.iconst 4, 1) := by decide +kernel
theorem d_Lw_law_523 : decode b_Lw_law 523 = .ok (.iadd, 1) := by decide +kernel
theorem d_Lw_law_524 : decode b_Lw_law 524 = .ok (.iaload, 1) := by decide +kernel
theorem d_Lw_law_525 : decode b_Lw_law 525 = .ok (.aload_n 3, 1) := by decide +kernel
theorem d_Lw_law_526 : decode b_Lw_law 526 = .ok (.invokestatic 106, 3) := by decide +kernel
theorem d_Lw_law_529 : decode b_Lw_law 529 = .ok (.istore 5, 2) := by decide +kernel
theorem d_Lw_law_531 : decode b_Lw_law 531 = .ok (.aload_n 2, 1) := by decide +kernel
theorem d_Lw_law_532 : decode b_Lw_law 532 = .ok (.aload_n 0, 1) := by decide +kernel
theorem d_Lw_law_533 : decode b_Lw_law 533 = .ok (.iload 4, 2) := by decide +kernel
theorem d_Lw_law_535 : decode b_Lw_law 535 = .ok (.iconst 1, 1) := by decide +kernel
theorem d_Lw_law_536 : decode b_Lw_law 536 = .ok (.iadd, 1) := by decide +kernel
theorem d_Lw_law_537 : decode b_Lw_law 537 = .ok (.iaload, 1) := by decide +kernel
theorem d_Lw_law_538 : decode b_Lw_law 538 = .ok (.aload_n 0, 1) := by decide +kernel
theorem d_Lw_law_539 : decode b_Lw_law 539 = .ok (.iload 4, 2) := by decide +kernel
theorem d_Lw_law_541 : decode b_Lw_law 541 = .ok (.iconst 2, 1) := by decide +kernel
theorem d_Lw_law_542 : decode b_Lw_law 542 = .ok (.iadd, 1) := by decide +kernel
theorem d_Lw_law_543 : decode b_Lw_law 543 = .ok (.iaload, 1) := by decide +kernel
theorem d_Lw_law_544 : decode b_Lw_law 544 = .ok (.i2l, 1) := by decide +kernel
theorem d_Lw_law_545 : decode b_Lw_law 545 = .ok (.bipush 32, 2) := by decide +kernel
theorem d_Lw_law_547 : decode b_Lw_law 547 = .ok (.lshl, 1) := by decide +kernel
theorem d_Lw_law_548 : decode b_Lw_law 548 = .ok (.aload_n 0, 1) := by decide +kernel
theorem d_Lw_law_549 : decode b_Lw_law 549 = .ok (.iload 4, 2) := by decide +kernel
theorem d_Lw_law_551 : decode b_Lw_law 551 = .ok (.iconst 3, 1) := by decide +kernel
theorem d_Lw_law_552 : decode b_Lw_law 552 = .ok (.iadd, 1) := by decide +kernel
theorem d_Lw_law_553 : decode b_Lw_law 553 = .ok (.iaload, 1) := by decide +kernel
theorem d_Lw_law_554 : decode b_Lw_law 554 = .ok (.i2l, 1) := by decide +kernel
theorem d_Lw_law_555 : decode b_Lw_law 555 = .ok (.ldc2_w 78, 3) := by decide +kernel
theorem d_Lw_law_558 : decode b_Lw_law 558 = .ok (.land, 1) := by decide +kernel
theorem d_Lw_law_559 : decode b_Lw_law 559 = .ok (.lor, 1) := by decide +kernel
theorem d_Lw_law_560 : decode b_Lw_law 560 = .ok (.aload_n 0, 1) := by decide +kernel
theorem d_Lw_law_561 : decode b_Lw_law 561 = .ok (.iload 4, 2) := by decide +kernel
theorem d_Lw_law_563 : decode b_Lw_law 563 = .ok (.iconst 4, 1) := by decide +kernel
theorem d_Lw_law_564 : decode b_Lw_law 564 = .ok (.iadd, 1) := by decide +kernel
theorem d_Lw_law_565 : decode b_Lw_law 565 = .ok (.iaload, 1) := by decide +kernel
theorem d_Lw_law_566 : decode b_Lw_law 566 = .ok (.invokevirtual 108, 3) := by decide +kernel
theorem d_Lw_law_569 : decode b_Lw_law 569 = .ok (.istore 6, 2) := by decide +kernel
theorem d_Lw_law_571 : decode b_Lw_law 571 = .ok (.goto 389, 3) := by decide +kernel
theorem d_Lw_law_574 : decode b_Lw_law 574 = .ok (.aload_n 1, 1) := by decide +kernel
theorem d_Lw_law_575 : decode b_Lw_law 575 = .ok (.aload_n 0, 1) := by decide +kernel
theorem d_Lw_law_576 : decode b_Lw_law 576 = .ok (.iload 4, 2) := by decide +kernel
theorem d_Lw_law_578 : decode b_Lw_law 578 = .ok (.iconst 1, 1) := by decide +kernel
theorem d_Lw_law_579 : decode b_Lw_law 579 = .ok (.iadd, 1) := by decide +kernel
theorem d_Lw_law_580 : decode b_Lw_law 580 = .ok (.iaload, 1) := by decide +kernel
theorem d_Lw_law_581 : decode b_Lw_law 581 = .ok (.aload_n 3, 1) := by decide +kernel
theorem d_Lw_law_582 : decode b_Lw_law 582 = .ok (.invokestatic 109, 3) := by decide +kernel
theorem d_Lw_law_585 : decode b_Lw_law 585 = .ok (.istore 5, 2) := by decide +kernel
theorem d_Lw_law_587 : decode b_Lw_law 587 = .ok (.aload_n 2, 1) := by decide +kernel
theorem d_Lw_law_588 : decode b_Lw_law 588 = .ok (.aload_n 0, 1) := by decide +kernel
theorem d_Lw_law_589 : decode b_Lw_law 589 = .ok (.iload 4, 2) := by decide +kernel
theorem d_Lw_law_591 : decode b_Lw_law 591 = .ok (.iconst 1, 1) := by decide +kernel
theorem d_Lw_law_592 : decode b_Lw_law 592 = .ok (.iadd, 1) := by decide +kernel
theorem d_Lw_law_593 : decode b_Lw_law 593 = .ok (.iaload, 1) := by decide +kernel
theorem d_Lw_law_594 : decode b_Lw_law 594 = .ok (.invokevirtual 111, 3) := by decide +kernel
theorem d_Lw_law_597 : decode b_Lw_law 597 = .ok (.istore 6, 2) := by decide +kernel
theorem d_Lw_law_599 : decode b_Lw_law 599 = .ok (.goto 361, 3) := by decide +kernel
theorem d_Lw_law_602 : decode b_Lw_law 602 = .ok (.aload_n 1, 1) := by decide +kernel
theorem d_Lw_law_603 : decode b_Lw_law 603 = .ok (.aload_n 0, 1) := by decide +kernel
theorem d_Lw_law_604 : decode b_Lw_law 604 = .ok (.iload 4, 2) := by decide +kernel
theorem d_Lw_law_606 : decode b_Lw_law 606 = .ok (.iconst 1, 1) := by decide +kernel
theorem d_Lw_law_607 : decode b_Lw_law 607 = .ok (.iadd, 1) := by decide +kernel
theorem d_Lw_law_608 : decode b_Lw_law 608 = .ok (.iaload, 1) := by decide +kernel
theorem d_Lw_law_609 : decode b_Lw_law 609 = .ok (.i2l, 1) := by decide +kernel
theorem d_Lw_law_610 : decode b_Lw_law 610 = .ok (.bipush 32, 2) := by decide +kernel
theorem d_Lw_law_612 : decode b_Lw_law 612 = .ok (.lshl, 1) := by decide +kernel
theorem d_Lw_law_613 : decode b_Lw_law 613 = .ok (.aload_n 0, 1) := by decide +kernel
theorem d_Lw_law_614 : decode b_Lw_law 614 = .ok (.iload 4, 2) := by decide +kernel
theorem d_Lw_law_616 : decode b_Lw_law 616 = .ok (.iconst 2, 1) := by decide +kernel
theorem d_Lw_law_617 : decode b_Lw_law 617 = .ok (.iadd, 1) := by decide +kernel
theorem d_Lw_law_618 : decode b_Lw_law 618 = .ok (.iaload, 1) := by decide +kernel
theorem d_Lw_law_619 : decode b_Lw_law 619 = .ok (.i2l, 1) := by decide +kernel
theorem d_Lw_law_620 : decode b_Lw_law 620 = .ok (.ldc2_w 78, 3) := by decide +kernel
theorem d_Lw_law_623 : decode b_Lw_law 623 = .ok (.land, 1) := by decide +kernel
theorem d_Lw_law_624 : decode b_Lw_law 624 = .ok (.lor, 1) := by decide +kernel
theorem d_Lw_law_625 : decode b_Lw_law 625 = .ok (.aload_n 0, 1) := by decide +kernel
theorem d_Lw_law_626 : decode b_Lw_law 626 = .ok (.iload 4, 2) := by decide +kernel
theorem d_Lw_law_628 : decode b_Lw_law 628 = .ok (.iconst 3, 1) := by decide +kernel
theorem d_Lw_law_629 : decode b_Lw_law 629 = .ok (.iadd, 1) := by decide +kernel
theorem d_Lw_law_630 : decode b_Lw_law 630 = .ok (.iaload, 1) := by decide +kernel
theorem d_Lw_law_631 : decode b_Lw_law 631 = .ok (.aload_n 3, 1) := by decide +kernel
theorem d_Lw_law_632 : decode b_Lw_law 632 = .ok (.invokestatic 112, 3) := by decide +kernel
theorem d_Lw_law_635 : decode b_Lw_law 635 = .ok (.istore 5, 2) := by decide +kernel
theorem d_Lw_law_637 : decode b_Lw_law 637 = .ok (.aload_n 2, 1) := by decide +kernel
theorem d_Lw_law_638 : decode b_Lw_law 638 = .ok (.aload_n 0, 1) := by decide +kernel
theorem d_Lw_law_639 : decode b_Lw_law 639 = .ok (.iload 4, 2) := by decide +kernel
theorem d_Lw_law_641 : decode b_Lw_law 641 = .ok (.iconst 1, 1) := by decide +kernel
theorem d_Lw_law_642 : decode b_Lw_law 642 = .ok (.iadd, 1) := by decide +kernel
theorem d_Lw_law_643 : decode b_Lw_law 643 = .ok (.iaload, 1) := by decide +kernel
theorem d_Lw_law_644 : decode b_Lw_law 644 = .ok (.i2l, 1) := by decide +kernel
theorem d_Lw_law_645 : decode b_Lw_law 645 = .ok (.bipush 32, 2) := by decide +kernel
theorem d_Lw_law_647 : decode b_Lw_law 647 = .ok (.lshl, 1) := by decide +kernel
theorem d_Lw_law_648 : decode b_Lw_law 648 = .ok (.aload_n 0, 1) := by decide +kernel
theorem d_Lw_law_649 : decode b_Lw_law 649 = .ok (.iload 4, 2) := by decide +kernel
theorem d_Lw_law_651 : decode b_Lw_law 651 = .ok (.iconst 2, 1) := by decide +kernel
theorem d_Lw_law_652 : decode b_Lw_law 652 = .ok (.iadd, 1) := by decide +kernel
theorem d_Lw_law_653 : decode b_Lw_law 653 = .ok (.iaload, 1) := by decide +kernel
theorem d_Lw_law_654 : decode b_Lw_law 654 = .ok (.i2l, 1) := by decide +kernel
theorem d_Lw_law_655 : decode b_Lw_law 655 = .ok (.ldc2_w 78, 3) := by decide +kernel
theorem d_Lw_law_658 : decode b_Lw_law 658 = .ok (.land, 1) := by decide +kernel
theorem d_Lw_law_659 : decode b_Lw_law 659 = .ok (.lor, 1) := by decide +kernel
theorem d_Lw_law_660 : decode b_Lw_law 660 = .ok (.aload_n 0, 1) := by decide +kernel
theorem d_Lw_law_661 : decode b_Lw_law 661 = .ok (.iload 4, 2) := by decide +kernel
theorem d_Lw_law_663 : decode b_Lw_law 663 = .ok (.iconst 3, 1) := by decide +kernel
theorem d_Lw_law_664 : decode b_Lw_law 664 = .ok (.iadd, 1) := by decide +kernel
theorem d_Lw_law_665 : decode b_Lw_law 665 = .ok (.iaload, 1) := by decide +kernel
theorem d_Lw_law_666 : decode b_Lw_law 666 = .ok (.invokevirtual 115, 3) := by decide +kernel
theorem d_Lw_law_669 : decode b_Lw_law 669 = .ok (.istore 6, 2) := by decide +kernel
theorem d_Lw_law_671 : decode b_Lw_law 671 = .ok (.goto 289, 3) := by decide +kernel
theorem d_Lw_law_674 : decode b_Lw_law 674 = .ok (.aload_n 1, 1) := by decide +kernel
theorem d_Lw_law_675 : decode b_Lw_law 675 = .ok (.aload_n 0, 1) := by decide +kernel
theorem d_Lw_law_676 : decode b_Lw_law 676 = .ok (.iload 4, 2) := by decide +kernel
theorem d_Lw_law_678 : decode b_Lw_law 678 = .ok (.iconst 1, 1) := by decide +kernel
theorem d_Lw_law_679 : decode b_Lw_law 679 = .ok (.iadd, 1) := by decide +kernel
theorem d_Lw_law_680 : decode b_Lw_law 680 = .ok (.iaload, 1) := by decide +kernel
theorem d_Lw_law_681 : decode b_Lw_law 681 = .ok (.aload_n 3, 1) := by decide +kernel
theorem d_Lw_law_682 : decode b_Lw_law 682 = .ok (.invokestatic 116, 3) := by decide +kernel
theorem d_Lw_law_685 : decode b_Lw_law 685 = .ok (.istore 5, 2) := by decide +kernel
theorem d_Lw_law_687 : decode b_Lw_law 687 = .ok (.aload_n 2, 1) := by decide +kernel
theorem d_Lw_law_688 : decode b_Lw_law 688 = .ok (.aload_n 0, 1) := by decide +kernel
theorem d_Lw_law_689 : decode b_Lw_law 689 = .ok (.iload 4, 2) := by decide +kernel
theorem d_Lw_law_691 : decode b_Lw_law 691 = .ok (.iconst 1, 1) := by decide +kernel
theorem d_Lw_law_692 : decode b_Lw_law 692 = .ok (.iadd, 1) := by decide +kernel
theorem d_Lw_law_693 : decode b_Lw_law 693 = .ok (.iaload, 1) := by decide +kernel
theorem d_Lw_law_694 : decode b_Lw_law 694 = .ok (.invokevirtual 118, 3) := by decide +kernel
theorem d_Lw_law_697 : decode b_Lw_law 697 = .ok (.istore 6, 2) := by decide +kernel
theorem d_Lw_law_699 : decode b_Lw_law 699 = .ok (.goto 261, 3) := by decide +kernel
theorem d_Lw_law_702 : decode b_Lw_law 702 = .ok (.aload_n 1, 1) := by decide +kernel
theorem d_Lw_law_703 : decode b_Lw_law 703 = .ok (.aload_n 0, 1) := by decide +kernel
theorem d_Lw_law_704 : decode b_Lw_law 704 = .ok (.iload 4, 2) := by decide +kernel
theorem d_Lw_law_706 : decode b_Lw_law 706 = .ok (.iconst 1, 1) := by decide +kernel
theorem d_Lw_law_707 : decode b_Lw_law 707 = .ok (.iadd, 1) := by decide +kernel
theorem d_Lw_law_708 : decode b_Lw_law 708 = .ok (.iaload, 1) := by decide +kernel
theorem d_Lw_law_709 : decode b_Lw_law 709 = .ok (.invokestatic 119, 3) := by decide +kernel
theorem d_Lw_law_712 : decode b_Lw_law 712 = .ok (.istore 5, 2) := by decide +kernel
theorem d_Lw_law_714 : decode b_Lw_law 714 = .ok (.aload_n 2, 1) := by decide +kernel
theorem d_Lw_law_715 : decode b_Lw_law 715 = .ok (.aload_n 0, 1) := by decide +kernel
theorem d_Lw_law_716 : decode b_Lw_law 716 = .ok (.iload 4, 2) := by decide +kernel
theorem d_Lw_law_718 : decode b_Lw_law 718 = .ok (.iconst 1, 1) := by decide +kernel
theorem d_Lw_law_719 : decode b_Lw_law 719 = .ok (.iadd, 1) := by decide +kernel
theorem d_Lw_law_720 : decode b_Lw_law 720 = .ok (.iaload, 1) := by decide +kernel
theorem d_Lw_law_721 : decode b_Lw_law 721 = .ok (.invokevirtual 122, 3) := by decide +kernel
theorem d_Lw_law_724 : decode b_Lw_law 724 = .ok (.goto 236, 3) := by decide +kernel
theorem d_Lw_law_727 : decode b_Lw_law 727 = .ok (.aload_n 1, 1) := by decide +kernel
theorem d_Lw_law_728 : decode b_Lw_law 728 = .ok (.aload_n 0, 1) := by decide +kernel
theorem d_Lw_law_729 : decode b_Lw_law 729 = .ok (.iload 4, 2) := by decide +kernel
theorem d_Lw_law_731 : decode b_Lw_law 731 = .ok (.iconst 1, 1) := by decide +kernel
theorem d_Lw_law_732 : decode b_Lw_law 732 = .ok (.iadd, 1) := by decide +kernel
theorem d_Lw_law_733 : decode b_Lw_law 733 = .ok (.iaload, 1) := by decide +kernel
theorem d_Lw_law_734 : decode b_Lw_law 734 = .ok (.aload_n 0, 1) := by decide +kernel
theorem d_Lw_law_735 : decode b_Lw_law 735 = .ok (.iload 4, 2) := by decide +kernel
theorem d_Lw_law_737 : decode b_Lw_law 737 = .ok (.iconst 2, 1) := by decide +kernel
theorem d_Lw_law_738 : decode b_Lw_law 738 = .ok (.iadd, 1) := by decide +kernel
theorem d_Lw_law_739 : decode b_Lw_law 739 = .ok (.iaload, 1) := by decide +kernel
theorem d_Lw_law_740 : decode b_Lw_law 740 = .ok (.aload_n 3, 1) := by decide +kernel
theorem d_Lw_law_741 : decode b_Lw_law 741 = .ok (.invokestatic 123, 3) := by decide +kernel
theorem d_Lw_law_744 : decode b_Lw_law 744 = .ok (.istore 5, 2) := by decide +kernel
theorem d_Lw_law_746 : decode b_Lw_law 746 = .ok (.aload_n 2, 1) := by decide +kernel
theorem d_Lw_law_747 : decode b_Lw_law 747 = .ok (.aload_n 0, 1) := by decide +kernel
theorem d_Lw_law_748 : decode b_Lw_law 748 = .ok (.iload 4, 2) := by decide +kernel
theorem d_Lw_law_750 : decode b_Lw_law 750 = .ok (.iconst 1, 1) := by decide +kernel
theorem d_Lw_law_751 : decode b_Lw_law 751 = .ok (.iadd, 1) := by decide +kernel
theorem d_Lw_law_752 : decode b_Lw_law 752 = .ok (.iaload, 1) := by decide +kernel
theorem d_Lw_law_753 : decode b_Lw_law 753 = .ok (.aload_n 0, 1) := by decide +kernel
theorem d_Lw_law_754 : decode b_Lw_law 754 = .ok (.iload 4, 2) := by decide +kernel
theorem d_Lw_law_756 : decode b_Lw_law 756 = .ok (.iconst 2, 1) := by decide +kernel
theorem d_Lw_law_757 : decode b_Lw_law 757 = .ok (.iadd, 1) := by decide +kernel
theorem d_Lw_law_758 : decode b_Lw_law 758 = .ok (.iaload, 1) := by decide +kernel
theorem d_Lw_law_759 : decode b_Lw_law 759 = .ok (.invokevirtual 125, 3) := by decide +kernel
theorem d_Lw_law_762 : decode b_Lw_law 762 = .ok (.istore 6, 2) := by decide +kernel
theorem d_Lw_law_764 : decode b_Lw_law 764 = .ok (.goto 196, 3) := by decide +kernel
theorem d_Lw_law_767 : decode b_Lw_law 767 = .ok (.aload_n 1, 1) := by decide +kernel
theorem d_Lw_law_768 : decode b_Lw_law 768 = .ok (.aload_n 0, 1) := by decide +kernel
theorem d_Lw_law_769 : decode b_Lw_law 769 = .ok (.iload 4, 2) := by decide +kernel
theorem d_Lw_law_771 : decode b_Lw_law 771 = .ok (.iconst 1, 1) := by decide +kernel
theorem d_Lw_law_772 : decode b_Lw_law 772 = .ok (.iadd, 1) := by decide +kernel
theorem d_Lw_law_773 : decode b_Lw_law 773 = .ok (.iaload, 1) := by decide +kernel
theorem d_Lw_law_774 : decode b_Lw_law 774 = .ok (.aload_n 3, 1) := by decide +kernel
theorem d_Lw_law_775 : decode b_Lw_law 775 = .ok (.invokestatic 126, 3) := by decide +kernel
theorem d_Lw_law_778 : decode b_Lw_law 778 = .ok (.istore 5, 2) := by decide +kernel
theorem d_Lw_law_780 : decode b_Lw_law 780 = .ok (.aload_n 2, 1) := by decide +kernel
theorem d_Lw_law_781 : decode b_Lw_law 781 = .ok (.aload_n 0, 1) := by decide +kernel
theorem d_Lw_law_782 : decode b_Lw_law 782 = .ok (.iload 4, 2) := by decide +kernel
theorem d_Lw_law_784 : decode b_Lw_law 784 = .ok (.iconst 1, 1) := by decide +kernel
theorem d_Lw_law_785 : decode b_Lw_law 785 = .ok (.iadd, 1) := by decide +kernel
theorem d_Lw_law_786 : decode b_Lw_law 786 = .ok (.iaload, 1) := by decide +kernel
theorem d_Lw_law_787 : decode b_Lw_law 787 = .ok (.invokevirtual 128, 3) := by decide +kernel
theorem d_Lw_law_790 : decode b_Lw_law 790 = .ok (.istore 6, 2) := by decide +kernel
theorem d_Lw_law_792 : decode b_Lw_law 792 = .ok (.goto 168, 3) := by decide +kernel
theorem d_Lw_law_795 : decode b_Lw_law 795 = .ok (.aload_n 1, 1) := by decide +kernel
theorem d_Lw_law_796 : decode b_Lw_law 796 = .ok (.invokevirtual 129, 3) := by decide +kernel
theorem d_Lw_law_799 : decode b_Lw_law 799 = .ok (.pop, 1) := by decide +kernel
theorem d_Lw_law_800 : decode b_Lw_law 800 = .ok (.aload_n 2, 1) := by decide +kernel
theorem d_Lw_law_801 : decode b_Lw_law 801 = .ok (.invokevirtual 133, 3) := by decide +kernel
theorem d_Lw_law_804 : decode b_Lw_law 804 = .ok (.pop, 1) := by decide +kernel
theorem d_Lw_law_805 : decode b_Lw_law 805 = .ok (.goto 155, 3) := by decide +kernel
theorem d_Lw_law_808 : decode b_Lw_law 808 = .ok (.aload_n 1, 1) := by decide +kernel
theorem d_Lw_law_809 : decode b_Lw_law 809 = .ok (.aload_n 0, 1) := by decide +kernel
theorem d_Lw_law_810 : decode b_Lw_law 810 = .ok (.iload 4, 2) := by decide +kernel
theorem d_Lw_law_812 : decode b_Lw_law 812 = .ok (.iconst 1, 1) := by decide +kernel
theorem d_Lw_law_813 : decode b_Lw_law 813 = .ok (.iadd, 1) := by decide +kernel
theorem d_Lw_law_814 : decode b_Lw_law 814 = .ok (.iaload, 1) := by decide +kernel
theorem d_Lw_law_815 : decode b_Lw_law 815 = .ok (.aload_n 3, 1) := by decide +kernel
theorem d_Lw_law_816 : decode b_Lw_law 816 = .ok (.invokestatic 134, 3) := by decide +kernel
theorem d_Lw_law_819 : decode b_Lw_law 819 = .ok (.istore 5, 2) := by decide +kernel
theorem d_Lw_law_821 : decode b_Lw_law 821 = .ok (.aload_n 2, 1) := by decide +kernel
theorem d_Lw_law_822 : decode b_Lw_law 822 = .ok (.aload_n 0, 1) := by decide +kernel
theorem d_Lw_law_823 : decode b_Lw_law 823 = .ok (.iload 4, 2) := by decide +kernel
theorem d_Lw_law_825 : decode b_Lw_law 825 = .ok (.iconst 1, 1) := by decide +kernel
theorem d_Lw_law_826 : decode b_Lw_law 826 = .ok (.iadd, 1) := by decide +kernel
theorem d_Lw_law_827 : decode b_Lw_law 827 = .ok (.iaload, 1) := by decide +kernel
theorem d_Lw_law_828 : decode b_Lw_law 828 = .ok (.invokevirtual 136, 3) := by decide +kernel
theorem d_Lw_law_831 : decode b_Lw_law 831 = .ok (.istore 6, 2) := by decide +kernel
theorem d_Lw_law_833 : decode b_Lw_law 833 = .ok (.goto 127, 3) := by decide +kernel
theorem d_Lw_law_836 : decode b_Lw_law 836 = .ok (.aload_n 1, 1) := by decide +kernel
theorem d_Lw_law_837 : decode b_Lw_law 837 = .ok (.aload_n 0, 1) := by decide +kernel
theorem d_Lw_law_838 : decode b_Lw_law 838 = .ok (.iload 4, 2) := by decide +kernel
theorem d_Lw_law_840 : decode b_Lw_law 840 = .ok (.iconst 1, 1) := by decide +kernel
theorem d_Lw_law_841 : decode b_Lw_law 841 = .ok (.iadd, 1) := by decide +kernel
theorem d_Lw_law_842 : decode b_Lw_law 842 = .ok (.iaload, 1) := by decide +kernel
theorem d_Lw_law_843 : decode b_Lw_law 843 = .ok (.aload_n 3, 1) := by decide +kernel
theorem d_Lw_law_844 : decode b_Lw_law 844 = .ok (.invokestatic 137, 3) := by decide +kernel
theorem d_Lw_law_847 : decode b_Lw_law 847 = .ok (.istore 5, 2) := by decide +kernel
theorem d_Lw_law_849 : decode b_Lw_law 849 = .ok (.aload_n 2, 1) := by decide +kernel
theorem d_Lw_law_850 : decode b_Lw_law 850 = .ok (.aload_n 0, 1) := by decide +kernel
theorem d_Lw_law_851 : decode b_Lw_law 851 = .ok (.iload 4, 2) := by decide +kernel
theorem d_Lw_law_853 : decode b_Lw_law 853 = .ok (.iconst 1, 1) := by decide +kernel
theorem d_Lw_law_854 : decode b_Lw_law 854 = .ok (.iadd, 1) := by decide +kernel
theorem d_Lw_law_855 : decode b_Lw_law 855 = .ok (.iaload, 1) := by decide +kernel
theorem d_Lw_law_856 : decode b_Lw_law 856 = .ok (.invokevirtual 139, 3) := by decide +kernel
theorem d_Lw_law_859 : decode b_Lw_law 859 = .ok (.istore 6, 2) := by decide +kernel
theorem d_Lw_law_861 : decode b_Lw_law 861 = .ok (.aload_n 2, 1) := by decide +kernel
theorem d_Lw_law_862 : decode b_Lw_law 862 = .ok (.invokevirtual 140, 3) := by decide +kernel
theorem d_Lw_law_865 : decode b_Lw_law 865 = .ok (.iload 5, 2) := by decide +kernel
theorem d_Lw_law_867 : decode b_Lw_law 867 = .ok (.if_icmp .eq 5, 3) := by decide +kernel
theorem d_Lw_law_872 : decode b_Lw_law 872 = .ok (.iload 5, 2) := by decide +kernel
theorem d_Lw_law_874 : decode b_Lw_law 874 = .ok (.ifCond .ne 15, 3) := by decide +kernel
theorem d_Lw_law_877 : decode b_Lw_law 877 = .ok (.aload_n 3, 1) := by decide +kernel
theorem d_Lw_law_878 : decode b_Lw_law 878 = .ok (.iconst 0, 1) := by decide +kernel
theorem d_Lw_law_879 : decode b_Lw_law 879 = .ok (.laload, 1) := by decide +kernel
theorem d_Lw_law_880 : decode b_Lw_law 880 = .ok (.iload 6, 2) := by decide +kernel
theorem d_Lw_law_882 : decode b_Lw_law 882 = .ok (.i2l, 1) := by decide +kernel
theorem d_Lw_law_883 : decode b_Lw_law 883 = .ok (.lcmp, 1) := by decide +kernel
theorem d_Lw_law_884 : decode b_Lw_law 884 = .ok (.ifCond .eq 5, 3) := by decide +kernel
theorem d_Lw_law_889 : decode b_Lw_law 889 = .ok (.goto 71, 3) := by decide +kernel
theorem d_Lw_law_892 : decode b_Lw_law 892 = .ok (.aload_n 1, 1) := by decide +kernel
theorem d_Lw_law_893 : decode b_Lw_law 893 = .ok (.aload_n 0, 1) := by decide +kernel
theorem d_Lw_law_894 : decode b_Lw_law 894 = .ok (.iload 4, 2) := by decide +kernel
theorem d_Lw_law_896 : decode b_Lw_law 896 = .ok (.iconst 1, 1) := by decide +kernel
theorem d_Lw_law_897 : decode b_Lw_law 897 = .ok (.iadd, 1) := by decide +kernel
theorem d_Lw_law_898 : decode b_Lw_law 898 = .ok (.iaload, 1) := by decide +kernel
theorem d_Lw_law_899 : decode b_Lw_law 899 = .ok (.aload_n 3, 1) := by decide +kernel
theorem d_Lw_law_900 : decode b_Lw_law 900 = .ok (.invokestatic 143, 3) := by decide +kernel
theorem d_Lw_law_903 : decode b_Lw_law 903 = .ok (.istore 5, 2) := by decide +kernel
theorem d_Lw_law_905 : decode b_Lw_law 905 = .ok (.aload_n 2, 1) := by decide +kernel
theorem d_Lw_law_906 : decode b_Lw_law 906 = .ok (.aload_n 0, 1) := by decide +kernel
theorem d_Lw_law_907 : decode b_Lw_law 907 = .ok (.iload 4, 2) := by decide +kernel
theorem d_Lw_law_909 : decode b_Lw_law 909 = .ok (.iconst 1, 1) := by decide +kernel
theorem d_Lw_law_910 : decode b_Lw_law 910 = .ok (.iadd, 1) := by decide +kernel
theorem d_Lw_law_911 : decode b_Lw_law 911 = .ok (.iaload, 1) := by decide +kernel
theorem d_Lw_law_912 : decode b_Lw_law 912 = .ok (.invokevirtual 145, 3) := by decide +kernel
theorem d_Lw_law_915 : decode b_Lw_law 915 = .ok (.istore 6, 2) := by decide +kernel
theorem d_Lw_law_917 : decode b_Lw_law 917 = .ok (.goto 43, 3) := by decide +kernel
theorem d_Lw_law_920 : decode b_Lw_law 920 = .ok (.aload_n 1, 1) := by decide +kernel
theorem d_Lw_law_921 : decode b_Lw_law 921 = .ok (.aload_n 0, 1) := by decide +kernel
theorem d_Lw_law_922 : decode b_Lw_law 922 = .ok (.iload 4, 2) := by decide +kernel
theorem d_Lw_law_924 : decode b_Lw_law 924 = .ok (.iconst 1, 1) := by decide +kernel
theorem d_Lw_law_925 : decode b_Lw_law 925 = .ok (.iadd, 1) := by decide +kernel
theorem d_Lw_law_926 : decode b_Lw_law 926 = .ok (.iaload, 1) := by decide +kernel
theorem d_Lw_law_927 : decode b_Lw_law 927 = .ok (.aload_n 0, 1) := by decide +kernel
theorem d_Lw_law_928 : decode b_Lw_law 928 = .ok (.iload 4, 2) := by decide +kernel
theorem d_Lw_law_930 : decode b_Lw_law 930 = .ok (.iconst 2, 1) := by decide +kernel
theorem d_Lw_law_931 : decode b_Lw_law 931 = .ok (.iadd, 1) := by decide +kernel
theorem d_Lw_law_932 : decode b_Lw_law 932 = .ok (.iaload, 1) := by decide +kernel
theorem d_Lw_law_933 : decode b_Lw_law 933 = .ok (.aload_n 3, 1) := by decide +kernel
theorem d_Lw_law_934 : decode b_Lw_law 934 = .ok (.invokestatic 146, 3) := by decide +kernel
theorem d_Lw_law_937 : decode b_Lw_law 937 = .ok (.istore 5, 2) := by decide +kernel
theorem d_Lw_law_939 : decode b_Lw_law 939 = .ok (.aload_n 2, 1) := by decide +kernel
theorem d_Lw_law_940 : decode b_Lw_law 940 = .ok (.aload_n 0, 1) := by decide +kernel
theorem d_Lw_law_941 : decode b_Lw_law 941 = .ok (.iload 4, 2) := by decide +kernel
theorem d_Lw_law_943 : decode b_Lw_law 943 = .ok (.iconst 1, 1) := by decide +kernel
theorem d_Lw_law_944 : decode b_Lw_law 944 = .ok (.iadd, 1) := by decide +kernel
theorem d_Lw_law_945 : decode b_Lw_law 945 = .ok (.iaload, 1) := by decide +kernel
theorem d_Lw_law_946 : decode b_Lw_law 946 = .ok (.aload_n 0, 1) := by decide +kernel
theorem d_Lw_law_947 : decode b_Lw_law 947 = .ok (.iload 4, 2) := by decide +kernel
theorem d_Lw_law_949 : decode b_Lw_law 949 = .ok (.iconst 2, 1) := by decide +kernel
theorem d_Lw_law_950 : decode b_Lw_law 950 = .ok (.iadd, 1) := by decide +kernel
theorem d_Lw_law_951 : decode b_Lw_law 951 = .ok (.iaload, 1) := by decide +kernel
theorem d_Lw_law_952 : decode b_Lw_law 952 = .ok (.invokevirtual 148, 3) := by decide +kernel
theorem d_Lw_law_955 : decode b_Lw_law 955 = .ok (.lstore 6, 2) := by decide +kernel
theorem d_Lw_law_957 : decode b_Lw_law 957 = .ok (.goto 3, 3) := by decide +kernel
theorem lw_same {P : Prop} {a k : Int32} (h : (a = 0 ∧ P) ∨ (a = 1 ∧ ¬ P)) (h2 : (k = 0 ∧ P) ∨ (k = 1 ∧ ¬ P)) : a = k := by
  rcases h with ⟨h, hp⟩ | ⟨h, hp⟩ <;> rcases h2 with ⟨h2, hq⟩ | ⟨h2, hq⟩
  · rw [h, h2]
  · exact absurd hp hq
  · exact absurd hq hp
  · rw [h, h2]
