theorem d_Md_init_0 : decode b_Md_init 0 = .ok (.aload_n 0, 1) := by decide +kernel
theorem d_Md_init_1 : decode b_Md_init 1 = .ok (.invokespecial 1, 3) := by decide +kernel
theorem d_Md_init_4 : decode b_Md_init 4 = .ok (.aload_n 0, 1) := by decide +kernel
theorem d_Md_init_5 : decode b_Md_init 5 = .ok (.bipush 64, 2) := by decide +kernel
theorem d_Md_init_7 : decode b_Md_init 7 = .ok (.newarray .long, 2) := by decide +kernel
theorem d_Md_init_9 : decode b_Md_init 9 = .ok (.dup, 1) := by decide +kernel
theorem d_Md_init_10 : decode b_Md_init 10 = .ok (.iconst 0, 1) := by decide +kernel
theorem d_Md_init_11 : decode b_Md_init 11 = .ok (.ldc2_w 7, 3) := by decide +kernel
theorem d_Md_init_14 : decode b_Md_init 14 = .ok (.lastore, 1) := by decide +kernel
theorem d_Md_init_15 : decode b_Md_init 15 = .ok (.dup, 1) := by decide +kernel
theorem d_Md_init_16 : decode b_Md_init 16 = .ok (.iconst 1, 1) := by decide +kernel
theorem d_Md_init_17 : decode b_Md_init 17 = .ok (.ldc2_w 9, 3) := by decide +kernel
theorem d_Md_init_20 : decode b_Md_init 20 = .ok (.lastore, 1) := by decide +kernel
theorem d_Md_init_21 : decode b_Md_init 21 = .ok (.dup, 1) := by decide +kernel
theorem d_Md_init_22 : decode b_Md_init 22 = .ok (.iconst 2, 1) := by decide +kernel
theorem d_Md_init_23 : decode b_Md_init 23 = .ok (.ldc2_w 11, 3) := by decide +kernel
theorem d_Md_init_26 : decode b_Md_init 26 = .ok (.lastore, 1) := by decide +kernel
theorem d_Md_init_27 : decode b_Md_init 27 = .ok (.dup, 1) := by decide +kernel
theorem d_Md_init_28 : decode b_Md_init 28 = .ok (.iconst 3, 1) := by decide +kernel
theorem d_Md_init_29 : decode b_Md_init 29 = .ok (.ldc2_w 13, 3) := by decide +kernel
theorem d_Md_init_32 : decode b_Md_init 32 = .ok (.lastore, 1) := by decide +kernel
theorem d_Md_init_33 : decode b_Md_init 33 = .ok (.dup, 1) := by decide +kernel
theorem d_Md_init_34 : decode b_Md_init 34 = .ok (.iconst 4, 1) := by decide +kernel
theorem d_Md_init_35 : decode b_Md_init 35 = .ok (.ldc2_w 15, 3) := by decide +kernel
theorem d_Md_init_38 : decode b_Md_init 38 = .ok (.lastore, 1) := by decide +kernel
theorem d_Md_init_39 : decode b_Md_init 39 = .ok (.dup, 1) := by decide +kernel
theorem d_Md_init_40 : decode b_Md_init 40 = .ok (.iconst 5, 1) := by decide +kernel
theorem d_Md_init_41 : decode b_Md_init 41 = .ok (.ldc2_w 17, 3) := by decide +kernel
theorem d_Md_init_44 : decode b_Md_init 44 = .ok (.lastore, 1) := by decide +kernel
theorem d_Md_init_45 : decode b_Md_init 45 = .ok (.dup, 1) := by decide +kernel
theorem d_Md_init_46 : decode b_Md_init 46 = .ok (.bipush 6, 2) := by decide +kernel
theorem d_Md_init_48 : decode b_Md_init 48 = .ok (.ldc2_w 19, 3) := by decide +kernel
theorem d_Md_init_51 : decode b_Md_init 51 = .ok (.lastore, 1) := by decide +kernel
theorem d_Md_init_52 : decode b_Md_init 52 = .ok (.dup, 1) := by decide +kernel
theorem d_Md_init_53 : decode b_Md_init 53 = .ok (.bipush 7, 2) := by decide +kernel
theorem d_Md_init_55 : decode b_Md_init 55 = .ok (.ldc2_w 21, 3) := by decide +kernel
theorem d_Md_init_58 : decode b_Md_init 58 = .ok (.lastore, 1) := by decide +kernel
theorem d_Md_init_59 : decode b_Md_init 59 = .ok (.dup, 1) := by decide +kernel
theorem d_Md_init_60 : decode b_Md_init 60 = .ok (.bipush 8, 2) := by decide +kernel
theorem d_Md_init_62 : decode b_Md_init 62 = .ok (.ldc2_w 23, 3) := by decide +kernel
theorem d_Md_init_65 : decode b_Md_init 65 = .ok (.lastore, 1) := by decide +kernel
theorem d_Md_init_66 : decode b_Md_init 66 = .ok (.dup, 1) := by decide +kernel
theorem d_Md_init_67 : decode b_Md_init 67 = .ok (.bipush 9, 2) := by decide +kernel
theorem d_Md_init_69 : decode b_Md_init 69 = .ok (.ldc2_w 25, 3) := by decide +kernel
theorem d_Md_init_72 : decode b_Md_init 72 = .ok (.lastore, 1) := by decide +kernel
theorem d_Md_init_73 : decode b_Md_init 73 = .ok (.dup, 1) := by decide +kernel
theorem d_Md_init_74 : decode b_Md_init 74 = .ok (.bipush 10, 2) := by decide +kernel
theorem d_Md_init_76 : decode b_Md_init 76 = .ok (.ldc2_w 27, 3) := by decide +kernel
theorem d_Md_init_79 : decode b_Md_init 79 = .ok (.lastore, 1) := by decide +kernel
theorem d_Md_init_80 : decode b_Md_init 80 = .ok (.dup, 1) := by decide +kernel
theorem d_Md_init_81 : decode b_Md_init 81 = .ok (.bipush 11, 2) := by decide +kernel
theorem d_Md_init_83 : decode b_Md_init 83 = .ok (.ldc2_w 29, 3) := by decide +kernel
theorem d_Md_init_86 : decode b_Md_init 86 = .ok (.lastore, 1) := by decide +kernel
theorem d_Md_init_87 : decode b_Md_init 87 = .ok (.dup, 1) := by decide +kernel
theorem d_Md_init_88 : decode b_Md_init 88 = .ok (.bipush 12, 2) := by decide +kernel
theorem d_Md_init_90 : decode b_Md_init 90 = .ok (.ldc2_w 31, 3) := by decide +kernel
theorem d_Md_init_93 : decode b_Md_init 93 = .ok (.lastore, 1) := by decide +kernel
theorem d_Md_init_94 : decode b_Md_init 94 = .ok (.dup, 1) := by decide +kernel
theorem d_Md_init_95 : decode b_Md_init 95 = .ok (.bipush 13, 2) := by decide +kernel
theorem d_Md_init_97 : decode b_Md_init 97 = .ok (.ldc2_w 33, 3) := by decide +kernel
theorem d_Md_init_100 : decode b_Md_init 100 = .ok (.lastore, 1) := by decide +kernel
theorem d_Md_init_101 : decode b_Md_init 101 = .ok (.dup, 1) := by decide +kernel
theorem d_Md_init_102 : decode b_Md_init 102 = .ok (.bipush 14, 2) := by decide +kernel
theorem d_Md_init_104 : decode b_Md_init 104 = .ok (.ldc2_w 35, 3) := by decide +kernel
theorem d_Md_init_107 : decode b_Md_init 107 = .ok (.lastore, 1) := by decide +kernel
theorem d_Md_init_108 : decode b_Md_init 108 = .ok (.dup, 1) := by decide +kernel
theorem d_Md_init_109 : decode b_Md_init 109 = .ok (.bipush 15, 2) := by decide +kernel
theorem d_Md_init_111 : decode b_Md_init 111 = .ok (.ldc2_w 37, 3) := by decide +kernel
theorem d_Md_init_114 : decode b_Md_init 114 = .ok (.lastore, 1) := by decide +kernel
theorem d_Md_init_115 : decode b_Md_init 115 = .ok (.dup, 1) := by decide +kernel
theorem d_Md_init_116 : decode b_Md_init 116 = .ok (.bipush 16, 2) := by decide +kernel
theorem d_Md_init_118 : decode b_Md_init 118 = .ok (.ldc2_w 39, 3) := by decide +kernel
theorem d_Md_init_121 : decode b_Md_init 121 = .ok (.lastore, 1) := by decide +kernel
theorem d_Md_init_122 : decode b_Md_init 122 = .ok (.dup, 1) := by decide +kernel
theorem d_Md_init_123 : decode b_Md_init 123 = .ok (.bipush 17, 2) := by decide +kernel
theorem d_Md_init_125 : decode b_Md_init 125 = .ok (.ldc2_w 41, 3) := by decide +kernel
theorem d_Md_init_128 : decode b_Md_init 128 = .ok (.lastore, 1) := by decide +kernel
theorem d_Md_init_129 : decode b_Md_init 129 = .ok (.dup, 1) := by decide +kernel
theorem d_Md_init_130 : decode b_Md_init 130 = .ok (.bipush 18, 2) := by decide +kernel
theorem d_Md_init_132 : decode b_Md_init 132 = .ok (.ldc2_w 43, 3) := by decide +kernel
theorem d_Md_init_135 : decode b_Md_init 135 = .ok (.lastore, 1) := by decide +kernel
theorem d_Md_init_136 : decode b_Md_init 136 = .ok (.dup, 1) := by decide +kernel
theorem d_Md_init_137 : decode b_Md_init 137 = .ok (.bipush 19, 2) := by decide +kernel
theorem d_Md_init_139 : decode b_Md_init 139 = .ok (.ldc2_w 45, 3) := by decide +kernel
theorem d_Md_init_142 : decode b_Md_init 142 = .ok (.lastore, 1) := by decide +kernel
theorem d_Md_init_143 : decode b_Md_init 143 = .ok (.dup, 1) := by decide +kernel
theorem d_Md_init_144 : decode b_Md_init 144 = .ok (.bipush 20, 2) := by decide +kernel
theorem d_Md_init_146 : decode b_Md_init 146 = .ok (.ldc2_w 47, 3) := by decide +kernel
theorem d_Md_init_149 : decode b_Md_init 149 = .ok (.lastore, 1) := by decide +kernel
theorem d_Md_init_150 : decode b_Md_init 150 = .ok (.dup, 1) := by decide +kernel
theorem d_Md_init_151 : decode b_Md_init 151 = .ok (.bipush 21, 2) := by decide +kernel
theorem d_Md_init_153 : decode b_Md_init 153 = .ok (.ldc2_w 49, 3) := by decide +kernel
theorem d_Md_init_156 : decode b_Md_init 156 = .ok (.lastore, 1) := by decide +kernel
theorem d_Md_init_157 : decode b_Md_init 157 = .ok (.dup, 1) := by decide +kernel
theorem d_Md_init_158 : decode b_Md_init 158 = .ok (.bipush 22, 2) := by decide +kernel
theorem d_Md_init_160 : decode b_Md_init 160 = .ok (.ldc2_w 51, 3) := by decide +kernel
theorem d_Md_init_163 : decode b_Md_init 163 = .ok (.lastore, 1) := by decide +kernel
theorem d_Md_init_164 : decode b_Md_init 164 = .ok (.dup, 1) := by decide +kernel
theorem d_Md_init_165 : decode b_Md_init 165 = .ok (.bipush 23, 2) := by decide +kernel
theorem d_Md_init_167 : decode b_Md_init 167 = .ok (.ldc2_w 53, 3) := by decide +kernel
theorem d_Md_init_170 : decode b_Md_init 170 = .ok (.lastore, 1) := by decide +kernel
theorem d_Md_init_171 : decode b_Md_init 171 = .ok (.dup, 1) := by decide +kernel
theorem d_Md_init_172 : decode b_Md_init 172 = .ok (.bipush 24, 2) := by decide +kernel
theorem d_Md_init_174 : decode b_Md_init 174 = .ok (.ldc2_w 55, 3) := by decide +kernel
theorem d_Md_init_177 : decode b_Md_init 177 = .ok (.lastore, 1) := by decide +kernel
theorem d_Md_init_178 : decode b_Md_init 178 = .ok (.dup, 1) := by decide +kernel
theorem d_Md_init_179 : decode b_Md_init 179 = .ok (.bipush 25, 2) := by decide +kernel
theorem d_Md_init_181 : decode b_Md_init 181 = .ok (.ldc2_w 57, 3) := by decide +kernel
theorem d_Md_init_184 : decode b_Md_init 184 = .ok (.lastore, 1) := by decide +kernel
theorem d_Md_init_185 : decode b_Md_init 185 = .ok (.dup, 1) := by decide +kernel
theorem d_Md_init_186 : decode b_Md_init 186 = .ok (.bipush 26, 2) := by decide +kernel
theorem d_Md_init_188 : decode b_Md_init 188 = .ok (.ldc2_w 59, 3) := by decide +kernel
theorem d_Md_init_191 : decode b_Md_init 191 = .ok (.lastore, 1) := by decide +kernel
theorem d_Md_init_192 : decode b_Md_init 192 = .ok (.dup, 1) := by decide +kernel
theorem d_Md_init_193 : decode b_Md_init 193 = .ok (.bipush 27, 2) := by decide +kernel
theorem d_Md_init_195 : decode b_Md_init 195 = .ok (.ldc2_w 61, 3) := by decide +kernel
theorem d_Md_init_198 : decode b_Md_init 198 = .ok (.lastore, 1) := by decide +kernel
theorem d_Md_init_199 : decode b_Md_init 199 = .ok (.dup, 1) := by decide +kernel
theorem d_Md_init_200 : decode b_Md_init 200 = .ok (.bipush 28, 2) := by decide +kernel
theorem d_Md_init_202 : decode b_Md_init 202 = .ok (.ldc2_w 63, 3) := by decide +kernel
theorem d_Md_init_205 : decode b_Md_init 205 = .ok (.lastore, 1) := by decide +kernel
theorem d_Md_init_206 : decode b_Md_init 206 = .ok (.dup, 1) := by decide +kernel
theorem d_Md_init_207 : decode b_Md_init 207 = .ok (.bipush 29, 2) := by decide +kernel
theorem d_Md_init_209 : decode b_Md_init 209 = .ok (.ldc2_w 65, 3) := by decide +kernel
theorem d_Md_init_212 : decode b_Md_init 212 = .ok (.lastore, 1) := by decide +kernel
theorem d_Md_init_213 : decode b_Md_init 213 = .ok (.dup, 1) := by decide +kernel
theorem d_Md_init_214 : decode b_Md_init 214 = .ok (.bipush 30, 2) := by decide +kernel
theorem d_Md_init_216 : decode b_Md_init 216 = .ok (.ldc2_w 67, 3) := by decide +kernel
theorem d_Md_init_219 : decode b_Md_init 219 = .ok (.lastore, 1) := by decide +kernel
theorem d_Md_init_220 : decode b_Md_init 220 = .ok (.dup, 1) := by decide +kernel
theorem d_Md_init_221 : decode b_Md_init 221 = .ok (.bipush 31, 2) := by decide +kernel
theorem d_Md_init_223 : decode b_Md_init 223 = .ok (.ldc2_w 69, 3) := by decide +kernel
theorem d_Md_init_226 : decode b_Md_init 226 = .ok (.lastore, 1) := by decide +kernel
theorem d_Md_init_227 : decode b_Md_init 227 = .ok (.dup, 1) := by decide +kernel
theorem d_Md_init_228 : decode b_Md_init 228 = .ok (.bipush 32, 2) := by decide +kernel
theorem d_Md_init_230 : decode b_Md_init 230 = .ok (.ldc2_w 71, 3) := by decide +kernel
theorem d_Md_init_233 : decode b_Md_init 233 = .ok (.lastore, 1) := by decide +kernel
theorem d_Md_init_234 : decode b_Md_init 234 = .ok (.dup, 1) := by decide +kernel
theorem d_Md_init_235 : decode b_Md_init 235 = .ok (.bipush 33, 2) := by decide +kernel
theorem d_Md_init_237 : decode b_Md_init 237 = .ok (.ldc2_w 73, 3) := by decide +kernel
theorem d_Md_init_240 : decode b_Md_init 240 = .ok (.lastore, 1) := by decide +kernel
theorem d_Md_init_241 : decode b_Md_init 241 = .ok (.dup, 1) := by decide +kernel
theorem d_Md_init_242 : decode b_Md_init 242 = .ok (.bipush 34, 2) := by decide +kernel
theorem d_Md_init_244 : decode b_Md_init 244 = .ok (.ldc2_w 75, 3) := by decide +kernel
theorem d_Md_init_247 : decode b_Md_init 247 = .ok (.lastore, 1) := by decide +kernel
theorem d_Md_init_248 : decode b_Md_init 248 = .ok (.dup, 1) := by decide +kernel
theorem d_Md_init_249 : decode b_Md_init 249 = .ok (.bipush 35, 2) := by decide +kernel
theorem d_Md_init_251 : decode b_Md_init 251 = .ok (.ldc2_w 77, 3) := by decide +kernel
theorem d_Md_init_254 : decode b_Md_init 254 = .ok (.lastore, 1) := by decide +kernel
theorem d_Md_init_255 : decode b_Md_init 255 = .ok (.dup, 1) := by decide +kernel
theorem d_Md_init_256 : decode b_Md_init 256 = .ok (.bipush 36, 2) := by decide +kernel
theorem d_Md_init_258 : decode b_Md_init 258 = .ok (.ldc2_w 79, 3) := by decide +kernel
theorem d_Md_init_261 : decode b_Md_init 261 = .ok (.lastore, 1) := by decide +kernel
theorem d_Md_init_262 : decode b_Md_init 262 = .ok (.dup, 1) := by decide +kernel
theorem d_Md_init_263 : decode b_Md_init 263 = .ok (.bipush 37, 2) := by decide +kernel
theorem d_Md_init_265 : decode b_Md_init 265 = .ok (.ldc2_w 81, 3) := by decide +kernel
theorem d_Md_init_268 : decode b_Md_init 268 = .ok (.lastore, 1) := by decide +kernel
theorem d_Md_init_269 : decode b_Md_init 269 = .ok (.dup, 1) := by decide +kernel
theorem d_Md_init_270 : decode b_Md_init 270 = .ok (.bipush 38, 2) := by decide +kernel
theorem d_Md_init_272 : decode b_Md_init 272 = .ok (.ldc2_w 83, 3) := by decide +kernel
theorem d_Md_init_275 : decode b_Md_init 275 = .ok (.lastore, 1) := by decide +kernel
theorem d_Md_init_276 : decode b_Md_init 276 = .ok (.dup, 1) := by decide +kernel
theorem d_Md_init_277 : decode b_Md_init 277 = .ok (.bipush 39, 2) := by decide +kernel
theorem d_Md_init_279 : decode b_Md_init 279 = .ok (.ldc2_w 85, 3) := by decide +kernel
theorem d_Md_init_282 : decode b_Md_init 282 = .ok (.lastore, 1) := by decide +kernel
theorem d_Md_init_283 : decode b_Md_init 283 = .ok (.dup, 1) := by decide +kernel
theorem d_Md_init_284 : decode b_Md_init 284 = .ok (.bipush 40, 2) := by decide +kernel
theorem d_Md_init_286 : decode b_Md_init 286 = .ok (.ldc2_w 87, 3) := by decide +kernel
theorem d_Md_init_289 : decode b_Md_init 289 = .ok (.lastore, 1) := by decide +kernel
theorem d_Md_init_290 : decode b_Md_init 290 = .ok (.dup, 1) := by decide +kernel
theorem d_Md_init_291 : decode b_Md_init 291 = .ok (.bipush 41, 2) := by decide +kernel
theorem d_Md_init_293 : decode b_Md_init 293 = .ok (.ldc2_w 89, 3) := by decide +kernel
theorem d_Md_init_296 : decode b_Md_init 296 = .ok (.lastore, 1) := by decide +kernel
theorem d_Md_init_297 : decode b_Md_init 297 = .ok (.dup, 1) := by decide +kernel
theorem d_Md_init_298 : decode b_Md_init 298 = .ok (.bipush 42, 2) := by decide +kernel
theorem d_Md_init_300 : decode b_Md_init 300 = .ok (.ldc2_w 91, 3) := by decide +kernel
theorem d_Md_init_303 : decode b_Md_init 303 = .ok (.lastore, 1) := by decide +kernel
theorem d_Md_init_304 : decode b_Md_init 304 = .ok (.dup, 1) := by decide +kernel
theorem d_Md_init_305 : decode b_Md_init 305 = .ok (.bipush 43, 2) := by decide +kernel
theorem d_Md_init_307 : decode b_Md_init 307 = .ok (.ldc2_w 93, 3) := by decide +kernel
theorem d_Md_init_310 : decode b_Md_init 310 = .ok (.lastore, 1) := by decide +kernel
theorem d_Md_init_311 : decode b_Md_init 311 = .ok (.dup, 1) := by decide +kernel
theorem d_Md_init_312 : decode b_Md_init 312 = .ok (.bipush 44, 2) := by decide +kernel
theorem d_Md_init_314 : decode b_Md_init 314 = .ok (.ldc2_w 95, 3) := by decide +kernel
theorem d_Md_init_317 : decode b_Md_init 317 = .ok (.lastore, 1) := by decide +kernel
theorem d_Md_init_318 : decode b_Md_init 318 = .ok (.dup, 1) := by decide +kernel
theorem d_Md_init_319 : decode b_Md_init 319 = .ok (.bipush 45, 2) := by decide +kernel
theorem d_Md_init_321 : decode b_Md_init 321 = .ok (.ldc2_w 97, 3) := by decide +kernel
theorem d_Md_init_324 : decode b_Md_init 324 = .ok (.lastore, 1) := by decide +kernel
theorem d_Md_init_325 : decode b_Md_init 325 = .ok (.dup, 1) := by decide +kernel
theorem d_Md_init_326 : decode b_Md_init 326 = .ok (.bipush 46, 2) := by decide +kernel
theorem d_Md_init_328 : decode b_Md_init 328 = .ok (.ldc2_w 99, 3) := by decide +kernel
theorem d_Md_init_331 : decode b_Md_init 331 = .ok (.lastore, 1) := by decide +kernel
theorem d_Md_init_332 : decode b_Md_init 332 = .ok (.dup, 1) := by decide +kernel
theorem d_Md_init_333 : decode b_Md_init 333 = .ok (.bipush 47, 2) := by decide +kernel
theorem d_Md_init_335 : decode b_Md_init 335 = .ok (.ldc2_w 101, 3) := by decide +kernel
theorem d_Md_init_338 : decode b_Md_init 338 = .ok (.lastore, 1) := by decide +kernel
theorem d_Md_init_339 : decode b_Md_init 339 = .ok (.dup, 1) := by decide +kernel
theorem d_Md_init_340 : decode b_Md_init 340 = .ok (.bipush 48, 2) := by decide +kernel
theorem d_Md_init_342 : decode b_Md_init 342 = .ok (.ldc2_w 103, 3) := by decide +kernel
theorem d_Md_init_345 : decode b_Md_init 345 = .ok (.lastore, 1) := by decide +kernel
theorem d_Md_init_346 : decode b_Md_init 346 = .ok (.dup, 1) := by decide +kernel
theorem d_Md_init_347 : decode b_Md_init 347 = .ok (.bipush 49, 2) := by decide +kernel
theorem d_Md_init_349 : decode b_Md_init 349 = .ok (.ldc2_w 105, 3) := by decide +kernel
theorem d_Md_init_352 : decode b_Md_init 352 = .ok (.lastore, 1) := by decide +kernel
theorem d_Md_init_353 : decode b_Md_init 353 = .ok (.dup, 1) := by decide +kernel
theorem d_Md_init_354 : decode b_Md_init 354 = .ok (.bipush 50, 2) := by decide +kernel
theorem d_Md_init_356 : decode b_Md_init 356 = .ok (.ldc2_w 107, 3) := by decide +kernel
theorem d_Md_init_359 : decode b_Md_init 359 = .ok (.lastore, 1) := by decide +kernel
theorem d_Md_init_360 : decode b_Md_init 360 = .ok (.dup, 1) := by decide +kernel
theorem d_Md_init_361 : decode b_Md_init 361 = .ok (.bipush 51, 2) := by decide +kernel
theorem d_Md_init_363 : decode b_Md_init 363 = .ok (.ldc2_w 109, 3) := by decide +kernel
theorem d_Md_init_366 : decode b_Md_init 366 = .ok (.lastore, 1) := by decide +kernel
theorem d_Md_init_367 : decode b_Md_init 367 = .ok (.dup, 1) := by decide +kernel
theorem d_Md_init_368 : decode b_Md_init 368 = .ok (.bipush 52, 2) := by decide +kernel
theorem d_Md_init_370 : decode b_Md_init 370 = .ok (.ldc2_w 111, 3) := by decide +kernel
theorem d_Md_init_373 : decode b_Md_init 373 = .ok (.lastore, 1) := by decide +kernel
theorem d_Md_init_374 : decode b_Md_init 374 = .ok (.dup, 1) := by decide +kernel
theorem d_Md_init_375 : decode b_Md_init 375 = .ok (.bipush 53, 2) := by decide +kernel
theorem d_Md_init_377 : decode b_Md_init 377 = .ok (.ldc2_w 113, 3) := by decide +kernel
theorem d_Md_init_380 : decode b_Md_init 380 = .ok (.lastore, 1) := by decide +kernel
theorem d_Md_init_381 : decode b_Md_init 381 = .ok (.dup, 1) := by decide +kernel
theorem d_Md_init_382 : decode b_Md_init 382 = .ok (.bipush 54, 2) := by decide +kernel
theorem d_Md_init_384 : decode b_Md_init 384 = .ok (.ldc2_w 115, 3) := by decide +kernel
theorem d_Md_init_387 : decode b_Md_init 387 = .ok (.lastore, 1) := by decide +kernel
theorem d_Md_init_388 : decode b_Md_init 388 = .ok (.dup, 1) := by decide +kernel
theorem d_Md_init_389 : decode b_Md_init 389 = .ok (.bipush 55, 2) := by decide +kernel
theorem d_Md_init_391 : decode b_Md_init 391 = .ok (.ldc2_w 117, 3) := by decide +kernel
theorem d_Md_init_394 : decode b_Md_init 394 = .ok (.lastore, 1) := by decide +kernel
theorem d_Md_init_395 : decode b_Md_init 395 = .ok (.dup, 1) := by decide +kernel
theorem d_Md_init_396 : decode b_Md_init 396 = .ok (.bipush 56, 2) := by decide +kernel
theorem d_Md_init_398 : decode b_Md_init 398 = .ok (.ldc2_w 119, 3) := by decide +kernel
theorem d_Md_init_401 : decode b_Md_init 401 = .ok (.lastore, 1) := by decide +kernel
theorem d_Md_init_402 : decode b_Md_init 402 = .ok (.dup, 1) := by decide +kernel
theorem d_Md_init_403 : decode b_Md_init 403 = .ok (.bipush 57, 2) := by decide +kernel
theorem d_Md_init_405 : decode b_Md_init 405 = .ok (.ldc2_w 121, 3) := by decide +kernel
theorem d_Md_init_408 : decode b_Md_init 408 = .ok (.lastore, 1) := by decide +kernel
theorem d_Md_init_409 : decode b_Md_init 409 = .ok (.dup, 1) := by decide +kernel
theorem d_Md_init_410 : decode b_Md_init 410 = .ok (.bipush 58, 2) := by decide +kernel
theorem d_Md_init_412 : decode b_Md_init 412 = .ok (.ldc2_w 123, 3) := by decide +kernel
theorem d_Md_init_415 : decode b_Md_init 415 = .ok (.lastore, 1) := by decide +kernel
theorem d_Md_init_416 : decode b_Md_init 416 = .ok (.dup, 1) := by decide +kernel
theorem d_Md_init_417 : decode b_Md_init 417 = .ok (.bipush 59, 2) := by decide +kernel
theorem d_Md_init_419 : decode b_Md_init 419 = .ok (.ldc2_w 125, 3) := by decide +kernel
theorem d_Md_init_422 : decode b_Md_init 422 = .ok (.lastore, 1) := by decide +kernel
theorem d_Md_init_423 : decode b_Md_init 423 = .ok (.dup, 1) := by decide +kernel
theorem d_Md_init_424 : decode b_Md_init 424 = .ok (.bipush 60, 2) := by decide +kernel
theorem d_Md_init_426 : decode b_Md_init 426 = .ok (.ldc2_w 127, 3) := by decide +kernel
theorem d_Md_init_429 : decode b_Md_init 429 = .ok (.lastore, 1) := by decide +kernel
theorem d_Md_init_430 : decode b_Md_init 430 = .ok (.dup, 1) := by decide +kernel
theorem d_Md_init_431 : decode b_Md_init 431 = .ok (.bipush 61, 2) := by decide +kernel
theorem d_Md_init_433 : decode b_Md_init 433 = .ok (.ldc2_w 129, 3) := by decide +kernel
theorem d_Md_init_436 : decode b_Md_init 436 = .ok (.lastore, 1) := by decide +kernel
theorem d_Md_init_437 : decode b_Md_init 437 = .ok (.dup, 1) := by decide +kernel
theorem d_Md_init_438 : decode b_Md_init 438 = .ok (.bipush 62, 2) := by decide +kernel
theorem d_Md_init_440 : decode b_Md_init 440 = .ok (.ldc2_w 131, 3) := by decide +kernel
theorem d_Md_init_443 : decode b_Md_init 443 = .ok (.lastore, 1) := by decide +kernel
theorem d_Md_init_444 : decode b_Md_init 444 = .ok (.dup, 1) := by decide +kernel
theorem d_Md_init_445 : decode b_Md_init 445 = .ok (.bipush 63, 2) := by decide +kernel
theorem d_Md_init_447 : decode b_Md_init 447 = .ok (.ldc2_w 133, 3) := by decide +kernel
theorem d_Md_init_450 : decode b_Md_init 450 = .ok (.lastore, 1) := by decide +kernel
theorem d_Md_init_451 : decode b_Md_init 451 = .ok (.putfield 135, 3) := by decide +kernel
theorem d_Md_init_454 : decode b_Md_init 454 = .ok (.aload_n 0, 1) := by decide +kernel
theorem d_Md_init_455 : decode b_Md_init 455 = .ok (.sipush 160, 3) := by decide +kernel
theorem d_Md_init_458 : decode b_Md_init 458 = .ok (.newarray .int, 2) := by decide +kernel
theorem d_Md_init_460 : decode b_Md_init 460 = .ok (.putfield 141, 3) := by decide +kernel
theorem d_Md_init_463 : decode b_Md_init 463 = .ok (.aload_n 0, 1) := by decide +kernel
theorem d_Md_init_464 : decode b_Md_init 464 = .ok (.iconst 4, 1) := by decide +kernel
theorem d_Md_init_465 : decode b_Md_init 465 = .ok (.newarray .int, 2) := by decide +kernel
theorem d_Md_init_467 : decode b_Md_init 467 = .ok (.putfield 145, 3) := by decide +kernel
theorem d_Md_init_470 : decode b_Md_init 470 = .ok (.aload_n 0, 1) := by decide +kernel
theorem d_Md_init_471 : decode b_Md_init 471 = .ok (.sipush 1920, 3) := by decide +kernel
theorem d_Md_init_474 : decode b_Md_init 474 = .ok (.newarray .int, 2) := by decide +kernel
theorem d_Md_init_476 : decode b_Md_init 476 = .ok (.putfield 148, 3) := by decide +kernel
theorem d_Md_init_479 : decode b_Md_init 479 = .ok (.aload_n 0, 1) := by decide +kernel
theorem d_Md_init_480 : decode b_Md_init 480 = .ok (.bipush 32, 2) := by decide +kernel
theorem d_Md_init_482 : decode b_Md_init 482 = .ok (.newarray .int, 2) := by decide +kernel
theorem d_Md_init_484 : decode b_Md_init 484 = .ok (.putfield 151, 3) := by decide +kernel
theorem d_Md_init_487 : decode b_Md_init 487 = .ok (.aload_n 0, 1) := by decide +kernel
theorem d_Md_init_488 : decode b_Md_init 488 = .ok (.sipush 1000, 3) := by decide +kernel
theorem d_Md_init_491 : decode b_Md_init 491 = .ok (.newarray .int, 2) := by decide +kernel
theorem d_Md_init_493 : decode b_Md_init 493 = .ok (.putfield 154, 3) := by decide +kernel
theorem d_Md_init_496 : decode b_Md_init 496 = .ok (.aload_n 0, 1) := by decide +kernel
theorem d_Md_init_497 : decode b_Md_init 497 = .ok (.sipush 1400, 3) := by decide +kernel
theorem d_Md_init_500 : decode b_Md_init 500 = .ok (.newarray .int, 2) := by decide +kernel
theorem d_Md_init_502 : decode b_Md_init 502 = .ok (.putfield 157, 3) := by decide +kernel
theorem d_Md_init_505 : decode b_Md_init 505 = .ok (.aload_n 0, 1) := by decide +kernel
theorem d_Md_init_506 : decode b_Md_init 506 = .ok (.bipush 16, 2) := by decide +kernel
theorem d_Md_init_508 : decode b_Md_init 508 = .ok (.newarray .int, 2) := by decide +kernel
theorem d_Md_init_510 : decode b_Md_init 510 = .ok (.putfield 160, 3) := by decide +kernel
theorem d_Md_init_513 : decode b_Md_init 513 = .ok (.aload_n 0, 1) := by decide +kernel
theorem d_Md_init_514 : decode b_Md_init 514 = .ok (.sipush 1200, 3) := by decide +kernel
theorem d_Md_init_517 : decode b_Md_init 517 = .ok (.newarray .int, 2) := by decide +kernel
theorem d_Md_init_519 : decode b_Md_init 519 = .ok (.putfield 163, 3) := by decide +kernel
theorem d_Md_init_522 : decode b_Md_init 522 = .ok (.aload_n 0, 1) := by decide +kernel
theorem d_Md_init_523 : decode b_Md_init 523 = .ok (.sipush 200, 3) := by decide +kernel
theorem d_Md_init_526 : decode b_Md_init 526 = .ok (.newarray .int, 2) := by decide +kernel
theorem d_Md_init_528 : decode b_Md_init 528 = .ok (.putfield 166, 3) := by decide +kernel
theorem d_Md_init_531 : decode b_Md_init 531 = .ok (.aload_n 0, 1) := by decide +kernel
theorem d_Md_init_532 : decode b_Md_init 532 = .ok (.sipush 200, 3) := by decide +kernel
theorem d_Md_init_535 : decode b_Md_init 535 = .ok (.newarray .int, 2) := by decide +kernel
theorem d_Md_init_537 : decode b_Md_init 537 = .ok (.putfield 169, 3) := by decide +kernel
theorem d_Md_init_540 : decode b_Md_init 540 = .ok (.aload_n 0, 1) := by decide +kernel
theorem d_Md_init_541 : decode b_Md_init 541 = .ok (.bipush 41, 2) := by decide +kernel
theorem d_Md_init_543 : decode b_Md_init 543 = .ok (.newarray .int, 2) := by decide +kernel
theorem d_Md_init_545 : decode b_Md_init 545 = .ok (.putfield 172, 3) := by decide +kernel
theorem d_Md_init_548 : decode b_Md_init 548 = .ok (.aload_n 0, 1) := by decide +kernel
theorem d_Md_init_549 : decode b_Md_init 549 = .ok (.bipush 41, 2) := by decide +kernel
theorem d_Md_init_551 : decode b_Md_init 551 = .ok (.newarray .int, 2) := by decide +kernel
theorem d_Md_init_553 : decode b_Md_init 553 = .ok (.putfield 175, 3) := by decide +kernel
theorem d_Md_init_556 : decode b_Md_init 556 = .ok (.aload_n 0, 1) := by decide +kernel
theorem d_Md_init_557 : decode b_Md_init 557 = .ok (.bipush 41, 2) := by decide +kernel
theorem d_Md_init_559 : decode b_Md_init 559 = .ok (.newarray .int, 2) := by decide +kernel
theorem d_Md_init_561 : decode b_Md_init 561 = .ok (.putfield 178, 3) := by decide +kernel
theorem d_Md_init_564 : decode b_Md_init 564 = .ok (.aload_n 0, 1) := by decide +kernel
theorem d_Md_init_565 : decode b_Md_init 565 = .ok (.bipush 41, 2) := by decide +kernel
theorem d_Md_init_567 : decode b_Md_init 567 = .ok (.newarray .int, 2) := by decide +kernel
theorem d_Md_init_569 : decode b_Md_init 569 = .ok (.putfield 181, 3) := by decide +kernel
theorem d_Md_init_572 : decode b_Md_init 572 = .ok (.aload_n 0, 1) := by decide +kernel
theorem d_Md_init_573 : decode b_Md_init 573 = .ok (.sipush 8200, 3) := by decide +kernel
theorem d_Md_init_576 : decode b_Md_init 576 = .ok (.newarray .int, 2) := by decide +kernel
theorem d_Md_init_578 : decode b_Md_init 578 = .ok (.putfield 184, 3) := by decide +kernel
theorem d_Md_init_581 : decode b_Md_init 581 = .ok (.aload_n 0, 1) := by decide +kernel
theorem d_Md_init_582 : decode b_Md_init 582 = .ok (.sipush 656, 3) := by decide +kernel
theorem d_Md_init_585 : decode b_Md_init 585 = .ok (.newarray .int, 2) := by decide +kernel
theorem d_Md_init_587 : decode b_Md_init 587 = .ok (.putfield 187, 3) := by decide +kernel
theorem d_Md_init_590 : decode b_Md_init 590 = .ok (.aload_n 0, 1) := by decide +kernel
theorem d_Md_init_591 : decode b_Md_init 591 = .ok (.bipush 7, 2) := by decide +kernel
theorem d_Md_init_593 : decode b_Md_init 593 = .ok (.newarray .long, 2) := by decide +kernel
theorem d_Md_init_595 : decode b_Md_init 595 = .ok (.putfield 190, 3) := by decide +kernel
theorem d_Md_init_598 : decode b_Md_init 598 = .ok (.aload_n 0, 1) := by decide +kernel
theorem d_Md_init_599 : decode b_Md_init 599 = .ok (.bipush 7, 2) := by decide +kernel
theorem d_Md_init_601 : decode b_Md_init 601 = .ok (.newarray .int, 2) := by decide +kernel
theorem d_Md_init_603 : decode b_Md_init 603 = .ok (.putfield 193, 3) := by decide +kernel
theorem d_Md_init_606 : decode b_Md_init 606 = .ok (.aload_n 0, 1) := by decide +kernel
theorem d_Md_init_607 : decode b_Md_init 607 = .ok (.bipush 7, 2) := by decide +kernel
theorem d_Md_init_609 : decode b_Md_init 609 = .ok (.newarray .int, 2) := by decide +kernel
theorem d_Md_init_611 : decode b_Md_init 611 = .ok (.putfield 196, 3) := by decide +kernel
theorem d_Md_init_614 : decode b_Md_init 614 = .ok (.aload_n 0, 1) := by decide +kernel
theorem d_Md_init_615 : decode b_Md_init 615 = .ok (.bipush 7, 2) := by decide +kernel
theorem d_Md_init_617 : decode b_Md_init 617 = .ok (.newarray .int, 2) := by decide +kernel
theorem d_Md_init_619 : decode b_Md_init 619 = .ok (.putfield 199, 3) := by decide +kernel
theorem d_Md_init_622 : decode b_Md_init 622 = .ok (.aload_n 0, 1) := by decide +kernel
theorem d_Md_init_623 : decode b_Md_init 623 = .ok (.bipush 7, 2) := by decide +kernel
theorem d_Md_init_625 : decode b_Md_init 625 = .ok (.newarray .int, 2) := by decide +kernel
theorem d_Md_init_627 : decode b_Md_init 627 = .ok (.putfield 202, 3) := by decide +kernel
theorem d_Md_init_630 : decode b_Md_init 630 = .ok (.aload_n 0, 1) := by decide +kernel
theorem d_Md_init_631 : decode b_Md_init 631 = .ok (.bipush 112, 2) := by decide +kernel
theorem d_Md_init_633 : decode b_Md_init 633 = .ok (.newarray .int, 2) := by decide +kernel
theorem d_Md_init_635 : decode b_Md_init 635 = .ok (.putfield 205, 3) := by decide +kernel
theorem d_Md_init_638 : decode b_Md_init 638 = .ok (.aload_n 0, 1) := by decide +kernel
theorem d_Md_init_639 : decode b_Md_init 639 = .ok (.lconst 1, 1) := by decide +kernel
theorem d_Md_init_640 : decode b_Md_init 640 = .ok (.putfield 208, 3) := by decide +kernel
theorem d_Md_init_643 : decode b_Md_init 643 = .ok (.aload_n 0, 1) := by decide +kernel
theorem d_Md_init_644 : decode b_Md_init 644 = .ok (.bipush 50, 2) := by decide +kernel
theorem d_Md_init_646 : decode b_Md_init 646 = .ok (.newarray .int, 2) := by decide +kernel
theorem d_Md_init_648 : decode b_Md_init 648 = .ok (.putfield 212, 3) := by decide +kernel
theorem d_Md_init_651 : decode b_Md_init 651 = .ok (.aload_n 0, 1) := by decide +kernel
theorem d_Md_init_652 : decode b_Md_init 652 = .ok (.bipush 50, 2) := by decide +kernel
theorem d_Md_init_654 : decode b_Md_init 654 = .ok (.newarray .int, 2) := by decide +kernel
theorem d_Md_init_656 : decode b_Md_init 656 = .ok (.putfield 215, 3) := by decide +kernel
theorem d_Md_init_659 : decode b_Md_init 659 = .ok (.aload_n 0, 1) := by decide +kernel
theorem d_Md_init_660 : decode b_Md_init 660 = .ok (.sipush 800, 3) := by decide +kernel
theorem d_Md_init_663 : decode b_Md_init 663 = .ok (.newarray .int, 2) := by decide +kernel
theorem d_Md_init_665 : decode b_Md_init 665 = .ok (.putfield 218, 3) := by decide +kernel
theorem d_Md_init_668 : decode b_Md_init 668 = .ok (.aload_n 0, 1) := by decide +kernel
theorem d_Md_init_669 : decode b_Md_init 669 = .ok (.bipush 50, 2) := by decide +kernel
theorem d_Md_init_671 : decode b_Md_init 671 = .ok (.newarray .int, 2) := by decide +kernel
theorem d_Md_init_673 : decode b_Md_init 673 = .ok (.putfield 221, 3) := by decide +kernel
theorem d_Md_init_676 : decode b_Md_init 676 = .ok (.aload_n 0, 1) := by decide +kernel
theorem d_Md_init_677 : decode b_Md_init 677 = .ok (.bipush 50, 2) := by decide +kernel
theorem d_Md_init_679 : decode b_Md_init 679 = .ok (.newarray .int, 2) := by decide +kernel
theorem d_Md_init_681 : decode b_Md_init 681 = .ok (.putfield 224, 3) := by decide +kernel
theorem d_Md_init_684 : decode b_Md_init 684 = .ok (.aload_n 0, 1) := by decide +kernel
theorem d_Md_init_685 : decode b_Md_init 685 = .ok (.bipush 50, 2) := by decide +kernel
theorem d_Md_init_687 : decode b_Md_init 687 = .ok (.newarray .int, 2) := by decide +kernel
theorem d_Md_init_689 : decode b_Md_init 689 = .ok (.putfield 227, 3) := by decide +kernel
theorem d_Md_init_692 : decode b_Md_init 692 = .ok (.aload_n 0, 1) := by decide +kernel
theorem d_Md_init_693 : decode b_Md_init 693 = .ok (.bipush 50, 2) := by decide +kernel
theorem d_Md_init_695 : decode b_Md_init 695 = .ok (.newarray .int, 2) := by decide +kernel
theorem d_Md_init_697 : decode b_Md_init 697 = .ok (.putfield 230, 3) := by decide +kernel
theorem d_Md_init_700 : decode b_Md_init 700 = .ok (.aload_n 0, 1) := by decide +kernel
theorem d_Md_init_701 : decode b_Md_init 701 = .ok (.bipush 50, 2) := by decide +kernel
theorem d_Md_init_703 : decode b_Md_init 703 = .ok (.newarray .long, 2) := by decide +kernel
theorem d_Md_init_705 : decode b_Md_init 705 = .ok (.putfield 233, 3) := by decide +kernel
theorem d_Md_init_708 : decode b_Md_init 708 = .ok (.aload_n 0, 1) := by decide +kernel
theorem d_Md_init_709 : decode b_Md_init 709 = .ok (.bipush 50, 2) := by decide +kernel
theorem d_Md_init_711 : decode b_Md_init 711 = .ok (.newarray .long, 2) := by decide +kernel
theorem d_Md_init_713 : decode b_Md_init 713 = .ok (.putfield 236, 3) := by decide +kernel
theorem d_Md_init_716 : decode b_Md_init 716 = .ok (.iconst 0, 1) := by decide +kernel
theorem d_Md_init_717 : decode b_Md_init 717 = .ok (.istore_n 1, 1) := by decide +kernel
theorem d_Md_init_718 : decode b_Md_init 718 = .ok (.iload_n 1, 1) := by decide +kernel
theorem d_Md_init_719 : decode b_Md_init 719 = .ok (.iconst 4, 1) := by decide +kernel
theorem d_Md_init_720 : decode b_Md_init 720 = .ok (.if_icmp .ge 29, 3) := by decide +kernel
theorem d_Md_init_723 : decode b_Md_init 723 = .ok (.aload_n 0, 1) := by decide +kernel
theorem d_Md_init_724 : decode b_Md_init 724 = .ok (.getfield 141, 3) := by decide +kernel
theorem d_Md_init_727 : decode b_Md_init 727 = .ok (.bipush 40, 2) := by decide +kernel
theorem d_Md_init_729 : decode b_Md_init 729 = .ok (.iload_n 1, 1) := by decide +kernel
theorem d_Md_init_730 : decode b_Md_init 730 = .ok (.imul, 1) := by decide +kernel
theorem d_Md_init_731 : decode b_Md_init 731 = .ok (.bipush 49, 2) := by decide +kernel
theorem d_Md_init_733 : decode b_Md_init 733 = .ok (.iload_n 1, 1) := by decide +kernel
theorem d_Md_init_734 : decode b_Md_init 734 = .ok (.iadd, 1) := by decide +kernel
theorem d_Md_init_735 : decode b_Md_init 735 = .ok (.iastore, 1) := by decide +kernel
theorem d_Md_init_736 : decode b_Md_init 736 = .ok (.aload_n 0, 1) := by decide +kernel
theorem d_Md_init_737 : decode b_Md_init 737 = .ok (.getfield 145, 3) := by decide +kernel
theorem d_Md_init_740 : decode b_Md_init 740 = .ok (.iload_n 1, 1) := by decide +kernel
theorem d_Md_init_741 : decode b_Md_init 741 = .ok (.iconst 1, 1) := by decide +kernel
theorem d_Md_init_742 : decode b_Md_init 742 = .ok (.iastore, 1) := by decide +kernel
theorem d_Md_init_743 : decode b_Md_init 743 = .ok (.iinc 1 1, 3) := by decide +kernel
theorem d_Md_init_746 : decode b_Md_init 746 = .ok (.goto (-28), 3) := by decide +kernel
theorem d_Md_init_749 : decode b_Md_init 749 = .ok (.aload_n 0, 1) := by decide +kernel
theorem d_Md_init_750 : decode b_Md_init 750 = .ok (.iconst 1, 1) := by decide +kernel
theorem d_Md_init_751 : decode b_Md_init 751 = .ok (.iconst 0, 1) := by decide +kernel
theorem d_Md_init_752 : decode b_Md_init 752 = .ok (.lconst 0, 1) := by decide +kernel
theorem d_Md_init_753 : decode b_Md_init 753 = .ok (.invokevirtual 239, 3) := by decide +kernel
theorem d_Md_init_756 : decode b_Md_init 756 = .ok (.return_, 1) := by decide +kernel
theorem vin {i : Int32} {n : Nat} (h : ¬ (i < 0 ∨ n ≤ i.toNatClampNeg)) : vp_in i n := h
abbrev mdZ : List Value := [.null, .int 0, .int 0, .null, .null, .null, .null, .null, .int 0, .null, .int 0, .null, .null, .null, .int 0, .null, .int 0, .int 0, .null, .null, .null, .null, .null, .null, .int 0, .null, .null, .null, .null, .null, .null, .long 0, .long 0, .int 0, .null, .null, .null, .null, .null, .null, .null, .null, .null, .int 0, .int 0]
set_option maxHeartbeats 4000000 in
set_option maxRecDepth 100000 in
/-- the model -/
theorem n_Md (l : Launch) (dC : Nat → ClassId) (dI : Nat → Nat → Nat) (cT : Nat → ClassId) (sz : Nat) (mo : Nat)  : Met l y_Md_init (Cond.code y_Md_init b_Md_init 2 (Option.none : Option Jvm.ClassFile.FieldType) :: BIG) ({ frames := 2, cells := 40, slots := 20000, locals := 60 }) (va_Pc [.ref mo] (fun U => U.heap.size = sz ∧ va_P (dC, dI) vcl [(mo, .inr (12, [.null, .int 0, .int 0, .null, .null, .null, .null, .null, .int 0, .null, .int 0, .null, .null, .null, .int 0, .null, .int 0, .int 0, .null, .null, .null, .null, .null, .null, .int 0, .null, .null, .null, .null, .null, .null, .long 0, .long 0, .int 0, .null, .null, .null, .null, .null, .null, .null, .null, .null, .int 0, .int 0]))] U.heap ∧ va_K (dC, dI) vcl (tyL cT) U ∧ va_D (fun _ => True) [(mo, .inr (12, [.null, .int 0, .int 0, .null, .null, .null, .null, .null, .int 0, .null, .int 0, .null, .null, .null, .int 0, .null, .int 0, .int 0, .null, .null, .null, .null, .null, .null, .int 0, .null, .null, .null, .null, .null, .null, .long 0, .long 0, .int 0, .null, .null, .null, .null, .null, .null, .null, .null, .null, .int 0, .int 0]))])) (va_Qv (S := (Nat → Nat) × (Nat → Int64) × (Nat → Int32) × (Nat → Int32) × (Nat → Int32)) (fun u => match u with | (r, fs, fc, fz, f) => (∀ q9, q9 < 4 → fz q9 = 1) ∧ f 0 = 1 ∧ f 1 = 0 ∧ f 2 = 0 ∧ f 3 = 20 ∧ ∀ k9, k9 < 16 → f (4 + k9) = mb_at 0 k9) (fun u t => match u with | (r, fs, fc, fz, f) => va_P (dC, dI) vcl [(mo, .inr (12, mdF r (fun _ => 0) (fun k => match k with | 32 => 1 | _ => 0) 0 0 (nI 20) (nI 0))), (r 0, .inl ((cT 1), 64, .inr (.inl fs))), (r 3, .inl ((cT 0), 160, .inl fc)), (r 4, .inl ((cT 0), 4, .inl fz)), (r 5, .inl ((cT 0), 1920, .inl (fun _ => 0))), (r 6, .inl ((cT 0), 32, .inl (fun _ => 0))), (r 7, .inl ((cT 0), 1000, .inl f)), (r 9, .inl ((cT 0), 1400, .inl (fun _ => 0))), (r 11, .inl ((cT 0), 16, .inl (fun _ => 0))), (r 12, .inl ((cT 0), 1200, .inl (fun _ => 0)))] t.heap ∧ va_K (dC, dI) vcl (tyL cT) t ∧ va_D (va_A [(mo, .inr (12, [.null, .int 0, .int 0, .null, .null, .null, .null, .null, .int 0, .null, .int 0, .null, .null, .null, .int 0, .null, .int 0, .int 0, .null, .null, .null, .null, .null, .null, .int 0, .null, .null, .null, .null, .null, .null, .long 0, .long 0, .int 0, .null, .null, .null, .null, .null, .null, .null, .null, .null, .int 0, .int 0]))] sz) [(mo, .inr (12, mdF r (fun _ => 0) (fun k => match k with | 32 => 1 | _ => 0) 0 0 (nI 20) (nI 0))), (r 0, .inl ((cT 1), 64, .inr (.inl fs))), (r 3, .inl ((cT 0), 160, .inl fc)), (r 4, .inl ((cT 0), 4, .inl fz)), (r 5, .inl ((cT 0), 1920, .inl (fun _ => 0))), (r 6, .inl ((cT 0), 32, .inl (fun _ => 0))), (r 7, .inl ((cT 0), 1000, .inl f)), (r 9, .inl ((cT 0), 1400, .inl (fun _ => 0))), (r 11, .inl ((cT 0), 16, .inl (fun _ => 0))), (r 12, .inl ((cT 0), 1200, .inl (fun _ => 0)))]) (va_A [(mo, .inr (12, [.null, .int 0, .int 0, .null, .null, .null, .null, .null, .int 0, .null, .int 0, .null, .null, .null, .int 0, .null, .int 0, .int 0, .null, .null, .null, .null, .null, .null, .int 0, .null, .null, .null, .null, .null, .null, .long 0, .long 0, .int 0, .null, .null, .null, .null, .null, .null, .null, .null, .null, .int 0, .int 0]))] sz)) 40 20000 (va_A [(mo, .inr (12, [.null, .int 0, .int 0, .null, .null, .null, .null, .null, .int 0, .null, .int 0, .null, .null, .null, .int 0, .null, .int 0, .int 0, .null, .null, .null, .null, .null, .null, .int 0, .null, .null, .null, .null, .null, .null, .long 0, .long 0, .int 0, .null, .null, .null, .null, .null, .null, .null, .null, .null, .int 0, .int 0]))] sz) := by
  refine Met.ofW (cc := b_Md_init) (maxL := 2) (ret := (Option.none : Option Jvm.ClassFile.FieldType)) (by decide) rfl ?_
  intro p e s m args below meth c s₁ B hml hv
  obtain ⟨hargs, hsz, hP, hK, hD0⟩ := hv
  have hx := B.exec
  have hb := B.bytes
  have hr := B.returns
  have hts := atoms_spec (ws := (Cond.code y_Md_init b_Md_init 2 (Option.none : Option Jvm.ClassFile.FieldType) :: BIG)) B.pre
  have hg : ∀ w ∈ BIG, w.before _ s = true := fun w h => hts w (List.mem_cons_of_mem _ h)
  have hown : s.vm.findClass "DoorServerModel" = some m.cls := findClass_of_methodNamed B.named
  have hlocks := B.notSynchronized
  have hin : meth.name = "<init>" := (name_of_methodNamed B.named B.method).1
  subst hsz
  have hD := hD0.self (sz := s.heap.size)
  generalize hAe : va_A [(mo, .inr (12, [.null, .int 0, .int 0, .null, .null, .null, .null, .null, .int 0, .null, .int 0, .null, .null, .null, .int 0, .null, .int 0, .int 0, .null, .null, .null, .null, .null, .null, .int 0, .null, .null, .null, .null, .null, .null, .long 0, .long 0, .int 0, .null, .null, .null, .null, .null, .null, .null, .null, .null, .int 0, .int 0]))] s.heap.size = A at hD ⊢
  have hA : ∀ q : Nat, s.heap.size ≤ q → A q := fun q h => by rw [← hAe]; exact Or.inr h
  have hS : va_S A s.heap s.heap [] := va_S.rf
  have hl := lv_entry ([.ref mo]) (n := 2) (Nat.le_of_ble_eq_true rfl)
  refine W.eq (g2 := entryFrame m (List.toArray [.ref mo]) 2) (by rw [hargs]) ?_
  rw [lg_entry_eq]
  generalize (lg_sl ([.ref mo]) ++ List.replicate (2 - (lg_sl ([.ref mo])).length) Slot.unset).toArray = ls at hl ⊢
  have hl : lv_has ls 2 [(0, .ref mo)] := hl
  change W p l e ({ frames := 2, cells := 40, slots := 20000, locals := 60 } : Room) s m args below meth c s.heap [] 0 0 _ _
  have hP : va_P (dC, dI) vcl [(mo, .inr (12, [.null, .int 0, .int 0, .null, .null, .null, .null, .null, .int 0, .null, .int 0, .null, .null, .null, .int 0, .null, .int 0, .int 0, .null, .null, .null, .null, .null, .null, .int 0, .null, .null, .null, .null, .null, .null, .long 0, .long 0, .int 0, .null, .null, .null, .null, .null, .null, .null, .null, .null, .int 0, .int 0]))] s.heap := hP
  refine lv_aload_n hx hb d_Md_init_0 rfl (lv_at hl 0 rfl) ?_
  refine W.objInit hx hb hown (hg _ k_946) (hg _ k_28) (hg _ k_29) rfl (by rw [hml]; exact hl.1) rfl d_Md_init_1 (Nat.le_of_ble_eq_true rfl) (Nat.le_of_ble_eq_true rfl) ?_
  refine W.eq (g2 := F0 m 4 ls []) rfl ?_
  refine lv_aload_n hx hb d_Md_init_4 rfl (lv_at hl 0 rfl) ?_
  refine lv_bipush (v := 64) hx hb d_Md_init_5 (by decide) ?_
  have hP : va_P (dC, dI) vcl [(mo, .inr (12, mdZ))] s.heap := hP
  have hD : va_D A [(mo, .inr (12, mdZ))] := hD
  refine va_newa (atype := .long) (ty := .long) (n := 64) (N' := 64) (a0 := (64, .inr (.inl (fun _ => 0)))) hx hb (hg _ k_1156) rfl hK hP hD hS hA (fun _ => rfl) (by decide) (by decide) (by decide) (Nat.le_of_ble_eq_true rfl) (Nat.le_of_ble_eq_true rfl) d_Md_init_7 (fun q1 cA9 H hK9 hP hD hS => ?_)
  obtain rfl := nk_long hK9
  clear hK9
  have hP : va_P (dC, dI) vcl [(mo, .inr (12, mdZ)), (q1, .inl ((cT 1), 64, .inr (.inl (fun _ => 0))))] H := hP
  have hD : va_D A [(mo, .inr (12, mdZ)), (q1, .inl ((cT 1), 64, .inr (.inl (fun _ => 0))))] := hD
  refine lv_dup hx hb d_Md_init_9 rfl ?_
  refine lv_iconst (v := 0) hx hb d_Md_init_10 (by decide) ?_
  refine lv_ldc2 (v := 3614090360) hx hb hown (hg _ k_947) d_Md_init_11 ?_
  refine va_last hx hb hK hP hD hS 1 1 rfl rfl (i := 0) (vin (by decide)) d_Md_init_14 (fun H locs hP hD hS => ?_)
  have hP : va_P (dC, dI) vcl [(mo, .inr (12, mdZ)), (q1, .inl ((cT 1), 64, .inr (.inl (vp_updL (fun _ => 0) (0 : Int32).toNatClampNeg 3614090360))))] H := hP
  have hD : va_D A [(mo, .inr (12, mdZ)), (q1, .inl ((cT 1), 64, .inr (.inl (vp_updL (fun _ => 0) (0 : Int32).toNatClampNeg 3614090360))))] := hD
  generalize vp_updL (fun _ => 0) (0 : Int32).toNatClampNeg 3614090360 = f2 at hP hD
  have hP : va_P (dC, dI) vcl [(mo, .inr (12, mdZ)), (q1, .inl ((cT 1), 64, .inr (.inl f2)))] H := hP
  have hD : va_D A [(mo, .inr (12, mdZ)), (q1, .inl ((cT 1), 64, .inr (.inl f2)))] := hD
  refine lv_dup hx hb d_Md_init_15 rfl ?_
  refine lv_iconst (v := 1) hx hb d_Md_init_16 (by decide) ?_
  refine lv_ldc2 (v := 3905402710) hx hb hown (hg _ k_948) d_Md_init_17 ?_
  refine va_last hx hb hK hP hD hS 1 1 rfl rfl (i := 1) (vin (by decide)) d_Md_init_20 (fun H locs hP hD hS => ?_)
  have hP : va_P (dC, dI) vcl [(mo, .inr (12, mdZ)), (q1, .inl ((cT 1), 64, .inr (.inl (vp_updL f2 (1 : Int32).toNatClampNeg 3905402710))))] H := hP
  have hD : va_D A [(mo, .inr (12, mdZ)), (q1, .inl ((cT 1), 64, .inr (.inl (vp_updL f2 (1 : Int32).toNatClampNeg 3905402710))))] := hD
  generalize vp_updL f2 (1 : Int32).toNatClampNeg 3905402710 = f3 at hP hD
  have hP : va_P (dC, dI) vcl [(mo, .inr (12, mdZ)), (q1, .inl ((cT 1), 64, .inr (.inl f3)))] H := hP
  have hD : va_D A [(mo, .inr (12, mdZ)), (q1, .inl ((cT 1), 64, .inr (.inl f3)))] := hD
  refine lv_dup hx hb d_Md_init_21 rfl ?_
  refine lv_iconst (v := 2) hx hb d_Md_init_22 (by decide) ?_
  refine lv_ldc2 (v := 606105819) hx hb hown (hg _ k_949) d_Md_init_23 ?_
  refine va_last hx hb hK hP hD hS 1 1 rfl rfl (i := 2) (vin (by decide)) d_Md_init_26 (fun H locs hP hD hS => ?_)
  have hP : va_P (dC, dI) vcl [(mo, .inr (12, mdZ)), (q1, .inl ((cT 1), 64, .inr (.inl (vp_updL f3 (2 : Int32).toNatClampNeg 606105819))))] H := hP
  have hD : va_D A [(mo, .inr (12, mdZ)), (q1, .inl ((cT 1), 64, .inr (.inl (vp_updL f3 (2 : Int32).toNatClampNeg 606105819))))] := hD
  generalize vp_updL f3 (2 : Int32).toNatClampNeg 606105819 = f4 at hP hD
  have hP : va_P (dC, dI) vcl [(mo, .inr (12, mdZ)), (q1, .inl ((cT 1), 64, .inr (.inl f4)))] H := hP
  have hD : va_D A [(mo, .inr (12, mdZ)), (q1, .inl ((cT 1), 64, .inr (.inl f4)))] := hD
  refine lv_dup hx hb d_Md_init_27 rfl ?_
  refine lv_iconst (v := 3) hx hb d_Md_init_28 (by decide) ?_
  refine lv_ldc2 (v := 3250441966) hx hb hown (hg _ k_950) d_Md_init_29 ?_
  refine va_last hx hb hK hP hD hS 1 1 rfl rfl (i := 3) (vin (by decide)) d_Md_init_32 (fun H locs hP hD hS => ?_)
  have hP : va_P (dC, dI) vcl [(mo, .inr (12, mdZ)), (q1, .inl ((cT 1), 64, .inr (.inl (vp_updL f4 (3 : Int32).toNatClampNeg 3250441966))))] H := hP
  have hD : va_D A [(mo, .inr (12, mdZ)), (q1, .inl ((cT 1), 64, .inr (.inl (vp_updL f4 (3 : Int32).toNatClampNeg 3250441966))))] := hD
  generalize vp_updL f4 (3 : Int32).toNatClampNeg 3250441966 = f5 at hP hD
  have hP : va_P (dC, dI) vcl [(mo, .inr (12, mdZ)), (q1, .inl ((cT 1), 64, .inr (.inl f5)))] H := hP
  have hD : va_D A [(mo, .inr (12, mdZ)), (q1, .inl ((cT 1), 64, .inr (.inl f5)))] := hD
  refine lv_dup hx hb d_Md_init_33 rfl ?_
  refine lv_iconst (v := 4) hx hb d_Md_init_34 (by decide) ?_
  refine lv_ldc2 (v := 4118548399) hx hb hown (hg _ k_951) d_Md_init_35 ?_
  refine va_last hx hb hK hP hD hS 1 1 rfl rfl (i := 4) (vin (by decide)) d_Md_init_38 (fun H locs hP hD hS => ?_)
  have hP : va_P (dC, dI) vcl [(mo, .inr (12, mdZ)), (q1, .inl ((cT 1), 64, .inr (.inl (vp_updL f5 (4 : Int32).toNatClampNeg 4118548399))))] H := hP
  have hD : va_D A [(mo, .inr (12, mdZ)), (q1, .inl ((cT 1), 64, .inr (.inl (vp_updL f5 (4 : Int32).toNatClampNeg 4118548399))))] := hD
  generalize vp_updL f5 (4 : Int32).toNatClampNeg 4118548399 = f6 at hP hD
  have hP : va_P (dC, dI) vcl [(mo, .inr (12, mdZ)), (q1, .inl ((cT 1), 64, .inr (.inl f6)))] H := hP
  have hD : va_D A [(mo, .inr (12, mdZ)), (q1, .inl ((cT 1), 64, .inr (.inl f6)))] := hD
  refine lv_dup hx hb d_Md_init_39 rfl ?_
  refine lv_iconst (v := 5) hx hb d_Md_init_40 (by decide) ?_
  refine lv_ldc2 (v := 1200080426) hx hb hown (hg _ k_952) d_Md_init_41 ?_
  refine va_last hx hb hK hP hD hS 1 1 rfl rfl (i := 5) (vin (by decide)) d_Md_init_44 (fun H locs hP hD hS => ?_)
  have hP : va_P (dC, dI) vcl [(mo, .inr (12, mdZ)), (q1, .inl ((cT 1), 64, .inr (.inl (vp_updL f6 (5 : Int32).toNatClampNeg 1200080426))))] H := hP
  have hD : va_D A [(mo, .inr (12, mdZ)), (q1, .inl ((cT 1), 64, .inr (.inl (vp_updL f6 (5 : Int32).toNatClampNeg 1200080426))))] := hD
  generalize vp_updL f6 (5 : Int32).toNatClampNeg 1200080426 = f7 at hP hD
  have hP : va_P (dC, dI) vcl [(mo, .inr (12, mdZ)), (q1, .inl ((cT 1), 64, .inr (.inl f7)))] H := hP
  have hD : va_D A [(mo, .inr (12, mdZ)), (q1, .inl ((cT 1), 64, .inr (.inl f7)))] := hD
  refine lv_dup hx hb d_Md_init_45 rfl ?_
  refine lv_bipush (v := 6) hx hb d_Md_init_46 (by decide) ?_
  refine lv_ldc2 (v := 2821735955) hx hb hown (hg _ k_953) d_Md_init_48 ?_
  refine va_last hx hb hK hP hD hS 1 1 rfl rfl (i := 6) (vin (by decide)) d_Md_init_51 (fun H locs hP hD hS => ?_)
  have hP : va_P (dC, dI) vcl [(mo, .inr (12, mdZ)), (q1, .inl ((cT 1), 64, .inr (.inl (vp_updL f7 (6 : Int32).toNatClampNeg 2821735955))))] H := hP
  have hD : va_D A [(mo, .inr (12, mdZ)), (q1, .inl ((cT 1), 64, .inr (.inl (vp_updL f7 (6 : Int32).toNatClampNeg 2821735955))))] := hD
  generalize vp_updL f7 (6 : Int32).toNatClampNeg 2821735955 = f8 at hP hD
  have hP : va_P (dC, dI) vcl [(mo, .inr (12, mdZ)), (q1, .inl ((cT 1), 64, .inr (.inl f8)))] H := hP
  have hD : va_D A [(mo, .inr (12, mdZ)), (q1, .inl ((cT 1), 64, .inr (.inl f8)))] := hD
  refine lv_dup hx hb d_Md_init_52 rfl ?_
  refine lv_bipush (v := 7) hx hb d_Md_init_53 (by decide) ?_
  refine lv_ldc2 (v := 4249261313) hx hb hown (hg _ k_954) d_Md_init_55 ?_
  refine va_last hx hb hK hP hD hS 1 1 rfl rfl (i := 7) (vin (by decide)) d_Md_init_58 (fun H locs hP hD hS => ?_)
  have hP : va_P (dC, dI) vcl [(mo, .inr (12, mdZ)), (q1, .inl ((cT 1), 64, .inr (.inl (vp_updL f8 (7 : Int32).toNatClampNeg 4249261313))))] H := hP
  have hD : va_D A [(mo, .inr (12, mdZ)), (q1, .inl ((cT 1), 64, .inr (.inl (vp_updL f8 (7 : Int32).toNatClampNeg 4249261313))))] := hD
  generalize vp_updL f8 (7 : Int32).toNatClampNeg 4249261313 = f9 at hP hD
  have hP : va_P (dC, dI) vcl [(mo, .inr (12, mdZ)), (q1, .inl ((cT 1), 64, .inr (.inl f9)))] H := hP
  have hD : va_D A [(mo, .inr (12, mdZ)), (q1, .inl ((cT 1), 64, .inr (.inl f9)))] := hD
  refine lv_dup hx hb d_Md_init_59 rfl ?_
  refine lv_bipush (v := 8) hx hb d_Md_init_60 (by decide) ?_
  refine lv_ldc2 (v := 1770035416) hx hb hown (hg _ k_955) d_Md_init_62 ?_
  refine va_last hx hb hK hP hD hS 1 1 rfl rfl (i := 8) (vin (by decide)) d_Md_init_65 (fun H locs hP hD hS => ?_)
  have hP : va_P (dC, dI) vcl [(mo, .inr (12, mdZ)), (q1, .inl ((cT 1), 64, .inr (.inl (vp_updL f9 (8 : Int32).toNatClampNeg 1770035416))))] H := hP
  have hD : va_D A [(mo, .inr (12, mdZ)), (q1, .inl ((cT 1), 64, .inr (.inl (vp_updL f9 (8 : Int32).toNatClampNeg 1770035416))))] := hD
  generalize vp_updL f9 (8 : Int32).toNatClampNeg 1770035416 = f10 at hP hD
  have hP : va_P (dC, dI) vcl [(mo, .inr (12, mdZ)), (q1, .inl ((cT 1), 64, .inr (.inl f10)))] H := hP
  have hD : va_D A [(mo, .inr (12, mdZ)), (q1, .inl ((cT 1), 64, .inr (.inl f10)))] := hD
  refine lv_dup hx hb d_Md_init_66 rfl ?_
  refine lv_bipush (v := 9) hx hb d_Md_init_67 (by decide) ?_
  refine lv_ldc2 (v := 2336552879) hx hb hown (hg _ k_956) d_Md_init_69 ?_
  refine va_last hx hb hK hP hD hS 1 1 rfl rfl (i := 9) (vin (by decide)) d_Md_init_72 (fun H locs hP hD hS => ?_)
  have hP : va_P (dC, dI) vcl [(mo, .inr (12, mdZ)), (q1, .inl ((cT 1), 64, .inr (.inl (vp_updL f10 (9 : Int32).toNatClampNeg 2336552879))))] H := hP
  have hD : va_D A [(mo, .inr (12, mdZ)), (q1, .inl ((cT 1), 64, .inr (.inl (vp_updL f10 (9 : Int32).toNatClampNeg 2336552879))))] := hD
  generalize vp_updL f10 (9 : Int32).toNatClampNeg 2336552879 = f11 at hP hD
  have hP : va_P (dC, dI) vcl [(mo, .inr (12, mdZ)), (q1, .inl ((cT 1), 64, .inr (.inl f11)))] H := hP
  have hD : va_D A [(mo, .inr (12, mdZ)), (q1, .inl ((cT 1), 64, .inr (.inl f11)))] := hD
  refine lv_dup hx hb d_Md_init_73 rfl ?_
  refine lv_bipush (v := 10) hx hb d_Md_init_74 (by decide) ?_
  refine lv_ldc2 (v := 4294925233) hx hb hown (hg _ k_957) d_Md_init_76 ?_
  refine va_last hx hb hK hP hD hS 1 1 rfl rfl (i := 10) (vin (by decide)) d_Md_init_79 (fun H locs hP hD hS => ?_)
  have hP : va_P (dC, dI) vcl [(mo, .inr (12, mdZ)), (q1, .inl ((cT 1), 64, .inr (.inl (vp_updL f11 (10 : Int32).toNatClampNeg 4294925233))))] H := hP
  have hD : va_D A [(mo, .inr (12, mdZ)), (q1, .inl ((cT 1), 64, .inr (.inl (vp_updL f11 (10 : Int32).toNatClampNeg 4294925233))))] := hD
  generalize vp_updL f11 (10 : Int32).toNatClampNeg 4294925233 = f12 at hP hD
  have hP : va_P (dC, dI) vcl [(mo, .inr (12, mdZ)), (q1, .inl ((cT 1), 64, .inr (.inl f12)))] H := hP
  have hD : va_D A [(mo, .inr (12, mdZ)), (q1, .inl ((cT 1), 64, .inr (.inl f12)))] := hD
  refine lv_dup hx hb d_Md_init_80 rfl ?_
  refine lv_bipush (v := 11) hx hb d_Md_init_81 (by decide) ?_
  refine lv_ldc2 (v := 2304563134) hx hb hown (hg _ k_958) d_Md_init_83 ?_
  refine va_last hx hb hK hP hD hS 1 1 rfl rfl (i := 11) (vin (by decide)) d_Md_init_86 (fun H locs hP hD hS => ?_)
  have hP : va_P (dC, dI) vcl [(mo, .inr (12, mdZ)), (q1, .inl ((cT 1), 64, .inr (.inl (vp_updL f12 (11 : Int32).toNatClampNeg 2304563134))))] H := hP
  have hD : va_D A [(mo, .inr (12, mdZ)), (q1, .inl ((cT 1), 64, .inr (.inl (vp_updL f12 (11 : Int32).toNatClampNeg 2304563134))))] := hD
  generalize vp_updL f12 (11 : Int32).toNatClampNeg 2304563134 = f13 at hP hD
  have hP : va_P (dC, dI) vcl [(mo, .inr (12, mdZ)), (q1, .inl ((cT 1), 64, .inr (.inl f13)))] H := hP
  have hD : va_D A [(mo, .inr (12, mdZ)), (q1, .inl ((cT 1), 64, .inr (.inl f13)))] := hD
  refine lv_dup hx hb d_Md_init_87 rfl ?_
  refine lv_bipush (v := 12) hx hb d_Md_init_88 (by decide) ?_
  refine lv_ldc2 (v := 1804603682) hx hb hown (hg _ k_959) d_Md_init_90 ?_
  refine va_last hx hb hK hP hD hS 1 1 rfl rfl (i := 12) (vin (by decide)) d_Md_init_93 (fun H locs hP hD hS => ?_)
  have hP : va_P (dC, dI) vcl [(mo, .inr (12, mdZ)), (q1, .inl ((cT 1), 64, .inr (.inl (vp_updL f13 (12 : Int32).toNatClampNeg 1804603682))))] H := hP
  have hD : va_D A [(mo, .inr (12, mdZ)), (q1, .inl ((cT 1), 64, .inr (.inl (vp_updL f13 (12 : Int32).toNatClampNeg 1804603682))))] := hD
  generalize vp_updL f13 (12 : Int32).toNatClampNeg 1804603682 = f14 at hP hD
  have hP : va_P (dC, dI) vcl [(mo, .inr (12, mdZ)), (q1, .inl ((cT 1), 64, .inr (.inl f14)))] H := hP
  have hD : va_D A [(mo, .inr (12, mdZ)), (q1, .inl ((cT 1), 64, .inr (.inl f14)))] := hD
  refine lv_dup hx hb d_Md_init_94 rfl ?_
  refine lv_bipush (v := 13) hx hb d_Md_init_95 (by decide) ?_
  refine lv_ldc2 (v := 4254626195) hx hb hown (hg _ k_960) d_Md_init_97 ?_
  refine va_last hx hb hK hP hD hS 1 1 rfl rfl (i := 13) (vin (by decide)) d_Md_init_100 (fun H locs hP hD hS => ?_)
  have hP : va_P (dC, dI) vcl [(mo, .inr (12, mdZ)), (q1, .inl ((cT 1), 64, .inr (.inl (vp_updL f14 (13 : Int32).toNatClampNeg 4254626195))))] H := hP
  have hD : va_D A [(mo, .inr (12, mdZ)), (q1, .inl ((cT 1), 64, .inr (.inl (vp_updL f14 (13 : Int32).toNatClampNeg 4254626195))))] := hD
  generalize vp_updL f14 (13 : Int32).toNatClampNeg 4254626195 = f15 at hP hD
  have hP : va_P (dC, dI) vcl [(mo, .inr (12, mdZ)), (q1, .inl ((cT 1), 64, .inr (.inl f15)))] H := hP
  have hD : va_D A [(mo, .inr (12, mdZ)), (q1, .inl ((cT 1), 64, .inr (.inl f15)))] := hD
  refine lv_dup hx hb d_Md_init_101 rfl ?_
  refine lv_bipush (v := 14) hx hb d_Md_init_102 (by decide) ?_
  refine lv_ldc2 (v := 2792965006) hx hb hown (hg _ k_961) d_Md_init_104 ?_
  refine va_last hx hb hK hP hD hS 1 1 rfl rfl (i := 14) (vin (by decide)) d_Md_init_107 (fun H locs hP hD hS => ?_)
  have hP : va_P (dC, dI) vcl [(mo, .inr (12, mdZ)), (q1, .inl ((cT 1), 64, .inr (.inl (vp_updL f15 (14 : Int32).toNatClampNeg 2792965006))))] H := hP
  have hD : va_D A [(mo, .inr (12, mdZ)), (q1, .inl ((cT 1), 64, .inr (.inl (vp_updL f15 (14 : Int32).toNatClampNeg 2792965006))))] := hD
  generalize vp_updL f15 (14 : Int32).toNatClampNeg 2792965006 = f16 at hP hD
  have hP : va_P (dC, dI) vcl [(mo, .inr (12, mdZ)), (q1, .inl ((cT 1), 64, .inr (.inl f16)))] H := hP
  have hD : va_D A [(mo, .inr (12, mdZ)), (q1, .inl ((cT 1), 64, .inr (.inl f16)))] := hD
  refine lv_dup hx hb d_Md_init_108 rfl ?_
  refine lv_bipush (v := 15) hx hb d_Md_init_109 (by decide) ?_
  refine lv_ldc2 (v := 1236535329) hx hb hown (hg _ k_962) d_Md_init_111 ?_
  refine va_last hx hb hK hP hD hS 1 1 rfl rfl (i := 15) (vin (by decide)) d_Md_init_114 (fun H locs hP hD hS => ?_)
  have hP : va_P (dC, dI) vcl [(mo, .inr (12, mdZ)), (q1, .inl ((cT 1), 64, .inr (.inl (vp_updL f16 (15 : Int32).toNatClampNeg 1236535329))))] H := hP
  have hD : va_D A [(mo, .inr (12, mdZ)), (q1, .inl ((cT 1), 64, .inr (.inl (vp_updL f16 (15 : Int32).toNatClampNeg 1236535329))))] := hD
  generalize vp_updL f16 (15 : Int32).toNatClampNeg 1236535329 = f17 at hP hD
  have hP : va_P (dC, dI) vcl [(mo, .inr (12, mdZ)), (q1, .inl ((cT 1), 64, .inr (.inl f17)))] H := hP
  have hD : va_D A [(mo, .inr (12, mdZ)), (q1, .inl ((cT 1), 64, .inr (.inl f17)))] := hD
  refine lv_dup hx hb d_Md_init_115 rfl ?_
  refine lv_bipush (v := 16) hx hb d_Md_init_116 (by decide) ?_
  refine lv_ldc2 (v := 4129170786) hx hb hown (hg _ k_963) d_Md_init_118 ?_
  refine va_last hx hb hK hP hD hS 1 1 rfl rfl (i := 16) (vin (by decide)) d_Md_init_121 (fun H locs hP hD hS => ?_)
  have hP : va_P (dC, dI) vcl [(mo, .inr (12, mdZ)), (q1, .inl ((cT 1), 64, .inr (.inl (vp_updL f17 (16 : Int32).toNatClampNeg 4129170786))))] H := hP
  have hD : va_D A [(mo, .inr (12, mdZ)), (q1, .inl ((cT 1), 64, .inr (.inl (vp_updL f17 (16 : Int32).toNatClampNeg 4129170786))))] := hD
  generalize vp_updL f17 (16 : Int32).toNatClampNeg 4129170786 = f18 at hP hD
  have hP : va_P (dC, dI) vcl [(mo, .inr (12, mdZ)), (q1, .inl ((cT 1), 64, .inr (.inl f18)))] H := hP
  have hD : va_D A [(mo, .inr (12, mdZ)), (q1, .inl ((cT 1), 64, .inr (.inl f18)))] := hD
  refine lv_dup hx hb d_Md_init_122 rfl ?_
  refine lv_bipush (v := 17) hx hb d_Md_init_123 (by decide) ?_
  refine lv_ldc2 (v := 3225465664) hx hb hown (hg _ k_964) d_Md_init_125 ?_
  refine va_last hx hb hK hP hD hS 1 1 rfl rfl (i := 17) (vin (by decide)) d_Md_init_128 (fun H locs hP hD hS => ?_)
  have hP : va_P (dC, dI) vcl [(mo, .inr (12, mdZ)), (q1, .inl ((cT 1), 64, .inr (.inl (vp_updL f18 (17 : Int32).toNatClampNeg 3225465664))))] H := hP
  have hD : va_D A [(mo, .inr (12, mdZ)), (q1, .inl ((cT 1), 64, .inr (.inl (vp_updL f18 (17 : Int32).toNatClampNeg 3225465664))))] := hD
  generalize vp_updL f18 (17 : Int32).toNatClampNeg 3225465664 = f19 at hP hD
  have hP : va_P (dC, dI) vcl [(mo, .inr (12, mdZ)), (q1, .inl ((cT 1), 64, .inr (.inl f19)))] H := hP
  have hD : va_D A [(mo, .inr (12, mdZ)), (q1, .inl ((cT 1), 64, .inr (.inl f19)))] := hD
  refine lv_dup hx hb d_Md_init_129 rfl ?_
  refine lv_bipush (v := 18) hx hb d_Md_init_130 (by decide) ?_
  refine lv_ldc2 (v := 643717713) hx hb hown (hg _ k_965) d_Md_init_132 ?_
  refine va_last hx hb hK hP hD hS 1 1 rfl rfl (i := 18) (vin (by decide)) d_Md_init_135 (fun H locs hP hD hS => ?_)
  have hP : va_P (dC, dI) vcl [(mo, .inr (12, mdZ)), (q1, .inl ((cT 1), 64, .inr (.inl (vp_updL f19 (18 : Int32).toNatClampNeg 643717713))))] H := hP
  have hD : va_D A [(mo, .inr (12, mdZ)), (q1, .inl ((cT 1), 64, .inr (.inl (vp_updL f19 (18 : Int32).toNatClampNeg 643717713))))] := hD
  generalize vp_updL f19 (18 : Int32).toNatClampNeg 643717713 = f20 at hP hD
  have hP : va_P (dC, dI) vcl [(mo, .inr (12, mdZ)), (q1, .inl ((cT 1), 64, .inr (.inl f20)))] H := hP
  have hD : va_D A [(mo, .inr (12, mdZ)), (q1, .inl ((cT 1), 64, .inr (.inl f20)))] := hD
  refine lv_dup hx hb d_Md_init_136 rfl ?_
  refine lv_bipush (v := 19) hx hb d_Md_init_137 (by decide) ?_
  refine lv_ldc2 (v := 3921069994) hx hb hown (hg _ k_966) d_Md_init_139 ?_
  refine va_last hx hb hK hP hD hS 1 1 rfl rfl (i := 19) (vin (by decide)) d_Md_init_142 (fun H locs hP hD hS => ?_)
  have hP : va_P (dC, dI) vcl [(mo, .inr (12, mdZ)), (q1, .inl ((cT 1), 64, .inr (.inl (vp_updL f20 (19 : Int32).toNatClampNeg 3921069994))))] H := hP
  have hD : va_D A [(mo, .inr (12, mdZ)), (q1, .inl ((cT 1), 64, .inr (.inl (vp_updL f20 (19 : Int32).toNatClampNeg 3921069994))))] := hD
  generalize vp_updL f20 (19 : Int32).toNatClampNeg 3921069994 = f21 at hP hD
  have hP : va_P (dC, dI) vcl [(mo, .inr (12, mdZ)), (q1, .inl ((cT 1), 64, .inr (.inl f21)))] H := hP
  have hD : va_D A [(mo, .inr (12, mdZ)), (q1, .inl ((cT 1), 64, .inr (.inl f21)))] := hD
  refine lv_dup hx hb d_Md_init_143 rfl ?_
  refine lv_bipush (v := 20) hx hb d_Md_init_144 (by decide) ?_
  refine lv_ldc2 (v := 3593408605) hx hb hown (hg _ k_967) d_Md_init_146 ?_
  refine va_last hx hb hK hP hD hS 1 1 rfl rfl (i := 20) (vin (by decide)) d_Md_init_149 (fun H locs hP hD hS => ?_)
  have hP : va_P (dC, dI) vcl [(mo, .inr (12, mdZ)), (q1, .inl ((cT 1), 64, .inr (.inl (vp_updL f21 (20 : Int32).toNatClampNeg 3593408605))))] H := hP
  have hD : va_D A [(mo, .inr (12, mdZ)), (q1, .inl ((cT 1), 64, .inr (.inl (vp_updL f21 (20 : Int32).toNatClampNeg 3593408605))))] := hD
  generalize vp_updL f21 (20 : Int32).toNatClampNeg 3593408605 = f22 at hP hD
  have hP : va_P (dC, dI) vcl [(mo, .inr (12, mdZ)), (q1, .inl ((cT 1), 64, .inr (.inl f22)))] H := hP
  have hD : va_D A [(mo, .inr (12, mdZ)), (q1, .inl ((cT 1), 64, .inr (.inl f22)))] := hD
  refine lv_dup hx hb d_Md_init_150 rfl ?_
  refine lv_bipush (v := 21) hx hb d_Md_init_151 (by decide) ?_
  refine lv_ldc2 (v := 38016083) hx hb hown (hg _ k_968) d_Md_init_153 ?_
  refine va_last hx hb hK hP hD hS 1 1 rfl rfl (i := 21) (vin (by decide)) d_Md_init_156 (fun H locs hP hD hS => ?_)
  have hP : va_P (dC, dI) vcl [(mo, .inr (12, mdZ)), (q1, .inl ((cT 1), 64, .inr (.inl (vp_updL f22 (21 : Int32).toNatClampNeg 38016083))))] H := hP
  have hD : va_D A [(mo, .inr (12, mdZ)), (q1, .inl ((cT 1), 64, .inr (.inl (vp_updL f22 (21 : Int32).toNatClampNeg 38016083))))] := hD
  generalize vp_updL f22 (21 : Int32).toNatClampNeg 38016083 = f23 at hP hD
  have hP : va_P (dC, dI) vcl [(mo, .inr (12, mdZ)), (q1, .inl ((cT 1), 64, .inr (.inl f23)))] H := hP
  have hD : va_D A [(mo, .inr (12, mdZ)), (q1, .inl ((cT 1), 64, .inr (.inl f23)))] := hD
  refine lv_dup hx hb d_Md_init_157 rfl ?_
  refine lv_bipush (v := 22) hx hb d_Md_init_158 (by decide) ?_
  refine lv_ldc2 (v := 3634488961) hx hb hown (hg _ k_969) d_Md_init_160 ?_
  refine va_last hx hb hK hP hD hS 1 1 rfl rfl (i := 22) (vin (by decide)) d_Md_init_163 (fun H locs hP hD hS => ?_)
  have hP : va_P (dC, dI) vcl [(mo, .inr (12, mdZ)), (q1, .inl ((cT 1), 64, .inr (.inl (vp_updL f23 (22 : Int32).toNatClampNeg 3634488961))))] H := hP
  have hD : va_D A [(mo, .inr (12, mdZ)), (q1, .inl ((cT 1), 64, .inr (.inl (vp_updL f23 (22 : Int32).toNatClampNeg 3634488961))))] := hD
  generalize vp_updL f23 (22 : Int32).toNatClampNeg 3634488961 = f24 at hP hD
  have hP : va_P (dC, dI) vcl [(mo, .inr (12, mdZ)), (q1, .inl ((cT 1), 64, .inr (.inl f24)))] H := hP
  have hD : va_D A [(mo, .inr (12, mdZ)), (q1, .inl ((cT 1), 64, .inr (.inl f24)))] := hD
  refine lv_dup hx hb d_Md_init_164 rfl ?_
  refine lv_bipush (v := 23) hx hb d_Md_init_165 (by decide) ?_
  refine lv_ldc2 (v := 3889429448) hx hb hown (hg _ k_970) d_Md_init_167 ?_
  refine va_last hx hb hK hP hD hS 1 1 rfl rfl (i := 23) (vin (by decide)) d_Md_init_170 (fun H locs hP hD hS => ?_)
  have hP : va_P (dC, dI) vcl [(mo, .inr (12, mdZ)), (q1, .inl ((cT 1), 64, .inr (.inl (vp_updL f24 (23 : Int32).toNatClampNeg 3889429448))))] H := hP
  have hD : va_D A [(mo, .inr (12, mdZ)), (q1, .inl ((cT 1), 64, .inr (.inl (vp_updL f24 (23 : Int32).toNatClampNeg 3889429448))))] := hD
  generalize vp_updL f24 (23 : Int32).toNatClampNeg 3889429448 = f25 at hP hD
  have hP : va_P (dC, dI) vcl [(mo, .inr (12, mdZ)), (q1, .inl ((cT 1), 64, .inr (.inl f25)))] H := hP
  have hD : va_D A [(mo, .inr (12, mdZ)), (q1, .inl ((cT 1), 64, .inr (.inl f25)))] := hD
  refine lv_dup hx hb d_Md_init_171 rfl ?_
  refine lv_bipush (v := 24) hx hb d_Md_init_172 (by decide) ?_
  refine lv_ldc2 (v := 568446438) hx hb hown (hg _ k_971) d_Md_init_174 ?_
  refine va_last hx hb hK hP hD hS 1 1 rfl rfl (i := 24) (vin (by decide)) d_Md_init_177 (fun H locs hP hD hS => ?_)
  have hP : va_P (dC, dI) vcl [(mo, .inr (12, mdZ)), (q1, .inl ((cT 1), 64, .inr (.inl (vp_updL f25 (24 : Int32).toNatClampNeg 568446438))))] H := hP
  have hD : va_D A [(mo, .inr (12, mdZ)), (q1, .inl ((cT 1), 64, .inr (.inl (vp_updL f25 (24 : Int32).toNatClampNeg 568446438))))] := hD
  generalize vp_updL f25 (24 : Int32).toNatClampNeg 568446438 = f26 at hP hD
  have hP : va_P (dC, dI) vcl [(mo, .inr (12, mdZ)), (q1, .inl ((cT 1), 64, .inr (.inl f26)))] H := hP
  have hD : va_D A [(mo, .inr (12, mdZ)), (q1, .inl ((cT 1), 64, .inr (.inl f26)))] := hD
  refine lv_dup hx hb d_Md_init_178 rfl ?_
  refine lv_bipush (v := 25) hx hb d_Md_init_179 (by decide) ?_
  refine lv_ldc2 (v := 3275163606) hx hb hown (hg _ k_972) d_Md_init_181 ?_
  refine va_last hx hb hK hP hD hS 1 1 rfl rfl (i := 25) (vin (by decide)) d_Md_init_184 (fun H locs hP hD hS => ?_)
  have hP : va_P (dC, dI) vcl [(mo, .inr (12, mdZ)), (q1, .inl ((cT 1), 64, .inr (.inl (vp_updL f26 (25 : Int32).toNatClampNeg 3275163606))))] H := hP
  have hD : va_D A [(mo, .inr (12, mdZ)), (q1, .inl ((cT 1), 64, .inr (.inl (vp_updL f26 (25 : Int32).toNatClampNeg 3275163606))))] := hD
  generalize vp_updL f26 (25 : Int32).toNatClampNeg 3275163606 = f27 at hP hD
  have hP : va_P (dC, dI) vcl [(mo, .inr (12, mdZ)), (q1, .inl ((cT 1), 64, .inr (.inl f27)))] H := hP
  have hD : va_D A [(mo, .inr (12, mdZ)), (q1, .inl ((cT 1), 64, .inr (.inl f27)))] := hD
  refine lv_dup hx hb d_Md_init_185 rfl ?_
  refine lv_bipush (v := 26) hx hb d_Md_init_186 (by decide) ?_
  refine lv_ldc2 (v := 4107603335) hx hb hown (hg _ k_973) d_Md_init_188 ?_
  refine va_last hx hb hK hP hD hS 1 1 rfl rfl (i := 26) (vin (by decide)) d_Md_init_191 (fun H locs hP hD hS => ?_)
  have hP : va_P (dC, dI) vcl [(mo, .inr (12, mdZ)), (q1, .inl ((cT 1), 64, .inr (.inl (vp_updL f27 (26 : Int32).toNatClampNeg 4107603335))))] H := hP
  have hD : va_D A [(mo, .inr (12, mdZ)), (q1, .inl ((cT 1), 64, .inr (.inl (vp_updL f27 (26 : Int32).toNatClampNeg 4107603335))))] := hD
  generalize vp_updL f27 (26 : Int32).toNatClampNeg 4107603335 = f28 at hP hD
  have hP : va_P (dC, dI) vcl [(mo, .inr (12, mdZ)), (q1, .inl ((cT 1), 64, .inr (.inl f28)))] H := hP
  have hD : va_D A [(mo, .inr (12, mdZ)), (q1, .inl ((cT 1), 64, .inr (.inl f28)))] := hD
  refine lv_dup hx hb d_Md_init_192 rfl ?_
  refine lv_bipush (v := 27) hx hb d_Md_init_193 (by decide) ?_
  refine lv_ldc2 (v := 1163531501) hx hb hown (hg _ k_974) d_Md_init_195 ?_
  refine va_last hx hb hK hP hD hS 1 1 rfl rfl (i := 27) (vin (by decide)) d_Md_init_198 (fun H locs hP hD hS => ?_)
  have hP : va_P (dC, dI) vcl [(mo, .inr (12, mdZ)), (q1, .inl ((cT 1), 64, .inr (.inl (vp_updL f28 (27 : Int32).toNatClampNeg 1163531501))))] H := hP
  have hD : va_D A [(mo, .inr (12, mdZ)), (q1, .inl ((cT 1), 64, .inr (.inl (vp_updL f28 (27 : Int32).toNatClampNeg 1163531501))))] := hD
  generalize vp_updL f28 (27 : Int32).toNatClampNeg 1163531501 = f29 at hP hD
  have hP : va_P (dC, dI) vcl [(mo, .inr (12, mdZ)), (q1, .inl ((cT 1), 64, .inr (.inl f29)))] H := hP
  have hD : va_D A [(mo, .inr (12, mdZ)), (q1, .inl ((cT 1), 64, .inr (.inl f29)))] := hD
  refine lv_dup hx hb d_Md_init_199 rfl ?_
  refine lv_bipush (v := 28) hx hb d_Md_init_200 (by decide) ?_
  refine lv_ldc2 (v := 2850285829) hx hb hown (hg _ k_975) d_Md_init_202 ?_
  refine va_last hx hb hK hP hD hS 1 1 rfl rfl (i := 28) (vin (by decide)) d_Md_init_205 (fun H locs hP hD hS => ?_)
  have hP : va_P (dC, dI) vcl [(mo, .inr (12, mdZ)), (q1, .inl ((cT 1), 64, .inr (.inl (vp_updL f29 (28 : Int32).toNatClampNeg 2850285829))))] H := hP
  have hD : va_D A [(mo, .inr (12, mdZ)), (q1, .inl ((cT 1), 64, .inr (.inl (vp_updL f29 (28 : Int32).toNatClampNeg 2850285829))))] := hD
  generalize vp_updL f29 (28 : Int32).toNatClampNeg 2850285829 = f30 at hP hD
  have hP : va_P (dC, dI) vcl [(mo, .inr (12, mdZ)), (q1, .inl ((cT 1), 64, .inr (.inl f30)))] H := hP
  have hD : va_D A [(mo, .inr (12, mdZ)), (q1, .inl ((cT 1), 64, .inr (.inl f30)))] := hD
  refine lv_dup hx hb d_Md_init_206 rfl ?_
  refine lv_bipush (v := 29) hx hb d_Md_init_207 (by decide) ?_
  refine lv_ldc2 (v := 4243563512) hx hb hown (hg _ k_976) d_Md_init_209 ?_
  refine va_last hx hb hK hP hD hS 1 1 rfl rfl (i := 29) (vin (by decide)) d_Md_init_212 (fun H locs hP hD hS => ?_)
  have hP : va_P (dC, dI) vcl [(mo, .inr (12, mdZ)), (q1, .inl ((cT 1), 64, .inr (.inl (vp_updL f30 (29 : Int32).toNatClampNeg 4243563512))))] H := hP
  have hD : va_D A [(mo, .inr (12, mdZ)), (q1, .inl ((cT 1), 64, .inr (.inl (vp_updL f30 (29 : Int32).toNatClampNeg 4243563512))))] := hD
  generalize vp_updL f30 (29 : Int32).toNatClampNeg 4243563512 = f31 at hP hD
  have hP : va_P (dC, dI) vcl [(mo, .inr (12, mdZ)), (q1, .inl ((cT 1), 64, .inr (.inl f31)))] H := hP
  have hD : va_D A [(mo, .inr (12, mdZ)), (q1, .inl ((cT 1), 64, .inr (.inl f31)))] := hD
  refine lv_dup hx hb d_Md_init_213 rfl ?_
  refine lv_bipush (v := 30) hx hb d_Md_init_214 (by decide) ?_
  refine lv_ldc2 (v := 1735328473) hx hb hown (hg _ k_977) d_Md_init_216 ?_
  refine va_last hx hb hK hP hD hS 1 1 rfl rfl (i := 30) (vin (by decide)) d_Md_init_219 (fun H locs hP hD hS => ?_)
  have hP : va_P (dC, dI) vcl [(mo, .inr (12, mdZ)), (q1, .inl ((cT 1), 64, .inr (.inl (vp_updL f31 (30 : Int32).toNatClampNeg 1735328473))))] H := hP
  have hD : va_D A [(mo, .inr (12, mdZ)), (q1, .inl ((cT 1), 64, .inr (.inl (vp_updL f31 (30 : Int32).toNatClampNeg 1735328473))))] := hD
  generalize vp_updL f31 (30 : Int32).toNatClampNeg 1735328473 = f32 at hP hD
  have hP : va_P (dC, dI) vcl [(mo, .inr (12, mdZ)), (q1, .inl ((cT 1), 64, .inr (.inl f32)))] H := hP
  have hD : va_D A [(mo, .inr (12, mdZ)), (q1, .inl ((cT 1), 64, .inr (.inl f32)))] := hD
  refine lv_dup hx hb d_Md_init_220 rfl ?_
  refine lv_bipush (v := 31) hx hb d_Md_init_221 (by decide) ?_
  refine lv_ldc2 (v := 2368359562) hx hb hown (hg _ k_978) d_Md_init_223 ?_
  refine va_last hx hb hK hP hD hS 1 1 rfl rfl (i := 31) (vin (by decide)) d_Md_init_226 (fun H locs hP hD hS => ?_)
  have hP : va_P (dC, dI) vcl [(mo, .inr (12, mdZ)), (q1, .inl ((cT 1), 64, .inr (.inl (vp_updL f32 (31 : Int32).toNatClampNeg 2368359562))))] H := hP
  have hD : va_D A [(mo, .inr (12, mdZ)), (q1, .inl ((cT 1), 64, .inr (.inl (vp_updL f32 (31 : Int32).toNatClampNeg 2368359562))))] := hD
  generalize vp_updL f32 (31 : Int32).toNatClampNeg 2368359562 = f33 at hP hD
  have hP : va_P (dC, dI) vcl [(mo, .inr (12, mdZ)), (q1, .inl ((cT 1), 64, .inr (.inl f33)))] H := hP
  have hD : va_D A [(mo, .inr (12, mdZ)), (q1, .inl ((cT 1), 64, .inr (.inl f33)))] := hD
  refine lv_dup hx hb d_Md_init_227 rfl ?_
  refine lv_bipush (v := 32) hx hb d_Md_init_228 (by decide) ?_
  refine lv_ldc2 (v := 4294588738) hx hb hown (hg _ k_979) d_Md_init_230 ?_
  refine va_last hx hb hK hP hD hS 1 1 rfl rfl (i := 32) (vin (by decide)) d_Md_init_233 (fun H locs hP hD hS => ?_)
  have hP : va_P (dC, dI) vcl [(mo, .inr (12, mdZ)), (q1, .inl ((cT 1), 64, .inr (.inl (vp_updL f33 (32 : Int32).toNatClampNeg 4294588738))))] H := hP
  have hD : va_D A [(mo, .inr (12, mdZ)), (q1, .inl ((cT 1), 64, .inr (.inl (vp_updL f33 (32 : Int32).toNatClampNeg 4294588738))))] := hD
  generalize vp_updL f33 (32 : Int32).toNatClampNeg 4294588738 = f34 at hP hD
  have hP : va_P (dC, dI) vcl [(mo, .inr (12, mdZ)), (q1, .inl ((cT 1), 64, .inr (.inl f34)))] H := hP
  have hD : va_D A [(mo, .inr (12, mdZ)), (q1, .inl ((cT 1), 64, .inr (.inl f34)))] := hD
  refine lv_dup hx hb d_Md_init_234 rfl ?_
  refine lv_bipush (v := 33) hx hb d_Md_init_235 (by decide) ?_
  refine lv_ldc2 (v := 2272392833) hx hb hown (hg _ k_980) d_Md_init_237 ?_
  refine va_last hx hb hK hP hD hS 1 1 rfl rfl (i := 33) (vin (by decide)) d_Md_init_240 (fun H locs hP hD hS => ?_)
  have hP : va_P (dC, dI) vcl [(mo, .inr (12, mdZ)), (q1, .inl ((cT 1), 64, .inr (.inl (vp_updL f34 (33 : Int32).toNatClampNeg 2272392833))))] H := hP
  have hD : va_D A [(mo, .inr (12, mdZ)), (q1, .inl ((cT 1), 64, .inr (.inl (vp_updL f34 (33 : Int32).toNatClampNeg 2272392833))))] := hD
  generalize vp_updL f34 (33 : Int32).toNatClampNeg 2272392833 = f35 at hP hD
  have hP : va_P (dC, dI) vcl [(mo, .inr (12, mdZ)), (q1, .inl ((cT 1), 64, .inr (.inl f35)))] H := hP
  have hD : va_D A [(mo, .inr (12, mdZ)), (q1, .inl ((cT 1), 64, .inr (.inl f35)))] := hD
  refine lv_dup hx hb d_Md_init_241 rfl ?_
  refine lv_bipush (v := 34) hx hb d_Md_init_242 (by decide) ?_
  refine lv_ldc2 (v := 1839030562) hx hb hown (hg _ k_981) d_Md_init_244 ?_
  refine va_last hx hb hK hP hD hS 1 1 rfl rfl (i := 34) (vin (by decide)) d_Md_init_247 (fun H locs hP hD hS => ?_)
  have hP : va_P (dC, dI) vcl [(mo, .inr (12, mdZ)), (q1, .inl ((cT 1), 64, .inr (.inl (vp_updL f35 (34 : Int32).toNatClampNeg 1839030562))))] H := hP
  have hD : va_D A [(mo, .inr (12, mdZ)), (q1, .inl ((cT 1), 64, .inr (.inl (vp_updL f35 (34 : Int32).toNatClampNeg 1839030562))))] := hD
  generalize vp_updL f35 (34 : Int32).toNatClampNeg 1839030562 = f36 at hP hD
  have hP : va_P (dC, dI) vcl [(mo, .inr (12, mdZ)), (q1, .inl ((cT 1), 64, .inr (.inl f36)))] H := hP
  have hD : va_D A [(mo, .inr (12, mdZ)), (q1, .inl ((cT 1), 64, .inr (.inl f36)))] := hD
  refine lv_dup hx hb d_Md_init_248 rfl ?_
  refine lv_bipush (v := 35) hx hb d_Md_init_249 (by decide) ?_
  refine lv_ldc2 (v := 4259657740) hx hb hown (hg _ k_982) d_Md_init_251 ?_
  refine va_last hx hb hK hP hD hS 1 1 rfl rfl (i := 35) (vin (by decide)) d_Md_init_254 (fun H locs hP hD hS => ?_)
  have hP : va_P (dC, dI) vcl [(mo, .inr (12, mdZ)), (q1, .inl ((cT 1), 64, .inr (.inl (vp_updL f36 (35 : Int32).toNatClampNeg 4259657740))))] H := hP
  have hD : va_D A [(mo, .inr (12, mdZ)), (q1, .inl ((cT 1), 64, .inr (.inl (vp_updL f36 (35 : Int32).toNatClampNeg 4259657740))))] := hD
  generalize vp_updL f36 (35 : Int32).toNatClampNeg 4259657740 = f37 at hP hD
  have hP : va_P (dC, dI) vcl [(mo, .inr (12, mdZ)), (q1, .inl ((cT 1), 64, .inr (.inl f37)))] H := hP
  have hD : va_D A [(mo, .inr (12, mdZ)), (q1, .inl ((cT 1), 64, .inr (.inl f37)))] := hD
  refine lv_dup hx hb d_Md_init_255 rfl ?_
  refine lv_bipush (v := 36) hx hb d_Md_init_256 (by decide) ?_
  refine lv_ldc2 (v := 2763975236) hx hb hown (hg _ k_983) d_Md_init_258 ?_
  refine va_last hx hb hK hP hD hS 1 1 rfl rfl (i := 36) (vin (by decide)) d_Md_init_261 (fun H locs hP hD hS => ?_)
  have hP : va_P (dC, dI) vcl [(mo, .inr (12, mdZ)), (q1, .inl ((cT 1), 64, .inr (.inl (vp_updL f37 (36 : Int32).toNatClampNeg 2763975236))))] H := hP
  have hD : va_D A [(mo, .inr (12, mdZ)), (q1, .inl ((cT 1), 64, .inr (.inl (vp_updL f37 (36 : Int32).toNatClampNeg 2763975236))))] := hD
  generalize vp_updL f37 (36 : Int32).toNatClampNeg 2763975236 = f38 at hP hD
  have hP : va_P (dC, dI) vcl [(mo, .inr (12, mdZ)), (q1, .inl ((cT 1), 64, .inr (.inl f38)))] H := hP
  have hD : va_D A [(mo, .inr (12, mdZ)), (q1, .inl ((cT 1), 64, .inr (.inl f38)))] := hD
  refine lv_dup hx hb d_Md_init_262 rfl ?_
  refine lv_bipush (v := 37) hx hb d_Md_init_263 (by decide) ?_
  refine lv_ldc2 (v := 1272893353) hx hb hown (hg _ k_984) d_Md_init_265 ?_
  refine va_last hx hb hK hP hD hS 1 1 rfl rfl (i := 37) (vin (by decide)) d_Md_init_268 (fun H locs hP hD hS => ?_)
  have hP : va_P (dC, dI) vcl [(mo, .inr (12, mdZ)), (q1, .inl ((cT 1), 64, .inr (.inl (vp_updL f38 (37 : Int32).toNatClampNeg 1272893353))))] H := hP
  have hD : va_D A [(mo, .inr (12, mdZ)), (q1, .inl ((cT 1), 64, .inr (.inl (vp_updL f38 (37 : Int32).toNatClampNeg 1272893353))))] := hD
  generalize vp_updL f38 (37 : Int32).toNatClampNeg 1272893353 = f39 at hP hD
  have hP : va_P (dC, dI) vcl [(mo, .inr (12, mdZ)), (q1, .inl ((cT 1), 64, .inr (.inl f39)))] H := hP
  have hD : va_D A [(mo, .inr (12, mdZ)), (q1, .inl ((cT 1), 64, .inr (.inl f39)))] := hD
  refine lv_dup hx hb d_Md_init_269 rfl ?_
  refine lv_bipush (v := 38) hx hb d_Md_init_270 (by decide) ?_
  refine lv_ldc2 (v := 4139469664) hx hb hown (hg _ k_985) d_Md_init_272 ?_
  refine va_last hx hb hK hP hD hS 1 1 rfl rfl (i := 38) (vin (by decide)) d_Md_init_275 (fun H locs hP hD hS => ?_)
  have hP : va_P (dC, dI) vcl [(mo, .inr (12, mdZ)), (q1, .inl ((cT 1), 64, .inr (.inl (vp_updL f39 (38 : Int32).toNatClampNeg 4139469664))))] H := hP
  have hD : va_D A [(mo, .inr (12, mdZ)), (q1, .inl ((cT 1), 64, .inr (.inl (vp_updL f39 (38 : Int32).toNatClampNeg 4139469664))))] := hD
  generalize vp_updL f39 (38 : Int32).toNatClampNeg 4139469664 = f40 at hP hD
  have hP : va_P (dC, dI) vcl [(mo, .inr (12, mdZ)), (q1, .inl ((cT 1), 64, .inr (.inl f40)))] H := hP
  have hD : va_D A [(mo, .inr (12, mdZ)), (q1, .inl ((cT 1), 64, .inr (.inl f40)))] := hD
  refine lv_dup hx hb d_Md_init_276 rfl ?_
  refine lv_bipush (v := 39) hx hb d_Md_init_277 (by decide) ?_
  refine lv_ldc2 (v := 3200236656) hx hb hown (hg _ k_986) d_Md_init_279 ?_
  refine va_last hx hb hK hP hD hS 1 1 rfl rfl (i := 39) (vin (by decide)) d_Md_init_282 (fun H locs hP hD hS => ?_)
  have hP : va_P (dC, dI) vcl [(mo, .inr (12, mdZ)), (q1, .inl ((cT 1), 64, .inr (.inl (vp_updL f40 (39 : Int32).toNatClampNeg 3200236656))))] H := hP
  have hD : va_D A [(mo, .inr (12, mdZ)), (q1, .inl ((cT 1), 64, .inr (.inl (vp_updL f40 (39 : Int32).toNatClampNeg 3200236656))))] := hD
  generalize vp_updL f40 (39 : Int32).toNatClampNeg 3200236656 = f41 at hP hD
  have hP : va_P (dC, dI) vcl [(mo, .inr (12, mdZ)), (q1, .inl ((cT 1), 64, .inr (.inl f41)))] H := hP
  have hD : va_D A [(mo, .inr (12, mdZ)), (q1, .inl ((cT 1), 64, .inr (.inl f41)))] := hD
  refine lv_dup hx hb d_Md_init_283 rfl ?_
  refine lv_bipush (v := 40) hx hb d_Md_init_284 (by decide) ?_
  refine lv_ldc2 (v := 681279174) hx hb hown (hg _ k_987) d_Md_init_286 ?_
  refine va_last hx hb hK hP hD hS 1 1 rfl rfl (i := 40) (vin (by decide)) d_Md_init_289 (fun H locs hP hD hS => ?_)
  have hP : va_P (dC, dI) vcl [(mo, .inr (12, mdZ)), (q1, .inl ((cT 1), 64, .inr (.inl (vp_updL f41 (40 : Int32).toNatClampNeg 681279174))))] H := hP
  have hD : va_D A [(mo, .inr (12, mdZ)), (q1, .inl ((cT 1), 64, .inr (.inl (vp_updL f41 (40 : Int32).toNatClampNeg 681279174))))] := hD
  generalize vp_updL f41 (40 : Int32).toNatClampNeg 681279174 = f42 at hP hD
  have hP : va_P (dC, dI) vcl [(mo, .inr (12, mdZ)), (q1, .inl ((cT 1), 64, .inr (.inl f42)))] H := hP
  have hD : va_D A [(mo, .inr (12, mdZ)), (q1, .inl ((cT 1), 64, .inr (.inl f42)))] := hD
  refine lv_dup hx hb d_Md_init_290 rfl ?_
  refine lv_bipush (v := 41) hx hb d_Md_init_291 (by decide) ?_
  refine lv_ldc2 (v := 3936430074) hx hb hown (hg _ k_988) d_Md_init_293 ?_
  refine va_last hx hb hK hP hD hS 1 1 rfl rfl (i := 41) (vin (by decide)) d_Md_init_296 (fun H locs hP hD hS => ?_)
  have hP : va_P (dC, dI) vcl [(mo, .inr (12, mdZ)), (q1, .inl ((cT 1), 64, .inr (.inl (vp_updL f42 (41 : Int32).toNatClampNeg 3936430074))))] H := hP
  have hD : va_D A [(mo, .inr (12, mdZ)), (q1, .inl ((cT 1), 64, .inr (.inl (vp_updL f42 (41 : Int32).toNatClampNeg 3936430074))))] := hD
  generalize vp_updL f42 (41 : Int32).toNatClampNeg 3936430074 = f43 at hP hD
  have hP : va_P (dC, dI) vcl [(mo, .inr (12, mdZ)), (q1, .inl ((cT 1), 64, .inr (.inl f43)))] H := hP
  have hD : va_D A [(mo, .inr (12, mdZ)), (q1, .inl ((cT 1), 64, .inr (.inl f43)))] := hD
  refine lv_dup hx hb d_Md_init_297 rfl ?_
  refine lv_bipush (v := 42) hx hb d_Md_init_298 (by decide) ?_
  refine lv_ldc2 (v := 3572445317) hx hb hown (hg _ k_989) d_Md_init_300 ?_
  refine va_last hx hb hK hP hD hS 1 1 rfl rfl (i := 42) (vin (by decide)) d_Md_init_303 (fun H locs hP hD hS => ?_)
  have hP : va_P (dC, dI) vcl [(mo, .inr (12, mdZ)), (q1, .inl ((cT 1), 64, .inr (.inl (vp_updL f43 (42 : Int32).toNatClampNeg 3572445317))))] H := hP
  have hD : va_D A [(mo, .inr (12, mdZ)), (q1, .inl ((cT 1), 64, .inr (.inl (vp_updL f43 (42 : Int32).toNatClampNeg 3572445317))))] := hD
  generalize vp_updL f43 (42 : Int32).toNatClampNeg 3572445317 = f44 at hP hD
  have hP : va_P (dC, dI) vcl [(mo, .inr (12, mdZ)), (q1, .inl ((cT 1), 64, .inr (.inl f44)))] H := hP
  have hD : va_D A [(mo, .inr (12, mdZ)), (q1, .inl ((cT 1), 64, .inr (.inl f44)))] := hD
  refine lv_dup hx hb d_Md_init_304 rfl ?_
  refine lv_bipush (v := 43) hx hb d_Md_init_305 (by decide) ?_
  refine lv_ldc2 (v := 76029189) hx hb hown (hg _ k_990) d_Md_init_307 ?_
  refine va_last hx hb hK hP hD hS 1 1 rfl rfl (i := 43) (vin (by decide)) d_Md_init_310 (fun H locs hP hD hS => ?_)
  have hP : va_P (dC, dI) vcl [(mo, .inr (12, mdZ)), (q1, .inl ((cT 1), 64, .inr (.inl (vp_updL f44 (43 : Int32).toNatClampNeg 76029189))))] H := hP
  have hD : va_D A [(mo, .inr (12, mdZ)), (q1, .inl ((cT 1), 64, .inr (.inl (vp_updL f44 (43 : Int32).toNatClampNeg 76029189))))] := hD
  generalize vp_updL f44 (43 : Int32).toNatClampNeg 76029189 = f45 at hP hD
  have hP : va_P (dC, dI) vcl [(mo, .inr (12, mdZ)), (q1, .inl ((cT 1), 64, .inr (.inl f45)))] H := hP
  have hD : va_D A [(mo, .inr (12, mdZ)), (q1, .inl ((cT 1), 64, .inr (.inl f45)))] := hD
  refine lv_dup hx hb d_Md_init_311 rfl ?_
  refine lv_bipush (v := 44) hx hb d_Md_init_312 (by decide) ?_
  refine lv_ldc2 (v := 3654602809) hx hb hown (hg _ k_991) d_Md_init_314 ?_
  refine va_last hx hb hK hP hD hS 1 1 rfl rfl (i := 44) (vin (by decide)) d_Md_init_317 (fun H locs hP hD hS => ?_)
  have hP : va_P (dC, dI) vcl [(mo, .inr (12, mdZ)), (q1, .inl ((cT 1), 64, .inr (.inl (vp_updL f45 (44 : Int32).toNatClampNeg 3654602809))))] H := hP
  have hD : va_D A [(mo, .inr (12, mdZ)), (q1, .inl ((cT 1), 64, .inr (.inl (vp_updL f45 (44 : Int32).toNatClampNeg 3654602809))))] := hD
  generalize vp_updL f45 (44 : Int32).toNatClampNeg 3654602809 = f46 at hP hD
  have hP : va_P (dC, dI) vcl [(mo, .inr (12, mdZ)), (q1, .inl ((cT 1), 64, .inr (.inl f46)))] H := hP
  have hD : va_D A [(mo, .inr (12, mdZ)), (q1, .inl ((cT 1), 64, .inr (.inl f46)))] := hD
  refine lv_dup hx hb d_Md_init_318 rfl ?_
  refine lv_bipush (v := 45) hx hb d_Md_init_319 (by decide) ?_
  refine lv_ldc2 (v := 3873151461) hx hb hown (hg _ k_992) d_Md_init_321 ?_
  refine va_last hx hb hK hP hD hS 1 1 rfl rfl (i := 45) (vin (by decide)) d_Md_init_324 (fun H locs hP hD hS => ?_)
  have hP : va_P (dC, dI) vcl [(mo, .inr (12, mdZ)), (q1, .inl ((cT 1), 64, .inr (.inl (vp_updL f46 (45 : Int32).toNatClampNeg 3873151461))))] H := hP
  have hD : va_D A [(mo, .inr (12, mdZ)), (q1, .inl ((cT 1), 64, .inr (.inl (vp_updL f46 (45 : Int32).toNatClampNeg 3873151461))))] := hD
  generalize vp_updL f46 (45 : Int32).toNatClampNeg 3873151461 = f47 at hP hD
  have hP : va_P (dC, dI) vcl [(mo, .inr (12, mdZ)), (q1, .inl ((cT 1), 64, .inr (.inl f47)))] H := hP
  have hD : va_D A [(mo, .inr (12, mdZ)), (q1, .inl ((cT 1), 64, .inr (.inl f47)))] := hD
  refine lv_dup hx hb d_Md_init_325 rfl ?_
  refine lv_bipush (v := 46) hx hb d_Md_init_326 (by decide) ?_
  refine lv_ldc2 (v := 530742520) hx hb hown (hg _ k_993) d_Md_init_328 ?_
  refine va_last hx hb hK hP hD hS 1 1 rfl rfl (i := 46) (vin (by decide)) d_Md_init_331 (fun H locs hP hD hS => ?_)
  have hP : va_P (dC, dI) vcl [(mo, .inr (12, mdZ)), (q1, .inl ((cT 1), 64, .inr (.inl (vp_updL f47 (46 : Int32).toNatClampNeg 530742520))))] H := hP
  have hD : va_D A [(mo, .inr (12, mdZ)), (q1, .inl ((cT 1), 64, .inr (.inl (vp_updL f47 (46 : Int32).toNatClampNeg 530742520))))] := hD
  generalize vp_updL f47 (46 : Int32).toNatClampNeg 530742520 = f48 at hP hD
  have hP : va_P (dC, dI) vcl [(mo, .inr (12, mdZ)), (q1, .inl ((cT 1), 64, .inr (.inl f48)))] H := hP
  have hD : va_D A [(mo, .inr (12, mdZ)), (q1, .inl ((cT 1), 64, .inr (.inl f48)))] := hD
  refine lv_dup hx hb d_Md_init_332 rfl ?_
  refine lv_bipush (v := 47) hx hb d_Md_init_333 (by decide) ?_
  refine lv_ldc2 (v := 3299628645) hx hb hown (hg _ k_994) d_Md_init_335 ?_
  refine va_last hx hb hK hP hD hS 1 1 rfl rfl (i := 47) (vin (by decide)) d_Md_init_338 (fun H locs hP hD hS => ?_)
  have hP : va_P (dC, dI) vcl [(mo, .inr (12, mdZ)), (q1, .inl ((cT 1), 64, .inr (.inl (vp_updL f48 (47 : Int32).toNatClampNeg 3299628645))))] H := hP
  have hD : va_D A [(mo, .inr (12, mdZ)), (q1, .inl ((cT 1), 64, .inr (.inl (vp_updL f48 (47 : Int32).toNatClampNeg 3299628645))))] := hD
  generalize vp_updL f48 (47 : Int32).toNatClampNeg 3299628645 = f49 at hP hD
  have hP : va_P (dC, dI) vcl [(mo, .inr (12, mdZ)), (q1, .inl ((cT 1), 64, .inr (.inl f49)))] H := hP
  have hD : va_D A [(mo, .inr (12, mdZ)), (q1, .inl ((cT 1), 64, .inr (.inl f49)))] := hD
  refine lv_dup hx hb d_Md_init_339 rfl ?_
  refine lv_bipush (v := 48) hx hb d_Md_init_340 (by decide) ?_
  refine lv_ldc2 (v := 4096336452) hx hb hown (hg _ k_995) d_Md_init_342 ?_
  refine va_last hx hb hK hP hD hS 1 1 rfl rfl (i := 48) (vin (by decide)) d_Md_init_345 (fun H locs hP hD hS => ?_)
  have hP : va_P (dC, dI) vcl [(mo, .inr (12, mdZ)), (q1, .inl ((cT 1), 64, .inr (.inl (vp_updL f49 (48 : Int32).toNatClampNeg 4096336452))))] H := hP
  have hD : va_D A [(mo, .inr (12, mdZ)), (q1, .inl ((cT 1), 64, .inr (.inl (vp_updL f49 (48 : Int32).toNatClampNeg 4096336452))))] := hD
  generalize vp_updL f49 (48 : Int32).toNatClampNeg 4096336452 = f50 at hP hD
  have hP : va_P (dC, dI) vcl [(mo, .inr (12, mdZ)), (q1, .inl ((cT 1), 64, .inr (.inl f50)))] H := hP
  have hD : va_D A [(mo, .inr (12, mdZ)), (q1, .inl ((cT 1), 64, .inr (.inl f50)))] := hD
  refine lv_dup hx hb d_Md_init_346 rfl ?_
  refine lv_bipush (v := 49) hx hb d_Md_init_347 (by decide) ?_
  refine lv_ldc2 (v := 1126891415) hx hb hown (hg _ k_996) d_Md_init_349 ?_
  refine va_last hx hb hK hP hD hS 1 1 rfl rfl (i := 49) (vin (by decide)) d_Md_init_352 (fun H locs hP hD hS => ?_)
  have hP : va_P (dC, dI) vcl [(mo, .inr (12, mdZ)), (q1, .inl ((cT 1), 64, .inr (.inl (vp_updL f50 (49 : Int32).toNatClampNeg 1126891415))))] H := hP
  have hD : va_D A [(mo, .inr (12, mdZ)), (q1, .inl ((cT 1), 64, .inr (.inl (vp_updL f50 (49 : Int32).toNatClampNeg 1126891415))))] := hD
  generalize vp_updL f50 (49 : Int32).toNatClampNeg 1126891415 = f51 at hP hD
  have hP : va_P (dC, dI) vcl [(mo, .inr (12, mdZ)), (q1, .inl ((cT 1), 64, .inr (.inl f51)))] H := hP
  have hD : va_D A [(mo, .inr (12, mdZ)), (q1, .inl ((cT 1), 64, .inr (.inl f51)))] := hD
  refine lv_dup hx hb d_Md_init_353 rfl ?_
  refine lv_bipush (v := 50) hx hb d_Md_init_354 (by decide) ?_
  refine lv_ldc2 (v := 2878612391) hx hb hown (hg _ k_997) d_Md_init_356 ?_
  refine va_last hx hb hK hP hD hS 1 1 rfl rfl (i := 50) (vin (by decide)) d_Md_init_359 (fun H locs hP hD hS => ?_)
  have hP : va_P (dC, dI) vcl [(mo, .inr (12, mdZ)), (q1, .inl ((cT 1), 64, .inr (.inl (vp_updL f51 (50 : Int32).toNatClampNeg 2878612391))))] H := hP
  have hD : va_D A [(mo, .inr (12, mdZ)), (q1, .inl ((cT 1), 64, .inr (.inl (vp_updL f51 (50 : Int32).toNatClampNeg 2878612391))))] := hD
  generalize vp_updL f51 (50 : Int32).toNatClampNeg 2878612391 = f52 at hP hD
  have hP : va_P (dC, dI) vcl [(mo, .inr (12, mdZ)), (q1, .inl ((cT 1), 64, .inr (.inl f52)))] H := hP
  have hD : va_D A [(mo, .inr (12, mdZ)), (q1, .inl ((cT 1), 64, .inr (.inl f52)))] := hD
  refine lv_dup hx hb d_Md_init_360 rfl ?_
  refine lv_bipush (v := 51) hx hb d_Md_init_361 (by decide) ?_
  refine lv_ldc2 (v := 4237533241) hx hb hown (hg _ k_998) d_Md_init_363 ?_
  refine va_last hx hb hK hP hD hS 1 1 rfl rfl (i := 51) (vin (by decide)) d_Md_init_366 (fun H locs hP hD hS => ?_)
  have hP : va_P (dC, dI) vcl [(mo, .inr (12, mdZ)), (q1, .inl ((cT 1), 64, .inr (.inl (vp_updL f52 (51 : Int32).toNatClampNeg 4237533241))))] H := hP
  have hD : va_D A [(mo, .inr (12, mdZ)), (q1, .inl ((cT 1), 64, .inr (.inl (vp_updL f52 (51 : Int32).toNatClampNeg 4237533241))))] := hD
  generalize vp_updL f52 (51 : Int32).toNatClampNeg 4237533241 = f53 at hP hD
  have hP : va_P (dC, dI) vcl [(mo, .inr (12, mdZ)), (q1, .inl ((cT 1), 64, .inr (.inl f53)))] H := hP
  have hD : va_D A [(mo, .inr (12, mdZ)), (q1, .inl ((cT 1), 64, .inr (.inl f53)))] := hD
  refine lv_dup hx hb d_Md_init_367 rfl ?_
  refine lv_bipush (v := 52) hx hb d_Md_init_368 (by decide) ?_
  refine lv_ldc2 (v := 1700485571) hx hb hown (hg _ k_999) d_Md_init_370 ?_
  refine va_last hx hb hK hP hD hS 1 1 rfl rfl (i := 52) (vin (by decide)) d_Md_init_373 (fun H locs hP hD hS => ?_)
  have hP : va_P (dC, dI) vcl [(mo, .inr (12, mdZ)), (q1, .inl ((cT 1), 64, .inr (.inl (vp_updL f53 (52 : Int32).toNatClampNeg 1700485571))))] H := hP
  have hD : va_D A [(mo, .inr (12, mdZ)), (q1, .inl ((cT 1), 64, .inr (.inl (vp_updL f53 (52 : Int32).toNatClampNeg 1700485571))))] := hD
  generalize vp_updL f53 (52 : Int32).toNatClampNeg 1700485571 = f54 at hP hD
  have hP : va_P (dC, dI) vcl [(mo, .inr (12, mdZ)), (q1, .inl ((cT 1), 64, .inr (.inl f54)))] H := hP
  have hD : va_D A [(mo, .inr (12, mdZ)), (q1, .inl ((cT 1), 64, .inr (.inl f54)))] := hD
  refine lv_dup hx hb d_Md_init_374 rfl ?_
  refine lv_bipush (v := 53) hx hb d_Md_init_375 (by decide) ?_
  refine lv_ldc2 (v := 2399980690) hx hb hown (hg _ k_1000) d_Md_init_377 ?_
  refine va_last hx hb hK hP hD hS 1 1 rfl rfl (i := 53) (vin (by decide)) d_Md_init_380 (fun H locs hP hD hS => ?_)
  have hP : va_P (dC, dI) vcl [(mo, .inr (12, mdZ)), (q1, .inl ((cT 1), 64, .inr (.inl (vp_updL f54 (53 : Int32).toNatClampNeg 2399980690))))] H := hP
  have hD : va_D A [(mo, .inr (12, mdZ)), (q1, .inl ((cT 1), 64, .inr (.inl (vp_updL f54 (53 : Int32).toNatClampNeg 2399980690))))] := hD
  generalize vp_updL f54 (53 : Int32).toNatClampNeg 2399980690 = f55 at hP hD
  have hP : va_P (dC, dI) vcl [(mo, .inr (12, mdZ)), (q1, .inl ((cT 1), 64, .inr (.inl f55)))] H := hP
  have hD : va_D A [(mo, .inr (12, mdZ)), (q1, .inl ((cT 1), 64, .inr (.inl f55)))] := hD
  refine lv_dup hx hb d_Md_init_381 rfl ?_
  refine lv_bipush (v := 54) hx hb d_Md_init_382 (by decide) ?_
  refine lv_ldc2 (v := 4293915773) hx hb hown (hg _ k_1001) d_Md_init_384 ?_
  refine va_last hx hb hK hP hD hS 1 1 rfl rfl (i := 54) (vin (by decide)) d_Md_init_387 (fun H locs hP hD hS => ?_)
  have hP : va_P (dC, dI) vcl [(mo, .inr (12, mdZ)), (q1, .inl ((cT 1), 64, .inr (.inl (vp_updL f55 (54 : Int32).toNatClampNeg 4293915773))))] H := hP
  have hD : va_D A [(mo, .inr (12, mdZ)), (q1, .inl ((cT 1), 64, .inr (.inl (vp_updL f55 (54 : Int32).toNatClampNeg 4293915773))))] := hD
  generalize vp_updL f55 (54 : Int32).toNatClampNeg 4293915773 = f56 at hP hD
  have hP : va_P (dC, dI) vcl [(mo, .inr (12, mdZ)), (q1, .inl ((cT 1), 64, .inr (.inl f56)))] H := hP
  have hD : va_D A [(mo, .inr (12, mdZ)), (q1, .inl ((cT 1), 64, .inr (.inl f56)))] := hD
  refine lv_dup hx hb d_Md_init_388 rfl ?_
  refine lv_bipush (v := 55) hx hb d_Md_init_389 (by decide) ?_
  refine lv_ldc2 (v := 2240044497) hx hb hown (hg _ k_1002) d_Md_init_391 ?_
  refine va_last hx hb hK hP hD hS 1 1 rfl rfl (i := 55) (vin (by decide)) d_Md_init_394 (fun H locs hP hD hS => ?_)
  have hP : va_P (dC, dI) vcl [(mo, .inr (12, mdZ)), (q1, .inl ((cT 1), 64, .inr (.inl (vp_updL f56 (55 : Int32).toNatClampNeg 2240044497))))] H := hP
  have hD : va_D A [(mo, .inr (12, mdZ)), (q1, .inl ((cT 1), 64, .inr (.inl (vp_updL f56 (55 : Int32).toNatClampNeg 2240044497))))] := hD
  generalize vp_updL f56 (55 : Int32).toNatClampNeg 2240044497 = f57 at hP hD
  have hP : va_P (dC, dI) vcl [(mo, .inr (12, mdZ)), (q1, .inl ((cT 1), 64, .inr (.inl f57)))] H := hP
  have hD : va_D A [(mo, .inr (12, mdZ)), (q1, .inl ((cT 1), 64, .inr (.inl f57)))] := hD
  refine lv_dup hx hb d_Md_init_395 rfl ?_
  refine lv_bipush (v := 56) hx hb d_Md_init_396 (by decide) ?_
  refine lv_ldc2 (v := 1873313359) hx hb hown (hg _ k_1003) d_Md_init_398 ?_
  refine va_last hx hb hK hP hD hS 1 1 rfl rfl (i := 56) (vin (by decide)) d_Md_init_401 (fun H locs hP hD hS => ?_)
  have hP : va_P (dC, dI) vcl [(mo, .inr (12, mdZ)), (q1, .inl ((cT 1), 64, .inr (.inl (vp_updL f57 (56 : Int32).toNatClampNeg 1873313359))))] H := hP
  have hD : va_D A [(mo, .inr (12, mdZ)), (q1, .inl ((cT 1), 64, .inr (.inl (vp_updL f57 (56 : Int32).toNatClampNeg 1873313359))))] := hD
  generalize vp_updL f57 (56 : Int32).toNatClampNeg 1873313359 = f58 at hP hD
  have hP : va_P (dC, dI) vcl [(mo, .inr (12, mdZ)), (q1, .inl ((cT 1), 64, .inr (.inl f58)))] H := hP
  have hD : va_D A [(mo, .inr (12, mdZ)), (q1, .inl ((cT 1), 64, .inr (.inl f58)))] := hD
  refine lv_dup hx hb d_Md_init_402 rfl ?_
  refine lv_bipush (v := 57) hx hb d_Md_init_403 (by decide) ?_
  refine lv_ldc2 (v := 4264355552) hx hb hown (hg _ k_1004) d_Md_init_405 ?_
  refine va_last hx hb hK hP hD hS 1 1 rfl rfl (i := 57) (vin (by decide)) d_Md_init_408 (fun H locs hP hD hS => ?_)
  have hP : va_P (dC, dI) vcl [(mo, .inr (12, mdZ)), (q1, .inl ((cT 1), 64, .inr (.inl (vp_updL f58 (57 : Int32).toNatClampNeg 4264355552))))] H := hP
  have hD : va_D A [(mo, .inr (12, mdZ)), (q1, .inl ((cT 1), 64, .inr (.inl (vp_updL f58 (57 : Int32).toNatClampNeg 4264355552))))] := hD
  generalize vp_updL f58 (57 : Int32).toNatClampNeg 4264355552 = f59 at hP hD
  have hP : va_P (dC, dI) vcl [(mo, .inr (12, mdZ)), (q1, .inl ((cT 1), 64, .inr (.inl f59)))] H := hP
  have hD : va_D A [(mo, .inr (12, mdZ)), (q1, .inl ((cT 1), 64, .inr (.inl f59)))] := hD
  refine lv_dup hx hb d_Md_init_409 rfl ?_
  refine lv_bipush (v := 58) hx hb d_Md_init_410 (by decide) ?_
  refine lv_ldc2 (v := 2734768916) hx hb hown (hg _ k_1005) d_Md_init_412 ?_
  refine va_last hx hb hK hP hD hS 1 1 rfl rfl (i := 58) (vin (by decide)) d_Md_init_415 (fun H locs hP hD hS => ?_)
  have hP : va_P (dC, dI) vcl [(mo, .inr (12, mdZ)), (q1, .inl ((cT 1), 64, .inr (.inl (vp_updL f59 (58 : Int32).toNatClampNeg 2734768916))))] H := hP
  have hD : va_D A [(mo, .inr (12, mdZ)), (q1, .inl ((cT 1), 64, .inr (.inl (vp_updL f59 (58 : Int32).toNatClampNeg 2734768916))))] := hD
  generalize vp_updL f59 (58 : Int32).toNatClampNeg 2734768916 = f60 at hP hD
  have hP : va_P (dC, dI) vcl [(mo, .inr (12, mdZ)), (q1, .inl ((cT 1), 64, .inr (.inl f60)))] H := hP
  have hD : va_D A [(mo, .inr (12, mdZ)), (q1, .inl ((cT 1), 64, .inr (.inl f60)))] := hD
  refine lv_dup hx hb d_Md_init_416 rfl ?_
  refine lv_bipush (v := 59) hx hb d_Md_init_417 (by decide) ?_
  refine lv_ldc2 (v := 1309151649) hx hb hown (hg _ k_1006) d_Md_init_419 ?_
  refine va_last hx hb hK hP hD hS 1 1 rfl rfl (i := 59) (vin (by decide)) d_Md_init_422 (fun H locs hP hD hS => ?_)
  have hP : va_P (dC, dI) vcl [(mo, .inr (12, mdZ)), (q1, .inl ((cT 1), 64, .inr (.inl (vp_updL f60 (59 : Int32).toNatClampNeg 1309151649))))] H := hP
  have hD : va_D A [(mo, .inr (12, mdZ)), (q1, .inl ((cT 1), 64, .inr (.inl (vp_updL f60 (59 : Int32).toNatClampNeg 1309151649))))] := hD
  generalize vp_updL f60 (59 : Int32).toNatClampNeg 1309151649 = f61 at hP hD
  have hP : va_P (dC, dI) vcl [(mo, .inr (12, mdZ)), (q1, .inl ((cT 1), 64, .inr (.inl f61)))] H := hP
  have hD : va_D A [(mo, .inr (12, mdZ)), (q1, .inl ((cT 1), 64, .inr (.inl f61)))] := hD
  refine lv_dup hx hb d_Md_init_423 rfl ?_
  refine lv_bipush (v := 60) hx hb d_Md_init_424 (by decide) ?_
  refine lv_ldc2 (v := 4149444226) hx hb hown (hg _ k_1007) d_Md_init_426 ?_
  refine va_last hx hb hK hP hD hS 1 1 rfl rfl (i := 60) (vin (by decide)) d_Md_init_429 (fun H locs hP hD hS => ?_)
  have hP : va_P (dC, dI) vcl [(mo, .inr (12, mdZ)), (q1, .inl ((cT 1), 64, .inr (.inl (vp_updL f61 (60 : Int32).toNatClampNeg 4149444226))))] H := hP
  have hD : va_D A [(mo, .inr (12, mdZ)), (q1, .inl ((cT 1), 64, .inr (.inl (vp_updL f61 (60 : Int32).toNatClampNeg 4149444226))))] := hD
  generalize vp_updL f61 (60 : Int32).toNatClampNeg 4149444226 = f62 at hP hD
  have hP : va_P (dC, dI) vcl [(mo, .inr (12, mdZ)), (q1, .inl ((cT 1), 64, .inr (.inl f62)))] H := hP
  have hD : va_D A [(mo, .inr (12, mdZ)), (q1, .inl ((cT 1), 64, .inr (.inl f62)))] := hD
  refine lv_dup hx hb d_Md_init_430 rfl ?_
  refine lv_bipush (v := 61) hx hb d_Md_init_431 (by decide) ?_
  refine lv_ldc2 (v := 3174756917) hx hb hown (hg _ k_1008) d_Md_init_433 ?_
  refine va_last hx hb hK hP hD hS 1 1 rfl rfl (i := 61) (vin (by decide)) d_Md_init_436 (fun H locs hP hD hS => ?_)
  have hP : va_P (dC, dI) vcl [(mo, .inr (12, mdZ)), (q1, .inl ((cT 1), 64, .inr (.inl (vp_updL f62 (61 : Int32).toNatClampNeg 3174756917))))] H := hP
  have hD : va_D A [(mo, .inr (12, mdZ)), (q1, .inl ((cT 1), 64, .inr (.inl (vp_updL f62 (61 : Int32).toNatClampNeg 3174756917))))] := hD
  generalize vp_updL f62 (61 : Int32).toNatClampNeg 3174756917 = f63 at hP hD
  have hP : va_P (dC, dI) vcl [(mo, .inr (12, mdZ)), (q1, .inl ((cT 1), 64, .inr (.inl f63)))] H := hP
  have hD : va_D A [(mo, .inr (12, mdZ)), (q1, .inl ((cT 1), 64, .inr (.inl f63)))] := hD
  refine lv_dup hx hb d_Md_init_437 rfl ?_
  refine lv_bipush (v := 62) hx hb d_Md_init_438 (by decide) ?_
  refine lv_ldc2 (v := 718787259) hx hb hown (hg _ k_1009) d_Md_init_440 ?_
  refine va_last hx hb hK hP hD hS 1 1 rfl rfl (i := 62) (vin (by decide)) d_Md_init_443 (fun H locs hP hD hS => ?_)
  have hP : va_P (dC, dI) vcl [(mo, .inr (12, mdZ)), (q1, .inl ((cT 1), 64, .inr (.inl (vp_updL f63 (62 : Int32).toNatClampNeg 718787259))))] H := hP
  have hD : va_D A [(mo, .inr (12, mdZ)), (q1, .inl ((cT 1), 64, .inr (.inl (vp_updL f63 (62 : Int32).toNatClampNeg 718787259))))] := hD
  generalize vp_updL f63 (62 : Int32).toNatClampNeg 718787259 = f64 at hP hD
  have hP : va_P (dC, dI) vcl [(mo, .inr (12, mdZ)), (q1, .inl ((cT 1), 64, .inr (.inl f64)))] H := hP
  have hD : va_D A [(mo, .inr (12, mdZ)), (q1, .inl ((cT 1), 64, .inr (.inl f64)))] := hD
  refine lv_dup hx hb d_Md_init_444 rfl ?_
  refine lv_bipush (v := 63) hx hb d_Md_init_445 (by decide) ?_
  refine lv_ldc2 (v := 3951481745) hx hb hown (hg _ k_1010) d_Md_init_447 ?_
  refine va_last hx hb hK hP hD hS 1 1 rfl rfl (i := 63) (vin (by decide)) d_Md_init_450 (fun H locs hP hD hS => ?_)
  have hP : va_P (dC, dI) vcl [(mo, .inr (12, mdZ)), (q1, .inl ((cT 1), 64, .inr (.inl (vp_updL f64 (63 : Int32).toNatClampNeg 3951481745))))] H := hP
  have hD : va_D A [(mo, .inr (12, mdZ)), (q1, .inl ((cT 1), 64, .inr (.inl (vp_updL f64 (63 : Int32).toNatClampNeg 3951481745))))] := hD
  generalize vp_updL f64 (63 : Int32).toNatClampNeg 3951481745 = f65 at hP hD
  have hP : va_P (dC, dI) vcl [(mo, .inr (12, mdZ)), (q1, .inl ((cT 1), 64, .inr (.inl f65)))] H := hP
  have hD : va_D A [(mo, .inr (12, mdZ)), (q1, .inl ((cT 1), 64, .inr (.inl f65)))] := hD
  have hP : va_P (dC, dI) vcl [(mo, .inr (12, [.null, .int 0, .int 0, .null, .null, .null, .null, .null, .int 0, .null, .int 0, .null, .null, .null, .int 0, .null, .int 0, .int 0, .null, .null, .null, .null, .null, .null, .int 0, .null, .null, .null, .null, .null, .null, .long 0, .long 0, .int 0, .null, .null, .null, .null, .null, .null, .null, .null, .null, .int 0, .int 0])), (q1, .inl ((cT 1), 64, .inr (.inl f65)))] H := hP
  have hD : va_D A [(mo, .inr (12, [.null, .int 0, .int 0, .null, .null, .null, .null, .null, .int 0, .null, .int 0, .null, .null, .null, .int 0, .null, .int 0, .int 0, .null, .null, .null, .null, .null, .null, .int 0, .null, .null, .null, .null, .null, .null, .long 0, .long 0, .int 0, .null, .null, .null, .null, .null, .null, .null, .null, .null, .int 0, .int 0])), (q1, .inl ((cT 1), 64, .inr (.inl f65)))] := hD
  refine va_putF (D := (dC, dI)) (ci := 12) (v := (.ref q1)) (ty := (.array .long)) (C := R_Md) (T := F_Md) (N := 45) hx hb hg in_Md t_Md tok_Md nm_Md hown hK hP hD hS 0 rfl rfl 0 (by decide) (hg _ k_1020) (fun _ h9 => h9) rfl hin rfl (by decide +kernel) rfl rfl (Nat.le_of_ble_eq_true rfl) d_Md_init_451 (fun H locs hP hD hS => ?_)
  have hP : va_P (dC, dI) vcl [(mo, .inr (12, [.ref q1, .int 0, .int 0, .null, .null, .null, .null, .null, .int 0, .null, .int 0, .null, .null, .null, .int 0, .null, .int 0, .int 0, .null, .null, .null, .null, .null, .null, .int 0, .null, .null, .null, .null, .null, .null, .long 0, .long 0, .int 0, .null, .null, .null, .null, .null, .null, .null, .null, .null, .int 0, .int 0])), (q1, .inl ((cT 1), 64, .inr (.inl f65)))] H := hP
  have hD : va_D A [(mo, .inr (12, [.ref q1, .int 0, .int 0, .null, .null, .null, .null, .null, .int 0, .null, .int 0, .null, .null, .null, .int 0, .null, .int 0, .int 0, .null, .null, .null, .null, .null, .null, .int 0, .null, .null, .null, .null, .null, .null, .long 0, .long 0, .int 0, .null, .null, .null, .null, .null, .null, .null, .null, .null, .int 0, .int 0])), (q1, .inl ((cT 1), 64, .inr (.inl f65)))] := hD
  refine lv_aload_n hx hb d_Md_init_454 rfl (lv_at hl 0 rfl) ?_
  refine lv_sipush (v := 160) hx hb d_Md_init_455 (by decide) ?_
  refine va_newa (atype := .int) (ty := .int) (n := 160) (N' := 160) (a0 := (160, .inl (fun _ => 0))) hx hb (hg _ k_67) rfl hK hP hD hS hA (fun _ => rfl) (by decide) (by decide) (by decide) (Nat.le_of_ble_eq_true rfl) (Nat.le_of_ble_eq_true rfl) d_Md_init_458 (fun q66 cA9 H hK9 hP hD hS => ?_)
  obtain rfl := nk_int hK9
  clear hK9
  have hP : va_P (dC, dI) vcl [(mo, .inr (12, [.ref q1, .int 0, .int 0, .null, .null, .null, .null, .null, .int 0, .null, .int 0, .null, .null, .null, .int 0, .null, .int 0, .int 0, .null, .null, .null, .null, .null, .null, .int 0, .null, .null, .null, .null, .null, .null, .long 0, .long 0, .int 0, .null, .null, .null, .null, .null, .null, .null, .null, .null, .int 0, .int 0])), (q1, .inl ((cT 1), 64, .inr (.inl f65))), (q66, .inl ((cT 0), 160, .inl (fun _ => 0)))] H := hP
  have hD : va_D A [(mo, .inr (12, [.ref q1, .int 0, .int 0, .null, .null, .null, .null, .null, .int 0, .null, .int 0, .null, .null, .null, .int 0, .null, .int 0, .int 0, .null, .null, .null, .null, .null, .null, .int 0, .null, .null, .null, .null, .null, .null, .long 0, .long 0, .int 0, .null, .null, .null, .null, .null, .null, .null, .null, .null, .int 0, .int 0])), (q1, .inl ((cT 1), 64, .inr (.inl f65))), (q66, .inl ((cT 0), 160, .inl (fun _ => 0)))] := hD
  refine va_putF (D := (dC, dI)) (ci := 12) (v := (.ref q66)) (ty := (.array .int)) (C := R_Md) (T := F_Md) (N := 45) hx hb hg in_Md t_Md tok_Md nm_Md hown hK hP hD hS 0 rfl rfl 3 (by decide) (hg _ k_1023) (fun _ h9 => h9) rfl hin rfl (by decide +kernel) rfl rfl (Nat.le_of_ble_eq_true rfl) d_Md_init_460 (fun H locs hP hD hS => ?_)
  have hP : va_P (dC, dI) vcl [(mo, .inr (12, [.ref q1, .int 0, .int 0, .ref q66, .null, .null, .null, .null, .int 0, .null, .int 0, .null, .null, .null, .int 0, .null, .int 0, .int 0, .null, .null, .null, .null, .null, .null, .int 0, .null, .null, .null, .null, .null, .null, .long 0, .long 0, .int 0, .null, .null, .null, .null, .null, .null, .null, .null, .null, .int 0, .int 0])), (q1, .inl ((cT 1), 64, .inr (.inl f65))), (q66, .inl ((cT 0), 160, .inl (fun _ => 0)))] H := hP
  have hD : va_D A [(mo, .inr (12, [.ref q1, .int 0, .int 0, .ref q66, .null, .null, .null, .null, .int 0, .null, .int 0, .null, .null, .null, .int 0, .null, .int 0, .int 0, .null, .null, .null, .null, .null, .null, .int 0, .null, .null, .null, .null, .null, .null, .long 0, .long 0, .int 0, .null, .null, .null, .null, .null, .null, .null, .null, .null, .int 0, .int 0])), (q1, .inl ((cT 1), 64, .inr (.inl f65))), (q66, .inl ((cT 0), 160, .inl (fun _ => 0)))] := hD
  refine lv_aload_n hx hb d_Md_init_463 rfl (lv_at hl 0 rfl) ?_
  refine lv_iconst (v := 4) hx hb d_Md_init_464 (by decide) ?_
  refine va_newa (atype := .int) (ty := .int) (n := 4) (N' := 4) (a0 := (4, .inl (fun _ => 0))) hx hb (hg _ k_67) rfl hK hP hD hS hA (fun _ => rfl) (by decide) (by decide) (by decide) (Nat.le_of_ble_eq_true rfl) (Nat.le_of_ble_eq_true rfl) d_Md_init_465 (fun q67 cA9 H hK9 hP hD hS => ?_)
  obtain rfl := nk_int hK9
  clear hK9
  have hP : va_P (dC, dI) vcl [(mo, .inr (12, [.ref q1, .int 0, .int 0, .ref q66, .null, .null, .null, .null, .int 0, .null, .int 0, .null, .null, .null, .int 0, .null, .int 0, .int 0, .null, .null, .null, .null, .null, .null, .int 0, .null, .null, .null, .null, .null, .null, .long 0, .long 0, .int 0, .null, .null, .null, .null, .null, .null, .null, .null, .null, .int 0, .int 0])), (q1, .inl ((cT 1), 64, .inr (.inl f65))), (q66, .inl ((cT 0), 160, .inl (fun _ => 0))), (q67, .inl ((cT 0), 4, .inl (fun _ => 0)))] H := hP
  have hD : va_D A [(mo, .inr (12, [.ref q1, .int 0, .int 0, .ref q66, .null, .null, .null, .null, .int 0, .null, .int 0, .null, .null, .null, .int 0, .null, .int 0, .int 0, .null, .null, .null, .null, .null, .null, .int 0, .null, .null, .null, .null, .null, .null, .long 0, .long 0, .int 0, .null, .null, .null, .null, .null, .null, .null, .null, .null, .int 0, .int 0])), (q1, .inl ((cT 1), 64, .inr (.inl f65))), (q66, .inl ((cT 0), 160, .inl (fun _ => 0))), (q67, .inl ((cT 0), 4, .inl (fun _ => 0)))] := hD
  refine va_putF (D := (dC, dI)) (ci := 12) (v := (.ref q67)) (ty := (.array .int)) (C := R_Md) (T := F_Md) (N := 45) hx hb hg in_Md t_Md tok_Md nm_Md hown hK hP hD hS 0 rfl rfl 4 (by decide) (hg _ k_1024) (fun _ h9 => h9) rfl hin rfl (by decide +kernel) rfl rfl (Nat.le_of_ble_eq_true rfl) d_Md_init_467 (fun H locs hP hD hS => ?_)
  have hP : va_P (dC, dI) vcl [(mo, .inr (12, [.ref q1, .int 0, .int 0, .ref q66, .ref q67, .null, .null, .null, .int 0, .null, .int 0, .null, .null, .null, .int 0, .null, .int 0, .int 0, .null, .null, .null, .null, .null, .null, .int 0, .null, .null, .null, .null, .null, .null, .long 0, .long 0, .int 0, .null, .null, .null, .null, .null, .null, .null, .null, .null, .int 0, .int 0])), (q1, .inl ((cT 1), 64, .inr (.inl f65))), (q66, .inl ((cT 0), 160, .inl (fun _ => 0))), (q67, .inl ((cT 0), 4, .inl (fun _ => 0)))] H := hP
  have hD : va_D A [(mo, .inr (12, [.ref q1, .int 0, .int 0, .ref q66, .ref q67, .null, .null, .null, .int 0, .null, .int 0, .null, .null, .null, .int 0, .null, .int 0, .int 0, .null, .null, .null, .null, .null, .null, .int 0, .null, .null, .null, .null, .null, .null, .long 0, .long 0, .int 0, .null, .null, .null, .null, .null, .null, .null, .null, .null, .int 0, .int 0])), (q1, .inl ((cT 1), 64, .inr (.inl f65))), (q66, .inl ((cT 0), 160, .inl (fun _ => 0))), (q67, .inl ((cT 0), 4, .inl (fun _ => 0)))] := hD
  refine lv_aload_n hx hb d_Md_init_470 rfl (lv_at hl 0 rfl) ?_
  refine lv_sipush (v := 1920) hx hb d_Md_init_471 (by decide) ?_
  refine va_newa (atype := .int) (ty := .int) (n := 1920) (N' := 1920) (a0 := (1920, .inl (fun _ => 0))) hx hb (hg _ k_67) rfl hK hP hD hS hA (fun _ => rfl) (by decide) (by decide) (by decide) (Nat.le_of_ble_eq_true rfl) (Nat.le_of_ble_eq_true rfl) d_Md_init_474 (fun q68 cA9 H hK9 hP hD hS => ?_)
  obtain rfl := nk_int hK9
  clear hK9
  have hP : va_P (dC, dI) vcl [(mo, .inr (12, [.ref q1, .int 0, .int 0, .ref q66, .ref q67, .null, .null, .null, .int 0, .null, .int 0, .null, .null, .null, .int 0, .null, .int 0, .int 0, .null, .null, .null, .null, .null, .null, .int 0, .null, .null, .null, .null, .null, .null, .long 0, .long 0, .int 0, .null, .null, .null, .null, .null, .null, .null, .null, .null, .int 0, .int 0])), (q1, .inl ((cT 1), 64, .inr (.inl f65))), (q66, .inl ((cT 0), 160, .inl (fun _ => 0))), (q67, .inl ((cT 0), 4, .inl (fun _ => 0))), (q68, .inl ((cT 0), 1920, .inl (fun _ => 0)))] H := hP
  have hD : va_D A [(mo, .inr (12, [.ref q1, .int 0, .int 0, .ref q66, .ref q67, .null, .null, .null, .int 0, .null, .int 0, .null, .null, .null, .int 0, .null, .int 0, .int 0, .null, .null, .null, .null, .null, .null, .int 0, .null, .null, .null, .null, .null, .null, .long 0, .long 0, .int 0, .null, .null, .null, .null, .null, .null, .null, .null, .null, .int 0, .int 0])), (q1, .inl ((cT 1), 64, .inr (.inl f65))), (q66, .inl ((cT 0), 160, .inl (fun _ => 0))), (q67, .inl ((cT 0), 4, .inl (fun _ => 0))), (q68, .inl ((cT 0), 1920, .inl (fun _ => 0)))] := hD
  refine va_putF (D := (dC, dI)) (ci := 12) (v := (.ref q68)) (ty := (.array .int)) (C := R_Md) (T := F_Md) (N := 45) hx hb hg in_Md t_Md tok_Md nm_Md hown hK hP hD hS 0 rfl rfl 5 (by decide) (hg _ k_1025) (fun _ h9 => h9) rfl hin rfl (by decide +kernel) rfl rfl (Nat.le_of_ble_eq_true rfl) d_Md_init_476 (fun H locs hP hD hS => ?_)
  have hP : va_P (dC, dI) vcl [(mo, .inr (12, [.ref q1, .int 0, .int 0, .ref q66, .ref q67, .ref q68, .null, .null, .int 0, .null, .int 0, .null, .null, .null, .int 0, .null, .int 0, .int 0, .null, .null, .null, .null, .null, .null, .int 0, .null, .null, .null, .null, .null, .null, .long 0, .long 0, .int 0, .null, .null, .null, .null, .null, .null, .null, .null, .null, .int 0, .int 0])), (q1, .inl ((cT 1), 64, .inr (.inl f65))), (q66, .inl ((cT 0), 160, .inl (fun _ => 0))), (q67, .inl ((cT 0), 4, .inl (fun _ => 0))), (q68, .inl ((cT 0), 1920, .inl (fun _ => 0)))] H := hP
  have hD : va_D A [(mo, .inr (12, [.ref q1, .int 0, .int 0, .ref q66, .ref q67, .ref q68, .null, .null, .int 0, .null, .int 0, .null, .null, .null, .int 0, .null, .int 0, .int 0, .null, .null, .null, .null, .null, .null, .int 0, .null, .null, .null, .null, .null, .null, .long 0, .long 0, .int 0, .null, .null, .null, .null, .null, .null, .null, .null, .null, .int 0, .int 0])), (q1, .inl ((cT 1), 64, .inr (.inl f65))), (q66, .inl ((cT 0), 160, .inl (fun _ => 0))), (q67, .inl ((cT 0), 4, .inl (fun _ => 0))), (q68, .inl ((cT 0), 1920, .inl (fun _ => 0)))] := hD
  refine lv_aload_n hx hb d_Md_init_479 rfl (lv_at hl 0 rfl) ?_
  refine lv_bipush (v := 32) hx hb d_Md_init_480 (by decide) ?_
  refine va_newa (atype := .int) (ty := .int) (n := 32) (N' := 32) (a0 := (32, .inl (fun _ => 0))) hx hb (hg _ k_67) rfl hK hP hD hS hA (fun _ => rfl) (by decide) (by decide) (by decide) (Nat.le_of_ble_eq_true rfl) (Nat.le_of_ble_eq_true rfl) d_Md_init_482 (fun q69 cA9 H hK9 hP hD hS => ?_)
  obtain rfl := nk_int hK9
  clear hK9
  have hP : va_P (dC, dI) vcl [(mo, .inr (12, [.ref q1, .int 0, .int 0, .ref q66, .ref q67, .ref q68, .null, .null, .int 0, .null, .int 0, .null, .null, .null, .int 0, .null, .int 0, .int 0, .null, .null, .null, .null, .null, .null, .int 0, .null, .null, .null, .null, .null, .null, .long 0, .long 0, .int 0, .null, .null, .null, .null, .null, .null, .null, .null, .null, .int 0, .int 0])), (q1, .inl ((cT 1), 64, .inr (.inl f65))), (q66, .inl ((cT 0), 160, .inl (fun _ => 0))), (q67, .inl ((cT 0), 4, .inl (fun _ => 0))), (q68, .inl ((cT 0), 1920, .inl (fun _ => 0))), (q69, .inl ((cT 0), 32, .inl (fun _ => 0)))] H := hP
  have hD : va_D A [(mo, .inr (12, [.ref q1, .int 0, .int 0, .ref q66, .ref q67, .ref q68, .null, .null, .int 0, .null, .int 0, .null, .null, .null, .int 0, .null, .int 0, .int 0, .null, .null, .null, .null, .null, .null, .int 0, .null, .null, .null, .null, .null, .null, .long 0, .long 0, .int 0, .null, .null, .null, .null, .null, .null, .null, .null, .null, .int 0, .int 0])), (q1, .inl ((cT 1), 64, .inr (.inl f65))), (q66, .inl ((cT 0), 160, .inl (fun _ => 0))), (q67, .inl ((cT 0), 4, .inl (fun _ => 0))), (q68, .inl ((cT 0), 1920, .inl (fun _ => 0))), (q69, .inl ((cT 0), 32, .inl (fun _ => 0)))] := hD
  refine va_putF (D := (dC, dI)) (ci := 12) (v := (.ref q69)) (ty := (.array .int)) (C := R_Md) (T := F_Md) (N := 45) hx hb hg in_Md t_Md tok_Md nm_Md hown hK hP hD hS 0 rfl rfl 6 (by decide) (hg _ k_1026) (fun _ h9 => h9) rfl hin rfl (by decide +kernel) rfl rfl (Nat.le_of_ble_eq_true rfl) d_Md_init_484 (fun H locs hP hD hS => ?_)
  have hP : va_P (dC, dI) vcl [(mo, .inr (12, [.ref q1, .int 0, .int 0, .ref q66, .ref q67, .ref q68, .ref q69, .null, .int 0, .null, .int 0, .null, .null, .null, .int 0, .null, .int 0, .int 0, .null, .null, .null, .null, .null, .null, .int 0, .null, .null, .null, .null, .null, .null, .long 0, .long 0, .int 0, .null, .null, .null, .null, .null, .null, .null, .null, .null, .int 0, .int 0])), (q1, .inl ((cT 1), 64, .inr (.inl f65))), (q66, .inl ((cT 0), 160, .inl (fun _ => 0))), (q67, .inl ((cT 0), 4, .inl (fun _ => 0))), (q68, .inl ((cT 0), 1920, .inl (fun _ => 0))), (q69, .inl ((cT 0), 32, .inl (fun _ => 0)))] H := hP
  have hD : va_D A [(mo, .inr (12, [.ref q1, .int 0, .int 0, .ref q66, .ref q67, .ref q68, .ref q69, .null, .int 0, .null, .int 0, .null, .null, .null, .int 0, .null, .int 0, .int 0, .null, .null, .null, .null, .null, .null, .int 0, .null, .null, .null, .null, .null, .null, .long 0, .long 0, .int 0, .null, .null, .null, .null, .null, .null, .null, .null, .null, .int 0, .int 0])), (q1, .inl ((cT 1), 64, .inr (.inl f65))), (q66, .inl ((cT 0), 160, .inl (fun _ => 0))), (q67, .inl ((cT 0), 4, .inl (fun _ => 0))), (q68, .inl ((cT 0), 1920, .inl (fun _ => 0))), (q69, .inl ((cT 0), 32, .inl (fun _ => 0)))] := hD
  refine lv_aload_n hx hb d_Md_init_487 rfl (lv_at hl 0 rfl) ?_
  refine lv_sipush (v := 1000) hx hb d_Md_init_488 (by decide) ?_
  refine va_newa (atype := .int) (ty := .int) (n := 1000) (N' := 1000) (a0 := (1000, .inl (fun _ => 0))) hx hb (hg _ k_67) rfl hK hP hD hS hA (fun _ => rfl) (by decide) (by decide) (by decide) (Nat.le_of_ble_eq_true rfl) (Nat.le_of_ble_eq_true rfl) d_Md_init_491 (fun q70 cA9 H hK9 hP hD hS => ?_)
  obtain rfl := nk_int hK9
  clear hK9
  have hP : va_P (dC, dI) vcl [(mo, .inr (12, [.ref q1, .int 0, .int 0, .ref q66, .ref q67, .ref q68, .ref q69, .null, .int 0, .null, .int 0, .null, .null, .null, .int 0, .null, .int 0, .int 0, .null, .null, .null, .null, .null, .null, .int 0, .null, .null, .null, .null, .null, .null, .long 0, .long 0, .int 0, .null, .null, .null, .null, .null, .null, .null, .null, .null, .int 0, .int 0])), (q1, .inl ((cT 1), 64, .inr (.inl f65))), (q66, .inl ((cT 0), 160, .inl (fun _ => 0))), (q67, .inl ((cT 0), 4, .inl (fun _ => 0))), (q68, .inl ((cT 0), 1920, .inl (fun _ => 0))), (q69, .inl ((cT 0), 32, .inl (fun _ => 0))), (q70, .inl ((cT 0), 1000, .inl (fun _ => 0)))] H := hP
  have hD : va_D A [(mo, .inr (12, [.ref q1, .int 0, .int 0, .ref q66, .ref q67, .ref q68, .ref q69, .null, .int 0, .null, .int 0, .null, .null, .null, .int 0, .null, .int 0, .int 0, .null, .null, .null, .null, .null, .null, .int 0, .null, .null, .null, .null, .null, .null, .long 0, .long 0, .int 0, .null, .null, .null, .null, .null, .null, .null, .null, .null, .int 0, .int 0])), (q1, .inl ((cT 1), 64, .inr (.inl f65))), (q66, .inl ((cT 0), 160, .inl (fun _ => 0))), (q67, .inl ((cT 0), 4, .inl (fun _ => 0))), (q68, .inl ((cT 0), 1920, .inl (fun _ => 0))), (q69, .inl ((cT 0), 32, .inl (fun _ => 0))), (q70, .inl ((cT 0), 1000, .inl (fun _ => 0)))] := hD
  refine va_putF (D := (dC, dI)) (ci := 12) (v := (.ref q70)) (ty := (.array .int)) (C := R_Md) (T := F_Md) (N := 45) hx hb hg in_Md t_Md tok_Md nm_Md hown hK hP hD hS 0 rfl rfl 7 (by decide) (hg _ k_1027) (fun _ h9 => h9) rfl hin rfl (by decide +kernel) rfl rfl (Nat.le_of_ble_eq_true rfl) d_Md_init_493 (fun H locs hP hD hS => ?_)
  have hP : va_P (dC, dI) vcl [(mo, .inr (12, [.ref q1, .int 0, .int 0, .ref q66, .ref q67, .ref q68, .ref q69, .ref q70, .int 0, .null, .int 0, .null, .null, .null, .int 0, .null, .int 0, .int 0, .null, .null, .null, .null, .null, .null, .int 0, .null, .null, .null, .null, .null, .null, .long 0, .long 0, .int 0, .null, .null, .null, .null, .null, .null, .null, .null, .null, .int 0, .int 0])), (q1, .inl ((cT 1), 64, .inr (.inl f65))), (q66, .inl ((cT 0), 160, .inl (fun _ => 0))), (q67, .inl ((cT 0), 4, .inl (fun _ => 0))), (q68, .inl ((cT 0), 1920, .inl (fun _ => 0))), (q69, .inl ((cT 0), 32, .inl (fun _ => 0))), (q70, .inl ((cT 0), 1000, .inl (fun _ => 0)))] H := hP
  have hD : va_D A [(mo, .inr (12, [.ref q1, .int 0, .int 0, .ref q66, .ref q67, .ref q68, .ref q69, .ref q70, .int 0, .null, .int 0, .null, .null, .null, .int 0, .null, .int 0, .int 0, .null, .null, .null, .null, .null, .null, .int 0, .null, .null, .null, .null, .null, .null, .long 0, .long 0, .int 0, .null, .null, .null, .null, .null, .null, .null, .null, .null, .int 0, .int 0])), (q1, .inl ((cT 1), 64, .inr (.inl f65))), (q66, .inl ((cT 0), 160, .inl (fun _ => 0))), (q67, .inl ((cT 0), 4, .inl (fun _ => 0))), (q68, .inl ((cT 0), 1920, .inl (fun _ => 0))), (q69, .inl ((cT 0), 32, .inl (fun _ => 0))), (q70, .inl ((cT 0), 1000, .inl (fun _ => 0)))] := hD
  refine lv_aload_n hx hb d_Md_init_496 rfl (lv_at hl 0 rfl) ?_
  refine lv_sipush (v := 1400) hx hb d_Md_init_497 (by decide) ?_
  refine va_newa (atype := .int) (ty := .int) (n := 1400) (N' := 1400) (a0 := (1400, .inl (fun _ => 0))) hx hb (hg _ k_67) rfl hK hP hD hS hA (fun _ => rfl) (by decide) (by decide) (by decide) (Nat.le_of_ble_eq_true rfl) (Nat.le_of_ble_eq_true rfl) d_Md_init_500 (fun q71 cA9 H hK9 hP hD hS => ?_)
  obtain rfl := nk_int hK9
  clear hK9
  have hP : va_P (dC, dI) vcl [(mo, .inr (12, [.ref q1, .int 0, .int 0, .ref q66, .ref q67, .ref q68, .ref q69, .ref q70, .int 0, .null, .int 0, .null, .null, .null, .int 0, .null, .int 0, .int 0, .null, .null, .null, .null, .null, .null, .int 0, .null, .null, .null, .null, .null, .null, .long 0, .long 0, .int 0, .null, .null, .null, .null, .null, .null, .null, .null, .null, .int 0, .int 0])), (q1, .inl ((cT 1), 64, .inr (.inl f65))), (q66, .inl ((cT 0), 160, .inl (fun _ => 0))), (q67, .inl ((cT 0), 4, .inl (fun _ => 0))), (q68, .inl ((cT 0), 1920, .inl (fun _ => 0))), (q69, .inl ((cT 0), 32, .inl (fun _ => 0))), (q70, .inl ((cT 0), 1000, .inl (fun _ => 0))), (q71, .inl ((cT 0), 1400, .inl (fun _ => 0)))] H := hP
  have hD : va_D A [(mo, .inr (12, [.ref q1, .int 0, .int 0, .ref q66, .ref q67, .ref q68, .ref q69, .ref q70, .int 0, .null, .int 0, .null, .null, .null, .int 0, .null, .int 0, .int 0, .null, .null, .null, .null, .null, .null, .int 0, .null, .null, .null, .null, .null, .null, .long 0, .long 0, .int 0, .null, .null, .null, .null, .null, .null, .null, .null, .null, .int 0, .int 0])), (q1, .inl ((cT 1), 64, .inr (.inl f65))), (q66, .inl ((cT 0), 160, .inl (fun _ => 0))), (q67, .inl ((cT 0), 4, .inl (fun _ => 0))), (q68, .inl ((cT 0), 1920, .inl (fun _ => 0))), (q69, .inl ((cT 0), 32, .inl (fun _ => 0))), (q70, .inl ((cT 0), 1000, .inl (fun _ => 0))), (q71, .inl ((cT 0), 1400, .inl (fun _ => 0)))] := hD
  refine va_putF (D := (dC, dI)) (ci := 12) (v := (.ref q71)) (ty := (.array .int)) (C := R_Md) (T := F_Md) (N := 45) hx hb hg in_Md t_Md tok_Md nm_Md hown hK hP hD hS 0 rfl rfl 9 (by decide) (hg _ k_1029) (fun _ h9 => h9) rfl hin rfl (by decide +kernel) rfl rfl (Nat.le_of_ble_eq_true rfl) d_Md_init_502 (fun H locs hP hD hS => ?_)
  have hP : va_P (dC, dI) vcl [(mo, .inr (12, [.ref q1, .int 0, .int 0, .ref q66, .ref q67, .ref q68, .ref q69, .ref q70, .int 0, .ref q71, .int 0, .null, .null, .null, .int 0, .null, .int 0, .int 0, .null, .null, .null, .null, .null, .null, .int 0, .null, .null, .null, .null, .null, .null, .long 0, .long 0, .int 0, .null, .null, .null, .null, .null, .null, .null, .null, .null, .int 0, .int 0])), (q1, .inl ((cT 1), 64, .inr (.inl f65))), (q66, .inl ((cT 0), 160, .inl (fun _ => 0))), (q67, .inl ((cT 0), 4, .inl (fun _ => 0))), (q68, .inl ((cT 0), 1920, .inl (fun _ => 0))), (q69, .inl ((cT 0), 32, .inl (fun _ => 0))), (q70, .inl ((cT 0), 1000, .inl (fun _ => 0))), (q71, .inl ((cT 0), 1400, .inl (fun _ => 0)))] H := hP
  have hD : va_D A [(mo, .inr (12, [.ref q1, .int 0, .int 0, .ref q66, .ref q67, .ref q68, .ref q69, .ref q70, .int 0, .ref q71, .int 0, .null, .null, .null, .int 0, .null, .int 0, .int 0, .null, .null, .null, .null, .null, .null, .int 0, .null, .null, .null, .null, .null, .null, .long 0, .long 0, .int 0, .null, .null, .null, .null, .null, .null, .null, .null, .null, .int 0, .int 0])), (q1, .inl ((cT 1), 64, .inr (.inl f65))), (q66, .inl ((cT 0), 160, .inl (fun _ => 0))), (q67, .inl ((cT 0), 4, .inl (fun _ => 0))), (q68, .inl ((cT 0), 1920, .inl (fun _ => 0))), (q69, .inl ((cT 0), 32, .inl (fun _ => 0))), (q70, .inl ((cT 0), 1000, .inl (fun _ => 0))), (q71, .inl ((cT 0), 1400, .inl (fun _ => 0)))] := hD
  refine lv_aload_n hx hb d_Md_init_505 rfl (lv_at hl 0 rfl) ?_
  refine lv_bipush (v := 16) hx hb d_Md_init_506 (by decide) ?_
  refine va_newa (atype := .int) (ty := .int) (n := 16) (N' := 16) (a0 := (16, .inl (fun _ => 0))) hx hb (hg _ k_67) rfl hK hP hD hS hA (fun _ => rfl) (by decide) (by decide) (by decide) (Nat.le_of_ble_eq_true rfl) (Nat.le_of_ble_eq_true rfl) d_Md_init_508 (fun q72 cA9 H hK9 hP hD hS => ?_)
  obtain rfl := nk_int hK9
  clear hK9
  have hP : va_P (dC, dI) vcl [(mo, .inr (12, [.ref q1, .int 0, .int 0, .ref q66, .ref q67, .ref q68, .ref q69, .ref q70, .int 0, .ref q71, .int 0, .null, .null, .null, .int 0, .null, .int 0, .int 0, .null, .null, .null, .null, .null, .null, .int 0, .null, .null, .null, .null, .null, .null, .long 0, .long 0, .int 0, .null, .null, .null, .null, .null, .null, .null, .null, .null, .int 0, .int 0])), (q1, .inl ((cT 1), 64, .inr (.inl f65))), (q66, .inl ((cT 0), 160, .inl (fun _ => 0))), (q67, .inl ((cT 0), 4, .inl (fun _ => 0))), (q68, .inl ((cT 0), 1920, .inl (fun _ => 0))), (q69, .inl ((cT 0), 32, .inl (fun _ => 0))), (q70, .inl ((cT 0), 1000, .inl (fun _ => 0))), (q71, .inl ((cT 0), 1400, .inl (fun _ => 0))), (q72, .inl ((cT 0), 16, .inl (fun _ => 0)))] H := hP
  have hD : va_D A [(mo, .inr (12, [.ref q1, .int 0, .int 0, .ref q66, .ref q67, .ref q68, .ref q69, .ref q70, .int 0, .ref q71, .int 0, .null, .null, .null, .int 0, .null, .int 0, .int 0, .null, .null, .null, .null, .null, .null, .int 0, .null, .null, .null, .null, .null, .null, .long 0, .long 0, .int 0, .null, .null, .null, .null, .null, .null, .null, .null, .null, .int 0, .int 0])), (q1, .inl ((cT 1), 64, .inr (.inl f65))), (q66, .inl ((cT 0), 160, .inl (fun _ => 0))), (q67, .inl ((cT 0), 4, .inl (fun _ => 0))), (q68, .inl ((cT 0), 1920, .inl (fun _ => 0))), (q69, .inl ((cT 0), 32, .inl (fun _ => 0))), (q70, .inl ((cT 0), 1000, .inl (fun _ => 0))), (q71, .inl ((cT 0), 1400, .inl (fun _ => 0))), (q72, .inl ((cT 0), 16, .inl (fun _ => 0)))] := hD
  refine va_putF (D := (dC, dI)) (ci := 12) (v := (.ref q72)) (ty := (.array .int)) (C := R_Md) (T := F_Md) (N := 45) hx hb hg in_Md t_Md tok_Md nm_Md hown hK hP hD hS 0 rfl rfl 11 (by decide) (hg _ k_1031) (fun _ h9 => h9) rfl hin rfl (by decide +kernel) rfl rfl (Nat.le_of_ble_eq_true rfl) d_Md_init_510 (fun H locs hP hD hS => ?_)
  have hP : va_P (dC, dI) vcl [(mo, .inr (12, [.ref q1, .int 0, .int 0, .ref q66, .ref q67, .ref q68, .ref q69, .ref q70, .int 0, .ref q71, .int 0, .ref q72, .null, .null, .int 0, .null, .int 0, .int 0, .null, .null, .null, .null, .null, .null, .int 0, .null, .null, .null, .null, .null, .null, .long 0, .long 0, .int 0, .null, .null, .null, .null, .null, .null, .null, .null, .null, .int 0, .int 0])), (q1, .inl ((cT 1), 64, .inr (.inl f65))), (q66, .inl ((cT 0), 160, .inl (fun _ => 0))), (q67, .inl ((cT 0), 4, .inl (fun _ => 0))), (q68, .inl ((cT 0), 1920, .inl (fun _ => 0))), (q69, .inl ((cT 0), 32, .inl (fun _ => 0))), (q70, .inl ((cT 0), 1000, .inl (fun _ => 0))), (q71, .inl ((cT 0), 1400, .inl (fun _ => 0))), (q72, .inl ((cT 0), 16, .inl (fun _ => 0)))] H := hP
  have hD : va_D A [(mo, .inr (12, [.ref q1, .int 0, .int 0, .ref q66, .ref q67, .ref q68, .ref q69, .ref q70, .int 0, .ref q71, .int 0, .ref q72, .null, .null, .int 0, .null, .int 0, .int 0, .null, .null, .null, .null, .null, .null, .int 0, .null, .null, .null, .null, .null, .null, .long 0, .long 0, .int 0, .null, .null, .null, .null, .null, .null, .null, .null, .null, .int 0, .int 0])), (q1, .inl ((cT 1), 64, .inr (.inl f65))), (q66, .inl ((cT 0), 160, .inl (fun _ => 0))), (q67, .inl ((cT 0), 4, .inl (fun _ => 0))), (q68, .inl ((cT 0), 1920, .inl (fun _ => 0))), (q69, .inl ((cT 0), 32, .inl (fun _ => 0))), (q70, .inl ((cT 0), 1000, .inl (fun _ => 0))), (q71, .inl ((cT 0), 1400, .inl (fun _ => 0))), (q72, .inl ((cT 0), 16, .inl (fun _ => 0)))] := hD
  refine lv_aload_n hx hb d_Md_init_513 rfl (lv_at hl 0 rfl) ?_
  refine lv_sipush (v := 1200) hx hb d_Md_init_514 (by decide) ?_
  refine va_newa (atype := .int) (ty := .int) (n := 1200) (N' := 1200) (a0 := (1200, .inl (fun _ => 0))) hx hb (hg _ k_67) rfl hK hP hD hS hA (fun _ => rfl) (by decide) (by decide) (by decide) (Nat.le_of_ble_eq_true rfl) (Nat.le_of_ble_eq_true rfl) d_Md_init_517 (fun q73 cA9 H hK9 hP hD hS => ?_)
  obtain rfl := nk_int hK9
  clear hK9
  have hP : va_P (dC, dI) vcl [(mo, .inr (12, [.ref q1, .int 0, .int 0, .ref q66, .ref q67, .ref q68, .ref q69, .ref q70, .int 0, .ref q71, .int 0, .ref q72, .null, .null, .int 0, .null, .int 0, .int 0, .null, .null, .null, .null, .null, .null, .int 0, .null, .null, .null, .null, .null, .null, .long 0, .long 0, .int 0, .null, .null, .null, .null, .null, .null, .null, .null, .null, .int 0, .int 0])), (q1, .inl ((cT 1), 64, .inr (.inl f65))), (q66, .inl ((cT 0), 160, .inl (fun _ => 0))), (q67, .inl ((cT 0), 4, .inl (fun _ => 0))), (q68, .inl ((cT 0), 1920, .inl (fun _ => 0))), (q69, .inl ((cT 0), 32, .inl (fun _ => 0))), (q70, .inl ((cT 0), 1000, .inl (fun _ => 0))), (q71, .inl ((cT 0), 1400, .inl (fun _ => 0))), (q72, .inl ((cT 0), 16, .inl (fun _ => 0))), (q73, .inl ((cT 0), 1200, .inl (fun _ => 0)))] H := hP
  have hD : va_D A [(mo, .inr (12, [.ref q1, .int 0, .int 0, .ref q66, .ref q67, .ref q68, .ref q69, .ref q70, .int 0, .ref q71, .int 0, .ref q72, .null, .null, .int 0, .null, .int 0, .int 0, .null, .null, .null, .null, .null, .null, .int 0, .null, .null, .null, .null, .null, .null, .long 0, .long 0, .int 0, .null, .null, .null, .null, .null, .null, .null, .null, .null, .int 0, .int 0])), (q1, .inl ((cT 1), 64, .inr (.inl f65))), (q66, .inl ((cT 0), 160, .inl (fun _ => 0))), (q67, .inl ((cT 0), 4, .inl (fun _ => 0))), (q68, .inl ((cT 0), 1920, .inl (fun _ => 0))), (q69, .inl ((cT 0), 32, .inl (fun _ => 0))), (q70, .inl ((cT 0), 1000, .inl (fun _ => 0))), (q71, .inl ((cT 0), 1400, .inl (fun _ => 0))), (q72, .inl ((cT 0), 16, .inl (fun _ => 0))), (q73, .inl ((cT 0), 1200, .inl (fun _ => 0)))] := hD
  refine va_putF (D := (dC, dI)) (ci := 12) (v := (.ref q73)) (ty := (.array .int)) (C := R_Md) (T := F_Md) (N := 45) hx hb hg in_Md t_Md tok_Md nm_Md hown hK hP hD hS 0 rfl rfl 12 (by decide) (hg _ k_1032) (fun _ h9 => h9) rfl hin rfl (by decide +kernel) rfl rfl (Nat.le_of_ble_eq_true rfl) d_Md_init_519 (fun H locs hP hD hS => ?_)
  have hP : va_P (dC, dI) vcl [(mo, .inr (12, [.ref q1, .int 0, .int 0, .ref q66, .ref q67, .ref q68, .ref q69, .ref q70, .int 0, .ref q71, .int 0, .ref q72, .ref q73, .null, .int 0, .null, .int 0, .int 0, .null, .null, .null, .null, .null, .null, .int 0, .null, .null, .null, .null, .null, .null, .long 0, .long 0, .int 0, .null, .null, .null, .null, .null, .null, .null, .null, .null, .int 0, .int 0])), (q1, .inl ((cT 1), 64, .inr (.inl f65))), (q66, .inl ((cT 0), 160, .inl (fun _ => 0))), (q67, .inl ((cT 0), 4, .inl (fun _ => 0))), (q68, .inl ((cT 0), 1920, .inl (fun _ => 0))), (q69, .inl ((cT 0), 32, .inl (fun _ => 0))), (q70, .inl ((cT 0), 1000, .inl (fun _ => 0))), (q71, .inl ((cT 0), 1400, .inl (fun _ => 0))), (q72, .inl ((cT 0), 16, .inl (fun _ => 0))), (q73, .inl ((cT 0), 1200, .inl (fun _ => 0)))] H := hP
  have hD : va_D A [(mo, .inr (12, [.ref q1, .int 0, .int 0, .ref q66, .ref q67, .ref q68, .ref q69, .ref q70, .int 0, .ref q71, .int 0, .ref q72, .ref q73, .null, .int 0, .null, .int 0, .int 0, .null, .null, .null, .null, .null, .null, .int 0, .null, .null, .null, .null, .null, .null, .long 0, .long 0, .int 0, .null, .null, .null, .null, .null, .null, .null, .null, .null, .int 0, .int 0])), (q1, .inl ((cT 1), 64, .inr (.inl f65))), (q66, .inl ((cT 0), 160, .inl (fun _ => 0))), (q67, .inl ((cT 0), 4, .inl (fun _ => 0))), (q68, .inl ((cT 0), 1920, .inl (fun _ => 0))), (q69, .inl ((cT 0), 32, .inl (fun _ => 0))), (q70, .inl ((cT 0), 1000, .inl (fun _ => 0))), (q71, .inl ((cT 0), 1400, .inl (fun _ => 0))), (q72, .inl ((cT 0), 16, .inl (fun _ => 0))), (q73, .inl ((cT 0), 1200, .inl (fun _ => 0)))] := hD
  refine lv_aload_n hx hb d_Md_init_522 rfl (lv_at hl 0 rfl) ?_
  refine lv_sipush (v := 200) hx hb d_Md_init_523 (by decide) ?_
  refine va_newa (atype := .int) (ty := .int) (n := 200) (N' := 200) (a0 := (200, .inl (fun _ => 0))) hx hb (hg _ k_67) rfl hK hP hD hS hA (fun _ => rfl) (by decide) (by decide) (by decide) (Nat.le_of_ble_eq_true rfl) (Nat.le_of_ble_eq_true rfl) d_Md_init_526 (fun q74 cA9 H hK9 hP hD hS => ?_)
  obtain rfl := nk_int hK9
  clear hK9
  have hP : va_P (dC, dI) vcl [(mo, .inr (12, [.ref q1, .int 0, .int 0, .ref q66, .ref q67, .ref q68, .ref q69, .ref q70, .int 0, .ref q71, .int 0, .ref q72, .ref q73, .null, .int 0, .null, .int 0, .int 0, .null, .null, .null, .null, .null, .null, .int 0, .null, .null, .null, .null, .null, .null, .long 0, .long 0, .int 0, .null, .null, .null, .null, .null, .null, .null, .null, .null, .int 0, .int 0])), (q1, .inl ((cT 1), 64, .inr (.inl f65))), (q66, .inl ((cT 0), 160, .inl (fun _ => 0))), (q67, .inl ((cT 0), 4, .inl (fun _ => 0))), (q68, .inl ((cT 0), 1920, .inl (fun _ => 0))), (q69, .inl ((cT 0), 32, .inl (fun _ => 0))), (q70, .inl ((cT 0), 1000, .inl (fun _ => 0))), (q71, .inl ((cT 0), 1400, .inl (fun _ => 0))), (q72, .inl ((cT 0), 16, .inl (fun _ => 0))), (q73, .inl ((cT 0), 1200, .inl (fun _ => 0))), (q74, .inl ((cT 0), 200, .inl (fun _ => 0)))] H := hP
  have hD : va_D A [(mo, .inr (12, [.ref q1, .int 0, .int 0, .ref q66, .ref q67, .ref q68, .ref q69, .ref q70, .int 0, .ref q71, .int 0, .ref q72, .ref q73, .null, .int 0, .null, .int 0, .int 0, .null, .null, .null, .null, .null, .null, .int 0, .null, .null, .null, .null, .null, .null, .long 0, .long 0, .int 0, .null, .null, .null, .null, .null, .null, .null, .null, .null, .int 0, .int 0])), (q1, .inl ((cT 1), 64, .inr (.inl f65))), (q66, .inl ((cT 0), 160, .inl (fun _ => 0))), (q67, .inl ((cT 0), 4, .inl (fun _ => 0))), (q68, .inl ((cT 0), 1920, .inl (fun _ => 0))), (q69, .inl ((cT 0), 32, .inl (fun _ => 0))), (q70, .inl ((cT 0), 1000, .inl (fun _ => 0))), (q71, .inl ((cT 0), 1400, .inl (fun _ => 0))), (q72, .inl ((cT 0), 16, .inl (fun _ => 0))), (q73, .inl ((cT 0), 1200, .inl (fun _ => 0))), (q74, .inl ((cT 0), 200, .inl (fun _ => 0)))] := hD
  refine va_putF (D := (dC, dI)) (ci := 12) (v := (.ref q74)) (ty := (.array .int)) (C := R_Md) (T := F_Md) (N := 45) hx hb hg in_Md t_Md tok_Md nm_Md hown hK hP hD hS 0 rfl rfl 13 (by decide) (hg _ k_1033) (fun _ h9 => h9) rfl hin rfl (by decide +kernel) rfl rfl (Nat.le_of_ble_eq_true rfl) d_Md_init_528 (fun H locs hP hD hS => ?_)
  have hP : va_P (dC, dI) vcl [(mo, .inr (12, [.ref q1, .int 0, .int 0, .ref q66, .ref q67, .ref q68, .ref q69, .ref q70, .int 0, .ref q71, .int 0, .ref q72, .ref q73, .ref q74, .int 0, .null, .int 0, .int 0, .null, .null, .null, .null, .null, .null, .int 0, .null, .null, .null, .null, .null, .null, .long 0, .long 0, .int 0, .null, .null, .null, .null, .null, .null, .null, .null, .null, .int 0, .int 0])), (q1, .inl ((cT 1), 64, .inr (.inl f65))), (q66, .inl ((cT 0), 160, .inl (fun _ => 0))), (q67, .inl ((cT 0), 4, .inl (fun _ => 0))), (q68, .inl ((cT 0), 1920, .inl (fun _ => 0))), (q69, .inl ((cT 0), 32, .inl (fun _ => 0))), (q70, .inl ((cT 0), 1000, .inl (fun _ => 0))), (q71, .inl ((cT 0), 1400, .inl (fun _ => 0))), (q72, .inl ((cT 0), 16, .inl (fun _ => 0))), (q73, .inl ((cT 0), 1200, .inl (fun _ => 0))), (q74, .inl ((cT 0), 200, .inl (fun _ => 0)))] H := hP
  have hD : va_D A [(mo, .inr (12, [.ref q1, .int 0, .int 0, .ref q66, .ref q67, .ref q68, .ref q69, .ref q70, .int 0, .ref q71, .int 0, .ref q72, .ref q73, .ref q74, .int 0, .null, .int 0, .int 0, .null, .null, .null, .null, .null, .null, .int 0, .null, .null, .null, .null, .null, .null, .long 0, .long 0, .int 0, .null, .null, .null, .null, .null, .null, .null, .null, .null, .int 0, .int 0])), (q1, .inl ((cT 1), 64, .inr (.inl f65))), (q66, .inl ((cT 0), 160, .inl (fun _ => 0))), (q67, .inl ((cT 0), 4, .inl (fun _ => 0))), (q68, .inl ((cT 0), 1920, .inl (fun _ => 0))), (q69, .inl ((cT 0), 32, .inl (fun _ => 0))), (q70, .inl ((cT 0), 1000, .inl (fun _ => 0))), (q71, .inl ((cT 0), 1400, .inl (fun _ => 0))), (q72, .inl ((cT 0), 16, .inl (fun _ => 0))), (q73, .inl ((cT 0), 1200, .inl (fun _ => 0))), (q74, .inl ((cT 0), 200, .inl (fun _ => 0)))] := hD
  have hP := hP.sub (ws' := [(mo, .inr (12, [.ref q1, .int 0, .int 0, .ref q66, .ref q67, .ref q68, .ref q69, .ref q70, .int 0, .ref q71, .int 0, .ref q72, .ref q73, .ref q74, .int 0, .null, .int 0, .int 0, .null, .null, .null, .null, .null, .null, .int 0, .null, .null, .null, .null, .null, .null, .long 0, .long 0, .int 0, .null, .null, .null, .null, .null, .null, .null, .null, .null, .int 0, .int 0])), (q1, .inl ((cT 1), 64, .inr (.inl f65))), (q66, .inl ((cT 0), 160, .inl (fun _ => 0))), (q67, .inl ((cT 0), 4, .inl (fun _ => 0))), (q68, .inl ((cT 0), 1920, .inl (fun _ => 0))), (q69, .inl ((cT 0), 32, .inl (fun _ => 0))), (q70, .inl ((cT 0), 1000, .inl (fun _ => 0))), (q71, .inl ((cT 0), 1400, .inl (fun _ => 0))), (q72, .inl ((cT 0), 16, .inl (fun _ => 0))), (q73, .inl ((cT 0), 1200, .inl (fun _ => 0)))]) [0, 1, 2, 3, 4, 5, 6, 7, 8, 9] rfl
  have hD := hD.sub (ws' := [(mo, .inr (12, [.ref q1, .int 0, .int 0, .ref q66, .ref q67, .ref q68, .ref q69, .ref q70, .int 0, .ref q71, .int 0, .ref q72, .ref q73, .ref q74, .int 0, .null, .int 0, .int 0, .null, .null, .null, .null, .null, .null, .int 0, .null, .null, .null, .null, .null, .null, .long 0, .long 0, .int 0, .null, .null, .null, .null, .null, .null, .null, .null, .null, .int 0, .int 0])), (q1, .inl ((cT 1), 64, .inr (.inl f65))), (q66, .inl ((cT 0), 160, .inl (fun _ => 0))), (q67, .inl ((cT 0), 4, .inl (fun _ => 0))), (q68, .inl ((cT 0), 1920, .inl (fun _ => 0))), (q69, .inl ((cT 0), 32, .inl (fun _ => 0))), (q70, .inl ((cT 0), 1000, .inl (fun _ => 0))), (q71, .inl ((cT 0), 1400, .inl (fun _ => 0))), (q72, .inl ((cT 0), 16, .inl (fun _ => 0))), (q73, .inl ((cT 0), 1200, .inl (fun _ => 0)))]) [0, 1, 2, 3, 4, 5, 6, 7, 8, 9] (by decide) rfl
  refine lv_aload_n hx hb d_Md_init_531 rfl (lv_at hl 0 rfl) ?_
  refine lv_sipush (v := 200) hx hb d_Md_init_532 (by decide) ?_
  refine va_newa (atype := .int) (ty := .int) (n := 200) (N' := 200) (a0 := (200, .inl (fun _ => 0))) hx hb (hg _ k_67) rfl hK hP hD hS hA (fun _ => rfl) (by decide) (by decide) (by decide) (Nat.le_of_ble_eq_true rfl) (Nat.le_of_ble_eq_true rfl) d_Md_init_535 (fun q75 cA9 H hK9 hP hD hS => ?_)
  obtain rfl := nk_int hK9
  clear hK9
  have hP : va_P (dC, dI) vcl [(mo, .inr (12, [.ref q1, .int 0, .int 0, .ref q66, .ref q67, .ref q68, .ref q69, .ref q70, .int 0, .ref q71, .int 0, .ref q72, .ref q73, .ref q74, .int 0, .null, .int 0, .int 0, .null, .null, .null, .null, .null, .null, .int 0, .null, .null, .null, .null, .null, .null, .long 0, .long 0, .int 0, .null, .null, .null, .null, .null, .null, .null, .null, .null, .int 0, .int 0])), (q1, .inl ((cT 1), 64, .inr (.inl f65))), (q66, .inl ((cT 0), 160, .inl (fun _ => 0))), (q67, .inl ((cT 0), 4, .inl (fun _ => 0))), (q68, .inl ((cT 0), 1920, .inl (fun _ => 0))), (q69, .inl ((cT 0), 32, .inl (fun _ => 0))), (q70, .inl ((cT 0), 1000, .inl (fun _ => 0))), (q71, .inl ((cT 0), 1400, .inl (fun _ => 0))), (q72, .inl ((cT 0), 16, .inl (fun _ => 0))), (q73, .inl ((cT 0), 1200, .inl (fun _ => 0))), (q75, .inl ((cT 0), 200, .inl (fun _ => 0)))] H := hP
  have hD : va_D A [(mo, .inr (12, [.ref q1, .int 0, .int 0, .ref q66, .ref q67, .ref q68, .ref q69, .ref q70, .int 0, .ref q71, .int 0, .ref q72, .ref q73, .ref q74, .int 0, .null, .int 0, .int 0, .null, .null, .null, .null, .null, .null, .int 0, .null, .null, .null, .null, .null, .null, .long 0, .long 0, .int 0, .null, .null, .null, .null, .null, .null, .null, .null, .null, .int 0, .int 0])), (q1, .inl ((cT 1), 64, .inr (.inl f65))), (q66, .inl ((cT 0), 160, .inl (fun _ => 0))), (q67, .inl ((cT 0), 4, .inl (fun _ => 0))), (q68, .inl ((cT 0), 1920, .inl (fun _ => 0))), (q69, .inl ((cT 0), 32, .inl (fun _ => 0))), (q70, .inl ((cT 0), 1000, .inl (fun _ => 0))), (q71, .inl ((cT 0), 1400, .inl (fun _ => 0))), (q72, .inl ((cT 0), 16, .inl (fun _ => 0))), (q73, .inl ((cT 0), 1200, .inl (fun _ => 0))), (q75, .inl ((cT 0), 200, .inl (fun _ => 0)))] := hD
  refine va_putF (D := (dC, dI)) (ci := 12) (v := (.ref q75)) (ty := (.array .int)) (C := R_Md) (T := F_Md) (N := 45) hx hb hg in_Md t_Md tok_Md nm_Md hown hK hP hD hS 0 rfl rfl 15 (by decide) (hg _ k_1035) (fun _ h9 => h9) rfl hin rfl (by decide +kernel) rfl rfl (Nat.le_of_ble_eq_true rfl) d_Md_init_537 (fun H locs hP hD hS => ?_)
  have hP : va_P (dC, dI) vcl [(mo, .inr (12, [.ref q1, .int 0, .int 0, .ref q66, .ref q67, .ref q68, .ref q69, .ref q70, .int 0, .ref q71, .int 0, .ref q72, .ref q73, .ref q74, .int 0, .ref q75, .int 0, .int 0, .null, .null, .null, .null, .null, .null, .int 0, .null, .null, .null, .null, .null, .null, .long 0, .long 0, .int 0, .null, .null, .null, .null, .null, .null, .null, .null, .null, .int 0, .int 0])), (q1, .inl ((cT 1), 64, .inr (.inl f65))), (q66, .inl ((cT 0), 160, .inl (fun _ => 0))), (q67, .inl ((cT 0), 4, .inl (fun _ => 0))), (q68, .inl ((cT 0), 1920, .inl (fun _ => 0))), (q69, .inl ((cT 0), 32, .inl (fun _ => 0))), (q70, .inl ((cT 0), 1000, .inl (fun _ => 0))), (q71, .inl ((cT 0), 1400, .inl (fun _ => 0))), (q72, .inl ((cT 0), 16, .inl (fun _ => 0))), (q73, .inl ((cT 0), 1200, .inl (fun _ => 0))), (q75, .inl ((cT 0), 200, .inl (fun _ => 0)))] H := hP
  have hD : va_D A [(mo, .inr (12, [.ref q1, .int 0, .int 0, .ref q66, .ref q67, .ref q68, .ref q69, .ref q70, .int 0, .ref q71, .int 0, .ref q72, .ref q73, .ref q74, .int 0, .ref q75, .int 0, .int 0, .null, .null, .null, .null, .null, .null, .int 0, .null, .null, .null, .null, .null, .null, .long 0, .long 0, .int 0, .null, .null, .null, .null, .null, .null, .null, .null, .null, .int 0, .int 0])), (q1, .inl ((cT 1), 64, .inr (.inl f65))), (q66, .inl ((cT 0), 160, .inl (fun _ => 0))), (q67, .inl ((cT 0), 4, .inl (fun _ => 0))), (q68, .inl ((cT 0), 1920, .inl (fun _ => 0))), (q69, .inl ((cT 0), 32, .inl (fun _ => 0))), (q70, .inl ((cT 0), 1000, .inl (fun _ => 0))), (q71, .inl ((cT 0), 1400, .inl (fun _ => 0))), (q72, .inl ((cT 0), 16, .inl (fun _ => 0))), (q73, .inl ((cT 0), 1200, .inl (fun _ => 0))), (q75, .inl ((cT 0), 200, .inl (fun _ => 0)))] := hD
  have hP := hP.sub (ws' := [(mo, .inr (12, [.ref q1, .int 0, .int 0, .ref q66, .ref q67, .ref q68, .ref q69, .ref q70, .int 0, .ref q71, .int 0, .ref q72, .ref q73, .ref q74, .int 0, .ref q75, .int 0, .int 0, .null, .null, .null, .null, .null, .null, .int 0, .null, .null, .null, .null, .null, .null, .long 0, .long 0, .int 0, .null, .null, .null, .null, .null, .null, .null, .null, .null, .int 0, .int 0])), (q1, .inl ((cT 1), 64, .inr (.inl f65))), (q66, .inl ((cT 0), 160, .inl (fun _ => 0))), (q67, .inl ((cT 0), 4, .inl (fun _ => 0))), (q68, .inl ((cT 0), 1920, .inl (fun _ => 0))), (q69, .inl ((cT 0), 32, .inl (fun _ => 0))), (q70, .inl ((cT 0), 1000, .inl (fun _ => 0))), (q71, .inl ((cT 0), 1400, .inl (fun _ => 0))), (q72, .inl ((cT 0), 16, .inl (fun _ => 0))), (q73, .inl ((cT 0), 1200, .inl (fun _ => 0)))]) [0, 1, 2, 3, 4, 5, 6, 7, 8, 9] rfl
  have hD := hD.sub (ws' := [(mo, .inr (12, [.ref q1, .int 0, .int 0, .ref q66, .ref q67, .ref q68, .ref q69, .ref q70, .int 0, .ref q71, .int 0, .ref q72, .ref q73, .ref q74, .int 0, .ref q75, .int 0, .int 0, .null, .null, .null, .null, .null, .null, .int 0, .null, .null, .null, .null, .null, .null, .long 0, .long 0, .int 0, .null, .null, .null, .null, .null, .null, .null, .null, .null, .int 0, .int 0])), (q1, .inl ((cT 1), 64, .inr (.inl f65))), (q66, .inl ((cT 0), 160, .inl (fun _ => 0))), (q67, .inl ((cT 0), 4, .inl (fun _ => 0))), (q68, .inl ((cT 0), 1920, .inl (fun _ => 0))), (q69, .inl ((cT 0), 32, .inl (fun _ => 0))), (q70, .inl ((cT 0), 1000, .inl (fun _ => 0))), (q71, .inl ((cT 0), 1400, .inl (fun _ => 0))), (q72, .inl ((cT 0), 16, .inl (fun _ => 0))), (q73, .inl ((cT 0), 1200, .inl (fun _ => 0)))]) [0, 1, 2, 3, 4, 5, 6, 7, 8, 9] (by decide) rfl
  refine lv_aload_n hx hb d_Md_init_540 rfl (lv_at hl 0 rfl) ?_
  refine lv_bipush (v := 41) hx hb d_Md_init_541 (by decide) ?_
  refine va_newa (atype := .int) (ty := .int) (n := 41) (N' := 41) (a0 := (41, .inl (fun _ => 0))) hx hb (hg _ k_67) rfl hK hP hD hS hA (fun _ => rfl) (by decide) (by decide) (by decide) (Nat.le_of_ble_eq_true rfl) (Nat.le_of_ble_eq_true rfl) d_Md_init_543 (fun q76 cA9 H hK9 hP hD hS => ?_)
  obtain rfl := nk_int hK9
  clear hK9
  have hP : va_P (dC, dI) vcl [(mo, .inr (12, [.ref q1, .int 0, .int 0, .ref q66, .ref q67, .ref q68, .ref q69, .ref q70, .int 0, .ref q71, .int 0, .ref q72, .ref q73, .ref q74, .int 0, .ref q75, .int 0, .int 0, .null, .null, .null, .null, .null, .null, .int 0, .null, .null, .null, .null, .null, .null, .long 0, .long 0, .int 0, .null, .null, .null, .null, .null, .null, .null, .null, .null, .int 0, .int 0])), (q1, .inl ((cT 1), 64, .inr (.inl f65))), (q66, .inl ((cT 0), 160, .inl (fun _ => 0))), (q67, .inl ((cT 0), 4, .inl (fun _ => 0))), (q68, .inl ((cT 0), 1920, .inl (fun _ => 0))), (q69, .inl ((cT 0), 32, .inl (fun _ => 0))), (q70, .inl ((cT 0), 1000, .inl (fun _ => 0))), (q71, .inl ((cT 0), 1400, .inl (fun _ => 0))), (q72, .inl ((cT 0), 16, .inl (fun _ => 0))), (q73, .inl ((cT 0), 1200, .inl (fun _ => 0))), (q76, .inl ((cT 0), 41, .inl (fun _ => 0)))] H := hP
  have hD : va_D A [(mo, .inr (12, [.ref q1, .int 0, .int 0, .ref q66, .ref q67, .ref q68, .ref q69, .ref q70, .int 0, .ref q71, .int 0, .ref q72, .ref q73, .ref q74, .int 0, .ref q75, .int 0, .int 0, .null, .null, .null, .null, .null, .null, .int 0, .null, .null, .null, .null, .null, .null, .long 0, .long 0, .int 0, .null, .null, .null, .null, .null, .null, .null, .null, .null, .int 0, .int 0])), (q1, .inl ((cT 1), 64, .inr (.inl f65))), (q66, .inl ((cT 0), 160, .inl (fun _ => 0))), (q67, .inl ((cT 0), 4, .inl (fun _ => 0))), (q68, .inl ((cT 0), 1920, .inl (fun _ => 0))), (q69, .inl ((cT 0), 32, .inl (fun _ => 0))), (q70, .inl ((cT 0), 1000, .inl (fun _ => 0))), (q71, .inl ((cT 0), 1400, .inl (fun _ => 0))), (q72, .inl ((cT 0), 16, .inl (fun _ => 0))), (q73, .inl ((cT 0), 1200, .inl (fun _ => 0))), (q76, .inl ((cT 0), 41, .inl (fun _ => 0)))] := hD
  refine va_putF (D := (dC, dI)) (ci := 12) (v := (.ref q76)) (ty := (.array .int)) (C := R_Md) (T := F_Md) (N := 45) hx hb hg in_Md t_Md tok_Md nm_Md hown hK hP hD hS 0 rfl rfl 18 (by decide) (hg _ k_1038) (fun _ h9 => h9) rfl hin rfl (by decide +kernel) rfl rfl (Nat.le_of_ble_eq_true rfl) d_Md_init_545 (fun H locs hP hD hS => ?_)
  have hP : va_P (dC, dI) vcl [(mo, .inr (12, [.ref q1, .int 0, .int 0, .ref q66, .ref q67, .ref q68, .ref q69, .ref q70, .int 0, .ref q71, .int 0, .ref q72, .ref q73, .ref q74, .int 0, .ref q75, .int 0, .int 0, .ref q76, .null, .null, .null, .null, .null, .int 0, .null, .null, .null, .null, .null, .null, .long 0, .long 0, .int 0, .null, .null, .null, .null, .null, .null, .null, .null, .null, .int 0, .int 0])), (q1, .inl ((cT 1), 64, .inr (.inl f65))), (q66, .inl ((cT 0), 160, .inl (fun _ => 0))), (q67, .inl ((cT 0), 4, .inl (fun _ => 0))), (q68, .inl ((cT 0), 1920, .inl (fun _ => 0))), (q69, .inl ((cT 0), 32, .inl (fun _ => 0))), (q70, .inl ((cT 0), 1000, .inl (fun _ => 0))), (q71, .inl ((cT 0), 1400, .inl (fun _ => 0))), (q72, .inl ((cT 0), 16, .inl (fun _ => 0))), (q73, .inl ((cT 0), 1200, .inl (fun _ => 0))), (q76, .inl ((cT 0), 41, .inl (fun _ => 0)))] H := hP
  have hD : va_D A [(mo, .inr (12, [.ref q1, .int 0, .int 0, .ref q66, .ref q67, .ref q68, .ref q69, .ref q70, .int 0, .ref q71, .int 0, .ref q72, .ref q73, .ref q74, .int 0, .ref q75, .int 0, .int 0, .ref q76, .null, .null, .null, .null, .null, .int 0, .null, .null, .null, .null, .null, .null, .long 0, .long 0, .int 0, .null, .null, .null, .null, .null, .null, .null, .null, .null, .int 0, .int 0])), (q1, .inl ((cT 1), 64, .inr (.inl f65))), (q66, .inl ((cT 0), 160, .inl (fun _ => 0))), (q67, .inl ((cT 0), 4, .inl (fun _ => 0))), (q68, .inl ((cT 0), 1920, .inl (fun _ => 0))), (q69, .inl ((cT 0), 32, .inl (fun _ => 0))), (q70, .inl ((cT 0), 1000, .inl (fun _ => 0))), (q71, .inl ((cT 0), 1400, .inl (fun _ => 0))), (q72, .inl ((cT 0), 16, .inl (fun _ => 0))), (q73, .inl ((cT 0), 1200, .inl (fun _ => 0))), (q76, .inl ((cT 0), 41, .inl (fun _ => 0)))] := hD
  have hP := hP.sub (ws' := [(mo, .inr (12, [.ref q1, .int 0, .int 0, .ref q66, .ref q67, .ref q68, .ref q69, .ref q70, .int 0, .ref q71, .int 0, .ref q72, .ref q73, .ref q74, .int 0, .ref q75, .int 0, .int 0, .ref q76, .null, .null, .null, .null, .null, .int 0, .null, .null, .null, .null, .null, .null, .long 0, .long 0, .int 0, .null, .null, .null, .null, .null, .null, .null, .null, .null, .int 0, .int 0])), (q1, .inl ((cT 1), 64, .inr (.inl f65))), (q66, .inl ((cT 0), 160, .inl (fun _ => 0))), (q67, .inl ((cT 0), 4, .inl (fun _ => 0))), (q68, .inl ((cT 0), 1920, .inl (fun _ => 0))), (q69, .inl ((cT 0), 32, .inl (fun _ => 0))), (q70, .inl ((cT 0), 1000, .inl (fun _ => 0))), (q71, .inl ((cT 0), 1400, .inl (fun _ => 0))), (q72, .inl ((cT 0), 16, .inl (fun _ => 0))), (q73, .inl ((cT 0), 1200, .inl (fun _ => 0)))]) [0, 1, 2, 3, 4, 5, 6, 7, 8, 9] rfl
  have hD := hD.sub (ws' := [(mo, .inr (12, [.ref q1, .int 0, .int 0, .ref q66, .ref q67, .ref q68, .ref q69, .ref q70, .int 0, .ref q71, .int 0, .ref q72, .ref q73, .ref q74, .int 0, .ref q75, .int 0, .int 0, .ref q76, .null, .null, .null, .null, .null, .int 0, .null, .null, .null, .null, .null, .null, .long 0, .long 0, .int 0, .null, .null, .null, .null, .null, .null, .null, .null, .null, .int 0, .int 0])), (q1, .inl ((cT 1), 64, .inr (.inl f65))), (q66, .inl ((cT 0), 160, .inl (fun _ => 0))), (q67, .inl ((cT 0), 4, .inl (fun _ => 0))), (q68, .inl ((cT 0), 1920, .inl (fun _ => 0))), (q69, .inl ((cT 0), 32, .inl (fun _ => 0))), (q70, .inl ((cT 0), 1000, .inl (fun _ => 0))), (q71, .inl ((cT 0), 1400, .inl (fun _ => 0))), (q72, .inl ((cT 0), 16, .inl (fun _ => 0))), (q73, .inl ((cT 0), 1200, .inl (fun _ => 0)))]) [0, 1, 2, 3, 4, 5, 6, 7, 8, 9] (by decide) rfl
  refine lv_aload_n hx hb d_Md_init_548 rfl (lv_at hl 0 rfl) ?_
  refine lv_bipush (v := 41) hx hb d_Md_init_549 (by decide) ?_
  refine va_newa (atype := .int) (ty := .int) (n := 41) (N' := 41) (a0 := (41, .inl (fun _ => 0))) hx hb (hg _ k_67) rfl hK hP hD hS hA (fun _ => rfl) (by decide) (by decide) (by decide) (Nat.le_of_ble_eq_true rfl) (Nat.le_of_ble_eq_true rfl) d_Md_init_551 (fun q77 cA9 H hK9 hP hD hS => ?_)
  obtain rfl := nk_int hK9
  clear hK9
  have hP : va_P (dC, dI) vcl [(mo, .inr (12, [.ref q1, .int 0, .int 0, .ref q66, .ref q67, .ref q68, .ref q69, .ref q70, .int 0, .ref q71, .int 0, .ref q72, .ref q73, .ref q74, .int 0, .ref q75, .int 0, .int 0, .ref q76, .null, .null, .null, .null, .null, .int 0, .null, .null, .null, .null, .null, .null, .long 0, .long 0, .int 0, .null, .null, .null, .null, .null, .null, .null, .null, .null, .int 0, .int 0])), (q1, .inl ((cT 1), 64, .inr (.inl f65))), (q66, .inl ((cT 0), 160, .inl (fun _ => 0))), (q67, .inl ((cT 0), 4, .inl (fun _ => 0))), (q68, .inl ((cT 0), 1920, .inl (fun _ => 0))), (q69, .inl ((cT 0), 32, .inl (fun _ => 0))), (q70, .inl ((cT 0), 1000, .inl (fun _ => 0))), (q71, .inl ((cT 0), 1400, .inl (fun _ => 0))), (q72, .inl ((cT 0), 16, .inl (fun _ => 0))), (q73, .inl ((cT 0), 1200, .inl (fun _ => 0))), (q77, .inl ((cT 0), 41, .inl (fun _ => 0)))] H := hP
  have hD : va_D A [(mo, .inr (12, [.ref q1, .int 0, .int 0, .ref q66, .ref q67, .ref q68, .ref q69, .ref q70, .int 0, .ref q71, .int 0, .ref q72, .ref q73, .ref q74, .int 0, .ref q75, .int 0, .int 0, .ref q76, .null, .null, .null, .null, .null, .int 0, .null, .null, .null, .null, .null, .null, .long 0, .long 0, .int 0, .null, .null, .null, .null, .null, .null, .null, .null, .null, .int 0, .int 0])), (q1, .inl ((cT 1), 64, .inr (.inl f65))), (q66, .inl ((cT 0), 160, .inl (fun _ => 0))), (q67, .inl ((cT 0), 4, .inl (fun _ => 0))), (q68, .inl ((cT 0), 1920, .inl (fun _ => 0))), (q69, .inl ((cT 0), 32, .inl (fun _ => 0))), (q70, .inl ((cT 0), 1000, .inl (fun _ => 0))), (q71, .inl ((cT 0), 1400, .inl (fun _ => 0))), (q72, .inl ((cT 0), 16, .inl (fun _ => 0))), (q73, .inl ((cT 0), 1200, .inl (fun _ => 0))), (q77, .inl ((cT 0), 41, .inl (fun _ => 0)))] := hD
  refine va_putF (D := (dC, dI)) (ci := 12) (v := (.ref q77)) (ty := (.array .int)) (C := R_Md) (T := F_Md) (N := 45) hx hb hg in_Md t_Md tok_Md nm_Md hown hK hP hD hS 0 rfl rfl 19 (by decide) (hg _ k_1039) (fun _ h9 => h9) rfl hin rfl (by decide +kernel) rfl rfl (Nat.le_of_ble_eq_true rfl) d_Md_init_553 (fun H locs hP hD hS => ?_)
  have hP : va_P (dC, dI) vcl [(mo, .inr (12, [.ref q1, .int 0, .int 0, .ref q66, .ref q67, .ref q68, .ref q69, .ref q70, .int 0, .ref q71, .int 0, .ref q72, .ref q73, .ref q74, .int 0, .ref q75, .int 0, .int 0, .ref q76, .ref q77, .null, .null, .null, .null, .int 0, .null, .null, .null, .null, .null, .null, .long 0, .long 0, .int 0, .null, .null, .null, .null, .null, .null, .null, .null, .null, .int 0, .int 0])), (q1, .inl ((cT 1), 64, .inr (.inl f65))), (q66, .inl ((cT 0), 160, .inl (fun _ => 0))), (q67, .inl ((cT 0), 4, .inl (fun _ => 0))), (q68, .inl ((cT 0), 1920, .inl (fun _ => 0))), (q69, .inl ((cT 0), 32, .inl (fun _ => 0))), (q70, .inl ((cT 0), 1000, .inl (fun _ => 0))), (q71, .inl ((cT 0), 1400, .inl (fun _ => 0))), (q72, .inl ((cT 0), 16, .inl (fun _ => 0))), (q73, .inl ((cT 0), 1200, .inl (fun _ => 0))), (q77, .inl ((cT 0), 41, .inl (fun _ => 0)))] H := hP
  have hD : va_D A [(mo, .inr (12, [.ref q1, .int 0, .int 0, .ref q66, .ref q67, .ref q68, .ref q69, .ref q70, .int 0, .ref q71, .int 0, .ref q72, .ref q73, .ref q74, .int 0, .ref q75, .int 0, .int 0, .ref q76, .ref q77, .null, .null, .null, .null, .int 0, .null, .null, .null, .null, .null, .null, .long 0, .long 0, .int 0, .null, .null, .null, .null, .null, .null, .null, .null, .null, .int 0, .int 0])), (q1, .inl ((cT 1), 64, .inr (.inl f65))), (q66, .inl ((cT 0), 160, .inl (fun _ => 0))), (q67, .inl ((cT 0), 4, .inl (fun _ => 0))), (q68, .inl ((cT 0), 1920, .inl (fun _ => 0))), (q69, .inl ((cT 0), 32, .inl (fun _ => 0))), (q70, .inl ((cT 0), 1000, .inl (fun _ => 0))), (q71, .inl ((cT 0), 1400, .inl (fun _ => 0))), (q72, .inl ((cT 0), 16, .inl (fun _ => 0))), (q73, .inl ((cT 0), 1200, .inl (fun _ => 0))), (q77, .inl ((cT 0), 41, .inl (fun _ => 0)))] := hD
  have hP := hP.sub (ws' := [(mo, .inr (12, [.ref q1, .int 0, .int 0, .ref q66, .ref q67, .ref q68, .ref q69, .ref q70, .int 0, .ref q71, .int 0, .ref q72, .ref q73, .ref q74, .int 0, .ref q75, .int 0, .int 0, .ref q76, .ref q77, .null, .null, .null, .null, .int 0, .null, .null, .null, .null, .null, .null, .long 0, .long 0, .int 0, .null, .null, .null, .null, .null, .null, .null, .null, .null, .int 0, .int 0])), (q1, .inl ((cT 1), 64, .inr (.inl f65))), (q66, .inl ((cT 0), 160, .inl (fun _ => 0))), (q67, .inl ((cT 0), 4, .inl (fun _ => 0))), (q68, .inl ((cT 0), 1920, .inl (fun _ => 0))), (q69, .inl ((cT 0), 32, .inl (fun _ => 0))), (q70, .inl ((cT 0), 1000, .inl (fun _ => 0))), (q71, .inl ((cT 0), 1400, .inl (fun _ => 0))), (q72, .inl ((cT 0), 16, .inl (fun _ => 0))), (q73, .inl ((cT 0), 1200, .inl (fun _ => 0)))]) [0, 1, 2, 3, 4, 5, 6, 7, 8, 9] rfl
  have hD := hD.sub (ws' := [(mo, .inr (12, [.ref q1, .int 0, .int 0, .ref q66, .ref q67, .ref q68, .ref q69, .ref q70, .int 0, .ref q71, .int 0, .ref q72, .ref q73, .ref q74, .int 0, .ref q75, .int 0, .int 0, .ref q76, .ref q77, .null, .null, .null, .null, .int 0, .null, .null, .null, .null, .null, .null, .long 0, .long 0, .int 0, .null, .null, .null, .null, .null, .null, .null, .null, .null, .int 0, .int 0])), (q1, .inl ((cT 1), 64, .inr (.inl f65))), (q66, .inl ((cT 0), 160, .inl (fun _ => 0))), (q67, .inl ((cT 0), 4, .inl (fun _ => 0))), (q68, .inl ((cT 0), 1920, .inl (fun _ => 0))), (q69, .inl ((cT 0), 32, .inl (fun _ => 0))), (q70, .inl ((cT 0), 1000, .inl (fun _ => 0))), (q71, .inl ((cT 0), 1400, .inl (fun _ => 0))), (q72, .inl ((cT 0), 16, .inl (fun _ => 0))), (q73, .inl ((cT 0), 1200, .inl (fun _ => 0)))]) [0, 1, 2, 3, 4, 5, 6, 7, 8, 9] (by decide) rfl
  refine lv_aload_n hx hb d_Md_init_556 rfl (lv_at hl 0 rfl) ?_
  refine lv_bipush (v := 41) hx hb d_Md_init_557 (by decide) ?_
  refine va_newa (atype := .int) (ty := .int) (n := 41) (N' := 41) (a0 := (41, .inl (fun _ => 0))) hx hb (hg _ k_67) rfl hK hP hD hS hA (fun _ => rfl) (by decide) (by decide) (by decide) (Nat.le_of_ble_eq_true rfl) (Nat.le_of_ble_eq_true rfl) d_Md_init_559 (fun q78 cA9 H hK9 hP hD hS => ?_)
  obtain rfl := nk_int hK9
  clear hK9
  have hP : va_P (dC, dI) vcl [(mo, .inr (12, [.ref q1, .int 0, .int 0, .ref q66, .ref q67, .ref q68, .ref q69, .ref q70, .int 0, .ref q71, .int 0, .ref q72, .ref q73, .ref q74, .int 0, .ref q75, .int 0, .int 0, .ref q76, .ref q77, .null, .null, .null, .null, .int 0, .null, .null, .null, .null, .null, .null, .long 0, .long 0, .int 0, .null, .null, .null, .null, .null, .null, .null, .null, .null, .int 0, .int 0])), (q1, .inl ((cT 1), 64, .inr (.inl f65))), (q66, .inl ((cT 0), 160, .inl (fun _ => 0))), (q67, .inl ((cT 0), 4, .inl (fun _ => 0))), (q68, .inl ((cT 0), 1920, .inl (fun _ => 0))), (q69, .inl ((cT 0), 32, .inl (fun _ => 0))), (q70, .inl ((cT 0), 1000, .inl (fun _ => 0))), (q71, .inl ((cT 0), 1400, .inl (fun _ => 0))), (q72, .inl ((cT 0), 16, .inl (fun _ => 0))), (q73, .inl ((cT 0), 1200, .inl (fun _ => 0))), (q78, .inl ((cT 0), 41, .inl (fun _ => 0)))] H := hP
  have hD : va_D A [(mo, .inr (12, [.ref q1, .int 0, .int 0, .ref q66, .ref q67, .ref q68, .ref q69, .ref q70, .int 0, .ref q71, .int 0, .ref q72, .ref q73, .ref q74, .int 0, .ref q75, .int 0, .int 0, .ref q76, .ref q77, .null, .null, .null, .null, .int 0, .null, .null, .null, .null, .null, .null, .long 0, .long 0, .int 0, .null, .null, .null, .null, .null, .null, .null, .null, .null, .int 0, .int 0])), (q1, .inl ((cT 1), 64, .inr (.inl f65))), (q66, .inl ((cT 0), 160, .inl (fun _ => 0))), (q67, .inl ((cT 0), 4, .inl (fun _ => 0))), (q68, .inl ((cT 0), 1920, .inl (fun _ => 0))), (q69, .inl ((cT 0), 32, .inl (fun _ => 0))), (q70, .inl ((cT 0), 1000, .inl (fun _ => 0))), (q71, .inl ((cT 0), 1400, .inl (fun _ => 0))), (q72, .inl ((cT 0), 16, .inl (fun _ => 0))), (q73, .inl ((cT 0), 1200, .inl (fun _ => 0))), (q78, .inl ((cT 0), 41, .inl (fun _ => 0)))] := hD
  refine va_putF (D := (dC, dI)) (ci := 12) (v := (.ref q78)) (ty := (.array .int)) (C := R_Md) (T := F_Md) (N := 45) hx hb hg in_Md t_Md tok_Md nm_Md hown hK hP hD hS 0 rfl rfl 20 (by decide) (hg _ k_1040) (fun _ h9 => h9) rfl hin rfl (by decide +kernel) rfl rfl (Nat.le_of_ble_eq_true rfl) d_Md_init_561 (fun H locs hP hD hS => ?_)
  have hP : va_P (dC, dI) vcl [(mo, .inr (12, [.ref q1, .int 0, .int 0, .ref q66, .ref q67, .ref q68, .ref q69, .ref q70, .int 0, .ref q71, .int 0, .ref q72, .ref q73, .ref q74, .int 0, .ref q75, .int 0, .int 0, .ref q76, .ref q77, .ref q78, .null, .null, .null, .int 0, .null, .null, .null, .null, .null, .null, .long 0, .long 0, .int 0, .null, .null, .null, .null, .null, .null, .null, .null, .null, .int 0, .int 0])), (q1, .inl ((cT 1), 64, .inr (.inl f65))), (q66, .inl ((cT 0), 160, .inl (fun _ => 0))), (q67, .inl ((cT 0), 4, .inl (fun _ => 0))), (q68, .inl ((cT 0), 1920, .inl (fun _ => 0))), (q69, .inl ((cT 0), 32, .inl (fun _ => 0))), (q70, .inl ((cT 0), 1000, .inl (fun _ => 0))), (q71, .inl ((cT 0), 1400, .inl (fun _ => 0))), (q72, .inl ((cT 0), 16, .inl (fun _ => 0))), (q73, .inl ((cT 0), 1200, .inl (fun _ => 0))), (q78, .inl ((cT 0), 41, .inl (fun _ => 0)))] H := hP
  have hD : va_D A [(mo, .inr (12, [.ref q1, .int 0, .int 0, .ref q66, .ref q67, .ref q68, .ref q69, .ref q70, .int 0, .ref q71, .int 0, .ref q72, .ref q73, .ref q74, .int 0, .ref q75, .int 0, .int 0, .ref q76, .ref q77, .ref q78, .null, .null, .null, .int 0, .null, .null, .null, .null, .null, .null, .long 0, .long 0, .int 0, .null, .null, .null, .null, .null, .null, .null, .null, .null, .int 0, .int 0])), (q1, .inl ((cT 1), 64, .inr (.inl f65))), (q66, .inl ((cT 0), 160, .inl (fun _ => 0))), (q67, .inl ((cT 0), 4, .inl (fun _ => 0))), (q68, .inl ((cT 0), 1920, .inl (fun _ => 0))), (q69, .inl ((cT 0), 32, .inl (fun _ => 0))), (q70, .inl ((cT 0), 1000, .inl (fun _ => 0))), (q71, .inl ((cT 0), 1400, .inl (fun _ => 0))), (q72, .inl ((cT 0), 16, .inl (fun _ => 0))), (q73, .inl ((cT 0), 1200, .inl (fun _ => 0))), (q78, .inl ((cT 0), 41, .inl (fun _ => 0)))] := hD
  have hP := hP.sub (ws' := [(mo, .inr (12, [.ref q1, .int 0, .int 0, .ref q66, .ref q67, .ref q68, .ref q69, .ref q70, .int 0, .ref q71, .int 0, .ref q72, .ref q73, .ref q74, .int 0, .ref q75, .int 0, .int 0, .ref q76, .ref q77, .ref q78, .null, .null, .null, .int 0, .null, .null, .null, .null, .null, .null, .long 0, .long 0, .int 0, .null, .null, .null, .null, .null, .null, .null, .null, .null, .int 0, .int 0])), (q1, .inl ((cT 1), 64, .inr (.inl f65))), (q66, .inl ((cT 0), 160, .inl (fun _ => 0))), (q67, .inl ((cT 0), 4, .inl (fun _ => 0))), (q68, .inl ((cT 0), 1920, .inl (fun _ => 0))), (q69, .inl ((cT 0), 32, .inl (fun _ => 0))), (q70, .inl ((cT 0), 1000, .inl (fun _ => 0))), (q71, .inl ((cT 0), 1400, .inl (fun _ => 0))), (q72, .inl ((cT 0), 16, .inl (fun _ => 0))), (q73, .inl ((cT 0), 1200, .inl (fun _ => 0)))]) [0, 1, 2, 3, 4, 5, 6, 7, 8, 9] rfl
  have hD := hD.sub (ws' := [(mo, .inr (12, [.ref q1, .int 0, .int 0, .ref q66, .ref q67, .ref q68, .ref q69, .ref q70, .int 0, .ref q71, .int 0, .ref q72, .ref q73, .ref q74, .int 0, .ref q75, .int 0, .int 0, .ref q76, .ref q77, .ref q78, .null, .null, .null, .int 0, .null, .null, .null, .null, .null, .null, .long 0, .long 0, .int 0, .null, .null, .null, .null, .null, .null, .null, .null, .null, .int 0, .int 0])), (q1, .inl ((cT 1), 64, .inr (.inl f65))), (q66, .inl ((cT 0), 160, .inl (fun _ => 0))), (q67, .inl ((cT 0), 4, .inl (fun _ => 0))), (q68, .inl ((cT 0), 1920, .inl (fun _ => 0))), (q69, .inl ((cT 0), 32, .inl (fun _ => 0))), (q70, .inl ((cT 0), 1000, .inl (fun _ => 0))), (q71, .inl ((cT 0), 1400, .inl (fun _ => 0))), (q72, .inl ((cT 0), 16, .inl (fun _ => 0))), (q73, .inl ((cT 0), 1200, .inl (fun _ => 0)))]) [0, 1, 2, 3, 4, 5, 6, 7, 8, 9] (by decide) rfl
  refine lv_aload_n hx hb d_Md_init_564 rfl (lv_at hl 0 rfl) ?_
  refine lv_bipush (v := 41) hx hb d_Md_init_565 (by decide) ?_
  refine va_newa (atype := .int) (ty := .int) (n := 41) (N' := 41) (a0 := (41, .inl (fun _ => 0))) hx hb (hg _ k_67) rfl hK hP hD hS hA (fun _ => rfl) (by decide) (by decide) (by decide) (Nat.le_of_ble_eq_true rfl) (Nat.le_of_ble_eq_true rfl) d_Md_init_567 (fun q79 cA9 H hK9 hP hD hS => ?_)
  obtain rfl := nk_int hK9
  clear hK9
  have hP : va_P (dC, dI) vcl [(mo, .inr (12, [.ref q1, .int 0, .int 0, .ref q66, .ref q67, .ref q68, .ref q69, .ref q70, .int 0, .ref q71, .int 0, .ref q72, .ref q73, .ref q74, .int 0, .ref q75, .int 0, .int 0, .ref q76, .ref q77, .ref q78, .null, .null, .null, .int 0, .null, .null, .null, .null, .null, .null, .long 0, .long 0, .int 0, .null, .null, .null, .null, .null, .null, .null, .null, .null, .int 0, .int 0])), (q1, .inl ((cT 1), 64, .inr (.inl f65))), (q66, .inl ((cT 0), 160, .inl (fun _ => 0))), (q67, .inl ((cT 0), 4, .inl (fun _ => 0))), (q68, .inl ((cT 0), 1920, .inl (fun _ => 0))), (q69, .inl ((cT 0), 32, .inl (fun _ => 0))), (q70, .inl ((cT 0), 1000, .inl (fun _ => 0))), (q71, .inl ((cT 0), 1400, .inl (fun _ => 0))), (q72, .inl ((cT 0), 16, .inl (fun _ => 0))), (q73, .inl ((cT 0), 1200, .inl (fun _ => 0))), (q79, .inl ((cT 0), 41, .inl (fun _ => 0)))] H := hP
  have hD : va_D A [(mo, .inr (12, [.ref q1, .int 0, .int 0, .ref q66, .ref q67, .ref q68, .ref q69, .ref q70, .int 0, .ref q71, .int 0, .ref q72, .ref q73, .ref q74, .int 0, .ref q75, .int 0, .int 0, .ref q76, .ref q77, .ref q78, .null, .null, .null, .int 0, .null, .null, .null, .null, .null, .null, .long 0, .long 0, .int 0, .null, .null, .null, .null, .null, .null, .null, .null, .null, .int 0, .int 0])), (q1, .inl ((cT 1), 64, .inr (.inl f65))), (q66, .inl ((cT 0), 160, .inl (fun _ => 0))), (q67, .inl ((cT 0), 4, .inl (fun _ => 0))), (q68, .inl ((cT 0), 1920, .inl (fun _ => 0))), (q69, .inl ((cT 0), 32, .inl (fun _ => 0))), (q70, .inl ((cT 0), 1000, .inl (fun _ => 0))), (q71, .inl ((cT 0), 1400, .inl (fun _ => 0))), (q72, .inl ((cT 0), 16, .inl (fun _ => 0))), (q73, .inl ((cT 0), 1200, .inl (fun _ => 0))), (q79, .inl ((cT 0), 41, .inl (fun _ => 0)))] := hD
  refine va_putF (D := (dC, dI)) (ci := 12) (v := (.ref q79)) (ty := (.array .int)) (C := R_Md) (T := F_Md) (N := 45) hx hb hg in_Md t_Md tok_Md nm_Md hown hK hP hD hS 0 rfl rfl 21 (by decide) (hg _ k_1041) (fun _ h9 => h9) rfl hin rfl (by decide +kernel) rfl rfl (Nat.le_of_ble_eq_true rfl) d_Md_init_569 (fun H locs hP hD hS => ?_)
  have hP : va_P (dC, dI) vcl [(mo, .inr (12, [.ref q1, .int 0, .int 0, .ref q66, .ref q67, .ref q68, .ref q69, .ref q70, .int 0, .ref q71, .int 0, .ref q72, .ref q73, .ref q74, .int 0, .ref q75, .int 0, .int 0, .ref q76, .ref q77, .ref q78, .ref q79, .null, .null, .int 0, .null, .null, .null, .null, .null, .null, .long 0, .long 0, .int 0, .null, .null, .null, .null, .null, .null, .null, .null, .null, .int 0, .int 0])), (q1, .inl ((cT 1), 64, .inr (.inl f65))), (q66, .inl ((cT 0), 160, .inl (fun _ => 0))), (q67, .inl ((cT 0), 4, .inl (fun _ => 0))), (q68, .inl ((cT 0), 1920, .inl (fun _ => 0))), (q69, .inl ((cT 0), 32, .inl (fun _ => 0))), (q70, .inl ((cT 0), 1000, .inl (fun _ => 0))), (q71, .inl ((cT 0), 1400, .inl (fun _ => 0))), (q72, .inl ((cT 0), 16, .inl (fun _ => 0))), (q73, .inl ((cT 0), 1200, .inl (fun _ => 0))), (q79, .inl ((cT 0), 41, .inl (fun _ => 0)))] H := hP
  have hD : va_D A [(mo, .inr (12, [.ref q1, .int 0, .int 0, .ref q66, .ref q67, .ref q68, .ref q69, .ref q70, .int 0, .ref q71, .int 0, .ref q72, .ref q73, .ref q74, .int 0, .ref q75, .int 0, .int 0, .ref q76, .ref q77, .ref q78, .ref q79, .null, .null, .int 0, .null, .null, .null, .null, .null, .null, .long 0, .long 0, .int 0, .null, .null, .null, .null, .null, .null, .null, .null, .null, .int 0, .int 0])), (q1, .inl ((cT 1), 64, .inr (.inl f65))), (q66, .inl ((cT 0), 160, .inl (fun _ => 0))), (q67, .inl ((cT 0), 4, .inl (fun _ => 0))), (q68, .inl ((cT 0), 1920, .inl (fun _ => 0))), (q69, .inl ((cT 0), 32, .inl (fun _ => 0))), (q70, .inl ((cT 0), 1000, .inl (fun _ => 0))), (q71, .inl ((cT 0), 1400, .inl (fun _ => 0))), (q72, .inl ((cT 0), 16, .inl (fun _ => 0))), (q73, .inl ((cT 0), 1200, .inl (fun _ => 0))), (q79, .inl ((cT 0), 41, .inl (fun _ => 0)))] := hD
  have hP := hP.sub (ws' := [(mo, .inr (12, [.ref q1, .int 0, .int 0, .ref q66, .ref q67, .ref q68, .ref q69, .ref q70, .int 0, .ref q71, .int 0, .ref q72, .ref q73, .ref q74, .int 0, .ref q75, .int 0, .int 0, .ref q76, .ref q77, .ref q78, .ref q79, .null, .null, .int 0, .null, .null, .null, .null, .null, .null, .long 0, .long 0, .int 0, .null, .null, .null, .null, .null, .null, .null, .null, .null, .int 0, .int 0])), (q1, .inl ((cT 1), 64, .inr (.inl f65))), (q66, .inl ((cT 0), 160, .inl (fun _ => 0))), (q67, .inl ((cT 0), 4, .inl (fun _ => 0))), (q68, .inl ((cT 0), 1920, .inl (fun _ => 0))), (q69, .inl ((cT 0), 32, .inl (fun _ => 0))), (q70, .inl ((cT 0), 1000, .inl (fun _ => 0))), (q71, .inl ((cT 0), 1400, .inl (fun _ => 0))), (q72, .inl ((cT 0), 16, .inl (fun _ => 0))), (q73, .inl ((cT 0), 1200, .inl (fun _ => 0)))]) [0, 1, 2, 3, 4, 5, 6, 7, 8, 9] rfl
  have hD := hD.sub (ws' := [(mo, .inr (12, [.ref q1, .int 0, .int 0, .ref q66, .ref q67, .ref q68, .ref q69, .ref q70, .int 0, .ref q71, .int 0, .ref q72, .ref q73, .ref q74, .int 0, .ref q75, .int 0, .int 0, .ref q76, .ref q77, .ref q78, .ref q79, .null, .null, .int 0, .null, .null, .null, .null, .null, .null, .long 0, .long 0, .int 0, .null, .null, .null, .null, .null, .null, .null, .null, .null, .int 0, .int 0])), (q1, .inl ((cT 1), 64, .inr (.inl f65))), (q66, .inl ((cT 0), 160, .inl (fun _ => 0))), (q67, .inl ((cT 0), 4, .inl (fun _ => 0))), (q68, .inl ((cT 0), 1920, .inl (fun _ => 0))), (q69, .inl ((cT 0), 32, .inl (fun _ => 0))), (q70, .inl ((cT 0), 1000, .inl (fun _ => 0))), (q71, .inl ((cT 0), 1400, .inl (fun _ => 0))), (q72, .inl ((cT 0), 16, .inl (fun _ => 0))), (q73, .inl ((cT 0), 1200, .inl (fun _ => 0)))]) [0, 1, 2, 3, 4, 5, 6, 7, 8, 9] (by decide) rfl
  refine lv_aload_n hx hb d_Md_init_572 rfl (lv_at hl 0 rfl) ?_
  refine lv_sipush (v := 8200) hx hb d_Md_init_573 (by decide) ?_
  refine va_newa (atype := .int) (ty := .int) (n := 8200) (N' := 8200) (a0 := (8200, .inl (fun _ => 0))) hx hb (hg _ k_67) rfl hK hP hD hS hA (fun _ => rfl) (by decide) (by decide) (by decide) (Nat.le_of_ble_eq_true rfl) (Nat.le_of_ble_eq_true rfl) d_Md_init_576 (fun q80 cA9 H hK9 hP hD hS => ?_)
  obtain rfl := nk_int hK9
  clear hK9
  have hP : va_P (dC, dI) vcl [(mo, .inr (12, [.ref q1, .int 0, .int 0, .ref q66, .ref q67, .ref q68, .ref q69, .ref q70, .int 0, .ref q71, .int 0, .ref q72, .ref q73, .ref q74, .int 0, .ref q75, .int 0, .int 0, .ref q76, .ref q77, .ref q78, .ref q79, .null, .null, .int 0, .null, .null, .null, .null, .null, .null, .long 0, .long 0, .int 0, .null, .null, .null, .null, .null, .null, .null, .null, .null, .int 0, .int 0])), (q1, .inl ((cT 1), 64, .inr (.inl f65))), (q66, .inl ((cT 0), 160, .inl (fun _ => 0))), (q67, .inl ((cT 0), 4, .inl (fun _ => 0))), (q68, .inl ((cT 0), 1920, .inl (fun _ => 0))), (q69, .inl ((cT 0), 32, .inl (fun _ => 0))), (q70, .inl ((cT 0), 1000, .inl (fun _ => 0))), (q71, .inl ((cT 0), 1400, .inl (fun _ => 0))), (q72, .inl ((cT 0), 16, .inl (fun _ => 0))), (q73, .inl ((cT 0), 1200, .inl (fun _ => 0))), (q80, .inl ((cT 0), 8200, .inl (fun _ => 0)))] H := hP
  have hD : va_D A [(mo, .inr (12, [.ref q1, .int 0, .int 0, .ref q66, .ref q67, .ref q68, .ref q69, .ref q70, .int 0, .ref q71, .int 0, .ref q72, .ref q73, .ref q74, .int 0, .ref q75, .int 0, .int 0, .ref q76, .ref q77, .ref q78, .ref q79, .null, .null, .int 0, .null, .null, .null, .null, .null, .null, .long 0, .long 0, .int 0, .null, .null, .null, .null, .null, .null, .null, .null, .null, .int 0, .int 0])), (q1, .inl ((cT 1), 64, .inr (.inl f65))), (q66, .inl ((cT 0), 160, .inl (fun _ => 0))), (q67, .inl ((cT 0), 4, .inl (fun _ => 0))), (q68, .inl ((cT 0), 1920, .inl (fun _ => 0))), (q69, .inl ((cT 0), 32, .inl (fun _ => 0))), (q70, .inl ((cT 0), 1000, .inl (fun _ => 0))), (q71, .inl ((cT 0), 1400, .inl (fun _ => 0))), (q72, .inl ((cT 0), 16, .inl (fun _ => 0))), (q73, .inl ((cT 0), 1200, .inl (fun _ => 0))), (q80, .inl ((cT 0), 8200, .inl (fun _ => 0)))] := hD
  refine va_putF (D := (dC, dI)) (ci := 12) (v := (.ref q80)) (ty := (.array .int)) (C := R_Md) (T := F_Md) (N := 45) hx hb hg in_Md t_Md tok_Md nm_Md hown hK hP hD hS 0 rfl rfl 22 (by decide) (hg _ k_1042) (fun _ h9 => h9) rfl hin rfl (by decide +kernel) rfl rfl (Nat.le_of_ble_eq_true rfl) d_Md_init_578 (fun H locs hP hD hS => ?_)
  have hP : va_P (dC, dI) vcl [(mo, .inr (12, [.ref q1, .int 0, .int 0, .ref q66, .ref q67, .ref q68, .ref q69, .ref q70, .int 0, .ref q71, .int 0, .ref q72, .ref q73, .ref q74, .int 0, .ref q75, .int 0, .int 0, .ref q76, .ref q77, .ref q78, .ref q79, .ref q80, .null, .int 0, .null, .null, .null, .null, .null, .null, .long 0, .long 0, .int 0, .null, .null, .null, .null, .null, .null, .null, .null, .null, .int 0, .int 0])), (q1, .inl ((cT 1), 64, .inr (.inl f65))), (q66, .inl ((cT 0), 160, .inl (fun _ => 0))), (q67, .inl ((cT 0), 4, .inl (fun _ => 0))), (q68, .inl ((cT 0), 1920, .inl (fun _ => 0))), (q69, .inl ((cT 0), 32, .inl (fun _ => 0))), (q70, .inl ((cT 0), 1000, .inl (fun _ => 0))), (q71, .inl ((cT 0), 1400, .inl (fun _ => 0))), (q72, .inl ((cT 0), 16, .inl (fun _ => 0))), (q73, .inl ((cT 0), 1200, .inl (fun _ => 0))), (q80, .inl ((cT 0), 8200, .inl (fun _ => 0)))] H := hP
  have hD : va_D A [(mo, .inr (12, [.ref q1, .int 0, .int 0, .ref q66, .ref q67, .ref q68, .ref q69, .ref q70, .int 0, .ref q71, .int 0, .ref q72, .ref q73, .ref q74, .int 0, .ref q75, .int 0, .int 0, .ref q76, .ref q77, .ref q78, .ref q79, .ref q80, .null, .int 0, .null, .null, .null, .null, .null, .null, .long 0, .long 0, .int 0, .null, .null, .null, .null, .null, .null, .null, .null, .null, .int 0, .int 0])), (q1, .inl ((cT 1), 64, .inr (.inl f65))), (q66, .inl ((cT 0), 160, .inl (fun _ => 0))), (q67, .inl ((cT 0), 4, .inl (fun _ => 0))), (q68, .inl ((cT 0), 1920, .inl (fun _ => 0))), (q69, .inl ((cT 0), 32, .inl (fun _ => 0))), (q70, .inl ((cT 0), 1000, .inl (fun _ => 0))), (q71, .inl ((cT 0), 1400, .inl (fun _ => 0))), (q72, .inl ((cT 0), 16, .inl (fun _ => 0))), (q73, .inl ((cT 0), 1200, .inl (fun _ => 0))), (q80, .inl ((cT 0), 8200, .inl (fun _ => 0)))] := hD
  have hP := hP.sub (ws' := [(mo, .inr (12, [.ref q1, .int 0, .int 0, .ref q66, .ref q67, .ref q68, .ref q69, .ref q70, .int 0, .ref q71, .int 0, .ref q72, .ref q73, .ref q74, .int 0, .ref q75, .int 0, .int 0, .ref q76, .ref q77, .ref q78, .ref q79, .ref q80, .null, .int 0, .null, .null, .null, .null, .null, .null, .long 0, .long 0, .int 0, .null, .null, .null, .null, .null, .null, .null, .null, .null, .int 0, .int 0])), (q1, .inl ((cT 1), 64, .inr (.inl f65))), (q66, .inl ((cT 0), 160, .inl (fun _ => 0))), (q67, .inl ((cT 0), 4, .inl (fun _ => 0))), (q68, .inl ((cT 0), 1920, .inl (fun _ => 0))), (q69, .inl ((cT 0), 32, .inl (fun _ => 0))), (q70, .inl ((cT 0), 1000, .inl (fun _ => 0))), (q71, .inl ((cT 0), 1400, .inl (fun _ => 0))), (q72, .inl ((cT 0), 16, .inl (fun _ => 0))), (q73, .inl ((cT 0), 1200, .inl (fun _ => 0)))]) [0, 1, 2, 3, 4, 5, 6, 7, 8, 9] rfl
  have hD := hD.sub (ws' := [(mo, .inr (12, [.ref q1, .int 0, .int 0, .ref q66, .ref q67, .ref q68, .ref q69, .ref q70, .int 0, .ref q71, .int 0, .ref q72, .ref q73, .ref q74, .int 0, .ref q75, .int 0, .int 0, .ref q76, .ref q77, .ref q78, .ref q79, .ref q80, .null, .int 0, .null, .null, .null, .null, .null, .null, .long 0, .long 0, .int 0, .null, .null, .null, .null, .null, .null, .null, .null, .null, .int 0, .int 0])), (q1, .inl ((cT 1), 64, .inr (.inl f65))), (q66, .inl ((cT 0), 160, .inl (fun _ => 0))), (q67, .inl ((cT 0), 4, .inl (fun _ => 0))), (q68, .inl ((cT 0), 1920, .inl (fun _ => 0))), (q69, .inl ((cT 0), 32, .inl (fun _ => 0))), (q70, .inl ((cT 0), 1000, .inl (fun _ => 0))), (q71, .inl ((cT 0), 1400, .inl (fun _ => 0))), (q72, .inl ((cT 0), 16, .inl (fun _ => 0))), (q73, .inl ((cT 0), 1200, .inl (fun _ => 0)))]) [0, 1, 2, 3, 4, 5, 6, 7, 8, 9] (by decide) rfl
  refine lv_aload_n hx hb d_Md_init_581 rfl (lv_at hl 0 rfl) ?_
  refine lv_sipush (v := 656) hx hb d_Md_init_582 (by decide) ?_
  refine va_newa (atype := .int) (ty := .int) (n := 656) (N' := 656) (a0 := (656, .inl (fun _ => 0))) hx hb (hg _ k_67) rfl hK hP hD hS hA (fun _ => rfl) (by decide) (by decide) (by decide) (Nat.le_of_ble_eq_true rfl) (Nat.le_of_ble_eq_true rfl) d_Md_init_585 (fun q81 cA9 H hK9 hP hD hS => ?_)
  obtain rfl := nk_int hK9
  clear hK9
  have hP : va_P (dC, dI) vcl [(mo, .inr (12, [.ref q1, .int 0, .int 0, .ref q66, .ref q67, .ref q68, .ref q69, .ref q70, .int 0, .ref q71, .int 0, .ref q72, .ref q73, .ref q74, .int 0, .ref q75, .int 0, .int 0, .ref q76, .ref q77, .ref q78, .ref q79, .ref q80, .null, .int 0, .null, .null, .null, .null, .null, .null, .long 0, .long 0, .int 0, .null, .null, .null, .null, .null, .null, .null, .null, .null, .int 0, .int 0])), (q1, .inl ((cT 1), 64, .inr (.inl f65))), (q66, .inl ((cT 0), 160, .inl (fun _ => 0))), (q67, .inl ((cT 0), 4, .inl (fun _ => 0))), (q68, .inl ((cT 0), 1920, .inl (fun _ => 0))), (q69, .inl ((cT 0), 32, .inl (fun _ => 0))), (q70, .inl ((cT 0), 1000, .inl (fun _ => 0))), (q71, .inl ((cT 0), 1400, .inl (fun _ => 0))), (q72, .inl ((cT 0), 16, .inl (fun _ => 0))), (q73, .inl ((cT 0), 1200, .inl (fun _ => 0))), (q81, .inl ((cT 0), 656, .inl (fun _ => 0)))] H := hP
  have hD : va_D A [(mo, .inr (12, [.ref q1, .int 0, .int 0, .ref q66, .ref q67, .ref q68, .ref q69, .ref q70, .int 0, .ref q71, .int 0, .ref q72, .ref q73, .ref q74, .int 0, .ref q75, .int 0, .int 0, .ref q76, .ref q77, .ref q78, .ref q79, .ref q80, .null, .int 0, .null, .null, .null, .null, .null, .null, .long 0, .long 0, .int 0, .null, .null, .null, .null, .null, .null, .null, .null, .null, .int 0, .int 0])), (q1, .inl ((cT 1), 64, .inr (.inl f65))), (q66, .inl ((cT 0), 160, .inl (fun _ => 0))), (q67, .inl ((cT 0), 4, .inl (fun _ => 0))), (q68, .inl ((cT 0), 1920, .inl (fun _ => 0))), (q69, .inl ((cT 0), 32, .inl (fun _ => 0))), (q70, .inl ((cT 0), 1000, .inl (fun _ => 0))), (q71, .inl ((cT 0), 1400, .inl (fun _ => 0))), (q72, .inl ((cT 0), 16, .inl (fun _ => 0))), (q73, .inl ((cT 0), 1200, .inl (fun _ => 0))), (q81, .inl ((cT 0), 656, .inl (fun _ => 0)))] := hD
  refine va_putF (D := (dC, dI)) (ci := 12) (v := (.ref q81)) (ty := (.array .int)) (C := R_Md) (T := F_Md) (N := 45) hx hb hg in_Md t_Md tok_Md nm_Md hown hK hP hD hS 0 rfl rfl 23 (by decide) (hg _ k_1043) (fun _ h9 => h9) rfl hin rfl (by decide +kernel) rfl rfl (Nat.le_of_ble_eq_true rfl) d_Md_init_587 (fun H locs hP hD hS => ?_)
  have hP : va_P (dC, dI) vcl [(mo, .inr (12, [.ref q1, .int 0, .int 0, .ref q66, .ref q67, .ref q68, .ref q69, .ref q70, .int 0, .ref q71, .int 0, .ref q72, .ref q73, .ref q74, .int 0, .ref q75, .int 0, .int 0, .ref q76, .ref q77, .ref q78, .ref q79, .ref q80, .ref q81, .int 0, .null, .null, .null, .null, .null, .null, .long 0, .long 0, .int 0, .null, .null, .null, .null, .null, .null, .null, .null, .null, .int 0, .int 0])), (q1, .inl ((cT 1), 64, .inr (.inl f65))), (q66, .inl ((cT 0), 160, .inl (fun _ => 0))), (q67, .inl ((cT 0), 4, .inl (fun _ => 0))), (q68, .inl ((cT 0), 1920, .inl (fun _ => 0))), (q69, .inl ((cT 0), 32, .inl (fun _ => 0))), (q70, .inl ((cT 0), 1000, .inl (fun _ => 0))), (q71, .inl ((cT 0), 1400, .inl (fun _ => 0))), (q72, .inl ((cT 0), 16, .inl (fun _ => 0))), (q73, .inl ((cT 0), 1200, .inl (fun _ => 0))), (q81, .inl ((cT 0), 656, .inl (fun _ => 0)))] H := hP
  have hD : va_D A [(mo, .inr (12, [.ref q1, .int 0, .int 0, .ref q66, .ref q67, .ref q68, .ref q69, .ref q70, .int 0, .ref q71, .int 0, .ref q72, .ref q73, .ref q74, .int 0, .ref q75, .int 0, .int 0, .ref q76, .ref q77, .ref q78, .ref q79, .ref q80, .ref q81, .int 0, .null, .null, .null, .null, .null, .null, .long 0, .long 0, .int 0, .null, .null, .null, .null, .null, .null, .null, .null, .null, .int 0, .int 0])), (q1, .inl ((cT 1), 64, .inr (.inl f65))), (q66, .inl ((cT 0), 160, .inl (fun _ => 0))), (q67, .inl ((cT 0), 4, .inl (fun _ => 0))), (q68, .inl ((cT 0), 1920, .inl (fun _ => 0))), (q69, .inl ((cT 0), 32, .inl (fun _ => 0))), (q70, .inl ((cT 0), 1000, .inl (fun _ => 0))), (q71, .inl ((cT 0), 1400, .inl (fun _ => 0))), (q72, .inl ((cT 0), 16, .inl (fun _ => 0))), (q73, .inl ((cT 0), 1200, .inl (fun _ => 0))), (q81, .inl ((cT 0), 656, .inl (fun _ => 0)))] := hD
  have hP := hP.sub (ws' := [(mo, .inr (12, [.ref q1, .int 0, .int 0, .ref q66, .ref q67, .ref q68, .ref q69, .ref q70, .int 0, .ref q71, .int 0, .ref q72, .ref q73, .ref q74, .int 0, .ref q75, .int 0, .int 0, .ref q76, .ref q77, .ref q78, .ref q79, .ref q80, .ref q81, .int 0, .null, .null, .null, .null, .null, .null, .long 0, .long 0, .int 0, .null, .null, .null, .null, .null, .null, .null, .null, .null, .int 0, .int 0])), (q1, .inl ((cT 1), 64, .inr (.inl f65))), (q66, .inl ((cT 0), 160, .inl (fun _ => 0))), (q67, .inl ((cT 0), 4, .inl (fun _ => 0))), (q68, .inl ((cT 0), 1920, .inl (fun _ => 0))), (q69, .inl ((cT 0), 32, .inl (fun _ => 0))), (q70, .inl ((cT 0), 1000, .inl (fun _ => 0))), (q71, .inl ((cT 0), 1400, .inl (fun _ => 0))), (q72, .inl ((cT 0), 16, .inl (fun _ => 0))), (q73, .inl ((cT 0), 1200, .inl (fun _ => 0)))]) [0, 1, 2, 3, 4, 5, 6, 7, 8, 9] rfl
  have hD := hD.sub (ws' := [(mo, .inr (12, [.ref q1, .int 0, .int 0, .ref q66, .ref q67, .ref q68, .ref q69, .ref q70, .int 0, .ref q71, .int 0, .ref q72, .ref q73, .ref q74, .int 0, .ref q75, .int 0, .int 0, .ref q76, .ref q77, .ref q78, .ref q79, .ref q80, .ref q81, .int 0, .null, .null, .null, .null, .null, .null, .long 0, .long 0, .int 0, .null, .null, .null, .null, .null, .null, .null, .null, .null, .int 0, .int 0])), (q1, .inl ((cT 1), 64, .inr (.inl f65))), (q66, .inl ((cT 0), 160, .inl (fun _ => 0))), (q67, .inl ((cT 0), 4, .inl (fun _ => 0))), (q68, .inl ((cT 0), 1920, .inl (fun _ => 0))), (q69, .inl ((cT 0), 32, .inl (fun _ => 0))), (q70, .inl ((cT 0), 1000, .inl (fun _ => 0))), (q71, .inl ((cT 0), 1400, .inl (fun _ => 0))), (q72, .inl ((cT 0), 16, .inl (fun _ => 0))), (q73, .inl ((cT 0), 1200, .inl (fun _ => 0)))]) [0, 1, 2, 3, 4, 5, 6, 7, 8, 9] (by decide) rfl
  refine lv_aload_n hx hb d_Md_init_590 rfl (lv_at hl 0 rfl) ?_
  refine lv_bipush (v := 7) hx hb d_Md_init_591 (by decide) ?_
  refine va_newa (atype := .long) (ty := .long) (n := 7) (N' := 7) (a0 := (7, .inr (.inl (fun _ => 0)))) hx hb (hg _ k_1156) rfl hK hP hD hS hA (fun _ => rfl) (by decide) (by decide) (by decide) (Nat.le_of_ble_eq_true rfl) (Nat.le_of_ble_eq_true rfl) d_Md_init_593 (fun q82 cA9 H hK9 hP hD hS => ?_)
  obtain rfl := nk_long hK9
  clear hK9
  have hP : va_P (dC, dI) vcl [(mo, .inr (12, [.ref q1, .int 0, .int 0, .ref q66, .ref q67, .ref q68, .ref q69, .ref q70, .int 0, .ref q71, .int 0, .ref q72, .ref q73, .ref q74, .int 0, .ref q75, .int 0, .int 0, .ref q76, .ref q77, .ref q78, .ref q79, .ref q80, .ref q81, .int 0, .null, .null, .null, .null, .null, .null, .long 0, .long 0, .int 0, .null, .null, .null, .null, .null, .null, .null, .null, .null, .int 0, .int 0])), (q1, .inl ((cT 1), 64, .inr (.inl f65))), (q66, .inl ((cT 0), 160, .inl (fun _ => 0))), (q67, .inl ((cT 0), 4, .inl (fun _ => 0))), (q68, .inl ((cT 0), 1920, .inl (fun _ => 0))), (q69, .inl ((cT 0), 32, .inl (fun _ => 0))), (q70, .inl ((cT 0), 1000, .inl (fun _ => 0))), (q71, .inl ((cT 0), 1400, .inl (fun _ => 0))), (q72, .inl ((cT 0), 16, .inl (fun _ => 0))), (q73, .inl ((cT 0), 1200, .inl (fun _ => 0))), (q82, .inl ((cT 1), 7, .inr (.inl (fun _ => 0))))] H := hP
  have hD : va_D A [(mo, .inr (12, [.ref q1, .int 0, .int 0, .ref q66, .ref q67, .ref q68, .ref q69, .ref q70, .int 0, .ref q71, .int 0, .ref q72, .ref q73, .ref q74, .int 0, .ref q75, .int 0, .int 0, .ref q76, .ref q77, .ref q78, .ref q79, .ref q80, .ref q81, .int 0, .null, .null, .null, .null, .null, .null, .long 0, .long 0, .int 0, .null, .null, .null, .null, .null, .null, .null, .null, .null, .int 0, .int 0])), (q1, .inl ((cT 1), 64, .inr (.inl f65))), (q66, .inl ((cT 0), 160, .inl (fun _ => 0))), (q67, .inl ((cT 0), 4, .inl (fun _ => 0))), (q68, .inl ((cT 0), 1920, .inl (fun _ => 0))), (q69, .inl ((cT 0), 32, .inl (fun _ => 0))), (q70, .inl ((cT 0), 1000, .inl (fun _ => 0))), (q71, .inl ((cT 0), 1400, .inl (fun _ => 0))), (q72, .inl ((cT 0), 16, .inl (fun _ => 0))), (q73, .inl ((cT 0), 1200, .inl (fun _ => 0))), (q82, .inl ((cT 1), 7, .inr (.inl (fun _ => 0))))] := hD
  refine va_putF (D := (dC, dI)) (ci := 12) (v := (.ref q82)) (ty := (.array .long)) (C := R_Md) (T := F_Md) (N := 45) hx hb hg in_Md t_Md tok_Md nm_Md hown hK hP hD hS 0 rfl rfl 25 (by decide) (hg _ k_1045) (fun _ h9 => h9) rfl hin rfl (by decide +kernel) rfl rfl (Nat.le_of_ble_eq_true rfl) d_Md_init_595 (fun H locs hP hD hS => ?_)
  have hP : va_P (dC, dI) vcl [(mo, .inr (12, [.ref q1, .int 0, .int 0, .ref q66, .ref q67, .ref q68, .ref q69, .ref q70, .int 0, .ref q71, .int 0, .ref q72, .ref q73, .ref q74, .int 0, .ref q75, .int 0, .int 0, .ref q76, .ref q77, .ref q78, .ref q79, .ref q80, .ref q81, .int 0, .ref q82, .null, .null, .null, .null, .null, .long 0, .long 0, .int 0, .null, .null, .null, .null, .null, .null, .null, .null, .null, .int 0, .int 0])), (q1, .inl ((cT 1), 64, .inr (.inl f65))), (q66, .inl ((cT 0), 160, .inl (fun _ => 0))), (q67, .inl ((cT 0), 4, .inl (fun _ => 0))), (q68, .inl ((cT 0), 1920, .inl (fun _ => 0))), (q69, .inl ((cT 0), 32, .inl (fun _ => 0))), (q70, .inl ((cT 0), 1000, .inl (fun _ => 0))), (q71, .inl ((cT 0), 1400, .inl (fun _ => 0))), (q72, .inl ((cT 0), 16, .inl (fun _ => 0))), (q73, .inl ((cT 0), 1200, .inl (fun _ => 0))), (q82, .inl ((cT 1), 7, .inr (.inl (fun _ => 0))))] H := hP
  have hD : va_D A [(mo, .inr (12, [.ref q1, .int 0, .int 0, .ref q66, .ref q67, .ref q68, .ref q69, .ref q70, .int 0, .ref q71, .int 0, .ref q72, .ref q73, .ref q74, .int 0, .ref q75, .int 0, .int 0, .ref q76, .ref q77, .ref q78, .ref q79, .ref q80, .ref q81, .int 0, .ref q82, .null, .null, .null, .null, .null, .long 0, .long 0, .int 0, .null, .null, .null, .null, .null, .null, .null, .null, .null, .int 0, .int 0])), (q1, .inl ((cT 1), 64, .inr (.inl f65))), (q66, .inl ((cT 0), 160, .inl (fun _ => 0))), (q67, .inl ((cT 0), 4, .inl (fun _ => 0))), (q68, .inl ((cT 0), 1920, .inl (fun _ => 0))), (q69, .inl ((cT 0), 32, .inl (fun _ => 0))), (q70, .inl ((cT 0), 1000, .inl (fun _ => 0))), (q71, .inl ((cT 0), 1400, .inl (fun _ => 0))), (q72, .inl ((cT 0), 16, .inl (fun _ => 0))), (q73, .inl ((cT 0), 1200, .inl (fun _ => 0))), (q82, .inl ((cT 1), 7, .inr (.inl (fun _ => 0))))] := hD
  have hP := hP.sub (ws' := [(mo, .inr (12, [.ref q1, .int 0, .int 0, .ref q66, .ref q67, .ref q68, .ref q69, .ref q70, .int 0, .ref q71, .int 0, .ref q72, .ref q73, .ref q74, .int 0, .ref q75, .int 0, .int 0, .ref q76, .ref q77, .ref q78, .ref q79, .ref q80, .ref q81, .int 0, .ref q82, .null, .null, .null, .null, .null, .long 0, .long 0, .int 0, .null, .null, .null, .null, .null, .null, .null, .null, .null, .int 0, .int 0])), (q1, .inl ((cT 1), 64, .inr (.inl f65))), (q66, .inl ((cT 0), 160, .inl (fun _ => 0))), (q67, .inl ((cT 0), 4, .inl (fun _ => 0))), (q68, .inl ((cT 0), 1920, .inl (fun _ => 0))), (q69, .inl ((cT 0), 32, .inl (fun _ => 0))), (q70, .inl ((cT 0), 1000, .inl (fun _ => 0))), (q71, .inl ((cT 0), 1400, .inl (fun _ => 0))), (q72, .inl ((cT 0), 16, .inl (fun _ => 0))), (q73, .inl ((cT 0), 1200, .inl (fun _ => 0)))]) [0, 1, 2, 3, 4, 5, 6, 7, 8, 9] rfl
  have hD := hD.sub (ws' := [(mo, .inr (12, [.ref q1, .int 0, .int 0, .ref q66, .ref q67, .ref q68, .ref q69, .ref q70, .int 0, .ref q71, .int 0, .ref q72, .ref q73, .ref q74, .int 0, .ref q75, .int 0, .int 0, .ref q76, .ref q77, .ref q78, .ref q79, .ref q80, .ref q81, .int 0, .ref q82, .null, .null, .null, .null, .null, .long 0, .long 0, .int 0, .null, .null, .null, .null, .null, .null, .null, .null, .null, .int 0, .int 0])), (q1, .inl ((cT 1), 64, .inr (.inl f65))), (q66, .inl ((cT 0), 160, .inl (fun _ => 0))), (q67, .inl ((cT 0), 4, .inl (fun _ => 0))), (q68, .inl ((cT 0), 1920, .inl (fun _ => 0))), (q69, .inl ((cT 0), 32, .inl (fun _ => 0))), (q70, .inl ((cT 0), 1000, .inl (fun _ => 0))), (q71, .inl ((cT 0), 1400, .inl (fun _ => 0))), (q72, .inl ((cT 0), 16, .inl (fun _ => 0))), (q73, .inl ((cT 0), 1200, .inl (fun _ => 0)))]) [0, 1, 2, 3, 4, 5, 6, 7, 8, 9] (by decide) rfl
  refine lv_aload_n hx hb d_Md_init_598 rfl (lv_at hl 0 rfl) ?_
  refine lv_bipush (v := 7) hx hb d_Md_init_599 (by decide) ?_
  refine va_newa (atype := .int) (ty := .int) (n := 7) (N' := 7) (a0 := (7, .inl (fun _ => 0))) hx hb (hg _ k_67) rfl hK hP hD hS hA (fun _ => rfl) (by decide) (by decide) (by decide) (Nat.le_of_ble_eq_true rfl) (Nat.le_of_ble_eq_true rfl) d_Md_init_601 (fun q83 cA9 H hK9 hP hD hS => ?_)
  obtain rfl := nk_int hK9
  clear hK9
  have hP : va_P (dC, dI) vcl [(mo, .inr (12, [.ref q1, .int 0, .int 0, .ref q66, .ref q67, .ref q68, .ref q69, .ref q70, .int 0, .ref q71, .int 0, .ref q72, .ref q73, .ref q74, .int 0, .ref q75, .int 0, .int 0, .ref q76, .ref q77, .ref q78, .ref q79, .ref q80, .ref q81, .int 0, .ref q82, .null, .null, .null, .null, .null, .long 0, .long 0, .int 0, .null, .null, .null, .null, .null, .null, .null, .null, .null, .int 0, .int 0])), (q1, .inl ((cT 1), 64, .inr (.inl f65))), (q66, .inl ((cT 0), 160, .inl (fun _ => 0))), (q67, .inl ((cT 0), 4, .inl (fun _ => 0))), (q68, .inl ((cT 0), 1920, .inl (fun _ => 0))), (q69, .inl ((cT 0), 32, .inl (fun _ => 0))), (q70, .inl ((cT 0), 1000, .inl (fun _ => 0))), (q71, .inl ((cT 0), 1400, .inl (fun _ => 0))), (q72, .inl ((cT 0), 16, .inl (fun _ => 0))), (q73, .inl ((cT 0), 1200, .inl (fun _ => 0))), (q83, .inl ((cT 0), 7, .inl (fun _ => 0)))] H := hP
  have hD : va_D A [(mo, .inr (12, [.ref q1, .int 0, .int 0, .ref q66, .ref q67, .ref q68, .ref q69, .ref q70, .int 0, .ref q71, .int 0, .ref q72, .ref q73, .ref q74, .int 0, .ref q75, .int 0, .int 0, .ref q76, .ref q77, .ref q78, .ref q79, .ref q80, .ref q81, .int 0, .ref q82, .null, .null, .null, .null, .null, .long 0, .long 0, .int 0, .null, .null, .null, .null, .null, .null, .null, .null, .null, .int 0, .int 0])), (q1, .inl ((cT 1), 64, .inr (.inl f65))), (q66, .inl ((cT 0), 160, .inl (fun _ => 0))), (q67, .inl ((cT 0), 4, .inl (fun _ => 0))), (q68, .inl ((cT 0), 1920, .inl (fun _ => 0))), (q69, .inl ((cT 0), 32, .inl (fun _ => 0))), (q70, .inl ((cT 0), 1000, .inl (fun _ => 0))), (q71, .inl ((cT 0), 1400, .inl (fun _ => 0))), (q72, .inl ((cT 0), 16, .inl (fun _ => 0))), (q73, .inl ((cT 0), 1200, .inl (fun _ => 0))), (q83, .inl ((cT 0), 7, .inl (fun _ => 0)))] := hD
  refine va_putF (D := (dC, dI)) (ci := 12) (v := (.ref q83)) (ty := (.array .int)) (C := R_Md) (T := F_Md) (N := 45) hx hb hg in_Md t_Md tok_Md nm_Md hown hK hP hD hS 0 rfl rfl 26 (by decide) (hg _ k_1046) (fun _ h9 => h9) rfl hin rfl (by decide +kernel) rfl rfl (Nat.le_of_ble_eq_true rfl) d_Md_init_603 (fun H locs hP hD hS => ?_)
  have hP : va_P (dC, dI) vcl [(mo, .inr (12, [.ref q1, .int 0, .int 0, .ref q66, .ref q67, .ref q68, .ref q69, .ref q70, .int 0, .ref q71, .int 0, .ref q72, .ref q73, .ref q74, .int 0, .ref q75, .int 0, .int 0, .ref q76, .ref q77, .ref q78, .ref q79, .ref q80, .ref q81, .int 0, .ref q82, .ref q83, .null, .null, .null, .null, .long 0, .long 0, .int 0, .null, .null, .null, .null, .null, .null, .null, .null, .null, .int 0, .int 0])), (q1, .inl ((cT 1), 64, .inr (.inl f65))), (q66, .inl ((cT 0), 160, .inl (fun _ => 0))), (q67, .inl ((cT 0), 4, .inl (fun _ => 0))), (q68, .inl ((cT 0), 1920, .inl (fun _ => 0))), (q69, .inl ((cT 0), 32, .inl (fun _ => 0))), (q70, .inl ((cT 0), 1000, .inl (fun _ => 0))), (q71, .inl ((cT 0), 1400, .inl (fun _ => 0))), (q72, .inl ((cT 0), 16, .inl (fun _ => 0))), (q73, .inl ((cT 0), 1200, .inl (fun _ => 0))), (q83, .inl ((cT 0), 7, .inl (fun _ => 0)))] H := hP
  have hD : va_D A [(mo, .inr (12, [.ref q1, .int 0, .int 0, .ref q66, .ref q67, .ref q68, .ref q69, .ref q70, .int 0, .ref q71, .int 0, .ref q72, .ref q73, .ref q74, .int 0, .ref q75, .int 0, .int 0, .ref q76, .ref q77, .ref q78, .ref q79, .ref q80, .ref q81, .int 0, .ref q82, .ref q83, .null, .null, .null, .null, .long 0, .long 0, .int 0, .null, .null, .null, .null, .null, .null, .null, .null, .null, .int 0, .int 0])), (q1, .inl ((cT 1), 64, .inr (.inl f65))), (q66, .inl ((cT 0), 160, .inl (fun _ => 0))), (q67, .inl ((cT 0), 4, .inl (fun _ => 0))), (q68, .inl ((cT 0), 1920, .inl (fun _ => 0))), (q69, .inl ((cT 0), 32, .inl (fun _ => 0))), (q70, .inl ((cT 0), 1000, .inl (fun _ => 0))), (q71, .inl ((cT 0), 1400, .inl (fun _ => 0))), (q72, .inl ((cT 0), 16, .inl (fun _ => 0))), (q73, .inl ((cT 0), 1200, .inl (fun _ => 0))), (q83, .inl ((cT 0), 7, .inl (fun _ => 0)))] := hD
  have hP := hP.sub (ws' := [(mo, .inr (12, [.ref q1, .int 0, .int 0, .ref q66, .ref q67, .ref q68, .ref q69, .ref q70, .int 0, .ref q71, .int 0, .ref q72, .ref q73, .ref q74, .int 0, .ref q75, .int 0, .int 0, .ref q76, .ref q77, .ref q78, .ref q79, .ref q80, .ref q81, .int 0, .ref q82, .ref q83, .null, .null, .null, .null, .long 0, .long 0, .int 0, .null, .null, .null, .null, .null, .null, .null, .null, .null, .int 0, .int 0])), (q1, .inl ((cT 1), 64, .inr (.inl f65))), (q66, .inl ((cT 0), 160, .inl (fun _ => 0))), (q67, .inl ((cT 0), 4, .inl (fun _ => 0))), (q68, .inl ((cT 0), 1920, .inl (fun _ => 0))), (q69, .inl ((cT 0), 32, .inl (fun _ => 0))), (q70, .inl ((cT 0), 1000, .inl (fun _ => 0))), (q71, .inl ((cT 0), 1400, .inl (fun _ => 0))), (q72, .inl ((cT 0), 16, .inl (fun _ => 0))), (q73, .inl ((cT 0), 1200, .inl (fun _ => 0)))]) [0, 1, 2, 3, 4, 5, 6, 7, 8, 9] rfl
  have hD := hD.sub (ws' := [(mo, .inr (12, [.ref q1, .int 0, .int 0, .ref q66, .ref q67, .ref q68, .ref q69, .ref q70, .int 0, .ref q71, .int 0, .ref q72, .ref q73, .ref q74, .int 0, .ref q75, .int 0, .int 0, .ref q76, .ref q77, .ref q78, .ref q79, .ref q80, .ref q81, .int 0, .ref q82, .ref q83, .null, .null, .null, .null, .long 0, .long 0, .int 0, .null, .null, .null, .null, .null, .null, .null, .null, .null, .int 0, .int 0])), (q1, .inl ((cT 1), 64, .inr (.inl f65))), (q66, .inl ((cT 0), 160, .inl (fun _ => 0))), (q67, .inl ((cT 0), 4, .inl (fun _ => 0))), (q68, .inl ((cT 0), 1920, .inl (fun _ => 0))), (q69, .inl ((cT 0), 32, .inl (fun _ => 0))), (q70, .inl ((cT 0), 1000, .inl (fun _ => 0))), (q71, .inl ((cT 0), 1400, .inl (fun _ => 0))), (q72, .inl ((cT 0), 16, .inl (fun _ => 0))), (q73, .inl ((cT 0), 1200, .inl (fun _ => 0)))]) [0, 1, 2, 3, 4, 5, 6, 7, 8, 9] (by decide) rfl
  refine lv_aload_n hx hb d_Md_init_606 rfl (lv_at hl 0 rfl) ?_
  refine lv_bipush (v := 7) hx hb d_Md_init_607 (by decide) ?_
  refine va_newa (atype := .int) (ty := .int) (n := 7) (N' := 7) (a0 := (7, .inl (fun _ => 0))) hx hb (hg _ k_67) rfl hK hP hD hS hA (fun _ => rfl) (by decide) (by decide) (by decide) (Nat.le_of_ble_eq_true rfl) (Nat.le_of_ble_eq_true rfl) d_Md_init_609 (fun q84 cA9 H hK9 hP hD hS => ?_)
  obtain rfl := nk_int hK9
  clear hK9
  have hP : va_P (dC, dI) vcl [(mo, .inr (12, [.ref q1, .int 0, .int 0, .ref q66, .ref q67, .ref q68, .ref q69, .ref q70, .int 0, .ref q71, .int 0, .ref q72, .ref q73, .ref q74, .int 0, .ref q75, .int 0, .int 0, .ref q76, .ref q77, .ref q78, .ref q79, .ref q80, .ref q81, .int 0, .ref q82, .ref q83, .null, .null, .null, .null, .long 0, .long 0, .int 0, .null, .null, .null, .null, .null, .null, .null, .null, .null, .int 0, .int 0])), (q1, .inl ((cT 1), 64, .inr (.inl f65))), (q66, .inl ((cT 0), 160, .inl (fun _ => 0))), (q67, .inl ((cT 0), 4, .inl (fun _ => 0))), (q68, .inl ((cT 0), 1920, .inl (fun _ => 0))), (q69, .inl ((cT 0), 32, .inl (fun _ => 0))), (q70, .inl ((cT 0), 1000, .inl (fun _ => 0))), (q71, .inl ((cT 0), 1400, .inl (fun _ => 0))), (q72, .inl ((cT 0), 16, .inl (fun _ => 0))), (q73, .inl ((cT 0), 1200, .inl (fun _ => 0))), (q84, .inl ((cT 0), 7, .inl (fun _ => 0)))] H := hP
  have hD : va_D A [(mo, .inr (12, [.ref q1, .int 0, .int 0, .ref q66, .ref q67, .ref q68, .ref q69, .ref q70, .int 0, .ref q71, .int 0, .ref q72, .ref q73, .ref q74, .int 0, .ref q75, .int 0, .int 0, .ref q76, .ref q77, .ref q78, .ref q79, .ref q80, .ref q81, .int 0, .ref q82, .ref q83, .null, .null, .null, .null, .long 0, .long 0, .int 0, .null, .null, .null, .null, .null, .null, .null, .null, .null, .int 0, .int 0])), (q1, .inl ((cT 1), 64, .inr (.inl f65))), (q66, .inl ((cT 0), 160, .inl (fun _ => 0))), (q67, .inl ((cT 0), 4, .inl (fun _ => 0))), (q68, .inl ((cT 0), 1920, .inl (fun _ => 0))), (q69, .inl ((cT 0), 32, .inl (fun _ => 0))), (q70, .inl ((cT 0), 1000, .inl (fun _ => 0))), (q71, .inl ((cT 0), 1400, .inl (fun _ => 0))), (q72, .inl ((cT 0), 16, .inl (fun _ => 0))), (q73, .inl ((cT 0), 1200, .inl (fun _ => 0))), (q84, .inl ((cT 0), 7, .inl (fun _ => 0)))] := hD
  refine va_putF (D := (dC, dI)) (ci := 12) (v := (.ref q84)) (ty := (.array .int)) (C := R_Md) (T := F_Md) (N := 45) hx hb hg in_Md t_Md tok_Md nm_Md hown hK hP hD hS 0 rfl rfl 27 (by decide) (hg _ k_1047) (fun _ h9 => h9) rfl hin rfl (by decide +kernel) rfl rfl (Nat.le_of_ble_eq_true rfl) d_Md_init_611 (fun H locs hP hD hS => ?_)
  have hP : va_P (dC, dI) vcl [(mo, .inr (12, [.ref q1, .int 0, .int 0, .ref q66, .ref q67, .ref q68, .ref q69, .ref q70, .int 0, .ref q71, .int 0, .ref q72, .ref q73, .ref q74, .int 0, .ref q75, .int 0, .int 0, .ref q76, .ref q77, .ref q78, .ref q79, .ref q80, .ref q81, .int 0, .ref q82, .ref q83, .ref q84, .null, .null, .null, .long 0, .long 0, .int 0, .null, .null, .null, .null, .null, .null, .null, .null, .null, .int 0, .int 0])), (q1, .inl ((cT 1), 64, .inr (.inl f65))), (q66, .inl ((cT 0), 160, .inl (fun _ => 0))), (q67, .inl ((cT 0), 4, .inl (fun _ => 0))), (q68, .inl ((cT 0), 1920, .inl (fun _ => 0))), (q69, .inl ((cT 0), 32, .inl (fun _ => 0))), (q70, .inl ((cT 0), 1000, .inl (fun _ => 0))), (q71, .inl ((cT 0), 1400, .inl (fun _ => 0))), (q72, .inl ((cT 0), 16, .inl (fun _ => 0))), (q73, .inl ((cT 0), 1200, .inl (fun _ => 0))), (q84, .inl ((cT 0), 7, .inl (fun _ => 0)))] H := hP
  have hD : va_D A [(mo, .inr (12, [.ref q1, .int 0, .int 0, .ref q66, .ref q67, .ref q68, .ref q69, .ref q70, .int 0, .ref q71, .int 0, .ref q72, .ref q73, .ref q74, .int 0, .ref q75, .int 0, .int 0, .ref q76, .ref q77, .ref q78, .ref q79, .ref q80, .ref q81, .int 0, .ref q82, .ref q83, .ref q84, .null, .null, .null, .long 0, .long 0, .int 0, .null, .null, .null, .null, .null, .null, .null, .null, .null, .int 0, .int 0])), (q1, .inl ((cT 1), 64, .inr (.inl f65))), (q66, .inl ((cT 0), 160, .inl (fun _ => 0))), (q67, .inl ((cT 0), 4, .inl (fun _ => 0))), (q68, .inl ((cT 0), 1920, .inl (fun _ => 0))), (q69, .inl ((cT 0), 32, .inl (fun _ => 0))), (q70, .inl ((cT 0), 1000, .inl (fun _ => 0))), (q71, .inl ((cT 0), 1400, .inl (fun _ => 0))), (q72, .inl ((cT 0), 16, .inl (fun _ => 0))), (q73, .inl ((cT 0), 1200, .inl (fun _ => 0))), (q84, .inl ((cT 0), 7, .inl (fun _ => 0)))] := hD
  have hP := hP.sub (ws' := [(mo, .inr (12, [.ref q1, .int 0, .int 0, .ref q66, .ref q67, .ref q68, .ref q69, .ref q70, .int 0, .ref q71, .int 0, .ref q72, .ref q73, .ref q74, .int 0, .ref q75, .int 0, .int 0, .ref q76, .ref q77, .ref q78, .ref q79, .ref q80, .ref q81, .int 0, .ref q82, .ref q83, .ref q84, .null, .null, .null, .long 0, .long 0, .int 0, .null, .null, .null, .null, .null, .null, .null, .null, .null, .int 0, .int 0])), (q1, .inl ((cT 1), 64, .inr (.inl f65))), (q66, .inl ((cT 0), 160, .inl (fun _ => 0))), (q67, .inl ((cT 0), 4, .inl (fun _ => 0))), (q68, .inl ((cT 0), 1920, .inl (fun _ => 0))), (q69, .inl ((cT 0), 32, .inl (fun _ => 0))), (q70, .inl ((cT 0), 1000, .inl (fun _ => 0))), (q71, .inl ((cT 0), 1400, .inl (fun _ => 0))), (q72, .inl ((cT 0), 16, .inl (fun _ => 0))), (q73, .inl ((cT 0), 1200, .inl (fun _ => 0)))]) [0, 1, 2, 3, 4, 5, 6, 7, 8, 9] rfl
  have hD := hD.sub (ws' := [(mo, .inr (12, [.ref q1, .int 0, .int 0, .ref q66, .ref q67, .ref q68, .ref q69, .ref q70, .int 0, .ref q71, .int 0, .ref q72, .ref q73, .ref q74, .int 0, .ref q75, .int 0, .int 0, .ref q76, .ref q77, .ref q78, .ref q79, .ref q80, .ref q81, .int 0, .ref q82, .ref q83, .ref q84, .null, .null, .null, .long 0, .long 0, .int 0, .null, .null, .null, .null, .null, .null, .null, .null, .null, .int 0, .int 0])), (q1, .inl ((cT 1), 64, .inr (.inl f65))), (q66, .inl ((cT 0), 160, .inl (fun _ => 0))), (q67, .inl ((cT 0), 4, .inl (fun _ => 0))), (q68, .inl ((cT 0), 1920, .inl (fun _ => 0))), (q69, .inl ((cT 0), 32, .inl (fun _ => 0))), (q70, .inl ((cT 0), 1000, .inl (fun _ => 0))), (q71, .inl ((cT 0), 1400, .inl (fun _ => 0))), (q72, .inl ((cT 0), 16, .inl (fun _ => 0))), (q73, .inl ((cT 0), 1200, .inl (fun _ => 0)))]) [0, 1, 2, 3, 4, 5, 6, 7, 8, 9] (by decide) rfl
  refine lv_aload_n hx hb d_Md_init_614 rfl (lv_at hl 0 rfl) ?_
  refine lv_bipush (v := 7) hx hb d_Md_init_615 (by decide) ?_
  refine va_newa (atype := .int) (ty := .int) (n := 7) (N' := 7) (a0 := (7, .inl (fun _ => 0))) hx hb (hg _ k_67) rfl hK hP hD hS hA (fun _ => rfl) (by decide) (by decide) (by decide) (Nat.le_of_ble_eq_true rfl) (Nat.le_of_ble_eq_true rfl) d_Md_init_617 (fun q85 cA9 H hK9 hP hD hS => ?_)
  obtain rfl := nk_int hK9
  clear hK9
  have hP : va_P (dC, dI) vcl [(mo, .inr (12, [.ref q1, .int 0, .int 0, .ref q66, .ref q67, .ref q68, .ref q69, .ref q70, .int 0, .ref q71, .int 0, .ref q72, .ref q73, .ref q74, .int 0, .ref q75, .int 0, .int 0, .ref q76, .ref q77, .ref q78, .ref q79, .ref q80, .ref q81, .int 0, .ref q82, .ref q83, .ref q84, .null, .null, .null, .long 0, .long 0, .int 0, .null, .null, .null, .null, .null, .null, .null, .null, .null, .int 0, .int 0])), (q1, .inl ((cT 1), 64, .inr (.inl f65))), (q66, .inl ((cT 0), 160, .inl (fun _ => 0))), (q67, .inl ((cT 0), 4, .inl (fun _ => 0))), (q68, .inl ((cT 0), 1920, .inl (fun _ => 0))), (q69, .inl ((cT 0), 32, .inl (fun _ => 0))), (q70, .inl ((cT 0), 1000, .inl (fun _ => 0))), (q71, .inl ((cT 0), 1400, .inl (fun _ => 0))), (q72, .inl ((cT 0), 16, .inl (fun _ => 0))), (q73, .inl ((cT 0), 1200, .inl (fun _ => 0))), (q85, .inl ((cT 0), 7, .inl (fun _ => 0)))] H := hP
  have hD : va_D A [(mo, .inr (12, [.ref q1, .int 0, .int 0, .ref q66, .ref q67, .ref q68, .ref q69, .ref q70, .int 0, .ref q71, .int 0, .ref q72, .ref q73, .ref q74, .int 0, .ref q75, .int 0, .int 0, .ref q76, .ref q77, .ref q78, .ref q79, .ref q80, .ref q81, .int 0, .ref q82, .ref q83, .ref q84, .null, .null, .null, .long 0, .long 0, .int 0, .null, .null, .null, .null, .null, .null, .null, .null, .null, .int 0, .int 0])), (q1, .inl ((cT 1), 64, .inr (.inl f65))), (q66, .inl ((cT 0), 160, .inl (fun _ => 0))), (q67, .inl ((cT 0), 4, .inl (fun _ => 0))), (q68, .inl ((cT 0), 1920, .inl (fun _ => 0))), (q69, .inl ((cT 0), 32, .inl (fun _ => 0))), (q70, .inl ((cT 0), 1000, .inl (fun _ => 0))), (q71, .inl ((cT 0), 1400, .inl (fun _ => 0))), (q72, .inl ((cT 0), 16, .inl (fun _ => 0))), (q73, .inl ((cT 0), 1200, .inl (fun _ => 0))), (q85, .inl ((cT 0), 7, .inl (fun _ => 0)))] := hD
  refine va_putF (D := (dC, dI)) (ci := 12) (v := (.ref q85)) (ty := (.array .int)) (C := R_Md) (T := F_Md) (N := 45) hx hb hg in_Md t_Md tok_Md nm_Md hown hK hP hD hS 0 rfl rfl 28 (by decide) (hg _ k_1048) (fun _ h9 => h9) rfl hin rfl (by decide +kernel) rfl rfl (Nat.le_of_ble_eq_true rfl) d_Md_init_619 (fun H locs hP hD hS => ?_)
  have hP : va_P (dC, dI) vcl [(mo, .inr (12, [.ref q1, .int 0, .int 0, .ref q66, .ref q67, .ref q68, .ref q69, .ref q70, .int 0, .ref q71, .int 0, .ref q72, .ref q73, .ref q74, .int 0, .ref q75, .int 0, .int 0, .ref q76, .ref q77, .ref q78, .ref q79, .ref q80, .ref q81, .int 0, .ref q82, .ref q83, .ref q84, .ref q85, .null, .null, .long 0, .long 0, .int 0, .null, .null, .null, .null, .null, .null, .null, .null, .null, .int 0, .int 0])), (q1, .inl ((cT 1), 64, .inr (.inl f65))), (q66, .inl ((cT 0), 160, .inl (fun _ => 0))), (q67, .inl ((cT 0), 4, .inl (fun _ => 0))), (q68, .inl ((cT 0), 1920, .inl (fun _ => 0))), (q69, .inl ((cT 0), 32, .inl (fun _ => 0))), (q70, .inl ((cT 0), 1000, .inl (fun _ => 0))), (q71, .inl ((cT 0), 1400, .inl (fun _ => 0))), (q72, .inl ((cT 0), 16, .inl (fun _ => 0))), (q73, .inl ((cT 0), 1200, .inl (fun _ => 0))), (q85, .inl ((cT 0), 7, .inl (fun _ => 0)))] H := hP
  have hD : va_D A [(mo, .inr (12, [.ref q1, .int 0, .int 0, .ref q66, .ref q67, .ref q68, .ref q69, .ref q70, .int 0, .ref q71, .int 0, .ref q72, .ref q73, .ref q74, .int 0, .ref q75, .int 0, .int 0, .ref q76, .ref q77, .ref q78, .ref q79, .ref q80, .ref q81, .int 0, .ref q82, .ref q83, .ref q84, .ref q85, .null, .null, .long 0, .long 0, .int 0, .null, .null, .null, .null, .null, .null, .null, .null, .null, .int 0, .int 0])), (q1, .inl ((cT 1), 64, .inr (.inl f65))), (q66, .inl ((cT 0), 160, .inl (fun _ => 0))), (q67, .inl ((cT 0), 4, .inl (fun _ => 0))), (q68, .inl ((cT 0), 1920, .inl (fun _ => 0))), (q69, .inl ((cT 0), 32, .inl (fun _ => 0))), (q70, .inl ((cT 0), 1000, .inl (fun _ => 0))), (q71, .inl ((cT 0), 1400, .inl (fun _ => 0))), (q72, .inl ((cT 0), 16, .inl (fun _ => 0))), (q73, .inl ((cT 0), 1200, .inl (fun _ => 0))), (q85, .inl ((cT 0), 7, .inl (fun _ => 0)))] := hD
  have hP := hP.sub (ws' := [(mo, .inr (12, [.ref q1, .int 0, .int 0, .ref q66, .ref q67, .ref q68, .ref q69, .ref q70, .int 0, .ref q71, .int 0, .ref q72, .ref q73, .ref q74, .int 0, .ref q75, .int 0, .int 0, .ref q76, .ref q77, .ref q78, .ref q79, .ref q80, .ref q81, .int 0, .ref q82, .ref q83, .ref q84, .ref q85, .null, .null, .long 0, .long 0, .int 0, .null, .null, .null, .null, .null, .null, .null, .null, .null, .int 0, .int 0])), (q1, .inl ((cT 1), 64, .inr (.inl f65))), (q66, .inl ((cT 0), 160, .inl (fun _ => 0))), (q67, .inl ((cT 0), 4, .inl (fun _ => 0))), (q68, .inl ((cT 0), 1920, .inl (fun _ => 0))), (q69, .inl ((cT 0), 32, .inl (fun _ => 0))), (q70, .inl ((cT 0), 1000, .inl (fun _ => 0))), (q71, .inl ((cT 0), 1400, .inl (fun _ => 0))), (q72, .inl ((cT 0), 16, .inl (fun _ => 0))), (q73, .inl ((cT 0), 1200, .inl (fun _ => 0)))]) [0, 1, 2, 3, 4, 5, 6, 7, 8, 9] rfl
  have hD := hD.sub (ws' := [(mo, .inr (12, [.ref q1, .int 0, .int 0, .ref q66, .ref q67, .ref q68, .ref q69, .ref q70, .int 0, .ref q71, .int 0, .ref q72, .ref q73, .ref q74, .int 0, .ref q75, .int 0, .int 0, .ref q76, .ref q77, .ref q78, .ref q79, .ref q80, .ref q81, .int 0, .ref q82, .ref q83, .ref q84, .ref q85, .null, .null, .long 0, .long 0, .int 0, .null, .null, .null, .null, .null, .null, .null, .null, .null, .int 0, .int 0])), (q1, .inl ((cT 1), 64, .inr (.inl f65))), (q66, .inl ((cT 0), 160, .inl (fun _ => 0))), (q67, .inl ((cT 0), 4, .inl (fun _ => 0))), (q68, .inl ((cT 0), 1920, .inl (fun _ => 0))), (q69, .inl ((cT 0), 32, .inl (fun _ => 0))), (q70, .inl ((cT 0), 1000, .inl (fun _ => 0))), (q71, .inl ((cT 0), 1400, .inl (fun _ => 0))), (q72, .inl ((cT 0), 16, .inl (fun _ => 0))), (q73, .inl ((cT 0), 1200, .inl (fun _ => 0)))]) [0, 1, 2, 3, 4, 5, 6, 7, 8, 9] (by decide) rfl
  refine lv_aload_n hx hb d_Md_init_622 rfl (lv_at hl 0 rfl) ?_
  refine lv_bipush (v := 7) hx hb d_Md_init_623 (by decide) ?_
  refine va_newa (atype := .int) (ty := .int) (n := 7) (N' := 7) (a0 := (7, .inl (fun _ => 0))) hx hb (hg _ k_67) rfl hK hP hD hS hA (fun _ => rfl) (by decide) (by decide) (by decide) (Nat.le_of_ble_eq_true rfl) (Nat.le_of_ble_eq_true rfl) d_Md_init_625 (fun q86 cA9 H hK9 hP hD hS => ?_)
  obtain rfl := nk_int hK9
  clear hK9
  have hP : va_P (dC, dI) vcl [(mo, .inr (12, [.ref q1, .int 0, .int 0, .ref q66, .ref q67, .ref q68, .ref q69, .ref q70, .int 0, .ref q71, .int 0, .ref q72, .ref q73, .ref q74, .int 0, .ref q75, .int 0, .int 0, .ref q76, .ref q77, .ref q78, .ref q79, .ref q80, .ref q81, .int 0, .ref q82, .ref q83, .ref q84, .ref q85, .null, .null, .long 0, .long 0, .int 0, .null, .null, .null, .null, .null, .null, .null, .null, .null, .int 0, .int 0])), (q1, .inl ((cT 1), 64, .inr (.inl f65))), (q66, .inl ((cT 0), 160, .inl (fun _ => 0))), (q67, .inl ((cT 0), 4, .inl (fun _ => 0))), (q68, .inl ((cT 0), 1920, .inl (fun _ => 0))), (q69, .inl ((cT 0), 32, .inl (fun _ => 0))), (q70, .inl ((cT 0), 1000, .inl (fun _ => 0))), (q71, .inl ((cT 0), 1400, .inl (fun _ => 0))), (q72, .inl ((cT 0), 16, .inl (fun _ => 0))), (q73, .inl ((cT 0), 1200, .inl (fun _ => 0))), (q86, .inl ((cT 0), 7, .inl (fun _ => 0)))] H := hP
  have hD : va_D A [(mo, .inr (12, [.ref q1, .int 0, .int 0, .ref q66, .ref q67, .ref q68, .ref q69, .ref q70, .int 0, .ref q71, .int 0, .ref q72, .ref q73, .ref q74, .int 0, .ref q75, .int 0, .int 0, .ref q76, .ref q77, .ref q78, .ref q79, .ref q80, .ref q81, .int 0, .ref q82, .ref q83, .ref q84, .ref q85, .null, .null, .long 0, .long 0, .int 0, .null, .null, .null, .null, .null, .null, .null, .null, .null, .int 0, .int 0])), (q1, .inl ((cT 1), 64, .inr (.inl f65))), (q66, .inl ((cT 0), 160, .inl (fun _ => 0))), (q67, .inl ((cT 0), 4, .inl (fun _ => 0))), (q68, .inl ((cT 0), 1920, .inl (fun _ => 0))), (q69, .inl ((cT 0), 32, .inl (fun _ => 0))), (q70, .inl ((cT 0), 1000, .inl (fun _ => 0))), (q71, .inl ((cT 0), 1400, .inl (fun _ => 0))), (q72, .inl ((cT 0), 16, .inl (fun _ => 0))), (q73, .inl ((cT 0), 1200, .inl (fun _ => 0))), (q86, .inl ((cT 0), 7, .inl (fun _ => 0)))] := hD
  refine va_putF (D := (dC, dI)) (ci := 12) (v := (.ref q86)) (ty := (.array .int)) (C := R_Md) (T := F_Md) (N := 45) hx hb hg in_Md t_Md tok_Md nm_Md hown hK hP hD hS 0 rfl rfl 29 (by decide) (hg _ k_1049) (fun _ h9 => h9) rfl hin rfl (by decide +kernel) rfl rfl (Nat.le_of_ble_eq_true rfl) d_Md_init_627 (fun H locs hP hD hS => ?_)
  have hP : va_P (dC, dI) vcl [(mo, .inr (12, [.ref q1, .int 0, .int 0, .ref q66, .ref q67, .ref q68, .ref q69, .ref q70, .int 0, .ref q71, .int 0, .ref q72, .ref q73, .ref q74, .int 0, .ref q75, .int 0, .int 0, .ref q76, .ref q77, .ref q78, .ref q79, .ref q80, .ref q81, .int 0, .ref q82, .ref q83, .ref q84, .ref q85, .ref q86, .null, .long 0, .long 0, .int 0, .null, .null, .null, .null, .null, .null, .null, .null, .null, .int 0, .int 0])), (q1, .inl ((cT 1), 64, .inr (.inl f65))), (q66, .inl ((cT 0), 160, .inl (fun _ => 0))), (q67, .inl ((cT 0), 4, .inl (fun _ => 0))), (q68, .inl ((cT 0), 1920, .inl (fun _ => 0))), (q69, .inl ((cT 0), 32, .inl (fun _ => 0))), (q70, .inl ((cT 0), 1000, .inl (fun _ => 0))), (q71, .inl ((cT 0), 1400, .inl (fun _ => 0))), (q72, .inl ((cT 0), 16, .inl (fun _ => 0))), (q73, .inl ((cT 0), 1200, .inl (fun _ => 0))), (q86, .inl ((cT 0), 7, .inl (fun _ => 0)))] H := hP
  have hD : va_D A [(mo, .inr (12, [.ref q1, .int 0, .int 0, .ref q66, .ref q67, .ref q68, .ref q69, .ref q70, .int 0, .ref q71, .int 0, .ref q72, .ref q73, .ref q74, .int 0, .ref q75, .int 0, .int 0, .ref q76, .ref q77, .ref q78, .ref q79, .ref q80, .ref q81, .int 0, .ref q82, .ref q83, .ref q84, .ref q85, .ref q86, .null, .long 0, .long 0, .int 0, .null, .null, .null, .null, .null, .null, .null, .null, .null, .int 0, .int 0])), (q1, .inl ((cT 1), 64, .inr (.inl f65))), (q66, .inl ((cT 0), 160, .inl (fun _ => 0))), (q67, .inl ((cT 0), 4, .inl (fun _ => 0))), (q68, .inl ((cT 0), 1920, .inl (fun _ => 0))), (q69, .inl ((cT 0), 32, .inl (fun _ => 0))), (q70, .inl ((cT 0), 1000, .inl (fun _ => 0))), (q71, .inl ((cT 0), 1400, .inl (fun _ => 0))), (q72, .inl ((cT 0), 16, .inl (fun _ => 0))), (q73, .inl ((cT 0), 1200, .inl (fun _ => 0))), (q86, .inl ((cT 0), 7, .inl (fun _ => 0)))] := hD
  have hP := hP.sub (ws' := [(mo, .inr (12, [.ref q1, .int 0, .int 0, .ref q66, .ref q67, .ref q68, .ref q69, .ref q70, .int 0, .ref q71, .int 0, .ref q72, .ref q73, .ref q74, .int 0, .ref q75, .int 0, .int 0, .ref q76, .ref q77, .ref q78, .ref q79, .ref q80, .ref q81, .int 0, .ref q82, .ref q83, .ref q84, .ref q85, .ref q86, .null, .long 0, .long 0, .int 0, .null, .null, .null, .null, .null, .null, .null, .null, .null, .int 0, .int 0])), (q1, .inl ((cT 1), 64, .inr (.inl f65))), (q66, .inl ((cT 0), 160, .inl (fun _ => 0))), (q67, .inl ((cT 0), 4, .inl (fun _ => 0))), (q68, .inl ((cT 0), 1920, .inl (fun _ => 0))), (q69, .inl ((cT 0), 32, .inl (fun _ => 0))), (q70, .inl ((cT 0), 1000, .inl (fun _ => 0))), (q71, .inl ((cT 0), 1400, .inl (fun _ => 0))), (q72, .inl ((cT 0), 16, .inl (fun _ => 0))), (q73, .inl ((cT 0), 1200, .inl (fun _ => 0)))]) [0, 1, 2, 3, 4, 5, 6, 7, 8, 9] rfl
  have hD := hD.sub (ws' := [(mo, .inr (12, [.ref q1, .int 0, .int 0, .ref q66, .ref q67, .ref q68, .ref q69, .ref q70, .int 0, .ref q71, .int 0, .ref q72, .ref q73, .ref q74, .int 0, .ref q75, .int 0, .int 0, .ref q76, .ref q77, .ref q78, .ref q79, .ref q80, .ref q81, .int 0, .ref q82, .ref q83, .ref q84, .ref q85, .ref q86, .null, .long 0, .long 0, .int 0, .null, .null, .null, .null, .null, .null, .null, .null, .null, .int 0, .int 0])), (q1, .inl ((cT 1), 64, .inr (.inl f65))), (q66, .inl ((cT 0), 160, .inl (fun _ => 0))), (q67, .inl ((cT 0), 4, .inl (fun _ => 0))), (q68, .inl ((cT 0), 1920, .inl (fun _ => 0))), (q69, .inl ((cT 0), 32, .inl (fun _ => 0))), (q70, .inl ((cT 0), 1000, .inl (fun _ => 0))), (q71, .inl ((cT 0), 1400, .inl (fun _ => 0))), (q72, .inl ((cT 0), 16, .inl (fun _ => 0))), (q73, .inl ((cT 0), 1200, .inl (fun _ => 0)))]) [0, 1, 2, 3, 4, 5, 6, 7, 8, 9] (by decide) rfl
  refine lv_aload_n hx hb d_Md_init_630 rfl (lv_at hl 0 rfl) ?_
  refine lv_bipush (v := 112) hx hb d_Md_init_631 (by decide) ?_
  refine va_newa (atype := .int) (ty := .int) (n := 112) (N' := 112) (a0 := (112, .inl (fun _ => 0))) hx hb (hg _ k_67) rfl hK hP hD hS hA (fun _ => rfl) (by decide) (by decide) (by decide) (Nat.le_of_ble_eq_true rfl) (Nat.le_of_ble_eq_true rfl) d_Md_init_633 (fun q87 cA9 H hK9 hP hD hS => ?_)
  obtain rfl := nk_int hK9
  clear hK9
  have hP : va_P (dC, dI) vcl [(mo, .inr (12, [.ref q1, .int 0, .int 0, .ref q66, .ref q67, .ref q68, .ref q69, .ref q70, .int 0, .ref q71, .int 0, .ref q72, .ref q73, .ref q74, .int 0, .ref q75, .int 0, .int 0, .ref q76, .ref q77, .ref q78, .ref q79, .ref q80, .ref q81, .int 0, .ref q82, .ref q83, .ref q84, .ref q85, .ref q86, .null, .long 0, .long 0, .int 0, .null, .null, .null, .null, .null, .null, .null, .null, .null, .int 0, .int 0])), (q1, .inl ((cT 1), 64, .inr (.inl f65))), (q66, .inl ((cT 0), 160, .inl (fun _ => 0))), (q67, .inl ((cT 0), 4, .inl (fun _ => 0))), (q68, .inl ((cT 0), 1920, .inl (fun _ => 0))), (q69, .inl ((cT 0), 32, .inl (fun _ => 0))), (q70, .inl ((cT 0), 1000, .inl (fun _ => 0))), (q71, .inl ((cT 0), 1400, .inl (fun _ => 0))), (q72, .inl ((cT 0), 16, .inl (fun _ => 0))), (q73, .inl ((cT 0), 1200, .inl (fun _ => 0))), (q87, .inl ((cT 0), 112, .inl (fun _ => 0)))] H := hP
  have hD : va_D A [(mo, .inr (12, [.ref q1, .int 0, .int 0, .ref q66, .ref q67, .ref q68, .ref q69, .ref q70, .int 0, .ref q71, .int 0, .ref q72, .ref q73, .ref q74, .int 0, .ref q75, .int 0, .int 0, .ref q76, .ref q77, .ref q78, .ref q79, .ref q80, .ref q81, .int 0, .ref q82, .ref q83, .ref q84, .ref q85, .ref q86, .null, .long 0, .long 0, .int 0, .null, .null, .null, .null, .null, .null, .null, .null, .null, .int 0, .int 0])), (q1, .inl ((cT 1), 64, .inr (.inl f65))), (q66, .inl ((cT 0), 160, .inl (fun _ => 0))), (q67, .inl ((cT 0), 4, .inl (fun _ => 0))), (q68, .inl ((cT 0), 1920, .inl (fun _ => 0))), (q69, .inl ((cT 0), 32, .inl (fun _ => 0))), (q70, .inl ((cT 0), 1000, .inl (fun _ => 0))), (q71, .inl ((cT 0), 1400, .inl (fun _ => 0))), (q72, .inl ((cT 0), 16, .inl (fun _ => 0))), (q73, .inl ((cT 0), 1200, .inl (fun _ => 0))), (q87, .inl ((cT 0), 112, .inl (fun _ => 0)))] := hD
  refine va_putF (D := (dC, dI)) (ci := 12) (v := (.ref q87)) (ty := (.array .int)) (C := R_Md) (T := F_Md) (N := 45) hx hb hg in_Md t_Md tok_Md nm_Md hown hK hP hD hS 0 rfl rfl 30 (by decide) (hg _ k_1050) (fun _ h9 => h9) rfl hin rfl (by decide +kernel) rfl rfl (Nat.le_of_ble_eq_true rfl) d_Md_init_635 (fun H locs hP hD hS => ?_)
  have hP : va_P (dC, dI) vcl [(mo, .inr (12, [.ref q1, .int 0, .int 0, .ref q66, .ref q67, .ref q68, .ref q69, .ref q70, .int 0, .ref q71, .int 0, .ref q72, .ref q73, .ref q74, .int 0, .ref q75, .int 0, .int 0, .ref q76, .ref q77, .ref q78, .ref q79, .ref q80, .ref q81, .int 0, .ref q82, .ref q83, .ref q84, .ref q85, .ref q86, .ref q87, .long 0, .long 0, .int 0, .null, .null, .null, .null, .null, .null, .null, .null, .null, .int 0, .int 0])), (q1, .inl ((cT 1), 64, .inr (.inl f65))), (q66, .inl ((cT 0), 160, .inl (fun _ => 0))), (q67, .inl ((cT 0), 4, .inl (fun _ => 0))), (q68, .inl ((cT 0), 1920, .inl (fun _ => 0))), (q69, .inl ((cT 0), 32, .inl (fun _ => 0))), (q70, .inl ((cT 0), 1000, .inl (fun _ => 0))), (q71, .inl ((cT 0), 1400, .inl (fun _ => 0))), (q72, .inl ((cT 0), 16, .inl (fun _ => 0))), (q73, .inl ((cT 0), 1200, .inl (fun _ => 0))), (q87, .inl ((cT 0), 112, .inl (fun _ => 0)))] H := hP
  have hD : va_D A [(mo, .inr (12, [.ref q1, .int 0, .int 0, .ref q66, .ref q67, .ref q68, .ref q69, .ref q70, .int 0, .ref q71, .int 0, .ref q72, .ref q73, .ref q74, .int 0, .ref q75, .int 0, .int 0, .ref q76, .ref q77, .ref q78, .ref q79, .ref q80, .ref q81, .int 0, .ref q82, .ref q83, .ref q84, .ref q85, .ref q86, .ref q87, .long 0, .long 0, .int 0, .null, .null, .null, .null, .null, .null, .null, .null, .null, .int 0, .int 0])), (q1, .inl ((cT 1), 64, .inr (.inl f65))), (q66, .inl ((cT 0), 160, .inl (fun _ => 0))), (q67, .inl ((cT 0), 4, .inl (fun _ => 0))), (q68, .inl ((cT 0), 1920, .inl (fun _ => 0))), (q69, .inl ((cT 0), 32, .inl (fun _ => 0))), (q70, .inl ((cT 0), 1000, .inl (fun _ => 0))), (q71, .inl ((cT 0), 1400, .inl (fun _ => 0))), (q72, .inl ((cT 0), 16, .inl (fun _ => 0))), (q73, .inl ((cT 0), 1200, .inl (fun _ => 0))), (q87, .inl ((cT 0), 112, .inl (fun _ => 0)))] := hD
  have hP := hP.sub (ws' := [(mo, .inr (12, [.ref q1, .int 0, .int 0, .ref q66, .ref q67, .ref q68, .ref q69, .ref q70, .int 0, .ref q71, .int 0, .ref q72, .ref q73, .ref q74, .int 0, .ref q75, .int 0, .int 0, .ref q76, .ref q77, .ref q78, .ref q79, .ref q80, .ref q81, .int 0, .ref q82, .ref q83, .ref q84, .ref q85, .ref q86, .ref q87, .long 0, .long 0, .int 0, .null, .null, .null, .null, .null, .null, .null, .null, .null, .int 0, .int 0])), (q1, .inl ((cT 1), 64, .inr (.inl f65))), (q66, .inl ((cT 0), 160, .inl (fun _ => 0))), (q67, .inl ((cT 0), 4, .inl (fun _ => 0))), (q68, .inl ((cT 0), 1920, .inl (fun _ => 0))), (q69, .inl ((cT 0), 32, .inl (fun _ => 0))), (q70, .inl ((cT 0), 1000, .inl (fun _ => 0))), (q71, .inl ((cT 0), 1400, .inl (fun _ => 0))), (q72, .inl ((cT 0), 16, .inl (fun _ => 0))), (q73, .inl ((cT 0), 1200, .inl (fun _ => 0)))]) [0, 1, 2, 3, 4, 5, 6, 7, 8, 9] rfl
  have hD := hD.sub (ws' := [(mo, .inr (12, [.ref q1, .int 0, .int 0, .ref q66, .ref q67, .ref q68, .ref q69, .ref q70, .int 0, .ref q71, .int 0, .ref q72, .ref q73, .ref q74, .int 0, .ref q75, .int 0, .int 0, .ref q76, .ref q77, .ref q78, .ref q79, .ref q80, .ref q81, .int 0, .ref q82, .ref q83, .ref q84, .ref q85, .ref q86, .ref q87, .long 0, .long 0, .int 0, .null, .null, .null, .null, .null, .null, .null, .null, .null, .int 0, .int 0])), (q1, .inl ((cT 1), 64, .inr (.inl f65))), (q66, .inl ((cT 0), 160, .inl (fun _ => 0))), (q67, .inl ((cT 0), 4, .inl (fun _ => 0))), (q68, .inl ((cT 0), 1920, .inl (fun _ => 0))), (q69, .inl ((cT 0), 32, .inl (fun _ => 0))), (q70, .inl ((cT 0), 1000, .inl (fun _ => 0))), (q71, .inl ((cT 0), 1400, .inl (fun _ => 0))), (q72, .inl ((cT 0), 16, .inl (fun _ => 0))), (q73, .inl ((cT 0), 1200, .inl (fun _ => 0)))]) [0, 1, 2, 3, 4, 5, 6, 7, 8, 9] (by decide) rfl
  refine lv_aload_n hx hb d_Md_init_638 rfl (lv_at hl 0 rfl) ?_
  refine lv_lconst (v := 1) hx hb d_Md_init_639 (by decide) ?_
  refine va_put (D := (dC, dI)) (ci := 12) (v := (.long 1)) (ty := .long) (C := R_Md) (T := F_Md) (N := 45) hx hb hg in_Md t_Md tok_Md nm_Md hown hK hP hD hS 0 rfl rfl 32 (by decide) (hg _ k_1052) (fun _ h9 => h9) rfl (by decide +kernel) rfl rfl (Nat.le_of_ble_eq_true rfl) d_Md_init_640 (fun H locs hP hD hS => ?_)
  have hP : va_P (dC, dI) vcl [(mo, .inr (12, [.ref q1, .int 0, .int 0, .ref q66, .ref q67, .ref q68, .ref q69, .ref q70, .int 0, .ref q71, .int 0, .ref q72, .ref q73, .ref q74, .int 0, .ref q75, .int 0, .int 0, .ref q76, .ref q77, .ref q78, .ref q79, .ref q80, .ref q81, .int 0, .ref q82, .ref q83, .ref q84, .ref q85, .ref q86, .ref q87, .long 0, .long 1, .int 0, .null, .null, .null, .null, .null, .null, .null, .null, .null, .int 0, .int 0])), (q1, .inl ((cT 1), 64, .inr (.inl f65))), (q66, .inl ((cT 0), 160, .inl (fun _ => 0))), (q67, .inl ((cT 0), 4, .inl (fun _ => 0))), (q68, .inl ((cT 0), 1920, .inl (fun _ => 0))), (q69, .inl ((cT 0), 32, .inl (fun _ => 0))), (q70, .inl ((cT 0), 1000, .inl (fun _ => 0))), (q71, .inl ((cT 0), 1400, .inl (fun _ => 0))), (q72, .inl ((cT 0), 16, .inl (fun _ => 0))), (q73, .inl ((cT 0), 1200, .inl (fun _ => 0)))] H := hP
  have hD : va_D A [(mo, .inr (12, [.ref q1, .int 0, .int 0, .ref q66, .ref q67, .ref q68, .ref q69, .ref q70, .int 0, .ref q71, .int 0, .ref q72, .ref q73, .ref q74, .int 0, .ref q75, .int 0, .int 0, .ref q76, .ref q77, .ref q78, .ref q79, .ref q80, .ref q81, .int 0, .ref q82, .ref q83, .ref q84, .ref q85, .ref q86, .ref q87, .long 0, .long 1, .int 0, .null, .null, .null, .null, .null, .null, .null, .null, .null, .int 0, .int 0])), (q1, .inl ((cT 1), 64, .inr (.inl f65))), (q66, .inl ((cT 0), 160, .inl (fun _ => 0))), (q67, .inl ((cT 0), 4, .inl (fun _ => 0))), (q68, .inl ((cT 0), 1920, .inl (fun _ => 0))), (q69, .inl ((cT 0), 32, .inl (fun _ => 0))), (q70, .inl ((cT 0), 1000, .inl (fun _ => 0))), (q71, .inl ((cT 0), 1400, .inl (fun _ => 0))), (q72, .inl ((cT 0), 16, .inl (fun _ => 0))), (q73, .inl ((cT 0), 1200, .inl (fun _ => 0)))] := hD
  refine lv_aload_n hx hb d_Md_init_643 rfl (lv_at hl 0 rfl) ?_
  refine lv_bipush (v := 50) hx hb d_Md_init_644 (by decide) ?_
  refine va_newa (atype := .int) (ty := .int) (n := 50) (N' := 50) (a0 := (50, .inl (fun _ => 0))) hx hb (hg _ k_67) rfl hK hP hD hS hA (fun _ => rfl) (by decide) (by decide) (by decide) (Nat.le_of_ble_eq_true rfl) (Nat.le_of_ble_eq_true rfl) d_Md_init_646 (fun q88 cA9 H hK9 hP hD hS => ?_)
  obtain rfl := nk_int hK9
  clear hK9
  have hP : va_P (dC, dI) vcl [(mo, .inr (12, [.ref q1, .int 0, .int 0, .ref q66, .ref q67, .ref q68, .ref q69, .ref q70, .int 0, .ref q71, .int 0, .ref q72, .ref q73, .ref q74, .int 0, .ref q75, .int 0, .int 0, .ref q76, .ref q77, .ref q78, .ref q79, .ref q80, .ref q81, .int 0, .ref q82, .ref q83, .ref q84, .ref q85, .ref q86, .ref q87, .long 0, .long 1, .int 0, .null, .null, .null, .null, .null, .null, .null, .null, .null, .int 0, .int 0])), (q1, .inl ((cT 1), 64, .inr (.inl f65))), (q66, .inl ((cT 0), 160, .inl (fun _ => 0))), (q67, .inl ((cT 0), 4, .inl (fun _ => 0))), (q68, .inl ((cT 0), 1920, .inl (fun _ => 0))), (q69, .inl ((cT 0), 32, .inl (fun _ => 0))), (q70, .inl ((cT 0), 1000, .inl (fun _ => 0))), (q71, .inl ((cT 0), 1400, .inl (fun _ => 0))), (q72, .inl ((cT 0), 16, .inl (fun _ => 0))), (q73, .inl ((cT 0), 1200, .inl (fun _ => 0))), (q88, .inl ((cT 0), 50, .inl (fun _ => 0)))] H := hP
  have hD : va_D A [(mo, .inr (12, [.ref q1, .int 0, .int 0, .ref q66, .ref q67, .ref q68, .ref q69, .ref q70, .int 0, .ref q71, .int 0, .ref q72, .ref q73, .ref q74, .int 0, .ref q75, .int 0, .int 0, .ref q76, .ref q77, .ref q78, .ref q79, .ref q80, .ref q81, .int 0, .ref q82, .ref q83, .ref q84, .ref q85, .ref q86, .ref q87, .long 0, .long 1, .int 0, .null, .null, .null, .null, .null, .null, .null, .null, .null, .int 0, .int 0])), (q1, .inl ((cT 1), 64, .inr (.inl f65))), (q66, .inl ((cT 0), 160, .inl (fun _ => 0))), (q67, .inl ((cT 0), 4, .inl (fun _ => 0))), (q68, .inl ((cT 0), 1920, .inl (fun _ => 0))), (q69, .inl ((cT 0), 32, .inl (fun _ => 0))), (q70, .inl ((cT 0), 1000, .inl (fun _ => 0))), (q71, .inl ((cT 0), 1400, .inl (fun _ => 0))), (q72, .inl ((cT 0), 16, .inl (fun _ => 0))), (q73, .inl ((cT 0), 1200, .inl (fun _ => 0))), (q88, .inl ((cT 0), 50, .inl (fun _ => 0)))] := hD
  refine va_putF (D := (dC, dI)) (ci := 12) (v := (.ref q88)) (ty := (.array .int)) (C := R_Md) (T := F_Md) (N := 45) hx hb hg in_Md t_Md tok_Md nm_Md hown hK hP hD hS 0 rfl rfl 34 (by decide) (hg _ k_1054) (fun _ h9 => h9) rfl hin rfl (by decide +kernel) rfl rfl (Nat.le_of_ble_eq_true rfl) d_Md_init_648 (fun H locs hP hD hS => ?_)
  have hP : va_P (dC, dI) vcl [(mo, .inr (12, [.ref q1, .int 0, .int 0, .ref q66, .ref q67, .ref q68, .ref q69, .ref q70, .int 0, .ref q71, .int 0, .ref q72, .ref q73, .ref q74, .int 0, .ref q75, .int 0, .int 0, .ref q76, .ref q77, .ref q78, .ref q79, .ref q80, .ref q81, .int 0, .ref q82, .ref q83, .ref q84, .ref q85, .ref q86, .ref q87, .long 0, .long 1, .int 0, .ref q88, .null, .null, .null, .null, .null, .null, .null, .null, .int 0, .int 0])), (q1, .inl ((cT 1), 64, .inr (.inl f65))), (q66, .inl ((cT 0), 160, .inl (fun _ => 0))), (q67, .inl ((cT 0), 4, .inl (fun _ => 0))), (q68, .inl ((cT 0), 1920, .inl (fun _ => 0))), (q69, .inl ((cT 0), 32, .inl (fun _ => 0))), (q70, .inl ((cT 0), 1000, .inl (fun _ => 0))), (q71, .inl ((cT 0), 1400, .inl (fun _ => 0))), (q72, .inl ((cT 0), 16, .inl (fun _ => 0))), (q73, .inl ((cT 0), 1200, .inl (fun _ => 0))), (q88, .inl ((cT 0), 50, .inl (fun _ => 0)))] H := hP
  have hD : va_D A [(mo, .inr (12, [.ref q1, .int 0, .int 0, .ref q66, .ref q67, .ref q68, .ref q69, .ref q70, .int 0, .ref q71, .int 0, .ref q72, .ref q73, .ref q74, .int 0, .ref q75, .int 0, .int 0, .ref q76, .ref q77, .ref q78, .ref q79, .ref q80, .ref q81, .int 0, .ref q82, .ref q83, .ref q84, .ref q85, .ref q86, .ref q87, .long 0, .long 1, .int 0, .ref q88, .null, .null, .null, .null, .null, .null, .null, .null, .int 0, .int 0])), (q1, .inl ((cT 1), 64, .inr (.inl f65))), (q66, .inl ((cT 0), 160, .inl (fun _ => 0))), (q67, .inl ((cT 0), 4, .inl (fun _ => 0))), (q68, .inl ((cT 0), 1920, .inl (fun _ => 0))), (q69, .inl ((cT 0), 32, .inl (fun _ => 0))), (q70, .inl ((cT 0), 1000, .inl (fun _ => 0))), (q71, .inl ((cT 0), 1400, .inl (fun _ => 0))), (q72, .inl ((cT 0), 16, .inl (fun _ => 0))), (q73, .inl ((cT 0), 1200, .inl (fun _ => 0))), (q88, .inl ((cT 0), 50, .inl (fun _ => 0)))] := hD
  have hP := hP.sub (ws' := [(mo, .inr (12, [.ref q1, .int 0, .int 0, .ref q66, .ref q67, .ref q68, .ref q69, .ref q70, .int 0, .ref q71, .int 0, .ref q72, .ref q73, .ref q74, .int 0, .ref q75, .int 0, .int 0, .ref q76, .ref q77, .ref q78, .ref q79, .ref q80, .ref q81, .int 0, .ref q82, .ref q83, .ref q84, .ref q85, .ref q86, .ref q87, .long 0, .long 1, .int 0, .ref q88, .null, .null, .null, .null, .null, .null, .null, .null, .int 0, .int 0])), (q1, .inl ((cT 1), 64, .inr (.inl f65))), (q66, .inl ((cT 0), 160, .inl (fun _ => 0))), (q67, .inl ((cT 0), 4, .inl (fun _ => 0))), (q68, .inl ((cT 0), 1920, .inl (fun _ => 0))), (q69, .inl ((cT 0), 32, .inl (fun _ => 0))), (q70, .inl ((cT 0), 1000, .inl (fun _ => 0))), (q71, .inl ((cT 0), 1400, .inl (fun _ => 0))), (q72, .inl ((cT 0), 16, .inl (fun _ => 0))), (q73, .inl ((cT 0), 1200, .inl (fun _ => 0)))]) [0, 1, 2, 3, 4, 5, 6, 7, 8, 9] rfl
  have hD := hD.sub (ws' := [(mo, .inr (12, [.ref q1, .int 0, .int 0, .ref q66, .ref q67, .ref q68, .ref q69, .ref q70, .int 0, .ref q71, .int 0, .ref q72, .ref q73, .ref q74, .int 0, .ref q75, .int 0, .int 0, .ref q76, .ref q77, .ref q78, .ref q79, .ref q80, .ref q81, .int 0, .ref q82, .ref q83, .ref q84, .ref q85, .ref q86, .ref q87, .long 0, .long 1, .int 0, .ref q88, .null, .null, .null, .null, .null, .null, .null, .null, .int 0, .int 0])), (q1, .inl ((cT 1), 64, .inr (.inl f65))), (q66, .inl ((cT 0), 160, .inl (fun _ => 0))), (q67, .inl ((cT 0), 4, .inl (fun _ => 0))), (q68, .inl ((cT 0), 1920, .inl (fun _ => 0))), (q69, .inl ((cT 0), 32, .inl (fun _ => 0))), (q70, .inl ((cT 0), 1000, .inl (fun _ => 0))), (q71, .inl ((cT 0), 1400, .inl (fun _ => 0))), (q72, .inl ((cT 0), 16, .inl (fun _ => 0))), (q73, .inl ((cT 0), 1200, .inl (fun _ => 0)))]) [0, 1, 2, 3, 4, 5, 6, 7, 8, 9] (by decide) rfl
  refine lv_aload_n hx hb d_Md_init_651 rfl (lv_at hl 0 rfl) ?_
  refine lv_bipush (v := 50) hx hb d_Md_init_652 (by decide) ?_
  refine va_newa (atype := .int) (ty := .int) (n := 50) (N' := 50) (a0 := (50, .inl (fun _ => 0))) hx hb (hg _ k_67) rfl hK hP hD hS hA (fun _ => rfl) (by decide) (by decide) (by decide) (Nat.le_of_ble_eq_true rfl) (Nat.le_of_ble_eq_true rfl) d_Md_init_654 (fun q89 cA9 H hK9 hP hD hS => ?_)
  obtain rfl := nk_int hK9
  clear hK9
  have hP : va_P (dC, dI) vcl [(mo, .inr (12, [.ref q1, .int 0, .int 0, .ref q66, .ref q67, .ref q68, .ref q69, .ref q70, .int 0, .ref q71, .int 0, .ref q72, .ref q73, .ref q74, .int 0, .ref q75, .int 0, .int 0, .ref q76, .ref q77, .ref q78, .ref q79, .ref q80, .ref q81, .int 0, .ref q82, .ref q83, .ref q84, .ref q85, .ref q86, .ref q87, .long 0, .long 1, .int 0, .ref q88, .null, .null, .null, .null, .null, .null, .null, .null, .int 0, .int 0])), (q1, .inl ((cT 1), 64, .inr (.inl f65))), (q66, .inl ((cT 0), 160, .inl (fun _ => 0))), (q67, .inl ((cT 0), 4, .inl (fun _ => 0))), (q68, .inl ((cT 0), 1920, .inl (fun _ => 0))), (q69, .inl ((cT 0), 32, .inl (fun _ => 0))), (q70, .inl ((cT 0), 1000, .inl (fun _ => 0))), (q71, .inl ((cT 0), 1400, .inl (fun _ => 0))), (q72, .inl ((cT 0), 16, .inl (fun _ => 0))), (q73, .inl ((cT 0), 1200, .inl (fun _ => 0))), (q89, .inl ((cT 0), 50, .inl (fun _ => 0)))] H := hP
  have hD : va_D A [(mo, .inr (12, [.ref q1, .int 0, .int 0, .ref q66, .ref q67, .ref q68, .ref q69, .ref q70, .int 0, .ref q71, .int 0, .ref q72, .ref q73, .ref q74, .int 0, .ref q75, .int 0, .int 0, .ref q76, .ref q77, .ref q78, .ref q79, .ref q80, .ref q81, .int 0, .ref q82, .ref q83, .ref q84, .ref q85, .ref q86, .ref q87, .long 0, .long 1, .int 0, .ref q88, .null, .null, .null, .null, .null, .null, .null, .null, .int 0, .int 0])), (q1, .inl ((cT 1), 64, .inr (.inl f65))), (q66, .inl ((cT 0), 160, .inl (fun _ => 0))), (q67, .inl ((cT 0), 4, .inl (fun _ => 0))), (q68, .inl ((cT 0), 1920, .inl (fun _ => 0))), (q69, .inl ((cT 0), 32, .inl (fun _ => 0))), (q70, .inl ((cT 0), 1000, .inl (fun _ => 0))), (q71, .inl ((cT 0), 1400, .inl (fun _ => 0))), (q72, .inl ((cT 0), 16, .inl (fun _ => 0))), (q73, .inl ((cT 0), 1200, .inl (fun _ => 0))), (q89, .inl ((cT 0), 50, .inl (fun _ => 0)))] := hD
  refine va_putF (D := (dC, dI)) (ci := 12) (v := (.ref q89)) (ty := (.array .int)) (C := R_Md) (T := F_Md) (N := 45) hx hb hg in_Md t_Md tok_Md nm_Md hown hK hP hD hS 0 rfl rfl 35 (by decide) (hg _ k_1055) (fun _ h9 => h9) rfl hin rfl (by decide +kernel) rfl rfl (Nat.le_of_ble_eq_true rfl) d_Md_init_656 (fun H locs hP hD hS => ?_)
  have hP : va_P (dC, dI) vcl [(mo, .inr (12, [.ref q1, .int 0, .int 0, .ref q66, .ref q67, .ref q68, .ref q69, .ref q70, .int 0, .ref q71, .int 0, .ref q72, .ref q73, .ref q74, .int 0, .ref q75, .int 0, .int 0, .ref q76, .ref q77, .ref q78, .ref q79, .ref q80, .ref q81, .int 0, .ref q82, .ref q83, .ref q84, .ref q85, .ref q86, .ref q87, .long 0, .long 1, .int 0, .ref q88, .ref q89, .null, .null, .null, .null, .null, .null, .null, .int 0, .int 0])), (q1, .inl ((cT 1), 64, .inr (.inl f65))), (q66, .inl ((cT 0), 160, .inl (fun _ => 0))), (q67, .inl ((cT 0), 4, .inl (fun _ => 0))), (q68, .inl ((cT 0), 1920, .inl (fun _ => 0))), (q69, .inl ((cT 0), 32, .inl (fun _ => 0))), (q70, .inl ((cT 0), 1000, .inl (fun _ => 0))), (q71, .inl ((cT 0), 1400, .inl (fun _ => 0))), (q72, .inl ((cT 0), 16, .inl (fun _ => 0))), (q73, .inl ((cT 0), 1200, .inl (fun _ => 0))), (q89, .inl ((cT 0), 50, .inl (fun _ => 0)))] H := hP
  have hD : va_D A [(mo, .inr (12, [.ref q1, .int 0, .int 0, .ref q66, .ref q67, .ref q68, .ref q69, .ref q70, .int 0, .ref q71, .int 0, .ref q72, .ref q73, .ref q74, .int 0, .ref q75, .int 0, .int 0, .ref q76, .ref q77, .ref q78, .ref q79, .ref q80, .ref q81, .int 0, .ref q82, .ref q83, .ref q84, .ref q85, .ref q86, .ref q87, .long 0, .long 1, .int 0, .ref q88, .ref q89, .null, .null, .null, .null, .null, .null, .null, .int 0, .int 0])), (q1, .inl ((cT 1), 64, .inr (.inl f65))), (q66, .inl ((cT 0), 160, .inl (fun _ => 0))), (q67, .inl ((cT 0), 4, .inl (fun _ => 0))), (q68, .inl ((cT 0), 1920, .inl (fun _ => 0))), (q69, .inl ((cT 0), 32, .inl (fun _ => 0))), (q70, .inl ((cT 0), 1000, .inl (fun _ => 0))), (q71, .inl ((cT 0), 1400, .inl (fun _ => 0))), (q72, .inl ((cT 0), 16, .inl (fun _ => 0))), (q73, .inl ((cT 0), 1200, .inl (fun _ => 0))), (q89, .inl ((cT 0), 50, .inl (fun _ => 0)))] := hD
  have hP := hP.sub (ws' := [(mo, .inr (12, [.ref q1, .int 0, .int 0, .ref q66, .ref q67, .ref q68, .ref q69, .ref q70, .int 0, .ref q71, .int 0, .ref q72, .ref q73, .ref q74, .int 0, .ref q75, .int 0, .int 0, .ref q76, .ref q77, .ref q78, .ref q79, .ref q80, .ref q81, .int 0, .ref q82, .ref q83, .ref q84, .ref q85, .ref q86, .ref q87, .long 0, .long 1, .int 0, .ref q88, .ref q89, .null, .null, .null, .null, .null, .null, .null, .int 0, .int 0])), (q1, .inl ((cT 1), 64, .inr (.inl f65))), (q66, .inl ((cT 0), 160, .inl (fun _ => 0))), (q67, .inl ((cT 0), 4, .inl (fun _ => 0))), (q68, .inl ((cT 0), 1920, .inl (fun _ => 0))), (q69, .inl ((cT 0), 32, .inl (fun _ => 0))), (q70, .inl ((cT 0), 1000, .inl (fun _ => 0))), (q71, .inl ((cT 0), 1400, .inl (fun _ => 0))), (q72, .inl ((cT 0), 16, .inl (fun _ => 0))), (q73, .inl ((cT 0), 1200, .inl (fun _ => 0)))]) [0, 1, 2, 3, 4, 5, 6, 7, 8, 9] rfl
  have hD := hD.sub (ws' := [(mo, .inr (12, [.ref q1, .int 0, .int 0, .ref q66, .ref q67, .ref q68, .ref q69, .ref q70, .int 0, .ref q71, .int 0, .ref q72, .ref q73, .ref q74, .int 0, .ref q75, .int 0, .int 0, .ref q76, .ref q77, .ref q78, .ref q79, .ref q80, .ref q81, .int 0, .ref q82, .ref q83, .ref q84, .ref q85, .ref q86, .ref q87, .long 0, .long 1, .int 0, .ref q88, .ref q89, .null, .null, .null, .null, .null, .null, .null, .int 0, .int 0])), (q1, .inl ((cT 1), 64, .inr (.inl f65))), (q66, .inl ((cT 0), 160, .inl (fun _ => 0))), (q67, .inl ((cT 0), 4, .inl (fun _ => 0))), (q68, .inl ((cT 0), 1920, .inl (fun _ => 0))), (q69, .inl ((cT 0), 32, .inl (fun _ => 0))), (q70, .inl ((cT 0), 1000, .inl (fun _ => 0))), (q71, .inl ((cT 0), 1400, .inl (fun _ => 0))), (q72, .inl ((cT 0), 16, .inl (fun _ => 0))), (q73, .inl ((cT 0), 1200, .inl (fun _ => 0)))]) [0, 1, 2, 3, 4, 5, 6, 7, 8, 9] (by decide) rfl
  refine lv_aload_n hx hb d_Md_init_659 rfl (lv_at hl 0 rfl) ?_
  refine lv_sipush (v := 800) hx hb d_Md_init_660 (by decide) ?_
  refine va_newa (atype := .int) (ty := .int) (n := 800) (N' := 800) (a0 := (800, .inl (fun _ => 0))) hx hb (hg _ k_67) rfl hK hP hD hS hA (fun _ => rfl) (by decide) (by decide) (by decide) (Nat.le_of_ble_eq_true rfl) (Nat.le_of_ble_eq_true rfl) d_Md_init_663 (fun q90 cA9 H hK9 hP hD hS => ?_)
  obtain rfl := nk_int hK9
  clear hK9
  have hP : va_P (dC, dI) vcl [(mo, .inr (12, [.ref q1, .int 0, .int 0, .ref q66, .ref q67, .ref q68, .ref q69, .ref q70, .int 0, .ref q71, .int 0, .ref q72, .ref q73, .ref q74, .int 0, .ref q75, .int 0, .int 0, .ref q76, .ref q77, .ref q78, .ref q79, .ref q80, .ref q81, .int 0, .ref q82, .ref q83, .ref q84, .ref q85, .ref q86, .ref q87, .long 0, .long 1, .int 0, .ref q88, .ref q89, .null, .null, .null, .null, .null, .null, .null, .int 0, .int 0])), (q1, .inl ((cT 1), 64, .inr (.inl f65))), (q66, .inl ((cT 0), 160, .inl (fun _ => 0))), (q67, .inl ((cT 0), 4, .inl (fun _ => 0))), (q68, .inl ((cT 0), 1920, .inl (fun _ => 0))), (q69, .inl ((cT 0), 32, .inl (fun _ => 0))), (q70, .inl ((cT 0), 1000, .inl (fun _ => 0))), (q71, .inl ((cT 0), 1400, .inl (fun _ => 0))), (q72, .inl ((cT 0), 16, .inl (fun _ => 0))), (q73, .inl ((cT 0), 1200, .inl (fun _ => 0))), (q90, .inl ((cT 0), 800, .inl (fun _ => 0)))] H := hP
  have hD : va_D A [(mo, .inr (12, [.ref q1, .int 0, .int 0, .ref q66, .ref q67, .ref q68, .ref q69, .ref q70, .int 0, .ref q71, .int 0, .ref q72, .ref q73, .ref q74, .int 0, .ref q75, .int 0, .int 0, .ref q76, .ref q77, .ref q78, .ref q79, .ref q80, .ref q81, .int 0, .ref q82, .ref q83, .ref q84, .ref q85, .ref q86, .ref q87, .long 0, .long 1, .int 0, .ref q88, .ref q89, .null, .null, .null, .null, .null, .null, .null, .int 0, .int 0])), (q1, .inl ((cT 1), 64, .inr (.inl f65))), (q66, .inl ((cT 0), 160, .inl (fun _ => 0))), (q67, .inl ((cT 0), 4, .inl (fun _ => 0))), (q68, .inl ((cT 0), 1920, .inl (fun _ => 0))), (q69, .inl ((cT 0), 32, .inl (fun _ => 0))), (q70, .inl ((cT 0), 1000, .inl (fun _ => 0))), (q71, .inl ((cT 0), 1400, .inl (fun _ => 0))), (q72, .inl ((cT 0), 16, .inl (fun _ => 0))), (q73, .inl ((cT 0), 1200, .inl (fun _ => 0))), (q90, .inl ((cT 0), 800, .inl (fun _ => 0)))] := hD
  refine va_putF (D := (dC, dI)) (ci := 12) (v := (.ref q90)) (ty := (.array .int)) (C := R_Md) (T := F_Md) (N := 45) hx hb hg in_Md t_Md tok_Md nm_Md hown hK hP hD hS 0 rfl rfl 36 (by decide) (hg _ k_1056) (fun _ h9 => h9) rfl hin rfl (by decide +kernel) rfl rfl (Nat.le_of_ble_eq_true rfl) d_Md_init_665 (fun H locs hP hD hS => ?_)
  have hP : va_P (dC, dI) vcl [(mo, .inr (12, [.ref q1, .int 0, .int 0, .ref q66, .ref q67, .ref q68, .ref q69, .ref q70, .int 0, .ref q71, .int 0, .ref q72, .ref q73, .ref q74, .int 0, .ref q75, .int 0, .int 0, .ref q76, .ref q77, .ref q78, .ref q79, .ref q80, .ref q81, .int 0, .ref q82, .ref q83, .ref q84, .ref q85, .ref q86, .ref q87, .long 0, .long 1, .int 0, .ref q88, .ref q89, .ref q90, .null, .null, .null, .null, .null, .null, .int 0, .int 0])), (q1, .inl ((cT 1), 64, .inr (.inl f65))), (q66, .inl ((cT 0), 160, .inl (fun _ => 0))), (q67, .inl ((cT 0), 4, .inl (fun _ => 0))), (q68, .inl ((cT 0), 1920, .inl (fun _ => 0))), (q69, .inl ((cT 0), 32, .inl (fun _ => 0))), (q70, .inl ((cT 0), 1000, .inl (fun _ => 0))), (q71, .inl ((cT 0), 1400, .inl (fun _ => 0))), (q72, .inl ((cT 0), 16, .inl (fun _ => 0))), (q73, .inl ((cT 0), 1200, .inl (fun _ => 0))), (q90, .inl ((cT 0), 800, .inl (fun _ => 0)))] H := hP
  have hD : va_D A [(mo, .inr (12, [.ref q1, .int 0, .int 0, .ref q66, .ref q67, .ref q68, .ref q69, .ref q70, .int 0, .ref q71, .int 0, .ref q72, .ref q73, .ref q74, .int 0, .ref q75, .int 0, .int 0, .ref q76, .ref q77, .ref q78, .ref q79, .ref q80, .ref q81, .int 0, .ref q82, .ref q83, .ref q84, .ref q85, .ref q86, .ref q87, .long 0, .long 1, .int 0, .ref q88, .ref q89, .ref q90, .null, .null, .null, .null, .null, .null, .int 0, .int 0])), (q1, .inl ((cT 1), 64, .inr (.inl f65))), (q66, .inl ((cT 0), 160, .inl (fun _ => 0))), (q67, .inl ((cT 0), 4, .inl (fun _ => 0))), (q68, .inl ((cT 0), 1920, .inl (fun _ => 0))), (q69, .inl ((cT 0), 32, .inl (fun _ => 0))), (q70, .inl ((cT 0), 1000, .inl (fun _ => 0))), (q71, .inl ((cT 0), 1400, .inl (fun _ => 0))), (q72, .inl ((cT 0), 16, .inl (fun _ => 0))), (q73, .inl ((cT 0), 1200, .inl (fun _ => 0))), (q90, .inl ((cT 0), 800, .inl (fun _ => 0)))] := hD
  have hP := hP.sub (ws' := [(mo, .inr (12, [.ref q1, .int 0, .int 0, .ref q66, .ref q67, .ref q68, .ref q69, .ref q70, .int 0, .ref q71, .int 0, .ref q72, .ref q73, .ref q74, .int 0, .ref q75, .int 0, .int 0, .ref q76, .ref q77, .ref q78, .ref q79, .ref q80, .ref q81, .int 0, .ref q82, .ref q83, .ref q84, .ref q85, .ref q86, .ref q87, .long 0, .long 1, .int 0, .ref q88, .ref q89, .ref q90, .null, .null, .null, .null, .null, .null, .int 0, .int 0])), (q1, .inl ((cT 1), 64, .inr (.inl f65))), (q66, .inl ((cT 0), 160, .inl (fun _ => 0))), (q67, .inl ((cT 0), 4, .inl (fun _ => 0))), (q68, .inl ((cT 0), 1920, .inl (fun _ => 0))), (q69, .inl ((cT 0), 32, .inl (fun _ => 0))), (q70, .inl ((cT 0), 1000, .inl (fun _ => 0))), (q71, .inl ((cT 0), 1400, .inl (fun _ => 0))), (q72, .inl ((cT 0), 16, .inl (fun _ => 0))), (q73, .inl ((cT 0), 1200, .inl (fun _ => 0)))]) [0, 1, 2, 3, 4, 5, 6, 7, 8, 9] rfl
  have hD := hD.sub (ws' := [(mo, .inr (12, [.ref q1, .int 0, .int 0, .ref q66, .ref q67, .ref q68, .ref q69, .ref q70, .int 0, .ref q71, .int 0, .ref q72, .ref q73, .ref q74, .int 0, .ref q75, .int 0, .int 0, .ref q76, .ref q77, .ref q78, .ref q79, .ref q80, .ref q81, .int 0, .ref q82, .ref q83, .ref q84, .ref q85, .ref q86, .ref q87, .long 0, .long 1, .int 0, .ref q88, .ref q89, .ref q90, .null, .null, .null, .null, .null, .null, .int 0, .int 0])), (q1, .inl ((cT 1), 64, .inr (.inl f65))), (q66, .inl ((cT 0), 160, .inl (fun _ => 0))), (q67, .inl ((cT 0), 4, .inl (fun _ => 0))), (q68, .inl ((cT 0), 1920, .inl (fun _ => 0))), (q69, .inl ((cT 0), 32, .inl (fun _ => 0))), (q70, .inl ((cT 0), 1000, .inl (fun _ => 0))), (q71, .inl ((cT 0), 1400, .inl (fun _ => 0))), (q72, .inl ((cT 0), 16, .inl (fun _ => 0))), (q73, .inl ((cT 0), 1200, .inl (fun _ => 0)))]) [0, 1, 2, 3, 4, 5, 6, 7, 8, 9] (by decide) rfl
  refine lv_aload_n hx hb d_Md_init_668 rfl (lv_at hl 0 rfl) ?_
  refine lv_bipush (v := 50) hx hb d_Md_init_669 (by decide) ?_
  refine va_newa (atype := .int) (ty := .int) (n := 50) (N' := 50) (a0 := (50, .inl (fun _ => 0))) hx hb (hg _ k_67) rfl hK hP hD hS hA (fun _ => rfl) (by decide) (by decide) (by decide) (Nat.le_of_ble_eq_true rfl) (Nat.le_of_ble_eq_true rfl) d_Md_init_671 (fun q91 cA9 H hK9 hP hD hS => ?_)
  obtain rfl := nk_int hK9
  clear hK9
  have hP : va_P (dC, dI) vcl [(mo, .inr (12, [.ref q1, .int 0, .int 0, .ref q66, .ref q67, .ref q68, .ref q69, .ref q70, .int 0, .ref q71, .int 0, .ref q72, .ref q73, .ref q74, .int 0, .ref q75, .int 0, .int 0, .ref q76, .ref q77, .ref q78, .ref q79, .ref q80, .ref q81, .int 0, .ref q82, .ref q83, .ref q84, .ref q85, .ref q86, .ref q87, .long 0, .long 1, .int 0, .ref q88, .ref q89, .ref q90, .null, .null, .null, .null, .null, .null, .int 0, .int 0])), (q1, .inl ((cT 1), 64, .inr (.inl f65))), (q66, .inl ((cT 0), 160, .inl (fun _ => 0))), (q67, .inl ((cT 0), 4, .inl (fun _ => 0))), (q68, .inl ((cT 0), 1920, .inl (fun _ => 0))), (q69, .inl ((cT 0), 32, .inl (fun _ => 0))), (q70, .inl ((cT 0), 1000, .inl (fun _ => 0))), (q71, .inl ((cT 0), 1400, .inl (fun _ => 0))), (q72, .inl ((cT 0), 16, .inl (fun _ => 0))), (q73, .inl ((cT 0), 1200, .inl (fun _ => 0))), (q91, .inl ((cT 0), 50, .inl (fun _ => 0)))] H := hP
  have hD : va_D A [(mo, .inr (12, [.ref q1, .int 0, .int 0, .ref q66, .ref q67, .ref q68, .ref q69, .ref q70, .int 0, .ref q71, .int 0, .ref q72, .ref q73, .ref q74, .int 0, .ref q75, .int 0, .int 0, .ref q76, .ref q77, .ref q78, .ref q79, .ref q80, .ref q81, .int 0, .ref q82, .ref q83, .ref q84, .ref q85, .ref q86, .ref q87, .long 0, .long 1, .int 0, .ref q88, .ref q89, .ref q90, .null, .null, .null, .null, .null, .null, .int 0, .int 0])), (q1, .inl ((cT 1), 64, .inr (.inl f65))), (q66, .inl ((cT 0), 160, .inl (fun _ => 0))), (q67, .inl ((cT 0), 4, .inl (fun _ => 0))), (q68, .inl ((cT 0), 1920, .inl (fun _ => 0))), (q69, .inl ((cT 0), 32, .inl (fun _ => 0))), (q70, .inl ((cT 0), 1000, .inl (fun _ => 0))), (q71, .inl ((cT 0), 1400, .inl (fun _ => 0))), (q72, .inl ((cT 0), 16, .inl (fun _ => 0))), (q73, .inl ((cT 0), 1200, .inl (fun _ => 0))), (q91, .inl ((cT 0), 50, .inl (fun _ => 0)))] := hD
  refine va_putF (D := (dC, dI)) (ci := 12) (v := (.ref q91)) (ty := (.array .int)) (C := R_Md) (T := F_Md) (N := 45) hx hb hg in_Md t_Md tok_Md nm_Md hown hK hP hD hS 0 rfl rfl 37 (by decide) (hg _ k_1057) (fun _ h9 => h9) rfl hin rfl (by decide +kernel) rfl rfl (Nat.le_of_ble_eq_true rfl) d_Md_init_673 (fun H locs hP hD hS => ?_)
  have hP : va_P (dC, dI) vcl [(mo, .inr (12, [.ref q1, .int 0, .int 0, .ref q66, .ref q67, .ref q68, .ref q69, .ref q70, .int 0, .ref q71, .int 0, .ref q72, .ref q73, .ref q74, .int 0, .ref q75, .int 0, .int 0, .ref q76, .ref q77, .ref q78, .ref q79, .ref q80, .ref q81, .int 0, .ref q82, .ref q83, .ref q84, .ref q85, .ref q86, .ref q87, .long 0, .long 1, .int 0, .ref q88, .ref q89, .ref q90, .ref q91, .null, .null, .null, .null, .null, .int 0, .int 0])), (q1, .inl ((cT 1), 64, .inr (.inl f65))), (q66, .inl ((cT 0), 160, .inl (fun _ => 0))), (q67, .inl ((cT 0), 4, .inl (fun _ => 0))), (q68, .inl ((cT 0), 1920, .inl (fun _ => 0))), (q69, .inl ((cT 0), 32, .inl (fun _ => 0))), (q70, .inl ((cT 0), 1000, .inl (fun _ => 0))), (q71, .inl ((cT 0), 1400, .inl (fun _ => 0))), (q72, .inl ((cT 0), 16, .inl (fun _ => 0))), (q73, .inl ((cT 0), 1200, .inl (fun _ => 0))), (q91, .inl ((cT 0), 50, .inl (fun _ => 0)))] H := hP
  have hD : va_D A [(mo, .inr (12, [.ref q1, .int 0, .int 0, .ref q66, .ref q67, .ref q68, .ref q69, .ref q70, .int 0, .ref q71, .int 0, .ref q72, .ref q73, .ref q74, .int 0, .ref q75, .int 0, .int 0, .ref q76, .ref q77, .ref q78, .ref q79, .ref q80, .ref q81, .int 0, .ref q82, .ref q83, .ref q84, .ref q85, .ref q86, .ref q87, .long 0, .long 1, .int 0, .ref q88, .ref q89, .ref q90, .ref q91, .null, .null, .null, .null, .null, .int 0, .int 0])), (q1, .inl ((cT 1), 64, .inr (.inl f65))), (q66, .inl ((cT 0), 160, .inl (fun _ => 0))), (q67, .inl ((cT 0), 4, .inl (fun _ => 0))), (q68, .inl ((cT 0), 1920, .inl (fun _ => 0))), (q69, .inl ((cT 0), 32, .inl (fun _ => 0))), (q70, .inl ((cT 0), 1000, .inl (fun _ => 0))), (q71, .inl ((cT 0), 1400, .inl (fun _ => 0))), (q72, .inl ((cT 0), 16, .inl (fun _ => 0))), (q73, .inl ((cT 0), 1200, .inl (fun _ => 0))), (q91, .inl ((cT 0), 50, .inl (fun _ => 0)))] := hD
  have hP := hP.sub (ws' := [(mo, .inr (12, [.ref q1, .int 0, .int 0, .ref q66, .ref q67, .ref q68, .ref q69, .ref q70, .int 0, .ref q71, .int 0, .ref q72, .ref q73, .ref q74, .int 0, .ref q75, .int 0, .int 0, .ref q76, .ref q77, .ref q78, .ref q79, .ref q80, .ref q81, .int 0, .ref q82, .ref q83, .ref q84, .ref q85, .ref q86, .ref q87, .long 0, .long 1, .int 0, .ref q88, .ref q89, .ref q90, .ref q91, .null, .null, .null, .null, .null, .int 0, .int 0])), (q1, .inl ((cT 1), 64, .inr (.inl f65))), (q66, .inl ((cT 0), 160, .inl (fun _ => 0))), (q67, .inl ((cT 0), 4, .inl (fun _ => 0))), (q68, .inl ((cT 0), 1920, .inl (fun _ => 0))), (q69, .inl ((cT 0), 32, .inl (fun _ => 0))), (q70, .inl ((cT 0), 1000, .inl (fun _ => 0))), (q71, .inl ((cT 0), 1400, .inl (fun _ => 0))), (q72, .inl ((cT 0), 16, .inl (fun _ => 0))), (q73, .inl ((cT 0), 1200, .inl (fun _ => 0)))]) [0, 1, 2, 3, 4, 5, 6, 7, 8, 9] rfl
  have hD := hD.sub (ws' := [(mo, .inr (12, [.ref q1, .int 0, .int 0, .ref q66, .ref q67, .ref q68, .ref q69, .ref q70, .int 0, .ref q71, .int 0, .ref q72, .ref q73, .ref q74, .int 0, .ref q75, .int 0, .int 0, .ref q76, .ref q77, .ref q78, .ref q79, .ref q80, .ref q81, .int 0, .ref q82, .ref q83, .ref q84, .ref q85, .ref q86, .ref q87, .long 0, .long 1, .int 0, .ref q88, .ref q89, .ref q90, .ref q91, .null, .null, .null, .null, .null, .int 0, .int 0])), (q1, .inl ((cT 1), 64, .inr (.inl f65))), (q66, .inl ((cT 0), 160, .inl (fun _ => 0))), (q67, .inl ((cT 0), 4, .inl (fun _ => 0))), (q68, .inl ((cT 0), 1920, .inl (fun _ => 0))), (q69, .inl ((cT 0), 32, .inl (fun _ => 0))), (q70, .inl ((cT 0), 1000, .inl (fun _ => 0))), (q71, .inl ((cT 0), 1400, .inl (fun _ => 0))), (q72, .inl ((cT 0), 16, .inl (fun _ => 0))), (q73, .inl ((cT 0), 1200, .inl (fun _ => 0)))]) [0, 1, 2, 3, 4, 5, 6, 7, 8, 9] (by decide) rfl
  refine lv_aload_n hx hb d_Md_init_676 rfl (lv_at hl 0 rfl) ?_
  refine lv_bipush (v := 50) hx hb d_Md_init_677 (by decide) ?_
  refine va_newa (atype := .int) (ty := .int) (n := 50) (N' := 50) (a0 := (50, .inl (fun _ => 0))) hx hb (hg _ k_67) rfl hK hP hD hS hA (fun _ => rfl) (by decide) (by decide) (by decide) (Nat.le_of_ble_eq_true rfl) (Nat.le_of_ble_eq_true rfl) d_Md_init_679 (fun q92 cA9 H hK9 hP hD hS => ?_)
  obtain rfl := nk_int hK9
  clear hK9
  have hP : va_P (dC, dI) vcl [(mo, .inr (12, [.ref q1, .int 0, .int 0, .ref q66, .ref q67, .ref q68, .ref q69, .ref q70, .int 0, .ref q71, .int 0, .ref q72, .ref q73, .ref q74, .int 0, .ref q75, .int 0, .int 0, .ref q76, .ref q77, .ref q78, .ref q79, .ref q80, .ref q81, .int 0, .ref q82, .ref q83, .ref q84, .ref q85, .ref q86, .ref q87, .long 0, .long 1, .int 0, .ref q88, .ref q89, .ref q90, .ref q91, .null, .null, .null, .null, .null, .int 0, .int 0])), (q1, .inl ((cT 1), 64, .inr (.inl f65))), (q66, .inl ((cT 0), 160, .inl (fun _ => 0))), (q67, .inl ((cT 0), 4, .inl (fun _ => 0))), (q68, .inl ((cT 0), 1920, .inl (fun _ => 0))), (q69, .inl ((cT 0), 32, .inl (fun _ => 0))), (q70, .inl ((cT 0), 1000, .inl (fun _ => 0))), (q71, .inl ((cT 0), 1400, .inl (fun _ => 0))), (q72, .inl ((cT 0), 16, .inl (fun _ => 0))), (q73, .inl ((cT 0), 1200, .inl (fun _ => 0))), (q92, .inl ((cT 0), 50, .inl (fun _ => 0)))] H := hP
  have hD : va_D A [(mo, .inr (12, [.ref q1, .int 0, .int 0, .ref q66, .ref q67, .ref q68, .ref q69, .ref q70, .int 0, .ref q71, .int 0, .ref q72, .ref q73, .ref q74, .int 0, .ref q75, .int 0, .int 0, .ref q76, .ref q77, .ref q78, .ref q79, .ref q80, .ref q81, .int 0, .ref q82, .ref q83, .ref q84, .ref q85, .ref q86, .ref q87, .long 0, .long 1, .int 0, .ref q88, .ref q89, .ref q90, .ref q91, .null, .null, .null, .null, .null, .int 0, .int 0])), (q1, .inl ((cT 1), 64, .inr (.inl f65))), (q66, .inl ((cT 0), 160, .inl (fun _ => 0))), (q67, .inl ((cT 0), 4, .inl (fun _ => 0))), (q68, .inl ((cT 0), 1920, .inl (fun _ => 0))), (q69, .inl ((cT 0), 32, .inl (fun _ => 0))), (q70, .inl ((cT 0), 1000, .inl (fun _ => 0))), (q71, .inl ((cT 0), 1400, .inl (fun _ => 0))), (q72, .inl ((cT 0), 16, .inl (fun _ => 0))), (q73, .inl ((cT 0), 1200, .inl (fun _ => 0))), (q92, .inl ((cT 0), 50, .inl (fun _ => 0)))] := hD
  refine va_putF (D := (dC, dI)) (ci := 12) (v := (.ref q92)) (ty := (.array .int)) (C := R_Md) (T := F_Md) (N := 45) hx hb hg in_Md t_Md tok_Md nm_Md hown hK hP hD hS 0 rfl rfl 38 (by decide) (hg _ k_1058) (fun _ h9 => h9) rfl hin rfl (by decide +kernel) rfl rfl (Nat.le_of_ble_eq_true rfl) d_Md_init_681 (fun H locs hP hD hS => ?_)
  have hP : va_P (dC, dI) vcl [(mo, .inr (12, [.ref q1, .int 0, .int 0, .ref q66, .ref q67, .ref q68, .ref q69, .ref q70, .int 0, .ref q71, .int 0, .ref q72, .ref q73, .ref q74, .int 0, .ref q75, .int 0, .int 0, .ref q76, .ref q77, .ref q78, .ref q79, .ref q80, .ref q81, .int 0, .ref q82, .ref q83, .ref q84, .ref q85, .ref q86, .ref q87, .long 0, .long 1, .int 0, .ref q88, .ref q89, .ref q90, .ref q91, .ref q92, .null, .null, .null, .null, .int 0, .int 0])), (q1, .inl ((cT 1), 64, .inr (.inl f65))), (q66, .inl ((cT 0), 160, .inl (fun _ => 0))), (q67, .inl ((cT 0), 4, .inl (fun _ => 0))), (q68, .inl ((cT 0), 1920, .inl (fun _ => 0))), (q69, .inl ((cT 0), 32, .inl (fun _ => 0))), (q70, .inl ((cT 0), 1000, .inl (fun _ => 0))), (q71, .inl ((cT 0), 1400, .inl (fun _ => 0))), (q72, .inl ((cT 0), 16, .inl (fun _ => 0))), (q73, .inl ((cT 0), 1200, .inl (fun _ => 0))), (q92, .inl ((cT 0), 50, .inl (fun _ => 0)))] H := hP
  have hD : va_D A [(mo, .inr (12, [.ref q1, .int 0, .int 0, .ref q66, .ref q67, .ref q68, .ref q69, .ref q70, .int 0, .ref q71, .int 0, .ref q72, .ref q73, .ref q74, .int 0, .ref q75, .int 0, .int 0, .ref q76, .ref q77, .ref q78, .ref q79, .ref q80, .ref q81, .int 0, .ref q82, .ref q83, .ref q84, .ref q85, .ref q86, .ref q87, .long 0, .long 1, .int 0, .ref q88, .ref q89, .ref q90, .ref q91, .ref q92, .null, .null, .null, .null, .int 0, .int 0])), (q1, .inl ((cT 1), 64, .inr (.inl f65))), (q66, .inl ((cT 0), 160, .inl (fun _ => 0))), (q67, .inl ((cT 0), 4, .inl (fun _ => 0))), (q68, .inl ((cT 0), 1920, .inl (fun _ => 0))), (q69, .inl ((cT 0), 32, .inl (fun _ => 0))), (q70, .inl ((cT 0), 1000, .inl (fun _ => 0))), (q71, .inl ((cT 0), 1400, .inl (fun _ => 0))), (q72, .inl ((cT 0), 16, .inl (fun _ => 0))), (q73, .inl ((cT 0), 1200, .inl (fun _ => 0))), (q92, .inl ((cT 0), 50, .inl (fun _ => 0)))] := hD
  have hP := hP.sub (ws' := [(mo, .inr (12, [.ref q1, .int 0, .int 0, .ref q66, .ref q67, .ref q68, .ref q69, .ref q70, .int 0, .ref q71, .int 0, .ref q72, .ref q73, .ref q74, .int 0, .ref q75, .int 0, .int 0, .ref q76, .ref q77, .ref q78, .ref q79, .ref q80, .ref q81, .int 0, .ref q82, .ref q83, .ref q84, .ref q85, .ref q86, .ref q87, .long 0, .long 1, .int 0, .ref q88, .ref q89, .ref q90, .ref q91, .ref q92, .null, .null, .null, .null, .int 0, .int 0])), (q1, .inl ((cT 1), 64, .inr (.inl f65))), (q66, .inl ((cT 0), 160, .inl (fun _ => 0))), (q67, .inl ((cT 0), 4, .inl (fun _ => 0))), (q68, .inl ((cT 0), 1920, .inl (fun _ => 0))), (q69, .inl ((cT 0), 32, .inl (fun _ => 0))), (q70, .inl ((cT 0), 1000, .inl (fun _ => 0))), (q71, .inl ((cT 0), 1400, .inl (fun _ => 0))), (q72, .inl ((cT 0), 16, .inl (fun _ => 0))), (q73, .inl ((cT 0), 1200, .inl (fun _ => 0)))]) [0, 1, 2, 3, 4, 5, 6, 7, 8, 9] rfl
  have hD := hD.sub (ws' := [(mo, .inr (12, [.ref q1, .int 0, .int 0, .ref q66, .ref q67, .ref q68, .ref q69, .ref q70, .int 0, .ref q71, .int 0, .ref q72, .ref q73, .ref q74, .int 0, .ref q75, .int 0, .int 0, .ref q76, .ref q77, .ref q78, .ref q79, .ref q80, .ref q81, .int 0, .ref q82, .ref q83, .ref q84, .ref q85, .ref q86, .ref q87, .long 0, .long 1, .int 0, .ref q88, .ref q89, .ref q90, .ref q91, .ref q92, .null, .null, .null, .null, .int 0, .int 0])), (q1, .inl ((cT 1), 64, .inr (.inl f65))), (q66, .inl ((cT 0), 160, .inl (fun _ => 0))), (q67, .inl ((cT 0), 4, .inl (fun _ => 0))), (q68, .inl ((cT 0), 1920, .inl (fun _ => 0))), (q69, .inl ((cT 0), 32, .inl (fun _ => 0))), (q70, .inl ((cT 0), 1000, .inl (fun _ => 0))), (q71, .inl ((cT 0), 1400, .inl (fun _ => 0))), (q72, .inl ((cT 0), 16, .inl (fun _ => 0))), (q73, .inl ((cT 0), 1200, .inl (fun _ => 0)))]) [0, 1, 2, 3, 4, 5, 6, 7, 8, 9] (by decide) rfl
  refine lv_aload_n hx hb d_Md_init_684 rfl (lv_at hl 0 rfl) ?_
  refine lv_bipush (v := 50) hx hb d_Md_init_685 (by decide) ?_
  refine va_newa (atype := .int) (ty := .int) (n := 50) (N' := 50) (a0 := (50, .inl (fun _ => 0))) hx hb (hg _ k_67) rfl hK hP hD hS hA (fun _ => rfl) (by decide) (by decide) (by decide) (Nat.le_of_ble_eq_true rfl) (Nat.le_of_ble_eq_true rfl) d_Md_init_687 (fun q93 cA9 H hK9 hP hD hS => ?_)
  obtain rfl := nk_int hK9
  clear hK9
  have hP : va_P (dC, dI) vcl [(mo, .inr (12, [.ref q1, .int 0, .int 0, .ref q66, .ref q67, .ref q68, .ref q69, .ref q70, .int 0, .ref q71, .int 0, .ref q72, .ref q73, .ref q74, .int 0, .ref q75, .int 0, .int 0, .ref q76, .ref q77, .ref q78, .ref q79, .ref q80, .ref q81, .int 0, .ref q82, .ref q83, .ref q84, .ref q85, .ref q86, .ref q87, .long 0, .long 1, .int 0, .ref q88, .ref q89, .ref q90, .ref q91, .ref q92, .null, .null, .null, .null, .int 0, .int 0])), (q1, .inl ((cT 1), 64, .inr (.inl f65))), (q66, .inl ((cT 0), 160, .inl (fun _ => 0))), (q67, .inl ((cT 0), 4, .inl (fun _ => 0))), (q68, .inl ((cT 0), 1920, .inl (fun _ => 0))), (q69, .inl ((cT 0), 32, .inl (fun _ => 0))), (q70, .inl ((cT 0), 1000, .inl (fun _ => 0))), (q71, .inl ((cT 0), 1400, .inl (fun _ => 0))), (q72, .inl ((cT 0), 16, .inl (fun _ => 0))), (q73, .inl ((cT 0), 1200, .inl (fun _ => 0))), (q93, .inl ((cT 0), 50, .inl (fun _ => 0)))] H := hP
  have hD : va_D A [(mo, .inr (12, [.ref q1, .int 0, .int 0, .ref q66, .ref q67, .ref q68, .ref q69, .ref q70, .int 0, .ref q71, .int 0, .ref q72, .ref q73, .ref q74, .int 0, .ref q75, .int 0, .int 0, .ref q76, .ref q77, .ref q78, .ref q79, .ref q80, .ref q81, .int 0, .ref q82, .ref q83, .ref q84, .ref q85, .ref q86, .ref q87, .long 0, .long 1, .int 0, .ref q88, .ref q89, .ref q90, .ref q91, .ref q92, .null, .null, .null, .null, .int 0, .int 0])), (q1, .inl ((cT 1), 64, .inr (.inl f65))), (q66, .inl ((cT 0), 160, .inl (fun _ => 0))), (q67, .inl ((cT 0), 4, .inl (fun _ => 0))), (q68, .inl ((cT 0), 1920, .inl (fun _ => 0))), (q69, .inl ((cT 0), 32, .inl (fun _ => 0))), (q70, .inl ((cT 0), 1000, .inl (fun _ => 0))), (q71, .inl ((cT 0), 1400, .inl (fun _ => 0))), (q72, .inl ((cT 0), 16, .inl (fun _ => 0))), (q73, .inl ((cT 0), 1200, .inl (fun _ => 0))), (q93, .inl ((cT 0), 50, .inl (fun _ => 0)))] := hD
  refine va_putF (D := (dC, dI)) (ci := 12) (v := (.ref q93)) (ty := (.array .int)) (C := R_Md) (T := F_Md) (N := 45) hx hb hg in_Md t_Md tok_Md nm_Md hown hK hP hD hS 0 rfl rfl 39 (by decide) (hg _ k_1059) (fun _ h9 => h9) rfl hin rfl (by decide +kernel) rfl rfl (Nat.le_of_ble_eq_true rfl) d_Md_init_689 (fun H locs hP hD hS => ?_)
  have hP : va_P (dC, dI) vcl [(mo, .inr (12, [.ref q1, .int 0, .int 0, .ref q66, .ref q67, .ref q68, .ref q69, .ref q70, .int 0, .ref q71, .int 0, .ref q72, .ref q73, .ref q74, .int 0, .ref q75, .int 0, .int 0, .ref q76, .ref q77, .ref q78, .ref q79, .ref q80, .ref q81, .int 0, .ref q82, .ref q83, .ref q84, .ref q85, .ref q86, .ref q87, .long 0, .long 1, .int 0, .ref q88, .ref q89, .ref q90, .ref q91, .ref q92, .ref q93, .null, .null, .null, .int 0, .int 0])), (q1, .inl ((cT 1), 64, .inr (.inl f65))), (q66, .inl ((cT 0), 160, .inl (fun _ => 0))), (q67, .inl ((cT 0), 4, .inl (fun _ => 0))), (q68, .inl ((cT 0), 1920, .inl (fun _ => 0))), (q69, .inl ((cT 0), 32, .inl (fun _ => 0))), (q70, .inl ((cT 0), 1000, .inl (fun _ => 0))), (q71, .inl ((cT 0), 1400, .inl (fun _ => 0))), (q72, .inl ((cT 0), 16, .inl (fun _ => 0))), (q73, .inl ((cT 0), 1200, .inl (fun _ => 0))), (q93, .inl ((cT 0), 50, .inl (fun _ => 0)))] H := hP
  have hD : va_D A [(mo, .inr (12, [.ref q1, .int 0, .int 0, .ref q66, .ref q67, .ref q68, .ref q69, .ref q70, .int 0, .ref q71, .int 0, .ref q72, .ref q73, .ref q74, .int 0, .ref q75, .int 0, .int 0, .ref q76, .ref q77, .ref q78, .ref q79, .ref q80, .ref q81, .int 0, .ref q82, .ref q83, .ref q84, .ref q85, .ref q86, .ref q87, .long 0, .long 1, .int 0, .ref q88, .ref q89, .ref q90, .ref q91, .ref q92, .ref q93, .null, .null, .null, .int 0, .int 0])), (q1, .inl ((cT 1), 64, .inr (.inl f65))), (q66, .inl ((cT 0), 160, .inl (fun _ => 0))), (q67, .inl ((cT 0), 4, .inl (fun _ => 0))), (q68, .inl ((cT 0), 1920, .inl (fun _ => 0))), (q69, .inl ((cT 0), 32, .inl (fun _ => 0))), (q70, .inl ((cT 0), 1000, .inl (fun _ => 0))), (q71, .inl ((cT 0), 1400, .inl (fun _ => 0))), (q72, .inl ((cT 0), 16, .inl (fun _ => 0))), (q73, .inl ((cT 0), 1200, .inl (fun _ => 0))), (q93, .inl ((cT 0), 50, .inl (fun _ => 0)))] := hD
  have hP := hP.sub (ws' := [(mo, .inr (12, [.ref q1, .int 0, .int 0, .ref q66, .ref q67, .ref q68, .ref q69, .ref q70, .int 0, .ref q71, .int 0, .ref q72, .ref q73, .ref q74, .int 0, .ref q75, .int 0, .int 0, .ref q76, .ref q77, .ref q78, .ref q79, .ref q80, .ref q81, .int 0, .ref q82, .ref q83, .ref q84, .ref q85, .ref q86, .ref q87, .long 0, .long 1, .int 0, .ref q88, .ref q89, .ref q90, .ref q91, .ref q92, .ref q93, .null, .null, .null, .int 0, .int 0])), (q1, .inl ((cT 1), 64, .inr (.inl f65))), (q66, .inl ((cT 0), 160, .inl (fun _ => 0))), (q67, .inl ((cT 0), 4, .inl (fun _ => 0))), (q68, .inl ((cT 0), 1920, .inl (fun _ => 0))), (q69, .inl ((cT 0), 32, .inl (fun _ => 0))), (q70, .inl ((cT 0), 1000, .inl (fun _ => 0))), (q71, .inl ((cT 0), 1400, .inl (fun _ => 0))), (q72, .inl ((cT 0), 16, .inl (fun _ => 0))), (q73, .inl ((cT 0), 1200, .inl (fun _ => 0)))]) [0, 1, 2, 3, 4, 5, 6, 7, 8, 9] rfl
  have hD := hD.sub (ws' := [(mo, .inr (12, [.ref q1, .int 0, .int 0, .ref q66, .ref q67, .ref q68, .ref q69, .ref q70, .int 0, .ref q71, .int 0, .ref q72, .ref q73, .ref q74, .int 0, .ref q75, .int 0, .int 0, .ref q76, .ref q77, .ref q78, .ref q79, .ref q80, .ref q81, .int 0, .ref q82, .ref q83, .ref q84, .ref q85, .ref q86, .ref q87, .long 0, .long 1, .int 0, .ref q88, .ref q89, .ref q90, .ref q91, .ref q92, .ref q93, .null, .null, .null, .int 0, .int 0])), (q1, .inl ((cT 1), 64, .inr (.inl f65))), (q66, .inl ((cT 0), 160, .inl (fun _ => 0))), (q67, .inl ((cT 0), 4, .inl (fun _ => 0))), (q68, .inl ((cT 0), 1920, .inl (fun _ => 0))), (q69, .inl ((cT 0), 32, .inl (fun _ => 0))), (q70, .inl ((cT 0), 1000, .inl (fun _ => 0))), (q71, .inl ((cT 0), 1400, .inl (fun _ => 0))), (q72, .inl ((cT 0), 16, .inl (fun _ => 0))), (q73, .inl ((cT 0), 1200, .inl (fun _ => 0)))]) [0, 1, 2, 3, 4, 5, 6, 7, 8, 9] (by decide) rfl
  refine lv_aload_n hx hb d_Md_init_692 rfl (lv_at hl 0 rfl) ?_
  refine lv_bipush (v := 50) hx hb d_Md_init_693 (by decide) ?_
  refine va_newa (atype := .int) (ty := .int) (n := 50) (N' := 50) (a0 := (50, .inl (fun _ => 0))) hx hb (hg _ k_67) rfl hK hP hD hS hA (fun _ => rfl) (by decide) (by decide) (by decide) (Nat.le_of_ble_eq_true rfl) (Nat.le_of_ble_eq_true rfl) d_Md_init_695 (fun q94 cA9 H hK9 hP hD hS => ?_)
  obtain rfl := nk_int hK9
  clear hK9
  have hP : va_P (dC, dI) vcl [(mo, .inr (12, [.ref q1, .int 0, .int 0, .ref q66, .ref q67, .ref q68, .ref q69, .ref q70, .int 0, .ref q71, .int 0, .ref q72, .ref q73, .ref q74, .int 0, .ref q75, .int 0, .int 0, .ref q76, .ref q77, .ref q78, .ref q79, .ref q80, .ref q81, .int 0, .ref q82, .ref q83, .ref q84, .ref q85, .ref q86, .ref q87, .long 0, .long 1, .int 0, .ref q88, .ref q89, .ref q90, .ref q91, .ref q92, .ref q93, .null, .null, .null, .int 0, .int 0])), (q1, .inl ((cT 1), 64, .inr (.inl f65))), (q66, .inl ((cT 0), 160, .inl (fun _ => 0))), (q67, .inl ((cT 0), 4, .inl (fun _ => 0))), (q68, .inl ((cT 0), 1920, .inl (fun _ => 0))), (q69, .inl ((cT 0), 32, .inl (fun _ => 0))), (q70, .inl ((cT 0), 1000, .inl (fun _ => 0))), (q71, .inl ((cT 0), 1400, .inl (fun _ => 0))), (q72, .inl ((cT 0), 16, .inl (fun _ => 0))), (q73, .inl ((cT 0), 1200, .inl (fun _ => 0))), (q94, .inl ((cT 0), 50, .inl (fun _ => 0)))] H := hP
  have hD : va_D A [(mo, .inr (12, [.ref q1, .int 0, .int 0, .ref q66, .ref q67, .ref q68, .ref q69, .ref q70, .int 0, .ref q71, .int 0, .ref q72, .ref q73, .ref q74, .int 0, .ref q75, .int 0, .int 0, .ref q76, .ref q77, .ref q78, .ref q79, .ref q80, .ref q81, .int 0, .ref q82, .ref q83, .ref q84, .ref q85, .ref q86, .ref q87, .long 0, .long 1, .int 0, .ref q88, .ref q89, .ref q90, .ref q91, .ref q92, .ref q93, .null, .null, .null, .int 0, .int 0])), (q1, .inl ((cT 1), 64, .inr (.inl f65))), (q66, .inl ((cT 0), 160, .inl (fun _ => 0))), (q67, .inl ((cT 0), 4, .inl (fun _ => 0))), (q68, .inl ((cT 0), 1920, .inl (fun _ => 0))), (q69, .inl ((cT 0), 32, .inl (fun _ => 0))), (q70, .inl ((cT 0), 1000, .inl (fun _ => 0))), (q71, .inl ((cT 0), 1400, .inl (fun _ => 0))), (q72, .inl ((cT 0), 16, .inl (fun _ => 0))), (q73, .inl ((cT 0), 1200, .inl (fun _ => 0))), (q94, .inl ((cT 0), 50, .inl (fun _ => 0)))] := hD
  refine va_putF (D := (dC, dI)) (ci := 12) (v := (.ref q94)) (ty := (.array .int)) (C := R_Md) (T := F_Md) (N := 45) hx hb hg in_Md t_Md tok_Md nm_Md hown hK hP hD hS 0 rfl rfl 40 (by decide) (hg _ k_1060) (fun _ h9 => h9) rfl hin rfl (by decide +kernel) rfl rfl (Nat.le_of_ble_eq_true rfl) d_Md_init_697 (fun H locs hP hD hS => ?_)
  have hP : va_P (dC, dI) vcl [(mo, .inr (12, [.ref q1, .int 0, .int 0, .ref q66, .ref q67, .ref q68, .ref q69, .ref q70, .int 0, .ref q71, .int 0, .ref q72, .ref q73, .ref q74, .int 0, .ref q75, .int 0, .int 0, .ref q76, .ref q77, .ref q78, .ref q79, .ref q80, .ref q81, .int 0, .ref q82, .ref q83, .ref q84, .ref q85, .ref q86, .ref q87, .long 0, .long 1, .int 0, .ref q88, .ref q89, .ref q90, .ref q91, .ref q92, .ref q93, .ref q94, .null, .null, .int 0, .int 0])), (q1, .inl ((cT 1), 64, .inr (.inl f65))), (q66, .inl ((cT 0), 160, .inl (fun _ => 0))), (q67, .inl ((cT 0), 4, .inl (fun _ => 0))), (q68, .inl ((cT 0), 1920, .inl (fun _ => 0))), (q69, .inl ((cT 0), 32, .inl (fun _ => 0))), (q70, .inl ((cT 0), 1000, .inl (fun _ => 0))), (q71, .inl ((cT 0), 1400, .inl (fun _ => 0))), (q72, .inl ((cT 0), 16, .inl (fun _ => 0))), (q73, .inl ((cT 0), 1200, .inl (fun _ => 0))), (q94, .inl ((cT 0), 50, .inl (fun _ => 0)))] H := hP
  have hD : va_D A [(mo, .inr (12, [.ref q1, .int 0, .int 0, .ref q66, .ref q67, .ref q68, .ref q69, .ref q70, .int 0, .ref q71, .int 0, .ref q72, .ref q73, .ref q74, .int 0, .ref q75, .int 0, .int 0, .ref q76, .ref q77, .ref q78, .ref q79, .ref q80, .ref q81, .int 0, .ref q82, .ref q83, .ref q84, .ref q85, .ref q86, .ref q87, .long 0, .long 1, .int 0, .ref q88, .ref q89, .ref q90, .ref q91, .ref q92, .ref q93, .ref q94, .null, .null, .int 0, .int 0])), (q1, .inl ((cT 1), 64, .inr (.inl f65))), (q66, .inl ((cT 0), 160, .inl (fun _ => 0))), (q67, .inl ((cT 0), 4, .inl (fun _ => 0))), (q68, .inl ((cT 0), 1920, .inl (fun _ => 0))), (q69, .inl ((cT 0), 32, .inl (fun _ => 0))), (q70, .inl ((cT 0), 1000, .inl (fun _ => 0))), (q71, .inl ((cT 0), 1400, .inl (fun _ => 0))), (q72, .inl ((cT 0), 16, .inl (fun _ => 0))), (q73, .inl ((cT 0), 1200, .inl (fun _ => 0))), (q94, .inl ((cT 0), 50, .inl (fun _ => 0)))] := hD
  have hP := hP.sub (ws' := [(mo, .inr (12, [.ref q1, .int 0, .int 0, .ref q66, .ref q67, .ref q68, .ref q69, .ref q70, .int 0, .ref q71, .int 0, .ref q72, .ref q73, .ref q74, .int 0, .ref q75, .int 0, .int 0, .ref q76, .ref q77, .ref q78, .ref q79, .ref q80, .ref q81, .int 0, .ref q82, .ref q83, .ref q84, .ref q85, .ref q86, .ref q87, .long 0, .long 1, .int 0, .ref q88, .ref q89, .ref q90, .ref q91, .ref q92, .ref q93, .ref q94, .null, .null, .int 0, .int 0])), (q1, .inl ((cT 1), 64, .inr (.inl f65))), (q66, .inl ((cT 0), 160, .inl (fun _ => 0))), (q67, .inl ((cT 0), 4, .inl (fun _ => 0))), (q68, .inl ((cT 0), 1920, .inl (fun _ => 0))), (q69, .inl ((cT 0), 32, .inl (fun _ => 0))), (q70, .inl ((cT 0), 1000, .inl (fun _ => 0))), (q71, .inl ((cT 0), 1400, .inl (fun _ => 0))), (q72, .inl ((cT 0), 16, .inl (fun _ => 0))), (q73, .inl ((cT 0), 1200, .inl (fun _ => 0)))]) [0, 1, 2, 3, 4, 5, 6, 7, 8, 9] rfl
  have hD := hD.sub (ws' := [(mo, .inr (12, [.ref q1, .int 0, .int 0, .ref q66, .ref q67, .ref q68, .ref q69, .ref q70, .int 0, .ref q71, .int 0, .ref q72, .ref q73, .ref q74, .int 0, .ref q75, .int 0, .int 0, .ref q76, .ref q77, .ref q78, .ref q79, .ref q80, .ref q81, .int 0, .ref q82, .ref q83, .ref q84, .ref q85, .ref q86, .ref q87, .long 0, .long 1, .int 0, .ref q88, .ref q89, .ref q90, .ref q91, .ref q92, .ref q93, .ref q94, .null, .null, .int 0, .int 0])), (q1, .inl ((cT 1), 64, .inr (.inl f65))), (q66, .inl ((cT 0), 160, .inl (fun _ => 0))), (q67, .inl ((cT 0), 4, .inl (fun _ => 0))), (q68, .inl ((cT 0), 1920, .inl (fun _ => 0))), (q69, .inl ((cT 0), 32, .inl (fun _ => 0))), (q70, .inl ((cT 0), 1000, .inl (fun _ => 0))), (q71, .inl ((cT 0), 1400, .inl (fun _ => 0))), (q72, .inl ((cT 0), 16, .inl (fun _ => 0))), (q73, .inl ((cT 0), 1200, .inl (fun _ => 0)))]) [0, 1, 2, 3, 4, 5, 6, 7, 8, 9] (by decide) rfl
  refine lv_aload_n hx hb d_Md_init_700 rfl (lv_at hl 0 rfl) ?_
  refine lv_bipush (v := 50) hx hb d_Md_init_701 (by decide) ?_
  refine va_newa (atype := .long) (ty := .long) (n := 50) (N' := 50) (a0 := (50, .inr (.inl (fun _ => 0)))) hx hb (hg _ k_1156) rfl hK hP hD hS hA (fun _ => rfl) (by decide) (by decide) (by decide) (Nat.le_of_ble_eq_true rfl) (Nat.le_of_ble_eq_true rfl) d_Md_init_703 (fun q95 cA9 H hK9 hP hD hS => ?_)
  obtain rfl := nk_long hK9
  clear hK9
  have hP : va_P (dC, dI) vcl [(mo, .inr (12, [.ref q1, .int 0, .int 0, .ref q66, .ref q67, .ref q68, .ref q69, .ref q70, .int 0, .ref q71, .int 0, .ref q72, .ref q73, .ref q74, .int 0, .ref q75, .int 0, .int 0, .ref q76, .ref q77, .ref q78, .ref q79, .ref q80, .ref q81, .int 0, .ref q82, .ref q83, .ref q84, .ref q85, .ref q86, .ref q87, .long 0, .long 1, .int 0, .ref q88, .ref q89, .ref q90, .ref q91, .ref q92, .ref q93, .ref q94, .null, .null, .int 0, .int 0])), (q1, .inl ((cT 1), 64, .inr (.inl f65))), (q66, .inl ((cT 0), 160, .inl (fun _ => 0))), (q67, .inl ((cT 0), 4, .inl (fun _ => 0))), (q68, .inl ((cT 0), 1920, .inl (fun _ => 0))), (q69, .inl ((cT 0), 32, .inl (fun _ => 0))), (q70, .inl ((cT 0), 1000, .inl (fun _ => 0))), (q71, .inl ((cT 0), 1400, .inl (fun _ => 0))), (q72, .inl ((cT 0), 16, .inl (fun _ => 0))), (q73, .inl ((cT 0), 1200, .inl (fun _ => 0))), (q95, .inl ((cT 1), 50, .inr (.inl (fun _ => 0))))] H := hP
  have hD : va_D A [(mo, .inr (12, [.ref q1, .int 0, .int 0, .ref q66, .ref q67, .ref q68, .ref q69, .ref q70, .int 0, .ref q71, .int 0, .ref q72, .ref q73, .ref q74, .int 0, .ref q75, .int 0, .int 0, .ref q76, .ref q77, .ref q78, .ref q79, .ref q80, .ref q81, .int 0, .ref q82, .ref q83, .ref q84, .ref q85, .ref q86, .ref q87, .long 0, .long 1, .int 0, .ref q88, .ref q89, .ref q90, .ref q91, .ref q92, .ref q93, .ref q94, .null, .null, .int 0, .int 0])), (q1, .inl ((cT 1), 64, .inr (.inl f65))), (q66, .inl ((cT 0), 160, .inl (fun _ => 0))), (q67, .inl ((cT 0), 4, .inl (fun _ => 0))), (q68, .inl ((cT 0), 1920, .inl (fun _ => 0))), (q69, .inl ((cT 0), 32, .inl (fun _ => 0))), (q70, .inl ((cT 0), 1000, .inl (fun _ => 0))), (q71, .inl ((cT 0), 1400, .inl (fun _ => 0))), (q72, .inl ((cT 0), 16, .inl (fun _ => 0))), (q73, .inl ((cT 0), 1200, .inl (fun _ => 0))), (q95, .inl ((cT 1), 50, .inr (.inl (fun _ => 0))))] := hD
  refine va_putF (D := (dC, dI)) (ci := 12) (v := (.ref q95)) (ty := (.array .long)) (C := R_Md) (T := F_Md) (N := 45) hx hb hg in_Md t_Md tok_Md nm_Md hown hK hP hD hS 0 rfl rfl 41 (by decide) (hg _ k_1061) (fun _ h9 => h9) rfl hin rfl (by decide +kernel) rfl rfl (Nat.le_of_ble_eq_true rfl) d_Md_init_705 (fun H locs hP hD hS => ?_)
  have hP : va_P (dC, dI) vcl [(mo, .inr (12, [.ref q1, .int 0, .int 0, .ref q66, .ref q67, .ref q68, .ref q69, .ref q70, .int 0, .ref q71, .int 0, .ref q72, .ref q73, .ref q74, .int 0, .ref q75, .int 0, .int 0, .ref q76, .ref q77, .ref q78, .ref q79, .ref q80, .ref q81, .int 0, .ref q82, .ref q83, .ref q84, .ref q85, .ref q86, .ref q87, .long 0, .long 1, .int 0, .ref q88, .ref q89, .ref q90, .ref q91, .ref q92, .ref q93, .ref q94, .ref q95, .null, .int 0, .int 0])), (q1, .inl ((cT 1), 64, .inr (.inl f65))), (q66, .inl ((cT 0), 160, .inl (fun _ => 0))), (q67, .inl ((cT 0), 4, .inl (fun _ => 0))), (q68, .inl ((cT 0), 1920, .inl (fun _ => 0))), (q69, .inl ((cT 0), 32, .inl (fun _ => 0))), (q70, .inl ((cT 0), 1000, .inl (fun _ => 0))), (q71, .inl ((cT 0), 1400, .inl (fun _ => 0))), (q72, .inl ((cT 0), 16, .inl (fun _ => 0))), (q73, .inl ((cT 0), 1200, .inl (fun _ => 0))), (q95, .inl ((cT 1), 50, .inr (.inl (fun _ => 0))))] H := hP
  have hD : va_D A [(mo, .inr (12, [.ref q1, .int 0, .int 0, .ref q66, .ref q67, .ref q68, .ref q69, .ref q70, .int 0, .ref q71, .int 0, .ref q72, .ref q73, .ref q74, .int 0, .ref q75, .int 0, .int 0, .ref q76, .ref q77, .ref q78, .ref q79, .ref q80, .ref q81, .int 0, .ref q82, .ref q83, .ref q84, .ref q85, .ref q86, .ref q87, .long 0, .long 1, .int 0, .ref q88, .ref q89, .ref q90, .ref q91, .ref q92, .ref q93, .ref q94, .ref q95, .null, .int 0, .int 0])), (q1, .inl ((cT 1), 64, .inr (.inl f65))), (q66, .inl ((cT 0), 160, .inl (fun _ => 0))), (q67, .inl ((cT 0), 4, .inl (fun _ => 0))), (q68, .inl ((cT 0), 1920, .inl (fun _ => 0))), (q69, .inl ((cT 0), 32, .inl (fun _ => 0))), (q70, .inl ((cT 0), 1000, .inl (fun _ => 0))), (q71, .inl ((cT 0), 1400, .inl (fun _ => 0))), (q72, .inl ((cT 0), 16, .inl (fun _ => 0))), (q73, .inl ((cT 0), 1200, .inl (fun _ => 0))), (q95, .inl ((cT 1), 50, .inr (.inl (fun _ => 0))))] := hD
  have hP := hP.sub (ws' := [(mo, .inr (12, [.ref q1, .int 0, .int 0, .ref q66, .ref q67, .ref q68, .ref q69, .ref q70, .int 0, .ref q71, .int 0, .ref q72, .ref q73, .ref q74, .int 0, .ref q75, .int 0, .int 0, .ref q76, .ref q77, .ref q78, .ref q79, .ref q80, .ref q81, .int 0, .ref q82, .ref q83, .ref q84, .ref q85, .ref q86, .ref q87, .long 0, .long 1, .int 0, .ref q88, .ref q89, .ref q90, .ref q91, .ref q92, .ref q93, .ref q94, .ref q95, .null, .int 0, .int 0])), (q1, .inl ((cT 1), 64, .inr (.inl f65))), (q66, .inl ((cT 0), 160, .inl (fun _ => 0))), (q67, .inl ((cT 0), 4, .inl (fun _ => 0))), (q68, .inl ((cT 0), 1920, .inl (fun _ => 0))), (q69, .inl ((cT 0), 32, .inl (fun _ => 0))), (q70, .inl ((cT 0), 1000, .inl (fun _ => 0))), (q71, .inl ((cT 0), 1400, .inl (fun _ => 0))), (q72, .inl ((cT 0), 16, .inl (fun _ => 0))), (q73, .inl ((cT 0), 1200, .inl (fun _ => 0)))]) [0, 1, 2, 3, 4, 5, 6, 7, 8, 9] rfl
  have hD := hD.sub (ws' := [(mo, .inr (12, [.ref q1, .int 0, .int 0, .ref q66, .ref q67, .ref q68, .ref q69, .ref q70, .int 0, .ref q71, .int 0, .ref q72, .ref q73, .ref q74, .int 0, .ref q75, .int 0, .int 0, .ref q76, .ref q77, .ref q78, .ref q79, .ref q80, .ref q81, .int 0, .ref q82, .ref q83, .ref q84, .ref q85, .ref q86, .ref q87, .long 0, .long 1, .int 0, .ref q88, .ref q89, .ref q90, .ref q91, .ref q92, .ref q93, .ref q94, .ref q95, .null, .int 0, .int 0])), (q1, .inl ((cT 1), 64, .inr (.inl f65))), (q66, .inl ((cT 0), 160, .inl (fun _ => 0))), (q67, .inl ((cT 0), 4, .inl (fun _ => 0))), (q68, .inl ((cT 0), 1920, .inl (fun _ => 0))), (q69, .inl ((cT 0), 32, .inl (fun _ => 0))), (q70, .inl ((cT 0), 1000, .inl (fun _ => 0))), (q71, .inl ((cT 0), 1400, .inl (fun _ => 0))), (q72, .inl ((cT 0), 16, .inl (fun _ => 0))), (q73, .inl ((cT 0), 1200, .inl (fun _ => 0)))]) [0, 1, 2, 3, 4, 5, 6, 7, 8, 9] (by decide) rfl
  refine lv_aload_n hx hb d_Md_init_708 rfl (lv_at hl 0 rfl) ?_
  refine lv_bipush (v := 50) hx hb d_Md_init_709 (by decide) ?_
  refine va_newa (atype := .long) (ty := .long) (n := 50) (N' := 50) (a0 := (50, .inr (.inl (fun _ => 0)))) hx hb (hg _ k_1156) rfl hK hP hD hS hA (fun _ => rfl) (by decide) (by decide) (by decide) (Nat.le_of_ble_eq_true rfl) (Nat.le_of_ble_eq_true rfl) d_Md_init_711 (fun q96 cA9 H hK9 hP hD hS => ?_)
  obtain rfl := nk_long hK9
  clear hK9
  have hP : va_P (dC, dI) vcl [(mo, .inr (12, [.ref q1, .int 0, .int 0, .ref q66, .ref q67, .ref q68, .ref q69, .ref q70, .int 0, .ref q71, .int 0, .ref q72, .ref q73, .ref q74, .int 0, .ref q75, .int 0, .int 0, .ref q76, .ref q77, .ref q78, .ref q79, .ref q80, .ref q81, .int 0, .ref q82, .ref q83, .ref q84, .ref q85, .ref q86, .ref q87, .long 0, .long 1, .int 0, .ref q88, .ref q89, .ref q90, .ref q91, .ref q92, .ref q93, .ref q94, .ref q95, .null, .int 0, .int 0])), (q1, .inl ((cT 1), 64, .inr (.inl f65))), (q66, .inl ((cT 0), 160, .inl (fun _ => 0))), (q67, .inl ((cT 0), 4, .inl (fun _ => 0))), (q68, .inl ((cT 0), 1920, .inl (fun _ => 0))), (q69, .inl ((cT 0), 32, .inl (fun _ => 0))), (q70, .inl ((cT 0), 1000, .inl (fun _ => 0))), (q71, .inl ((cT 0), 1400, .inl (fun _ => 0))), (q72, .inl ((cT 0), 16, .inl (fun _ => 0))), (q73, .inl ((cT 0), 1200, .inl (fun _ => 0))), (q96, .inl ((cT 1), 50, .inr (.inl (fun _ => 0))))] H := hP
  have hD : va_D A [(mo, .inr (12, [.ref q1, .int 0, .int 0, .ref q66, .ref q67, .ref q68, .ref q69, .ref q70, .int 0, .ref q71, .int 0, .ref q72, .ref q73, .ref q74, .int 0, .ref q75, .int 0, .int 0, .ref q76, .ref q77, .ref q78, .ref q79, .ref q80, .ref q81, .int 0, .ref q82, .ref q83, .ref q84, .ref q85, .ref q86, .ref q87, .long 0, .long 1, .int 0, .ref q88, .ref q89, .ref q90, .ref q91, .ref q92, .ref q93, .ref q94, .ref q95, .null, .int 0, .int 0])), (q1, .inl ((cT 1), 64, .inr (.inl f65))), (q66, .inl ((cT 0), 160, .inl (fun _ => 0))), (q67, .inl ((cT 0), 4, .inl (fun _ => 0))), (q68, .inl ((cT 0), 1920, .inl (fun _ => 0))), (q69, .inl ((cT 0), 32, .inl (fun _ => 0))), (q70, .inl ((cT 0), 1000, .inl (fun _ => 0))), (q71, .inl ((cT 0), 1400, .inl (fun _ => 0))), (q72, .inl ((cT 0), 16, .inl (fun _ => 0))), (q73, .inl ((cT 0), 1200, .inl (fun _ => 0))), (q96, .inl ((cT 1), 50, .inr (.inl (fun _ => 0))))] := hD
  refine va_putF (D := (dC, dI)) (ci := 12) (v := (.ref q96)) (ty := (.array .long)) (C := R_Md) (T := F_Md) (N := 45) hx hb hg in_Md t_Md tok_Md nm_Md hown hK hP hD hS 0 rfl rfl 42 (by decide) (hg _ k_1062) (fun _ h9 => h9) rfl hin rfl (by decide +kernel) rfl rfl (Nat.le_of_ble_eq_true rfl) d_Md_init_713 (fun H locs hP hD hS => ?_)
  have hP : va_P (dC, dI) vcl [(mo, .inr (12, [.ref q1, .int 0, .int 0, .ref q66, .ref q67, .ref q68, .ref q69, .ref q70, .int 0, .ref q71, .int 0, .ref q72, .ref q73, .ref q74, .int 0, .ref q75, .int 0, .int 0, .ref q76, .ref q77, .ref q78, .ref q79, .ref q80, .ref q81, .int 0, .ref q82, .ref q83, .ref q84, .ref q85, .ref q86, .ref q87, .long 0, .long 1, .int 0, .ref q88, .ref q89, .ref q90, .ref q91, .ref q92, .ref q93, .ref q94, .ref q95, .ref q96, .int 0, .int 0])), (q1, .inl ((cT 1), 64, .inr (.inl f65))), (q66, .inl ((cT 0), 160, .inl (fun _ => 0))), (q67, .inl ((cT 0), 4, .inl (fun _ => 0))), (q68, .inl ((cT 0), 1920, .inl (fun _ => 0))), (q69, .inl ((cT 0), 32, .inl (fun _ => 0))), (q70, .inl ((cT 0), 1000, .inl (fun _ => 0))), (q71, .inl ((cT 0), 1400, .inl (fun _ => 0))), (q72, .inl ((cT 0), 16, .inl (fun _ => 0))), (q73, .inl ((cT 0), 1200, .inl (fun _ => 0))), (q96, .inl ((cT 1), 50, .inr (.inl (fun _ => 0))))] H := hP
  have hD : va_D A [(mo, .inr (12, [.ref q1, .int 0, .int 0, .ref q66, .ref q67, .ref q68, .ref q69, .ref q70, .int 0, .ref q71, .int 0, .ref q72, .ref q73, .ref q74, .int 0, .ref q75, .int 0, .int 0, .ref q76, .ref q77, .ref q78, .ref q79, .ref q80, .ref q81, .int 0, .ref q82, .ref q83, .ref q84, .ref q85, .ref q86, .ref q87, .long 0, .long 1, .int 0, .ref q88, .ref q89, .ref q90, .ref q91, .ref q92, .ref q93, .ref q94, .ref q95, .ref q96, .int 0, .int 0])), (q1, .inl ((cT 1), 64, .inr (.inl f65))), (q66, .inl ((cT 0), 160, .inl (fun _ => 0))), (q67, .inl ((cT 0), 4, .inl (fun _ => 0))), (q68, .inl ((cT 0), 1920, .inl (fun _ => 0))), (q69, .inl ((cT 0), 32, .inl (fun _ => 0))), (q70, .inl ((cT 0), 1000, .inl (fun _ => 0))), (q71, .inl ((cT 0), 1400, .inl (fun _ => 0))), (q72, .inl ((cT 0), 16, .inl (fun _ => 0))), (q73, .inl ((cT 0), 1200, .inl (fun _ => 0))), (q96, .inl ((cT 1), 50, .inr (.inl (fun _ => 0))))] := hD
  have hP := hP.sub (ws' := [(mo, .inr (12, [.ref q1, .int 0, .int 0, .ref q66, .ref q67, .ref q68, .ref q69, .ref q70, .int 0, .ref q71, .int 0, .ref q72, .ref q73, .ref q74, .int 0, .ref q75, .int 0, .int 0, .ref q76, .ref q77, .ref q78, .ref q79, .ref q80, .ref q81, .int 0, .ref q82, .ref q83, .ref q84, .ref q85, .ref q86, .ref q87, .long 0, .long 1, .int 0, .ref q88, .ref q89, .ref q90, .ref q91, .ref q92, .ref q93, .ref q94, .ref q95, .ref q96, .int 0, .int 0])), (q1, .inl ((cT 1), 64, .inr (.inl f65))), (q66, .inl ((cT 0), 160, .inl (fun _ => 0))), (q67, .inl ((cT 0), 4, .inl (fun _ => 0))), (q68, .inl ((cT 0), 1920, .inl (fun _ => 0))), (q69, .inl ((cT 0), 32, .inl (fun _ => 0))), (q70, .inl ((cT 0), 1000, .inl (fun _ => 0))), (q71, .inl ((cT 0), 1400, .inl (fun _ => 0))), (q72, .inl ((cT 0), 16, .inl (fun _ => 0))), (q73, .inl ((cT 0), 1200, .inl (fun _ => 0)))]) [0, 1, 2, 3, 4, 5, 6, 7, 8, 9] rfl
  have hD := hD.sub (ws' := [(mo, .inr (12, [.ref q1, .int 0, .int 0, .ref q66, .ref q67, .ref q68, .ref q69, .ref q70, .int 0, .ref q71, .int 0, .ref q72, .ref q73, .ref q74, .int 0, .ref q75, .int 0, .int 0, .ref q76, .ref q77, .ref q78, .ref q79, .ref q80, .ref q81, .int 0, .ref q82, .ref q83, .ref q84, .ref q85, .ref q86, .ref q87, .long 0, .long 1, .int 0, .ref q88, .ref q89, .ref q90, .ref q91, .ref q92, .ref q93, .ref q94, .ref q95, .ref q96, .int 0, .int 0])), (q1, .inl ((cT 1), 64, .inr (.inl f65))), (q66, .inl ((cT 0), 160, .inl (fun _ => 0))), (q67, .inl ((cT 0), 4, .inl (fun _ => 0))), (q68, .inl ((cT 0), 1920, .inl (fun _ => 0))), (q69, .inl ((cT 0), 32, .inl (fun _ => 0))), (q70, .inl ((cT 0), 1000, .inl (fun _ => 0))), (q71, .inl ((cT 0), 1400, .inl (fun _ => 0))), (q72, .inl ((cT 0), 16, .inl (fun _ => 0))), (q73, .inl ((cT 0), 1200, .inl (fun _ => 0)))]) [0, 1, 2, 3, 4, 5, 6, 7, 8, 9] (by decide) rfl
  refine lv_iconst (v := 0) hx hb d_Md_init_716 (by decide) ?_
  refine lv_istore_n (lv' := [(1, .int 0), (0, .ref mo)]) hx hb d_Md_init_717 rfl hl (by decide) rfl (fun ls hl => ?_)
  have hl := lv_sub hl [0, 1] (show _ = [(1, .int 0), (0, .ref mo)] from rfl)
  have L97 : ∀ (Q : State → Prop) (exit : ∀ (fc : Nat → Int32) (fz : Nat → Int32) (H : Heap) (locs : List Loc) (ls : Array Slot), (∀ q9, q9 < 4 → fz q9 = 1) → va_P (dC, dI) vcl [(mo, .inr (12, [.ref q1, .int 0, .int 0, .ref q66, .ref q67, .ref q68, .ref q69, .ref q70, .int 0, .ref q71, .int 0, .ref q72, .ref q73, .ref q74, .int 0, .ref q75, .int 0, .int 0, .ref q76, .ref q77, .ref q78, .ref q79, .ref q80, .ref q81, .int 0, .ref q82, .ref q83, .ref q84, .ref q85, .ref q86, .ref q87, .long 0, .long 1, .int 0, .ref q88, .ref q89, .ref q90, .ref q91, .ref q92, .ref q93, .ref q94, .ref q95, .ref q96, .int 0, .int 0])), (q1, .inl ((cT 1), 64, .inr (.inl f65))), (q66, .inl ((cT 0), 160, .inl fc)), (q67, .inl ((cT 0), 4, .inl fz)), (q68, .inl ((cT 0), 1920, .inl (fun _ => 0))), (q69, .inl ((cT 0), 32, .inl (fun _ => 0))), (q70, .inl ((cT 0), 1000, .inl (fun _ => 0))), (q71, .inl ((cT 0), 1400, .inl (fun _ => 0))), (q72, .inl ((cT 0), 16, .inl (fun _ => 0))), (q73, .inl ((cT 0), 1200, .inl (fun _ => 0)))] H → va_D A [(mo, .inr (12, [.ref q1, .int 0, .int 0, .ref q66, .ref q67, .ref q68, .ref q69, .ref q70, .int 0, .ref q71, .int 0, .ref q72, .ref q73, .ref q74, .int 0, .ref q75, .int 0, .int 0, .ref q76, .ref q77, .ref q78, .ref q79, .ref q80, .ref q81, .int 0, .ref q82, .ref q83, .ref q84, .ref q85, .ref q86, .ref q87, .long 0, .long 1, .int 0, .ref q88, .ref q89, .ref q90, .ref q91, .ref q92, .ref q93, .ref q94, .ref q95, .ref q96, .int 0, .int 0])), (q1, .inl ((cT 1), 64, .inr (.inl f65))), (q66, .inl ((cT 0), 160, .inl fc)), (q67, .inl ((cT 0), 4, .inl fz)), (q68, .inl ((cT 0), 1920, .inl (fun _ => 0))), (q69, .inl ((cT 0), 32, .inl (fun _ => 0))), (q70, .inl ((cT 0), 1000, .inl (fun _ => 0))), (q71, .inl ((cT 0), 1400, .inl (fun _ => 0))), (q72, .inl ((cT 0), 16, .inl (fun _ => 0))), (q73, .inl ((cT 0), 1200, .inl (fun _ => 0)))] → va_S A s.heap H locs → lv_has ls 2 [(1, .int (nI 4)), (0, .ref mo)] → W p l e ({ frames := 2, cells := 40, slots := 20000, locals := 60 } : Room) s m args below meth c H locs 32 16563 Q (F0 m 749 ls [])) (j8 i : Nat) (fc : Nat → Int32) (fz : Nat → Int32) (H : Heap) (locs : List Loc) (ls : Array Slot), i + j8 = 4 → (∀ q9, q9 < i → fz q9 = 1) → va_P (dC, dI) vcl [(mo, .inr (12, [.ref q1, .int 0, .int 0, .ref q66, .ref q67, .ref q68, .ref q69, .ref q70, .int 0, .ref q71, .int 0, .ref q72, .ref q73, .ref q74, .int 0, .ref q75, .int 0, .int 0, .ref q76, .ref q77, .ref q78, .ref q79, .ref q80, .ref q81, .int 0, .ref q82, .ref q83, .ref q84, .ref q85, .ref q86, .ref q87, .long 0, .long 1, .int 0, .ref q88, .ref q89, .ref q90, .ref q91, .ref q92, .ref q93, .ref q94, .ref q95, .ref q96, .int 0, .int 0])), (q1, .inl ((cT 1), 64, .inr (.inl f65))), (q66, .inl ((cT 0), 160, .inl fc)), (q67, .inl ((cT 0), 4, .inl fz)), (q68, .inl ((cT 0), 1920, .inl (fun _ => 0))), (q69, .inl ((cT 0), 32, .inl (fun _ => 0))), (q70, .inl ((cT 0), 1000, .inl (fun _ => 0))), (q71, .inl ((cT 0), 1400, .inl (fun _ => 0))), (q72, .inl ((cT 0), 16, .inl (fun _ => 0))), (q73, .inl ((cT 0), 1200, .inl (fun _ => 0)))] H → va_D A [(mo, .inr (12, [.ref q1, .int 0, .int 0, .ref q66, .ref q67, .ref q68, .ref q69, .ref q70, .int 0, .ref q71, .int 0, .ref q72, .ref q73, .ref q74, .int 0, .ref q75, .int 0, .int 0, .ref q76, .ref q77, .ref q78, .ref q79, .ref q80, .ref q81, .int 0, .ref q82, .ref q83, .ref q84, .ref q85, .ref q86, .ref q87, .long 0, .long 1, .int 0, .ref q88, .ref q89, .ref q90, .ref q91, .ref q92, .ref q93, .ref q94, .ref q95, .ref q96, .int 0, .int 0])), (q1, .inl ((cT 1), 64, .inr (.inl f65))), (q66, .inl ((cT 0), 160, .inl fc)), (q67, .inl ((cT 0), 4, .inl fz)), (q68, .inl ((cT 0), 1920, .inl (fun _ => 0))), (q69, .inl ((cT 0), 32, .inl (fun _ => 0))), (q70, .inl ((cT 0), 1000, .inl (fun _ => 0))), (q71, .inl ((cT 0), 1400, .inl (fun _ => 0))), (q72, .inl ((cT 0), 16, .inl (fun _ => 0))), (q73, .inl ((cT 0), 1200, .inl (fun _ => 0)))] → va_S A s.heap H locs → lv_has ls 2 [(1, .int (nI i)), (0, .ref mo)] → W p l e ({ frames := 2, cells := 40, slots := 20000, locals := 60 } : Room) s m args below meth c H locs 32 16563 Q (F0 m 718 ls []) := by
    intro Q exit j8
    induction j8 with
    | zero => 
      intro i fc fz H locs ls hij hz hP hD hS hl
      have hij : 4 = i := by omega
      refine lv_iload_n hx hb d_Md_init_718 rfl (lv_at hl 0 rfl) ?_
      refine lv_iconst (v := 4) hx hb d_Md_init_719 (by decide) ?_
      refine lv_icmp_ge (tgt := 749) hx hb d_Md_init_720 (by decide) (fun hc98 => ?_) (fun hn9 => absurd (by rw [← hij]; decide) hn9)
      subst hij
      exact exit fc fz _ _ _ hz hP hD hS hl
    | succ j8 ih => 
      intro i fc fz H locs ls hij hz hP hD hS hl
      have hlt : i < 4 := by omega
      refine lv_iload_n hx hb d_Md_init_718 rfl (lv_at hl 0 rfl) ?_
      refine lv_iconst (v := 4) hx hb d_Md_init_719 (by decide) ?_
      refine lv_icmp_ge (tgt := 749) hx hb d_Md_init_720 (by decide) (fun hn9 => absurd hn9 (nI_ge (b := 4) hlt (by decide))) (fun hc99 => ?_)
      refine lv_aload_n hx hb d_Md_init_723 rfl (lv_at hl 1 rfl) ?_
      refine va_get (D := (dC, dI)) (ci := 12) (v := (.ref q66)) (C := R_Md) (T := F_Md) (N := 45) hx hb hg in_Md hown hK hP 0 rfl rfl 3 (by decide) (hg _ k_1023) (fun _ h9 => h9) rfl d_Md_init_724 ?_
      refine lv_bipush (v := 40) hx hb d_Md_init_727 (by decide) ?_
      refine lv_iload_n hx hb d_Md_init_729 rfl (lv_at hl 0 rfl) ?_
      refine lv_imul hx hb d_Md_init_730 ?_
      refine lv_topi (fun x101 e100 => ?_)
      obtain rfl : x101 = nI (40 * i) := by rw [e100]; exact pk_mul 40 i
      refine lv_bipush (v := 49) hx hb d_Md_init_731 (by decide) ?_
      refine lv_iload_n hx hb d_Md_init_733 rfl (lv_at hl 0 rfl) ?_
      refine lv_iadd hx hb d_Md_init_734 ?_
      refine va_iast hx hb hK hP hD hS 2 0 rfl rfl (i := (nI (40 * i))) (vp_in_nI (N := 160) (by omega) (by decide)) d_Md_init_735 (fun H locs hP hD hS => ?_)
      have hP : va_P (dC, dI) vcl [(mo, .inr (12, [.ref q1, .int 0, .int 0, .ref q66, .ref q67, .ref q68, .ref q69, .ref q70, .int 0, .ref q71, .int 0, .ref q72, .ref q73, .ref q74, .int 0, .ref q75, .int 0, .int 0, .ref q76, .ref q77, .ref q78, .ref q79, .ref q80, .ref q81, .int 0, .ref q82, .ref q83, .ref q84, .ref q85, .ref q86, .ref q87, .long 0, .long 1, .int 0, .ref q88, .ref q89, .ref q90, .ref q91, .ref q92, .ref q93, .ref q94, .ref q95, .ref q96, .int 0, .int 0])), (q1, .inl ((cT 1), 64, .inr (.inl f65))), (q66, .inl ((cT 0), 160, .inl (upd fc (nI (40 * i)).toNatClampNeg (49 + (nI i))))), (q67, .inl ((cT 0), 4, .inl fz)), (q68, .inl ((cT 0), 1920, .inl (fun _ => 0))), (q69, .inl ((cT 0), 32, .inl (fun _ => 0))), (q70, .inl ((cT 0), 1000, .inl (fun _ => 0))), (q71, .inl ((cT 0), 1400, .inl (fun _ => 0))), (q72, .inl ((cT 0), 16, .inl (fun _ => 0))), (q73, .inl ((cT 0), 1200, .inl (fun _ => 0)))] H := hP
      have hD : va_D A [(mo, .inr (12, [.ref q1, .int 0, .int 0, .ref q66, .ref q67, .ref q68, .ref q69, .ref q70, .int 0, .ref q71, .int 0, .ref q72, .ref q73, .ref q74, .int 0, .ref q75, .int 0, .int 0, .ref q76, .ref q77, .ref q78, .ref q79, .ref q80, .ref q81, .int 0, .ref q82, .ref q83, .ref q84, .ref q85, .ref q86, .ref q87, .long 0, .long 1, .int 0, .ref q88, .ref q89, .ref q90, .ref q91, .ref q92, .ref q93, .ref q94, .ref q95, .ref q96, .int 0, .int 0])), (q1, .inl ((cT 1), 64, .inr (.inl f65))), (q66, .inl ((cT 0), 160, .inl (upd fc (nI (40 * i)).toNatClampNeg (49 + (nI i))))), (q67, .inl ((cT 0), 4, .inl fz)), (q68, .inl ((cT 0), 1920, .inl (fun _ => 0))), (q69, .inl ((cT 0), 32, .inl (fun _ => 0))), (q70, .inl ((cT 0), 1000, .inl (fun _ => 0))), (q71, .inl ((cT 0), 1400, .inl (fun _ => 0))), (q72, .inl ((cT 0), 16, .inl (fun _ => 0))), (q73, .inl ((cT 0), 1200, .inl (fun _ => 0)))] := hD
      refine lv_aload_n hx hb d_Md_init_736 rfl (lv_at hl 1 rfl) ?_
      refine va_get (D := (dC, dI)) (ci := 12) (v := (.ref q67)) (C := R_Md) (T := F_Md) (N := 45) hx hb hg in_Md hown hK hP 0 rfl rfl 4 (by decide) (hg _ k_1024) (fun _ h9 => h9) rfl d_Md_init_737 ?_
      refine lv_iload_n hx hb d_Md_init_740 rfl (lv_at hl 0 rfl) ?_
      refine lv_iconst (v := 1) hx hb d_Md_init_741 (by decide) ?_
      refine va_iast hx hb hK hP hD hS 3 0 rfl rfl (i := (nI i)) (vp_in_nI (N := 4) (by omega) (by decide)) d_Md_init_742 (fun H locs hP hD hS => ?_)
      have ef102 : upd fz (nI i).toNatClampNeg 1 = upd fz i 1 := by rw [nI_clamp (by omega)]
      rw [ef102] at hP hD
      have hP : va_P (dC, dI) vcl [(mo, .inr (12, [.ref q1, .int 0, .int 0, .ref q66, .ref q67, .ref q68, .ref q69, .ref q70, .int 0, .ref q71, .int 0, .ref q72, .ref q73, .ref q74, .int 0, .ref q75, .int 0, .int 0, .ref q76, .ref q77, .ref q78, .ref q79, .ref q80, .ref q81, .int 0, .ref q82, .ref q83, .ref q84, .ref q85, .ref q86, .ref q87, .long 0, .long 1, .int 0, .ref q88, .ref q89, .ref q90, .ref q91, .ref q92, .ref q93, .ref q94, .ref q95, .ref q96, .int 0, .int 0])), (q1, .inl ((cT 1), 64, .inr (.inl f65))), (q66, .inl ((cT 0), 160, .inl (upd fc (nI (40 * i)).toNatClampNeg (49 + (nI i))))), (q67, .inl ((cT 0), 4, .inl (upd fz i 1))), (q68, .inl ((cT 0), 1920, .inl (fun _ => 0))), (q69, .inl ((cT 0), 32, .inl (fun _ => 0))), (q70, .inl ((cT 0), 1000, .inl (fun _ => 0))), (q71, .inl ((cT 0), 1400, .inl (fun _ => 0))), (q72, .inl ((cT 0), 16, .inl (fun _ => 0))), (q73, .inl ((cT 0), 1200, .inl (fun _ => 0)))] H := hP
      have hD : va_D A [(mo, .inr (12, [.ref q1, .int 0, .int 0, .ref q66, .ref q67, .ref q68, .ref q69, .ref q70, .int 0, .ref q71, .int 0, .ref q72, .ref q73, .ref q74, .int 0, .ref q75, .int 0, .int 0, .ref q76, .ref q77, .ref q78, .ref q79, .ref q80, .ref q81, .int 0, .ref q82, .ref q83, .ref q84, .ref q85, .ref q86, .ref q87, .long 0, .long 1, .int 0, .ref q88, .ref q89, .ref q90, .ref q91, .ref q92, .ref q93, .ref q94, .ref q95, .ref q96, .int 0, .int 0])), (q1, .inl ((cT 1), 64, .inr (.inl f65))), (q66, .inl ((cT 0), 160, .inl (upd fc (nI (40 * i)).toNatClampNeg (49 + (nI i))))), (q67, .inl ((cT 0), 4, .inl (upd fz i 1))), (q68, .inl ((cT 0), 1920, .inl (fun _ => 0))), (q69, .inl ((cT 0), 32, .inl (fun _ => 0))), (q70, .inl ((cT 0), 1000, .inl (fun _ => 0))), (q71, .inl ((cT 0), 1400, .inl (fun _ => 0))), (q72, .inl ((cT 0), 16, .inl (fun _ => 0))), (q73, .inl ((cT 0), 1200, .inl (fun _ => 0)))] := hD
      refine lv_iinc (k := 0) (v := nI (i + 1)) (lv' := [(1, .int (nI (i + 1))), (0, .ref mo)]) hx hb d_Md_init_743 hl rfl (nI_1 i) (by decide) rfl (fun ls hl => ?_)
      refine lv_goto (tgt := 718) hx hb d_Md_init_746 (by decide) ?_
      exact ih (i + 1) _ (upd fz i 1) _ _ _ (by omega) (lt_s (fun q hq => by rw [pk_un (by omega)]; exact hz q hq) pk_us) hP hD hS hl
  refine L97 _ (fun fc fz H locs ls hz hP hD hS hl => ?_) (4 - 0) 0 (fun _ => 0) (fun _ => 0) H _ ls (by omega) (fun q hq => absurd hq (Nat.not_lt_zero q)) hP hD hS hl
  obtain ⟨r, hr9⟩ : ∃ r : Nat → Nat, r = fun k => match k with | 0 => q1 | 3 => q66 | 4 => q67 | 5 => q68 | 6 => q69 | 7 => q70 | 9 => q71 | 11 => q72 | 12 => q73 | 13 => q74 | 15 => q75 | 18 => q76 | 19 => q77 | 20 => q78 | 21 => q79 | 22 => q80 | 23 => q81 | 25 => q82 | 26 => q83 | 27 => q84 | 28 => q85 | 29 => q86 | 30 => q87 | 34 => q88 | 35 => q89 | 36 => q90 | 37 => q91 | 38 => q92 | 39 => q93 | 40 => q94 | 41 => q95 | 42 => q96 | _ => 0 := ⟨_, rfl⟩
  have hP : va_P (dC, dI) vcl [(mo, .inr (12, mdF r (fun _ => 0) (fun k => match k with | 32 => 1 | _ => 0) 0 0 (nI 0) (nI 0))), (r 0, .inl ((cT 1), 64, .inr (.inl f65))), (r 3, .inl ((cT 0), 160, .inl fc)), (r 4, .inl ((cT 0), 4, .inl fz)), (r 5, .inl ((cT 0), 1920, .inl (fun _ => 0))), (r 6, .inl ((cT 0), 32, .inl (fun _ => 0))), (r 7, .inl ((cT 0), 1000, .inl (fun _ => 0))), (r 9, .inl ((cT 0), 1400, .inl (fun _ => 0))), (r 11, .inl ((cT 0), 16, .inl (fun _ => 0))), (r 12, .inl ((cT 0), 1200, .inl (fun _ => 0)))] H := by rw [hr9]; exact hP
  have hD : va_D A [(mo, .inr (12, mdF r (fun _ => 0) (fun k => match k with | 32 => 1 | _ => 0) 0 0 (nI 0) (nI 0))), (r 0, .inl ((cT 1), 64, .inr (.inl f65))), (r 3, .inl ((cT 0), 160, .inl fc)), (r 4, .inl ((cT 0), 4, .inl fz)), (r 5, .inl ((cT 0), 1920, .inl (fun _ => 0))), (r 6, .inl ((cT 0), 32, .inl (fun _ => 0))), (r 7, .inl ((cT 0), 1000, .inl (fun _ => 0))), (r 9, .inl ((cT 0), 1400, .inl (fun _ => 0))), (r 11, .inl ((cT 0), 16, .inl (fun _ => 0))), (r 12, .inl ((cT 0), 1200, .inl (fun _ => 0)))] := by rw [hr9]; exact hD
  refine lv_aload_n hx hb d_Md_init_749 rfl (lv_at hl 1 rfl) ?_
  refine lv_iconst (v := 1) hx hb d_Md_init_750 (by decide) ?_
  refine lv_iconst (v := 0) hx hb d_Md_init_751 (by decide) ?_
  refine lv_lconst (v := 0) hx hb d_Md_init_752 (by decide) ?_
  have hPc := hP.sub (ws' := [(mo, .inr (12, mdF r (fun _ => 0) (fun k => match k with | 32 => 1 | _ => 0) 0 0 (nI 0) (nI 0))), (r 7, .inl ((cT 0), 1000, .inl (fun _ => 0)))]) [0, 6] rfl
  have hDc := hD.sub (ws' := [(mo, .inr (12, mdF r (fun _ => 0) (fun k => match k with | 32 => 1 | _ => 0) 0 0 (nI 0) (nI 0))), (r 7, .inl ((cT 0), 1000, .inl (fun _ => 0)))]) [0, 6] (by decide) rfl
  have hFc := va_free (wc := [(mo, .inr (12, mdF r (fun _ => 0) (fun k => match k with | 32 => 1 | _ => 0) 0 0 (nI 0) (nI 0))), (r 7, .inl ((cT 0), 1000, .inl (fun _ => 0)))]) hD hS hA [0, 6] rfl
  refine va_callv (va_runV (C := "DoorServerModel") (As := [.int 1, .int 0, .long 0]) (rest := []) ⟨hx, hb, hml, hown, hg⟩ (m_begin l dC dI cT H.size mo r (fun _ => 0) (fun k => match k with | 32 => 1 | _ => 0) 0 0 0 0 (fun _ => 0) 1 0 0 ) (cwV 3 hg (gI (List.forall_mem_append.mpr ⟨List.forall_mem_cons.mpr ⟨k_1011, List.forall_mem_cons.mpr ⟨k_1013, List.forall_mem_cons.mpr ⟨(big_sel (q := y_Md_begin) (n := 45) (by decide +kernel)), List.forall_mem_cons.mpr ⟨k_13, fun _ h => absurd h List.not_mem_nil⟩⟩⟩⟩, List.forall_mem_cons.mpr ⟨k_1014, fun _ h => h⟩⟩)) rfl rfl rfl (by decide +kernel) ⟨Nat.le_of_ble_eq_true rfl, Nat.le_of_ble_eq_true rfl⟩) ⟨fun a U g mk q => by obtain ⟨q0, q1, qP, qK, qD⟩ := q; exact ⟨q0, q1, qP, va_K.moved (u := U) (U := U.calling g mk a) (Vm.Alike.refl U.vm) qK, qD⟩, va_recv (q0 := 0) (ci := 12) hK hP rfl rfl, fun U hU hW => ⟨rfl, by rw [hU], by rw [hU]; exact hPc, va_K.moved hW.alike hK, hDc.weaken (fun _ _ _ _ => trivial)⟩⟩ rfl rfl hl.1 rfl (lv_room (Nat.le_of_ble_eq_true rfl)) d_Md_init_753 ⟨Nat.le_of_ble_eq_true rfl, Nat.le_of_ble_eq_true rfl⟩) hS (fun q _ h => hFc q h) hFc (fun u t H1 locs ht hvm hw hB hz1 hk1 hS => ?_)
  obtain ⟨g_103, rfl⟩ : ∃ z, z = u := ⟨_, rfl⟩
  try dsimp only at hw hB
  obtain ⟨hP1, hK1, hD1⟩ := hB
  rw [ht] at hP1
  obtain ⟨hP, hD⟩ := va_join (wr := [(r 0, .inl ((cT 1), 64, .inr (.inl f65))), (r 3, .inl ((cT 0), 160, .inl fc)), (r 4, .inl ((cT 0), 4, .inl fz)), (r 5, .inl ((cT 0), 1920, .inl (fun _ => 0))), (r 6, .inl ((cT 0), 32, .inl (fun _ => 0))), (r 9, .inl ((cT 0), 1400, .inl (fun _ => 0))), (r 11, .inl ((cT 0), 16, .inl (fun _ => 0))), (r 12, .inl ((cT 0), 1200, .inl (fun _ => 0)))]) (w1 := [(mo, .inr (12, mdF r (fun _ => 0) (fun k => match k with | 32 => 1 | _ => 0) 0 0 (nI 20) (nI 0))), (r 7, .inl ((cT 0), 1000, .inl g_103))]) hP hD [0, 6] [1, 2, 3, 4, 5, 7, 8, 9] rfl rfl (by decide) (by decide) hk1 hFc hP1 hD1
  have hw104 := hw
  clear hPc hDc hFc hz1 hk1 hP1 hK1 hD1
  generalize H1 = H at hP hS ⊢
  have hP : va_P (dC, dI) vcl [(r 0, .inl ((cT 1), 64, .inr (.inl f65))), (r 3, .inl ((cT 0), 160, .inl fc)), (r 4, .inl ((cT 0), 4, .inl fz)), (r 5, .inl ((cT 0), 1920, .inl (fun _ => 0))), (r 6, .inl ((cT 0), 32, .inl (fun _ => 0))), (r 9, .inl ((cT 0), 1400, .inl (fun _ => 0))), (r 11, .inl ((cT 0), 16, .inl (fun _ => 0))), (r 12, .inl ((cT 0), 1200, .inl (fun _ => 0))), (mo, .inr (12, mdF r (fun _ => 0) (fun k => match k with | 32 => 1 | _ => 0) 0 0 (nI 20) (nI 0))), (r 7, .inl ((cT 0), 1000, .inl g_103))] H := hP
  have hD : va_D A [(r 0, .inl ((cT 1), 64, .inr (.inl f65))), (r 3, .inl ((cT 0), 160, .inl fc)), (r 4, .inl ((cT 0), 4, .inl fz)), (r 5, .inl ((cT 0), 1920, .inl (fun _ => 0))), (r 6, .inl ((cT 0), 32, .inl (fun _ => 0))), (r 9, .inl ((cT 0), 1400, .inl (fun _ => 0))), (r 11, .inl ((cT 0), 16, .inl (fun _ => 0))), (r 12, .inl ((cT 0), 1200, .inl (fun _ => 0))), (mo, .inr (12, mdF r (fun _ => 0) (fun k => match k with | 32 => 1 | _ => 0) 0 0 (nI 20) (nI 0))), (r 7, .inl ((cT 0), 1000, .inl g_103))] := hD
  refine W.widen (k := 40) (n := 20000) (Nat.le_of_ble_eq_true rfl) (Nat.le_of_ble_eq_true rfl) ?_
  have hP9 := hP.sub (ws' := [(mo, .inr (12, mdF r (fun _ => 0) (fun k => match k with | 32 => 1 | _ => 0) 0 0 (nI 20) (nI 0))), (r 0, .inl ((cT 1), 64, .inr (.inl f65))), (r 3, .inl ((cT 0), 160, .inl fc)), (r 4, .inl ((cT 0), 4, .inl fz)), (r 5, .inl ((cT 0), 1920, .inl (fun _ => 0))), (r 6, .inl ((cT 0), 32, .inl (fun _ => 0))), (r 7, .inl ((cT 0), 1000, .inl g_103)), (r 9, .inl ((cT 0), 1400, .inl (fun _ => 0))), (r 11, .inl ((cT 0), 16, .inl (fun _ => 0))), (r 12, .inl ((cT 0), 1200, .inl (fun _ => 0)))]) [8, 0, 1, 2, 3, 4, 9, 5, 6, 7] rfl
  have hD9 := hD.sub (ws' := [(mo, .inr (12, mdF r (fun _ => 0) (fun k => match k with | 32 => 1 | _ => 0) 0 0 (nI 20) (nI 0))), (r 0, .inl ((cT 1), 64, .inr (.inl f65))), (r 3, .inl ((cT 0), 160, .inl fc)), (r 4, .inl ((cT 0), 4, .inl fz)), (r 5, .inl ((cT 0), 1920, .inl (fun _ => 0))), (r 6, .inl ((cT 0), 32, .inl (fun _ => 0))), (r 7, .inl ((cT 0), 1000, .inl g_103)), (r 9, .inl ((cT 0), 1400, .inl (fun _ => 0))), (r 11, .inl ((cT 0), 16, .inl (fun _ => 0))), (r 12, .inl ((cT 0), 1200, .inl (fun _ => 0)))]) [8, 0, 1, 2, 3, 4, 9, 5, 6, 7] (by decide) rfl
  exact W.vret hx hb hr (fun t ht hW => ⟨⟨⟨r, f65, fc, fz, g_103⟩, rfl, ⟨hz, by rw [hw104.1]; rfl, by rw [hw104.2.1]; rfl, hw104.2.2.1, hw104.2.2.2.1, hw104.2.2.2.2⟩, by rw [ht]; exact hP9, va_K.moved hW.alike hK, hD9⟩, hS.F ht⟩) hS.2.2 d_Md_init_756
