theorem d_Dg_mixBlock_0 : decode b_Dg_mixBlock 0 = .ok (.aload_n 0, 1) := by decide +kernel
theorem d_Dg_mixBlock_1 : decode b_Dg_mixBlock 1 = .ok (.getfield 16, 3) := by decide +kernel
theorem d_Dg_mixBlock_4 : decode b_Dg_mixBlock 4 = .ok (.getfield 46, 3) := by decide +kernel
theorem d_Dg_mixBlock_7 : decode b_Dg_mixBlock 7 = .ok (.astore_n 2, 1) := by decide +kernel
theorem d_Dg_mixBlock_8 : decode b_Dg_mixBlock 8 = .ok (.iconst 0, 1) := by decide +kernel
theorem d_Dg_mixBlock_9 : decode b_Dg_mixBlock 9 = .ok (.istore_n 3, 1) := by decide +kernel
theorem d_Dg_mixBlock_10 : decode b_Dg_mixBlock 10 = .ok (.iload_n 3, 1) := by decide +kernel
theorem d_Dg_mixBlock_11 : decode b_Dg_mixBlock 11 = .ok (.bipush 16, 2) := by decide +kernel
theorem d_Dg_mixBlock_13 : decode b_Dg_mixBlock 13 = .ok (.if_icmp .ge 56, 3) := by decide +kernel
theorem d_Dg_mixBlock_16 : decode b_Dg_mixBlock 16 = .ok (.iload_n 1, 1) := by decide +kernel
theorem d_Dg_mixBlock_17 : decode b_Dg_mixBlock 17 = .ok (.iconst 4, 1) := by decide +kernel
theorem d_Dg_mixBlock_18 : decode b_Dg_mixBlock 18 = .ok (.iload_n 3, 1) := by decide +kernel
theorem d_Dg_mixBlock_19 : decode b_Dg_mixBlock 19 = .ok (.imul, 1) := by decide +kernel
theorem d_Dg_mixBlock_20 : decode b_Dg_mixBlock 20 = .ok (.iadd, 1) := by decide +kernel
theorem d_Dg_mixBlock_21 : decode b_Dg_mixBlock 21 = .ok (.istore 4, 2) := by decide +kernel
theorem d_Dg_mixBlock_23 : decode b_Dg_mixBlock 23 = .ok (.aload_n 0, 1) := by decide +kernel
theorem d_Dg_mixBlock_24 : decode b_Dg_mixBlock 24 = .ok (.getfield 20, 3) := by decide +kernel
theorem d_Dg_mixBlock_27 : decode b_Dg_mixBlock 27 = .ok (.iload_n 3, 1) := by decide +kernel
theorem d_Dg_mixBlock_28 : decode b_Dg_mixBlock 28 = .ok (.aload_n 2, 1) := by decide +kernel
theorem d_Dg_mixBlock_29 : decode b_Dg_mixBlock 29 = .ok (.iload 4, 2) := by decide +kernel
theorem d_Dg_mixBlock_31 : decode b_Dg_mixBlock 31 = .ok (.iaload, 1) := by decide +kernel
theorem d_Dg_mixBlock_32 : decode b_Dg_mixBlock 32 = .ok (.aload_n 2, 1) := by decide +kernel
theorem d_Dg_mixBlock_33 : decode b_Dg_mixBlock 33 = .ok (.iload 4, 2) := by decide +kernel
theorem d_Dg_mixBlock_35 : decode b_Dg_mixBlock 35 = .ok (.iconst 1, 1) := by decide +kernel
theorem d_Dg_mixBlock_36 : decode b_Dg_mixBlock 36 = .ok (.iadd, 1) := by decide +kernel
theorem d_Dg_mixBlock_37 : decode b_Dg_mixBlock 37 = .ok (.iaload, 1) := by decide +kernel
theorem d_Dg_mixBlock_38 : decode b_Dg_mixBlock 38 = .ok (.bipush 8, 2) := by decide +kernel
theorem d_Dg_mixBlock_40 : decode b_Dg_mixBlock 40 = .ok (.ishl, 1) := by decide +kernel
theorem d_Dg_mixBlock_41 : decode b_Dg_mixBlock 41 = .ok (.ior, 1) := by decide +kernel
theorem d_Dg_mixBlock_42 : decode b_Dg_mixBlock 42 = .ok (.aload_n 2, 1) := by decide +kernel
theorem d_Dg_mixBlock_43 : decode b_Dg_mixBlock 43 = .ok (.iload 4, 2) := by decide +kernel
theorem d_Dg_mixBlock_45 : decode b_Dg_mixBlock 45 = .ok (.iconst 2, 1) := by decide +kernel
theorem d_Dg_mixBlock_46 : decode b_Dg_mixBlock 46 = .ok (.iadd, 1) := by decide +kernel
theorem d_Dg_mixBlock_47 : decode b_Dg_mixBlock 47 = .ok (.iaload, 1) := by decide +kernel
theorem d_Dg_mixBlock_48 : decode b_Dg_mixBlock 48 = .ok (.bipush 16, 2) := by decide +kernel
theorem d_Dg_mixBlock_50 : decode b_Dg_mixBlock 50 = .ok (.ishl, 1) := by decide +kernel
theorem d_Dg_mixBlock_51 : decode b_Dg_mixBlock 51 = .ok (.ior, 1) := by decide +kernel
theorem d_Dg_mixBlock_52 : decode b_Dg_mixBlock 52 = .ok (.aload_n 2, 1) := by decide +kernel
theorem d_Dg_mixBlock_53 : decode b_Dg_mixBlock 53 = .ok (.iload 4, 2) := by decide +kernel
theorem d_Dg_mixBlock_55 : decode b_Dg_mixBlock 55 = .ok (.iconst 3, 1) := by decide +kernel
theorem d_Dg_mixBlock_56 : decode b_Dg_mixBlock 56 = .ok (.iadd, 1) := by decide +kernel
theorem d_Dg_mixBlock_57 : decode b_Dg_mixBlock 57 = .ok (.iaload, 1) := by decide +kernel
theorem d_Dg_mixBlock_58 : decode b_Dg_mixBlock 58 = .ok (.bipush 24, 2) := by decide +kernel
theorem d_Dg_mixBlock_60 : decode b_Dg_mixBlock 60 = .ok (.ishl, 1) := by decide +kernel
theorem d_Dg_mixBlock_61 : decode b_Dg_mixBlock 61 = .ok (.ior, 1) := by decide +kernel
theorem d_Dg_mixBlock_62 : decode b_Dg_mixBlock 62 = .ok (.iastore, 1) := by decide +kernel
theorem d_Dg_mixBlock_63 : decode b_Dg_mixBlock 63 = .ok (.iinc 3 1, 3) := by decide +kernel
theorem d_Dg_mixBlock_66 : decode b_Dg_mixBlock 66 = .ok (.goto (-56), 3) := by decide +kernel
theorem d_Dg_mixBlock_69 : decode b_Dg_mixBlock 69 = .ok (.aload_n 0, 1) := by decide +kernel
theorem d_Dg_mixBlock_70 : decode b_Dg_mixBlock 70 = .ok (.getfield 66, 3) := by decide +kernel
theorem d_Dg_mixBlock_73 : decode b_Dg_mixBlock 73 = .ok (.istore_n 3, 1) := by decide +kernel
theorem d_Dg_mixBlock_74 : decode b_Dg_mixBlock 74 = .ok (.aload_n 0, 1) := by decide +kernel
theorem d_Dg_mixBlock_75 : decode b_Dg_mixBlock 75 = .ok (.getfield 70, 3) := by decide +kernel
theorem d_Dg_mixBlock_78 : decode b_Dg_mixBlock 78 = .ok (.istore 4, 2) := by decide +kernel
theorem d_Dg_mixBlock_80 : decode b_Dg_mixBlock 80 = .ok (.aload_n 0, 1) := by decide +kernel
theorem d_Dg_mixBlock_81 : decode b_Dg_mixBlock 81 = .ok (.getfield 74, 3) := by decide +kernel
theorem d_Dg_mixBlock_84 : decode b_Dg_mixBlock 84 = .ok (.istore 5, 2) := by decide +kernel
theorem d_Dg_mixBlock_86 : decode b_Dg_mixBlock 86 = .ok (.aload_n 0, 1) := by decide +kernel
theorem d_Dg_mixBlock_87 : decode b_Dg_mixBlock 87 = .ok (.getfield 78, 3) := by decide +kernel
theorem d_Dg_mixBlock_90 : decode b_Dg_mixBlock 90 = .ok (.istore 6, 2) := by decide +kernel
theorem d_Dg_mixBlock_92 : decode b_Dg_mixBlock 92 = .ok (.iconst 0, 1) := by decide +kernel
theorem d_Dg_mixBlock_93 : decode b_Dg_mixBlock 93 = .ok (.istore 7, 2) := by decide +kernel
theorem d_Dg_mixBlock_95 : decode b_Dg_mixBlock 95 = .ok (.iload 7, 2) := by decide +kernel
theorem d_Dg_mixBlock_97 : decode b_Dg_mixBlock 97 = .ok (.bipush 64, 2) := by decide +kernel
theorem d_Dg_mixBlock_99 : decode b_Dg_mixBlock 99 = .ok (.if_icmp .ge 195, 3) := by decide +kernel
theorem d_Dg_mixBlock_102 : decode b_Dg_mixBlock 102 = .ok (.iload 7, 2) := by decide +kernel
theorem d_Dg_mixBlock_104 : decode b_Dg_mixBlock 104 = .ok (.iconst 4, 1) := by decide +kernel
theorem d_Dg_mixBlock_105 : decode b_Dg_mixBlock 105 = .ok (.ishr, 1) := by decide +kernel
theorem d_Dg_mixBlock_106 : decode b_Dg_mixBlock 106 = .ok (.istore 8, 2) := by decide +kernel
theorem d_Dg_mixBlock_222 : decode b_Dg_mixBlock 222 = .ok (.iload_n 3, 1) := by decide +kernel
theorem d_Dg_mixBlock_223 : decode b_Dg_mixBlock 223 = .ok (.iload 9, 2) := by decide +kernel
theorem d_Dg_mixBlock_225 : decode b_Dg_mixBlock 225 = .ok (.iadd, 1) := by decide +kernel
theorem d_Dg_mixBlock_226 : decode b_Dg_mixBlock 226 = .ok (.aload_n 0, 1) := by decide +kernel
theorem d_Dg_mixBlock_227 : decode b_Dg_mixBlock 227 = .ok (.getfield 20, 3) := by decide +kernel
theorem d_Dg_mixBlock_230 : decode b_Dg_mixBlock 230 = .ok (.iload 10, 2) := by decide +kernel
theorem d_Dg_mixBlock_232 : decode b_Dg_mixBlock 232 = .ok (.iaload, 1) := by decide +kernel
theorem d_Dg_mixBlock_233 : decode b_Dg_mixBlock 233 = .ok (.iadd, 1) := by decide +kernel
theorem d_Dg_mixBlock_234 : decode b_Dg_mixBlock 234 = .ok (.getstatic 84, 3) := by decide +kernel
theorem d_Dg_mixBlock_237 : decode b_Dg_mixBlock 237 = .ok (.iload 7, 2) := by decide +kernel
theorem d_Dg_mixBlock_239 : decode b_Dg_mixBlock 239 = .ok (.iaload, 1) := by decide +kernel
theorem d_Dg_mixBlock_240 : decode b_Dg_mixBlock 240 = .ok (.iadd, 1) := by decide +kernel
theorem d_Dg_mixBlock_241 : decode b_Dg_mixBlock 241 = .ok (.istore 11, 2) := by decide +kernel
theorem d_Dg_mixBlock_243 : decode b_Dg_mixBlock 243 = .ok (.getstatic 87, 3) := by decide +kernel
theorem d_Dg_mixBlock_246 : decode b_Dg_mixBlock 246 = .ok (.iconst 4, 1) := by decide +kernel
theorem d_Dg_mixBlock_247 : decode b_Dg_mixBlock 247 = .ok (.iload 8, 2) := by decide +kernel
theorem d_Dg_mixBlock_249 : decode b_Dg_mixBlock 249 = .ok (.imul, 1) := by decide +kernel
theorem d_Dg_mixBlock_250 : decode b_Dg_mixBlock 250 = .ok (.iload 7, 2) := by decide +kernel
theorem d_Dg_mixBlock_252 : decode b_Dg_mixBlock 252 = .ok (.iconst 3, 1) := by decide +kernel
theorem d_Dg_mixBlock_253 : decode b_Dg_mixBlock 253 = .ok (.iand, 1) := by decide +kernel
theorem d_Dg_mixBlock_254 : decode b_Dg_mixBlock 254 = .ok (.iadd, 1) := by decide +kernel
theorem d_Dg_mixBlock_255 : decode b_Dg_mixBlock 255 = .ok (.iaload, 1) := by decide +kernel
theorem d_Dg_mixBlock_256 : decode b_Dg_mixBlock 256 = .ok (.istore 12, 2) := by decide +kernel
theorem d_Dg_mixBlock_258 : decode b_Dg_mixBlock 258 = .ok (.iload 6, 2) := by decide +kernel
theorem d_Dg_mixBlock_260 : decode b_Dg_mixBlock 260 = .ok (.istore_n 3, 1) := by decide +kernel
theorem d_Dg_mixBlock_261 : decode b_Dg_mixBlock 261 = .ok (.iload 5, 2) := by decide +kernel
theorem d_Dg_mixBlock_263 : decode b_Dg_mixBlock 263 = .ok (.istore 6, 2) := by decide +kernel
theorem d_Dg_mixBlock_265 : decode b_Dg_mixBlock 265 = .ok (.iload 4, 2) := by decide +kernel
theorem d_Dg_mixBlock_267 : decode b_Dg_mixBlock 267 = .ok (.istore 5, 2) := by decide +kernel
theorem d_Dg_mixBlock_269 : decode b_Dg_mixBlock 269 = .ok (.iload 4, 2) := by decide +kernel
theorem d_Dg_mixBlock_271 : decode b_Dg_mixBlock 271 = .ok (.iload 11, 2) := by decide +kernel
theorem d_Dg_mixBlock_273 : decode b_Dg_mixBlock 273 = .ok (.iload 12, 2) := by decide +kernel
theorem d_Dg_mixBlock_275 : decode b_Dg_mixBlock 275 = .ok (.ishl, 1) := by decide +kernel
theorem d_Dg_mixBlock_276 : decode b_Dg_mixBlock 276 = .ok (.iload 11, 2) := by decide +kernel
theorem d_Dg_mixBlock_278 : decode b_Dg_mixBlock 278 = .ok (.bipush 32, 2) := by decide +kernel
theorem d_Dg_mixBlock_280 : decode b_Dg_mixBlock 280 = .ok (.iload 12, 2) := by decide +kernel
theorem d_Dg_mixBlock_282 : decode b_Dg_mixBlock 282 = .ok (.isub, 1) := by decide +kernel
theorem d_Dg_mixBlock_283 : decode b_Dg_mixBlock 283 = .ok (.iushr, 1) := by decide +kernel
theorem d_Dg_mixBlock_284 : decode b_Dg_mixBlock 284 = .ok (.ior, 1) := by decide +kernel
theorem d_Dg_mixBlock_285 : decode b_Dg_mixBlock 285 = .ok (.iadd, 1) := by decide +kernel
theorem d_Dg_mixBlock_286 : decode b_Dg_mixBlock 286 = .ok (.istore 4, 2) := by decide +kernel
theorem d_Dg_mixBlock_288 : decode b_Dg_mixBlock 288 = .ok (.iinc 7 1, 3) := by decide +kernel
theorem d_Dg_mixBlock_291 : decode b_Dg_mixBlock 291 = .ok (.goto (-196), 3) := by decide +kernel
theorem d_Dg_mixBlock_108 : decode b_Dg_mixBlock 108 = .ok (.iload 8, 2) := by decide +kernel
theorem d_Dg_mixBlock_110 : decode b_Dg_mixBlock 110 = .ok (.ifCond .ne 25, 3) := by decide +kernel
theorem d_Dg_mixBlock_113 : decode b_Dg_mixBlock 113 = .ok (.iload 4, 2) := by decide +kernel
theorem d_Dg_mixBlock_115 : decode b_Dg_mixBlock 115 = .ok (.iload 5, 2) := by decide +kernel
theorem d_Dg_mixBlock_117 : decode b_Dg_mixBlock 117 = .ok (.iand, 1) := by decide +kernel
theorem d_Dg_mixBlock_118 : decode b_Dg_mixBlock 118 = .ok (.iload 4, 2) := by decide +kernel
theorem d_Dg_mixBlock_120 : decode b_Dg_mixBlock 120 = .ok (.iconst (-1), 1) := by decide +kernel
theorem d_Dg_mixBlock_121 : decode b_Dg_mixBlock 121 = .ok (.ixor, 1) := by decide +kernel
theorem d_Dg_mixBlock_122 : decode b_Dg_mixBlock 122 = .ok (.iload 6, 2) := by decide +kernel
theorem d_Dg_mixBlock_124 : decode b_Dg_mixBlock 124 = .ok (.iand, 1) := by decide +kernel
theorem d_Dg_mixBlock_125 : decode b_Dg_mixBlock 125 = .ok (.ior, 1) := by decide +kernel
theorem d_Dg_mixBlock_126 : decode b_Dg_mixBlock 126 = .ok (.istore 9, 2) := by decide +kernel
theorem d_Dg_mixBlock_128 : decode b_Dg_mixBlock 128 = .ok (.iload 7, 2) := by decide +kernel
theorem d_Dg_mixBlock_130 : decode b_Dg_mixBlock 130 = .ok (.istore 10, 2) := by decide +kernel
theorem d_Dg_mixBlock_132 : decode b_Dg_mixBlock 132 = .ok (.goto 90, 3) := by decide +kernel
theorem d_Dg_mixBlock_135 : decode b_Dg_mixBlock 135 = .ok (.iload 8, 2) := by decide +kernel
theorem d_Dg_mixBlock_137 : decode b_Dg_mixBlock 137 = .ok (.iconst 1, 1) := by decide +kernel
theorem d_Dg_mixBlock_138 : decode b_Dg_mixBlock 138 = .ok (.if_icmp .ne 32, 3) := by decide +kernel
theorem d_Dg_mixBlock_141 : decode b_Dg_mixBlock 141 = .ok (.iload 4, 2) := by decide +kernel
theorem d_Dg_mixBlock_143 : decode b_Dg_mixBlock 143 = .ok (.iload 6, 2) := by decide +kernel
theorem d_Dg_mixBlock_145 : decode b_Dg_mixBlock 145 = .ok (.iand, 1) := by decide +kernel
theorem d_Dg_mixBlock_146 : decode b_Dg_mixBlock 146 = .ok (.iload 5, 2) := by decide +kernel
theorem d_Dg_mixBlock_148 : decode b_Dg_mixBlock 148 = .ok (.iload 6, 2) := by decide +kernel
theorem d_Dg_mixBlock_150 : decode b_Dg_mixBlock 150 = .ok (.iconst (-1), 1) := by decide +kernel
theorem d_Dg_mixBlock_151 : decode b_Dg_mixBlock 151 = .ok (.ixor, 1) := by decide +kernel
theorem d_Dg_mixBlock_152 : decode b_Dg_mixBlock 152 = .ok (.iand, 1) := by decide +kernel
theorem d_Dg_mixBlock_153 : decode b_Dg_mixBlock 153 = .ok (.ior, 1) := by decide +kernel
theorem d_Dg_mixBlock_154 : decode b_Dg_mixBlock 154 = .ok (.istore 9, 2) := by decide +kernel
theorem d_Dg_mixBlock_156 : decode b_Dg_mixBlock 156 = .ok (.iconst 5, 1) := by decide +kernel
theorem d_Dg_mixBlock_157 : decode b_Dg_mixBlock 157 = .ok (.iload 7, 2) := by decide +kernel
theorem d_Dg_mixBlock_159 : decode b_Dg_mixBlock 159 = .ok (.imul, 1) := by decide +kernel
theorem d_Dg_mixBlock_160 : decode b_Dg_mixBlock 160 = .ok (.iconst 1, 1) := by decide +kernel
theorem d_Dg_mixBlock_161 : decode b_Dg_mixBlock 161 = .ok (.iadd, 1) := by decide +kernel
theorem d_Dg_mixBlock_162 : decode b_Dg_mixBlock 162 = .ok (.bipush 15, 2) := by decide +kernel
theorem d_Dg_mixBlock_164 : decode b_Dg_mixBlock 164 = .ok (.iand, 1) := by decide +kernel
theorem d_Dg_mixBlock_165 : decode b_Dg_mixBlock 165 = .ok (.istore 10, 2) := by decide +kernel
theorem d_Dg_mixBlock_167 : decode b_Dg_mixBlock 167 = .ok (.goto 55, 3) := by decide +kernel
theorem d_Dg_mixBlock_170 : decode b_Dg_mixBlock 170 = .ok (.iload 8, 2) := by decide +kernel
theorem d_Dg_mixBlock_172 : decode b_Dg_mixBlock 172 = .ok (.iconst 2, 1) := by decide +kernel
theorem d_Dg_mixBlock_173 : decode b_Dg_mixBlock 173 = .ok (.if_icmp .ne 27, 3) := by decide +kernel
theorem d_Dg_mixBlock_176 : decode b_Dg_mixBlock 176 = .ok (.iload 4, 2) := by decide +kernel
theorem d_Dg_mixBlock_178 : decode b_Dg_mixBlock 178 = .ok (.iload 5, 2) := by decide +kernel
theorem d_Dg_mixBlock_180 : decode b_Dg_mixBlock 180 = .ok (.ixor, 1) := by decide +kernel
theorem d_Dg_mixBlock_181 : decode b_Dg_mixBlock 181 = .ok (.iload 6, 2) := by decide +kernel
theorem d_Dg_mixBlock_183 : decode b_Dg_mixBlock 183 = .ok (.ixor, 1) := by decide +kernel
theorem d_Dg_mixBlock_184 : decode b_Dg_mixBlock 184 = .ok (.istore 9, 2) := by decide +kernel
theorem d_Dg_mixBlock_186 : decode b_Dg_mixBlock 186 = .ok (.iconst 3, 1) := by decide +kernel
theorem d_Dg_mixBlock_187 : decode b_Dg_mixBlock 187 = .ok (.iload 7, 2) := by decide +kernel
theorem d_Dg_mixBlock_189 : decode b_Dg_mixBlock 189 = .ok (.imul, 1) := by decide +kernel
theorem d_Dg_mixBlock_190 : decode b_Dg_mixBlock 190 = .ok (.iconst 5, 1) := by decide +kernel
theorem d_Dg_mixBlock_191 : decode b_Dg_mixBlock 191 = .ok (.iadd, 1) := by decide +kernel
theorem d_Dg_mixBlock_192 : decode b_Dg_mixBlock 192 = .ok (.bipush 15, 2) := by decide +kernel
theorem d_Dg_mixBlock_194 : decode b_Dg_mixBlock 194 = .ok (.iand, 1) := by decide +kernel
theorem d_Dg_mixBlock_195 : decode b_Dg_mixBlock 195 = .ok (.istore 10, 2) := by decide +kernel
theorem d_Dg_mixBlock_197 : decode b_Dg_mixBlock 197 = .ok (.goto 25, 3) := by decide +kernel
theorem d_Dg_mixBlock_200 : decode b_Dg_mixBlock 200 = .ok (.iload 5, 2) := by decide +kernel
theorem d_Dg_mixBlock_202 : decode b_Dg_mixBlock 202 = .ok (.iload 4, 2) := by decide +kernel
theorem d_Dg_mixBlock_204 : decode b_Dg_mixBlock 204 = .ok (.iload 6, 2) := by decide +kernel
theorem d_Dg_mixBlock_206 : decode b_Dg_mixBlock 206 = .ok (.iconst (-1), 1) := by decide +kernel
theorem d_Dg_mixBlock_207 : decode b_Dg_mixBlock 207 = .ok (.ixor, 1) := by decide +kernel
theorem d_Dg_mixBlock_208 : decode b_Dg_mixBlock 208 = .ok (.ior, 1) := by decide +kernel
theorem d_Dg_mixBlock_209 : decode b_Dg_mixBlock 209 = .ok (.ixor, 1) := by decide +kernel
theorem d_Dg_mixBlock_210 : decode b_Dg_mixBlock 210 = .ok (.istore 9, 2) := by decide +kernel
theorem d_Dg_mixBlock_212 : decode b_Dg_mixBlock 212 = .ok (.bipush 7, 2) := by decide +kernel
theorem d_Dg_mixBlock_214 : decode b_Dg_mixBlock 214 = .ok (.iload 7, 2) := by decide +kernel
theorem d_Dg_mixBlock_216 : decode b_Dg_mixBlock 216 = .ok (.imul, 1) := by decide +kernel
theorem d_Dg_mixBlock_217 : decode b_Dg_mixBlock 217 = .ok (.bipush 15, 2) := by decide +kernel
theorem d_Dg_mixBlock_219 : decode b_Dg_mixBlock 219 = .ok (.iand, 1) := by decide +kernel
theorem d_Dg_mixBlock_220 : decode b_Dg_mixBlock 220 = .ok (.istore 10, 2) := by decide +kernel
theorem d_Dg_mixBlock_294 : decode b_Dg_mixBlock 294 = .ok (.aload_n 0, 1) := by decide +kernel
theorem d_Dg_mixBlock_295 : decode b_Dg_mixBlock 295 = .ok (.dup, 1) := by decide +kernel
theorem d_Dg_mixBlock_296 : decode b_Dg_mixBlock 296 = .ok (.getfield 66, 3) := by decide +kernel
theorem d_Dg_mixBlock_299 : decode b_Dg_mixBlock 299 = .ok (.iload_n 3, 1) := by decide +kernel
theorem d_Dg_mixBlock_300 : decode b_Dg_mixBlock 300 = .ok (.iadd, 1) := by decide +kernel
theorem d_Dg_mixBlock_301 : decode b_Dg_mixBlock 301 = .ok (.putfield 66, 3) := by decide +kernel
theorem d_Dg_mixBlock_304 : decode b_Dg_mixBlock 304 = .ok (.aload_n 0, 1) := by decide +kernel
theorem d_Dg_mixBlock_305 : decode b_Dg_mixBlock 305 = .ok (.dup, 1) := by decide +kernel
theorem d_Dg_mixBlock_306 : decode b_Dg_mixBlock 306 = .ok (.getfield 70, 3) := by decide +kernel
theorem d_Dg_mixBlock_309 : decode b_Dg_mixBlock 309 = .ok (.iload 4, 2) := by decide +kernel
theorem d_Dg_mixBlock_311 : decode b_Dg_mixBlock 311 = .ok (.iadd, 1) := by decide +kernel
theorem d_Dg_mixBlock_312 : decode b_Dg_mixBlock 312 = .ok (.putfield 70, 3) := by decide +kernel
theorem d_Dg_mixBlock_315 : decode b_Dg_mixBlock 315 = .ok (.aload_n 0, 1) := by decide +kernel
theorem d_Dg_mixBlock_316 : decode b_Dg_mixBlock 316 = .ok (.dup, 1) := by decide +kernel
theorem d_Dg_mixBlock_317 : decode b_Dg_mixBlock 317 = .ok (.getfield 74, 3) := by decide +kernel
theorem d_Dg_mixBlock_320 : decode b_Dg_mixBlock 320 = .ok (.iload 5, 2) := by decide +kernel
theorem d_Dg_mixBlock_322 : decode b_Dg_mixBlock 322 = .ok (.iadd, 1) := by decide +kernel
theorem d_Dg_mixBlock_323 : decode b_Dg_mixBlock 323 = .ok (.putfield 74, 3) := by decide +kernel
theorem d_Dg_mixBlock_326 : decode b_Dg_mixBlock 326 = .ok (.aload_n 0, 1) := by decide +kernel
theorem d_Dg_mixBlock_327 : decode b_Dg_mixBlock 327 = .ok (.dup, 1) := by decide +kernel
theorem d_Dg_mixBlock_328 : decode b_Dg_mixBlock 328 = .ok (.getfield 78, 3) := by decide +kernel
theorem d_Dg_mixBlock_331 : decode b_Dg_mixBlock 331 = .ok (.iload 6, 2) := by decide +kernel
theorem d_Dg_mixBlock_333 : decode b_Dg_mixBlock 333 = .ok (.iadd, 1) := by decide +kernel
theorem d_Dg_mixBlock_334 : decode b_Dg_mixBlock 334 = .ok (.putfield 78, 3) := by decide +kernel
theorem d_Dg_mixBlock_337 : decode b_Dg_mixBlock 337 = .ok (.return_, 1) := by decide +kernel
/-- the two tables of the digest, which nobody writes -/
def xm (A : Nat → Prop) (U : State) (H : Heap) : Prop := ∃ (tS tT : Nat) (fS fT : Nat → Int32), va_Z "DoorServer$Digests" "SINES" "[I" (.ref tS) A U H ∧ va_T .int tS 64 (fun j => .int (fS j)) A U H ∧ va_Z "DoorServer$Digests" "TURNS" "[I" (.ref tT) A U H ∧ va_T .int tT 16 (fun j => .int (fT j)) A U H
theorem xm.at {A B : Nat → Prop} {s U : State} {H : Heap} (h : xm A s s.heap) (hW : s.WarmedH U.vm) (hq : ∀ a : Nat, a < s.heap.size → ¬ A a → H[a]? = s.heap[a]?) (hAB : ∀ q, B q → A q) : xm B U H := by
  obtain ⟨tS, tT, fS, fT, h1, h2, h3, h4⟩ := h
  exact ⟨tS, tT, fS, fT, ((h1.kept hq).narrow hAB).moved hW.alike, ((h2.kept hq).narrow hAB).moved hW.alike, ((h3.kept hq).narrow hAB).moved hW.alike, ((h4.kept hq).narrow hAB).moved hW.alike⟩
set_option maxHeartbeats 4000000 in
set_option maxRecDepth 100000 in
/-- mixBlock -/
theorem c_Dg_mix (l : Launch) (dC : Nat → ClassId) (dI : Nat → Nat → Nat) (cT : Nat → ClassId) (sz : Nat) (g0 : Nat) (tx : Nat) (tr : Nat) (wo : Nat) (di : Nat) (va : Int32) (vb : Int32) (vc : Int32) (vd : Int32) (len : Nat) (f : Nat → Int32) (fw : Nat → Int32) (at_ : Nat) (hat : at_ + 64 ≤ 1192) : Met l y_Dg_mixBlock (Cond.code y_Dg_mixBlock b_Dg_mixBlock 13 (Option.none : Option Jvm.ClassFile.FieldType) :: BIG) ({ frames := 0, cells := 0, slots := 0, locals := 0 }) (va_Pc [.ref g0, .int (nI at_)] (fun U => U.heap.size = sz ∧ va_P (dC, dI) vcl [(g0, .inr (3, [.ref tx, .ref wo, .ref di, .int va, .int vb, .int vc, .int vd])), (tx, .inr (1, [.ref tr, .int (nI len)])), (tr, .inl ((cT 0), 1192, .inl f)), (wo, .inl ((cT 0), 16, .inl fw))] U.heap ∧ va_K (dC, dI) vcl (tyL cT) U ∧ va_D (fun _ => True) [(g0, .inr (3, [.ref tx, .ref wo, .ref di, .int va, .int vb, .int vc, .int vd])), (tx, .inr (1, [.ref tr, .int (nI len)])), (tr, .inl ((cT 0), 1192, .inl f)), (wo, .inl ((cT 0), 16, .inl fw))] ∧ xm (va_A [(g0, .inr (3, [.ref tx, .ref wo, .ref di, .int va, .int vb, .int vc, .int vd])), (tx, .inr (1, [.ref tr, .int (nI len)])), (tr, .inl ((cT 0), 1192, .inl f)), (wo, .inl ((cT 0), 16, .inl fw))] sz) U U.heap)) (va_Qv (S := (Nat → Int32) × Int32 × Int32 × Int32 × Int32) (fun u => match u with | (fw2, a2, b2, c2, d2) => True) (fun u t => match u with | (fw2, a2, b2, c2, d2) => va_P (dC, dI) vcl [(g0, .inr (3, [.ref tx, .ref wo, .ref di, .int a2, .int b2, .int c2, .int d2])), (tx, .inr (1, [.ref tr, .int (nI len)])), (tr, .inl ((cT 0), 1192, .inl f)), (wo, .inl ((cT 0), 16, .inl fw2))] t.heap ∧ va_K (dC, dI) vcl (tyL cT) t ∧ va_D (va_A [(g0, .inr (3, [.ref tx, .ref wo, .ref di, .int va, .int vb, .int vc, .int vd])), (tx, .inr (1, [.ref tr, .int (nI len)])), (tr, .inl ((cT 0), 1192, .inl f)), (wo, .inl ((cT 0), 16, .inl fw))] sz) [(g0, .inr (3, [.ref tx, .ref wo, .ref di, .int a2, .int b2, .int c2, .int d2])), (tx, .inr (1, [.ref tr, .int (nI len)])), (tr, .inl ((cT 0), 1192, .inl f)), (wo, .inl ((cT 0), 16, .inl fw2))]) (va_A [(g0, .inr (3, [.ref tx, .ref wo, .ref di, .int va, .int vb, .int vc, .int vd])), (tx, .inr (1, [.ref tr, .int (nI len)])), (tr, .inl ((cT 0), 1192, .inl f)), (wo, .inl ((cT 0), 16, .inl fw))] sz)) 0 0 (va_A [(g0, .inr (3, [.ref tx, .ref wo, .ref di, .int va, .int vb, .int vc, .int vd])), (tx, .inr (1, [.ref tr, .int (nI len)])), (tr, .inl ((cT 0), 1192, .inl f)), (wo, .inl ((cT 0), 16, .inl fw))] sz) := by
  refine Met.ofW (cc := b_Dg_mixBlock) (maxL := 13) (ret := (Option.none : Option Jvm.ClassFile.FieldType)) (by decide) rfl ?_
  intro p e s m args below meth c s₁ B hml hv
  obtain ⟨hargs, hsz, hP, hK, hD0, hE⟩ := hv
  have hx := B.exec
  have hb := B.bytes
  have hr := B.returns
  have hts := atoms_spec (ws := (Cond.code y_Dg_mixBlock b_Dg_mixBlock 13 (Option.none : Option Jvm.ClassFile.FieldType) :: BIG)) B.pre
  have hg : ∀ w ∈ BIG, w.before _ s = true := fun w h => hts w (List.mem_cons_of_mem _ h)
  have hown : s.vm.findClass "DoorServer$Digests" = some m.cls := findClass_of_methodNamed B.named
  have hlocks := B.notSynchronized
  subst hsz
  have hD := hD0.self (sz := s.heap.size)
  generalize hAe : va_A [(g0, .inr (3, [.ref tx, .ref wo, .ref di, .int va, .int vb, .int vc, .int vd])), (tx, .inr (1, [.ref tr, .int (nI len)])), (tr, .inl ((cT 0), 1192, .inl f)), (wo, .inl ((cT 0), 16, .inl fw))] s.heap.size = A at hD hE ⊢
  have hA : ∀ q : Nat, s.heap.size ≤ q → A q := fun q h => by rw [← hAe]; exact Or.inr h
  have hS : va_S A s.heap s.heap [] := va_S.rf
  have hl := lv_entry ([.ref g0, .int (nI at_)]) (n := 13) (Nat.le_of_ble_eq_true rfl)
  refine W.eq (g2 := entryFrame m (List.toArray [.ref g0, .int (nI at_)]) 13) (by rw [hargs]) ?_
  rw [lg_entry_eq]
  generalize (lg_sl ([.ref g0, .int (nI at_)]) ++ List.replicate (13 - (lg_sl ([.ref g0, .int (nI at_)])).length) Slot.unset).toArray = ls at hl ⊢
  have hl : lv_has ls 13 [(0, .ref g0), (1, .int (nI at_))] := hl
  change W p l e ({ frames := 0, cells := 0, slots := 0, locals := 0 } : Room) s m args below meth c s.heap [] 0 0 _ _
  have hP : va_P (dC, dI) vcl [(g0, .inr (3, [.ref tx, .ref wo, .ref di, .int va, .int vb, .int vc, .int vd])), (tx, .inr (1, [.ref tr, .int (nI len)])), (tr, .inl ((cT 0), 1192, .inl f)), (wo, .inl ((cT 0), 16, .inl fw))] s.heap := hP
  obtain ⟨tS, tT, fS, fT, hZS, hTS, hZT, hTT⟩ := hE
  refine lv_aload_n hx hb d_Dg_mixBlock_0 rfl (lv_at hl 0 rfl) ?_
  refine va_get (D := (dC, dI)) (ci := 3) (v := (.ref tx)) (C := R_Dg) (T := F_Dg) (N := 7) hx hb hg in_Dg hown hK hP 0 rfl rfl 0 (by decide) (hg _ k_116) (fun _ h9 => h9) rfl d_Dg_mixBlock_1 ?_
  refine va_get (D := (dC, dI)) (ci := 1) (v := (.ref tr)) (C := R_By) (T := F_By) (N := 2) hx hb hg in_By hown hK hP 1 rfl rfl 0 (by decide) (hg _ k_44) (fun _ h9 => h9) rfl d_Dg_mixBlock_4 ?_
  refine lv_astore_n (lv' := [(2, .ref tr), (0, .ref g0), (1, .int (nI at_))]) hx hb d_Dg_mixBlock_7 rfl hl (by decide) rfl (fun ls hl => ?_)
  refine lv_iconst (v := 0) hx hb d_Dg_mixBlock_8 (by decide) ?_
  refine lv_istore_n (lv' := [(3, .int 0), (2, .ref tr), (0, .ref g0), (1, .int (nI at_))]) hx hb d_Dg_mixBlock_9 rfl hl (by decide) rfl (fun ls hl => ?_)
  have hl := lv_sub hl [0, 1, 2, 3] (show _ = [(3, .int 0), (2, .ref tr), (0, .ref g0), (1, .int (nI at_))] from rfl)
  have L1 : ∀ (Q : State → Prop) (exit : ∀ (fw : Nat → Int32) (H : Heap) (locs : List Loc) (ls : Array Slot), va_P (dC, dI) vcl [(g0, .inr (3, [.ref tx, .ref wo, .ref di, .int va, .int vb, .int vc, .int vd])), (tx, .inr (1, [.ref tr, .int (nI len)])), (tr, .inl ((cT 0), 1192, .inl f)), (wo, .inl ((cT 0), 16, .inl fw))] H → va_D A [(g0, .inr (3, [.ref tx, .ref wo, .ref di, .int va, .int vb, .int vc, .int vd])), (tx, .inr (1, [.ref tr, .int (nI len)])), (tr, .inl ((cT 0), 1192, .inl f)), (wo, .inl ((cT 0), 16, .inl fw))] → va_S A s.heap H locs → lv_has ls 13 [(3, .int (nI 16)), (2, .ref tr), (0, .ref g0), (1, .int (nI at_))] → W p l e ({ frames := 0, cells := 0, slots := 0, locals := 0 } : Room) s m args below meth c H locs 0 0 Q (F0 m 69 ls [])) (j8 i : Nat) (fw : Nat → Int32) (H : Heap) (locs : List Loc) (ls : Array Slot), i + j8 = 16 → va_P (dC, dI) vcl [(g0, .inr (3, [.ref tx, .ref wo, .ref di, .int va, .int vb, .int vc, .int vd])), (tx, .inr (1, [.ref tr, .int (nI len)])), (tr, .inl ((cT 0), 1192, .inl f)), (wo, .inl ((cT 0), 16, .inl fw))] H → va_D A [(g0, .inr (3, [.ref tx, .ref wo, .ref di, .int va, .int vb, .int vc, .int vd])), (tx, .inr (1, [.ref tr, .int (nI len)])), (tr, .inl ((cT 0), 1192, .inl f)), (wo, .inl ((cT 0), 16, .inl fw))] → va_S A s.heap H locs → lv_has ls 13 [(3, .int (nI i)), (2, .ref tr), (0, .ref g0), (1, .int (nI at_))] → W p l e ({ frames := 0, cells := 0, slots := 0, locals := 0 } : Room) s m args below meth c H locs 0 0 Q (F0 m 10 ls []) := by
    intro Q exit j8
    induction j8 with
    | zero => 
      intro i fw H locs ls hij  hP hD hS hl
      have hij : 16 = i := by omega
      refine lv_iload_n hx hb d_Dg_mixBlock_10 rfl (lv_at hl 0 rfl) ?_
      refine lv_bipush (v := 16) hx hb d_Dg_mixBlock_11 (by decide) ?_
      refine lv_topi (fun x3 e2 => ?_)
      obtain rfl : x3 = nI 16 := by rw [e2]; rfl
      refine lv_icmp_ge (tgt := 69) hx hb d_Dg_mixBlock_13 (by decide) (fun hc4 => ?_) (fun hn9 => absurd (nI_le (by omega) (by omega)) hn9)
      subst hij
      exact exit fw _ _ _  hP hD hS hl
    | succ j8 ih => 
      intro i fw H locs ls hij  hP hD hS hl
      have hlt : i < 16 := by omega
      refine lv_iload_n hx hb d_Dg_mixBlock_10 rfl (lv_at hl 0 rfl) ?_
      refine lv_bipush (v := 16) hx hb d_Dg_mixBlock_11 (by decide) ?_
      refine lv_topi (fun x6 e5 => ?_)
      obtain rfl : x6 = nI 16 := by rw [e5]; rfl
      refine lv_icmp_ge (tgt := 69) hx hb d_Dg_mixBlock_13 (by decide) (fun hn9 => absurd hn9 (nI_ge hlt (by omega))) (fun hc7 => ?_)
      refine lv_iload_n hx hb d_Dg_mixBlock_16 rfl (lv_at hl 3 rfl) ?_
      refine lv_iconst (v := 4) hx hb d_Dg_mixBlock_17 (by decide) ?_
      refine lv_iload_n hx hb d_Dg_mixBlock_18 rfl (lv_at hl 0 rfl) ?_
      refine lv_imul hx hb d_Dg_mixBlock_19 ?_
      refine lv_topi (fun x9 e8 => ?_)
      obtain rfl : x9 = nI (4 * i) := by rw [e8]; exact pk_mul 4 i
      refine lv_iadd hx hb d_Dg_mixBlock_20 ?_
      refine lv_topi (fun x11 e10 => ?_)
      obtain rfl : x11 = nI (at_ + 4 * i) := by rw [e10]; exact nI_add _ _
      refine lv_istore (lv' := [(4, .int (nI (at_ + 4 * i))), (3, .int (nI i)), (2, .ref tr), (0, .ref g0), (1, .int (nI at_))]) hx hb d_Dg_mixBlock_21 hl (by decide) rfl (fun ls hl => ?_)
      refine lv_aload_n hx hb d_Dg_mixBlock_23 rfl (lv_at hl 3 rfl) ?_
      refine va_get (D := (dC, dI)) (ci := 3) (v := (.ref wo)) (C := R_Dg) (T := F_Dg) (N := 7) hx hb hg in_Dg hown hK hP 0 rfl rfl 1 (by decide) (hg _ k_117) (fun _ h9 => h9) rfl d_Dg_mixBlock_24 ?_
      refine lv_iload_n hx hb d_Dg_mixBlock_27 rfl (lv_at hl 1 rfl) ?_
      refine lv_aload_n hx hb d_Dg_mixBlock_28 rfl (lv_at hl 2 rfl) ?_
      refine lv_iload hx hb d_Dg_mixBlock_29 (lv_at hl 0 rfl) ?_
      refine va_iald hx hb hK hP 2 0 rfl rfl (i := (nI (at_ + 4 * i))) (vp_in_nI (by omega) (by decide)) d_Dg_mixBlock_31 ?_
      refine lv_aload_n hx hb d_Dg_mixBlock_32 rfl (lv_at hl 2 rfl) ?_
      refine lv_iload hx hb d_Dg_mixBlock_33 (lv_at hl 0 rfl) ?_
      refine lv_iconst (v := 1) hx hb d_Dg_mixBlock_35 (by decide) ?_
      refine lv_iadd hx hb d_Dg_mixBlock_36 ?_
      refine lv_topi (fun x13 e12 => ?_)
      obtain rfl : x13 = nI (at_ + 4 * i + 1) := by rw [e12]; exact nI_1 _
      refine va_iald hx hb hK hP 2 0 rfl rfl (i := (nI (at_ + 4 * i + 1))) (vp_in_nI (by omega) (by decide)) d_Dg_mixBlock_37 ?_
      refine lv_bipush (v := 8) hx hb d_Dg_mixBlock_38 (by decide) ?_
      refine lv_ishl hx hb d_Dg_mixBlock_40 ?_
      refine lv_ior hx hb d_Dg_mixBlock_41 ?_
      refine lv_aload_n hx hb d_Dg_mixBlock_42 rfl (lv_at hl 2 rfl) ?_
      refine lv_iload hx hb d_Dg_mixBlock_43 (lv_at hl 0 rfl) ?_
      refine lv_iconst (v := 2) hx hb d_Dg_mixBlock_45 (by decide) ?_
      refine lv_iadd hx hb d_Dg_mixBlock_46 ?_
      refine lv_topi (fun x15 e14 => ?_)
      obtain rfl : x15 = nI (at_ + 4 * i + 2) := by rw [e14]; exact nI_add _ 2
      refine va_iald hx hb hK hP 2 0 rfl rfl (i := (nI (at_ + 4 * i + 2))) (vp_in_nI (by omega) (by decide)) d_Dg_mixBlock_47 ?_
      refine lv_bipush (v := 16) hx hb d_Dg_mixBlock_48 (by decide) ?_
      refine lv_ishl hx hb d_Dg_mixBlock_50 ?_
      refine lv_ior hx hb d_Dg_mixBlock_51 ?_
      refine lv_aload_n hx hb d_Dg_mixBlock_52 rfl (lv_at hl 2 rfl) ?_
      refine lv_iload hx hb d_Dg_mixBlock_53 (lv_at hl 0 rfl) ?_
      refine lv_iconst (v := 3) hx hb d_Dg_mixBlock_55 (by decide) ?_
      refine lv_iadd hx hb d_Dg_mixBlock_56 ?_
      refine lv_topi (fun x17 e16 => ?_)
      obtain rfl : x17 = nI (at_ + 4 * i + 3) := by rw [e16]; exact nI_add _ 3
      refine va_iald hx hb hK hP 2 0 rfl rfl (i := (nI (at_ + 4 * i + 3))) (vp_in_nI (by omega) (by decide)) d_Dg_mixBlock_57 ?_
      refine lv_bipush (v := 24) hx hb d_Dg_mixBlock_58 (by decide) ?_
      refine lv_ishl hx hb d_Dg_mixBlock_60 ?_
      refine lv_ior hx hb d_Dg_mixBlock_61 ?_
      refine lv_topi (fun x18 e_x18 => ?_)
      refine va_iast hx hb hK hP hD hS 3 0 rfl rfl (i := (nI i)) (vp_in_nI (by omega) (by decide)) d_Dg_mixBlock_62 (fun H locs hP hD hS => ?_)
      have hP : va_P (dC, dI) vcl [(g0, .inr (3, [.ref tx, .ref wo, .ref di, .int va, .int vb, .int vc, .int vd])), (tx, .inr (1, [.ref tr, .int (nI len)])), (tr, .inl ((cT 0), 1192, .inl f)), (wo, .inl ((cT 0), 16, .inl (upd fw (nI i).toNatClampNeg x18)))] H := hP
      have hD : va_D A [(g0, .inr (3, [.ref tx, .ref wo, .ref di, .int va, .int vb, .int vc, .int vd])), (tx, .inr (1, [.ref tr, .int (nI len)])), (tr, .inl ((cT 0), 1192, .inl f)), (wo, .inl ((cT 0), 16, .inl (upd fw (nI i).toNatClampNeg x18)))] := hD
      refine lv_iinc (k := 1) (v := nI (i + 1)) (lv' := [(3, .int (nI (i + 1))), (4, .int (nI (at_ + 4 * i))), (2, .ref tr), (0, .ref g0), (1, .int (nI at_))]) hx hb d_Dg_mixBlock_63 hl rfl (nI_1 i) (by decide) rfl (fun ls hl => ?_)
      refine lv_goto (tgt := 10) hx hb d_Dg_mixBlock_66 (by decide) ?_
      have hl := lv_sub hl [0, 2, 3, 4] (show _ = [(3, .int (nI (i + 1))), (2, .ref tr), (0, .ref g0), (1, .int (nI at_))] from rfl)
      exact ih (i + 1) _ _ _ _ (by omega)  hP hD hS hl
  refine L1 _ (fun fw H locs ls  hP hD hS hl => ?_) (16 - 0) 0 fw s.heap _ ls (by omega)  hP hD hS hl
  refine lv_aload_n hx hb d_Dg_mixBlock_69 rfl (lv_at hl 2 rfl) ?_
  refine va_get (D := (dC, dI)) (ci := 3) (v := (.int va)) (C := R_Dg) (T := F_Dg) (N := 7) hx hb hg in_Dg hown hK hP 0 rfl rfl 3 (by decide) (hg _ k_119) (fun _ h9 => h9) rfl d_Dg_mixBlock_70 ?_
  refine lv_istore_n (lv' := [(3, .int va), (2, .ref tr), (0, .ref g0), (1, .int (nI at_))]) hx hb d_Dg_mixBlock_73 rfl hl (by decide) rfl (fun ls hl => ?_)
  refine lv_aload_n hx hb d_Dg_mixBlock_74 rfl (lv_at hl 2 rfl) ?_
  refine va_get (D := (dC, dI)) (ci := 3) (v := (.int vb)) (C := R_Dg) (T := F_Dg) (N := 7) hx hb hg in_Dg hown hK hP 0 rfl rfl 4 (by decide) (hg _ k_120) (fun _ h9 => h9) rfl d_Dg_mixBlock_75 ?_
  refine lv_istore (lv' := [(4, .int vb), (3, .int va), (2, .ref tr), (0, .ref g0), (1, .int (nI at_))]) hx hb d_Dg_mixBlock_78 hl (by decide) rfl (fun ls hl => ?_)
  refine lv_aload_n hx hb d_Dg_mixBlock_80 rfl (lv_at hl 3 rfl) ?_
  refine va_get (D := (dC, dI)) (ci := 3) (v := (.int vc)) (C := R_Dg) (T := F_Dg) (N := 7) hx hb hg in_Dg hown hK hP 0 rfl rfl 5 (by decide) (hg _ k_121) (fun _ h9 => h9) rfl d_Dg_mixBlock_81 ?_
  refine lv_istore (lv' := [(5, .int vc), (4, .int vb), (3, .int va), (2, .ref tr), (0, .ref g0), (1, .int (nI at_))]) hx hb d_Dg_mixBlock_84 hl (by decide) rfl (fun ls hl => ?_)
  refine lv_aload_n hx hb d_Dg_mixBlock_86 rfl (lv_at hl 4 rfl) ?_
  refine va_get (D := (dC, dI)) (ci := 3) (v := (.int vd)) (C := R_Dg) (T := F_Dg) (N := 7) hx hb hg in_Dg hown hK hP 0 rfl rfl 6 (by decide) (hg _ k_122) (fun _ h9 => h9) rfl d_Dg_mixBlock_87 ?_
  refine lv_istore (lv' := [(6, .int vd), (5, .int vc), (4, .int vb), (3, .int va), (2, .ref tr), (0, .ref g0), (1, .int (nI at_))]) hx hb d_Dg_mixBlock_90 hl (by decide) rfl (fun ls hl => ?_)
  refine lv_iconst (v := 0) hx hb d_Dg_mixBlock_92 (by decide) ?_
  refine lv_istore (lv' := [(7, .int 0), (6, .int vd), (5, .int vc), (4, .int vb), (3, .int va), (2, .ref tr), (0, .ref g0), (1, .int (nI at_))]) hx hb d_Dg_mixBlock_93 hl (by decide) rfl (fun ls hl => ?_)
  have hl := lv_sub hl [0, 4, 3, 2, 1, 6, 7, 5] (show _ = [(7, .int 0), (3, .int va), (4, .int vb), (5, .int vc), (6, .int vd), (0, .ref g0), (1, .int (nI at_)), (2, .ref tr)] from rfl)
  have L19 : ∀ (Q : State → Prop) (exit : ∀ (vp : Int32) (vq : Int32) (vr : Int32) (vs : Int32) (H : Heap) (locs : List Loc) (ls : Array Slot), va_P (dC, dI) vcl [(g0, .inr (3, [.ref tx, .ref wo, .ref di, .int va, .int vb, .int vc, .int vd])), (tx, .inr (1, [.ref tr, .int (nI len)])), (tr, .inl ((cT 0), 1192, .inl f)), (wo, .inl ((cT 0), 16, .inl fw))] H → va_D A [(g0, .inr (3, [.ref tx, .ref wo, .ref di, .int va, .int vb, .int vc, .int vd])), (tx, .inr (1, [.ref tr, .int (nI len)])), (tr, .inl ((cT 0), 1192, .inl f)), (wo, .inl ((cT 0), 16, .inl fw))] → va_S A s.heap H locs → lv_has ls 13 [(7, .int (nI 64)), (3, .int vp), (4, .int vq), (5, .int vr), (6, .int vs), (0, .ref g0), (1, .int (nI at_)), (2, .ref tr)] → W p l e ({ frames := 0, cells := 0, slots := 0, locals := 0 } : Room) s m args below meth c H locs 0 0 Q (F0 m 294 ls [])) (j8 i : Nat) (vp : Int32) (vq : Int32) (vr : Int32) (vs : Int32) (H : Heap) (locs : List Loc) (ls : Array Slot), i + j8 = 64 → va_P (dC, dI) vcl [(g0, .inr (3, [.ref tx, .ref wo, .ref di, .int va, .int vb, .int vc, .int vd])), (tx, .inr (1, [.ref tr, .int (nI len)])), (tr, .inl ((cT 0), 1192, .inl f)), (wo, .inl ((cT 0), 16, .inl fw))] H → va_D A [(g0, .inr (3, [.ref tx, .ref wo, .ref di, .int va, .int vb, .int vc, .int vd])), (tx, .inr (1, [.ref tr, .int (nI len)])), (tr, .inl ((cT 0), 1192, .inl f)), (wo, .inl ((cT 0), 16, .inl fw))] → va_S A s.heap H locs → lv_has ls 13 [(7, .int (nI i)), (3, .int vp), (4, .int vq), (5, .int vr), (6, .int vs), (0, .ref g0), (1, .int (nI at_)), (2, .ref tr)] → W p l e ({ frames := 0, cells := 0, slots := 0, locals := 0 } : Room) s m args below meth c H locs 0 0 Q (F0 m 95 ls []) := by
    intro Q exit j8
    induction j8 with
    | zero => 
      intro i vp vq vr vs H locs ls hij  hP hD hS hl
      have hij : 64 = i := by omega
      refine lv_iload hx hb d_Dg_mixBlock_95 (lv_at hl 0 rfl) ?_
      refine lv_bipush (v := 64) hx hb d_Dg_mixBlock_97 (by decide) ?_
      refine lv_topi (fun x21 e20 => ?_)
      obtain rfl : x21 = nI 64 := by rw [e20]; rfl
      refine lv_icmp_ge (tgt := 294) hx hb d_Dg_mixBlock_99 (by decide) (fun hc22 => ?_) (fun hn9 => absurd (nI_le (by omega) (by omega)) hn9)
      subst hij
      exact exit vp vq vr vs _ _ _  hP hD hS hl
    | succ j8 ih => 
      intro i vp vq vr vs H locs ls hij  hP hD hS hl
      have hlt : i < 64 := by omega
      refine lv_iload hx hb d_Dg_mixBlock_95 (lv_at hl 0 rfl) ?_
      refine lv_bipush (v := 64) hx hb d_Dg_mixBlock_97 (by decide) ?_
      refine lv_topi (fun x24 e23 => ?_)
      obtain rfl : x24 = nI 64 := by rw [e23]; rfl
      refine lv_icmp_ge (tgt := 294) hx hb d_Dg_mixBlock_99 (by decide) (fun hn9 => absurd hn9 (nI_ge hlt (by omega))) (fun hc25 => ?_)
      refine lv_iload hx hb d_Dg_mixBlock_102 (lv_at hl 0 rfl) ?_
      refine lv_iconst (v := 4) hx hb d_Dg_mixBlock_104 (by decide) ?_
      refine lv_ishr hx hb d_Dg_mixBlock_105 ?_
      refine lv_topi (fun x27 e26 => ?_)
      obtain rfl : x27 = nI (i / 16) := by rw [e26]; exact pk_shrN (by omega) _ 4 (by decide)
      refine lv_istore (lv' := [(8, .int (nI (i / 16))), (7, .int (nI i)), (3, .int vp), (4, .int vq), (5, .int vr), (6, .int vs), (0, .ref g0), (1, .int (nI at_)), (2, .ref tr)]) hx hb d_Dg_mixBlock_106 hl (by decide) rfl (fun ls hl => ?_)
      have K28 : ∀ (mx : Int32) (wd : Nat) (ls : Array Slot), wd < 16 → lv_has ls 13 [(10, .int (nI wd)), (9, .int mx), (8, .int (nI (i / 16))), (7, .int (nI i)), (3, .int vp), (4, .int vq), (5, .int vr), (6, .int vs), (0, .ref g0), (1, .int (nI at_)), (2, .ref tr)] → W p l e ({ frames := 0, cells := 0, slots := 0, locals := 0 } : Room) s m args below meth c H locs 0 0 Q (F0 m 222 ls []) := by
        intro mx wd ls hwd hl
        refine lv_iload_n hx hb d_Dg_mixBlock_222 rfl (lv_at hl 4 rfl) ?_
        refine lv_iload hx hb d_Dg_mixBlock_223 (lv_at hl 1 rfl) ?_
        refine lv_iadd hx hb d_Dg_mixBlock_225 ?_
        refine lv_aload_n hx hb d_Dg_mixBlock_226 rfl (lv_at hl 8 rfl) ?_
        refine va_get (D := (dC, dI)) (ci := 3) (v := (.ref wo)) (C := R_Dg) (T := F_Dg) (N := 7) hx hb hg in_Dg hown hK hP 0 rfl rfl 1 (by decide) (hg _ k_117) (fun _ h9 => h9) rfl d_Dg_mixBlock_227 ?_
        refine lv_iload hx hb d_Dg_mixBlock_230 (lv_at hl 0 rfl) ?_
        refine va_iald hx hb hK hP 3 0 rfl rfl (i := (nI wd)) (vp_in_nI hwd (by decide)) d_Dg_mixBlock_232 ?_
        refine lv_iadd hx hb d_Dg_mixBlock_233 ?_
        refine va_gets hx hb hZS hS hown (hg _ k_601) (fun _ h9 => h9) d_Dg_mixBlock_234 ?_
        refine lv_iload hx hb d_Dg_mixBlock_237 (lv_at hl 3 rfl) ?_
        refine va_ti hx hb hTS hS (i := (nI i)) (vp_in_nI hlt (by decide)) (v := .int (fS (nI i).toNatClampNeg)) rfl d_Dg_mixBlock_239 ?_
        refine lv_iadd hx hb d_Dg_mixBlock_240 ?_
        refine lv_topi (fun x29 e_x29 => ?_)
        refine lv_istore (lv' := [(11, .int x29), (10, .int (nI wd)), (9, .int mx), (8, .int (nI (i / 16))), (7, .int (nI i)), (3, .int vp), (4, .int vq), (5, .int vr), (6, .int vs), (0, .ref g0), (1, .int (nI at_)), (2, .ref tr)]) hx hb d_Dg_mixBlock_241 hl (by decide) rfl (fun ls hl => ?_)
        refine va_gets hx hb hZT hS hown (hg _ k_603) (fun _ h9 => h9) d_Dg_mixBlock_243 ?_
        refine lv_iconst (v := 4) hx hb d_Dg_mixBlock_246 (by decide) ?_
        refine lv_iload hx hb d_Dg_mixBlock_247 (lv_at hl 3 rfl) ?_
        refine lv_imul hx hb d_Dg_mixBlock_249 ?_
        refine lv_topi (fun x31 e30 => ?_)
        obtain rfl : x31 = nI (4 * (i / 16)) := by rw [e30]; exact pk_mul 4 _
        refine lv_iload hx hb d_Dg_mixBlock_250 (lv_at hl 4 rfl) ?_
        refine lv_iconst (v := 3) hx hb d_Dg_mixBlock_252 (by decide) ?_
        refine lv_iand hx hb d_Dg_mixBlock_253 ?_
        refine lv_topi (fun x33 e32 => ?_)
        obtain rfl : x33 = nI (i % 4) := by rw [e32]; exact pk_andN (by omega) 2 (by decide)
        refine lv_iadd hx hb d_Dg_mixBlock_254 ?_
        refine lv_topi (fun x35 e34 => ?_)
        obtain rfl : x35 = nI (4 * (i / 16) + i % 4) := by rw [e34]; exact nI_add _ _
        refine va_ti hx hb hTT hS (i := (nI (4 * (i / 16) + i % 4))) (vp_in_nI (by omega) (by decide)) (v := .int (fT (nI (4 * (i / 16) + i % 4)).toNatClampNeg)) rfl d_Dg_mixBlock_255 ?_
        refine lv_topi (fun x36 e_x36 => ?_)
        refine lv_istore (lv' := [(12, .int x36), (11, .int x29), (10, .int (nI wd)), (9, .int mx), (8, .int (nI (i / 16))), (7, .int (nI i)), (3, .int vp), (4, .int vq), (5, .int vr), (6, .int vs), (0, .ref g0), (1, .int (nI at_)), (2, .ref tr)]) hx hb d_Dg_mixBlock_256 hl (by decide) rfl (fun ls hl => ?_)
        refine lv_iload hx hb d_Dg_mixBlock_258 (lv_at hl 9 rfl) ?_
        refine lv_istore_n (lv' := [(3, .int vs), (12, .int x36), (11, .int x29), (10, .int (nI wd)), (9, .int mx), (8, .int (nI (i / 16))), (7, .int (nI i)), (4, .int vq), (5, .int vr), (6, .int vs), (0, .ref g0), (1, .int (nI at_)), (2, .ref tr)]) hx hb d_Dg_mixBlock_260 rfl hl (by decide) rfl (fun ls hl => ?_)
        refine lv_iload hx hb d_Dg_mixBlock_261 (lv_at hl 8 rfl) ?_
        refine lv_istore (lv' := [(6, .int vr), (3, .int vs), (12, .int x36), (11, .int x29), (10, .int (nI wd)), (9, .int mx), (8, .int (nI (i / 16))), (7, .int (nI i)), (4, .int vq), (5, .int vr), (0, .ref g0), (1, .int (nI at_)), (2, .ref tr)]) hx hb d_Dg_mixBlock_263 hl (by decide) rfl (fun ls hl => ?_)
        refine lv_iload hx hb d_Dg_mixBlock_265 (lv_at hl 8 rfl) ?_
        refine lv_istore (lv' := [(5, .int vq), (6, .int vr), (3, .int vs), (12, .int x36), (11, .int x29), (10, .int (nI wd)), (9, .int mx), (8, .int (nI (i / 16))), (7, .int (nI i)), (4, .int vq), (0, .ref g0), (1, .int (nI at_)), (2, .ref tr)]) hx hb d_Dg_mixBlock_267 hl (by decide) rfl (fun ls hl => ?_)
        refine lv_iload hx hb d_Dg_mixBlock_269 (lv_at hl 9 rfl) ?_
        refine lv_iload hx hb d_Dg_mixBlock_271 (lv_at hl 4 rfl) ?_
        refine lv_iload hx hb d_Dg_mixBlock_273 (lv_at hl 3 rfl) ?_
        refine lv_ishl hx hb d_Dg_mixBlock_275 ?_
        refine lv_iload hx hb d_Dg_mixBlock_276 (lv_at hl 4 rfl) ?_
        refine lv_bipush (v := 32) hx hb d_Dg_mixBlock_278 (by decide) ?_
        refine lv_iload hx hb d_Dg_mixBlock_280 (lv_at hl 3 rfl) ?_
        refine lv_isub hx hb d_Dg_mixBlock_282 ?_
        refine lv_iushr (v := (x29.toUInt32 >>> ((32 - x36).toUInt32 &&& Int32.toUInt32 31)).toInt32) hx hb d_Dg_mixBlock_283 rfl ?_
        refine lv_ior hx hb d_Dg_mixBlock_284 ?_
        refine lv_iadd hx hb d_Dg_mixBlock_285 ?_
        refine lv_topi (fun x37 e_x37 => ?_)
        refine lv_istore (lv' := [(4, .int x37), (5, .int vq), (6, .int vr), (3, .int vs), (12, .int x36), (11, .int x29), (10, .int (nI wd)), (9, .int mx), (8, .int (nI (i / 16))), (7, .int (nI i)), (0, .ref g0), (1, .int (nI at_)), (2, .ref tr)]) hx hb d_Dg_mixBlock_286 hl (by decide) rfl (fun ls hl => ?_)
        refine lv_iinc (k := 9) (v := nI (i + 1)) (lv' := [(7, .int (nI (i + 1))), (4, .int x37), (5, .int vq), (6, .int vr), (3, .int vs), (12, .int x36), (11, .int x29), (10, .int (nI wd)), (9, .int mx), (8, .int (nI (i / 16))), (0, .ref g0), (1, .int (nI at_)), (2, .ref tr)]) hx hb d_Dg_mixBlock_288 hl rfl (nI_1 i) (by decide) rfl (fun ls hl => ?_)
        refine lv_goto (tgt := 95) hx hb d_Dg_mixBlock_291 (by decide) ?_
        have hl := lv_sub hl [0, 4, 1, 2, 3, 10, 11, 12] (show _ = [(7, .int (nI (i + 1))), (3, .int vs), (4, .int x37), (5, .int vq), (6, .int vr), (0, .ref g0), (1, .int (nI at_)), (2, .ref tr)] from rfl)
        exact ih (i + 1) _ _ _ _ _ _ _ (by omega) hP hD hS hl
      refine lv_iload hx hb d_Dg_mixBlock_108 (lv_at hl 0 rfl) ?_
      refine lv_if_ne (tgt := 135) hx hb d_Dg_mixBlock_110 (by decide) (fun hc38 => ?_) (fun hc38 => ?_)
      · refine lv_iload hx hb d_Dg_mixBlock_135 (lv_at hl 0 rfl) ?_
        refine lv_iconst (v := 1) hx hb d_Dg_mixBlock_137 (by decide) ?_
        refine lv_icmp_ne (tgt := 170) hx hb d_Dg_mixBlock_138 (by decide) (fun hc39 => ?_) (fun hc39 => ?_)
        · refine lv_iload hx hb d_Dg_mixBlock_170 (lv_at hl 0 rfl) ?_
          refine lv_iconst (v := 2) hx hb d_Dg_mixBlock_172 (by decide) ?_
          refine lv_icmp_ne (tgt := 200) hx hb d_Dg_mixBlock_173 (by decide) (fun hc43 => ?_) (fun hc43 => ?_)
          · refine lv_iload hx hb d_Dg_mixBlock_200 (lv_at hl 4 rfl) ?_
            refine lv_iload hx hb d_Dg_mixBlock_202 (lv_at hl 3 rfl) ?_
            refine lv_iload hx hb d_Dg_mixBlock_204 (lv_at hl 5 rfl) ?_
            refine lv_iconst (v := (-1)) hx hb d_Dg_mixBlock_206 (by decide) ?_
            refine lv_ixor hx hb d_Dg_mixBlock_207 ?_
            refine lv_ior hx hb d_Dg_mixBlock_208 ?_
            refine lv_ixor hx hb d_Dg_mixBlock_209 ?_
            refine lv_istore (lv' := [(9, .int (vr ^^^ (vq ||| (vs ^^^ (-1))))), (8, .int (nI (i / 16))), (7, .int (nI i)), (3, .int vp), (4, .int vq), (5, .int vr), (6, .int vs), (0, .ref g0), (1, .int (nI at_)), (2, .ref tr)]) hx hb d_Dg_mixBlock_210 hl (by decide) rfl (fun ls hl => ?_)
            refine lv_bipush (v := 7) hx hb d_Dg_mixBlock_212 (by decide) ?_
            refine lv_iload hx hb d_Dg_mixBlock_214 (lv_at hl 2 rfl) ?_
            refine lv_imul hx hb d_Dg_mixBlock_216 ?_
            refine lv_bipush (v := 15) hx hb d_Dg_mixBlock_217 (by decide) ?_
            refine lv_iand hx hb d_Dg_mixBlock_219 ?_
            obtain ⟨wd47, hwd47, ewd47⟩ := pk_andE ((7 * (nI i))) (m := 15) 4 (by decide)
            refine lv_topi (fun x49 e48 => ?_)
            obtain rfl : x49 = nI wd47 := by rw [e48]; exact ewd47
            refine lv_istore (lv' := [(10, .int (nI wd47)), (9, .int (vr ^^^ (vq ||| (vs ^^^ (-1))))), (8, .int (nI (i / 16))), (7, .int (nI i)), (3, .int vp), (4, .int vq), (5, .int vr), (6, .int vs), (0, .ref g0), (1, .int (nI at_)), (2, .ref tr)]) hx hb d_Dg_mixBlock_220 hl (by decide) rfl (fun ls hl => ?_)
            have hl := lv_sub hl [0, 1, 2, 3, 4, 5, 6, 7, 8, 9, 10] (show _ = [(10, .int (nI wd47)), (9, .int (vr ^^^ (vq ||| (vs ^^^ (-1))))), (8, .int (nI (i / 16))), (7, .int (nI i)), (3, .int vp), (4, .int vq), (5, .int vr), (6, .int vs), (0, .ref g0), (1, .int (nI at_)), (2, .ref tr)] from rfl)
            exact K28 _ _ _ (hwd47) hl
          · refine lv_iload hx hb d_Dg_mixBlock_176 (lv_at hl 3 rfl) ?_
            refine lv_iload hx hb d_Dg_mixBlock_178 (lv_at hl 4 rfl) ?_
            refine lv_ixor hx hb d_Dg_mixBlock_180 ?_
            refine lv_iload hx hb d_Dg_mixBlock_181 (lv_at hl 5 rfl) ?_
            refine lv_ixor hx hb d_Dg_mixBlock_183 ?_
            refine lv_istore (lv' := [(9, .int ((vq ^^^ vr) ^^^ vs)), (8, .int (nI (i / 16))), (7, .int (nI i)), (3, .int vp), (4, .int vq), (5, .int vr), (6, .int vs), (0, .ref g0), (1, .int (nI at_)), (2, .ref tr)]) hx hb d_Dg_mixBlock_184 hl (by decide) rfl (fun ls hl => ?_)
            refine lv_iconst (v := 3) hx hb d_Dg_mixBlock_186 (by decide) ?_
            refine lv_iload hx hb d_Dg_mixBlock_187 (lv_at hl 2 rfl) ?_
            refine lv_imul hx hb d_Dg_mixBlock_189 ?_
            refine lv_iconst (v := 5) hx hb d_Dg_mixBlock_190 (by decide) ?_
            refine lv_iadd hx hb d_Dg_mixBlock_191 ?_
            refine lv_bipush (v := 15) hx hb d_Dg_mixBlock_192 (by decide) ?_
            refine lv_iand hx hb d_Dg_mixBlock_194 ?_
            obtain ⟨wd44, hwd44, ewd44⟩ := pk_andE (((3 * (nI i)) + 5)) (m := 15) 4 (by decide)
            refine lv_topi (fun x46 e45 => ?_)
            obtain rfl : x46 = nI wd44 := by rw [e45]; exact ewd44
            refine lv_istore (lv' := [(10, .int (nI wd44)), (9, .int ((vq ^^^ vr) ^^^ vs)), (8, .int (nI (i / 16))), (7, .int (nI i)), (3, .int vp), (4, .int vq), (5, .int vr), (6, .int vs), (0, .ref g0), (1, .int (nI at_)), (2, .ref tr)]) hx hb d_Dg_mixBlock_195 hl (by decide) rfl (fun ls hl => ?_)
            refine lv_goto (tgt := 222) hx hb d_Dg_mixBlock_197 (by decide) ?_
            have hl := lv_sub hl [0, 1, 2, 3, 4, 5, 6, 7, 8, 9, 10] (show _ = [(10, .int (nI wd44)), (9, .int ((vq ^^^ vr) ^^^ vs)), (8, .int (nI (i / 16))), (7, .int (nI i)), (3, .int vp), (4, .int vq), (5, .int vr), (6, .int vs), (0, .ref g0), (1, .int (nI at_)), (2, .ref tr)] from rfl)
            exact K28 _ _ _ (hwd44) hl
        · refine lv_iload hx hb d_Dg_mixBlock_141 (lv_at hl 3 rfl) ?_
          refine lv_iload hx hb d_Dg_mixBlock_143 (lv_at hl 5 rfl) ?_
          refine lv_iand hx hb d_Dg_mixBlock_145 ?_
          refine lv_iload hx hb d_Dg_mixBlock_146 (lv_at hl 4 rfl) ?_
          refine lv_iload hx hb d_Dg_mixBlock_148 (lv_at hl 5 rfl) ?_
          refine lv_iconst (v := (-1)) hx hb d_Dg_mixBlock_150 (by decide) ?_
          refine lv_ixor hx hb d_Dg_mixBlock_151 ?_
          refine lv_iand hx hb d_Dg_mixBlock_152 ?_
          refine lv_ior hx hb d_Dg_mixBlock_153 ?_
          refine lv_istore (lv' := [(9, .int ((vq &&& vs) ||| (vr &&& (vs ^^^ (-1))))), (8, .int (nI (i / 16))), (7, .int (nI i)), (3, .int vp), (4, .int vq), (5, .int vr), (6, .int vs), (0, .ref g0), (1, .int (nI at_)), (2, .ref tr)]) hx hb d_Dg_mixBlock_154 hl (by decide) rfl (fun ls hl => ?_)
          refine lv_iconst (v := 5) hx hb d_Dg_mixBlock_156 (by decide) ?_
          refine lv_iload hx hb d_Dg_mixBlock_157 (lv_at hl 2 rfl) ?_
          refine lv_imul hx hb d_Dg_mixBlock_159 ?_
          refine lv_iconst (v := 1) hx hb d_Dg_mixBlock_160 (by decide) ?_
          refine lv_iadd hx hb d_Dg_mixBlock_161 ?_
          refine lv_bipush (v := 15) hx hb d_Dg_mixBlock_162 (by decide) ?_
          refine lv_iand hx hb d_Dg_mixBlock_164 ?_
          obtain ⟨wd40, hwd40, ewd40⟩ := pk_andE (((5 * (nI i)) + 1)) (m := 15) 4 (by decide)
          refine lv_topi (fun x42 e41 => ?_)
          obtain rfl : x42 = nI wd40 := by rw [e41]; exact ewd40
          refine lv_istore (lv' := [(10, .int (nI wd40)), (9, .int ((vq &&& vs) ||| (vr &&& (vs ^^^ (-1))))), (8, .int (nI (i / 16))), (7, .int (nI i)), (3, .int vp), (4, .int vq), (5, .int vr), (6, .int vs), (0, .ref g0), (1, .int (nI at_)), (2, .ref tr)]) hx hb d_Dg_mixBlock_165 hl (by decide) rfl (fun ls hl => ?_)
          refine lv_goto (tgt := 222) hx hb d_Dg_mixBlock_167 (by decide) ?_
          have hl := lv_sub hl [0, 1, 2, 3, 4, 5, 6, 7, 8, 9, 10] (show _ = [(10, .int (nI wd40)), (9, .int ((vq &&& vs) ||| (vr &&& (vs ^^^ (-1))))), (8, .int (nI (i / 16))), (7, .int (nI i)), (3, .int vp), (4, .int vq), (5, .int vr), (6, .int vs), (0, .ref g0), (1, .int (nI at_)), (2, .ref tr)] from rfl)
          exact K28 _ _ _ (hwd40) hl
      · refine lv_iload hx hb d_Dg_mixBlock_113 (lv_at hl 3 rfl) ?_
        refine lv_iload hx hb d_Dg_mixBlock_115 (lv_at hl 4 rfl) ?_
        refine lv_iand hx hb d_Dg_mixBlock_117 ?_
        refine lv_iload hx hb d_Dg_mixBlock_118 (lv_at hl 3 rfl) ?_
        refine lv_iconst (v := (-1)) hx hb d_Dg_mixBlock_120 (by decide) ?_
        refine lv_ixor hx hb d_Dg_mixBlock_121 ?_
        refine lv_iload hx hb d_Dg_mixBlock_122 (lv_at hl 5 rfl) ?_
        refine lv_iand hx hb d_Dg_mixBlock_124 ?_
        refine lv_ior hx hb d_Dg_mixBlock_125 ?_
        refine lv_istore (lv' := [(9, .int ((vq &&& vr) ||| ((vq ^^^ (-1)) &&& vs))), (8, .int (nI (i / 16))), (7, .int (nI i)), (3, .int vp), (4, .int vq), (5, .int vr), (6, .int vs), (0, .ref g0), (1, .int (nI at_)), (2, .ref tr)]) hx hb d_Dg_mixBlock_126 hl (by decide) rfl (fun ls hl => ?_)
        refine lv_iload hx hb d_Dg_mixBlock_128 (lv_at hl 2 rfl) ?_
        refine lv_istore (lv' := [(10, .int (nI i)), (9, .int ((vq &&& vr) ||| ((vq ^^^ (-1)) &&& vs))), (8, .int (nI (i / 16))), (7, .int (nI i)), (3, .int vp), (4, .int vq), (5, .int vr), (6, .int vs), (0, .ref g0), (1, .int (nI at_)), (2, .ref tr)]) hx hb d_Dg_mixBlock_130 hl (by decide) rfl (fun ls hl => ?_)
        refine lv_goto (tgt := 222) hx hb d_Dg_mixBlock_132 (by decide) ?_
        have h16 : i < 16 := Nat.lt_of_not_le fun hz => absurd hc38 (nI_ne0 (n := i / 16) (by omega) (by omega))
        have hl := lv_sub hl [0, 1, 2, 3, 4, 5, 6, 7, 8, 9, 10] (show _ = [(10, .int (nI i)), (9, .int ((vq &&& vr) ||| ((vq ^^^ (-1)) &&& vs))), (8, .int (nI (i / 16))), (7, .int (nI i)), (3, .int vp), (4, .int vq), (5, .int vr), (6, .int vs), (0, .ref g0), (1, .int (nI at_)), (2, .ref tr)] from rfl)
        exact K28 _ _ _ (h16) hl
  refine L19 _ (fun vp vq vr vs H locs ls  hP hD hS hl => ?_) (64 - 0) 0 va vb vc vd H _ ls (by omega)  hP hD hS hl
  refine lv_aload_n hx hb d_Dg_mixBlock_294 rfl (lv_at hl 5 rfl) ?_
  refine lv_dup hx hb d_Dg_mixBlock_295 rfl ?_
  refine va_get (D := (dC, dI)) (ci := 3) (v := (.int va)) (C := R_Dg) (T := F_Dg) (N := 7) hx hb hg in_Dg hown hK hP 0 rfl rfl 3 (by decide) (hg _ k_119) (fun _ h9 => h9) rfl d_Dg_mixBlock_296 ?_
  refine lv_iload_n hx hb d_Dg_mixBlock_299 rfl (lv_at hl 1 rfl) ?_
  refine lv_iadd hx hb d_Dg_mixBlock_300 ?_
  refine va_put (D := (dC, dI)) (ci := 3) (v := (.int (va + vp))) (ty := .int) (C := R_Dg) (T := F_Dg) (N := 7) hx hb hg in_Dg t_Dg tok_Dg nm_Dg hown hK hP hD hS 0 rfl rfl 3 (by decide) (hg _ k_119) (fun _ h9 => h9) rfl (by decide +kernel) rfl rfl (Nat.le_of_ble_eq_true rfl) d_Dg_mixBlock_301 (fun H locs hP hD hS => ?_)
  have hP : va_P (dC, dI) vcl [(g0, .inr (3, [.ref tx, .ref wo, .ref di, .int (va + vp), .int vb, .int vc, .int vd])), (tx, .inr (1, [.ref tr, .int (nI len)])), (tr, .inl ((cT 0), 1192, .inl f)), (wo, .inl ((cT 0), 16, .inl fw))] H := hP
  have hD : va_D A [(g0, .inr (3, [.ref tx, .ref wo, .ref di, .int (va + vp), .int vb, .int vc, .int vd])), (tx, .inr (1, [.ref tr, .int (nI len)])), (tr, .inl ((cT 0), 1192, .inl f)), (wo, .inl ((cT 0), 16, .inl fw))] := hD
  refine lv_aload_n hx hb d_Dg_mixBlock_304 rfl (lv_at hl 5 rfl) ?_
  refine lv_dup hx hb d_Dg_mixBlock_305 rfl ?_
  refine va_get (D := (dC, dI)) (ci := 3) (v := (.int vb)) (C := R_Dg) (T := F_Dg) (N := 7) hx hb hg in_Dg hown hK hP 0 rfl rfl 4 (by decide) (hg _ k_120) (fun _ h9 => h9) rfl d_Dg_mixBlock_306 ?_
  refine lv_iload hx hb d_Dg_mixBlock_309 (lv_at hl 2 rfl) ?_
  refine lv_iadd hx hb d_Dg_mixBlock_311 ?_
  refine va_put (D := (dC, dI)) (ci := 3) (v := (.int (vb + vq))) (ty := .int) (C := R_Dg) (T := F_Dg) (N := 7) hx hb hg in_Dg t_Dg tok_Dg nm_Dg hown hK hP hD hS 0 rfl rfl 4 (by decide) (hg _ k_120) (fun _ h9 => h9) rfl (by decide +kernel) rfl rfl (Nat.le_of_ble_eq_true rfl) d_Dg_mixBlock_312 (fun H locs hP hD hS => ?_)
  have hP : va_P (dC, dI) vcl [(g0, .inr (3, [.ref tx, .ref wo, .ref di, .int (va + vp), .int (vb + vq), .int vc, .int vd])), (tx, .inr (1, [.ref tr, .int (nI len)])), (tr, .inl ((cT 0), 1192, .inl f)), (wo, .inl ((cT 0), 16, .inl fw))] H := hP
  have hD : va_D A [(g0, .inr (3, [.ref tx, .ref wo, .ref di, .int (va + vp), .int (vb + vq), .int vc, .int vd])), (tx, .inr (1, [.ref tr, .int (nI len)])), (tr, .inl ((cT 0), 1192, .inl f)), (wo, .inl ((cT 0), 16, .inl fw))] := hD
  refine lv_aload_n hx hb d_Dg_mixBlock_315 rfl (lv_at hl 5 rfl) ?_
  refine lv_dup hx hb d_Dg_mixBlock_316 rfl ?_
  refine va_get (D := (dC, dI)) (ci := 3) (v := (.int vc)) (C := R_Dg) (T := F_Dg) (N := 7) hx hb hg in_Dg hown hK hP 0 rfl rfl 5 (by decide) (hg _ k_121) (fun _ h9 => h9) rfl d_Dg_mixBlock_317 ?_
  refine lv_iload hx hb d_Dg_mixBlock_320 (lv_at hl 3 rfl) ?_
  refine lv_iadd hx hb d_Dg_mixBlock_322 ?_
  refine va_put (D := (dC, dI)) (ci := 3) (v := (.int (vc + vr))) (ty := .int) (C := R_Dg) (T := F_Dg) (N := 7) hx hb hg in_Dg t_Dg tok_Dg nm_Dg hown hK hP hD hS 0 rfl rfl 5 (by decide) (hg _ k_121) (fun _ h9 => h9) rfl (by decide +kernel) rfl rfl (Nat.le_of_ble_eq_true rfl) d_Dg_mixBlock_323 (fun H locs hP hD hS => ?_)
  have hP : va_P (dC, dI) vcl [(g0, .inr (3, [.ref tx, .ref wo, .ref di, .int (va + vp), .int (vb + vq), .int (vc + vr), .int vd])), (tx, .inr (1, [.ref tr, .int (nI len)])), (tr, .inl ((cT 0), 1192, .inl f)), (wo, .inl ((cT 0), 16, .inl fw))] H := hP
  have hD : va_D A [(g0, .inr (3, [.ref tx, .ref wo, .ref di, .int (va + vp), .int (vb + vq), .int (vc + vr), .int vd])), (tx, .inr (1, [.ref tr, .int (nI len)])), (tr, .inl ((cT 0), 1192, .inl f)), (wo, .inl ((cT 0), 16, .inl fw))] := hD
  refine lv_aload_n hx hb d_Dg_mixBlock_326 rfl (lv_at hl 5 rfl) ?_
  refine lv_dup hx hb d_Dg_mixBlock_327 rfl ?_
  refine va_get (D := (dC, dI)) (ci := 3) (v := (.int vd)) (C := R_Dg) (T := F_Dg) (N := 7) hx hb hg in_Dg hown hK hP 0 rfl rfl 6 (by decide) (hg _ k_122) (fun _ h9 => h9) rfl d_Dg_mixBlock_328 ?_
  refine lv_iload hx hb d_Dg_mixBlock_331 (lv_at hl 4 rfl) ?_
  refine lv_iadd hx hb d_Dg_mixBlock_333 ?_
  refine va_put (D := (dC, dI)) (ci := 3) (v := (.int (vd + vs))) (ty := .int) (C := R_Dg) (T := F_Dg) (N := 7) hx hb hg in_Dg t_Dg tok_Dg nm_Dg hown hK hP hD hS 0 rfl rfl 6 (by decide) (hg _ k_122) (fun _ h9 => h9) rfl (by decide +kernel) rfl rfl (Nat.le_of_ble_eq_true rfl) d_Dg_mixBlock_334 (fun H locs hP hD hS => ?_)
  have hP : va_P (dC, dI) vcl [(g0, .inr (3, [.ref tx, .ref wo, .ref di, .int (va + vp), .int (vb + vq), .int (vc + vr), .int (vd + vs)])), (tx, .inr (1, [.ref tr, .int (nI len)])), (tr, .inl ((cT 0), 1192, .inl f)), (wo, .inl ((cT 0), 16, .inl fw))] H := hP
  have hD : va_D A [(g0, .inr (3, [.ref tx, .ref wo, .ref di, .int (va + vp), .int (vb + vq), .int (vc + vr), .int (vd + vs)])), (tx, .inr (1, [.ref tr, .int (nI len)])), (tr, .inl ((cT 0), 1192, .inl f)), (wo, .inl ((cT 0), 16, .inl fw))] := hD
  have hP9 := hP.sub (ws' := [(g0, .inr (3, [.ref tx, .ref wo, .ref di, .int (va + vp), .int (vb + vq), .int (vc + vr), .int (vd + vs)])), (tx, .inr (1, [.ref tr, .int (nI len)])), (tr, .inl ((cT 0), 1192, .inl f)), (wo, .inl ((cT 0), 16, .inl fw))]) [0, 1, 2, 3] rfl
  have hD9 := hD.sub (ws' := [(g0, .inr (3, [.ref tx, .ref wo, .ref di, .int (va + vp), .int (vb + vq), .int (vc + vr), .int (vd + vs)])), (tx, .inr (1, [.ref tr, .int (nI len)])), (tr, .inl ((cT 0), 1192, .inl f)), (wo, .inl ((cT 0), 16, .inl fw))]) [0, 1, 2, 3] (by decide) rfl
  exact W.vret hx hb hr (fun t ht hW => ⟨⟨⟨fw, va + vp, vb + vq, vc + vr, vd + vs⟩, rfl, trivial, by rw [ht]; exact hP9, va_K.moved hW.alike hK, hD9⟩, hS.F ht⟩) hS.2.2 d_Dg_mixBlock_337
