theorem d_Md_close_0 : decode b_Md_close 0 = .ok (.aload_n 0, 1) := by decide +kernel
theorem d_Md_close_1 : decode b_Md_close 1 = .ok (.getfield 383, 3) := by decide +kernel
theorem d_Md_close_4 : decode b_Md_close 4 = .ok (.iconst 2, 1) := by decide +kernel
theorem d_Md_close_5 : decode b_Md_close 5 = .ok (.iadd, 1) := by decide +kernel
theorem d_Md_close_6 : decode b_Md_close 6 = .ok (.istore_n 2, 1) := by decide +kernel
theorem d_Md_close_7 : decode b_Md_close 7 = .ok (.aload_n 0, 1) := by decide +kernel
theorem d_Md_close_8 : decode b_Md_close 8 = .ok (.getfield 169, 3) := by decide +kernel
theorem d_Md_close_11 : decode b_Md_close 11 = .ok (.iconst 0, 1) := by decide +kernel
theorem d_Md_close_12 : decode b_Md_close 12 = .ok (.iaload, 1) := by decide +kernel
theorem d_Md_close_13 : decode b_Md_close 13 = .ok (.iconst 5, 1) := by decide +kernel
theorem d_Md_close_14 : decode b_Md_close 14 = .ok (.if_icmp .eq 7, 3) := by decide +kernel
theorem d_Md_close_21 : decode b_Md_close 21 = .ok (.iconst 0, 1) := by decide +kernel
theorem d_Md_close_22 : decode b_Md_close 22 = .ok (.istore_n 3, 1) := by decide +kernel
theorem d_Md_close_23 : decode b_Md_close 23 = .ok (.iload_n 3, 1) := by decide +kernel
theorem d_Md_close_24 : decode b_Md_close 24 = .ok (.ifCond .eq 36, 3) := by decide +kernel
theorem d_Md_close_60 : decode b_Md_close 60 = .ok (.aload_n 0, 1) := by decide +kernel
theorem d_Md_close_61 : decode b_Md_close 61 = .ok (.getfield 169, 3) := by decide +kernel
theorem d_Md_close_64 : decode b_Md_close 64 = .ok (.iconst 2, 1) := by decide +kernel
theorem d_Md_close_65 : decode b_Md_close 65 = .ok (.aload_n 0, 1) := by decide +kernel
theorem d_Md_close_66 : decode b_Md_close 66 = .ok (.getfield 383, 3) := by decide +kernel
theorem d_Md_close_69 : decode b_Md_close 69 = .ok (.sipush 256, 3) := by decide +kernel
theorem d_Md_close_72 : decode b_Md_close 72 = .ok (.idiv, 1) := by decide +kernel
theorem d_Md_close_73 : decode b_Md_close 73 = .ok (.iastore, 1) := by decide +kernel
theorem d_Md_close_74 : decode b_Md_close 74 = .ok (.aload_n 0, 1) := by decide +kernel
theorem d_Md_close_75 : decode b_Md_close 75 = .ok (.getfield 169, 3) := by decide +kernel
theorem d_Md_close_78 : decode b_Md_close 78 = .ok (.iconst 3, 1) := by decide +kernel
theorem d_Md_close_79 : decode b_Md_close 79 = .ok (.aload_n 0, 1) := by decide +kernel
theorem d_Md_close_80 : decode b_Md_close 80 = .ok (.getfield 383, 3) := by decide +kernel
theorem d_Md_close_83 : decode b_Md_close 83 = .ok (.sipush 256, 3) := by decide +kernel
theorem d_Md_close_86 : decode b_Md_close 86 = .ok (.irem, 1) := by decide +kernel
theorem d_Md_close_87 : decode b_Md_close 87 = .ok (.iastore, 1) := by decide +kernel
theorem d_Md_close_88 : decode b_Md_close 88 = .ok (.iload_n 3, 1) := by decide +kernel
theorem d_Md_close_89 : decode b_Md_close 89 = .ok (.ifCond .eq 69, 3) := by decide +kernel
theorem d_Md_close_158 : decode b_Md_close 158 = .ok (.iconst 0, 1) := by decide +kernel
theorem d_Md_close_159 : decode b_Md_close 159 = .ok (.istore 4, 2) := by decide +kernel
theorem d_Md_close_161 : decode b_Md_close 161 = .ok (.iload 4, 2) := by decide +kernel
theorem d_Md_close_163 : decode b_Md_close 163 = .ok (.aload_n 0, 1) := by decide +kernel
theorem d_Md_close_164 : decode b_Md_close 164 = .ok (.getfield 383, 3) := by decide +kernel
theorem d_Md_close_167 : decode b_Md_close 167 = .ok (.if_icmp .ge 20, 3) := by decide +kernel
theorem d_Md_close_170 : decode b_Md_close 170 = .ok (.aload_n 0, 1) := by decide +kernel
theorem d_Md_close_171 : decode b_Md_close 171 = .ok (.aload_n 0, 1) := by decide +kernel
theorem d_Md_close_172 : decode b_Md_close 172 = .ok (.getfield 169, 3) := by decide +kernel
theorem d_Md_close_175 : decode b_Md_close 175 = .ok (.iload 4, 2) := by decide +kernel
theorem d_Md_close_177 : decode b_Md_close 177 = .ok (.iaload, 1) := by decide +kernel
theorem d_Md_close_178 : decode b_Md_close 178 = .ok (.invokevirtual 250, 3) := by decide +kernel
theorem d_Md_close_181 : decode b_Md_close 181 = .ok (.iinc 4 1, 3) := by decide +kernel
theorem d_Md_close_184 : decode b_Md_close 184 = .ok (.goto (-23), 3) := by decide +kernel
theorem d_Md_close_187 : decode b_Md_close 187 = .ok (.aload_n 0, 1) := by decide +kernel
theorem d_Md_close_188 : decode b_Md_close 188 = .ok (.iload_n 1, 1) := by decide +kernel
theorem d_Md_close_189 : decode b_Md_close 189 = .ok (.invokevirtual 318, 3) := by decide +kernel
theorem d_Md_close_192 : decode b_Md_close 192 = .ok (.aload_n 0, 1) := by decide +kernel
theorem d_Md_close_193 : decode b_Md_close 193 = .ok (.invokevirtual 284, 3) := by decide +kernel
theorem d_Md_close_196 : decode b_Md_close 196 = .ok (.iconst 0, 1) := by decide +kernel
theorem d_Md_close_197 : decode b_Md_close 197 = .ok (.istore 4, 2) := by decide +kernel
theorem d_Md_close_199 : decode b_Md_close 199 = .ok (.iload 4, 2) := by decide +kernel
theorem d_Md_close_201 : decode b_Md_close 201 = .ok (.bipush 16, 2) := by decide +kernel
theorem d_Md_close_203 : decode b_Md_close 203 = .ok (.if_icmp .ge 25, 3) := by decide +kernel
theorem d_Md_close_206 : decode b_Md_close 206 = .ok (.aload_n 0, 1) := by decide +kernel
theorem d_Md_close_207 : decode b_Md_close 207 = .ok (.getfield 169, 3) := by decide +kernel
theorem d_Md_close_210 : decode b_Md_close 210 = .ok (.iconst 4, 1) := by decide +kernel
theorem d_Md_close_211 : decode b_Md_close 211 = .ok (.iload 4, 2) := by decide +kernel
theorem d_Md_close_213 : decode b_Md_close 213 = .ok (.iadd, 1) := by decide +kernel
theorem d_Md_close_214 : decode b_Md_close 214 = .ok (.aload_n 0, 1) := by decide +kernel
theorem d_Md_close_215 : decode b_Md_close 215 = .ok (.getfield 160, 3) := by decide +kernel
theorem d_Md_close_218 : decode b_Md_close 218 = .ok (.iload 4, 2) := by decide +kernel
theorem d_Md_close_220 : decode b_Md_close 220 = .ok (.iaload, 1) := by decide +kernel
theorem d_Md_close_221 : decode b_Md_close 221 = .ok (.iastore, 1) := by decide +kernel
theorem d_Md_close_222 : decode b_Md_close 222 = .ok (.iinc 4 1, 3) := by decide +kernel
theorem d_Md_close_225 : decode b_Md_close 225 = .ok (.goto (-26), 3) := by decide +kernel
theorem d_Md_close_228 : decode b_Md_close 228 = .ok (.aload_n 0, 1) := by decide +kernel
theorem d_Md_close_229 : decode b_Md_close 229 = .ok (.aload_n 0, 1) := by decide +kernel
theorem d_Md_close_230 : decode b_Md_close 230 = .ok (.getfield 383, 3) := by decide +kernel
theorem d_Md_close_233 : decode b_Md_close 233 = .ok (.putfield 325, 3) := by decide +kernel
theorem d_Md_close_236 : decode b_Md_close 236 = .ok (.iconst 0, 1) := by decide +kernel
theorem d_Md_close_237 : decode b_Md_close 237 = .ok (.istore 4, 2) := by decide +kernel
theorem d_Md_close_239 : decode b_Md_close 239 = .ok (.iload 4, 2) := by decide +kernel
theorem d_Md_close_241 : decode b_Md_close 241 = .ok (.aload_n 0, 1) := by decide +kernel
theorem d_Md_close_242 : decode b_Md_close 242 = .ok (.getfield 383, 3) := by decide +kernel
theorem d_Md_close_245 : decode b_Md_close 245 = .ok (.if_icmp .ge 23, 3) := by decide +kernel
theorem d_Md_close_248 : decode b_Md_close 248 = .ok (.aload_n 0, 1) := by decide +kernel
theorem d_Md_close_249 : decode b_Md_close 249 = .ok (.getfield 166, 3) := by decide +kernel
theorem d_Md_close_252 : decode b_Md_close 252 = .ok (.iload 4, 2) := by decide +kernel
theorem d_Md_close_254 : decode b_Md_close 254 = .ok (.aload_n 0, 1) := by decide +kernel
theorem d_Md_close_255 : decode b_Md_close 255 = .ok (.getfield 169, 3) := by decide +kernel
theorem d_Md_close_258 : decode b_Md_close 258 = .ok (.iload 4, 2) := by decide +kernel
theorem d_Md_close_260 : decode b_Md_close 260 = .ok (.iaload, 1) := by decide +kernel
theorem d_Md_close_261 : decode b_Md_close 261 = .ok (.iastore, 1) := by decide +kernel
theorem d_Md_close_262 : decode b_Md_close 262 = .ok (.iinc 4 1, 3) := by decide +kernel
theorem d_Md_close_265 : decode b_Md_close 265 = .ok (.goto (-26), 3) := by decide +kernel
theorem d_Md_close_268 : decode b_Md_close 268 = .ok (.aload_n 0, 1) := by decide +kernel
theorem d_Md_close_269 : decode b_Md_close 269 = .ok (.iload_n 1, 1) := by decide +kernel
theorem d_Md_close_270 : decode b_Md_close 270 = .ok (.invokevirtual 395, 3) := by decide +kernel
theorem d_Md_close_273 : decode b_Md_close 273 = .ok (.aload_n 0, 1) := by decide +kernel
theorem d_Md_close_274 : decode b_Md_close 274 = .ok (.dup, 1) := by decide +kernel
theorem d_Md_close_275 : decode b_Md_close 275 = .ok (.getfield 398, 3) := by decide +kernel
theorem d_Md_close_278 : decode b_Md_close 278 = .ok (.iconst 1, 1) := by decide +kernel
theorem d_Md_close_279 : decode b_Md_close 279 = .ok (.iadd, 1) := by decide +kernel
theorem d_Md_close_280 : decode b_Md_close 280 = .ok (.putfield 398, 3) := by decide +kernel
theorem d_Md_close_283 : decode b_Md_close 283 = .ok (.aload_n 0, 1) := by decide +kernel
theorem d_Md_close_284 : decode b_Md_close 284 = .ok (.getfield 169, 3) := by decide +kernel
theorem d_Md_close_287 : decode b_Md_close 287 = .ok (.iconst 0, 1) := by decide +kernel
theorem d_Md_close_288 : decode b_Md_close 288 = .ok (.iaload, 1) := by decide +kernel
theorem d_Md_close_289 : decode b_Md_close 289 = .ok (.ireturn, 1) := by decide +kernel
theorem d_Md_close_17 : decode b_Md_close 17 = .ok (.iconst 1, 1) := by decide +kernel
theorem d_Md_close_18 : decode b_Md_close 18 = .ok (.goto 4, 3) := by decide +kernel
theorem d_Md_close_27 : decode b_Md_close 27 = .ok (.aload_n 0, 1) := by decide +kernel
theorem d_Md_close_28 : decode b_Md_close 28 = .ok (.bipush 80, 2) := by decide +kernel
theorem d_Md_close_30 : decode b_Md_close 30 = .ok (.invokevirtual 386, 3) := by decide +kernel
theorem d_Md_close_33 : decode b_Md_close 33 = .ok (.aload_n 0, 1) := by decide +kernel
theorem d_Md_close_34 : decode b_Md_close 34 = .ok (.bipush 18, 2) := by decide +kernel
theorem d_Md_close_36 : decode b_Md_close 36 = .ok (.invokevirtual 386, 3) := by decide +kernel
theorem d_Md_close_39 : decode b_Md_close 39 = .ok (.iconst 0, 1) := by decide +kernel
theorem d_Md_close_40 : decode b_Md_close 40 = .ok (.istore 4, 2) := by decide +kernel
theorem d_Md_close_42 : decode b_Md_close 42 = .ok (.iload 4, 2) := by decide +kernel
theorem d_Md_close_44 : decode b_Md_close 44 = .ok (.bipush 16, 2) := by decide +kernel
theorem d_Md_close_46 : decode b_Md_close 46 = .ok (.if_icmp .ge 14, 3) := by decide +kernel
theorem d_Md_close_49 : decode b_Md_close 49 = .ok (.aload_n 0, 1) := by decide +kernel
theorem d_Md_close_50 : decode b_Md_close 50 = .ok (.iconst 0, 1) := by decide +kernel
theorem d_Md_close_51 : decode b_Md_close 51 = .ok (.invokevirtual 386, 3) := by decide +kernel
theorem d_Md_close_54 : decode b_Md_close 54 = .ok (.iinc 4 1, 3) := by decide +kernel
theorem d_Md_close_57 : decode b_Md_close 57 = .ok (.goto (-15), 3) := by decide +kernel
theorem d_Md_close_92 : decode b_Md_close 92 = .ok (.iconst 0, 1) := by decide +kernel
theorem d_Md_close_93 : decode b_Md_close 93 = .ok (.istore 4, 2) := by decide +kernel
theorem d_Md_close_95 : decode b_Md_close 95 = .ok (.iload 4, 2) := by decide +kernel
theorem d_Md_close_97 : decode b_Md_close 97 = .ok (.aload_n 0, 1) := by decide +kernel
theorem d_Md_close_98 : decode b_Md_close 98 = .ok (.getfield 383, 3) := by decide +kernel
theorem d_Md_close_101 : decode b_Md_close 101 = .ok (.if_icmp .ge 20, 3) := by decide +kernel
theorem d_Md_close_104 : decode b_Md_close 104 = .ok (.aload_n 0, 1) := by decide +kernel
theorem d_Md_close_105 : decode b_Md_close 105 = .ok (.aload_n 0, 1) := by decide +kernel
theorem d_Md_close_106 : decode b_Md_close 106 = .ok (.getfield 169, 3) := by decide +kernel
theorem d_Md_close_109 : decode b_Md_close 109 = .ok (.iload 4, 2) := by decide +kernel
theorem d_Md_close_111 : decode b_Md_close 111 = .ok (.iaload, 1) := by decide +kernel
theorem d_Md_close_112 : decode b_Md_close 112 = .ok (.invokevirtual 250, 3) := by decide +kernel
theorem d_Md_close_115 : decode b_Md_close 115 = .ok (.iinc 4 1, 3) := by decide +kernel
theorem d_Md_close_118 : decode b_Md_close 118 = .ok (.goto (-23), 3) := by decide +kernel
theorem d_Md_close_121 : decode b_Md_close 121 = .ok (.aload_n 0, 1) := by decide +kernel
theorem d_Md_close_122 : decode b_Md_close 122 = .ok (.iload_n 1, 1) := by decide +kernel
theorem d_Md_close_123 : decode b_Md_close 123 = .ok (.invokevirtual 328, 3) := by decide +kernel
theorem d_Md_close_126 : decode b_Md_close 126 = .ok (.iconst 0, 1) := by decide +kernel
theorem d_Md_close_127 : decode b_Md_close 127 = .ok (.istore 4, 2) := by decide +kernel
theorem d_Md_close_129 : decode b_Md_close 129 = .ok (.iload 4, 2) := by decide +kernel
theorem d_Md_close_131 : decode b_Md_close 131 = .ok (.bipush 16, 2) := by decide +kernel
theorem d_Md_close_133 : decode b_Md_close 133 = .ok (.if_icmp .ge 25, 3) := by decide +kernel
theorem d_Md_close_136 : decode b_Md_close 136 = .ok (.aload_n 0, 1) := by decide +kernel
theorem d_Md_close_137 : decode b_Md_close 137 = .ok (.getfield 169, 3) := by decide +kernel
theorem d_Md_close_140 : decode b_Md_close 140 = .ok (.iload_n 2, 1) := by decide +kernel
theorem d_Md_close_141 : decode b_Md_close 141 = .ok (.iload 4, 2) := by decide +kernel
theorem d_Md_close_143 : decode b_Md_close 143 = .ok (.iadd, 1) := by decide +kernel
theorem d_Md_close_144 : decode b_Md_close 144 = .ok (.aload_n 0, 1) := by decide +kernel
theorem d_Md_close_145 : decode b_Md_close 145 = .ok (.getfield 160, 3) := by decide +kernel
theorem d_Md_close_148 : decode b_Md_close 148 = .ok (.iload 4, 2) := by decide +kernel
theorem d_Md_close_150 : decode b_Md_close 150 = .ok (.iaload, 1) := by decide +kernel
theorem d_Md_close_151 : decode b_Md_close 151 = .ok (.iastore, 1) := by decide +kernel
theorem d_Md_close_152 : decode b_Md_close 152 = .ok (.iinc 4 1, 3) := by decide +kernel
theorem d_Md_close_155 : decode b_Md_close 155 = .ok (.goto (-26), 3) := by decide +kernel
theorem d_Md_userOf_0 : decode b_Md_userOf 0 = .ok (.iconst 0, 1) := by decide +kernel
theorem d_Md_userOf_1 : decode b_Md_userOf 1 = .ok (.istore_n 1, 1) := by decide +kernel
theorem d_Md_userOf_2 : decode b_Md_userOf 2 = .ok (.iload_n 1, 1) := by decide +kernel
theorem d_Md_userOf_3 : decode b_Md_userOf 3 = .ok (.bipush 32, 2) := by decide +kernel
theorem d_Md_userOf_5 : decode b_Md_userOf 5 = .ok (.if_icmp .ge 90, 3) := by decide +kernel
theorem d_Md_userOf_8 : decode b_Md_userOf 8 = .ok (.aload_n 0, 1) := by decide +kernel
theorem d_Md_userOf_9 : decode b_Md_userOf 9 = .ok (.getfield 151, 3) := by decide +kernel
theorem d_Md_userOf_12 : decode b_Md_userOf 12 = .ok (.iload_n 1, 1) := by decide +kernel
theorem d_Md_userOf_13 : decode b_Md_userOf 13 = .ok (.iaload, 1) := by decide +kernel
theorem d_Md_userOf_14 : decode b_Md_userOf 14 = .ok (.ifCond .le 75, 3) := by decide +kernel
theorem d_Md_userOf_89 : decode b_Md_userOf 89 = .ok (.iinc 1 1, 3) := by decide +kernel
theorem d_Md_userOf_92 : decode b_Md_userOf 92 = .ok (.goto (-90), 3) := by decide +kernel
theorem d_Md_userOf_17 : decode b_Md_userOf 17 = .ok (.aload_n 0, 1) := by decide +kernel
theorem d_Md_userOf_18 : decode b_Md_userOf 18 = .ok (.iconst 1, 1) := by decide +kernel
theorem d_Md_userOf_19 : decode b_Md_userOf 19 = .ok (.invokevirtual 353, 3) := by decide +kernel
theorem d_Md_userOf_22 : decode b_Md_userOf 22 = .ok (.ifCond .eq 67, 3) := by decide +kernel
theorem d_Md_userOf_25 : decode b_Md_userOf 25 = .ok (.aload_n 0, 1) := by decide +kernel
theorem d_Md_userOf_26 : decode b_Md_userOf 26 = .ok (.iconst 1, 1) := by decide +kernel
theorem d_Md_userOf_27 : decode b_Md_userOf 27 = .ok (.invokevirtual 401, 3) := by decide +kernel
theorem d_Md_userOf_30 : decode b_Md_userOf 30 = .ok (.iconst 3, 1) := by decide +kernel
theorem d_Md_userOf_31 : decode b_Md_userOf 31 = .ok (.if_icmp .ne 58, 3) := by decide +kernel
theorem d_Md_userOf_34 : decode b_Md_userOf 34 = .ok (.aload_n 0, 1) := by decide +kernel
theorem d_Md_userOf_35 : decode b_Md_userOf 35 = .ok (.iconst 1, 1) := by decide +kernel
theorem d_Md_userOf_36 : decode b_Md_userOf 36 = .ok (.invokevirtual 356, 3) := by decide +kernel
theorem d_Md_userOf_39 : decode b_Md_userOf 39 = .ok (.istore_n 2, 1) := by decide +kernel
theorem d_Md_userOf_40 : decode b_Md_userOf 40 = .ok (.aload_n 0, 1) := by decide +kernel
theorem d_Md_userOf_41 : decode b_Md_userOf 41 = .ok (.getfield 154, 3) := by decide +kernel
theorem d_Md_userOf_44 : decode b_Md_userOf 44 = .ok (.iload_n 2, 1) := by decide +kernel
theorem d_Md_userOf_45 : decode b_Md_userOf 45 = .ok (.iaload, 1) := by decide +kernel
theorem d_Md_userOf_46 : decode b_Md_userOf 46 = .ok (.bipush 117, 2) := by decide +kernel
theorem d_Md_userOf_48 : decode b_Md_userOf 48 = .ok (.if_icmp .ne 41, 3) := by decide +kernel
theorem d_Md_userOf_51 : decode b_Md_userOf 51 = .ok (.aload_n 0, 1) := by decide +kernel
theorem d_Md_userOf_52 : decode b_Md_userOf 52 = .ok (.getfield 154, 3) := by decide +kernel
theorem d_Md_userOf_55 : decode b_Md_userOf 55 = .ok (.iload_n 2, 1) := by decide +kernel
theorem d_Md_userOf_56 : decode b_Md_userOf 56 = .ok (.iconst 1, 1) := by decide +kernel
theorem d_Md_userOf_57 : decode b_Md_userOf 57 = .ok (.iadd, 1) := by decide +kernel
theorem d_Md_userOf_58 : decode b_Md_userOf 58 = .ok (.iaload, 1) := by decide +kernel
theorem d_Md_userOf_59 : decode b_Md_userOf 59 = .ok (.bipush 48, 2) := by decide +kernel
theorem d_Md_userOf_61 : decode b_Md_userOf 61 = .ok (.iload_n 1, 1) := by decide +kernel
theorem d_Md_userOf_62 : decode b_Md_userOf 62 = .ok (.bipush 10, 2) := by decide +kernel
theorem d_Md_userOf_64 : decode b_Md_userOf 64 = .ok (.idiv, 1) := by decide +kernel
theorem d_Md_userOf_65 : decode b_Md_userOf 65 = .ok (.iadd, 1) := by decide +kernel
theorem d_Md_userOf_66 : decode b_Md_userOf 66 = .ok (.if_icmp .ne 23, 3) := by decide +kernel
theorem d_Md_userOf_69 : decode b_Md_userOf 69 = .ok (.aload_n 0, 1) := by decide +kernel
theorem d_Md_userOf_70 : decode b_Md_userOf 70 = .ok (.getfield 154, 3) := by decide +kernel
theorem d_Md_userOf_73 : decode b_Md_userOf 73 = .ok (.iload_n 2, 1) := by decide +kernel
theorem d_Md_userOf_74 : decode b_Md_userOf 74 = .ok (.iconst 2, 1) := by decide +kernel
theorem d_Md_userOf_75 : decode b_Md_userOf 75 = .ok (.iadd, 1) := by decide +kernel
theorem d_Md_userOf_76 : decode b_Md_userOf 76 = .ok (.iaload, 1) := by decide +kernel
theorem d_Md_userOf_77 : decode b_Md_userOf 77 = .ok (.bipush 48, 2) := by decide +kernel
theorem d_Md_userOf_79 : decode b_Md_userOf 79 = .ok (.iload_n 1, 1) := by decide +kernel
theorem d_Md_userOf_80 : decode b_Md_userOf 80 = .ok (.bipush 10, 2) := by decide +kernel
theorem d_Md_userOf_82 : decode b_Md_userOf 82 = .ok (.irem, 1) := by decide +kernel
theorem d_Md_userOf_83 : decode b_Md_userOf 83 = .ok (.iadd, 1) := by decide +kernel
theorem d_Md_userOf_84 : decode b_Md_userOf 84 = .ok (.if_icmp .ne 5, 3) := by decide +kernel
theorem d_Md_userOf_87 : decode b_Md_userOf 87 = .ok (.iload_n 1, 1) := by decide +kernel
theorem d_Md_userOf_95 : decode b_Md_userOf 95 = .ok (.iconst (-1), 1) := by decide +kernel
theorem d_Md_userOf_96 : decode b_Md_userOf 96 = .ok (.ireturn, 1) := by decide +kernel
theorem d_Md_userOf_88 : decode b_Md_userOf 88 = .ok (.ireturn, 1) := by decide +kernel
theorem d_Md_isPassword_0 : decode b_Md_isPassword 0 = .ok (.aload_n 0, 1) := by decide +kernel
theorem d_Md_isPassword_1 : decode b_Md_isPassword 1 = .ok (.iconst 2, 1) := by decide +kernel
theorem d_Md_isPassword_2 : decode b_Md_isPassword 2 = .ok (.invokevirtual 356, 3) := by decide +kernel
theorem d_Md_isPassword_5 : decode b_Md_isPassword 5 = .ok (.istore_n 3, 1) := by decide +kernel
theorem d_Md_isPassword_6 : decode b_Md_isPassword 6 = .ok (.aload_n 0, 1) := by decide +kernel
theorem d_Md_isPassword_7 : decode b_Md_isPassword 7 = .ok (.iconst 2, 1) := by decide +kernel
theorem d_Md_isPassword_8 : decode b_Md_isPassword 8 = .ok (.invokevirtual 401, 3) := by decide +kernel
theorem d_Md_isPassword_11 : decode b_Md_isPassword 11 = .ok (.istore 4, 2) := by decide +kernel
theorem d_Md_isPassword_13 : decode b_Md_isPassword 13 = .ok (.aload_n 0, 1) := by decide +kernel
theorem d_Md_isPassword_14 : decode b_Md_isPassword 14 = .ok (.getfield 151, 3) := by decide +kernel
theorem d_Md_isPassword_17 : decode b_Md_isPassword 17 = .ok (.iload_n 2, 1) := by decide +kernel
theorem d_Md_isPassword_18 : decode b_Md_isPassword 18 = .ok (.iaload, 1) := by decide +kernel
theorem d_Md_isPassword_19 : decode b_Md_isPassword 19 = .ok (.iload 4, 2) := by decide +kernel
theorem d_Md_isPassword_21 : decode b_Md_isPassword 21 = .ok (.if_icmp .gt 7, 3) := by decide +kernel
theorem d_Md_isPassword_28 : decode b_Md_isPassword 28 = .ok (.iconst 0, 1) := by decide +kernel
theorem d_Md_isPassword_29 : decode b_Md_isPassword 29 = .ok (.istore 5, 2) := by decide +kernel
theorem d_Md_isPassword_31 : decode b_Md_isPassword 31 = .ok (.iconst 0, 1) := by decide +kernel
theorem d_Md_isPassword_32 : decode b_Md_isPassword 32 = .ok (.istore 6, 2) := by decide +kernel
theorem d_Md_isPassword_34 : decode b_Md_isPassword 34 = .ok (.iload 6, 2) := by decide +kernel
theorem d_Md_isPassword_36 : decode b_Md_isPassword 36 = .ok (.iload 4, 2) := by decide +kernel
theorem d_Md_isPassword_38 : decode b_Md_isPassword 38 = .ok (.bipush 16, 2) := by decide +kernel
theorem d_Md_isPassword_40 : decode b_Md_isPassword 40 = .ok (.idiv, 1) := by decide +kernel
theorem d_Md_isPassword_41 : decode b_Md_isPassword 41 = .ok (.if_icmp .ge 125, 3) := by decide +kernel
theorem d_Md_isPassword_44 : decode b_Md_isPassword 44 = .ok (.aload_n 0, 1) := by decide +kernel
theorem d_Md_isPassword_45 : decode b_Md_isPassword 45 = .ok (.iload_n 1, 1) := by decide +kernel
theorem d_Md_isPassword_46 : decode b_Md_isPassword 46 = .ok (.iload 6, 2) := by decide +kernel
theorem d_Md_isPassword_48 : decode b_Md_isPassword 48 = .ok (.ifCond .ne 7, 3) := by decide +kernel
theorem d_Md_isPassword_55 : decode b_Md_isPassword 55 = .ok (.iload_n 3, 1) := by decide +kernel
theorem d_Md_isPassword_56 : decode b_Md_isPassword 56 = .ok (.bipush 16, 2) := by decide +kernel
theorem d_Md_isPassword_58 : decode b_Md_isPassword 58 = .ok (.iload 6, 2) := by decide +kernel
theorem d_Md_isPassword_60 : decode b_Md_isPassword 60 = .ok (.imul, 1) := by decide +kernel
theorem d_Md_isPassword_61 : decode b_Md_isPassword 61 = .ok (.iadd, 1) := by decide +kernel
theorem d_Md_isPassword_62 : decode b_Md_isPassword 62 = .ok (.bipush 16, 2) := by decide +kernel
theorem d_Md_isPassword_64 : decode b_Md_isPassword 64 = .ok (.isub, 1) := by decide +kernel
theorem d_Md_isPassword_65 : decode b_Md_isPassword 65 = .ok (.invokevirtual 321, 3) := by decide +kernel
theorem d_Md_isPassword_68 : decode b_Md_isPassword 68 = .ok (.bipush 16, 2) := by decide +kernel
theorem d_Md_isPassword_70 : decode b_Md_isPassword 70 = .ok (.iload 6, 2) := by decide +kernel
theorem d_Md_isPassword_72 : decode b_Md_isPassword 72 = .ok (.imul, 1) := by decide +kernel
theorem d_Md_isPassword_73 : decode b_Md_isPassword 73 = .ok (.istore 7, 2) := by decide +kernel
theorem d_Md_isPassword_75 : decode b_Md_isPassword 75 = .ok (.iload 7, 2) := by decide +kernel
theorem d_Md_isPassword_77 : decode b_Md_isPassword 77 = .ok (.bipush 16, 2) := by decide +kernel
theorem d_Md_isPassword_79 : decode b_Md_isPassword 79 = .ok (.iload 6, 2) := by decide +kernel
theorem d_Md_isPassword_81 : decode b_Md_isPassword 81 = .ok (.imul, 1) := by decide +kernel
theorem d_Md_isPassword_82 : decode b_Md_isPassword 82 = .ok (.bipush 16, 2) := by decide +kernel
theorem d_Md_isPassword_84 : decode b_Md_isPassword 84 = .ok (.iadd, 1) := by decide +kernel
theorem d_Md_isPassword_85 : decode b_Md_isPassword 85 = .ok (.if_icmp .ge 75, 3) := by decide +kernel
theorem d_Md_isPassword_88 : decode b_Md_isPassword 88 = .ok (.iload 7, 2) := by decide +kernel
theorem d_Md_isPassword_90 : decode b_Md_isPassword 90 = .ok (.aload_n 0, 1) := by decide +kernel
theorem d_Md_isPassword_91 : decode b_Md_isPassword 91 = .ok (.getfield 151, 3) := by decide +kernel
theorem d_Md_isPassword_94 : decode b_Md_isPassword 94 = .ok (.iload_n 2, 1) := by decide +kernel
theorem d_Md_isPassword_95 : decode b_Md_isPassword 95 = .ok (.iaload, 1) := by decide +kernel
theorem d_Md_isPassword_96 : decode b_Md_isPassword 96 = .ok (.if_icmp .ge 18, 3) := by decide +kernel
theorem d_Md_isPassword_114 : decode b_Md_isPassword 114 = .ok (.iconst 0, 1) := by decide +kernel
theorem d_Md_isPassword_115 : decode b_Md_isPassword 115 = .ok (.istore 8, 2) := by decide +kernel
theorem d_Md_isPassword_117 : decode b_Md_isPassword 117 = .ok (.iload 5, 2) := by decide +kernel
theorem d_Md_isPassword_119 : decode b_Md_isPassword 119 = .ok (.ifCond .eq 32, 3) := by decide +kernel
theorem d_Md_isPassword_151 : decode b_Md_isPassword 151 = .ok (.iconst 0, 1) := by decide +kernel
theorem d_Md_isPassword_152 : decode b_Md_isPassword 152 = .ok (.istore 5, 2) := by decide +kernel
theorem d_Md_isPassword_154 : decode b_Md_isPassword 154 = .ok (.iinc 7 1, 3) := by decide +kernel
theorem d_Md_isPassword_157 : decode b_Md_isPassword 157 = .ok (.goto (-82), 3) := by decide +kernel
theorem d_Md_isPassword_122 : decode b_Md_isPassword 122 = .ok (.aload_n 0, 1) := by decide +kernel
theorem d_Md_isPassword_123 : decode b_Md_isPassword 123 = .ok (.getfield 154, 3) := by decide +kernel
theorem d_Md_isPassword_126 : decode b_Md_isPassword 126 = .ok (.iload_n 3, 1) := by decide +kernel
theorem d_Md_isPassword_127 : decode b_Md_isPassword 127 = .ok (.iload 7, 2) := by decide +kernel
theorem d_Md_isPassword_129 : decode b_Md_isPassword 129 = .ok (.iadd, 1) := by decide +kernel
theorem d_Md_isPassword_130 : decode b_Md_isPassword 130 = .ok (.iaload, 1) := by decide +kernel
theorem d_Md_isPassword_131 : decode b_Md_isPassword 131 = .ok (.aload_n 0, 1) := by decide +kernel
theorem d_Md_isPassword_132 : decode b_Md_isPassword 132 = .ok (.getfield 160, 3) := by decide +kernel
theorem d_Md_isPassword_135 : decode b_Md_isPassword 135 = .ok (.iload 7, 2) := by decide +kernel
theorem d_Md_isPassword_137 : decode b_Md_isPassword 137 = .ok (.bipush 16, 2) := by decide +kernel
theorem d_Md_isPassword_139 : decode b_Md_isPassword 139 = .ok (.irem, 1) := by decide +kernel
theorem d_Md_isPassword_140 : decode b_Md_isPassword 140 = .ok (.iaload, 1) := by decide +kernel
theorem d_Md_isPassword_141 : decode b_Md_isPassword 141 = .ok (.ixor, 1) := by decide +kernel
theorem d_Md_isPassword_142 : decode b_Md_isPassword 142 = .ok (.iload 8, 2) := by decide +kernel
theorem d_Md_isPassword_144 : decode b_Md_isPassword 144 = .ok (.if_icmp .ne 7, 3) := by decide +kernel
theorem d_Md_isPassword_147 : decode b_Md_isPassword 147 = .ok (.iconst 1, 1) := by decide +kernel
theorem d_Md_isPassword_148 : decode b_Md_isPassword 148 = .ok (.goto 4, 3) := by decide +kernel
theorem d_Md_isPassword_99 : decode b_Md_isPassword 99 = .ok (.aload_n 0, 1) := by decide +kernel
theorem d_Md_isPassword_100 : decode b_Md_isPassword 100 = .ok (.getfield 148, 3) := by decide +kernel
theorem d_Md_isPassword_103 : decode b_Md_isPassword 103 = .ok (.bipush 60, 2) := by decide +kernel
theorem d_Md_isPassword_105 : decode b_Md_isPassword 105 = .ok (.iload_n 2, 1) := by decide +kernel
theorem d_Md_isPassword_106 : decode b_Md_isPassword 106 = .ok (.imul, 1) := by decide +kernel
theorem d_Md_isPassword_107 : decode b_Md_isPassword 107 = .ok (.iload 7, 2) := by decide +kernel
theorem d_Md_isPassword_109 : decode b_Md_isPassword 109 = .ok (.iadd, 1) := by decide +kernel
theorem d_Md_isPassword_110 : decode b_Md_isPassword 110 = .ok (.iaload, 1) := by decide +kernel
theorem d_Md_isPassword_111 : decode b_Md_isPassword 111 = .ok (.goto 4, 3) := by decide +kernel
theorem d_Md_isPassword_160 : decode b_Md_isPassword 160 = .ok (.iinc 6 1, 3) := by decide +kernel
theorem d_Md_isPassword_163 : decode b_Md_isPassword 163 = .ok (.goto (-129), 3) := by decide +kernel
theorem d_Md_isPassword_51 : decode b_Md_isPassword 51 = .ok (.iconst 4, 1) := by decide +kernel
theorem d_Md_isPassword_52 : decode b_Md_isPassword 52 = .ok (.goto 13, 3) := by decide +kernel
theorem d_Md_isPassword_166 : decode b_Md_isPassword 166 = .ok (.iload 5, 2) := by decide +kernel
theorem d_Md_isPassword_168 : decode b_Md_isPassword 168 = .ok (.ireturn, 1) := by decide +kernel
theorem d_Md_isPassword_24 : decode b_Md_isPassword 24 = .ok (.iconst 1, 1) := by decide +kernel
theorem d_Md_isPassword_25 : decode b_Md_isPassword 25 = .ok (.goto 4, 3) := by decide +kernel
theorem d_Md_dropTrial_0 : decode b_Md_dropTrial 0 = .ok (.iload_n 1, 1) := by decide +kernel
theorem d_Md_dropTrial_1 : decode b_Md_dropTrial 1 = .ok (.iconst 1, 1) := by decide +kernel
theorem d_Md_dropTrial_2 : decode b_Md_dropTrial 2 = .ok (.iadd, 1) := by decide +kernel
theorem d_Md_dropTrial_3 : decode b_Md_dropTrial 3 = .ok (.istore_n 2, 1) := by decide +kernel
theorem d_Md_dropTrial_4 : decode b_Md_dropTrial 4 = .ok (.iload_n 2, 1) := by decide +kernel
theorem d_Md_dropTrial_5 : decode b_Md_dropTrial 5 = .ok (.aload_n 0, 1) := by decide +kernel
theorem d_Md_dropTrial_6 : decode b_Md_dropTrial 6 = .ok (.getfield 427, 3) := by decide +kernel
theorem d_Md_dropTrial_9 : decode b_Md_dropTrial 9 = .ok (.if_icmp .ge 118, 3) := by decide +kernel
theorem d_Md_dropTrial_12 : decode b_Md_dropTrial 12 = .ok (.aload_n 0, 1) := by decide +kernel
theorem d_Md_dropTrial_13 : decode b_Md_dropTrial 13 = .ok (.getfield 190, 3) := by decide +kernel
theorem d_Md_dropTrial_16 : decode b_Md_dropTrial 16 = .ok (.iload_n 2, 1) := by decide +kernel
theorem d_Md_dropTrial_17 : decode b_Md_dropTrial 17 = .ok (.iconst 1, 1) := by decide +kernel
theorem d_Md_dropTrial_18 : decode b_Md_dropTrial 18 = .ok (.isub, 1) := by decide +kernel
theorem d_Md_dropTrial_19 : decode b_Md_dropTrial 19 = .ok (.aload_n 0, 1) := by decide +kernel
theorem d_Md_dropTrial_20 : decode b_Md_dropTrial 20 = .ok (.getfield 190, 3) := by decide +kernel
theorem d_Md_dropTrial_23 : decode b_Md_dropTrial 23 = .ok (.iload_n 2, 1) := by decide +kernel
theorem d_Md_dropTrial_24 : decode b_Md_dropTrial 24 = .ok (.laload, 1) := by decide +kernel
theorem d_Md_dropTrial_25 : decode b_Md_dropTrial 25 = .ok (.lastore, 1) := by decide +kernel
theorem d_Md_dropTrial_26 : decode b_Md_dropTrial 26 = .ok (.aload_n 0, 1) := by decide +kernel
theorem d_Md_dropTrial_27 : decode b_Md_dropTrial 27 = .ok (.getfield 193, 3) := by decide +kernel
theorem d_Md_dropTrial_30 : decode b_Md_dropTrial 30 = .ok (.iload_n 2, 1) := by decide +kernel
theorem d_Md_dropTrial_31 : decode b_Md_dropTrial 31 = .ok (.iconst 1, 1) := by decide +kernel
theorem d_Md_dropTrial_32 : decode b_Md_dropTrial 32 = .ok (.isub, 1) := by decide +kernel
theorem d_Md_dropTrial_33 : decode b_Md_dropTrial 33 = .ok (.aload_n 0, 1) := by decide +kernel
theorem d_Md_dropTrial_34 : decode b_Md_dropTrial 34 = .ok (.getfield 193, 3) := by decide +kernel
theorem d_Md_dropTrial_37 : decode b_Md_dropTrial 37 = .ok (.iload_n 2, 1) := by decide +kernel
theorem d_Md_dropTrial_38 : decode b_Md_dropTrial 38 = .ok (.iaload, 1) := by decide +kernel
theorem d_Md_dropTrial_39 : decode b_Md_dropTrial 39 = .ok (.iastore, 1) := by decide +kernel
theorem d_Md_dropTrial_40 : decode b_Md_dropTrial 40 = .ok (.aload_n 0, 1) := by decide +kernel
theorem d_Md_dropTrial_41 : decode b_Md_dropTrial 41 = .ok (.getfield 196, 3) := by decide +kernel
theorem d_Md_dropTrial_44 : decode b_Md_dropTrial 44 = .ok (.iload_n 2, 1) := by decide +kernel
theorem d_Md_dropTrial_45 : decode b_Md_dropTrial 45 = .ok (.iconst 1, 1) := by decide +kernel
theorem d_Md_dropTrial_46 : decode b_Md_dropTrial 46 = .ok (.isub, 1) := by decide +kernel
theorem d_Md_dropTrial_47 : decode b_Md_dropTrial 47 = .ok (.aload_n 0, 1) := by decide +kernel
theorem d_Md_dropTrial_48 : decode b_Md_dropTrial 48 = .ok (.getfield 196, 3) := by decide +kernel
theorem d_Md_dropTrial_51 : decode b_Md_dropTrial 51 = .ok (.iload_n 2, 1) := by decide +kernel
theorem d_Md_dropTrial_52 : decode b_Md_dropTrial 52 = .ok (.iaload, 1) := by decide +kernel
theorem d_Md_dropTrial_53 : decode b_Md_dropTrial 53 = .ok (.iastore, 1) := by decide +kernel
theorem d_Md_dropTrial_54 : decode b_Md_dropTrial 54 = .ok (.aload_n 0, 1) := by decide +kernel
theorem d_Md_dropTrial_55 : decode b_Md_dropTrial 55 = .ok (.getfield 199, 3) := by decide +kernel
theorem d_Md_dropTrial_58 : decode b_Md_dropTrial 58 = .ok (.iload_n 2, 1) := by decide +kernel
theorem d_Md_dropTrial_59 : decode b_Md_dropTrial 59 = .ok (.iconst 1, 1) := by decide +kernel
theorem d_Md_dropTrial_60 : decode b_Md_dropTrial 60 = .ok (.isub, 1) := by decide +kernel
theorem d_Md_dropTrial_61 : decode b_Md_dropTrial 61 = .ok (.aload_n 0, 1) := by decide +kernel
theorem d_Md_dropTrial_62 : decode b_Md_dropTrial 62 = .ok (.getfield 199, 3) := by decide +kernel
theorem d_Md_dropTrial_65 : decode b_Md_dropTrial 65 = .ok (.iload_n 2, 1) := by decide +kernel
theorem d_Md_dropTrial_66 : decode b_Md_dropTrial 66 = .ok (.iaload, 1) := by decide +kernel
theorem d_Md_dropTrial_67 : decode b_Md_dropTrial 67 = .ok (.iastore, 1) := by decide +kernel
theorem d_Md_dropTrial_68 : decode b_Md_dropTrial 68 = .ok (.aload_n 0, 1) := by decide +kernel
theorem d_Md_dropTrial_69 : decode b_Md_dropTrial 69 = .ok (.getfield 202, 3) := by decide +kernel
theorem d_Md_dropTrial_72 : decode b_Md_dropTrial 72 = .ok (.iload_n 2, 1) := by decide +kernel
theorem d_Md_dropTrial_73 : decode b_Md_dropTrial 73 = .ok (.iconst 1, 1) := by decide +kernel
theorem d_Md_dropTrial_74 : decode b_Md_dropTrial 74 = .ok (.isub, 1) := by decide +kernel
theorem d_Md_dropTrial_75 : decode b_Md_dropTrial 75 = .ok (.aload_n 0, 1) := by decide +kernel
theorem d_Md_dropTrial_76 : decode b_Md_dropTrial 76 = .ok (.getfield 202, 3) := by decide +kernel
theorem d_Md_dropTrial_79 : decode b_Md_dropTrial 79 = .ok (.iload_n 2, 1) := by decide +kernel
theorem d_Md_dropTrial_80 : decode b_Md_dropTrial 80 = .ok (.iaload, 1) := by decide +kernel
theorem d_Md_dropTrial_81 : decode b_Md_dropTrial 81 = .ok (.iastore, 1) := by decide +kernel
theorem d_Md_dropTrial_82 : decode b_Md_dropTrial 82 = .ok (.iconst 0, 1) := by decide +kernel
theorem d_Md_dropTrial_83 : decode b_Md_dropTrial 83 = .ok (.istore_n 3, 1) := by decide +kernel
theorem d_Md_dropTrial_84 : decode b_Md_dropTrial 84 = .ok (.iload_n 3, 1) := by decide +kernel
theorem d_Md_dropTrial_85 : decode b_Md_dropTrial 85 = .ok (.bipush 16, 2) := by decide +kernel
theorem d_Md_dropTrial_87 : decode b_Md_dropTrial 87 = .ok (.if_icmp .ge 34, 3) := by decide +kernel
theorem d_Md_dropTrial_90 : decode b_Md_dropTrial 90 = .ok (.aload_n 0, 1) := by decide +kernel
theorem d_Md_dropTrial_91 : decode b_Md_dropTrial 91 = .ok (.getfield 205, 3) := by decide +kernel
theorem d_Md_dropTrial_94 : decode b_Md_dropTrial 94 = .ok (.bipush 16, 2) := by decide +kernel
theorem d_Md_dropTrial_96 : decode b_Md_dropTrial 96 = .ok (.iload_n 2, 1) := by decide +kernel
theorem d_Md_dropTrial_97 : decode b_Md_dropTrial 97 = .ok (.imul, 1) := by decide +kernel
theorem d_Md_dropTrial_98 : decode b_Md_dropTrial 98 = .ok (.bipush 16, 2) := by decide +kernel
theorem d_Md_dropTrial_100 : decode b_Md_dropTrial 100 = .ok (.isub, 1) := by decide +kernel
theorem d_Md_dropTrial_101 : decode b_Md_dropTrial 101 = .ok (.iload_n 3, 1) := by decide +kernel
theorem d_Md_dropTrial_102 : decode b_Md_dropTrial 102 = .ok (.iadd, 1) := by decide +kernel
theorem d_Md_dropTrial_103 : decode b_Md_dropTrial 103 = .ok (.aload_n 0, 1) := by decide +kernel
theorem d_Md_dropTrial_104 : decode b_Md_dropTrial 104 = .ok (.getfield 205, 3) := by decide +kernel
theorem d_Md_dropTrial_107 : decode b_Md_dropTrial 107 = .ok (.bipush 16, 2) := by decide +kernel
theorem d_Md_dropTrial_109 : decode b_Md_dropTrial 109 = .ok (.iload_n 2, 1) := by decide +kernel
theorem d_Md_dropTrial_110 : decode b_Md_dropTrial 110 = .ok (.imul, 1) := by decide +kernel
theorem d_Md_dropTrial_111 : decode b_Md_dropTrial 111 = .ok (.iload_n 3, 1) := by decide +kernel
theorem d_Md_dropTrial_112 : decode b_Md_dropTrial 112 = .ok (.iadd, 1) := by decide +kernel
theorem d_Md_dropTrial_113 : decode b_Md_dropTrial 113 = .ok (.iaload, 1) := by decide +kernel
theorem d_Md_dropTrial_114 : decode b_Md_dropTrial 114 = .ok (.iastore, 1) := by decide +kernel
theorem d_Md_dropTrial_115 : decode b_Md_dropTrial 115 = .ok (.iinc 3 1, 3) := by decide +kernel
theorem d_Md_dropTrial_118 : decode b_Md_dropTrial 118 = .ok (.goto (-34), 3) := by decide +kernel
theorem d_Md_dropTrial_121 : decode b_Md_dropTrial 121 = .ok (.iinc 2 1, 3) := by decide +kernel
theorem d_Md_dropTrial_124 : decode b_Md_dropTrial 124 = .ok (.goto (-120), 3) := by decide +kernel
theorem d_Md_dropTrial_127 : decode b_Md_dropTrial 127 = .ok (.aload_n 0, 1) := by decide +kernel
theorem d_Md_dropTrial_128 : decode b_Md_dropTrial 128 = .ok (.dup, 1) := by decide +kernel
theorem d_Md_dropTrial_129 : decode b_Md_dropTrial 129 = .ok (.getfield 427, 3) := by decide +kernel
theorem d_Md_dropTrial_132 : decode b_Md_dropTrial 132 = .ok (.iconst 1, 1) := by decide +kernel
theorem d_Md_dropTrial_133 : decode b_Md_dropTrial 133 = .ok (.isub, 1) := by decide +kernel
theorem d_Md_dropTrial_134 : decode b_Md_dropTrial 134 = .ok (.putfield 427, 3) := by decide +kernel
theorem d_Md_dropTrial_137 : decode b_Md_dropTrial 137 = .ok (.return_, 1) := by decide +kernel
theorem d_Md_challenge_0 : decode b_Md_challenge 0 = .ok (.aload_n 0, 1) := by decide +kernel
theorem d_Md_challenge_1 : decode b_Md_challenge 1 = .ok (.getfield 427, 3) := by decide +kernel
theorem d_Md_challenge_4 : decode b_Md_challenge 4 = .ok (.bipush 6, 2) := by decide +kernel
theorem d_Md_challenge_6 : decode b_Md_challenge 6 = .ok (.if_icmp .ne 8, 3) := by decide +kernel
theorem d_Md_challenge_14 : decode b_Md_challenge 14 = .ok (.aload_n 0, 1) := by decide +kernel
theorem d_Md_challenge_15 : decode b_Md_challenge 15 = .ok (.dup, 1) := by decide +kernel
theorem d_Md_challenge_16 : decode b_Md_challenge 16 = .ok (.getfield 433, 3) := by decide +kernel
theorem d_Md_challenge_19 : decode b_Md_challenge 19 = .ok (.lconst 1, 1) := by decide +kernel
theorem d_Md_challenge_20 : decode b_Md_challenge 20 = .ok (.ladd, 1) := by decide +kernel
theorem d_Md_challenge_21 : decode b_Md_challenge 21 = .ok (.putfield 433, 3) := by decide +kernel
theorem d_Md_challenge_24 : decode b_Md_challenge 24 = .ok (.aload_n 0, 1) := by decide +kernel
theorem d_Md_challenge_25 : decode b_Md_challenge 25 = .ok (.getfield 190, 3) := by decide +kernel
theorem d_Md_challenge_28 : decode b_Md_challenge 28 = .ok (.aload_n 0, 1) := by decide +kernel
theorem d_Md_challenge_29 : decode b_Md_challenge 29 = .ok (.getfield 427, 3) := by decide +kernel
theorem d_Md_challenge_32 : decode b_Md_challenge 32 = .ok (.aload_n 0, 1) := by decide +kernel
theorem d_Md_challenge_33 : decode b_Md_challenge 33 = .ok (.getfield 433, 3) := by decide +kernel
theorem d_Md_challenge_36 : decode b_Md_challenge 36 = .ok (.lastore, 1) := by decide +kernel
theorem d_Md_challenge_37 : decode b_Md_challenge 37 = .ok (.aload_n 0, 1) := by decide +kernel
theorem d_Md_challenge_38 : decode b_Md_challenge 38 = .ok (.getfield 193, 3) := by decide +kernel
theorem d_Md_challenge_41 : decode b_Md_challenge 41 = .ok (.aload_n 0, 1) := by decide +kernel
theorem d_Md_challenge_42 : decode b_Md_challenge 42 = .ok (.getfield 427, 3) := by decide +kernel
theorem d_Md_challenge_45 : decode b_Md_challenge 45 = .ok (.iload_n 1, 1) := by decide +kernel
theorem d_Md_challenge_46 : decode b_Md_challenge 46 = .ok (.iastore, 1) := by decide +kernel
theorem d_Md_challenge_47 : decode b_Md_challenge 47 = .ok (.aload_n 0, 1) := by decide +kernel
theorem d_Md_challenge_48 : decode b_Md_challenge 48 = .ok (.getfield 196, 3) := by decide +kernel
theorem d_Md_challenge_51 : decode b_Md_challenge 51 = .ok (.aload_n 0, 1) := by decide +kernel
theorem d_Md_challenge_52 : decode b_Md_challenge 52 = .ok (.getfield 427, 3) := by decide +kernel
theorem d_Md_challenge_55 : decode b_Md_challenge 55 = .ok (.iload_n 2, 1) := by decide +kernel
theorem d_Md_challenge_56 : decode b_Md_challenge 56 = .ok (.iastore, 1) := by decide +kernel
theorem d_Md_challenge_57 : decode b_Md_challenge 57 = .ok (.aload_n 0, 1) := by decide +kernel
theorem d_Md_challenge_58 : decode b_Md_challenge 58 = .ok (.getfield 199, 3) := by decide +kernel
theorem d_Md_challenge_61 : decode b_Md_challenge 61 = .ok (.aload_n 0, 1) := by decide +kernel
theorem d_Md_challenge_62 : decode b_Md_challenge 62 = .ok (.getfield 427, 3) := by decide +kernel
theorem d_Md_challenge_65 : decode b_Md_challenge 65 = .ok (.iload_n 3, 1) := by decide +kernel
theorem d_Md_challenge_66 : decode b_Md_challenge 66 = .ok (.iastore, 1) := by decide +kernel
theorem d_Md_challenge_67 : decode b_Md_challenge 67 = .ok (.aload_n 0, 1) := by decide +kernel
theorem d_Md_challenge_68 : decode b_Md_challenge 68 = .ok (.getfield 202, 3) := by decide +kernel
theorem d_Md_challenge_71 : decode b_Md_challenge 71 = .ok (.aload_n 0, 1) := by decide +kernel
theorem d_Md_challenge_72 : decode b_Md_challenge 72 = .ok (.getfield 427, 3) := by decide +kernel
theorem d_Md_challenge_75 : decode b_Md_challenge 75 = .ok (.aload_n 0, 1) := by decide +kernel
theorem d_Md_challenge_76 : decode b_Md_challenge 76 = .ok (.getfield 380, 3) := by decide +kernel
theorem d_Md_challenge_79 : decode b_Md_challenge 79 = .ok (.iastore, 1) := by decide +kernel
theorem d_Md_challenge_80 : decode b_Md_challenge 80 = .ok (.iconst 0, 1) := by decide +kernel
theorem d_Md_challenge_81 : decode b_Md_challenge 81 = .ok (.istore 4, 2) := by decide +kernel
theorem d_Md_challenge_83 : decode b_Md_challenge 83 = .ok (.iload 4, 2) := by decide +kernel
theorem d_Md_challenge_85 : decode b_Md_challenge 85 = .ok (.bipush 16, 2) := by decide +kernel
theorem d_Md_challenge_87 : decode b_Md_challenge 87 = .ok (.if_icmp .ge 48, 3) := by decide +kernel
theorem d_Md_challenge_90 : decode b_Md_challenge 90 = .ok (.aload_n 0, 1) := by decide +kernel
theorem d_Md_challenge_91 : decode b_Md_challenge 91 = .ok (.aload_n 0, 1) := by decide +kernel
theorem d_Md_challenge_92 : decode b_Md_challenge 92 = .ok (.getfield 208, 3) := by decide +kernel
theorem d_Md_challenge_95 : decode b_Md_challenge 95 = .ok (.ldc2_w 436, 3) := by decide +kernel
theorem d_Md_challenge_98 : decode b_Md_challenge 98 = .ok (.lmul, 1) := by decide +kernel
theorem d_Md_challenge_99 : decode b_Md_challenge 99 = .ok (.ldc2_w 438, 3) := by decide +kernel
theorem d_Md_challenge_102 : decode b_Md_challenge 102 = .ok (.ladd, 1) := by decide +kernel
theorem d_Md_challenge_103 : decode b_Md_challenge 103 = .ok (.putfield 208, 3) := by decide +kernel
theorem d_Md_challenge_106 : decode b_Md_challenge 106 = .ok (.aload_n 0, 1) := by decide +kernel
theorem d_Md_challenge_107 : decode b_Md_challenge 107 = .ok (.getfield 205, 3) := by decide +kernel
theorem d_Md_challenge_110 : decode b_Md_challenge 110 = .ok (.bipush 16, 2) := by decide +kernel
theorem d_Md_challenge_112 : decode b_Md_challenge 112 = .ok (.aload_n 0, 1) := by decide +kernel
theorem d_Md_challenge_113 : decode b_Md_challenge 113 = .ok (.getfield 427, 3) := by decide +kernel
theorem d_Md_challenge_116 : decode b_Md_challenge 116 = .ok (.imul, 1) := by decide +kernel
theorem d_Md_challenge_117 : decode b_Md_challenge 117 = .ok (.iload 4, 2) := by decide +kernel
theorem d_Md_challenge_119 : decode b_Md_challenge 119 = .ok (.iadd, 1) := by decide +kernel
theorem d_Md_challenge_120 : decode b_Md_challenge 120 = .ok (.aload_n 0, 1) := by decide +kernel
theorem d_Md_challenge_121 : decode b_Md_challenge 121 = .ok (.getfield 208, 3) := by decide +kernel
theorem d_Md_challenge_124 : decode b_Md_challenge 124 = .ok (.bipush 56, 2) := by decide +kernel
theorem d_Md_challenge_126 : decode b_Md_challenge 126 = .ok (.lushr, 1) := by decide +kernel
theorem d_Md_challenge_127 : decode b_Md_challenge 127 = .ok (.l2i, 1) := by decide +kernel
theorem d_Md_challenge_128 : decode b_Md_challenge 128 = .ok (.iastore, 1) := by decide +kernel
theorem d_Md_challenge_129 : decode b_Md_challenge 129 = .ok (.iinc 4 1, 3) := by decide +kernel
theorem d_Md_challenge_132 : decode b_Md_challenge 132 = .ok (.goto (-49), 3) := by decide +kernel
theorem d_Md_challenge_135 : decode b_Md_challenge 135 = .ok (.aload_n 0, 1) := by decide +kernel
theorem d_Md_challenge_136 : decode b_Md_challenge 136 = .ok (.bipush 11, 2) := by decide +kernel
theorem d_Md_challenge_138 : decode b_Md_challenge 138 = .ok (.invokevirtual 407, 3) := by decide +kernel
theorem d_Md_challenge_141 : decode b_Md_challenge 141 = .ok (.aload_n 0, 1) := by decide +kernel
theorem d_Md_challenge_142 : decode b_Md_challenge 142 = .ok (.bipush 24, 2) := by decide +kernel
theorem d_Md_challenge_144 : decode b_Md_challenge 144 = .ok (.invokevirtual 386, 3) := by decide +kernel
theorem d_Md_challenge_147 : decode b_Md_challenge 147 = .ok (.aload_n 0, 1) := by decide +kernel
theorem d_Md_challenge_148 : decode b_Md_challenge 148 = .ok (.bipush 10, 2) := by decide +kernel
theorem d_Md_challenge_150 : decode b_Md_challenge 150 = .ok (.invokevirtual 386, 3) := by decide +kernel
theorem d_Md_challenge_153 : decode b_Md_challenge 153 = .ok (.bipush 56, 2) := by decide +kernel
theorem d_Md_challenge_155 : decode b_Md_challenge 155 = .ok (.istore 4, 2) := by decide +kernel
theorem d_Md_challenge_157 : decode b_Md_challenge 157 = .ok (.iload 4, 2) := by decide +kernel
theorem d_Md_challenge_159 : decode b_Md_challenge 159 = .ok (.ifCond .lt 21, 3) := by decide +kernel
theorem d_Md_challenge_162 : decode b_Md_challenge 162 = .ok (.aload_n 0, 1) := by decide +kernel
theorem d_Md_challenge_163 : decode b_Md_challenge 163 = .ok (.aload_n 0, 1) := by decide +kernel
theorem d_Md_challenge_164 : decode b_Md_challenge 164 = .ok (.getfield 433, 3) := by decide +kernel
theorem d_Md_challenge_167 : decode b_Md_challenge 167 = .ok (.iload 4, 2) := by decide +kernel
theorem d_Md_challenge_169 : decode b_Md_challenge 169 = .ok (.lshr, 1) := by decide +kernel
theorem d_Md_challenge_170 : decode b_Md_challenge 170 = .ok (.l2i, 1) := by decide +kernel
theorem d_Md_challenge_171 : decode b_Md_challenge 171 = .ok (.invokevirtual 386, 3) := by decide +kernel
theorem d_Md_challenge_174 : decode b_Md_challenge 174 = .ok (.iinc 4 (-8), 3) := by decide +kernel
theorem d_Md_challenge_177 : decode b_Md_challenge 177 = .ok (.goto (-20), 3) := by decide +kernel
theorem d_Md_challenge_180 : decode b_Md_challenge 180 = .ok (.aload_n 0, 1) := by decide +kernel
theorem d_Md_challenge_181 : decode b_Md_challenge 181 = .ok (.bipush 79, 2) := by decide +kernel
theorem d_Md_challenge_183 : decode b_Md_challenge 183 = .ok (.invokevirtual 386, 3) := by decide +kernel
theorem d_Md_challenge_186 : decode b_Md_challenge 186 = .ok (.aload_n 0, 1) := by decide +kernel
theorem d_Md_challenge_187 : decode b_Md_challenge 187 = .ok (.bipush 24, 2) := by decide +kernel
theorem d_Md_challenge_189 : decode b_Md_challenge 189 = .ok (.invokevirtual 386, 3) := by decide +kernel
theorem d_Md_challenge_192 : decode b_Md_challenge 192 = .ok (.aload_n 0, 1) := by decide +kernel
theorem d_Md_challenge_193 : decode b_Md_challenge 193 = .ok (.iconst 1, 1) := by decide +kernel
theorem d_Md_challenge_194 : decode b_Md_challenge 194 = .ok (.invokevirtual 386, 3) := by decide +kernel
theorem d_Md_challenge_197 : decode b_Md_challenge 197 = .ok (.aload_n 0, 1) := by decide +kernel
theorem d_Md_challenge_198 : decode b_Md_challenge 198 = .ok (.iload_n 3, 1) := by decide +kernel
theorem d_Md_challenge_199 : decode b_Md_challenge 199 = .ok (.invokevirtual 386, 3) := by decide +kernel
theorem d_Md_challenge_202 : decode b_Md_challenge 202 = .ok (.aload_n 0, 1) := by decide +kernel
theorem d_Md_challenge_203 : decode b_Md_challenge 203 = .ok (.iconst 0, 1) := by decide +kernel
theorem d_Md_challenge_204 : decode b_Md_challenge 204 = .ok (.invokevirtual 386, 3) := by decide +kernel
theorem d_Md_challenge_207 : decode b_Md_challenge 207 = .ok (.aload_n 0, 1) := by decide +kernel
theorem d_Md_challenge_208 : decode b_Md_challenge 208 = .ok (.bipush 22, 2) := by decide +kernel
theorem d_Md_challenge_210 : decode b_Md_challenge 210 = .ok (.invokevirtual 386, 3) := by decide +kernel
theorem d_Md_challenge_213 : decode b_Md_challenge 213 = .ok (.aload_n 0, 1) := by decide +kernel
theorem d_Md_challenge_214 : decode b_Md_challenge 214 = .ok (.iconst 4, 1) := by decide +kernel
theorem d_Md_challenge_215 : decode b_Md_challenge 215 = .ok (.invokevirtual 386, 3) := by decide +kernel
theorem d_Md_challenge_218 : decode b_Md_challenge 218 = .ok (.aload_n 0, 1) := by decide +kernel
theorem d_Md_challenge_219 : decode b_Md_challenge 219 = .ok (.bipush 16, 2) := by decide +kernel
theorem d_Md_challenge_221 : decode b_Md_challenge 221 = .ok (.invokevirtual 386, 3) := by decide +kernel
theorem d_Md_challenge_224 : decode b_Md_challenge 224 = .ok (.iconst 0, 1) := by decide +kernel
theorem d_Md_challenge_225 : decode b_Md_challenge 225 = .ok (.istore 4, 2) := by decide +kernel
theorem d_Md_challenge_227 : decode b_Md_challenge 227 = .ok (.iload 4, 2) := by decide +kernel
theorem d_Md_challenge_229 : decode b_Md_challenge 229 = .ok (.bipush 16, 2) := by decide +kernel
theorem d_Md_challenge_231 : decode b_Md_challenge 231 = .ok (.if_icmp .ge 28, 3) := by decide +kernel
theorem d_Md_challenge_234 : decode b_Md_challenge 234 = .ok (.aload_n 0, 1) := by decide +kernel
theorem d_Md_challenge_235 : decode b_Md_challenge 235 = .ok (.aload_n 0, 1) := by decide +kernel
theorem d_Md_challenge_236 : decode b_Md_challenge 236 = .ok (.getfield 205, 3) := by decide +kernel
theorem d_Md_challenge_239 : decode b_Md_challenge 239 = .ok (.bipush 16, 2) := by decide +kernel
theorem d_Md_challenge_241 : decode b_Md_challenge 241 = .ok (.aload_n 0, 1) := by decide +kernel
theorem d_Md_challenge_242 : decode b_Md_challenge 242 = .ok (.getfield 427, 3) := by decide +kernel
theorem d_Md_challenge_245 : decode b_Md_challenge 245 = .ok (.imul, 1) := by decide +kernel
theorem d_Md_challenge_246 : decode b_Md_challenge 246 = .ok (.iload 4, 2) := by decide +kernel
theorem d_Md_challenge_248 : decode b_Md_challenge 248 = .ok (.iadd, 1) := by decide +kernel
theorem d_Md_challenge_249 : decode b_Md_challenge 249 = .ok (.iaload, 1) := by decide +kernel
theorem d_Md_challenge_250 : decode b_Md_challenge 250 = .ok (.invokevirtual 386, 3) := by decide +kernel
theorem d_Md_challenge_253 : decode b_Md_challenge 253 = .ok (.iinc 4 1, 3) := by decide +kernel
theorem d_Md_challenge_256 : decode b_Md_challenge 256 = .ok (.goto (-29), 3) := by decide +kernel
theorem d_Md_challenge_259 : decode b_Md_challenge 259 = .ok (.aload_n 0, 1) := by decide +kernel
theorem d_Md_challenge_260 : decode b_Md_challenge 260 = .ok (.dup, 1) := by decide +kernel
theorem d_Md_challenge_261 : decode b_Md_challenge 261 = .ok (.getfield 427, 3) := by decide +kernel
theorem d_Md_challenge_264 : decode b_Md_challenge 264 = .ok (.iconst 1, 1) := by decide +kernel
theorem d_Md_challenge_265 : decode b_Md_challenge 265 = .ok (.iadd, 1) := by decide +kernel
theorem d_Md_challenge_266 : decode b_Md_challenge 266 = .ok (.putfield 427, 3) := by decide +kernel
theorem d_Md_challenge_269 : decode b_Md_challenge 269 = .ok (.return_, 1) := by decide +kernel
theorem d_Md_challenge_9 : decode b_Md_challenge 9 = .ok (.aload_n 0, 1) := by decide +kernel
theorem d_Md_challenge_10 : decode b_Md_challenge 10 = .ok (.iconst 0, 1) := by decide +kernel
theorem d_Md_challenge_11 : decode b_Md_challenge 11 = .ok (.invokevirtual 430, 3) := by decide +kernel
set_option maxHeartbeats 4000000 in
set_option maxRecDepth 100000 in
/-- close -/
theorem m_close (l : Launch) (dC : Nat → ClassId) (dI : Nat → Nat → Nat) (cT : Nat → ClassId) (sz : Nat) (mo : Nat) (r : Nat → Nat) (cd : Int32) (tm : Int32) (sn : Nat) (tx : Nat) (lz : Nat) (az : Nat) (na : Nat) (nt : Nat) (nr : Nat) (mw : Int32) (ml : Int32) (mk : Int64) (dq : Int64) (f15 : Nat → Int32) (f9 : Nat → Int32) (f12 : Nat → Int32) (f3 : Nat → Int32) (f4 : Nat → Int32) (f0 : Nat → Int64) (f11 : Nat → Int32) (f13 : Nat → Int32) (f7 : Nat → Int32) (f18 : Nat → Int32) (f19 : Nat → Int32) (f20 : Nat → Int32) (f21 : Nat → Int32) (f22 : Nat → Int32) (f23 : Nat → Int32) (st : Nat) (sl : Nat) (hst : st < 4) (hfz : f4 st = nI sl) (hsl : sl ≤ 40) (haz : az ≤ 100) (hna : na ≤ 40) (h11 : AB f11) (h21 : BD 200 41 f21) : Met l y_Md_close (Cond.code y_Md_close b_Md_close 5 (Option.some Jvm.ClassFile.FieldType.int) :: BIG) ({ frames := 3, cells := 0, slots := 0, locals := 95 }) (va_Pc [.ref mo, .int (nI st)] (fun U => U.heap.size = sz ∧ va_P (dC, dI) vcl [(mo, .inr (12, mdG r cd tm (nI sn) (nI 0) (nI lz) (nI az) (nI na) (nI nt) (nI nr) mw ml mk dq)), (r 15, .inl ((cT 0), 200, .inl f15)), (r 9, .inl ((cT 0), 1400, .inl f9)), (r 12, .inl ((cT 0), 1200, .inl f12)), (r 3, .inl ((cT 0), 160, .inl f3)), (r 4, .inl ((cT 0), 4, .inl f4)), (r 0, .inl ((cT 1), 64, .inr (.inl f0))), (r 11, .inl ((cT 0), 16, .inl f11)), (r 13, .inl ((cT 0), 200, .inl f13)), (r 7, .inl ((cT 0), 1000, .inl f7)), (r 18, .inl ((cT 0), 41, .inl f18)), (r 19, .inl ((cT 0), 41, .inl f19)), (r 20, .inl ((cT 0), 41, .inl f20)), (r 21, .inl ((cT 0), 41, .inl f21)), (r 22, .inl ((cT 0), 8200, .inl f22)), (r 23, .inl ((cT 0), 656, .inl f23))] U.heap ∧ va_K (dC, dI) vcl (tyL cT) U ∧ va_D (fun _ => True) [(mo, .inr (12, mdG r cd tm (nI sn) (nI 0) (nI lz) (nI az) (nI na) (nI nt) (nI nr) mw ml mk dq)), (r 15, .inl ((cT 0), 200, .inl f15)), (r 9, .inl ((cT 0), 1400, .inl f9)), (r 12, .inl ((cT 0), 1200, .inl f12)), (r 3, .inl ((cT 0), 160, .inl f3)), (r 4, .inl ((cT 0), 4, .inl f4)), (r 0, .inl ((cT 1), 64, .inr (.inl f0))), (r 11, .inl ((cT 0), 16, .inl f11)), (r 13, .inl ((cT 0), 200, .inl f13)), (r 7, .inl ((cT 0), 1000, .inl f7)), (r 18, .inl ((cT 0), 41, .inl f18)), (r 19, .inl ((cT 0), 41, .inl f19)), (r 20, .inl ((cT 0), 41, .inl f20)), (r 21, .inl ((cT 0), 41, .inl f21)), (r 22, .inl ((cT 0), 8200, .inl f22)), (r 23, .inl ((cT 0), 656, .inl f23))])) (va_Qi (S := (Nat → Int32) × (Nat → Int32) × (Nat → Int32) × (Nat → Int32) × (Nat → Int32) × (Nat → Int32) × (Nat → Int32) × (Nat → Int32) × (Nat → Int32) × (Nat → Int32) × (Nat → Int32) × Nat × Nat × Nat × Int32) (fun rv9 u => match u with | (g15, g9, g12, g11, g13, g18, g19, g20, g21, g22, g23, az2, lz2, na2, mw2) => (az2 ≤ 200) ∧ (lz2 ≤ 200) ∧ (na2 ≤ 40) ∧ (AB g11) ∧ (BD 200 41 g21)) (fun u t => match u with | (g15, g9, g12, g11, g13, g18, g19, g20, g21, g22, g23, az2, lz2, na2, mw2) => va_P (dC, dI) vcl [(mo, .inr (12, mdG r cd tm (nI sn) (nI 0) (nI lz2) (nI az2) (nI na2) (nI nt) (nI nr) mw2 ml mk dq)), (r 15, .inl ((cT 0), 200, .inl g15)), (r 9, .inl ((cT 0), 1400, .inl g9)), (r 12, .inl ((cT 0), 1200, .inl g12)), (r 3, .inl ((cT 0), 160, .inl f3)), (r 4, .inl ((cT 0), 4, .inl f4)), (r 0, .inl ((cT 1), 64, .inr (.inl f0))), (r 11, .inl ((cT 0), 16, .inl g11)), (r 13, .inl ((cT 0), 200, .inl g13)), (r 7, .inl ((cT 0), 1000, .inl f7)), (r 18, .inl ((cT 0), 41, .inl g18)), (r 19, .inl ((cT 0), 41, .inl g19)), (r 20, .inl ((cT 0), 41, .inl g20)), (r 21, .inl ((cT 0), 41, .inl g21)), (r 22, .inl ((cT 0), 8200, .inl g22)), (r 23, .inl ((cT 0), 656, .inl g23))] t.heap ∧ va_K (dC, dI) vcl (tyL cT) t ∧ va_D (va_A [(mo, .inr (12, mdG r cd tm (nI sn) (nI 0) (nI lz) (nI az) (nI na) (nI nt) (nI nr) mw ml mk dq)), (r 15, .inl ((cT 0), 200, .inl f15)), (r 9, .inl ((cT 0), 1400, .inl f9)), (r 12, .inl ((cT 0), 1200, .inl f12)), (r 3, .inl ((cT 0), 160, .inl f3)), (r 4, .inl ((cT 0), 4, .inl f4)), (r 0, .inl ((cT 1), 64, .inr (.inl f0))), (r 11, .inl ((cT 0), 16, .inl f11)), (r 13, .inl ((cT 0), 200, .inl f13)), (r 7, .inl ((cT 0), 1000, .inl f7)), (r 18, .inl ((cT 0), 41, .inl f18)), (r 19, .inl ((cT 0), 41, .inl f19)), (r 20, .inl ((cT 0), 41, .inl f20)), (r 21, .inl ((cT 0), 41, .inl f21)), (r 22, .inl ((cT 0), 8200, .inl f22)), (r 23, .inl ((cT 0), 656, .inl f23))] sz) [(mo, .inr (12, mdG r cd tm (nI sn) (nI 0) (nI lz2) (nI az2) (nI na2) (nI nt) (nI nr) mw2 ml mk dq)), (r 15, .inl ((cT 0), 200, .inl g15)), (r 9, .inl ((cT 0), 1400, .inl g9)), (r 12, .inl ((cT 0), 1200, .inl g12)), (r 3, .inl ((cT 0), 160, .inl f3)), (r 4, .inl ((cT 0), 4, .inl f4)), (r 0, .inl ((cT 1), 64, .inr (.inl f0))), (r 11, .inl ((cT 0), 16, .inl g11)), (r 13, .inl ((cT 0), 200, .inl g13)), (r 7, .inl ((cT 0), 1000, .inl f7)), (r 18, .inl ((cT 0), 41, .inl g18)), (r 19, .inl ((cT 0), 41, .inl g19)), (r 20, .inl ((cT 0), 41, .inl g20)), (r 21, .inl ((cT 0), 41, .inl g21)), (r 22, .inl ((cT 0), 8200, .inl g22)), (r 23, .inl ((cT 0), 656, .inl g23))]) (va_A [(mo, .inr (12, mdG r cd tm (nI sn) (nI 0) (nI lz) (nI az) (nI na) (nI nt) (nI nr) mw ml mk dq)), (r 15, .inl ((cT 0), 200, .inl f15)), (r 9, .inl ((cT 0), 1400, .inl f9)), (r 12, .inl ((cT 0), 1200, .inl f12)), (r 3, .inl ((cT 0), 160, .inl f3)), (r 4, .inl ((cT 0), 4, .inl f4)), (r 0, .inl ((cT 1), 64, .inr (.inl f0))), (r 11, .inl ((cT 0), 16, .inl f11)), (r 13, .inl ((cT 0), 200, .inl f13)), (r 7, .inl ((cT 0), 1000, .inl f7)), (r 18, .inl ((cT 0), 41, .inl f18)), (r 19, .inl ((cT 0), 41, .inl f19)), (r 20, .inl ((cT 0), 41, .inl f20)), (r 21, .inl ((cT 0), 41, .inl f21)), (r 22, .inl ((cT 0), 8200, .inl f22)), (r 23, .inl ((cT 0), 656, .inl f23))] sz)) 0 0 (va_A [(mo, .inr (12, mdG r cd tm (nI sn) (nI 0) (nI lz) (nI az) (nI na) (nI nt) (nI nr) mw ml mk dq)), (r 15, .inl ((cT 0), 200, .inl f15)), (r 9, .inl ((cT 0), 1400, .inl f9)), (r 12, .inl ((cT 0), 1200, .inl f12)), (r 3, .inl ((cT 0), 160, .inl f3)), (r 4, .inl ((cT 0), 4, .inl f4)), (r 0, .inl ((cT 1), 64, .inr (.inl f0))), (r 11, .inl ((cT 0), 16, .inl f11)), (r 13, .inl ((cT 0), 200, .inl f13)), (r 7, .inl ((cT 0), 1000, .inl f7)), (r 18, .inl ((cT 0), 41, .inl f18)), (r 19, .inl ((cT 0), 41, .inl f19)), (r 20, .inl ((cT 0), 41, .inl f20)), (r 21, .inl ((cT 0), 41, .inl f21)), (r 22, .inl ((cT 0), 8200, .inl f22)), (r 23, .inl ((cT 0), 656, .inl f23))] sz) := by
  refine Met.ofW (cc := b_Md_close) (maxL := 5) (ret := (Option.some Jvm.ClassFile.FieldType.int)) (by decide) rfl ?_
  intro p e s m args below meth c s₁ B hml hv
  obtain ⟨hargs, hsz, hP, hK, hD0⟩ := hv
  have hx := B.exec
  have hb := B.bytes
  have hr := B.returns
  have hts := atoms_spec (ws := (Cond.code y_Md_close b_Md_close 5 (Option.some Jvm.ClassFile.FieldType.int) :: BIG)) B.pre
  have hg : ∀ w ∈ BIG, w.before _ s = true := fun w h => hts w (List.mem_cons_of_mem _ h)
  have hown : s.vm.findClass "DoorServerModel" = some m.cls := findClass_of_methodNamed B.named
  have hlocks := B.notSynchronized
  subst hsz
  have hD := hD0.self (sz := s.heap.size)
  generalize hAe : va_A [(mo, .inr (12, mdG r cd tm (nI sn) (nI 0) (nI lz) (nI az) (nI na) (nI nt) (nI nr) mw ml mk dq)), (r 15, .inl ((cT 0), 200, .inl f15)), (r 9, .inl ((cT 0), 1400, .inl f9)), (r 12, .inl ((cT 0), 1200, .inl f12)), (r 3, .inl ((cT 0), 160, .inl f3)), (r 4, .inl ((cT 0), 4, .inl f4)), (r 0, .inl ((cT 1), 64, .inr (.inl f0))), (r 11, .inl ((cT 0), 16, .inl f11)), (r 13, .inl ((cT 0), 200, .inl f13)), (r 7, .inl ((cT 0), 1000, .inl f7)), (r 18, .inl ((cT 0), 41, .inl f18)), (r 19, .inl ((cT 0), 41, .inl f19)), (r 20, .inl ((cT 0), 41, .inl f20)), (r 21, .inl ((cT 0), 41, .inl f21)), (r 22, .inl ((cT 0), 8200, .inl f22)), (r 23, .inl ((cT 0), 656, .inl f23))] s.heap.size = A at hD ⊢
  have hA : ∀ q : Nat, s.heap.size ≤ q → A q := fun q h => by rw [← hAe]; exact Or.inr h
  have hS : va_S A s.heap s.heap [] := va_S.rf
  have hl := lv_entry ([.ref mo, .int (nI st)]) (n := 5) (Nat.le_of_ble_eq_true rfl)
  refine W.eq (g2 := entryFrame m (List.toArray [.ref mo, .int (nI st)]) 5) (by rw [hargs]) ?_
  rw [lg_entry_eq]
  generalize (lg_sl ([.ref mo, .int (nI st)]) ++ List.replicate (5 - (lg_sl ([.ref mo, .int (nI st)])).length) Slot.unset).toArray = ls at hl ⊢
  have hl : lv_has ls 5 [(0, .ref mo), (1, .int (nI st))] := hl
  change W p l e ({ frames := 3, cells := 0, slots := 0, locals := 95 } : Room) s m args below meth c s.heap [] 0 0 _ _
  have hP : va_P (dC, dI) vcl [(mo, .inr (12, mdG r cd tm (nI sn) (nI 0) (nI lz) (nI az) (nI na) (nI nt) (nI nr) mw ml mk dq)), (r 15, .inl ((cT 0), 200, .inl f15)), (r 9, .inl ((cT 0), 1400, .inl f9)), (r 12, .inl ((cT 0), 1200, .inl f12)), (r 3, .inl ((cT 0), 160, .inl f3)), (r 4, .inl ((cT 0), 4, .inl f4)), (r 0, .inl ((cT 1), 64, .inr (.inl f0))), (r 11, .inl ((cT 0), 16, .inl f11)), (r 13, .inl ((cT 0), 200, .inl f13)), (r 7, .inl ((cT 0), 1000, .inl f7)), (r 18, .inl ((cT 0), 41, .inl f18)), (r 19, .inl ((cT 0), 41, .inl f19)), (r 20, .inl ((cT 0), 41, .inl f20)), (r 21, .inl ((cT 0), 41, .inl f21)), (r 22, .inl ((cT 0), 8200, .inl f22)), (r 23, .inl ((cT 0), 656, .inl f23))] s.heap := hP
  refine lv_aload_n hx hb d_Md_close_0 rfl (lv_at hl 0 rfl) ?_
  refine va_get (D := (dC, dI)) (ci := 12) (v := (.int (nI az))) (C := R_Md) (T := F_Md) (N := 45) hx hb hg in_Md hown hK hP 0 rfl rfl 16 (by decide) (hg _ k_1036) (fun _ h9 => h9) rfl d_Md_close_1 ?_
  refine lv_iconst (v := 2) hx hb d_Md_close_4 (by decide) ?_
  refine lv_iadd hx hb d_Md_close_5 ?_
  refine lv_topi (fun x2 e1 => ?_)
  obtain rfl : x2 = nI (az + 2) := by rw [e1]; exact nI_add az 2
  refine lv_istore_n (lv' := [(2, .int (nI (az + 2))), (0, .ref mo), (1, .int (nI st))]) hx hb d_Md_close_6 rfl hl (by decide) rfl (fun ls hl => ?_)
  refine lv_aload_n hx hb d_Md_close_7 rfl (lv_at hl 1 rfl) ?_
  refine va_get (D := (dC, dI)) (ci := 12) (v := (.ref (r 15))) (C := R_Md) (T := F_Md) (N := 45) hx hb hg in_Md hown hK hP 0 rfl rfl 15 (by decide) (hg _ k_1035) (fun _ h9 => h9) rfl d_Md_close_8 ?_
  refine lv_iconst (v := 0) hx hb d_Md_close_11 (by decide) ?_
  refine lv_topi (fun x4 e3 => ?_)
  obtain rfl : x4 = nI 0 := by rw [e3]; rfl
  refine va_iald hx hb hK hP 1 0 rfl rfl (i := (nI 0)) (vp_in_nI (N := 200) (by omega) (by decide)) d_Md_close_12 ?_
  refine lv_topi (fun x5 e_x5 => ?_)
  clear e_x5
  refine lv_iconst (v := 5) hx hb d_Md_close_13 (by decide) ?_
  refine lv_icmp_eq (tgt := 21) hx hb d_Md_close_14 (by decide) (fun hc6 => ?_) (fun hc6 => ?_)
  · skip
    refine lv_iconst (v := 0) hx hb d_Md_close_21 (by decide) ?_
    refine lv_istore_n (lv' := [(3, .int 0), (2, .int (nI (az + 2))), (0, .ref mo), (1, .int (nI st))]) hx hb d_Md_close_22 rfl hl (by decide) rfl (fun ls hl => ?_)
    refine lv_iload_n hx hb d_Md_close_23 rfl (lv_at hl 0 rfl) ?_
    refine lv_if_eq (tgt := 60) hx hb d_Md_close_24 (by decide) (fun hc7 => ?_) (fun hn9 => absurd (by decide) hn9)
    refine lv_aload_n hx hb d_Md_close_60 rfl (lv_at hl 2 rfl) ?_
    refine va_get (D := (dC, dI)) (ci := 12) (v := (.ref (r 15))) (C := R_Md) (T := F_Md) (N := 45) hx hb hg in_Md hown hK hP 0 rfl rfl 15 (by decide) (hg _ k_1035) (fun _ h9 => h9) rfl d_Md_close_61 ?_
    refine lv_iconst (v := 2) hx hb d_Md_close_64 (by decide) ?_
    refine lv_aload_n hx hb d_Md_close_65 rfl (lv_at hl 2 rfl) ?_
    refine va_get (D := (dC, dI)) (ci := 12) (v := (.int (nI az))) (C := R_Md) (T := F_Md) (N := 45) hx hb hg in_Md hown hK hP 0 rfl rfl 16 (by decide) (hg _ k_1036) (fun _ h9 => h9) rfl d_Md_close_66 ?_
    refine lv_sipush (v := 256) hx hb d_Md_close_69 (by decide) ?_
    refine lv_idiv hx hb d_Md_close_72 (by decide) ?_
    refine lv_topi (fun x9 e8 => ?_)
    obtain rfl : x9 = nI (az / 256) := by rw [e8]; exact pk_div (d := 256) (by omega) (by decide) (by decide)
    refine va_iast hx hb hK hP hD hS 1 0 rfl rfl (i := 2) (vp_in_nI (n := 2) (N := 200) (by omega) (by decide)) d_Md_close_73 (fun H locs hP hD hS => ?_)
    have ef10 : upd f15 (2 : Int32).toNatClampNeg (nI (az / 256)) = upd f15 2 (nI (az / 256)) := rfl
    rw [ef10] at hP hD
    have hP : va_P (dC, dI) vcl [(mo, .inr (12, mdG r cd tm (nI sn) (nI 0) (nI lz) (nI az) (nI na) (nI nt) (nI nr) mw ml mk dq)), (r 15, .inl ((cT 0), 200, .inl (upd f15 2 (nI (az / 256))))), (r 9, .inl ((cT 0), 1400, .inl f9)), (r 12, .inl ((cT 0), 1200, .inl f12)), (r 3, .inl ((cT 0), 160, .inl f3)), (r 4, .inl ((cT 0), 4, .inl f4)), (r 0, .inl ((cT 1), 64, .inr (.inl f0))), (r 11, .inl ((cT 0), 16, .inl f11)), (r 13, .inl ((cT 0), 200, .inl f13)), (r 7, .inl ((cT 0), 1000, .inl f7)), (r 18, .inl ((cT 0), 41, .inl f18)), (r 19, .inl ((cT 0), 41, .inl f19)), (r 20, .inl ((cT 0), 41, .inl f20)), (r 21, .inl ((cT 0), 41, .inl f21)), (r 22, .inl ((cT 0), 8200, .inl f22)), (r 23, .inl ((cT 0), 656, .inl f23))] H := hP
    have hD : va_D A [(mo, .inr (12, mdG r cd tm (nI sn) (nI 0) (nI lz) (nI az) (nI na) (nI nt) (nI nr) mw ml mk dq)), (r 15, .inl ((cT 0), 200, .inl (upd f15 2 (nI (az / 256))))), (r 9, .inl ((cT 0), 1400, .inl f9)), (r 12, .inl ((cT 0), 1200, .inl f12)), (r 3, .inl ((cT 0), 160, .inl f3)), (r 4, .inl ((cT 0), 4, .inl f4)), (r 0, .inl ((cT 1), 64, .inr (.inl f0))), (r 11, .inl ((cT 0), 16, .inl f11)), (r 13, .inl ((cT 0), 200, .inl f13)), (r 7, .inl ((cT 0), 1000, .inl f7)), (r 18, .inl ((cT 0), 41, .inl f18)), (r 19, .inl ((cT 0), 41, .inl f19)), (r 20, .inl ((cT 0), 41, .inl f20)), (r 21, .inl ((cT 0), 41, .inl f21)), (r 22, .inl ((cT 0), 8200, .inl f22)), (r 23, .inl ((cT 0), 656, .inl f23))] := hD
    refine lv_aload_n hx hb d_Md_close_74 rfl (lv_at hl 2 rfl) ?_
    refine va_get (D := (dC, dI)) (ci := 12) (v := (.ref (r 15))) (C := R_Md) (T := F_Md) (N := 45) hx hb hg in_Md hown hK hP 0 rfl rfl 15 (by decide) (hg _ k_1035) (fun _ h9 => h9) rfl d_Md_close_75 ?_
    refine lv_iconst (v := 3) hx hb d_Md_close_78 (by decide) ?_
    refine lv_aload_n hx hb d_Md_close_79 rfl (lv_at hl 2 rfl) ?_
    refine va_get (D := (dC, dI)) (ci := 12) (v := (.int (nI az))) (C := R_Md) (T := F_Md) (N := 45) hx hb hg in_Md hown hK hP 0 rfl rfl 16 (by decide) (hg _ k_1036) (fun _ h9 => h9) rfl d_Md_close_80 ?_
    refine lv_sipush (v := 256) hx hb d_Md_close_83 (by decide) ?_
    refine lv_irem hx hb d_Md_close_86 (by decide) ?_
    refine lv_topi (fun x12 e11 => ?_)
    obtain rfl : x12 = nI (az % 256) := by rw [e11]; exact pk_rem (d := 256) (by omega) (by decide) (by decide)
    refine va_iast hx hb hK hP hD hS 1 0 rfl rfl (i := 3) (vp_in_nI (n := 3) (N := 200) (by omega) (by decide)) d_Md_close_87 (fun H locs hP hD hS => ?_)
    have ef13 : upd (upd f15 2 (nI (az / 256))) (3 : Int32).toNatClampNeg (nI (az % 256)) = upd (upd f15 2 (nI (az / 256))) 3 (nI (az % 256)) := rfl
    rw [ef13] at hP hD
    have hP : va_P (dC, dI) vcl [(mo, .inr (12, mdG r cd tm (nI sn) (nI 0) (nI lz) (nI az) (nI na) (nI nt) (nI nr) mw ml mk dq)), (r 15, .inl ((cT 0), 200, .inl (upd (upd f15 2 (nI (az / 256))) 3 (nI (az % 256))))), (r 9, .inl ((cT 0), 1400, .inl f9)), (r 12, .inl ((cT 0), 1200, .inl f12)), (r 3, .inl ((cT 0), 160, .inl f3)), (r 4, .inl ((cT 0), 4, .inl f4)), (r 0, .inl ((cT 1), 64, .inr (.inl f0))), (r 11, .inl ((cT 0), 16, .inl f11)), (r 13, .inl ((cT 0), 200, .inl f13)), (r 7, .inl ((cT 0), 1000, .inl f7)), (r 18, .inl ((cT 0), 41, .inl f18)), (r 19, .inl ((cT 0), 41, .inl f19)), (r 20, .inl ((cT 0), 41, .inl f20)), (r 21, .inl ((cT 0), 41, .inl f21)), (r 22, .inl ((cT 0), 8200, .inl f22)), (r 23, .inl ((cT 0), 656, .inl f23))] H := hP
    have hD : va_D A [(mo, .inr (12, mdG r cd tm (nI sn) (nI 0) (nI lz) (nI az) (nI na) (nI nt) (nI nr) mw ml mk dq)), (r 15, .inl ((cT 0), 200, .inl (upd (upd f15 2 (nI (az / 256))) 3 (nI (az % 256))))), (r 9, .inl ((cT 0), 1400, .inl f9)), (r 12, .inl ((cT 0), 1200, .inl f12)), (r 3, .inl ((cT 0), 160, .inl f3)), (r 4, .inl ((cT 0), 4, .inl f4)), (r 0, .inl ((cT 1), 64, .inr (.inl f0))), (r 11, .inl ((cT 0), 16, .inl f11)), (r 13, .inl ((cT 0), 200, .inl f13)), (r 7, .inl ((cT 0), 1000, .inl f7)), (r 18, .inl ((cT 0), 41, .inl f18)), (r 19, .inl ((cT 0), 41, .inl f19)), (r 20, .inl ((cT 0), 41, .inl f20)), (r 21, .inl ((cT 0), 41, .inl f21)), (r 22, .inl ((cT 0), 8200, .inl f22)), (r 23, .inl ((cT 0), 656, .inl f23))] := hD
    refine lv_iload_n hx hb d_Md_close_88 rfl (lv_at hl 0 rfl) ?_
    refine lv_if_eq (tgt := 158) hx hb d_Md_close_89 (by decide) (fun hc14 => ?_) (fun hn9 => absurd (by decide) hn9)
    refine lv_iconst (v := 0) hx hb d_Md_close_158 (by decide) ?_
    refine lv_istore (lv' := [(4, .int 0), (3, .int 0), (2, .int (nI (az + 2))), (0, .ref mo), (1, .int (nI st))]) hx hb d_Md_close_159 hl (by decide) rfl (fun ls hl => ?_)
    have hl := lv_sub hl [0, 1, 2, 3, 4] (show _ = [(4, .int 0), (3, .int 0), (2, .int (nI (az + 2))), (0, .ref mo), (1, .int (nI st))] from rfl)
    have L16 : ∀ (Q : State → Prop) (exit : ∀ (g9_15 : Nat → Int32) (H : Heap) (locs : List Loc) (ls : Array Slot), va_P (dC, dI) vcl [(mo, .inr (12, mdG r cd tm (nI sn) (nI (az)) (nI lz) (nI az) (nI na) (nI nt) (nI nr) mw ml mk dq)), (r 15, .inl ((cT 0), 200, .inl (upd (upd f15 2 (nI (az / 256))) 3 (nI (az % 256))))), (r 9, .inl ((cT 0), 1400, .inl g9_15)), (r 12, .inl ((cT 0), 1200, .inl f12)), (r 3, .inl ((cT 0), 160, .inl f3)), (r 4, .inl ((cT 0), 4, .inl f4)), (r 0, .inl ((cT 1), 64, .inr (.inl f0))), (r 11, .inl ((cT 0), 16, .inl f11)), (r 13, .inl ((cT 0), 200, .inl f13)), (r 7, .inl ((cT 0), 1000, .inl f7)), (r 18, .inl ((cT 0), 41, .inl f18)), (r 19, .inl ((cT 0), 41, .inl f19)), (r 20, .inl ((cT 0), 41, .inl f20)), (r 21, .inl ((cT 0), 41, .inl f21)), (r 22, .inl ((cT 0), 8200, .inl f22)), (r 23, .inl ((cT 0), 656, .inl f23))] H → va_D A [(mo, .inr (12, mdG r cd tm (nI sn) (nI (az)) (nI lz) (nI az) (nI na) (nI nt) (nI nr) mw ml mk dq)), (r 15, .inl ((cT 0), 200, .inl (upd (upd f15 2 (nI (az / 256))) 3 (nI (az % 256))))), (r 9, .inl ((cT 0), 1400, .inl g9_15)), (r 12, .inl ((cT 0), 1200, .inl f12)), (r 3, .inl ((cT 0), 160, .inl f3)), (r 4, .inl ((cT 0), 4, .inl f4)), (r 0, .inl ((cT 1), 64, .inr (.inl f0))), (r 11, .inl ((cT 0), 16, .inl f11)), (r 13, .inl ((cT 0), 200, .inl f13)), (r 7, .inl ((cT 0), 1000, .inl f7)), (r 18, .inl ((cT 0), 41, .inl f18)), (r 19, .inl ((cT 0), 41, .inl f19)), (r 20, .inl ((cT 0), 41, .inl f20)), (r 21, .inl ((cT 0), 41, .inl f21)), (r 22, .inl ((cT 0), 8200, .inl f22)), (r 23, .inl ((cT 0), 656, .inl f23))] → va_S A s.heap H locs → lv_has ls 5 [(4, .int (nI az)), (3, .int 0), (2, .int (nI (az + 2))), (0, .ref mo), (1, .int (nI st))] → W p l e ({ frames := 3, cells := 0, slots := 0, locals := 95 } : Room) s m args below meth c H locs 0 0 Q (F0 m 187 ls [])) (j8 i : Nat) (g9_15 : Nat → Int32) (H : Heap) (locs : List Loc) (ls : Array Slot), i + j8 = az → va_P (dC, dI) vcl [(mo, .inr (12, mdG r cd tm (nI sn) (nI (i)) (nI lz) (nI az) (nI na) (nI nt) (nI nr) mw ml mk dq)), (r 15, .inl ((cT 0), 200, .inl (upd (upd f15 2 (nI (az / 256))) 3 (nI (az % 256))))), (r 9, .inl ((cT 0), 1400, .inl g9_15)), (r 12, .inl ((cT 0), 1200, .inl f12)), (r 3, .inl ((cT 0), 160, .inl f3)), (r 4, .inl ((cT 0), 4, .inl f4)), (r 0, .inl ((cT 1), 64, .inr (.inl f0))), (r 11, .inl ((cT 0), 16, .inl f11)), (r 13, .inl ((cT 0), 200, .inl f13)), (r 7, .inl ((cT 0), 1000, .inl f7)), (r 18, .inl ((cT 0), 41, .inl f18)), (r 19, .inl ((cT 0), 41, .inl f19)), (r 20, .inl ((cT 0), 41, .inl f20)), (r 21, .inl ((cT 0), 41, .inl f21)), (r 22, .inl ((cT 0), 8200, .inl f22)), (r 23, .inl ((cT 0), 656, .inl f23))] H → va_D A [(mo, .inr (12, mdG r cd tm (nI sn) (nI (i)) (nI lz) (nI az) (nI na) (nI nt) (nI nr) mw ml mk dq)), (r 15, .inl ((cT 0), 200, .inl (upd (upd f15 2 (nI (az / 256))) 3 (nI (az % 256))))), (r 9, .inl ((cT 0), 1400, .inl g9_15)), (r 12, .inl ((cT 0), 1200, .inl f12)), (r 3, .inl ((cT 0), 160, .inl f3)), (r 4, .inl ((cT 0), 4, .inl f4)), (r 0, .inl ((cT 1), 64, .inr (.inl f0))), (r 11, .inl ((cT 0), 16, .inl f11)), (r 13, .inl ((cT 0), 200, .inl f13)), (r 7, .inl ((cT 0), 1000, .inl f7)), (r 18, .inl ((cT 0), 41, .inl f18)), (r 19, .inl ((cT 0), 41, .inl f19)), (r 20, .inl ((cT 0), 41, .inl f20)), (r 21, .inl ((cT 0), 41, .inl f21)), (r 22, .inl ((cT 0), 8200, .inl f22)), (r 23, .inl ((cT 0), 656, .inl f23))] → va_S A s.heap H locs → lv_has ls 5 [(4, .int (nI i)), (3, .int 0), (2, .int (nI (az + 2))), (0, .ref mo), (1, .int (nI st))] → W p l e ({ frames := 3, cells := 0, slots := 0, locals := 95 } : Room) s m args below meth c H locs 0 0 Q (F0 m 161 ls []) := by
      intro Q exit j8
      induction j8 with
      | zero => 
        intro i g9_15 H locs ls hij  hP hD hS hl
        have hij : az = i := by omega
        refine lv_iload hx hb d_Md_close_161 (lv_at hl 0 rfl) ?_
        refine lv_aload_n hx hb d_Md_close_163 rfl (lv_at hl 3 rfl) ?_
        refine va_get (D := (dC, dI)) (ci := 12) (v := (.int (nI az))) (C := R_Md) (T := F_Md) (N := 45) hx hb hg in_Md hown hK hP 0 rfl rfl 16 (by decide) (hg _ k_1036) (fun _ h9 => h9) rfl d_Md_close_164 ?_
        refine lv_icmp_ge (tgt := 187) hx hb d_Md_close_167 (by decide) (fun hc17 => ?_) (fun hn9 => absurd (nI_le (by omega) (by omega)) hn9)
        subst hij
        exact exit g9_15 _ _ _  hP hD hS hl
      | succ j8 ih => 
        intro i g9_15 H locs ls hij  hP hD hS hl
        have hlt : i < az := by omega
        have hlti := hlt
        refine lv_iload hx hb d_Md_close_161 (lv_at hl 0 rfl) ?_
        refine lv_aload_n hx hb d_Md_close_163 rfl (lv_at hl 3 rfl) ?_
        refine va_get (D := (dC, dI)) (ci := 12) (v := (.int (nI az))) (C := R_Md) (T := F_Md) (N := 45) hx hb hg in_Md hown hK hP 0 rfl rfl 16 (by decide) (hg _ k_1036) (fun _ h9 => h9) rfl d_Md_close_164 ?_
        refine lv_icmp_ge (tgt := 187) hx hb d_Md_close_167 (by decide) (fun hn9 => absurd hn9 (nI_ge (by omega) (by omega))) (fun hc18 => ?_)
        refine lv_aload_n hx hb d_Md_close_170 rfl (lv_at hl 3 rfl) ?_
        refine lv_aload_n hx hb d_Md_close_171 rfl (lv_at hl 3 rfl) ?_
        refine va_get (D := (dC, dI)) (ci := 12) (v := (.ref (r 15))) (C := R_Md) (T := F_Md) (N := 45) hx hb hg in_Md hown hK hP 0 rfl rfl 15 (by decide) (hg _ k_1035) (fun _ h9 => h9) rfl d_Md_close_172 ?_
        refine lv_iload hx hb d_Md_close_175 (lv_at hl 0 rfl) ?_
        refine va_iald hx hb hK hP 1 0 rfl rfl (i := (nI i)) (vp_in_nI (N := 200) (by omega) (by decide)) d_Md_close_177 ?_
        refine lv_topi (fun x19 e_x19 => ?_)
        clear e_x19
        have hPc := hP.sub (ws' := [(mo, .inr (12, mdG r cd tm (nI sn) (nI i) (nI lz) (nI az) (nI na) (nI nt) (nI nr) mw ml mk dq)), (r 9, .inl ((cT 0), 1400, .inl g9_15))]) [0, 2] rfl
        have hDc := hD.sub (ws' := [(mo, .inr (12, mdG r cd tm (nI sn) (nI i) (nI lz) (nI az) (nI na) (nI nt) (nI nr) mw ml mk dq)), (r 9, .inl ((cT 0), 1400, .inl g9_15))]) [0, 2] (by decide) rfl
        have hFc := va_free (wc := [(mo, .inr (12, mdG r cd tm (nI sn) (nI i) (nI lz) (nI az) (nI na) (nI nt) (nI nr) mw ml mk dq)), (r 9, .inl ((cT 0), 1400, .inl g9_15))]) hD hS hA [0, 2] rfl
        refine va_callv (va_runV (C := "DoorServerModel") (As := [.int x19]) (rest := []) ⟨hx, hb, hml, hown, hg⟩ (m_say l dC dI cT H.size mo r cd tm sn i lz az na nt nr mw ml mk dq g9_15 x19 (by first | assumption | omega)) (cwV 1 hg (gI (List.forall_mem_append.mpr ⟨List.forall_mem_cons.mpr ⟨k_1220, List.forall_mem_cons.mpr ⟨k_1222, List.forall_mem_cons.mpr ⟨(big_sel (q := y_Md_say) (n := 45) (by decide +kernel)), List.forall_mem_cons.mpr ⟨k_13, fun _ h => absurd h List.not_mem_nil⟩⟩⟩⟩, List.forall_mem_cons.mpr ⟨k_1223, fun _ h => h⟩⟩)) rfl rfl rfl (by decide +kernel) ⟨Nat.le_of_ble_eq_true rfl, Nat.le_of_ble_eq_true rfl⟩) ⟨fun a U g mk q => by obtain ⟨q0, q1, qP, qK, qD⟩ := q; exact ⟨q0, q1, qP, va_K.moved (u := U) (U := U.calling g mk a) (Vm.Alike.refl U.vm) qK, qD⟩, va_recv (q0 := 0) (ci := 12) hK hP rfl rfl, fun U hU hW => ⟨rfl, by rw [hU], by rw [hU]; exact hPc, va_K.moved hW.alike hK, hDc.weaken (fun _ _ _ _ => trivial)⟩⟩ rfl rfl hl.1 rfl (lv_room (Nat.le_of_ble_eq_true rfl)) d_Md_close_178 ⟨Nat.le_of_ble_eq_true rfl, Nat.le_of_ble_eq_true rfl⟩) hS (fun q _ h => hFc q h) hFc (fun u t H1 locs ht hvm hw hB hz1 hk1 hS => ?_)
        obtain ⟨g9_20, rfl⟩ : ∃ z, z = u := ⟨_, rfl⟩
        try dsimp only at hw hB
        obtain ⟨hP1, hK1, hD1⟩ := hB
        rw [ht] at hP1
        obtain ⟨hP, hD⟩ := va_join (wr := [(r 15, .inl ((cT 0), 200, .inl (upd (upd f15 2 (nI (az / 256))) 3 (nI (az % 256))))), (r 12, .inl ((cT 0), 1200, .inl f12)), (r 3, .inl ((cT 0), 160, .inl f3)), (r 4, .inl ((cT 0), 4, .inl f4)), (r 0, .inl ((cT 1), 64, .inr (.inl f0))), (r 11, .inl ((cT 0), 16, .inl f11)), (r 13, .inl ((cT 0), 200, .inl f13)), (r 7, .inl ((cT 0), 1000, .inl f7)), (r 18, .inl ((cT 0), 41, .inl f18)), (r 19, .inl ((cT 0), 41, .inl f19)), (r 20, .inl ((cT 0), 41, .inl f20)), (r 21, .inl ((cT 0), 41, .inl f21)), (r 22, .inl ((cT 0), 8200, .inl f22)), (r 23, .inl ((cT 0), 656, .inl f23))]) (w1 := [(mo, .inr (12, mdG r cd tm (nI sn) (nI (i + 1)) (nI lz) (nI az) (nI na) (nI nt) (nI nr) mw ml mk dq)), (r 9, .inl ((cT 0), 1400, .inl g9_20))]) hP hD [0, 2] [1, 3, 4, 5, 6, 7, 8, 9, 10, 11, 12, 13, 14, 15] rfl rfl (by decide) (by decide) hk1 hFc hP1 hD1
        have hw21 := hw
        clear hPc hDc hFc hz1 hk1 hP1 hK1 hD1
        generalize H1 = H at hP hS ⊢
        have hP : va_P (dC, dI) vcl [(r 15, .inl ((cT 0), 200, .inl (upd (upd f15 2 (nI (az / 256))) 3 (nI (az % 256))))), (r 12, .inl ((cT 0), 1200, .inl f12)), (r 3, .inl ((cT 0), 160, .inl f3)), (r 4, .inl ((cT 0), 4, .inl f4)), (r 0, .inl ((cT 1), 64, .inr (.inl f0))), (r 11, .inl ((cT 0), 16, .inl f11)), (r 13, .inl ((cT 0), 200, .inl f13)), (r 7, .inl ((cT 0), 1000, .inl f7)), (r 18, .inl ((cT 0), 41, .inl f18)), (r 19, .inl ((cT 0), 41, .inl f19)), (r 20, .inl ((cT 0), 41, .inl f20)), (r 21, .inl ((cT 0), 41, .inl f21)), (r 22, .inl ((cT 0), 8200, .inl f22)), (r 23, .inl ((cT 0), 656, .inl f23)), (mo, .inr (12, mdG r cd tm (nI sn) (nI (i + 1)) (nI lz) (nI az) (nI na) (nI nt) (nI nr) mw ml mk dq)), (r 9, .inl ((cT 0), 1400, .inl g9_20))] H := hP
        have hD : va_D A [(r 15, .inl ((cT 0), 200, .inl (upd (upd f15 2 (nI (az / 256))) 3 (nI (az % 256))))), (r 12, .inl ((cT 0), 1200, .inl f12)), (r 3, .inl ((cT 0), 160, .inl f3)), (r 4, .inl ((cT 0), 4, .inl f4)), (r 0, .inl ((cT 1), 64, .inr (.inl f0))), (r 11, .inl ((cT 0), 16, .inl f11)), (r 13, .inl ((cT 0), 200, .inl f13)), (r 7, .inl ((cT 0), 1000, .inl f7)), (r 18, .inl ((cT 0), 41, .inl f18)), (r 19, .inl ((cT 0), 41, .inl f19)), (r 20, .inl ((cT 0), 41, .inl f20)), (r 21, .inl ((cT 0), 41, .inl f21)), (r 22, .inl ((cT 0), 8200, .inl f22)), (r 23, .inl ((cT 0), 656, .inl f23)), (mo, .inr (12, mdG r cd tm (nI sn) (nI (i + 1)) (nI lz) (nI az) (nI na) (nI nt) (nI nr) mw ml mk dq)), (r 9, .inl ((cT 0), 1400, .inl g9_20))] := hD
        refine lv_iinc (k := 0) (v := nI (i + 1)) (lv' := [(4, .int (nI (i + 1))), (3, .int 0), (2, .int (nI (az + 2))), (0, .ref mo), (1, .int (nI st))]) hx hb d_Md_close_181 hl rfl (nI_1 i) (by decide) rfl (fun ls hl => ?_)
        refine lv_goto (tgt := 161) hx hb d_Md_close_184 (by decide) ?_
        have hl := lv_sub hl [0, 1, 2, 3, 4] (show _ = [(4, .int (nI (i + 1))), (3, .int 0), (2, .int (nI (az + 2))), (0, .ref mo), (1, .int (nI st))] from rfl)
        have hP := hP.sub (ws' := [(mo, .inr (12, mdG r cd tm (nI sn) (nI (i + 1)) (nI lz) (nI az) (nI na) (nI nt) (nI nr) mw ml mk dq)), (r 15, .inl ((cT 0), 200, .inl (upd (upd f15 2 (nI (az / 256))) 3 (nI (az % 256))))), (r 9, .inl ((cT 0), 1400, .inl g9_20)), (r 12, .inl ((cT 0), 1200, .inl f12)), (r 3, .inl ((cT 0), 160, .inl f3)), (r 4, .inl ((cT 0), 4, .inl f4)), (r 0, .inl ((cT 1), 64, .inr (.inl f0))), (r 11, .inl ((cT 0), 16, .inl f11)), (r 13, .inl ((cT 0), 200, .inl f13)), (r 7, .inl ((cT 0), 1000, .inl f7)), (r 18, .inl ((cT 0), 41, .inl f18)), (r 19, .inl ((cT 0), 41, .inl f19)), (r 20, .inl ((cT 0), 41, .inl f20)), (r 21, .inl ((cT 0), 41, .inl f21)), (r 22, .inl ((cT 0), 8200, .inl f22)), (r 23, .inl ((cT 0), 656, .inl f23))]) [14, 0, 15, 1, 2, 3, 4, 5, 6, 7, 8, 9, 10, 11, 12, 13] rfl
        have hD := hD.sub (ws' := [(mo, .inr (12, mdG r cd tm (nI sn) (nI (i + 1)) (nI lz) (nI az) (nI na) (nI nt) (nI nr) mw ml mk dq)), (r 15, .inl ((cT 0), 200, .inl (upd (upd f15 2 (nI (az / 256))) 3 (nI (az % 256))))), (r 9, .inl ((cT 0), 1400, .inl g9_20)), (r 12, .inl ((cT 0), 1200, .inl f12)), (r 3, .inl ((cT 0), 160, .inl f3)), (r 4, .inl ((cT 0), 4, .inl f4)), (r 0, .inl ((cT 1), 64, .inr (.inl f0))), (r 11, .inl ((cT 0), 16, .inl f11)), (r 13, .inl ((cT 0), 200, .inl f13)), (r 7, .inl ((cT 0), 1000, .inl f7)), (r 18, .inl ((cT 0), 41, .inl f18)), (r 19, .inl ((cT 0), 41, .inl f19)), (r 20, .inl ((cT 0), 41, .inl f20)), (r 21, .inl ((cT 0), 41, .inl f21)), (r 22, .inl ((cT 0), 8200, .inl f22)), (r 23, .inl ((cT 0), 656, .inl f23))]) [14, 0, 15, 1, 2, 3, 4, 5, 6, 7, 8, 9, 10, 11, 12, 13] (by decide) rfl
        exact ih (i + 1) _ _ _ _ (by omega)  hP hD hS hl
    refine L16 _ (fun g9_15 H locs ls  hP hD hS hl => ?_) (az - 0) 0 f9 H _ ls (by omega)  hP hD hS hl
    refine lv_aload_n hx hb d_Md_close_187 rfl (lv_at hl 3 rfl) ?_
    refine lv_iload_n hx hb d_Md_close_188 rfl (lv_at hl 4 rfl) ?_
    have hPc := hP.sub (ws' := [(mo, .inr (12, mdG r cd tm (nI sn) (nI az) (nI lz) (nI az) (nI na) (nI nt) (nI nr) mw ml mk dq)), (r 3, .inl ((cT 0), 160, .inl f3)), (r 4, .inl ((cT 0), 4, .inl f4)), (r 9, .inl ((cT 0), 1400, .inl g9_15))]) [0, 4, 5, 2] rfl
    have hDc := hD.sub (ws' := [(mo, .inr (12, mdG r cd tm (nI sn) (nI az) (nI lz) (nI az) (nI na) (nI nt) (nI nr) mw ml mk dq)), (r 3, .inl ((cT 0), 160, .inl f3)), (r 4, .inl ((cT 0), 4, .inl f4)), (r 9, .inl ((cT 0), 1400, .inl g9_15))]) [0, 4, 5, 2] (by decide) rfl
    have hFc := va_free (wc := [(mo, .inr (12, mdG r cd tm (nI sn) (nI az) (nI lz) (nI az) (nI na) (nI nt) (nI nr) mw ml mk dq)), (r 3, .inl ((cT 0), 160, .inl f3)), (r 4, .inl ((cT 0), 4, .inl f4)), (r 9, .inl ((cT 0), 1400, .inl g9_15))]) hD hS hA [0, 4, 5, 2] rfl
    refine va_callv (va_runV (C := "DoorServerModel") (As := [.int (nI st)]) (rest := []) ⟨hx, hb, hml, hown, hg⟩ (m_saySecret l dC dI cT H.size mo r cd tm sn az lz az na nt nr mw ml mk dq f3 f4 g9_15 st sl (by first | assumption | omega) (by first | assumption | omega) (by first | assumption | omega) (by first | assumption | omega)) (cwV 1 hg (gI (List.forall_mem_append.mpr ⟨List.forall_mem_cons.mpr ⟨k_1216, List.forall_mem_cons.mpr ⟨k_1218, List.forall_mem_cons.mpr ⟨(big_sel (q := y_Md_saySecret) (n := 45) (by decide +kernel)), List.forall_mem_cons.mpr ⟨k_13, fun _ h => absurd h List.not_mem_nil⟩⟩⟩⟩, List.forall_mem_cons.mpr ⟨k_1219, fun _ h => h⟩⟩)) rfl rfl rfl (by decide +kernel) ⟨Nat.le_of_ble_eq_true rfl, Nat.le_of_ble_eq_true rfl⟩) ⟨fun a U g mk q => by obtain ⟨q0, q1, qP, qK, qD⟩ := q; exact ⟨q0, q1, qP, va_K.moved (u := U) (U := U.calling g mk a) (Vm.Alike.refl U.vm) qK, qD⟩, va_recv (q0 := 0) (ci := 12) hK hP rfl rfl, fun U hU hW => ⟨rfl, by rw [hU], by rw [hU]; exact hPc, va_K.moved hW.alike hK, hDc.weaken (fun _ _ _ _ => trivial)⟩⟩ rfl rfl hl.1 rfl (lv_room (Nat.le_of_ble_eq_true rfl)) d_Md_close_189 ⟨Nat.le_of_ble_eq_true rfl, Nat.le_of_ble_eq_true rfl⟩) hS (fun q _ h => hFc q h) hFc (fun u t H1 locs ht hvm hw hB hz1 hk1 hS => ?_)
    obtain ⟨g9_22, rfl⟩ : ∃ z, z = u := ⟨_, rfl⟩
    try dsimp only at hw hB
    obtain ⟨hP1, hK1, hD1⟩ := hB
    rw [ht] at hP1
    obtain ⟨hP, hD⟩ := va_join (wr := [(r 15, .inl ((cT 0), 200, .inl (upd (upd f15 2 (nI (az / 256))) 3 (nI (az % 256))))), (r 12, .inl ((cT 0), 1200, .inl f12)), (r 0, .inl ((cT 1), 64, .inr (.inl f0))), (r 11, .inl ((cT 0), 16, .inl f11)), (r 13, .inl ((cT 0), 200, .inl f13)), (r 7, .inl ((cT 0), 1000, .inl f7)), (r 18, .inl ((cT 0), 41, .inl f18)), (r 19, .inl ((cT 0), 41, .inl f19)), (r 20, .inl ((cT 0), 41, .inl f20)), (r 21, .inl ((cT 0), 41, .inl f21)), (r 22, .inl ((cT 0), 8200, .inl f22)), (r 23, .inl ((cT 0), 656, .inl f23))]) (w1 := [(mo, .inr (12, mdG r cd tm (nI sn) (nI (az + sl)) (nI lz) (nI az) (nI na) (nI nt) (nI nr) mw ml mk dq)), (r 3, .inl ((cT 0), 160, .inl f3)), (r 4, .inl ((cT 0), 4, .inl f4)), (r 9, .inl ((cT 0), 1400, .inl g9_22))]) hP hD [0, 4, 5, 2] [1, 3, 6, 7, 8, 9, 10, 11, 12, 13, 14, 15] rfl rfl (by decide) (by decide) hk1 hFc hP1 hD1
    have hw23 := hw
    clear hPc hDc hFc hz1 hk1 hP1 hK1 hD1
    generalize H1 = H at hP hS ⊢
    have hP : va_P (dC, dI) vcl [(r 15, .inl ((cT 0), 200, .inl (upd (upd f15 2 (nI (az / 256))) 3 (nI (az % 256))))), (r 12, .inl ((cT 0), 1200, .inl f12)), (r 0, .inl ((cT 1), 64, .inr (.inl f0))), (r 11, .inl ((cT 0), 16, .inl f11)), (r 13, .inl ((cT 0), 200, .inl f13)), (r 7, .inl ((cT 0), 1000, .inl f7)), (r 18, .inl ((cT 0), 41, .inl f18)), (r 19, .inl ((cT 0), 41, .inl f19)), (r 20, .inl ((cT 0), 41, .inl f20)), (r 21, .inl ((cT 0), 41, .inl f21)), (r 22, .inl ((cT 0), 8200, .inl f22)), (r 23, .inl ((cT 0), 656, .inl f23)), (mo, .inr (12, mdG r cd tm (nI sn) (nI (az + sl)) (nI lz) (nI az) (nI na) (nI nt) (nI nr) mw ml mk dq)), (r 3, .inl ((cT 0), 160, .inl f3)), (r 4, .inl ((cT 0), 4, .inl f4)), (r 9, .inl ((cT 0), 1400, .inl g9_22))] H := hP
    have hD : va_D A [(r 15, .inl ((cT 0), 200, .inl (upd (upd f15 2 (nI (az / 256))) 3 (nI (az % 256))))), (r 12, .inl ((cT 0), 1200, .inl f12)), (r 0, .inl ((cT 1), 64, .inr (.inl f0))), (r 11, .inl ((cT 0), 16, .inl f11)), (r 13, .inl ((cT 0), 200, .inl f13)), (r 7, .inl ((cT 0), 1000, .inl f7)), (r 18, .inl ((cT 0), 41, .inl f18)), (r 19, .inl ((cT 0), 41, .inl f19)), (r 20, .inl ((cT 0), 41, .inl f20)), (r 21, .inl ((cT 0), 41, .inl f21)), (r 22, .inl ((cT 0), 8200, .inl f22)), (r 23, .inl ((cT 0), 656, .inl f23)), (mo, .inr (12, mdG r cd tm (nI sn) (nI (az + sl)) (nI lz) (nI az) (nI na) (nI nt) (nI nr) mw ml mk dq)), (r 3, .inl ((cT 0), 160, .inl f3)), (r 4, .inl ((cT 0), 4, .inl f4)), (r 9, .inl ((cT 0), 1400, .inl g9_22))] := hD
    refine lv_aload_n hx hb d_Md_close_192 rfl (lv_at hl 3 rfl) ?_
    have hPc := hP.sub (ws' := [(mo, .inr (12, mdG r cd tm (nI sn) (nI (az + sl)) (nI lz) (nI az) (nI na) (nI nt) (nI nr) mw ml mk dq)), (r 9, .inl ((cT 0), 1400, .inl g9_22)), (r 0, .inl ((cT 1), 64, .inr (.inl f0))), (r 11, .inl ((cT 0), 16, .inl f11))]) [12, 15, 2, 3] rfl
    have hDc := hD.sub (ws' := [(mo, .inr (12, mdG r cd tm (nI sn) (nI (az + sl)) (nI lz) (nI az) (nI na) (nI nt) (nI nr) mw ml mk dq)), (r 9, .inl ((cT 0), 1400, .inl g9_22)), (r 0, .inl ((cT 1), 64, .inr (.inl f0))), (r 11, .inl ((cT 0), 16, .inl f11))]) [12, 15, 2, 3] (by decide) rfl
    have hFc := va_free (wc := [(mo, .inr (12, mdG r cd tm (nI sn) (nI (az + sl)) (nI lz) (nI az) (nI na) (nI nt) (nI nr) mw ml mk dq)), (r 9, .inl ((cT 0), 1400, .inl g9_22)), (r 0, .inl ((cT 1), 64, .inr (.inl f0))), (r 11, .inl ((cT 0), 16, .inl f11))]) hD hS hA [12, 15, 2, 3] rfl
    refine va_callv (va_runV (C := "DoorServerModel") (As := []) (rest := []) ⟨hx, hb, hml, hown, hg⟩ (m_md5 l dC dI cT H.size mo r cd tm sn (az + sl) lz az na nt nr mw ml mk dq g9_22 f0 f11 (by first | assumption | omega) (by first | assumption | omega)) (cwV 0 hg (gI (List.forall_mem_append.mpr ⟨List.forall_mem_cons.mpr ⟨k_1224, List.forall_mem_cons.mpr ⟨k_1226, List.forall_mem_cons.mpr ⟨(big_sel (q := y_Md_md5) (n := 45) (by decide +kernel)), List.forall_mem_cons.mpr ⟨k_13, fun _ h => absurd h List.not_mem_nil⟩⟩⟩⟩, List.forall_mem_cons.mpr ⟨k_1227, fun _ h => h⟩⟩)) rfl rfl rfl (by decide +kernel) ⟨Nat.le_of_ble_eq_true rfl, Nat.le_of_ble_eq_true rfl⟩) ⟨fun a U g mk q => by obtain ⟨q0, q1, qP, qK, qD⟩ := q; exact ⟨q0, q1, qP, va_K.moved (u := U) (U := U.calling g mk a) (Vm.Alike.refl U.vm) qK, qD⟩, va_recv (q0 := 12) (ci := 12) hK hP rfl rfl, fun U hU hW => ⟨rfl, by rw [hU], by rw [hU]; exact hPc, va_K.moved hW.alike hK, hDc.weaken (fun _ _ _ _ => trivial)⟩⟩ rfl rfl hl.1 rfl (lv_room (Nat.le_of_ble_eq_true rfl)) d_Md_close_193 ⟨Nat.le_of_ble_eq_true rfl, Nat.le_of_ble_eq_true rfl⟩) hS (fun q _ h => hFc q h) hFc (fun u t H1 locs ht hvm hw hB hz1 hk1 hS => ?_)
    obtain ⟨g9_24, g11_25⟩ := u
    try dsimp only at hw hB
    obtain ⟨hP1, hK1, hD1⟩ := hB
    rw [ht] at hP1
    obtain ⟨hP, hD⟩ := va_join (wr := [(r 15, .inl ((cT 0), 200, .inl (upd (upd f15 2 (nI (az / 256))) 3 (nI (az % 256))))), (r 12, .inl ((cT 0), 1200, .inl f12)), (r 13, .inl ((cT 0), 200, .inl f13)), (r 7, .inl ((cT 0), 1000, .inl f7)), (r 18, .inl ((cT 0), 41, .inl f18)), (r 19, .inl ((cT 0), 41, .inl f19)), (r 20, .inl ((cT 0), 41, .inl f20)), (r 21, .inl ((cT 0), 41, .inl f21)), (r 22, .inl ((cT 0), 8200, .inl f22)), (r 23, .inl ((cT 0), 656, .inl f23)), (r 3, .inl ((cT 0), 160, .inl f3)), (r 4, .inl ((cT 0), 4, .inl f4))]) (w1 := [(mo, .inr (12, mdG r cd tm (nI sn) (nI 0) (nI lz) (nI az) (nI na) (nI nt) (nI nr) mw ml mk dq)), (r 9, .inl ((cT 0), 1400, .inl g9_24)), (r 0, .inl ((cT 1), 64, .inr (.inl f0))), (r 11, .inl ((cT 0), 16, .inl g11_25))]) hP hD [12, 15, 2, 3] [0, 1, 4, 5, 6, 7, 8, 9, 10, 11, 13, 14] rfl rfl (by decide) (by decide) hk1 hFc hP1 hD1
    have hw26 := hw
    clear hPc hDc hFc hz1 hk1 hP1 hK1 hD1
    generalize H1 = H at hP hS ⊢
    have hP : va_P (dC, dI) vcl [(r 15, .inl ((cT 0), 200, .inl (upd (upd f15 2 (nI (az / 256))) 3 (nI (az % 256))))), (r 12, .inl ((cT 0), 1200, .inl f12)), (r 13, .inl ((cT 0), 200, .inl f13)), (r 7, .inl ((cT 0), 1000, .inl f7)), (r 18, .inl ((cT 0), 41, .inl f18)), (r 19, .inl ((cT 0), 41, .inl f19)), (r 20, .inl ((cT 0), 41, .inl f20)), (r 21, .inl ((cT 0), 41, .inl f21)), (r 22, .inl ((cT 0), 8200, .inl f22)), (r 23, .inl ((cT 0), 656, .inl f23)), (r 3, .inl ((cT 0), 160, .inl f3)), (r 4, .inl ((cT 0), 4, .inl f4)), (mo, .inr (12, mdG r cd tm (nI sn) (nI 0) (nI lz) (nI az) (nI na) (nI nt) (nI nr) mw ml mk dq)), (r 9, .inl ((cT 0), 1400, .inl g9_24)), (r 0, .inl ((cT 1), 64, .inr (.inl f0))), (r 11, .inl ((cT 0), 16, .inl g11_25))] H := hP
    have hD : va_D A [(r 15, .inl ((cT 0), 200, .inl (upd (upd f15 2 (nI (az / 256))) 3 (nI (az % 256))))), (r 12, .inl ((cT 0), 1200, .inl f12)), (r 13, .inl ((cT 0), 200, .inl f13)), (r 7, .inl ((cT 0), 1000, .inl f7)), (r 18, .inl ((cT 0), 41, .inl f18)), (r 19, .inl ((cT 0), 41, .inl f19)), (r 20, .inl ((cT 0), 41, .inl f20)), (r 21, .inl ((cT 0), 41, .inl f21)), (r 22, .inl ((cT 0), 8200, .inl f22)), (r 23, .inl ((cT 0), 656, .inl f23)), (r 3, .inl ((cT 0), 160, .inl f3)), (r 4, .inl ((cT 0), 4, .inl f4)), (mo, .inr (12, mdG r cd tm (nI sn) (nI 0) (nI lz) (nI az) (nI na) (nI nt) (nI nr) mw ml mk dq)), (r 9, .inl ((cT 0), 1400, .inl g9_24)), (r 0, .inl ((cT 1), 64, .inr (.inl f0))), (r 11, .inl ((cT 0), 16, .inl g11_25))] := hD
    have k27 := hw26
    refine lv_iconst (v := 0) hx hb d_Md_close_196 (by decide) ?_
    refine lv_istore (lv' := [(4, .int 0), (3, .int 0), (2, .int (nI (az + 2))), (0, .ref mo), (1, .int (nI st))]) hx hb d_Md_close_197 hl (by decide) rfl (fun ls hl => ?_)
    have hl := lv_sub hl [0, 1, 2, 3, 4] (show _ = [(4, .int 0), (3, .int 0), (2, .int (nI (az + 2))), (0, .ref mo), (1, .int (nI st))] from rfl)
    have L29 : ∀ (Q : State → Prop) (exit : ∀ (g15_28 : Nat → Int32) (H : Heap) (locs : List Loc) (ls : Array Slot), va_P (dC, dI) vcl [(r 15, .inl ((cT 0), 200, .inl g15_28)), (r 12, .inl ((cT 0), 1200, .inl f12)), (r 13, .inl ((cT 0), 200, .inl f13)), (r 7, .inl ((cT 0), 1000, .inl f7)), (r 18, .inl ((cT 0), 41, .inl f18)), (r 19, .inl ((cT 0), 41, .inl f19)), (r 20, .inl ((cT 0), 41, .inl f20)), (r 21, .inl ((cT 0), 41, .inl f21)), (r 22, .inl ((cT 0), 8200, .inl f22)), (r 23, .inl ((cT 0), 656, .inl f23)), (r 3, .inl ((cT 0), 160, .inl f3)), (r 4, .inl ((cT 0), 4, .inl f4)), (mo, .inr (12, mdG r cd tm (nI sn) (nI 0) (nI lz) (nI az) (nI na) (nI nt) (nI nr) mw ml mk dq)), (r 9, .inl ((cT 0), 1400, .inl g9_24)), (r 0, .inl ((cT 1), 64, .inr (.inl f0))), (r 11, .inl ((cT 0), 16, .inl g11_25))] H → va_D A [(r 15, .inl ((cT 0), 200, .inl g15_28)), (r 12, .inl ((cT 0), 1200, .inl f12)), (r 13, .inl ((cT 0), 200, .inl f13)), (r 7, .inl ((cT 0), 1000, .inl f7)), (r 18, .inl ((cT 0), 41, .inl f18)), (r 19, .inl ((cT 0), 41, .inl f19)), (r 20, .inl ((cT 0), 41, .inl f20)), (r 21, .inl ((cT 0), 41, .inl f21)), (r 22, .inl ((cT 0), 8200, .inl f22)), (r 23, .inl ((cT 0), 656, .inl f23)), (r 3, .inl ((cT 0), 160, .inl f3)), (r 4, .inl ((cT 0), 4, .inl f4)), (mo, .inr (12, mdG r cd tm (nI sn) (nI 0) (nI lz) (nI az) (nI na) (nI nt) (nI nr) mw ml mk dq)), (r 9, .inl ((cT 0), 1400, .inl g9_24)), (r 0, .inl ((cT 1), 64, .inr (.inl f0))), (r 11, .inl ((cT 0), 16, .inl g11_25))] → va_S A s.heap H locs → lv_has ls 5 [(4, .int (nI 16)), (3, .int 0), (2, .int (nI (az + 2))), (0, .ref mo), (1, .int (nI st))] → W p l e ({ frames := 3, cells := 0, slots := 0, locals := 95 } : Room) s m args below meth c H locs 0 0 Q (F0 m 228 ls [])) (j8 i : Nat) (g15_28 : Nat → Int32) (H : Heap) (locs : List Loc) (ls : Array Slot), i + j8 = 16 → va_P (dC, dI) vcl [(r 15, .inl ((cT 0), 200, .inl g15_28)), (r 12, .inl ((cT 0), 1200, .inl f12)), (r 13, .inl ((cT 0), 200, .inl f13)), (r 7, .inl ((cT 0), 1000, .inl f7)), (r 18, .inl ((cT 0), 41, .inl f18)), (r 19, .inl ((cT 0), 41, .inl f19)), (r 20, .inl ((cT 0), 41, .inl f20)), (r 21, .inl ((cT 0), 41, .inl f21)), (r 22, .inl ((cT 0), 8200, .inl f22)), (r 23, .inl ((cT 0), 656, .inl f23)), (r 3, .inl ((cT 0), 160, .inl f3)), (r 4, .inl ((cT 0), 4, .inl f4)), (mo, .inr (12, mdG r cd tm (nI sn) (nI 0) (nI lz) (nI az) (nI na) (nI nt) (nI nr) mw ml mk dq)), (r 9, .inl ((cT 0), 1400, .inl g9_24)), (r 0, .inl ((cT 1), 64, .inr (.inl f0))), (r 11, .inl ((cT 0), 16, .inl g11_25))] H → va_D A [(r 15, .inl ((cT 0), 200, .inl g15_28)), (r 12, .inl ((cT 0), 1200, .inl f12)), (r 13, .inl ((cT 0), 200, .inl f13)), (r 7, .inl ((cT 0), 1000, .inl f7)), (r 18, .inl ((cT 0), 41, .inl f18)), (r 19, .inl ((cT 0), 41, .inl f19)), (r 20, .inl ((cT 0), 41, .inl f20)), (r 21, .inl ((cT 0), 41, .inl f21)), (r 22, .inl ((cT 0), 8200, .inl f22)), (r 23, .inl ((cT 0), 656, .inl f23)), (r 3, .inl ((cT 0), 160, .inl f3)), (r 4, .inl ((cT 0), 4, .inl f4)), (mo, .inr (12, mdG r cd tm (nI sn) (nI 0) (nI lz) (nI az) (nI na) (nI nt) (nI nr) mw ml mk dq)), (r 9, .inl ((cT 0), 1400, .inl g9_24)), (r 0, .inl ((cT 1), 64, .inr (.inl f0))), (r 11, .inl ((cT 0), 16, .inl g11_25))] → va_S A s.heap H locs → lv_has ls 5 [(4, .int (nI i)), (3, .int 0), (2, .int (nI (az + 2))), (0, .ref mo), (1, .int (nI st))] → W p l e ({ frames := 3, cells := 0, slots := 0, locals := 95 } : Room) s m args below meth c H locs 0 0 Q (F0 m 199 ls []) := by
      intro Q exit j8
      induction j8 with
      | zero => 
        intro i g15_28 H locs ls hij  hP hD hS hl
        have hij : 16 = i := by omega
        refine lv_iload hx hb d_Md_close_199 (lv_at hl 0 rfl) ?_
        refine lv_bipush (v := 16) hx hb d_Md_close_201 (by decide) ?_
        refine lv_topi (fun x31 e30 => ?_)
        obtain rfl : x31 = nI 16 := by rw [e30]; rfl
        refine lv_icmp_ge (tgt := 228) hx hb d_Md_close_203 (by decide) (fun hc32 => ?_) (fun hn9 => absurd (nI_le (by omega) (by omega)) hn9)
        subst hij
        exact exit g15_28 _ _ _  hP hD hS hl
      | succ j8 ih => 
        intro i g15_28 H locs ls hij  hP hD hS hl
        have hlt : i < 16 := by omega
        have hlti := hlt
        refine lv_iload hx hb d_Md_close_199 (lv_at hl 0 rfl) ?_
        refine lv_bipush (v := 16) hx hb d_Md_close_201 (by decide) ?_
        refine lv_topi (fun x34 e33 => ?_)
        obtain rfl : x34 = nI 16 := by rw [e33]; rfl
        refine lv_icmp_ge (tgt := 228) hx hb d_Md_close_203 (by decide) (fun hn9 => absurd hn9 (nI_ge (by omega) (by omega))) (fun hc35 => ?_)
        refine lv_aload_n hx hb d_Md_close_206 rfl (lv_at hl 3 rfl) ?_
        refine va_get (D := (dC, dI)) (ci := 12) (v := (.ref (r 15))) (C := R_Md) (T := F_Md) (N := 45) hx hb hg in_Md hown hK hP 12 rfl rfl 15 (by decide) (hg _ k_1035) (fun _ h9 => h9) rfl d_Md_close_207 ?_
        refine lv_iconst (v := 4) hx hb d_Md_close_210 (by decide) ?_
        refine lv_iload hx hb d_Md_close_211 (lv_at hl 0 rfl) ?_
        refine lv_iadd hx hb d_Md_close_213 ?_
        refine lv_topi (fun x37 e36 => ?_)
        obtain rfl : x37 = nI (4 + i) := by rw [e36]; exact nI_add 4 i
        refine lv_aload_n hx hb d_Md_close_214 rfl (lv_at hl 3 rfl) ?_
        refine va_get (D := (dC, dI)) (ci := 12) (v := (.ref (r 11))) (C := R_Md) (T := F_Md) (N := 45) hx hb hg in_Md hown hK hP 12 rfl rfl 11 (by decide) (hg _ k_1031) (fun _ h9 => h9) rfl d_Md_close_215 ?_
        refine lv_iload hx hb d_Md_close_218 (lv_at hl 0 rfl) ?_
        refine va_iald hx hb hK hP 15 0 rfl rfl (i := (nI i)) (vp_in_nI (N := 16) (by omega) (by decide)) d_Md_close_220 ?_
        refine lv_topi (fun x38 e_x38 => ?_)
        clear e_x38
        refine va_iast hx hb hK hP hD hS 0 0 rfl rfl (i := (nI (4 + i))) (vp_in_nI (n := 4 + i) (N := 200) (by omega) (by decide)) d_Md_close_221 (fun H locs hP hD hS => ?_)
        have ef39 : upd g15_28 (nI (4 + i)).toNatClampNeg x38 = upd g15_28 (4 + i) x38 := by rw [show (nI (4 + i)).toNatClampNeg = 4 + i from nI_clamp (by omega)]
        rw [ef39] at hP hD
        have hP : va_P (dC, dI) vcl [(r 15, .inl ((cT 0), 200, .inl (upd g15_28 (4 + i) x38))), (r 12, .inl ((cT 0), 1200, .inl f12)), (r 13, .inl ((cT 0), 200, .inl f13)), (r 7, .inl ((cT 0), 1000, .inl f7)), (r 18, .inl ((cT 0), 41, .inl f18)), (r 19, .inl ((cT 0), 41, .inl f19)), (r 20, .inl ((cT 0), 41, .inl f20)), (r 21, .inl ((cT 0), 41, .inl f21)), (r 22, .inl ((cT 0), 8200, .inl f22)), (r 23, .inl ((cT 0), 656, .inl f23)), (r 3, .inl ((cT 0), 160, .inl f3)), (r 4, .inl ((cT 0), 4, .inl f4)), (mo, .inr (12, mdG r cd tm (nI sn) (nI 0) (nI lz) (nI az) (nI na) (nI nt) (nI nr) mw ml mk dq)), (r 9, .inl ((cT 0), 1400, .inl g9_24)), (r 0, .inl ((cT 1), 64, .inr (.inl f0))), (r 11, .inl ((cT 0), 16, .inl g11_25))] H := hP
        have hD : va_D A [(r 15, .inl ((cT 0), 200, .inl (upd g15_28 (4 + i) x38))), (r 12, .inl ((cT 0), 1200, .inl f12)), (r 13, .inl ((cT 0), 200, .inl f13)), (r 7, .inl ((cT 0), 1000, .inl f7)), (r 18, .inl ((cT 0), 41, .inl f18)), (r 19, .inl ((cT 0), 41, .inl f19)), (r 20, .inl ((cT 0), 41, .inl f20)), (r 21, .inl ((cT 0), 41, .inl f21)), (r 22, .inl ((cT 0), 8200, .inl f22)), (r 23, .inl ((cT 0), 656, .inl f23)), (r 3, .inl ((cT 0), 160, .inl f3)), (r 4, .inl ((cT 0), 4, .inl f4)), (mo, .inr (12, mdG r cd tm (nI sn) (nI 0) (nI lz) (nI az) (nI na) (nI nt) (nI nr) mw ml mk dq)), (r 9, .inl ((cT 0), 1400, .inl g9_24)), (r 0, .inl ((cT 1), 64, .inr (.inl f0))), (r 11, .inl ((cT 0), 16, .inl g11_25))] := hD
        refine lv_iinc (k := 0) (v := nI (i + 1)) (lv' := [(4, .int (nI (i + 1))), (3, .int 0), (2, .int (nI (az + 2))), (0, .ref mo), (1, .int (nI st))]) hx hb d_Md_close_222 hl rfl (nI_1 i) (by decide) rfl (fun ls hl => ?_)
        refine lv_goto (tgt := 199) hx hb d_Md_close_225 (by decide) ?_
        have hl := lv_sub hl [0, 1, 2, 3, 4] (show _ = [(4, .int (nI (i + 1))), (3, .int 0), (2, .int (nI (az + 2))), (0, .ref mo), (1, .int (nI st))] from rfl)
        exact ih (i + 1) _ _ _ _ (by omega)  hP hD hS hl
    refine L29 _ (fun g15_28 H locs ls  hP hD hS hl => ?_) (16 - 0) 0 (upd (upd f15 2 (nI (az / 256))) 3 (nI (az % 256))) H _ ls (by omega)  hP hD hS hl
    refine lv_aload_n hx hb d_Md_close_228 rfl (lv_at hl 3 rfl) ?_
    refine lv_aload_n hx hb d_Md_close_229 rfl (lv_at hl 3 rfl) ?_
    refine va_get (D := (dC, dI)) (ci := 12) (v := (.int (nI az))) (C := R_Md) (T := F_Md) (N := 45) hx hb hg in_Md hown hK hP 12 rfl rfl 16 (by decide) (hg _ k_1036) (fun _ h9 => h9) rfl d_Md_close_230 ?_
    refine va_put (D := (dC, dI)) (ci := 12) (v := (.int (nI az))) (ty := .int) (C := R_Md) (T := F_Md) (N := 45) hx hb hg in_Md t_Md tok_Md nm_Md hown hK hP hD hS 12 rfl rfl 14 (by decide) (hg _ k_1034) (fun _ h9 => h9) rfl (by decide +kernel) rfl rfl (Nat.le_of_ble_eq_true rfl) d_Md_close_233 (fun H locs hP hD hS => ?_)
    have hP : va_P (dC, dI) vcl [(r 15, .inl ((cT 0), 200, .inl g15_28)), (r 12, .inl ((cT 0), 1200, .inl f12)), (r 13, .inl ((cT 0), 200, .inl f13)), (r 7, .inl ((cT 0), 1000, .inl f7)), (r 18, .inl ((cT 0), 41, .inl f18)), (r 19, .inl ((cT 0), 41, .inl f19)), (r 20, .inl ((cT 0), 41, .inl f20)), (r 21, .inl ((cT 0), 41, .inl f21)), (r 22, .inl ((cT 0), 8200, .inl f22)), (r 23, .inl ((cT 0), 656, .inl f23)), (r 3, .inl ((cT 0), 160, .inl f3)), (r 4, .inl ((cT 0), 4, .inl f4)), (mo, .inr (12, mdG r cd tm (nI sn) (nI 0) (nI az) (nI az) (nI na) (nI nt) (nI nr) mw ml mk dq)), (r 9, .inl ((cT 0), 1400, .inl g9_24)), (r 0, .inl ((cT 1), 64, .inr (.inl f0))), (r 11, .inl ((cT 0), 16, .inl g11_25))] H := hP
    have hD : va_D A [(r 15, .inl ((cT 0), 200, .inl g15_28)), (r 12, .inl ((cT 0), 1200, .inl f12)), (r 13, .inl ((cT 0), 200, .inl f13)), (r 7, .inl ((cT 0), 1000, .inl f7)), (r 18, .inl ((cT 0), 41, .inl f18)), (r 19, .inl ((cT 0), 41, .inl f19)), (r 20, .inl ((cT 0), 41, .inl f20)), (r 21, .inl ((cT 0), 41, .inl f21)), (r 22, .inl ((cT 0), 8200, .inl f22)), (r 23, .inl ((cT 0), 656, .inl f23)), (r 3, .inl ((cT 0), 160, .inl f3)), (r 4, .inl ((cT 0), 4, .inl f4)), (mo, .inr (12, mdG r cd tm (nI sn) (nI 0) (nI az) (nI az) (nI na) (nI nt) (nI nr) mw ml mk dq)), (r 9, .inl ((cT 0), 1400, .inl g9_24)), (r 0, .inl ((cT 1), 64, .inr (.inl f0))), (r 11, .inl ((cT 0), 16, .inl g11_25))] := hD
    refine lv_iconst (v := 0) hx hb d_Md_close_236 (by decide) ?_
    refine lv_istore (lv' := [(4, .int 0), (3, .int 0), (2, .int (nI (az + 2))), (0, .ref mo), (1, .int (nI st))]) hx hb d_Md_close_237 hl (by decide) rfl (fun ls hl => ?_)
    have hl := lv_sub hl [0, 1, 2, 3, 4] (show _ = [(4, .int 0), (3, .int 0), (2, .int (nI (az + 2))), (0, .ref mo), (1, .int (nI st))] from rfl)
    have L41 : ∀ (Q : State → Prop) (exit : ∀ (g13_40 : Nat → Int32) (H : Heap) (locs : List Loc) (ls : Array Slot), va_P (dC, dI) vcl [(r 15, .inl ((cT 0), 200, .inl g15_28)), (r 12, .inl ((cT 0), 1200, .inl f12)), (r 13, .inl ((cT 0), 200, .inl g13_40)), (r 7, .inl ((cT 0), 1000, .inl f7)), (r 18, .inl ((cT 0), 41, .inl f18)), (r 19, .inl ((cT 0), 41, .inl f19)), (r 20, .inl ((cT 0), 41, .inl f20)), (r 21, .inl ((cT 0), 41, .inl f21)), (r 22, .inl ((cT 0), 8200, .inl f22)), (r 23, .inl ((cT 0), 656, .inl f23)), (r 3, .inl ((cT 0), 160, .inl f3)), (r 4, .inl ((cT 0), 4, .inl f4)), (mo, .inr (12, mdG r cd tm (nI sn) (nI 0) (nI az) (nI az) (nI na) (nI nt) (nI nr) mw ml mk dq)), (r 9, .inl ((cT 0), 1400, .inl g9_24)), (r 0, .inl ((cT 1), 64, .inr (.inl f0))), (r 11, .inl ((cT 0), 16, .inl g11_25))] H → va_D A [(r 15, .inl ((cT 0), 200, .inl g15_28)), (r 12, .inl ((cT 0), 1200, .inl f12)), (r 13, .inl ((cT 0), 200, .inl g13_40)), (r 7, .inl ((cT 0), 1000, .inl f7)), (r 18, .inl ((cT 0), 41, .inl f18)), (r 19, .inl ((cT 0), 41, .inl f19)), (r 20, .inl ((cT 0), 41, .inl f20)), (r 21, .inl ((cT 0), 41, .inl f21)), (r 22, .inl ((cT 0), 8200, .inl f22)), (r 23, .inl ((cT 0), 656, .inl f23)), (r 3, .inl ((cT 0), 160, .inl f3)), (r 4, .inl ((cT 0), 4, .inl f4)), (mo, .inr (12, mdG r cd tm (nI sn) (nI 0) (nI az) (nI az) (nI na) (nI nt) (nI nr) mw ml mk dq)), (r 9, .inl ((cT 0), 1400, .inl g9_24)), (r 0, .inl ((cT 1), 64, .inr (.inl f0))), (r 11, .inl ((cT 0), 16, .inl g11_25))] → va_S A s.heap H locs → lv_has ls 5 [(4, .int (nI az)), (3, .int 0), (2, .int (nI (az + 2))), (0, .ref mo), (1, .int (nI st))] → W p l e ({ frames := 3, cells := 0, slots := 0, locals := 95 } : Room) s m args below meth c H locs 0 0 Q (F0 m 268 ls [])) (j8 i : Nat) (g13_40 : Nat → Int32) (H : Heap) (locs : List Loc) (ls : Array Slot), i + j8 = az → va_P (dC, dI) vcl [(r 15, .inl ((cT 0), 200, .inl g15_28)), (r 12, .inl ((cT 0), 1200, .inl f12)), (r 13, .inl ((cT 0), 200, .inl g13_40)), (r 7, .inl ((cT 0), 1000, .inl f7)), (r 18, .inl ((cT 0), 41, .inl f18)), (r 19, .inl ((cT 0), 41, .inl f19)), (r 20, .inl ((cT 0), 41, .inl f20)), (r 21, .inl ((cT 0), 41, .inl f21)), (r 22, .inl ((cT 0), 8200, .inl f22)), (r 23, .inl ((cT 0), 656, .inl f23)), (r 3, .inl ((cT 0), 160, .inl f3)), (r 4, .inl ((cT 0), 4, .inl f4)), (mo, .inr (12, mdG r cd tm (nI sn) (nI 0) (nI az) (nI az) (nI na) (nI nt) (nI nr) mw ml mk dq)), (r 9, .inl ((cT 0), 1400, .inl g9_24)), (r 0, .inl ((cT 1), 64, .inr (.inl f0))), (r 11, .inl ((cT 0), 16, .inl g11_25))] H → va_D A [(r 15, .inl ((cT 0), 200, .inl g15_28)), (r 12, .inl ((cT 0), 1200, .inl f12)), (r 13, .inl ((cT 0), 200, .inl g13_40)), (r 7, .inl ((cT 0), 1000, .inl f7)), (r 18, .inl ((cT 0), 41, .inl f18)), (r 19, .inl ((cT 0), 41, .inl f19)), (r 20, .inl ((cT 0), 41, .inl f20)), (r 21, .inl ((cT 0), 41, .inl f21)), (r 22, .inl ((cT 0), 8200, .inl f22)), (r 23, .inl ((cT 0), 656, .inl f23)), (r 3, .inl ((cT 0), 160, .inl f3)), (r 4, .inl ((cT 0), 4, .inl f4)), (mo, .inr (12, mdG r cd tm (nI sn) (nI 0) (nI az) (nI az) (nI na) (nI nt) (nI nr) mw ml mk dq)), (r 9, .inl ((cT 0), 1400, .inl g9_24)), (r 0, .inl ((cT 1), 64, .inr (.inl f0))), (r 11, .inl ((cT 0), 16, .inl g11_25))] → va_S A s.heap H locs → lv_has ls 5 [(4, .int (nI i)), (3, .int 0), (2, .int (nI (az + 2))), (0, .ref mo), (1, .int (nI st))] → W p l e ({ frames := 3, cells := 0, slots := 0, locals := 95 } : Room) s m args below meth c H locs 0 0 Q (F0 m 239 ls []) := by
      intro Q exit j8
      induction j8 with
      | zero => 
        intro i g13_40 H locs ls hij  hP hD hS hl
        have hij : az = i := by omega
        refine lv_iload hx hb d_Md_close_239 (lv_at hl 0 rfl) ?_
        refine lv_aload_n hx hb d_Md_close_241 rfl (lv_at hl 3 rfl) ?_
        refine va_get (D := (dC, dI)) (ci := 12) (v := (.int (nI az))) (C := R_Md) (T := F_Md) (N := 45) hx hb hg in_Md hown hK hP 12 rfl rfl 16 (by decide) (hg _ k_1036) (fun _ h9 => h9) rfl d_Md_close_242 ?_
        refine lv_icmp_ge (tgt := 268) hx hb d_Md_close_245 (by decide) (fun hc42 => ?_) (fun hn9 => absurd (nI_le (by omega) (by omega)) hn9)
        subst hij
        exact exit g13_40 _ _ _  hP hD hS hl
      | succ j8 ih => 
        intro i g13_40 H locs ls hij  hP hD hS hl
        have hlt : i < az := by omega
        have hlti := hlt
        refine lv_iload hx hb d_Md_close_239 (lv_at hl 0 rfl) ?_
        refine lv_aload_n hx hb d_Md_close_241 rfl (lv_at hl 3 rfl) ?_
        refine va_get (D := (dC, dI)) (ci := 12) (v := (.int (nI az))) (C := R_Md) (T := F_Md) (N := 45) hx hb hg in_Md hown hK hP 12 rfl rfl 16 (by decide) (hg _ k_1036) (fun _ h9 => h9) rfl d_Md_close_242 ?_
        refine lv_icmp_ge (tgt := 268) hx hb d_Md_close_245 (by decide) (fun hn9 => absurd hn9 (nI_ge (by omega) (by omega))) (fun hc43 => ?_)
        refine lv_aload_n hx hb d_Md_close_248 rfl (lv_at hl 3 rfl) ?_
        refine va_get (D := (dC, dI)) (ci := 12) (v := (.ref (r 13))) (C := R_Md) (T := F_Md) (N := 45) hx hb hg in_Md hown hK hP 12 rfl rfl 13 (by decide) (hg _ k_1033) (fun _ h9 => h9) rfl d_Md_close_249 ?_
        refine lv_iload hx hb d_Md_close_252 (lv_at hl 0 rfl) ?_
        refine lv_aload_n hx hb d_Md_close_254 rfl (lv_at hl 3 rfl) ?_
        refine va_get (D := (dC, dI)) (ci := 12) (v := (.ref (r 15))) (C := R_Md) (T := F_Md) (N := 45) hx hb hg in_Md hown hK hP 12 rfl rfl 15 (by decide) (hg _ k_1035) (fun _ h9 => h9) rfl d_Md_close_255 ?_
        refine lv_iload hx hb d_Md_close_258 (lv_at hl 0 rfl) ?_
        refine va_iald hx hb hK hP 0 0 rfl rfl (i := (nI i)) (vp_in_nI (N := 200) (by omega) (by decide)) d_Md_close_260 ?_
        refine lv_topi (fun x44 e_x44 => ?_)
        clear e_x44
        refine va_iast hx hb hK hP hD hS 2 0 rfl rfl (i := (nI i)) (vp_in_nI (n := i) (N := 200) (by omega) (by decide)) d_Md_close_261 (fun H locs hP hD hS => ?_)
        have ef45 : upd g13_40 (nI i).toNatClampNeg x44 = upd g13_40 i x44 := by rw [show (nI i).toNatClampNeg = i from nI_clamp (by omega)]
        rw [ef45] at hP hD
        have hP : va_P (dC, dI) vcl [(r 15, .inl ((cT 0), 200, .inl g15_28)), (r 12, .inl ((cT 0), 1200, .inl f12)), (r 13, .inl ((cT 0), 200, .inl (upd g13_40 i x44))), (r 7, .inl ((cT 0), 1000, .inl f7)), (r 18, .inl ((cT 0), 41, .inl f18)), (r 19, .inl ((cT 0), 41, .inl f19)), (r 20, .inl ((cT 0), 41, .inl f20)), (r 21, .inl ((cT 0), 41, .inl f21)), (r 22, .inl ((cT 0), 8200, .inl f22)), (r 23, .inl ((cT 0), 656, .inl f23)), (r 3, .inl ((cT 0), 160, .inl f3)), (r 4, .inl ((cT 0), 4, .inl f4)), (mo, .inr (12, mdG r cd tm (nI sn) (nI 0) (nI az) (nI az) (nI na) (nI nt) (nI nr) mw ml mk dq)), (r 9, .inl ((cT 0), 1400, .inl g9_24)), (r 0, .inl ((cT 1), 64, .inr (.inl f0))), (r 11, .inl ((cT 0), 16, .inl g11_25))] H := hP
        have hD : va_D A [(r 15, .inl ((cT 0), 200, .inl g15_28)), (r 12, .inl ((cT 0), 1200, .inl f12)), (r 13, .inl ((cT 0), 200, .inl (upd g13_40 i x44))), (r 7, .inl ((cT 0), 1000, .inl f7)), (r 18, .inl ((cT 0), 41, .inl f18)), (r 19, .inl ((cT 0), 41, .inl f19)), (r 20, .inl ((cT 0), 41, .inl f20)), (r 21, .inl ((cT 0), 41, .inl f21)), (r 22, .inl ((cT 0), 8200, .inl f22)), (r 23, .inl ((cT 0), 656, .inl f23)), (r 3, .inl ((cT 0), 160, .inl f3)), (r 4, .inl ((cT 0), 4, .inl f4)), (mo, .inr (12, mdG r cd tm (nI sn) (nI 0) (nI az) (nI az) (nI na) (nI nt) (nI nr) mw ml mk dq)), (r 9, .inl ((cT 0), 1400, .inl g9_24)), (r 0, .inl ((cT 1), 64, .inr (.inl f0))), (r 11, .inl ((cT 0), 16, .inl g11_25))] := hD
        refine lv_iinc (k := 0) (v := nI (i + 1)) (lv' := [(4, .int (nI (i + 1))), (3, .int 0), (2, .int (nI (az + 2))), (0, .ref mo), (1, .int (nI st))]) hx hb d_Md_close_262 hl rfl (nI_1 i) (by decide) rfl (fun ls hl => ?_)
        refine lv_goto (tgt := 239) hx hb d_Md_close_265 (by decide) ?_
        have hl := lv_sub hl [0, 1, 2, 3, 4] (show _ = [(4, .int (nI (i + 1))), (3, .int 0), (2, .int (nI (az + 2))), (0, .ref mo), (1, .int (nI st))] from rfl)
        exact ih (i + 1) _ _ _ _ (by omega)  hP hD hS hl
    refine L41 _ (fun g13_40 H locs ls  hP hD hS hl => ?_) (az - 0) 0 f13 H _ ls (by omega)  hP hD hS hl
    refine lv_aload_n hx hb d_Md_close_268 rfl (lv_at hl 3 rfl) ?_
    refine lv_iload_n hx hb d_Md_close_269 rfl (lv_at hl 4 rfl) ?_
    have hPc := hP.sub (ws' := [(mo, .inr (12, mdG r cd tm (nI sn) (nI 0) (nI az) (nI az) (nI na) (nI nt) (nI nr) mw ml mk dq)), (r 18, .inl ((cT 0), 41, .inl f18)), (r 19, .inl ((cT 0), 41, .inl f19)), (r 20, .inl ((cT 0), 41, .inl f20)), (r 21, .inl ((cT 0), 41, .inl f21)), (r 22, .inl ((cT 0), 8200, .inl f22)), (r 23, .inl ((cT 0), 656, .inl f23)), (r 7, .inl ((cT 0), 1000, .inl f7)), (r 15, .inl ((cT 0), 200, .inl g15_28))]) [12, 4, 5, 6, 7, 8, 9, 3, 0] rfl
    have hDc := hD.sub (ws' := [(mo, .inr (12, mdG r cd tm (nI sn) (nI 0) (nI az) (nI az) (nI na) (nI nt) (nI nr) mw ml mk dq)), (r 18, .inl ((cT 0), 41, .inl f18)), (r 19, .inl ((cT 0), 41, .inl f19)), (r 20, .inl ((cT 0), 41, .inl f20)), (r 21, .inl ((cT 0), 41, .inl f21)), (r 22, .inl ((cT 0), 8200, .inl f22)), (r 23, .inl ((cT 0), 656, .inl f23)), (r 7, .inl ((cT 0), 1000, .inl f7)), (r 15, .inl ((cT 0), 200, .inl g15_28))]) [12, 4, 5, 6, 7, 8, 9, 3, 0] (by decide) rfl
    have hFc := va_free (wc := [(mo, .inr (12, mdG r cd tm (nI sn) (nI 0) (nI az) (nI az) (nI na) (nI nt) (nI nr) mw ml mk dq)), (r 18, .inl ((cT 0), 41, .inl f18)), (r 19, .inl ((cT 0), 41, .inl f19)), (r 20, .inl ((cT 0), 41, .inl f20)), (r 21, .inl ((cT 0), 41, .inl f21)), (r 22, .inl ((cT 0), 8200, .inl f22)), (r 23, .inl ((cT 0), 656, .inl f23)), (r 7, .inl ((cT 0), 1000, .inl f7)), (r 15, .inl ((cT 0), 200, .inl g15_28))]) hD hS hA [12, 4, 5, 6, 7, 8, 9, 3, 0] rfl
    refine va_callv (va_runV (C := "DoorServerModel") (As := [.int (nI st)]) (rest := []) ⟨hx, hb, hml, hown, hg⟩ (m_keep l dC dI cT H.size mo r cd tm sn 0 az az na nt nr mw ml mk dq f18 f19 f20 f21 f22 f23 f7 g15_28 (nI st) (by first | assumption | omega) (by first | assumption | omega) (by first | assumption | omega)) (cwV 1 hg (gI (List.forall_mem_append.mpr ⟨List.forall_mem_cons.mpr ⟨k_1367, List.forall_mem_cons.mpr ⟨k_1369, List.forall_mem_cons.mpr ⟨(big_sel (q := y_Md_keep) (n := 45) (by decide +kernel)), List.forall_mem_cons.mpr ⟨k_13, fun _ h => absurd h List.not_mem_nil⟩⟩⟩⟩, List.forall_mem_cons.mpr ⟨k_1370, fun _ h => h⟩⟩)) rfl rfl rfl (by decide +kernel) ⟨Nat.le_of_ble_eq_true rfl, Nat.le_of_ble_eq_true rfl⟩) ⟨fun a U g mk q => by obtain ⟨q0, q1, qP, qK, qD⟩ := q; exact ⟨q0, q1, qP, va_K.moved (u := U) (U := U.calling g mk a) (Vm.Alike.refl U.vm) qK, qD⟩, va_recv (q0 := 12) (ci := 12) hK hP rfl rfl, fun U hU hW => ⟨rfl, by rw [hU], by rw [hU]; exact hPc, va_K.moved hW.alike hK, hDc.weaken (fun _ _ _ _ => trivial)⟩⟩ rfl rfl hl.1 rfl (lv_room (Nat.le_of_ble_eq_true rfl)) d_Md_close_270 ⟨Nat.le_of_ble_eq_true rfl, Nat.le_of_ble_eq_true rfl⟩) hS (fun q _ h => hFc q h) hFc (fun u t H1 locs ht hvm hw hB hz1 hk1 hS => ?_)
    obtain ⟨g18_46, g19_47, g20_48, g21_49, g22_50, g23_51, na2_52⟩ := u
    try dsimp only at hw hB
    obtain ⟨hP1, hK1, hD1⟩ := hB
    rw [ht] at hP1
    obtain ⟨hP, hD⟩ := va_join (wr := [(r 12, .inl ((cT 0), 1200, .inl f12)), (r 13, .inl ((cT 0), 200, .inl g13_40)), (r 3, .inl ((cT 0), 160, .inl f3)), (r 4, .inl ((cT 0), 4, .inl f4)), (r 9, .inl ((cT 0), 1400, .inl g9_24)), (r 0, .inl ((cT 1), 64, .inr (.inl f0))), (r 11, .inl ((cT 0), 16, .inl g11_25))]) (w1 := [(mo, .inr (12, mdG r cd tm (nI sn) (nI 0) (nI az) (nI az) (nI na2_52) (nI nt) (nI nr) mw ml mk dq)), (r 18, .inl ((cT 0), 41, .inl g18_46)), (r 19, .inl ((cT 0), 41, .inl g19_47)), (r 20, .inl ((cT 0), 41, .inl g20_48)), (r 21, .inl ((cT 0), 41, .inl g21_49)), (r 22, .inl ((cT 0), 8200, .inl g22_50)), (r 23, .inl ((cT 0), 656, .inl g23_51)), (r 7, .inl ((cT 0), 1000, .inl f7)), (r 15, .inl ((cT 0), 200, .inl g15_28))]) hP hD [12, 4, 5, 6, 7, 8, 9, 3, 0] [1, 2, 10, 11, 13, 14, 15] rfl rfl (by decide) (by decide) hk1 hFc hP1 hD1
    have hw53 := hw
    clear hPc hDc hFc hz1 hk1 hP1 hK1 hD1
    generalize H1 = H at hP hS ⊢
    have hP : va_P (dC, dI) vcl [(r 12, .inl ((cT 0), 1200, .inl f12)), (r 13, .inl ((cT 0), 200, .inl g13_40)), (r 3, .inl ((cT 0), 160, .inl f3)), (r 4, .inl ((cT 0), 4, .inl f4)), (r 9, .inl ((cT 0), 1400, .inl g9_24)), (r 0, .inl ((cT 1), 64, .inr (.inl f0))), (r 11, .inl ((cT 0), 16, .inl g11_25)), (mo, .inr (12, mdG r cd tm (nI sn) (nI 0) (nI az) (nI az) (nI na2_52) (nI nt) (nI nr) mw ml mk dq)), (r 18, .inl ((cT 0), 41, .inl g18_46)), (r 19, .inl ((cT 0), 41, .inl g19_47)), (r 20, .inl ((cT 0), 41, .inl g20_48)), (r 21, .inl ((cT 0), 41, .inl g21_49)), (r 22, .inl ((cT 0), 8200, .inl g22_50)), (r 23, .inl ((cT 0), 656, .inl g23_51)), (r 7, .inl ((cT 0), 1000, .inl f7)), (r 15, .inl ((cT 0), 200, .inl g15_28))] H := hP
    have hD : va_D A [(r 12, .inl ((cT 0), 1200, .inl f12)), (r 13, .inl ((cT 0), 200, .inl g13_40)), (r 3, .inl ((cT 0), 160, .inl f3)), (r 4, .inl ((cT 0), 4, .inl f4)), (r 9, .inl ((cT 0), 1400, .inl g9_24)), (r 0, .inl ((cT 1), 64, .inr (.inl f0))), (r 11, .inl ((cT 0), 16, .inl g11_25)), (mo, .inr (12, mdG r cd tm (nI sn) (nI 0) (nI az) (nI az) (nI na2_52) (nI nt) (nI nr) mw ml mk dq)), (r 18, .inl ((cT 0), 41, .inl g18_46)), (r 19, .inl ((cT 0), 41, .inl g19_47)), (r 20, .inl ((cT 0), 41, .inl g20_48)), (r 21, .inl ((cT 0), 41, .inl g21_49)), (r 22, .inl ((cT 0), 8200, .inl g22_50)), (r 23, .inl ((cT 0), 656, .inl g23_51)), (r 7, .inl ((cT 0), 1000, .inl f7)), (r 15, .inl ((cT 0), 200, .inl g15_28))] := hD
    obtain ⟨k54, k55⟩ := hw53
    refine lv_aload_n hx hb d_Md_close_273 rfl (lv_at hl 3 rfl) ?_
    refine lv_dup hx hb d_Md_close_274 rfl ?_
    refine va_get (D := (dC, dI)) (ci := 12) (v := (.int mw)) (C := R_Md) (T := F_Md) (N := 45) hx hb hg in_Md hown hK hP 7 rfl rfl 43 (by decide) (hg _ k_1063) (fun _ h9 => h9) rfl d_Md_close_275 ?_
    refine lv_iconst (v := 1) hx hb d_Md_close_278 (by decide) ?_
    refine lv_iadd hx hb d_Md_close_279 ?_
    refine va_put (D := (dC, dI)) (ci := 12) (v := (.int (mw + 1))) (ty := .int) (C := R_Md) (T := F_Md) (N := 45) hx hb hg in_Md t_Md tok_Md nm_Md hown hK hP hD hS 7 rfl rfl 43 (by decide) (hg _ k_1063) (fun _ h9 => h9) rfl (by decide +kernel) rfl rfl (Nat.le_of_ble_eq_true rfl) d_Md_close_280 (fun H locs hP hD hS => ?_)
    have hP : va_P (dC, dI) vcl [(r 12, .inl ((cT 0), 1200, .inl f12)), (r 13, .inl ((cT 0), 200, .inl g13_40)), (r 3, .inl ((cT 0), 160, .inl f3)), (r 4, .inl ((cT 0), 4, .inl f4)), (r 9, .inl ((cT 0), 1400, .inl g9_24)), (r 0, .inl ((cT 1), 64, .inr (.inl f0))), (r 11, .inl ((cT 0), 16, .inl g11_25)), (mo, .inr (12, mdG r cd tm (nI sn) (nI 0) (nI az) (nI az) (nI na2_52) (nI nt) (nI nr) (mw + 1) ml mk dq)), (r 18, .inl ((cT 0), 41, .inl g18_46)), (r 19, .inl ((cT 0), 41, .inl g19_47)), (r 20, .inl ((cT 0), 41, .inl g20_48)), (r 21, .inl ((cT 0), 41, .inl g21_49)), (r 22, .inl ((cT 0), 8200, .inl g22_50)), (r 23, .inl ((cT 0), 656, .inl g23_51)), (r 7, .inl ((cT 0), 1000, .inl f7)), (r 15, .inl ((cT 0), 200, .inl g15_28))] H := hP
    have hD : va_D A [(r 12, .inl ((cT 0), 1200, .inl f12)), (r 13, .inl ((cT 0), 200, .inl g13_40)), (r 3, .inl ((cT 0), 160, .inl f3)), (r 4, .inl ((cT 0), 4, .inl f4)), (r 9, .inl ((cT 0), 1400, .inl g9_24)), (r 0, .inl ((cT 1), 64, .inr (.inl f0))), (r 11, .inl ((cT 0), 16, .inl g11_25)), (mo, .inr (12, mdG r cd tm (nI sn) (nI 0) (nI az) (nI az) (nI na2_52) (nI nt) (nI nr) (mw + 1) ml mk dq)), (r 18, .inl ((cT 0), 41, .inl g18_46)), (r 19, .inl ((cT 0), 41, .inl g19_47)), (r 20, .inl ((cT 0), 41, .inl g20_48)), (r 21, .inl ((cT 0), 41, .inl g21_49)), (r 22, .inl ((cT 0), 8200, .inl g22_50)), (r 23, .inl ((cT 0), 656, .inl g23_51)), (r 7, .inl ((cT 0), 1000, .inl f7)), (r 15, .inl ((cT 0), 200, .inl g15_28))] := hD
    refine lv_aload_n hx hb d_Md_close_283 rfl (lv_at hl 3 rfl) ?_
    refine va_get (D := (dC, dI)) (ci := 12) (v := (.ref (r 15))) (C := R_Md) (T := F_Md) (N := 45) hx hb hg in_Md hown hK hP 7 rfl rfl 15 (by decide) (hg _ k_1035) (fun _ h9 => h9) rfl d_Md_close_284 ?_
    refine lv_iconst (v := 0) hx hb d_Md_close_287 (by decide) ?_
    refine lv_topi (fun x57 e56 => ?_)
    obtain rfl : x57 = nI 0 := by rw [e56]; rfl
    refine va_iald hx hb hK hP 15 0 rfl rfl (i := (nI 0)) (vp_in_nI (N := 200) (by omega) (by decide)) d_Md_close_288 ?_
    refine lv_topi (fun x58 e_x58 => ?_)
    clear e_x58
    have hP9 := hP.sub (ws' := [(mo, .inr (12, mdG r cd tm (nI sn) (nI 0) (nI az) (nI az) (nI na2_52) (nI nt) (nI nr) (mw + 1) ml mk dq)), (r 15, .inl ((cT 0), 200, .inl g15_28)), (r 9, .inl ((cT 0), 1400, .inl g9_24)), (r 12, .inl ((cT 0), 1200, .inl f12)), (r 3, .inl ((cT 0), 160, .inl f3)), (r 4, .inl ((cT 0), 4, .inl f4)), (r 0, .inl ((cT 1), 64, .inr (.inl f0))), (r 11, .inl ((cT 0), 16, .inl g11_25)), (r 13, .inl ((cT 0), 200, .inl g13_40)), (r 7, .inl ((cT 0), 1000, .inl f7)), (r 18, .inl ((cT 0), 41, .inl g18_46)), (r 19, .inl ((cT 0), 41, .inl g19_47)), (r 20, .inl ((cT 0), 41, .inl g20_48)), (r 21, .inl ((cT 0), 41, .inl g21_49)), (r 22, .inl ((cT 0), 8200, .inl g22_50)), (r 23, .inl ((cT 0), 656, .inl g23_51))]) [7, 15, 4, 0, 2, 3, 5, 6, 1, 14, 8, 9, 10, 11, 12, 13] rfl
    have hD9 := hD.sub (ws' := [(mo, .inr (12, mdG r cd tm (nI sn) (nI 0) (nI az) (nI az) (nI na2_52) (nI nt) (nI nr) (mw + 1) ml mk dq)), (r 15, .inl ((cT 0), 200, .inl g15_28)), (r 9, .inl ((cT 0), 1400, .inl g9_24)), (r 12, .inl ((cT 0), 1200, .inl f12)), (r 3, .inl ((cT 0), 160, .inl f3)), (r 4, .inl ((cT 0), 4, .inl f4)), (r 0, .inl ((cT 1), 64, .inr (.inl f0))), (r 11, .inl ((cT 0), 16, .inl g11_25)), (r 13, .inl ((cT 0), 200, .inl g13_40)), (r 7, .inl ((cT 0), 1000, .inl f7)), (r 18, .inl ((cT 0), 41, .inl g18_46)), (r 19, .inl ((cT 0), 41, .inl g19_47)), (r 20, .inl ((cT 0), 41, .inl g20_48)), (r 21, .inl ((cT 0), 41, .inl g21_49)), (r 22, .inl ((cT 0), 8200, .inl g22_50)), (r 23, .inl ((cT 0), 656, .inl g23_51))]) [7, 15, 4, 0, 2, 3, 5, 6, 1, 14, 8, 9, 10, 11, 12, 13] (by decide) rfl
    exact W.iret (v := x58) hx hb hr (fun t ht hW => ⟨⟨_, ⟨g15_28, g9_24, f12, g11_25, g13_40, g18_46, g19_47, g20_48, g21_49, g22_50, g23_51, az, az, na2_52, mw + 1⟩, rfl, ⟨by first | assumption | omega, by first | assumption | omega, by first | assumption | omega, by first | assumption | omega, by first | assumption | omega⟩, by rw [ht]; exact hP9, va_K.moved hW.alike hK, hD9⟩, hS.F ht⟩) hS.2.2 d_Md_close_289
  · skip
    refine lv_iconst (v := 1) hx hb d_Md_close_17 (by decide) ?_
    refine lv_goto (tgt := 22) hx hb d_Md_close_18 (by decide) ?_
    refine lv_istore_n (lv' := [(3, .int 1), (2, .int (nI (az + 2))), (0, .ref mo), (1, .int (nI st))]) hx hb d_Md_close_22 rfl hl (by decide) rfl (fun ls hl => ?_)
    refine lv_iload_n hx hb d_Md_close_23 rfl (lv_at hl 0 rfl) ?_
    refine lv_if_eq (tgt := 60) hx hb d_Md_close_24 (by decide) (fun hn9 => absurd hn9 (by decide)) (fun hc59 => ?_)
    refine lv_aload_n hx hb d_Md_close_27 rfl (lv_at hl 2 rfl) ?_
    refine lv_bipush (v := 80) hx hb d_Md_close_28 (by decide) ?_
    have hPc := hP.sub (ws' := [(mo, .inr (12, mdG r cd tm (nI sn) (nI 0) (nI lz) (nI az) (nI na) (nI nt) (nI nr) mw ml mk dq)), (r 15, .inl ((cT 0), 200, .inl f15))]) [0, 1] rfl
    have hDc := hD.sub (ws' := [(mo, .inr (12, mdG r cd tm (nI sn) (nI 0) (nI lz) (nI az) (nI na) (nI nt) (nI nr) mw ml mk dq)), (r 15, .inl ((cT 0), 200, .inl f15))]) [0, 1] (by decide) rfl
    have hFc := va_free (wc := [(mo, .inr (12, mdG r cd tm (nI sn) (nI 0) (nI lz) (nI az) (nI na) (nI nt) (nI nr) mw ml mk dq)), (r 15, .inl ((cT 0), 200, .inl f15))]) hD hS hA [0, 1] rfl
    refine va_callv (va_runV (C := "DoorServerModel") (As := [.int 80]) (rest := []) ⟨hx, hb, hml, hown, hg⟩ (m_tell l dC dI cT s.heap.size mo r cd tm sn 0 lz az na nt nr mw ml mk dq f15 80 (by first | assumption | omega)) (cwV 1 hg (gI (List.forall_mem_append.mpr ⟨List.forall_mem_cons.mpr ⟨k_1337, List.forall_mem_cons.mpr ⟨k_1339, List.forall_mem_cons.mpr ⟨(big_sel (q := y_Md_tell) (n := 45) (by decide +kernel)), List.forall_mem_cons.mpr ⟨k_13, fun _ h => absurd h List.not_mem_nil⟩⟩⟩⟩, List.forall_mem_cons.mpr ⟨k_1340, fun _ h => h⟩⟩)) rfl rfl rfl (by decide +kernel) ⟨Nat.le_of_ble_eq_true rfl, Nat.le_of_ble_eq_true rfl⟩) ⟨fun a U g mk q => by obtain ⟨q0, q1, qP, qK, qD⟩ := q; exact ⟨q0, q1, qP, va_K.moved (u := U) (U := U.calling g mk a) (Vm.Alike.refl U.vm) qK, qD⟩, va_recv (q0 := 0) (ci := 12) hK hP rfl rfl, fun U hU hW => ⟨rfl, by rw [hU], by rw [hU]; exact hPc, va_K.moved hW.alike hK, hDc.weaken (fun _ _ _ _ => trivial)⟩⟩ rfl rfl hl.1 rfl (lv_room (Nat.le_of_ble_eq_true rfl)) d_Md_close_30 ⟨Nat.le_of_ble_eq_true rfl, Nat.le_of_ble_eq_true rfl⟩) hS (fun q _ h => hFc q h) hFc (fun u t H1 locs ht hvm hw hB hz1 hk1 hS => ?_)
    obtain ⟨g15_60, rfl⟩ : ∃ z, z = u := ⟨_, rfl⟩
    try dsimp only at hw hB
    obtain ⟨hP1, hK1, hD1⟩ := hB
    rw [ht] at hP1
    obtain ⟨hP, hD⟩ := va_join (wr := [(r 9, .inl ((cT 0), 1400, .inl f9)), (r 12, .inl ((cT 0), 1200, .inl f12)), (r 3, .inl ((cT 0), 160, .inl f3)), (r 4, .inl ((cT 0), 4, .inl f4)), (r 0, .inl ((cT 1), 64, .inr (.inl f0))), (r 11, .inl ((cT 0), 16, .inl f11)), (r 13, .inl ((cT 0), 200, .inl f13)), (r 7, .inl ((cT 0), 1000, .inl f7)), (r 18, .inl ((cT 0), 41, .inl f18)), (r 19, .inl ((cT 0), 41, .inl f19)), (r 20, .inl ((cT 0), 41, .inl f20)), (r 21, .inl ((cT 0), 41, .inl f21)), (r 22, .inl ((cT 0), 8200, .inl f22)), (r 23, .inl ((cT 0), 656, .inl f23))]) (w1 := [(mo, .inr (12, mdG r cd tm (nI sn) (nI 0) (nI lz) (nI (az + 1)) (nI na) (nI nt) (nI nr) mw ml mk dq)), (r 15, .inl ((cT 0), 200, .inl g15_60))]) hP hD [0, 1] [2, 3, 4, 5, 6, 7, 8, 9, 10, 11, 12, 13, 14, 15] rfl rfl (by decide) (by decide) hk1 hFc hP1 hD1
    have hw61 := hw
    clear hPc hDc hFc hz1 hk1 hP1 hK1 hD1
    generalize H1 = H at hP hS ⊢
    have hP : va_P (dC, dI) vcl [(r 9, .inl ((cT 0), 1400, .inl f9)), (r 12, .inl ((cT 0), 1200, .inl f12)), (r 3, .inl ((cT 0), 160, .inl f3)), (r 4, .inl ((cT 0), 4, .inl f4)), (r 0, .inl ((cT 1), 64, .inr (.inl f0))), (r 11, .inl ((cT 0), 16, .inl f11)), (r 13, .inl ((cT 0), 200, .inl f13)), (r 7, .inl ((cT 0), 1000, .inl f7)), (r 18, .inl ((cT 0), 41, .inl f18)), (r 19, .inl ((cT 0), 41, .inl f19)), (r 20, .inl ((cT 0), 41, .inl f20)), (r 21, .inl ((cT 0), 41, .inl f21)), (r 22, .inl ((cT 0), 8200, .inl f22)), (r 23, .inl ((cT 0), 656, .inl f23)), (mo, .inr (12, mdG r cd tm (nI sn) (nI 0) (nI lz) (nI (az + 1)) (nI na) (nI nt) (nI nr) mw ml mk dq)), (r 15, .inl ((cT 0), 200, .inl g15_60))] H := hP
    have hD : va_D A [(r 9, .inl ((cT 0), 1400, .inl f9)), (r 12, .inl ((cT 0), 1200, .inl f12)), (r 3, .inl ((cT 0), 160, .inl f3)), (r 4, .inl ((cT 0), 4, .inl f4)), (r 0, .inl ((cT 1), 64, .inr (.inl f0))), (r 11, .inl ((cT 0), 16, .inl f11)), (r 13, .inl ((cT 0), 200, .inl f13)), (r 7, .inl ((cT 0), 1000, .inl f7)), (r 18, .inl ((cT 0), 41, .inl f18)), (r 19, .inl ((cT 0), 41, .inl f19)), (r 20, .inl ((cT 0), 41, .inl f20)), (r 21, .inl ((cT 0), 41, .inl f21)), (r 22, .inl ((cT 0), 8200, .inl f22)), (r 23, .inl ((cT 0), 656, .inl f23)), (mo, .inr (12, mdG r cd tm (nI sn) (nI 0) (nI lz) (nI (az + 1)) (nI na) (nI nt) (nI nr) mw ml mk dq)), (r 15, .inl ((cT 0), 200, .inl g15_60))] := hD
    refine lv_aload_n hx hb d_Md_close_33 rfl (lv_at hl 2 rfl) ?_
    refine lv_bipush (v := 18) hx hb d_Md_close_34 (by decide) ?_
    have hPc := hP.sub (ws' := [(mo, .inr (12, mdG r cd tm (nI sn) (nI 0) (nI lz) (nI (az + 1)) (nI na) (nI nt) (nI nr) mw ml mk dq)), (r 15, .inl ((cT 0), 200, .inl g15_60))]) [14, 15] rfl
    have hDc := hD.sub (ws' := [(mo, .inr (12, mdG r cd tm (nI sn) (nI 0) (nI lz) (nI (az + 1)) (nI na) (nI nt) (nI nr) mw ml mk dq)), (r 15, .inl ((cT 0), 200, .inl g15_60))]) [14, 15] (by decide) rfl
    have hFc := va_free (wc := [(mo, .inr (12, mdG r cd tm (nI sn) (nI 0) (nI lz) (nI (az + 1)) (nI na) (nI nt) (nI nr) mw ml mk dq)), (r 15, .inl ((cT 0), 200, .inl g15_60))]) hD hS hA [14, 15] rfl
    refine va_callv (va_runV (C := "DoorServerModel") (As := [.int 18]) (rest := []) ⟨hx, hb, hml, hown, hg⟩ (m_tell l dC dI cT H.size mo r cd tm sn 0 lz (az + 1) na nt nr mw ml mk dq g15_60 18 (by first | assumption | omega)) (cwV 1 hg (gI (List.forall_mem_append.mpr ⟨List.forall_mem_cons.mpr ⟨k_1337, List.forall_mem_cons.mpr ⟨k_1339, List.forall_mem_cons.mpr ⟨(big_sel (q := y_Md_tell) (n := 45) (by decide +kernel)), List.forall_mem_cons.mpr ⟨k_13, fun _ h => absurd h List.not_mem_nil⟩⟩⟩⟩, List.forall_mem_cons.mpr ⟨k_1340, fun _ h => h⟩⟩)) rfl rfl rfl (by decide +kernel) ⟨Nat.le_of_ble_eq_true rfl, Nat.le_of_ble_eq_true rfl⟩) ⟨fun a U g mk q => by obtain ⟨q0, q1, qP, qK, qD⟩ := q; exact ⟨q0, q1, qP, va_K.moved (u := U) (U := U.calling g mk a) (Vm.Alike.refl U.vm) qK, qD⟩, va_recv (q0 := 14) (ci := 12) hK hP rfl rfl, fun U hU hW => ⟨rfl, by rw [hU], by rw [hU]; exact hPc, va_K.moved hW.alike hK, hDc.weaken (fun _ _ _ _ => trivial)⟩⟩ rfl rfl hl.1 rfl (lv_room (Nat.le_of_ble_eq_true rfl)) d_Md_close_36 ⟨Nat.le_of_ble_eq_true rfl, Nat.le_of_ble_eq_true rfl⟩) hS (fun q _ h => hFc q h) hFc (fun u t H1 locs ht hvm hw hB hz1 hk1 hS => ?_)
    obtain ⟨g15_62, rfl⟩ : ∃ z, z = u := ⟨_, rfl⟩
    try dsimp only at hw hB
    obtain ⟨hP1, hK1, hD1⟩ := hB
    rw [ht] at hP1
    obtain ⟨hP, hD⟩ := va_join (wr := [(r 9, .inl ((cT 0), 1400, .inl f9)), (r 12, .inl ((cT 0), 1200, .inl f12)), (r 3, .inl ((cT 0), 160, .inl f3)), (r 4, .inl ((cT 0), 4, .inl f4)), (r 0, .inl ((cT 1), 64, .inr (.inl f0))), (r 11, .inl ((cT 0), 16, .inl f11)), (r 13, .inl ((cT 0), 200, .inl f13)), (r 7, .inl ((cT 0), 1000, .inl f7)), (r 18, .inl ((cT 0), 41, .inl f18)), (r 19, .inl ((cT 0), 41, .inl f19)), (r 20, .inl ((cT 0), 41, .inl f20)), (r 21, .inl ((cT 0), 41, .inl f21)), (r 22, .inl ((cT 0), 8200, .inl f22)), (r 23, .inl ((cT 0), 656, .inl f23))]) (w1 := [(mo, .inr (12, mdG r cd tm (nI sn) (nI 0) (nI lz) (nI ((az + 1) + 1)) (nI na) (nI nt) (nI nr) mw ml mk dq)), (r 15, .inl ((cT 0), 200, .inl g15_62))]) hP hD [14, 15] [0, 1, 2, 3, 4, 5, 6, 7, 8, 9, 10, 11, 12, 13] rfl rfl (by decide) (by decide) hk1 hFc hP1 hD1
    have hw63 := hw
    clear hPc hDc hFc hz1 hk1 hP1 hK1 hD1
    generalize H1 = H at hP hS ⊢
    have hP : va_P (dC, dI) vcl [(r 9, .inl ((cT 0), 1400, .inl f9)), (r 12, .inl ((cT 0), 1200, .inl f12)), (r 3, .inl ((cT 0), 160, .inl f3)), (r 4, .inl ((cT 0), 4, .inl f4)), (r 0, .inl ((cT 1), 64, .inr (.inl f0))), (r 11, .inl ((cT 0), 16, .inl f11)), (r 13, .inl ((cT 0), 200, .inl f13)), (r 7, .inl ((cT 0), 1000, .inl f7)), (r 18, .inl ((cT 0), 41, .inl f18)), (r 19, .inl ((cT 0), 41, .inl f19)), (r 20, .inl ((cT 0), 41, .inl f20)), (r 21, .inl ((cT 0), 41, .inl f21)), (r 22, .inl ((cT 0), 8200, .inl f22)), (r 23, .inl ((cT 0), 656, .inl f23)), (mo, .inr (12, mdG r cd tm (nI sn) (nI 0) (nI lz) (nI ((az + 1) + 1)) (nI na) (nI nt) (nI nr) mw ml mk dq)), (r 15, .inl ((cT 0), 200, .inl g15_62))] H := hP
    have hD : va_D A [(r 9, .inl ((cT 0), 1400, .inl f9)), (r 12, .inl ((cT 0), 1200, .inl f12)), (r 3, .inl ((cT 0), 160, .inl f3)), (r 4, .inl ((cT 0), 4, .inl f4)), (r 0, .inl ((cT 1), 64, .inr (.inl f0))), (r 11, .inl ((cT 0), 16, .inl f11)), (r 13, .inl ((cT 0), 200, .inl f13)), (r 7, .inl ((cT 0), 1000, .inl f7)), (r 18, .inl ((cT 0), 41, .inl f18)), (r 19, .inl ((cT 0), 41, .inl f19)), (r 20, .inl ((cT 0), 41, .inl f20)), (r 21, .inl ((cT 0), 41, .inl f21)), (r 22, .inl ((cT 0), 8200, .inl f22)), (r 23, .inl ((cT 0), 656, .inl f23)), (mo, .inr (12, mdG r cd tm (nI sn) (nI 0) (nI lz) (nI ((az + 1) + 1)) (nI na) (nI nt) (nI nr) mw ml mk dq)), (r 15, .inl ((cT 0), 200, .inl g15_62))] := hD
    refine lv_iconst (v := 0) hx hb d_Md_close_39 (by decide) ?_
    refine lv_istore (lv' := [(4, .int 0), (3, .int 1), (2, .int (nI (az + 2))), (0, .ref mo), (1, .int (nI st))]) hx hb d_Md_close_40 hl (by decide) rfl (fun ls hl => ?_)
    have hl := lv_sub hl [0, 1, 2, 3, 4] (show _ = [(4, .int 0), (3, .int 1), (2, .int (nI (az + 2))), (0, .ref mo), (1, .int (nI st))] from rfl)
    have L65 : ∀ (Q : State → Prop) (exit : ∀ (g15_64 : Nat → Int32) (H : Heap) (locs : List Loc) (ls : Array Slot), va_P (dC, dI) vcl [(r 9, .inl ((cT 0), 1400, .inl f9)), (r 12, .inl ((cT 0), 1200, .inl f12)), (r 3, .inl ((cT 0), 160, .inl f3)), (r 4, .inl ((cT 0), 4, .inl f4)), (r 0, .inl ((cT 1), 64, .inr (.inl f0))), (r 11, .inl ((cT 0), 16, .inl f11)), (r 13, .inl ((cT 0), 200, .inl f13)), (r 7, .inl ((cT 0), 1000, .inl f7)), (r 18, .inl ((cT 0), 41, .inl f18)), (r 19, .inl ((cT 0), 41, .inl f19)), (r 20, .inl ((cT 0), 41, .inl f20)), (r 21, .inl ((cT 0), 41, .inl f21)), (r 22, .inl ((cT 0), 8200, .inl f22)), (r 23, .inl ((cT 0), 656, .inl f23)), (mo, .inr (12, mdG r cd tm (nI sn) (nI 0) (nI lz) (nI ((az + 1) + 1 + 16)) (nI na) (nI nt) (nI nr) mw ml mk dq)), (r 15, .inl ((cT 0), 200, .inl g15_64))] H → va_D A [(r 9, .inl ((cT 0), 1400, .inl f9)), (r 12, .inl ((cT 0), 1200, .inl f12)), (r 3, .inl ((cT 0), 160, .inl f3)), (r 4, .inl ((cT 0), 4, .inl f4)), (r 0, .inl ((cT 1), 64, .inr (.inl f0))), (r 11, .inl ((cT 0), 16, .inl f11)), (r 13, .inl ((cT 0), 200, .inl f13)), (r 7, .inl ((cT 0), 1000, .inl f7)), (r 18, .inl ((cT 0), 41, .inl f18)), (r 19, .inl ((cT 0), 41, .inl f19)), (r 20, .inl ((cT 0), 41, .inl f20)), (r 21, .inl ((cT 0), 41, .inl f21)), (r 22, .inl ((cT 0), 8200, .inl f22)), (r 23, .inl ((cT 0), 656, .inl f23)), (mo, .inr (12, mdG r cd tm (nI sn) (nI 0) (nI lz) (nI ((az + 1) + 1 + 16)) (nI na) (nI nt) (nI nr) mw ml mk dq)), (r 15, .inl ((cT 0), 200, .inl g15_64))] → va_S A s.heap H locs → lv_has ls 5 [(4, .int (nI 16)), (3, .int 1), (2, .int (nI (az + 2))), (0, .ref mo), (1, .int (nI st))] → W p l e ({ frames := 3, cells := 0, slots := 0, locals := 95 } : Room) s m args below meth c H locs 0 0 Q (F0 m 60 ls [])) (j8 i : Nat) (g15_64 : Nat → Int32) (H : Heap) (locs : List Loc) (ls : Array Slot), i + j8 = 16 → va_P (dC, dI) vcl [(r 9, .inl ((cT 0), 1400, .inl f9)), (r 12, .inl ((cT 0), 1200, .inl f12)), (r 3, .inl ((cT 0), 160, .inl f3)), (r 4, .inl ((cT 0), 4, .inl f4)), (r 0, .inl ((cT 1), 64, .inr (.inl f0))), (r 11, .inl ((cT 0), 16, .inl f11)), (r 13, .inl ((cT 0), 200, .inl f13)), (r 7, .inl ((cT 0), 1000, .inl f7)), (r 18, .inl ((cT 0), 41, .inl f18)), (r 19, .inl ((cT 0), 41, .inl f19)), (r 20, .inl ((cT 0), 41, .inl f20)), (r 21, .inl ((cT 0), 41, .inl f21)), (r 22, .inl ((cT 0), 8200, .inl f22)), (r 23, .inl ((cT 0), 656, .inl f23)), (mo, .inr (12, mdG r cd tm (nI sn) (nI 0) (nI lz) (nI ((az + 1) + 1 + i)) (nI na) (nI nt) (nI nr) mw ml mk dq)), (r 15, .inl ((cT 0), 200, .inl g15_64))] H → va_D A [(r 9, .inl ((cT 0), 1400, .inl f9)), (r 12, .inl ((cT 0), 1200, .inl f12)), (r 3, .inl ((cT 0), 160, .inl f3)), (r 4, .inl ((cT 0), 4, .inl f4)), (r 0, .inl ((cT 1), 64, .inr (.inl f0))), (r 11, .inl ((cT 0), 16, .inl f11)), (r 13, .inl ((cT 0), 200, .inl f13)), (r 7, .inl ((cT 0), 1000, .inl f7)), (r 18, .inl ((cT 0), 41, .inl f18)), (r 19, .inl ((cT 0), 41, .inl f19)), (r 20, .inl ((cT 0), 41, .inl f20)), (r 21, .inl ((cT 0), 41, .inl f21)), (r 22, .inl ((cT 0), 8200, .inl f22)), (r 23, .inl ((cT 0), 656, .inl f23)), (mo, .inr (12, mdG r cd tm (nI sn) (nI 0) (nI lz) (nI ((az + 1) + 1 + i)) (nI na) (nI nt) (nI nr) mw ml mk dq)), (r 15, .inl ((cT 0), 200, .inl g15_64))] → va_S A s.heap H locs → lv_has ls 5 [(4, .int (nI i)), (3, .int 1), (2, .int (nI (az + 2))), (0, .ref mo), (1, .int (nI st))] → W p l e ({ frames := 3, cells := 0, slots := 0, locals := 95 } : Room) s m args below meth c H locs 0 0 Q (F0 m 42 ls []) := by
      intro Q exit j8
      induction j8 with
      | zero => 
        intro i g15_64 H locs ls hij  hP hD hS hl
        have hij : 16 = i := by omega
        refine lv_iload hx hb d_Md_close_42 (lv_at hl 0 rfl) ?_
        refine lv_bipush (v := 16) hx hb d_Md_close_44 (by decide) ?_
        refine lv_topi (fun x67 e66 => ?_)
        obtain rfl : x67 = nI 16 := by rw [e66]; rfl
        refine lv_icmp_ge (tgt := 60) hx hb d_Md_close_46 (by decide) (fun hc68 => ?_) (fun hn9 => absurd (nI_le (by omega) (by omega)) hn9)
        subst hij
        exact exit g15_64 _ _ _  hP hD hS hl
      | succ j8 ih => 
        intro i g15_64 H locs ls hij  hP hD hS hl
        have hlt : i < 16 := by omega
        have hlti := hlt
        refine lv_iload hx hb d_Md_close_42 (lv_at hl 0 rfl) ?_
        refine lv_bipush (v := 16) hx hb d_Md_close_44 (by decide) ?_
        refine lv_topi (fun x70 e69 => ?_)
        obtain rfl : x70 = nI 16 := by rw [e69]; rfl
        refine lv_icmp_ge (tgt := 60) hx hb d_Md_close_46 (by decide) (fun hn9 => absurd hn9 (nI_ge (by omega) (by omega))) (fun hc71 => ?_)
        refine lv_aload_n hx hb d_Md_close_49 rfl (lv_at hl 3 rfl) ?_
        refine lv_iconst (v := 0) hx hb d_Md_close_50 (by decide) ?_
        have hPc := hP.sub (ws' := [(mo, .inr (12, mdG r cd tm (nI sn) (nI 0) (nI lz) (nI ((az + 1) + 1 + i)) (nI na) (nI nt) (nI nr) mw ml mk dq)), (r 15, .inl ((cT 0), 200, .inl g15_64))]) [14, 15] rfl
        have hDc := hD.sub (ws' := [(mo, .inr (12, mdG r cd tm (nI sn) (nI 0) (nI lz) (nI ((az + 1) + 1 + i)) (nI na) (nI nt) (nI nr) mw ml mk dq)), (r 15, .inl ((cT 0), 200, .inl g15_64))]) [14, 15] (by decide) rfl
        have hFc := va_free (wc := [(mo, .inr (12, mdG r cd tm (nI sn) (nI 0) (nI lz) (nI ((az + 1) + 1 + i)) (nI na) (nI nt) (nI nr) mw ml mk dq)), (r 15, .inl ((cT 0), 200, .inl g15_64))]) hD hS hA [14, 15] rfl
        refine va_callv (va_runV (C := "DoorServerModel") (As := [.int 0]) (rest := []) ⟨hx, hb, hml, hown, hg⟩ (m_tell l dC dI cT H.size mo r cd tm sn 0 lz ((az + 1) + 1 + i) na nt nr mw ml mk dq g15_64 0 (by first | assumption | omega)) (cwV 1 hg (gI (List.forall_mem_append.mpr ⟨List.forall_mem_cons.mpr ⟨k_1337, List.forall_mem_cons.mpr ⟨k_1339, List.forall_mem_cons.mpr ⟨(big_sel (q := y_Md_tell) (n := 45) (by decide +kernel)), List.forall_mem_cons.mpr ⟨k_13, fun _ h => absurd h List.not_mem_nil⟩⟩⟩⟩, List.forall_mem_cons.mpr ⟨k_1340, fun _ h => h⟩⟩)) rfl rfl rfl (by decide +kernel) ⟨Nat.le_of_ble_eq_true rfl, Nat.le_of_ble_eq_true rfl⟩) ⟨fun a U g mk q => by obtain ⟨q0, q1, qP, qK, qD⟩ := q; exact ⟨q0, q1, qP, va_K.moved (u := U) (U := U.calling g mk a) (Vm.Alike.refl U.vm) qK, qD⟩, va_recv (q0 := 14) (ci := 12) hK hP rfl rfl, fun U hU hW => ⟨rfl, by rw [hU], by rw [hU]; exact hPc, va_K.moved hW.alike hK, hDc.weaken (fun _ _ _ _ => trivial)⟩⟩ rfl rfl hl.1 rfl (lv_room (Nat.le_of_ble_eq_true rfl)) d_Md_close_51 ⟨Nat.le_of_ble_eq_true rfl, Nat.le_of_ble_eq_true rfl⟩) hS (fun q _ h => hFc q h) hFc (fun u t H1 locs ht hvm hw hB hz1 hk1 hS => ?_)
        obtain ⟨g15_72, rfl⟩ : ∃ z, z = u := ⟨_, rfl⟩
        try dsimp only at hw hB
        obtain ⟨hP1, hK1, hD1⟩ := hB
        rw [ht] at hP1
        obtain ⟨hP, hD⟩ := va_join (wr := [(r 9, .inl ((cT 0), 1400, .inl f9)), (r 12, .inl ((cT 0), 1200, .inl f12)), (r 3, .inl ((cT 0), 160, .inl f3)), (r 4, .inl ((cT 0), 4, .inl f4)), (r 0, .inl ((cT 1), 64, .inr (.inl f0))), (r 11, .inl ((cT 0), 16, .inl f11)), (r 13, .inl ((cT 0), 200, .inl f13)), (r 7, .inl ((cT 0), 1000, .inl f7)), (r 18, .inl ((cT 0), 41, .inl f18)), (r 19, .inl ((cT 0), 41, .inl f19)), (r 20, .inl ((cT 0), 41, .inl f20)), (r 21, .inl ((cT 0), 41, .inl f21)), (r 22, .inl ((cT 0), 8200, .inl f22)), (r 23, .inl ((cT 0), 656, .inl f23))]) (w1 := [(mo, .inr (12, mdG r cd tm (nI sn) (nI 0) (nI lz) (nI (((az + 1) + 1 + i) + 1)) (nI na) (nI nt) (nI nr) mw ml mk dq)), (r 15, .inl ((cT 0), 200, .inl g15_72))]) hP hD [14, 15] [0, 1, 2, 3, 4, 5, 6, 7, 8, 9, 10, 11, 12, 13] rfl rfl (by decide) (by decide) hk1 hFc hP1 hD1
        have hw73 := hw
        clear hPc hDc hFc hz1 hk1 hP1 hK1 hD1
        generalize H1 = H at hP hS ⊢
        have hP : va_P (dC, dI) vcl [(r 9, .inl ((cT 0), 1400, .inl f9)), (r 12, .inl ((cT 0), 1200, .inl f12)), (r 3, .inl ((cT 0), 160, .inl f3)), (r 4, .inl ((cT 0), 4, .inl f4)), (r 0, .inl ((cT 1), 64, .inr (.inl f0))), (r 11, .inl ((cT 0), 16, .inl f11)), (r 13, .inl ((cT 0), 200, .inl f13)), (r 7, .inl ((cT 0), 1000, .inl f7)), (r 18, .inl ((cT 0), 41, .inl f18)), (r 19, .inl ((cT 0), 41, .inl f19)), (r 20, .inl ((cT 0), 41, .inl f20)), (r 21, .inl ((cT 0), 41, .inl f21)), (r 22, .inl ((cT 0), 8200, .inl f22)), (r 23, .inl ((cT 0), 656, .inl f23)), (mo, .inr (12, mdG r cd tm (nI sn) (nI 0) (nI lz) (nI (((az + 1) + 1 + i) + 1)) (nI na) (nI nt) (nI nr) mw ml mk dq)), (r 15, .inl ((cT 0), 200, .inl g15_72))] H := hP
        have hD : va_D A [(r 9, .inl ((cT 0), 1400, .inl f9)), (r 12, .inl ((cT 0), 1200, .inl f12)), (r 3, .inl ((cT 0), 160, .inl f3)), (r 4, .inl ((cT 0), 4, .inl f4)), (r 0, .inl ((cT 1), 64, .inr (.inl f0))), (r 11, .inl ((cT 0), 16, .inl f11)), (r 13, .inl ((cT 0), 200, .inl f13)), (r 7, .inl ((cT 0), 1000, .inl f7)), (r 18, .inl ((cT 0), 41, .inl f18)), (r 19, .inl ((cT 0), 41, .inl f19)), (r 20, .inl ((cT 0), 41, .inl f20)), (r 21, .inl ((cT 0), 41, .inl f21)), (r 22, .inl ((cT 0), 8200, .inl f22)), (r 23, .inl ((cT 0), 656, .inl f23)), (mo, .inr (12, mdG r cd tm (nI sn) (nI 0) (nI lz) (nI (((az + 1) + 1 + i) + 1)) (nI na) (nI nt) (nI nr) mw ml mk dq)), (r 15, .inl ((cT 0), 200, .inl g15_72))] := hD
        refine lv_iinc (k := 0) (v := nI (i + 1)) (lv' := [(4, .int (nI (i + 1))), (3, .int 1), (2, .int (nI (az + 2))), (0, .ref mo), (1, .int (nI st))]) hx hb d_Md_close_54 hl rfl (nI_1 i) (by decide) rfl (fun ls hl => ?_)
        refine lv_goto (tgt := 42) hx hb d_Md_close_57 (by decide) ?_
        have hl := lv_sub hl [0, 1, 2, 3, 4] (show _ = [(4, .int (nI (i + 1))), (3, .int 1), (2, .int (nI (az + 2))), (0, .ref mo), (1, .int (nI st))] from rfl)
        exact ih (i + 1) _ _ _ _ (by omega)  hP hD hS hl
    refine L65 _ (fun g15_64 H locs ls  hP hD hS hl => ?_) (16 - 0) 0 g15_62 H _ ls (by omega)  hP hD hS hl
    refine lv_aload_n hx hb d_Md_close_60 rfl (lv_at hl 3 rfl) ?_
    refine va_get (D := (dC, dI)) (ci := 12) (v := (.ref (r 15))) (C := R_Md) (T := F_Md) (N := 45) hx hb hg in_Md hown hK hP 14 rfl rfl 15 (by decide) (hg _ k_1035) (fun _ h9 => h9) rfl d_Md_close_61 ?_
    refine lv_iconst (v := 2) hx hb d_Md_close_64 (by decide) ?_
    refine lv_aload_n hx hb d_Md_close_65 rfl (lv_at hl 3 rfl) ?_
    refine va_get (D := (dC, dI)) (ci := 12) (v := (.int (nI ((az + 1) + 1 + 16)))) (C := R_Md) (T := F_Md) (N := 45) hx hb hg in_Md hown hK hP 14 rfl rfl 16 (by decide) (hg _ k_1036) (fun _ h9 => h9) rfl d_Md_close_66 ?_
    refine lv_sipush (v := 256) hx hb d_Md_close_69 (by decide) ?_
    refine lv_idiv hx hb d_Md_close_72 (by decide) ?_
    refine lv_topi (fun x75 e74 => ?_)
    obtain rfl : x75 = nI (((az + 1) + 1 + 16) / 256) := by rw [e74]; exact pk_div (d := 256) (by omega) (by decide) (by decide)
    refine va_iast hx hb hK hP hD hS 15 0 rfl rfl (i := 2) (vp_in_nI (n := 2) (N := 200) (by omega) (by decide)) d_Md_close_73 (fun H locs hP hD hS => ?_)
    have ef76 : upd g15_64 (2 : Int32).toNatClampNeg (nI (((az + 1) + 1 + 16) / 256)) = upd g15_64 2 (nI (((az + 1) + 1 + 16) / 256)) := rfl
    rw [ef76] at hP hD
    have hP : va_P (dC, dI) vcl [(r 9, .inl ((cT 0), 1400, .inl f9)), (r 12, .inl ((cT 0), 1200, .inl f12)), (r 3, .inl ((cT 0), 160, .inl f3)), (r 4, .inl ((cT 0), 4, .inl f4)), (r 0, .inl ((cT 1), 64, .inr (.inl f0))), (r 11, .inl ((cT 0), 16, .inl f11)), (r 13, .inl ((cT 0), 200, .inl f13)), (r 7, .inl ((cT 0), 1000, .inl f7)), (r 18, .inl ((cT 0), 41, .inl f18)), (r 19, .inl ((cT 0), 41, .inl f19)), (r 20, .inl ((cT 0), 41, .inl f20)), (r 21, .inl ((cT 0), 41, .inl f21)), (r 22, .inl ((cT 0), 8200, .inl f22)), (r 23, .inl ((cT 0), 656, .inl f23)), (mo, .inr (12, mdG r cd tm (nI sn) (nI 0) (nI lz) (nI ((az + 1) + 1 + 16)) (nI na) (nI nt) (nI nr) mw ml mk dq)), (r 15, .inl ((cT 0), 200, .inl (upd g15_64 2 (nI (((az + 1) + 1 + 16) / 256)))))] H := hP
    have hD : va_D A [(r 9, .inl ((cT 0), 1400, .inl f9)), (r 12, .inl ((cT 0), 1200, .inl f12)), (r 3, .inl ((cT 0), 160, .inl f3)), (r 4, .inl ((cT 0), 4, .inl f4)), (r 0, .inl ((cT 1), 64, .inr (.inl f0))), (r 11, .inl ((cT 0), 16, .inl f11)), (r 13, .inl ((cT 0), 200, .inl f13)), (r 7, .inl ((cT 0), 1000, .inl f7)), (r 18, .inl ((cT 0), 41, .inl f18)), (r 19, .inl ((cT 0), 41, .inl f19)), (r 20, .inl ((cT 0), 41, .inl f20)), (r 21, .inl ((cT 0), 41, .inl f21)), (r 22, .inl ((cT 0), 8200, .inl f22)), (r 23, .inl ((cT 0), 656, .inl f23)), (mo, .inr (12, mdG r cd tm (nI sn) (nI 0) (nI lz) (nI ((az + 1) + 1 + 16)) (nI na) (nI nt) (nI nr) mw ml mk dq)), (r 15, .inl ((cT 0), 200, .inl (upd g15_64 2 (nI (((az + 1) + 1 + 16) / 256)))))] := hD
    refine lv_aload_n hx hb d_Md_close_74 rfl (lv_at hl 3 rfl) ?_
    refine va_get (D := (dC, dI)) (ci := 12) (v := (.ref (r 15))) (C := R_Md) (T := F_Md) (N := 45) hx hb hg in_Md hown hK hP 14 rfl rfl 15 (by decide) (hg _ k_1035) (fun _ h9 => h9) rfl d_Md_close_75 ?_
    refine lv_iconst (v := 3) hx hb d_Md_close_78 (by decide) ?_
    refine lv_aload_n hx hb d_Md_close_79 rfl (lv_at hl 3 rfl) ?_
    refine va_get (D := (dC, dI)) (ci := 12) (v := (.int (nI ((az + 1) + 1 + 16)))) (C := R_Md) (T := F_Md) (N := 45) hx hb hg in_Md hown hK hP 14 rfl rfl 16 (by decide) (hg _ k_1036) (fun _ h9 => h9) rfl d_Md_close_80 ?_
    refine lv_sipush (v := 256) hx hb d_Md_close_83 (by decide) ?_
    refine lv_irem hx hb d_Md_close_86 (by decide) ?_
    refine lv_topi (fun x78 e77 => ?_)
    obtain rfl : x78 = nI (((az + 1) + 1 + 16) % 256) := by rw [e77]; exact pk_rem (d := 256) (by omega) (by decide) (by decide)
    refine va_iast hx hb hK hP hD hS 15 0 rfl rfl (i := 3) (vp_in_nI (n := 3) (N := 200) (by omega) (by decide)) d_Md_close_87 (fun H locs hP hD hS => ?_)
    have ef79 : upd (upd g15_64 2 (nI (((az + 1) + 1 + 16) / 256))) (3 : Int32).toNatClampNeg (nI (((az + 1) + 1 + 16) % 256)) = upd (upd g15_64 2 (nI (((az + 1) + 1 + 16) / 256))) 3 (nI (((az + 1) + 1 + 16) % 256)) := rfl
    rw [ef79] at hP hD
    have hP : va_P (dC, dI) vcl [(r 9, .inl ((cT 0), 1400, .inl f9)), (r 12, .inl ((cT 0), 1200, .inl f12)), (r 3, .inl ((cT 0), 160, .inl f3)), (r 4, .inl ((cT 0), 4, .inl f4)), (r 0, .inl ((cT 1), 64, .inr (.inl f0))), (r 11, .inl ((cT 0), 16, .inl f11)), (r 13, .inl ((cT 0), 200, .inl f13)), (r 7, .inl ((cT 0), 1000, .inl f7)), (r 18, .inl ((cT 0), 41, .inl f18)), (r 19, .inl ((cT 0), 41, .inl f19)), (r 20, .inl ((cT 0), 41, .inl f20)), (r 21, .inl ((cT 0), 41, .inl f21)), (r 22, .inl ((cT 0), 8200, .inl f22)), (r 23, .inl ((cT 0), 656, .inl f23)), (mo, .inr (12, mdG r cd tm (nI sn) (nI 0) (nI lz) (nI ((az + 1) + 1 + 16)) (nI na) (nI nt) (nI nr) mw ml mk dq)), (r 15, .inl ((cT 0), 200, .inl (upd (upd g15_64 2 (nI (((az + 1) + 1 + 16) / 256))) 3 (nI (((az + 1) + 1 + 16) % 256)))))] H := hP
    have hD : va_D A [(r 9, .inl ((cT 0), 1400, .inl f9)), (r 12, .inl ((cT 0), 1200, .inl f12)), (r 3, .inl ((cT 0), 160, .inl f3)), (r 4, .inl ((cT 0), 4, .inl f4)), (r 0, .inl ((cT 1), 64, .inr (.inl f0))), (r 11, .inl ((cT 0), 16, .inl f11)), (r 13, .inl ((cT 0), 200, .inl f13)), (r 7, .inl ((cT 0), 1000, .inl f7)), (r 18, .inl ((cT 0), 41, .inl f18)), (r 19, .inl ((cT 0), 41, .inl f19)), (r 20, .inl ((cT 0), 41, .inl f20)), (r 21, .inl ((cT 0), 41, .inl f21)), (r 22, .inl ((cT 0), 8200, .inl f22)), (r 23, .inl ((cT 0), 656, .inl f23)), (mo, .inr (12, mdG r cd tm (nI sn) (nI 0) (nI lz) (nI ((az + 1) + 1 + 16)) (nI na) (nI nt) (nI nr) mw ml mk dq)), (r 15, .inl ((cT 0), 200, .inl (upd (upd g15_64 2 (nI (((az + 1) + 1 + 16) / 256))) 3 (nI (((az + 1) + 1 + 16) % 256)))))] := hD
    refine lv_iload_n hx hb d_Md_close_88 rfl (lv_at hl 1 rfl) ?_
    refine lv_if_eq (tgt := 158) hx hb d_Md_close_89 (by decide) (fun hn9 => absurd hn9 (by decide)) (fun hc80 => ?_)
    refine lv_iconst (v := 0) hx hb d_Md_close_92 (by decide) ?_
    refine lv_istore (lv' := [(4, .int 0), (3, .int 1), (2, .int (nI (az + 2))), (0, .ref mo), (1, .int (nI st))]) hx hb d_Md_close_93 hl (by decide) rfl (fun ls hl => ?_)
    have hl := lv_sub hl [0, 1, 2, 3, 4] (show _ = [(4, .int 0), (3, .int 1), (2, .int (nI (az + 2))), (0, .ref mo), (1, .int (nI st))] from rfl)
    have L82 : ∀ (Q : State → Prop) (exit : ∀ (g9_81 : Nat → Int32) (H : Heap) (locs : List Loc) (ls : Array Slot), va_P (dC, dI) vcl [(r 9, .inl ((cT 0), 1400, .inl g9_81)), (r 12, .inl ((cT 0), 1200, .inl f12)), (r 3, .inl ((cT 0), 160, .inl f3)), (r 4, .inl ((cT 0), 4, .inl f4)), (r 0, .inl ((cT 1), 64, .inr (.inl f0))), (r 11, .inl ((cT 0), 16, .inl f11)), (r 13, .inl ((cT 0), 200, .inl f13)), (r 7, .inl ((cT 0), 1000, .inl f7)), (r 18, .inl ((cT 0), 41, .inl f18)), (r 19, .inl ((cT 0), 41, .inl f19)), (r 20, .inl ((cT 0), 41, .inl f20)), (r 21, .inl ((cT 0), 41, .inl f21)), (r 22, .inl ((cT 0), 8200, .inl f22)), (r 23, .inl ((cT 0), 656, .inl f23)), (mo, .inr (12, mdG r cd tm (nI sn) (nI (((az + 1) + 1 + 16))) (nI lz) (nI ((az + 1) + 1 + 16)) (nI na) (nI nt) (nI nr) mw ml mk dq)), (r 15, .inl ((cT 0), 200, .inl (upd (upd g15_64 2 (nI (((az + 1) + 1 + 16) / 256))) 3 (nI (((az + 1) + 1 + 16) % 256)))))] H → va_D A [(r 9, .inl ((cT 0), 1400, .inl g9_81)), (r 12, .inl ((cT 0), 1200, .inl f12)), (r 3, .inl ((cT 0), 160, .inl f3)), (r 4, .inl ((cT 0), 4, .inl f4)), (r 0, .inl ((cT 1), 64, .inr (.inl f0))), (r 11, .inl ((cT 0), 16, .inl f11)), (r 13, .inl ((cT 0), 200, .inl f13)), (r 7, .inl ((cT 0), 1000, .inl f7)), (r 18, .inl ((cT 0), 41, .inl f18)), (r 19, .inl ((cT 0), 41, .inl f19)), (r 20, .inl ((cT 0), 41, .inl f20)), (r 21, .inl ((cT 0), 41, .inl f21)), (r 22, .inl ((cT 0), 8200, .inl f22)), (r 23, .inl ((cT 0), 656, .inl f23)), (mo, .inr (12, mdG r cd tm (nI sn) (nI (((az + 1) + 1 + 16))) (nI lz) (nI ((az + 1) + 1 + 16)) (nI na) (nI nt) (nI nr) mw ml mk dq)), (r 15, .inl ((cT 0), 200, .inl (upd (upd g15_64 2 (nI (((az + 1) + 1 + 16) / 256))) 3 (nI (((az + 1) + 1 + 16) % 256)))))] → va_S A s.heap H locs → lv_has ls 5 [(4, .int (nI ((az + 1) + 1 + 16))), (3, .int 1), (2, .int (nI (az + 2))), (0, .ref mo), (1, .int (nI st))] → W p l e ({ frames := 3, cells := 0, slots := 0, locals := 95 } : Room) s m args below meth c H locs 0 0 Q (F0 m 121 ls [])) (j8 i : Nat) (g9_81 : Nat → Int32) (H : Heap) (locs : List Loc) (ls : Array Slot), i + j8 = (az + 1) + 1 + 16 → va_P (dC, dI) vcl [(r 9, .inl ((cT 0), 1400, .inl g9_81)), (r 12, .inl ((cT 0), 1200, .inl f12)), (r 3, .inl ((cT 0), 160, .inl f3)), (r 4, .inl ((cT 0), 4, .inl f4)), (r 0, .inl ((cT 1), 64, .inr (.inl f0))), (r 11, .inl ((cT 0), 16, .inl f11)), (r 13, .inl ((cT 0), 200, .inl f13)), (r 7, .inl ((cT 0), 1000, .inl f7)), (r 18, .inl ((cT 0), 41, .inl f18)), (r 19, .inl ((cT 0), 41, .inl f19)), (r 20, .inl ((cT 0), 41, .inl f20)), (r 21, .inl ((cT 0), 41, .inl f21)), (r 22, .inl ((cT 0), 8200, .inl f22)), (r 23, .inl ((cT 0), 656, .inl f23)), (mo, .inr (12, mdG r cd tm (nI sn) (nI (i)) (nI lz) (nI ((az + 1) + 1 + 16)) (nI na) (nI nt) (nI nr) mw ml mk dq)), (r 15, .inl ((cT 0), 200, .inl (upd (upd g15_64 2 (nI (((az + 1) + 1 + 16) / 256))) 3 (nI (((az + 1) + 1 + 16) % 256)))))] H → va_D A [(r 9, .inl ((cT 0), 1400, .inl g9_81)), (r 12, .inl ((cT 0), 1200, .inl f12)), (r 3, .inl ((cT 0), 160, .inl f3)), (r 4, .inl ((cT 0), 4, .inl f4)), (r 0, .inl ((cT 1), 64, .inr (.inl f0))), (r 11, .inl ((cT 0), 16, .inl f11)), (r 13, .inl ((cT 0), 200, .inl f13)), (r 7, .inl ((cT 0), 1000, .inl f7)), (r 18, .inl ((cT 0), 41, .inl f18)), (r 19, .inl ((cT 0), 41, .inl f19)), (r 20, .inl ((cT 0), 41, .inl f20)), (r 21, .inl ((cT 0), 41, .inl f21)), (r 22, .inl ((cT 0), 8200, .inl f22)), (r 23, .inl ((cT 0), 656, .inl f23)), (mo, .inr (12, mdG r cd tm (nI sn) (nI (i)) (nI lz) (nI ((az + 1) + 1 + 16)) (nI na) (nI nt) (nI nr) mw ml mk dq)), (r 15, .inl ((cT 0), 200, .inl (upd (upd g15_64 2 (nI (((az + 1) + 1 + 16) / 256))) 3 (nI (((az + 1) + 1 + 16) % 256)))))] → va_S A s.heap H locs → lv_has ls 5 [(4, .int (nI i)), (3, .int 1), (2, .int (nI (az + 2))), (0, .ref mo), (1, .int (nI st))] → W p l e ({ frames := 3, cells := 0, slots := 0, locals := 95 } : Room) s m args below meth c H locs 0 0 Q (F0 m 95 ls []) := by
      intro Q exit j8
      induction j8 with
      | zero => 
        intro i g9_81 H locs ls hij  hP hD hS hl
        have hij : (az + 1) + 1 + 16 = i := by omega
        refine lv_iload hx hb d_Md_close_95 (lv_at hl 0 rfl) ?_
        refine lv_aload_n hx hb d_Md_close_97 rfl (lv_at hl 3 rfl) ?_
        refine va_get (D := (dC, dI)) (ci := 12) (v := (.int (nI ((az + 1) + 1 + 16)))) (C := R_Md) (T := F_Md) (N := 45) hx hb hg in_Md hown hK hP 14 rfl rfl 16 (by decide) (hg _ k_1036) (fun _ h9 => h9) rfl d_Md_close_98 ?_
        refine lv_icmp_ge (tgt := 121) hx hb d_Md_close_101 (by decide) (fun hc83 => ?_) (fun hn9 => absurd (nI_le (by omega) (by omega)) hn9)
        subst hij
        exact exit g9_81 _ _ _  hP hD hS hl
      | succ j8 ih => 
        intro i g9_81 H locs ls hij  hP hD hS hl
        have hlt : i < (az + 1) + 1 + 16 := by omega
        have hlti := hlt
        refine lv_iload hx hb d_Md_close_95 (lv_at hl 0 rfl) ?_
        refine lv_aload_n hx hb d_Md_close_97 rfl (lv_at hl 3 rfl) ?_
        refine va_get (D := (dC, dI)) (ci := 12) (v := (.int (nI ((az + 1) + 1 + 16)))) (C := R_Md) (T := F_Md) (N := 45) hx hb hg in_Md hown hK hP 14 rfl rfl 16 (by decide) (hg _ k_1036) (fun _ h9 => h9) rfl d_Md_close_98 ?_
        refine lv_icmp_ge (tgt := 121) hx hb d_Md_close_101 (by decide) (fun hn9 => absurd hn9 (nI_ge (by omega) (by omega))) (fun hc84 => ?_)
        refine lv_aload_n hx hb d_Md_close_104 rfl (lv_at hl 3 rfl) ?_
        refine lv_aload_n hx hb d_Md_close_105 rfl (lv_at hl 3 rfl) ?_
        refine va_get (D := (dC, dI)) (ci := 12) (v := (.ref (r 15))) (C := R_Md) (T := F_Md) (N := 45) hx hb hg in_Md hown hK hP 14 rfl rfl 15 (by decide) (hg _ k_1035) (fun _ h9 => h9) rfl d_Md_close_106 ?_
        refine lv_iload hx hb d_Md_close_109 (lv_at hl 0 rfl) ?_
        refine va_iald hx hb hK hP 15 0 rfl rfl (i := (nI i)) (vp_in_nI (N := 200) (by omega) (by decide)) d_Md_close_111 ?_
        refine lv_topi (fun x85 e_x85 => ?_)
        clear e_x85
        have hPc := hP.sub (ws' := [(mo, .inr (12, mdG r cd tm (nI sn) (nI i) (nI lz) (nI ((az + 1) + 1 + 16)) (nI na) (nI nt) (nI nr) mw ml mk dq)), (r 9, .inl ((cT 0), 1400, .inl g9_81))]) [14, 0] rfl
        have hDc := hD.sub (ws' := [(mo, .inr (12, mdG r cd tm (nI sn) (nI i) (nI lz) (nI ((az + 1) + 1 + 16)) (nI na) (nI nt) (nI nr) mw ml mk dq)), (r 9, .inl ((cT 0), 1400, .inl g9_81))]) [14, 0] (by decide) rfl
        have hFc := va_free (wc := [(mo, .inr (12, mdG r cd tm (nI sn) (nI i) (nI lz) (nI ((az + 1) + 1 + 16)) (nI na) (nI nt) (nI nr) mw ml mk dq)), (r 9, .inl ((cT 0), 1400, .inl g9_81))]) hD hS hA [14, 0] rfl
        refine va_callv (va_runV (C := "DoorServerModel") (As := [.int x85]) (rest := []) ⟨hx, hb, hml, hown, hg⟩ (m_say l dC dI cT H.size mo r cd tm sn i lz ((az + 1) + 1 + 16) na nt nr mw ml mk dq g9_81 x85 (by first | assumption | omega)) (cwV 1 hg (gI (List.forall_mem_append.mpr ⟨List.forall_mem_cons.mpr ⟨k_1220, List.forall_mem_cons.mpr ⟨k_1222, List.forall_mem_cons.mpr ⟨(big_sel (q := y_Md_say) (n := 45) (by decide +kernel)), List.forall_mem_cons.mpr ⟨k_13, fun _ h => absurd h List.not_mem_nil⟩⟩⟩⟩, List.forall_mem_cons.mpr ⟨k_1223, fun _ h => h⟩⟩)) rfl rfl rfl (by decide +kernel) ⟨Nat.le_of_ble_eq_true rfl, Nat.le_of_ble_eq_true rfl⟩) ⟨fun a U g mk q => by obtain ⟨q0, q1, qP, qK, qD⟩ := q; exact ⟨q0, q1, qP, va_K.moved (u := U) (U := U.calling g mk a) (Vm.Alike.refl U.vm) qK, qD⟩, va_recv (q0 := 14) (ci := 12) hK hP rfl rfl, fun U hU hW => ⟨rfl, by rw [hU], by rw [hU]; exact hPc, va_K.moved hW.alike hK, hDc.weaken (fun _ _ _ _ => trivial)⟩⟩ rfl rfl hl.1 rfl (lv_room (Nat.le_of_ble_eq_true rfl)) d_Md_close_112 ⟨Nat.le_of_ble_eq_true rfl, Nat.le_of_ble_eq_true rfl⟩) hS (fun q _ h => hFc q h) hFc (fun u t H1 locs ht hvm hw hB hz1 hk1 hS => ?_)
        obtain ⟨g9_86, rfl⟩ : ∃ z, z = u := ⟨_, rfl⟩
        try dsimp only at hw hB
        obtain ⟨hP1, hK1, hD1⟩ := hB
        rw [ht] at hP1
        obtain ⟨hP, hD⟩ := va_join (wr := [(r 12, .inl ((cT 0), 1200, .inl f12)), (r 3, .inl ((cT 0), 160, .inl f3)), (r 4, .inl ((cT 0), 4, .inl f4)), (r 0, .inl ((cT 1), 64, .inr (.inl f0))), (r 11, .inl ((cT 0), 16, .inl f11)), (r 13, .inl ((cT 0), 200, .inl f13)), (r 7, .inl ((cT 0), 1000, .inl f7)), (r 18, .inl ((cT 0), 41, .inl f18)), (r 19, .inl ((cT 0), 41, .inl f19)), (r 20, .inl ((cT 0), 41, .inl f20)), (r 21, .inl ((cT 0), 41, .inl f21)), (r 22, .inl ((cT 0), 8200, .inl f22)), (r 23, .inl ((cT 0), 656, .inl f23)), (r 15, .inl ((cT 0), 200, .inl (upd (upd g15_64 2 (nI (((az + 1) + 1 + 16) / 256))) 3 (nI (((az + 1) + 1 + 16) % 256)))))]) (w1 := [(mo, .inr (12, mdG r cd tm (nI sn) (nI (i + 1)) (nI lz) (nI ((az + 1) + 1 + 16)) (nI na) (nI nt) (nI nr) mw ml mk dq)), (r 9, .inl ((cT 0), 1400, .inl g9_86))]) hP hD [14, 0] [1, 2, 3, 4, 5, 6, 7, 8, 9, 10, 11, 12, 13, 15] rfl rfl (by decide) (by decide) hk1 hFc hP1 hD1
        have hw87 := hw
        clear hPc hDc hFc hz1 hk1 hP1 hK1 hD1
        generalize H1 = H at hP hS ⊢
        have hP : va_P (dC, dI) vcl [(r 12, .inl ((cT 0), 1200, .inl f12)), (r 3, .inl ((cT 0), 160, .inl f3)), (r 4, .inl ((cT 0), 4, .inl f4)), (r 0, .inl ((cT 1), 64, .inr (.inl f0))), (r 11, .inl ((cT 0), 16, .inl f11)), (r 13, .inl ((cT 0), 200, .inl f13)), (r 7, .inl ((cT 0), 1000, .inl f7)), (r 18, .inl ((cT 0), 41, .inl f18)), (r 19, .inl ((cT 0), 41, .inl f19)), (r 20, .inl ((cT 0), 41, .inl f20)), (r 21, .inl ((cT 0), 41, .inl f21)), (r 22, .inl ((cT 0), 8200, .inl f22)), (r 23, .inl ((cT 0), 656, .inl f23)), (r 15, .inl ((cT 0), 200, .inl (upd (upd g15_64 2 (nI (((az + 1) + 1 + 16) / 256))) 3 (nI (((az + 1) + 1 + 16) % 256))))), (mo, .inr (12, mdG r cd tm (nI sn) (nI (i + 1)) (nI lz) (nI ((az + 1) + 1 + 16)) (nI na) (nI nt) (nI nr) mw ml mk dq)), (r 9, .inl ((cT 0), 1400, .inl g9_86))] H := hP
        have hD : va_D A [(r 12, .inl ((cT 0), 1200, .inl f12)), (r 3, .inl ((cT 0), 160, .inl f3)), (r 4, .inl ((cT 0), 4, .inl f4)), (r 0, .inl ((cT 1), 64, .inr (.inl f0))), (r 11, .inl ((cT 0), 16, .inl f11)), (r 13, .inl ((cT 0), 200, .inl f13)), (r 7, .inl ((cT 0), 1000, .inl f7)), (r 18, .inl ((cT 0), 41, .inl f18)), (r 19, .inl ((cT 0), 41, .inl f19)), (r 20, .inl ((cT 0), 41, .inl f20)), (r 21, .inl ((cT 0), 41, .inl f21)), (r 22, .inl ((cT 0), 8200, .inl f22)), (r 23, .inl ((cT 0), 656, .inl f23)), (r 15, .inl ((cT 0), 200, .inl (upd (upd g15_64 2 (nI (((az + 1) + 1 + 16) / 256))) 3 (nI (((az + 1) + 1 + 16) % 256))))), (mo, .inr (12, mdG r cd tm (nI sn) (nI (i + 1)) (nI lz) (nI ((az + 1) + 1 + 16)) (nI na) (nI nt) (nI nr) mw ml mk dq)), (r 9, .inl ((cT 0), 1400, .inl g9_86))] := hD
        refine lv_iinc (k := 0) (v := nI (i + 1)) (lv' := [(4, .int (nI (i + 1))), (3, .int 1), (2, .int (nI (az + 2))), (0, .ref mo), (1, .int (nI st))]) hx hb d_Md_close_115 hl rfl (nI_1 i) (by decide) rfl (fun ls hl => ?_)
        refine lv_goto (tgt := 95) hx hb d_Md_close_118 (by decide) ?_
        have hl := lv_sub hl [0, 1, 2, 3, 4] (show _ = [(4, .int (nI (i + 1))), (3, .int 1), (2, .int (nI (az + 2))), (0, .ref mo), (1, .int (nI st))] from rfl)
        have hP := hP.sub (ws' := [(r 9, .inl ((cT 0), 1400, .inl g9_86)), (r 12, .inl ((cT 0), 1200, .inl f12)), (r 3, .inl ((cT 0), 160, .inl f3)), (r 4, .inl ((cT 0), 4, .inl f4)), (r 0, .inl ((cT 1), 64, .inr (.inl f0))), (r 11, .inl ((cT 0), 16, .inl f11)), (r 13, .inl ((cT 0), 200, .inl f13)), (r 7, .inl ((cT 0), 1000, .inl f7)), (r 18, .inl ((cT 0), 41, .inl f18)), (r 19, .inl ((cT 0), 41, .inl f19)), (r 20, .inl ((cT 0), 41, .inl f20)), (r 21, .inl ((cT 0), 41, .inl f21)), (r 22, .inl ((cT 0), 8200, .inl f22)), (r 23, .inl ((cT 0), 656, .inl f23)), (mo, .inr (12, mdG r cd tm (nI sn) (nI (i + 1)) (nI lz) (nI ((az + 1) + 1 + 16)) (nI na) (nI nt) (nI nr) mw ml mk dq)), (r 15, .inl ((cT 0), 200, .inl (upd (upd g15_64 2 (nI (((az + 1) + 1 + 16) / 256))) 3 (nI (((az + 1) + 1 + 16) % 256)))))]) [15, 0, 1, 2, 3, 4, 5, 6, 7, 8, 9, 10, 11, 12, 14, 13] rfl
        have hD := hD.sub (ws' := [(r 9, .inl ((cT 0), 1400, .inl g9_86)), (r 12, .inl ((cT 0), 1200, .inl f12)), (r 3, .inl ((cT 0), 160, .inl f3)), (r 4, .inl ((cT 0), 4, .inl f4)), (r 0, .inl ((cT 1), 64, .inr (.inl f0))), (r 11, .inl ((cT 0), 16, .inl f11)), (r 13, .inl ((cT 0), 200, .inl f13)), (r 7, .inl ((cT 0), 1000, .inl f7)), (r 18, .inl ((cT 0), 41, .inl f18)), (r 19, .inl ((cT 0), 41, .inl f19)), (r 20, .inl ((cT 0), 41, .inl f20)), (r 21, .inl ((cT 0), 41, .inl f21)), (r 22, .inl ((cT 0), 8200, .inl f22)), (r 23, .inl ((cT 0), 656, .inl f23)), (mo, .inr (12, mdG r cd tm (nI sn) (nI (i + 1)) (nI lz) (nI ((az + 1) + 1 + 16)) (nI na) (nI nt) (nI nr) mw ml mk dq)), (r 15, .inl ((cT 0), 200, .inl (upd (upd g15_64 2 (nI (((az + 1) + 1 + 16) / 256))) 3 (nI (((az + 1) + 1 + 16) % 256)))))]) [15, 0, 1, 2, 3, 4, 5, 6, 7, 8, 9, 10, 11, 12, 14, 13] (by decide) rfl
        exact ih (i + 1) _ _ _ _ (by omega)  hP hD hS hl
    refine L82 _ (fun g9_81 H locs ls  hP hD hS hl => ?_) ((az + 1) + 1 + 16 - 0) 0 f9 H _ ls (by omega)  hP hD hS hl
    refine lv_aload_n hx hb d_Md_close_121 rfl (lv_at hl 3 rfl) ?_
    refine lv_iload_n hx hb d_Md_close_122 rfl (lv_at hl 4 rfl) ?_
    have hPc := hP.sub (ws' := [(mo, .inr (12, mdG r cd tm (nI sn) (nI ((az + 1) + 1 + 16)) (nI lz) (nI ((az + 1) + 1 + 16)) (nI na) (nI nt) (nI nr) mw ml mk dq)), (r 9, .inl ((cT 0), 1400, .inl g9_81)), (r 12, .inl ((cT 0), 1200, .inl f12)), (r 3, .inl ((cT 0), 160, .inl f3)), (r 4, .inl ((cT 0), 4, .inl f4)), (r 0, .inl ((cT 1), 64, .inr (.inl f0))), (r 11, .inl ((cT 0), 16, .inl f11))]) [14, 0, 1, 2, 3, 4, 5] rfl
    have hDc := hD.sub (ws' := [(mo, .inr (12, mdG r cd tm (nI sn) (nI ((az + 1) + 1 + 16)) (nI lz) (nI ((az + 1) + 1 + 16)) (nI na) (nI nt) (nI nr) mw ml mk dq)), (r 9, .inl ((cT 0), 1400, .inl g9_81)), (r 12, .inl ((cT 0), 1200, .inl f12)), (r 3, .inl ((cT 0), 160, .inl f3)), (r 4, .inl ((cT 0), 4, .inl f4)), (r 0, .inl ((cT 1), 64, .inr (.inl f0))), (r 11, .inl ((cT 0), 16, .inl f11))]) [14, 0, 1, 2, 3, 4, 5] (by decide) rfl
    have hFc := va_free (wc := [(mo, .inr (12, mdG r cd tm (nI sn) (nI ((az + 1) + 1 + 16)) (nI lz) (nI ((az + 1) + 1 + 16)) (nI na) (nI nt) (nI nr) mw ml mk dq)), (r 9, .inl ((cT 0), 1400, .inl g9_81)), (r 12, .inl ((cT 0), 1200, .inl f12)), (r 3, .inl ((cT 0), 160, .inl f3)), (r 4, .inl ((cT 0), 4, .inl f4)), (r 0, .inl ((cT 1), 64, .inr (.inl f0))), (r 11, .inl ((cT 0), 16, .inl f11))]) hD hS hA [14, 0, 1, 2, 3, 4, 5] rfl
    refine va_callv (va_runV (C := "DoorServerModel") (As := [.int (nI st)]) (rest := []) ⟨hx, hb, hml, hown, hg⟩ (m_keyed l dC dI cT H.size mo r cd tm sn ((az + 1) + 1 + 16) lz ((az + 1) + 1 + 16) na nt nr mw ml mk dq g9_81 f12 f3 f4 f0 f11 st sl (by first | assumption | omega) (by first | assumption | omega) (by first | assumption | omega) (by first | assumption | omega) (by first | assumption | omega)) (cwV 1 hg (gI (List.forall_mem_append.mpr ⟨List.forall_mem_cons.mpr ⟨k_1267, List.forall_mem_cons.mpr ⟨k_1269, List.forall_mem_cons.mpr ⟨(big_sel (q := y_Md_keyed) (n := 45) (by decide +kernel)), List.forall_mem_cons.mpr ⟨k_13, fun _ h => absurd h List.not_mem_nil⟩⟩⟩⟩, List.forall_mem_cons.mpr ⟨k_1270, fun _ h => h⟩⟩)) rfl rfl rfl (by decide +kernel) ⟨Nat.le_of_ble_eq_true rfl, Nat.le_of_ble_eq_true rfl⟩) ⟨fun a U g mk q => by obtain ⟨q0, q1, qP, qK, qD⟩ := q; exact ⟨q0, q1, qP, va_K.moved (u := U) (U := U.calling g mk a) (Vm.Alike.refl U.vm) qK, qD⟩, va_recv (q0 := 14) (ci := 12) hK hP rfl rfl, fun U hU hW => ⟨rfl, by rw [hU], by rw [hU]; exact hPc, va_K.moved hW.alike hK, hDc.weaken (fun _ _ _ _ => trivial)⟩⟩ rfl rfl hl.1 rfl (lv_room (Nat.le_of_ble_eq_true rfl)) d_Md_close_123 ⟨Nat.le_of_ble_eq_true rfl, Nat.le_of_ble_eq_true rfl⟩) hS (fun q _ h => hFc q h) hFc (fun u t H1 locs ht hvm hw hB hz1 hk1 hS => ?_)
    obtain ⟨g9_88, g12_89, g11_90⟩ := u
    try dsimp only at hw hB
    obtain ⟨hP1, hK1, hD1⟩ := hB
    rw [ht] at hP1
    obtain ⟨hP, hD⟩ := va_join (wr := [(r 13, .inl ((cT 0), 200, .inl f13)), (r 7, .inl ((cT 0), 1000, .inl f7)), (r 18, .inl ((cT 0), 41, .inl f18)), (r 19, .inl ((cT 0), 41, .inl f19)), (r 20, .inl ((cT 0), 41, .inl f20)), (r 21, .inl ((cT 0), 41, .inl f21)), (r 22, .inl ((cT 0), 8200, .inl f22)), (r 23, .inl ((cT 0), 656, .inl f23)), (r 15, .inl ((cT 0), 200, .inl (upd (upd g15_64 2 (nI (((az + 1) + 1 + 16) / 256))) 3 (nI (((az + 1) + 1 + 16) % 256)))))]) (w1 := [(mo, .inr (12, mdG r cd tm (nI sn) (nI 0) (nI lz) (nI ((az + 1) + 1 + 16)) (nI na) (nI nt) (nI nr) mw ml mk dq)), (r 9, .inl ((cT 0), 1400, .inl g9_88)), (r 12, .inl ((cT 0), 1200, .inl g12_89)), (r 3, .inl ((cT 0), 160, .inl f3)), (r 4, .inl ((cT 0), 4, .inl f4)), (r 0, .inl ((cT 1), 64, .inr (.inl f0))), (r 11, .inl ((cT 0), 16, .inl g11_90))]) hP hD [14, 0, 1, 2, 3, 4, 5] [6, 7, 8, 9, 10, 11, 12, 13, 15] rfl rfl (by decide) (by decide) hk1 hFc hP1 hD1
    have hw91 := hw
    clear hPc hDc hFc hz1 hk1 hP1 hK1 hD1
    generalize H1 = H at hP hS ⊢
    have hP : va_P (dC, dI) vcl [(r 13, .inl ((cT 0), 200, .inl f13)), (r 7, .inl ((cT 0), 1000, .inl f7)), (r 18, .inl ((cT 0), 41, .inl f18)), (r 19, .inl ((cT 0), 41, .inl f19)), (r 20, .inl ((cT 0), 41, .inl f20)), (r 21, .inl ((cT 0), 41, .inl f21)), (r 22, .inl ((cT 0), 8200, .inl f22)), (r 23, .inl ((cT 0), 656, .inl f23)), (r 15, .inl ((cT 0), 200, .inl (upd (upd g15_64 2 (nI (((az + 1) + 1 + 16) / 256))) 3 (nI (((az + 1) + 1 + 16) % 256))))), (mo, .inr (12, mdG r cd tm (nI sn) (nI 0) (nI lz) (nI ((az + 1) + 1 + 16)) (nI na) (nI nt) (nI nr) mw ml mk dq)), (r 9, .inl ((cT 0), 1400, .inl g9_88)), (r 12, .inl ((cT 0), 1200, .inl g12_89)), (r 3, .inl ((cT 0), 160, .inl f3)), (r 4, .inl ((cT 0), 4, .inl f4)), (r 0, .inl ((cT 1), 64, .inr (.inl f0))), (r 11, .inl ((cT 0), 16, .inl g11_90))] H := hP
    have hD : va_D A [(r 13, .inl ((cT 0), 200, .inl f13)), (r 7, .inl ((cT 0), 1000, .inl f7)), (r 18, .inl ((cT 0), 41, .inl f18)), (r 19, .inl ((cT 0), 41, .inl f19)), (r 20, .inl ((cT 0), 41, .inl f20)), (r 21, .inl ((cT 0), 41, .inl f21)), (r 22, .inl ((cT 0), 8200, .inl f22)), (r 23, .inl ((cT 0), 656, .inl f23)), (r 15, .inl ((cT 0), 200, .inl (upd (upd g15_64 2 (nI (((az + 1) + 1 + 16) / 256))) 3 (nI (((az + 1) + 1 + 16) % 256))))), (mo, .inr (12, mdG r cd tm (nI sn) (nI 0) (nI lz) (nI ((az + 1) + 1 + 16)) (nI na) (nI nt) (nI nr) mw ml mk dq)), (r 9, .inl ((cT 0), 1400, .inl g9_88)), (r 12, .inl ((cT 0), 1200, .inl g12_89)), (r 3, .inl ((cT 0), 160, .inl f3)), (r 4, .inl ((cT 0), 4, .inl f4)), (r 0, .inl ((cT 1), 64, .inr (.inl f0))), (r 11, .inl ((cT 0), 16, .inl g11_90))] := hD
    have k92 := hw91
    refine lv_iconst (v := 0) hx hb d_Md_close_126 (by decide) ?_
    refine lv_istore (lv' := [(4, .int 0), (3, .int 1), (2, .int (nI (az + 2))), (0, .ref mo), (1, .int (nI st))]) hx hb d_Md_close_127 hl (by decide) rfl (fun ls hl => ?_)
    have hl := lv_sub hl [0, 1, 2, 3, 4] (show _ = [(4, .int 0), (3, .int 1), (2, .int (nI (az + 2))), (0, .ref mo), (1, .int (nI st))] from rfl)
    have L94 : ∀ (Q : State → Prop) (exit : ∀ (g15_93 : Nat → Int32) (H : Heap) (locs : List Loc) (ls : Array Slot), va_P (dC, dI) vcl [(r 13, .inl ((cT 0), 200, .inl f13)), (r 7, .inl ((cT 0), 1000, .inl f7)), (r 18, .inl ((cT 0), 41, .inl f18)), (r 19, .inl ((cT 0), 41, .inl f19)), (r 20, .inl ((cT 0), 41, .inl f20)), (r 21, .inl ((cT 0), 41, .inl f21)), (r 22, .inl ((cT 0), 8200, .inl f22)), (r 23, .inl ((cT 0), 656, .inl f23)), (r 15, .inl ((cT 0), 200, .inl g15_93)), (mo, .inr (12, mdG r cd tm (nI sn) (nI 0) (nI lz) (nI ((az + 1) + 1 + 16)) (nI na) (nI nt) (nI nr) mw ml mk dq)), (r 9, .inl ((cT 0), 1400, .inl g9_88)), (r 12, .inl ((cT 0), 1200, .inl g12_89)), (r 3, .inl ((cT 0), 160, .inl f3)), (r 4, .inl ((cT 0), 4, .inl f4)), (r 0, .inl ((cT 1), 64, .inr (.inl f0))), (r 11, .inl ((cT 0), 16, .inl g11_90))] H → va_D A [(r 13, .inl ((cT 0), 200, .inl f13)), (r 7, .inl ((cT 0), 1000, .inl f7)), (r 18, .inl ((cT 0), 41, .inl f18)), (r 19, .inl ((cT 0), 41, .inl f19)), (r 20, .inl ((cT 0), 41, .inl f20)), (r 21, .inl ((cT 0), 41, .inl f21)), (r 22, .inl ((cT 0), 8200, .inl f22)), (r 23, .inl ((cT 0), 656, .inl f23)), (r 15, .inl ((cT 0), 200, .inl g15_93)), (mo, .inr (12, mdG r cd tm (nI sn) (nI 0) (nI lz) (nI ((az + 1) + 1 + 16)) (nI na) (nI nt) (nI nr) mw ml mk dq)), (r 9, .inl ((cT 0), 1400, .inl g9_88)), (r 12, .inl ((cT 0), 1200, .inl g12_89)), (r 3, .inl ((cT 0), 160, .inl f3)), (r 4, .inl ((cT 0), 4, .inl f4)), (r 0, .inl ((cT 1), 64, .inr (.inl f0))), (r 11, .inl ((cT 0), 16, .inl g11_90))] → va_S A s.heap H locs → lv_has ls 5 [(4, .int (nI 16)), (3, .int 1), (2, .int (nI (az + 2))), (0, .ref mo), (1, .int (nI st))] → W p l e ({ frames := 3, cells := 0, slots := 0, locals := 95 } : Room) s m args below meth c H locs 0 0 Q (F0 m 158 ls [])) (j8 i : Nat) (g15_93 : Nat → Int32) (H : Heap) (locs : List Loc) (ls : Array Slot), i + j8 = 16 → va_P (dC, dI) vcl [(r 13, .inl ((cT 0), 200, .inl f13)), (r 7, .inl ((cT 0), 1000, .inl f7)), (r 18, .inl ((cT 0), 41, .inl f18)), (r 19, .inl ((cT 0), 41, .inl f19)), (r 20, .inl ((cT 0), 41, .inl f20)), (r 21, .inl ((cT 0), 41, .inl f21)), (r 22, .inl ((cT 0), 8200, .inl f22)), (r 23, .inl ((cT 0), 656, .inl f23)), (r 15, .inl ((cT 0), 200, .inl g15_93)), (mo, .inr (12, mdG r cd tm (nI sn) (nI 0) (nI lz) (nI ((az + 1) + 1 + 16)) (nI na) (nI nt) (nI nr) mw ml mk dq)), (r 9, .inl ((cT 0), 1400, .inl g9_88)), (r 12, .inl ((cT 0), 1200, .inl g12_89)), (r 3, .inl ((cT 0), 160, .inl f3)), (r 4, .inl ((cT 0), 4, .inl f4)), (r 0, .inl ((cT 1), 64, .inr (.inl f0))), (r 11, .inl ((cT 0), 16, .inl g11_90))] H → va_D A [(r 13, .inl ((cT 0), 200, .inl f13)), (r 7, .inl ((cT 0), 1000, .inl f7)), (r 18, .inl ((cT 0), 41, .inl f18)), (r 19, .inl ((cT 0), 41, .inl f19)), (r 20, .inl ((cT 0), 41, .inl f20)), (r 21, .inl ((cT 0), 41, .inl f21)), (r 22, .inl ((cT 0), 8200, .inl f22)), (r 23, .inl ((cT 0), 656, .inl f23)), (r 15, .inl ((cT 0), 200, .inl g15_93)), (mo, .inr (12, mdG r cd tm (nI sn) (nI 0) (nI lz) (nI ((az + 1) + 1 + 16)) (nI na) (nI nt) (nI nr) mw ml mk dq)), (r 9, .inl ((cT 0), 1400, .inl g9_88)), (r 12, .inl ((cT 0), 1200, .inl g12_89)), (r 3, .inl ((cT 0), 160, .inl f3)), (r 4, .inl ((cT 0), 4, .inl f4)), (r 0, .inl ((cT 1), 64, .inr (.inl f0))), (r 11, .inl ((cT 0), 16, .inl g11_90))] → va_S A s.heap H locs → lv_has ls 5 [(4, .int (nI i)), (3, .int 1), (2, .int (nI (az + 2))), (0, .ref mo), (1, .int (nI st))] → W p l e ({ frames := 3, cells := 0, slots := 0, locals := 95 } : Room) s m args below meth c H locs 0 0 Q (F0 m 129 ls []) := by
      intro Q exit j8
      induction j8 with
      | zero => 
        intro i g15_93 H locs ls hij  hP hD hS hl
        have hij : 16 = i := by omega
        refine lv_iload hx hb d_Md_close_129 (lv_at hl 0 rfl) ?_
        refine lv_bipush (v := 16) hx hb d_Md_close_131 (by decide) ?_
        refine lv_topi (fun x96 e95 => ?_)
        obtain rfl : x96 = nI 16 := by rw [e95]; rfl
        refine lv_icmp_ge (tgt := 158) hx hb d_Md_close_133 (by decide) (fun hc97 => ?_) (fun hn9 => absurd (nI_le (by omega) (by omega)) hn9)
        subst hij
        exact exit g15_93 _ _ _  hP hD hS hl
      | succ j8 ih => 
        intro i g15_93 H locs ls hij  hP hD hS hl
        have hlt : i < 16 := by omega
        have hlti := hlt
        refine lv_iload hx hb d_Md_close_129 (lv_at hl 0 rfl) ?_
        refine lv_bipush (v := 16) hx hb d_Md_close_131 (by decide) ?_
        refine lv_topi (fun x99 e98 => ?_)
        obtain rfl : x99 = nI 16 := by rw [e98]; rfl
        refine lv_icmp_ge (tgt := 158) hx hb d_Md_close_133 (by decide) (fun hn9 => absurd hn9 (nI_ge (by omega) (by omega))) (fun hc100 => ?_)
        refine lv_aload_n hx hb d_Md_close_136 rfl (lv_at hl 3 rfl) ?_
        refine va_get (D := (dC, dI)) (ci := 12) (v := (.ref (r 15))) (C := R_Md) (T := F_Md) (N := 45) hx hb hg in_Md hown hK hP 9 rfl rfl 15 (by decide) (hg _ k_1035) (fun _ h9 => h9) rfl d_Md_close_137 ?_
        refine lv_iload_n hx hb d_Md_close_140 rfl (lv_at hl 2 rfl) ?_
        refine lv_iload hx hb d_Md_close_141 (lv_at hl 0 rfl) ?_
        refine lv_iadd hx hb d_Md_close_143 ?_
        refine lv_topi (fun x102 e101 => ?_)
        obtain rfl : x102 = nI (az + 2 + i) := by rw [e101]; exact nI_add (az + 2) i
        refine lv_aload_n hx hb d_Md_close_144 rfl (lv_at hl 3 rfl) ?_
        refine va_get (D := (dC, dI)) (ci := 12) (v := (.ref (r 11))) (C := R_Md) (T := F_Md) (N := 45) hx hb hg in_Md hown hK hP 9 rfl rfl 11 (by decide) (hg _ k_1031) (fun _ h9 => h9) rfl d_Md_close_145 ?_
        refine lv_iload hx hb d_Md_close_148 (lv_at hl 0 rfl) ?_
        refine va_iald hx hb hK hP 15 0 rfl rfl (i := (nI i)) (vp_in_nI (N := 16) (by omega) (by decide)) d_Md_close_150 ?_
        refine lv_topi (fun x103 e_x103 => ?_)
        clear e_x103
        refine va_iast hx hb hK hP hD hS 8 0 rfl rfl (i := (nI (az + 2 + i))) (vp_in_nI (n := az + 2 + i) (N := 200) (by omega) (by decide)) d_Md_close_151 (fun H locs hP hD hS => ?_)
        have ef104 : upd g15_93 (nI (az + 2 + i)).toNatClampNeg x103 = upd g15_93 (az + 2 + i) x103 := by rw [show (nI (az + 2 + i)).toNatClampNeg = az + 2 + i from nI_clamp (by omega)]
        rw [ef104] at hP hD
        have hP : va_P (dC, dI) vcl [(r 13, .inl ((cT 0), 200, .inl f13)), (r 7, .inl ((cT 0), 1000, .inl f7)), (r 18, .inl ((cT 0), 41, .inl f18)), (r 19, .inl ((cT 0), 41, .inl f19)), (r 20, .inl ((cT 0), 41, .inl f20)), (r 21, .inl ((cT 0), 41, .inl f21)), (r 22, .inl ((cT 0), 8200, .inl f22)), (r 23, .inl ((cT 0), 656, .inl f23)), (r 15, .inl ((cT 0), 200, .inl (upd g15_93 (az + 2 + i) x103))), (mo, .inr (12, mdG r cd tm (nI sn) (nI 0) (nI lz) (nI ((az + 1) + 1 + 16)) (nI na) (nI nt) (nI nr) mw ml mk dq)), (r 9, .inl ((cT 0), 1400, .inl g9_88)), (r 12, .inl ((cT 0), 1200, .inl g12_89)), (r 3, .inl ((cT 0), 160, .inl f3)), (r 4, .inl ((cT 0), 4, .inl f4)), (r 0, .inl ((cT 1), 64, .inr (.inl f0))), (r 11, .inl ((cT 0), 16, .inl g11_90))] H := hP
        have hD : va_D A [(r 13, .inl ((cT 0), 200, .inl f13)), (r 7, .inl ((cT 0), 1000, .inl f7)), (r 18, .inl ((cT 0), 41, .inl f18)), (r 19, .inl ((cT 0), 41, .inl f19)), (r 20, .inl ((cT 0), 41, .inl f20)), (r 21, .inl ((cT 0), 41, .inl f21)), (r 22, .inl ((cT 0), 8200, .inl f22)), (r 23, .inl ((cT 0), 656, .inl f23)), (r 15, .inl ((cT 0), 200, .inl (upd g15_93 (az + 2 + i) x103))), (mo, .inr (12, mdG r cd tm (nI sn) (nI 0) (nI lz) (nI ((az + 1) + 1 + 16)) (nI na) (nI nt) (nI nr) mw ml mk dq)), (r 9, .inl ((cT 0), 1400, .inl g9_88)), (r 12, .inl ((cT 0), 1200, .inl g12_89)), (r 3, .inl ((cT 0), 160, .inl f3)), (r 4, .inl ((cT 0), 4, .inl f4)), (r 0, .inl ((cT 1), 64, .inr (.inl f0))), (r 11, .inl ((cT 0), 16, .inl g11_90))] := hD
        refine lv_iinc (k := 0) (v := nI (i + 1)) (lv' := [(4, .int (nI (i + 1))), (3, .int 1), (2, .int (nI (az + 2))), (0, .ref mo), (1, .int (nI st))]) hx hb d_Md_close_152 hl rfl (nI_1 i) (by decide) rfl (fun ls hl => ?_)
        refine lv_goto (tgt := 129) hx hb d_Md_close_155 (by decide) ?_
        have hl := lv_sub hl [0, 1, 2, 3, 4] (show _ = [(4, .int (nI (i + 1))), (3, .int 1), (2, .int (nI (az + 2))), (0, .ref mo), (1, .int (nI st))] from rfl)
        exact ih (i + 1) _ _ _ _ (by omega)  hP hD hS hl
    refine L94 _ (fun g15_93 H locs ls  hP hD hS hl => ?_) (16 - 0) 0 (upd (upd g15_64 2 (nI (((az + 1) + 1 + 16) / 256))) 3 (nI (((az + 1) + 1 + 16) % 256))) H _ ls (by omega)  hP hD hS hl
    refine lv_iconst (v := 0) hx hb d_Md_close_158 (by decide) ?_
    refine lv_istore (lv' := [(4, .int 0), (3, .int 1), (2, .int (nI (az + 2))), (0, .ref mo), (1, .int (nI st))]) hx hb d_Md_close_159 hl (by decide) rfl (fun ls hl => ?_)
    have hl := lv_sub hl [0, 1, 2, 3, 4] (show _ = [(4, .int 0), (3, .int 1), (2, .int (nI (az + 2))), (0, .ref mo), (1, .int (nI st))] from rfl)
    have L106 : ∀ (Q : State → Prop) (exit : ∀ (g9_105 : Nat → Int32) (H : Heap) (locs : List Loc) (ls : Array Slot), va_P (dC, dI) vcl [(r 13, .inl ((cT 0), 200, .inl f13)), (r 7, .inl ((cT 0), 1000, .inl f7)), (r 18, .inl ((cT 0), 41, .inl f18)), (r 19, .inl ((cT 0), 41, .inl f19)), (r 20, .inl ((cT 0), 41, .inl f20)), (r 21, .inl ((cT 0), 41, .inl f21)), (r 22, .inl ((cT 0), 8200, .inl f22)), (r 23, .inl ((cT 0), 656, .inl f23)), (r 15, .inl ((cT 0), 200, .inl g15_93)), (mo, .inr (12, mdG r cd tm (nI sn) (nI (((az + 1) + 1 + 16))) (nI lz) (nI ((az + 1) + 1 + 16)) (nI na) (nI nt) (nI nr) mw ml mk dq)), (r 9, .inl ((cT 0), 1400, .inl g9_105)), (r 12, .inl ((cT 0), 1200, .inl g12_89)), (r 3, .inl ((cT 0), 160, .inl f3)), (r 4, .inl ((cT 0), 4, .inl f4)), (r 0, .inl ((cT 1), 64, .inr (.inl f0))), (r 11, .inl ((cT 0), 16, .inl g11_90))] H → va_D A [(r 13, .inl ((cT 0), 200, .inl f13)), (r 7, .inl ((cT 0), 1000, .inl f7)), (r 18, .inl ((cT 0), 41, .inl f18)), (r 19, .inl ((cT 0), 41, .inl f19)), (r 20, .inl ((cT 0), 41, .inl f20)), (r 21, .inl ((cT 0), 41, .inl f21)), (r 22, .inl ((cT 0), 8200, .inl f22)), (r 23, .inl ((cT 0), 656, .inl f23)), (r 15, .inl ((cT 0), 200, .inl g15_93)), (mo, .inr (12, mdG r cd tm (nI sn) (nI (((az + 1) + 1 + 16))) (nI lz) (nI ((az + 1) + 1 + 16)) (nI na) (nI nt) (nI nr) mw ml mk dq)), (r 9, .inl ((cT 0), 1400, .inl g9_105)), (r 12, .inl ((cT 0), 1200, .inl g12_89)), (r 3, .inl ((cT 0), 160, .inl f3)), (r 4, .inl ((cT 0), 4, .inl f4)), (r 0, .inl ((cT 1), 64, .inr (.inl f0))), (r 11, .inl ((cT 0), 16, .inl g11_90))] → va_S A s.heap H locs → lv_has ls 5 [(4, .int (nI ((az + 1) + 1 + 16))), (3, .int 1), (2, .int (nI (az + 2))), (0, .ref mo), (1, .int (nI st))] → W p l e ({ frames := 3, cells := 0, slots := 0, locals := 95 } : Room) s m args below meth c H locs 0 0 Q (F0 m 187 ls [])) (j8 i : Nat) (g9_105 : Nat → Int32) (H : Heap) (locs : List Loc) (ls : Array Slot), i + j8 = (az + 1) + 1 + 16 → va_P (dC, dI) vcl [(r 13, .inl ((cT 0), 200, .inl f13)), (r 7, .inl ((cT 0), 1000, .inl f7)), (r 18, .inl ((cT 0), 41, .inl f18)), (r 19, .inl ((cT 0), 41, .inl f19)), (r 20, .inl ((cT 0), 41, .inl f20)), (r 21, .inl ((cT 0), 41, .inl f21)), (r 22, .inl ((cT 0), 8200, .inl f22)), (r 23, .inl ((cT 0), 656, .inl f23)), (r 15, .inl ((cT 0), 200, .inl g15_93)), (mo, .inr (12, mdG r cd tm (nI sn) (nI (i)) (nI lz) (nI ((az + 1) + 1 + 16)) (nI na) (nI nt) (nI nr) mw ml mk dq)), (r 9, .inl ((cT 0), 1400, .inl g9_105)), (r 12, .inl ((cT 0), 1200, .inl g12_89)), (r 3, .inl ((cT 0), 160, .inl f3)), (r 4, .inl ((cT 0), 4, .inl f4)), (r 0, .inl ((cT 1), 64, .inr (.inl f0))), (r 11, .inl ((cT 0), 16, .inl g11_90))] H → va_D A [(r 13, .inl ((cT 0), 200, .inl f13)), (r 7, .inl ((cT 0), 1000, .inl f7)), (r 18, .inl ((cT 0), 41, .inl f18)), (r 19, .inl ((cT 0), 41, .inl f19)), (r 20, .inl ((cT 0), 41, .inl f20)), (r 21, .inl ((cT 0), 41, .inl f21)), (r 22, .inl ((cT 0), 8200, .inl f22)), (r 23, .inl ((cT 0), 656, .inl f23)), (r 15, .inl ((cT 0), 200, .inl g15_93)), (mo, .inr (12, mdG r cd tm (nI sn) (nI (i)) (nI lz) (nI ((az + 1) + 1 + 16)) (nI na) (nI nt) (nI nr) mw ml mk dq)), (r 9, .inl ((cT 0), 1400, .inl g9_105)), (r 12, .inl ((cT 0), 1200, .inl g12_89)), (r 3, .inl ((cT 0), 160, .inl f3)), (r 4, .inl ((cT 0), 4, .inl f4)), (r 0, .inl ((cT 1), 64, .inr (.inl f0))), (r 11, .inl ((cT 0), 16, .inl g11_90))] → va_S A s.heap H locs → lv_has ls 5 [(4, .int (nI i)), (3, .int 1), (2, .int (nI (az + 2))), (0, .ref mo), (1, .int (nI st))] → W p l e ({ frames := 3, cells := 0, slots := 0, locals := 95 } : Room) s m args below meth c H locs 0 0 Q (F0 m 161 ls []) := by
      intro Q exit j8
      induction j8 with
      | zero => 
        intro i g9_105 H locs ls hij  hP hD hS hl
        have hij : (az + 1) + 1 + 16 = i := by omega
        refine lv_iload hx hb d_Md_close_161 (lv_at hl 0 rfl) ?_
        refine lv_aload_n hx hb d_Md_close_163 rfl (lv_at hl 3 rfl) ?_
        refine va_get (D := (dC, dI)) (ci := 12) (v := (.int (nI ((az + 1) + 1 + 16)))) (C := R_Md) (T := F_Md) (N := 45) hx hb hg in_Md hown hK hP 9 rfl rfl 16 (by decide) (hg _ k_1036) (fun _ h9 => h9) rfl d_Md_close_164 ?_
        refine lv_icmp_ge (tgt := 187) hx hb d_Md_close_167 (by decide) (fun hc107 => ?_) (fun hn9 => absurd (nI_le (by omega) (by omega)) hn9)
        subst hij
        exact exit g9_105 _ _ _  hP hD hS hl
      | succ j8 ih => 
        intro i g9_105 H locs ls hij  hP hD hS hl
        have hlt : i < (az + 1) + 1 + 16 := by omega
        have hlti := hlt
        refine lv_iload hx hb d_Md_close_161 (lv_at hl 0 rfl) ?_
        refine lv_aload_n hx hb d_Md_close_163 rfl (lv_at hl 3 rfl) ?_
        refine va_get (D := (dC, dI)) (ci := 12) (v := (.int (nI ((az + 1) + 1 + 16)))) (C := R_Md) (T := F_Md) (N := 45) hx hb hg in_Md hown hK hP 9 rfl rfl 16 (by decide) (hg _ k_1036) (fun _ h9 => h9) rfl d_Md_close_164 ?_
        refine lv_icmp_ge (tgt := 187) hx hb d_Md_close_167 (by decide) (fun hn9 => absurd hn9 (nI_ge (by omega) (by omega))) (fun hc108 => ?_)
        refine lv_aload_n hx hb d_Md_close_170 rfl (lv_at hl 3 rfl) ?_
        refine lv_aload_n hx hb d_Md_close_171 rfl (lv_at hl 3 rfl) ?_
        refine va_get (D := (dC, dI)) (ci := 12) (v := (.ref (r 15))) (C := R_Md) (T := F_Md) (N := 45) hx hb hg in_Md hown hK hP 9 rfl rfl 15 (by decide) (hg _ k_1035) (fun _ h9 => h9) rfl d_Md_close_172 ?_
        refine lv_iload hx hb d_Md_close_175 (lv_at hl 0 rfl) ?_
        refine va_iald hx hb hK hP 8 0 rfl rfl (i := (nI i)) (vp_in_nI (N := 200) (by omega) (by decide)) d_Md_close_177 ?_
        refine lv_topi (fun x109 e_x109 => ?_)
        clear e_x109
        have hPc := hP.sub (ws' := [(mo, .inr (12, mdG r cd tm (nI sn) (nI i) (nI lz) (nI ((az + 1) + 1 + 16)) (nI na) (nI nt) (nI nr) mw ml mk dq)), (r 9, .inl ((cT 0), 1400, .inl g9_105))]) [9, 10] rfl
        have hDc := hD.sub (ws' := [(mo, .inr (12, mdG r cd tm (nI sn) (nI i) (nI lz) (nI ((az + 1) + 1 + 16)) (nI na) (nI nt) (nI nr) mw ml mk dq)), (r 9, .inl ((cT 0), 1400, .inl g9_105))]) [9, 10] (by decide) rfl
        have hFc := va_free (wc := [(mo, .inr (12, mdG r cd tm (nI sn) (nI i) (nI lz) (nI ((az + 1) + 1 + 16)) (nI na) (nI nt) (nI nr) mw ml mk dq)), (r 9, .inl ((cT 0), 1400, .inl g9_105))]) hD hS hA [9, 10] rfl
        refine va_callv (va_runV (C := "DoorServerModel") (As := [.int x109]) (rest := []) ⟨hx, hb, hml, hown, hg⟩ (m_say l dC dI cT H.size mo r cd tm sn i lz ((az + 1) + 1 + 16) na nt nr mw ml mk dq g9_105 x109 (by first | assumption | omega)) (cwV 1 hg (gI (List.forall_mem_append.mpr ⟨List.forall_mem_cons.mpr ⟨k_1220, List.forall_mem_cons.mpr ⟨k_1222, List.forall_mem_cons.mpr ⟨(big_sel (q := y_Md_say) (n := 45) (by decide +kernel)), List.forall_mem_cons.mpr ⟨k_13, fun _ h => absurd h List.not_mem_nil⟩⟩⟩⟩, List.forall_mem_cons.mpr ⟨k_1223, fun _ h => h⟩⟩)) rfl rfl rfl (by decide +kernel) ⟨Nat.le_of_ble_eq_true rfl, Nat.le_of_ble_eq_true rfl⟩) ⟨fun a U g mk q => by obtain ⟨q0, q1, qP, qK, qD⟩ := q; exact ⟨q0, q1, qP, va_K.moved (u := U) (U := U.calling g mk a) (Vm.Alike.refl U.vm) qK, qD⟩, va_recv (q0 := 9) (ci := 12) hK hP rfl rfl, fun U hU hW => ⟨rfl, by rw [hU], by rw [hU]; exact hPc, va_K.moved hW.alike hK, hDc.weaken (fun _ _ _ _ => trivial)⟩⟩ rfl rfl hl.1 rfl (lv_room (Nat.le_of_ble_eq_true rfl)) d_Md_close_178 ⟨Nat.le_of_ble_eq_true rfl, Nat.le_of_ble_eq_true rfl⟩) hS (fun q _ h => hFc q h) hFc (fun u t H1 locs ht hvm hw hB hz1 hk1 hS => ?_)
        obtain ⟨g9_110, rfl⟩ : ∃ z, z = u := ⟨_, rfl⟩
        try dsimp only at hw hB
        obtain ⟨hP1, hK1, hD1⟩ := hB
        rw [ht] at hP1
        obtain ⟨hP, hD⟩ := va_join (wr := [(r 13, .inl ((cT 0), 200, .inl f13)), (r 7, .inl ((cT 0), 1000, .inl f7)), (r 18, .inl ((cT 0), 41, .inl f18)), (r 19, .inl ((cT 0), 41, .inl f19)), (r 20, .inl ((cT 0), 41, .inl f20)), (r 21, .inl ((cT 0), 41, .inl f21)), (r 22, .inl ((cT 0), 8200, .inl f22)), (r 23, .inl ((cT 0), 656, .inl f23)), (r 15, .inl ((cT 0), 200, .inl g15_93)), (r 12, .inl ((cT 0), 1200, .inl g12_89)), (r 3, .inl ((cT 0), 160, .inl f3)), (r 4, .inl ((cT 0), 4, .inl f4)), (r 0, .inl ((cT 1), 64, .inr (.inl f0))), (r 11, .inl ((cT 0), 16, .inl g11_90))]) (w1 := [(mo, .inr (12, mdG r cd tm (nI sn) (nI (i + 1)) (nI lz) (nI ((az + 1) + 1 + 16)) (nI na) (nI nt) (nI nr) mw ml mk dq)), (r 9, .inl ((cT 0), 1400, .inl g9_110))]) hP hD [9, 10] [0, 1, 2, 3, 4, 5, 6, 7, 8, 11, 12, 13, 14, 15] rfl rfl (by decide) (by decide) hk1 hFc hP1 hD1
        have hw111 := hw
        clear hPc hDc hFc hz1 hk1 hP1 hK1 hD1
        generalize H1 = H at hP hS ⊢
        have hP : va_P (dC, dI) vcl [(r 13, .inl ((cT 0), 200, .inl f13)), (r 7, .inl ((cT 0), 1000, .inl f7)), (r 18, .inl ((cT 0), 41, .inl f18)), (r 19, .inl ((cT 0), 41, .inl f19)), (r 20, .inl ((cT 0), 41, .inl f20)), (r 21, .inl ((cT 0), 41, .inl f21)), (r 22, .inl ((cT 0), 8200, .inl f22)), (r 23, .inl ((cT 0), 656, .inl f23)), (r 15, .inl ((cT 0), 200, .inl g15_93)), (r 12, .inl ((cT 0), 1200, .inl g12_89)), (r 3, .inl ((cT 0), 160, .inl f3)), (r 4, .inl ((cT 0), 4, .inl f4)), (r 0, .inl ((cT 1), 64, .inr (.inl f0))), (r 11, .inl ((cT 0), 16, .inl g11_90)), (mo, .inr (12, mdG r cd tm (nI sn) (nI (i + 1)) (nI lz) (nI ((az + 1) + 1 + 16)) (nI na) (nI nt) (nI nr) mw ml mk dq)), (r 9, .inl ((cT 0), 1400, .inl g9_110))] H := hP
        have hD : va_D A [(r 13, .inl ((cT 0), 200, .inl f13)), (r 7, .inl ((cT 0), 1000, .inl f7)), (r 18, .inl ((cT 0), 41, .inl f18)), (r 19, .inl ((cT 0), 41, .inl f19)), (r 20, .inl ((cT 0), 41, .inl f20)), (r 21, .inl ((cT 0), 41, .inl f21)), (r 22, .inl ((cT 0), 8200, .inl f22)), (r 23, .inl ((cT 0), 656, .inl f23)), (r 15, .inl ((cT 0), 200, .inl g15_93)), (r 12, .inl ((cT 0), 1200, .inl g12_89)), (r 3, .inl ((cT 0), 160, .inl f3)), (r 4, .inl ((cT 0), 4, .inl f4)), (r 0, .inl ((cT 1), 64, .inr (.inl f0))), (r 11, .inl ((cT 0), 16, .inl g11_90)), (mo, .inr (12, mdG r cd tm (nI sn) (nI (i + 1)) (nI lz) (nI ((az + 1) + 1 + 16)) (nI na) (nI nt) (nI nr) mw ml mk dq)), (r 9, .inl ((cT 0), 1400, .inl g9_110))] := hD
        refine lv_iinc (k := 0) (v := nI (i + 1)) (lv' := [(4, .int (nI (i + 1))), (3, .int 1), (2, .int (nI (az + 2))), (0, .ref mo), (1, .int (nI st))]) hx hb d_Md_close_181 hl rfl (nI_1 i) (by decide) rfl (fun ls hl => ?_)
        refine lv_goto (tgt := 161) hx hb d_Md_close_184 (by decide) ?_
        have hl := lv_sub hl [0, 1, 2, 3, 4] (show _ = [(4, .int (nI (i + 1))), (3, .int 1), (2, .int (nI (az + 2))), (0, .ref mo), (1, .int (nI st))] from rfl)
        have hP := hP.sub (ws' := [(r 13, .inl ((cT 0), 200, .inl f13)), (r 7, .inl ((cT 0), 1000, .inl f7)), (r 18, .inl ((cT 0), 41, .inl f18)), (r 19, .inl ((cT 0), 41, .inl f19)), (r 20, .inl ((cT 0), 41, .inl f20)), (r 21, .inl ((cT 0), 41, .inl f21)), (r 22, .inl ((cT 0), 8200, .inl f22)), (r 23, .inl ((cT 0), 656, .inl f23)), (r 15, .inl ((cT 0), 200, .inl g15_93)), (mo, .inr (12, mdG r cd tm (nI sn) (nI (i + 1)) (nI lz) (nI ((az + 1) + 1 + 16)) (nI na) (nI nt) (nI nr) mw ml mk dq)), (r 9, .inl ((cT 0), 1400, .inl g9_110)), (r 12, .inl ((cT 0), 1200, .inl g12_89)), (r 3, .inl ((cT 0), 160, .inl f3)), (r 4, .inl ((cT 0), 4, .inl f4)), (r 0, .inl ((cT 1), 64, .inr (.inl f0))), (r 11, .inl ((cT 0), 16, .inl g11_90))]) [0, 1, 2, 3, 4, 5, 6, 7, 8, 14, 15, 9, 10, 11, 12, 13] rfl
        have hD := hD.sub (ws' := [(r 13, .inl ((cT 0), 200, .inl f13)), (r 7, .inl ((cT 0), 1000, .inl f7)), (r 18, .inl ((cT 0), 41, .inl f18)), (r 19, .inl ((cT 0), 41, .inl f19)), (r 20, .inl ((cT 0), 41, .inl f20)), (r 21, .inl ((cT 0), 41, .inl f21)), (r 22, .inl ((cT 0), 8200, .inl f22)), (r 23, .inl ((cT 0), 656, .inl f23)), (r 15, .inl ((cT 0), 200, .inl g15_93)), (mo, .inr (12, mdG r cd tm (nI sn) (nI (i + 1)) (nI lz) (nI ((az + 1) + 1 + 16)) (nI na) (nI nt) (nI nr) mw ml mk dq)), (r 9, .inl ((cT 0), 1400, .inl g9_110)), (r 12, .inl ((cT 0), 1200, .inl g12_89)), (r 3, .inl ((cT 0), 160, .inl f3)), (r 4, .inl ((cT 0), 4, .inl f4)), (r 0, .inl ((cT 1), 64, .inr (.inl f0))), (r 11, .inl ((cT 0), 16, .inl g11_90))]) [0, 1, 2, 3, 4, 5, 6, 7, 8, 14, 15, 9, 10, 11, 12, 13] (by decide) rfl
        exact ih (i + 1) _ _ _ _ (by omega)  hP hD hS hl
    refine L106 _ (fun g9_105 H locs ls  hP hD hS hl => ?_) ((az + 1) + 1 + 16 - 0) 0 g9_88 H _ ls (by omega)  hP hD hS hl
    refine lv_aload_n hx hb d_Md_close_187 rfl (lv_at hl 3 rfl) ?_
    refine lv_iload_n hx hb d_Md_close_188 rfl (lv_at hl 4 rfl) ?_
    have hPc := hP.sub (ws' := [(mo, .inr (12, mdG r cd tm (nI sn) (nI ((az + 1) + 1 + 16)) (nI lz) (nI ((az + 1) + 1 + 16)) (nI na) (nI nt) (nI nr) mw ml mk dq)), (r 3, .inl ((cT 0), 160, .inl f3)), (r 4, .inl ((cT 0), 4, .inl f4)), (r 9, .inl ((cT 0), 1400, .inl g9_105))]) [9, 12, 13, 10] rfl
    have hDc := hD.sub (ws' := [(mo, .inr (12, mdG r cd tm (nI sn) (nI ((az + 1) + 1 + 16)) (nI lz) (nI ((az + 1) + 1 + 16)) (nI na) (nI nt) (nI nr) mw ml mk dq)), (r 3, .inl ((cT 0), 160, .inl f3)), (r 4, .inl ((cT 0), 4, .inl f4)), (r 9, .inl ((cT 0), 1400, .inl g9_105))]) [9, 12, 13, 10] (by decide) rfl
    have hFc := va_free (wc := [(mo, .inr (12, mdG r cd tm (nI sn) (nI ((az + 1) + 1 + 16)) (nI lz) (nI ((az + 1) + 1 + 16)) (nI na) (nI nt) (nI nr) mw ml mk dq)), (r 3, .inl ((cT 0), 160, .inl f3)), (r 4, .inl ((cT 0), 4, .inl f4)), (r 9, .inl ((cT 0), 1400, .inl g9_105))]) hD hS hA [9, 12, 13, 10] rfl
    refine va_callv (va_runV (C := "DoorServerModel") (As := [.int (nI st)]) (rest := []) ⟨hx, hb, hml, hown, hg⟩ (m_saySecret l dC dI cT H.size mo r cd tm sn ((az + 1) + 1 + 16) lz ((az + 1) + 1 + 16) na nt nr mw ml mk dq f3 f4 g9_105 st sl (by first | assumption | omega) (by first | assumption | omega) (by first | assumption | omega) (by first | assumption | omega)) (cwV 1 hg (gI (List.forall_mem_append.mpr ⟨List.forall_mem_cons.mpr ⟨k_1216, List.forall_mem_cons.mpr ⟨k_1218, List.forall_mem_cons.mpr ⟨(big_sel (q := y_Md_saySecret) (n := 45) (by decide +kernel)), List.forall_mem_cons.mpr ⟨k_13, fun _ h => absurd h List.not_mem_nil⟩⟩⟩⟩, List.forall_mem_cons.mpr ⟨k_1219, fun _ h => h⟩⟩)) rfl rfl rfl (by decide +kernel) ⟨Nat.le_of_ble_eq_true rfl, Nat.le_of_ble_eq_true rfl⟩) ⟨fun a U g mk q => by obtain ⟨q0, q1, qP, qK, qD⟩ := q; exact ⟨q0, q1, qP, va_K.moved (u := U) (U := U.calling g mk a) (Vm.Alike.refl U.vm) qK, qD⟩, va_recv (q0 := 9) (ci := 12) hK hP rfl rfl, fun U hU hW => ⟨rfl, by rw [hU], by rw [hU]; exact hPc, va_K.moved hW.alike hK, hDc.weaken (fun _ _ _ _ => trivial)⟩⟩ rfl rfl hl.1 rfl (lv_room (Nat.le_of_ble_eq_true rfl)) d_Md_close_189 ⟨Nat.le_of_ble_eq_true rfl, Nat.le_of_ble_eq_true rfl⟩) hS (fun q _ h => hFc q h) hFc (fun u t H1 locs ht hvm hw hB hz1 hk1 hS => ?_)
    obtain ⟨g9_112, rfl⟩ : ∃ z, z = u := ⟨_, rfl⟩
    try dsimp only at hw hB
    obtain ⟨hP1, hK1, hD1⟩ := hB
    rw [ht] at hP1
    obtain ⟨hP, hD⟩ := va_join (wr := [(r 13, .inl ((cT 0), 200, .inl f13)), (r 7, .inl ((cT 0), 1000, .inl f7)), (r 18, .inl ((cT 0), 41, .inl f18)), (r 19, .inl ((cT 0), 41, .inl f19)), (r 20, .inl ((cT 0), 41, .inl f20)), (r 21, .inl ((cT 0), 41, .inl f21)), (r 22, .inl ((cT 0), 8200, .inl f22)), (r 23, .inl ((cT 0), 656, .inl f23)), (r 15, .inl ((cT 0), 200, .inl g15_93)), (r 12, .inl ((cT 0), 1200, .inl g12_89)), (r 0, .inl ((cT 1), 64, .inr (.inl f0))), (r 11, .inl ((cT 0), 16, .inl g11_90))]) (w1 := [(mo, .inr (12, mdG r cd tm (nI sn) (nI (((az + 1) + 1 + 16) + sl)) (nI lz) (nI ((az + 1) + 1 + 16)) (nI na) (nI nt) (nI nr) mw ml mk dq)), (r 3, .inl ((cT 0), 160, .inl f3)), (r 4, .inl ((cT 0), 4, .inl f4)), (r 9, .inl ((cT 0), 1400, .inl g9_112))]) hP hD [9, 12, 13, 10] [0, 1, 2, 3, 4, 5, 6, 7, 8, 11, 14, 15] rfl rfl (by decide) (by decide) hk1 hFc hP1 hD1
    have hw113 := hw
    clear hPc hDc hFc hz1 hk1 hP1 hK1 hD1
    generalize H1 = H at hP hS ⊢
    have hP : va_P (dC, dI) vcl [(r 13, .inl ((cT 0), 200, .inl f13)), (r 7, .inl ((cT 0), 1000, .inl f7)), (r 18, .inl ((cT 0), 41, .inl f18)), (r 19, .inl ((cT 0), 41, .inl f19)), (r 20, .inl ((cT 0), 41, .inl f20)), (r 21, .inl ((cT 0), 41, .inl f21)), (r 22, .inl ((cT 0), 8200, .inl f22)), (r 23, .inl ((cT 0), 656, .inl f23)), (r 15, .inl ((cT 0), 200, .inl g15_93)), (r 12, .inl ((cT 0), 1200, .inl g12_89)), (r 0, .inl ((cT 1), 64, .inr (.inl f0))), (r 11, .inl ((cT 0), 16, .inl g11_90)), (mo, .inr (12, mdG r cd tm (nI sn) (nI (((az + 1) + 1 + 16) + sl)) (nI lz) (nI ((az + 1) + 1 + 16)) (nI na) (nI nt) (nI nr) mw ml mk dq)), (r 3, .inl ((cT 0), 160, .inl f3)), (r 4, .inl ((cT 0), 4, .inl f4)), (r 9, .inl ((cT 0), 1400, .inl g9_112))] H := hP
    have hD : va_D A [(r 13, .inl ((cT 0), 200, .inl f13)), (r 7, .inl ((cT 0), 1000, .inl f7)), (r 18, .inl ((cT 0), 41, .inl f18)), (r 19, .inl ((cT 0), 41, .inl f19)), (r 20, .inl ((cT 0), 41, .inl f20)), (r 21, .inl ((cT 0), 41, .inl f21)), (r 22, .inl ((cT 0), 8200, .inl f22)), (r 23, .inl ((cT 0), 656, .inl f23)), (r 15, .inl ((cT 0), 200, .inl g15_93)), (r 12, .inl ((cT 0), 1200, .inl g12_89)), (r 0, .inl ((cT 1), 64, .inr (.inl f0))), (r 11, .inl ((cT 0), 16, .inl g11_90)), (mo, .inr (12, mdG r cd tm (nI sn) (nI (((az + 1) + 1 + 16) + sl)) (nI lz) (nI ((az + 1) + 1 + 16)) (nI na) (nI nt) (nI nr) mw ml mk dq)), (r 3, .inl ((cT 0), 160, .inl f3)), (r 4, .inl ((cT 0), 4, .inl f4)), (r 9, .inl ((cT 0), 1400, .inl g9_112))] := hD
    refine lv_aload_n hx hb d_Md_close_192 rfl (lv_at hl 3 rfl) ?_
    have hPc := hP.sub (ws' := [(mo, .inr (12, mdG r cd tm (nI sn) (nI (((az + 1) + 1 + 16) + sl)) (nI lz) (nI ((az + 1) + 1 + 16)) (nI na) (nI nt) (nI nr) mw ml mk dq)), (r 9, .inl ((cT 0), 1400, .inl g9_112)), (r 0, .inl ((cT 1), 64, .inr (.inl f0))), (r 11, .inl ((cT 0), 16, .inl g11_90))]) [12, 15, 10, 11] rfl
    have hDc := hD.sub (ws' := [(mo, .inr (12, mdG r cd tm (nI sn) (nI (((az + 1) + 1 + 16) + sl)) (nI lz) (nI ((az + 1) + 1 + 16)) (nI na) (nI nt) (nI nr) mw ml mk dq)), (r 9, .inl ((cT 0), 1400, .inl g9_112)), (r 0, .inl ((cT 1), 64, .inr (.inl f0))), (r 11, .inl ((cT 0), 16, .inl g11_90))]) [12, 15, 10, 11] (by decide) rfl
    have hFc := va_free (wc := [(mo, .inr (12, mdG r cd tm (nI sn) (nI (((az + 1) + 1 + 16) + sl)) (nI lz) (nI ((az + 1) + 1 + 16)) (nI na) (nI nt) (nI nr) mw ml mk dq)), (r 9, .inl ((cT 0), 1400, .inl g9_112)), (r 0, .inl ((cT 1), 64, .inr (.inl f0))), (r 11, .inl ((cT 0), 16, .inl g11_90))]) hD hS hA [12, 15, 10, 11] rfl
    refine va_callv (va_runV (C := "DoorServerModel") (As := []) (rest := []) ⟨hx, hb, hml, hown, hg⟩ (m_md5 l dC dI cT H.size mo r cd tm sn (((az + 1) + 1 + 16) + sl) lz ((az + 1) + 1 + 16) na nt nr mw ml mk dq g9_112 f0 g11_90 (by first | assumption | omega) (by first | assumption | omega)) (cwV 0 hg (gI (List.forall_mem_append.mpr ⟨List.forall_mem_cons.mpr ⟨k_1224, List.forall_mem_cons.mpr ⟨k_1226, List.forall_mem_cons.mpr ⟨(big_sel (q := y_Md_md5) (n := 45) (by decide +kernel)), List.forall_mem_cons.mpr ⟨k_13, fun _ h => absurd h List.not_mem_nil⟩⟩⟩⟩, List.forall_mem_cons.mpr ⟨k_1227, fun _ h => h⟩⟩)) rfl rfl rfl (by decide +kernel) ⟨Nat.le_of_ble_eq_true rfl, Nat.le_of_ble_eq_true rfl⟩) ⟨fun a U g mk q => by obtain ⟨q0, q1, qP, qK, qD⟩ := q; exact ⟨q0, q1, qP, va_K.moved (u := U) (U := U.calling g mk a) (Vm.Alike.refl U.vm) qK, qD⟩, va_recv (q0 := 12) (ci := 12) hK hP rfl rfl, fun U hU hW => ⟨rfl, by rw [hU], by rw [hU]; exact hPc, va_K.moved hW.alike hK, hDc.weaken (fun _ _ _ _ => trivial)⟩⟩ rfl rfl hl.1 rfl (lv_room (Nat.le_of_ble_eq_true rfl)) d_Md_close_193 ⟨Nat.le_of_ble_eq_true rfl, Nat.le_of_ble_eq_true rfl⟩) hS (fun q _ h => hFc q h) hFc (fun u t H1 locs ht hvm hw hB hz1 hk1 hS => ?_)
    obtain ⟨g9_114, g11_115⟩ := u
    try dsimp only at hw hB
    obtain ⟨hP1, hK1, hD1⟩ := hB
    rw [ht] at hP1
    obtain ⟨hP, hD⟩ := va_join (wr := [(r 13, .inl ((cT 0), 200, .inl f13)), (r 7, .inl ((cT 0), 1000, .inl f7)), (r 18, .inl ((cT 0), 41, .inl f18)), (r 19, .inl ((cT 0), 41, .inl f19)), (r 20, .inl ((cT 0), 41, .inl f20)), (r 21, .inl ((cT 0), 41, .inl f21)), (r 22, .inl ((cT 0), 8200, .inl f22)), (r 23, .inl ((cT 0), 656, .inl f23)), (r 15, .inl ((cT 0), 200, .inl g15_93)), (r 12, .inl ((cT 0), 1200, .inl g12_89)), (r 3, .inl ((cT 0), 160, .inl f3)), (r 4, .inl ((cT 0), 4, .inl f4))]) (w1 := [(mo, .inr (12, mdG r cd tm (nI sn) (nI 0) (nI lz) (nI ((az + 1) + 1 + 16)) (nI na) (nI nt) (nI nr) mw ml mk dq)), (r 9, .inl ((cT 0), 1400, .inl g9_114)), (r 0, .inl ((cT 1), 64, .inr (.inl f0))), (r 11, .inl ((cT 0), 16, .inl g11_115))]) hP hD [12, 15, 10, 11] [0, 1, 2, 3, 4, 5, 6, 7, 8, 9, 13, 14] rfl rfl (by decide) (by decide) hk1 hFc hP1 hD1
    have hw116 := hw
    clear hPc hDc hFc hz1 hk1 hP1 hK1 hD1
    generalize H1 = H at hP hS ⊢
    have hP : va_P (dC, dI) vcl [(r 13, .inl ((cT 0), 200, .inl f13)), (r 7, .inl ((cT 0), 1000, .inl f7)), (r 18, .inl ((cT 0), 41, .inl f18)), (r 19, .inl ((cT 0), 41, .inl f19)), (r 20, .inl ((cT 0), 41, .inl f20)), (r 21, .inl ((cT 0), 41, .inl f21)), (r 22, .inl ((cT 0), 8200, .inl f22)), (r 23, .inl ((cT 0), 656, .inl f23)), (r 15, .inl ((cT 0), 200, .inl g15_93)), (r 12, .inl ((cT 0), 1200, .inl g12_89)), (r 3, .inl ((cT 0), 160, .inl f3)), (r 4, .inl ((cT 0), 4, .inl f4)), (mo, .inr (12, mdG r cd tm (nI sn) (nI 0) (nI lz) (nI ((az + 1) + 1 + 16)) (nI na) (nI nt) (nI nr) mw ml mk dq)), (r 9, .inl ((cT 0), 1400, .inl g9_114)), (r 0, .inl ((cT 1), 64, .inr (.inl f0))), (r 11, .inl ((cT 0), 16, .inl g11_115))] H := hP
    have hD : va_D A [(r 13, .inl ((cT 0), 200, .inl f13)), (r 7, .inl ((cT 0), 1000, .inl f7)), (r 18, .inl ((cT 0), 41, .inl f18)), (r 19, .inl ((cT 0), 41, .inl f19)), (r 20, .inl ((cT 0), 41, .inl f20)), (r 21, .inl ((cT 0), 41, .inl f21)), (r 22, .inl ((cT 0), 8200, .inl f22)), (r 23, .inl ((cT 0), 656, .inl f23)), (r 15, .inl ((cT 0), 200, .inl g15_93)), (r 12, .inl ((cT 0), 1200, .inl g12_89)), (r 3, .inl ((cT 0), 160, .inl f3)), (r 4, .inl ((cT 0), 4, .inl f4)), (mo, .inr (12, mdG r cd tm (nI sn) (nI 0) (nI lz) (nI ((az + 1) + 1 + 16)) (nI na) (nI nt) (nI nr) mw ml mk dq)), (r 9, .inl ((cT 0), 1400, .inl g9_114)), (r 0, .inl ((cT 1), 64, .inr (.inl f0))), (r 11, .inl ((cT 0), 16, .inl g11_115))] := hD
    have k117 := hw116
    refine lv_iconst (v := 0) hx hb d_Md_close_196 (by decide) ?_
    refine lv_istore (lv' := [(4, .int 0), (3, .int 1), (2, .int (nI (az + 2))), (0, .ref mo), (1, .int (nI st))]) hx hb d_Md_close_197 hl (by decide) rfl (fun ls hl => ?_)
    have hl := lv_sub hl [0, 1, 2, 3, 4] (show _ = [(4, .int 0), (3, .int 1), (2, .int (nI (az + 2))), (0, .ref mo), (1, .int (nI st))] from rfl)
    have L119 : ∀ (Q : State → Prop) (exit : ∀ (g15_118 : Nat → Int32) (H : Heap) (locs : List Loc) (ls : Array Slot), va_P (dC, dI) vcl [(r 13, .inl ((cT 0), 200, .inl f13)), (r 7, .inl ((cT 0), 1000, .inl f7)), (r 18, .inl ((cT 0), 41, .inl f18)), (r 19, .inl ((cT 0), 41, .inl f19)), (r 20, .inl ((cT 0), 41, .inl f20)), (r 21, .inl ((cT 0), 41, .inl f21)), (r 22, .inl ((cT 0), 8200, .inl f22)), (r 23, .inl ((cT 0), 656, .inl f23)), (r 15, .inl ((cT 0), 200, .inl g15_118)), (r 12, .inl ((cT 0), 1200, .inl g12_89)), (r 3, .inl ((cT 0), 160, .inl f3)), (r 4, .inl ((cT 0), 4, .inl f4)), (mo, .inr (12, mdG r cd tm (nI sn) (nI 0) (nI lz) (nI ((az + 1) + 1 + 16)) (nI na) (nI nt) (nI nr) mw ml mk dq)), (r 9, .inl ((cT 0), 1400, .inl g9_114)), (r 0, .inl ((cT 1), 64, .inr (.inl f0))), (r 11, .inl ((cT 0), 16, .inl g11_115))] H → va_D A [(r 13, .inl ((cT 0), 200, .inl f13)), (r 7, .inl ((cT 0), 1000, .inl f7)), (r 18, .inl ((cT 0), 41, .inl f18)), (r 19, .inl ((cT 0), 41, .inl f19)), (r 20, .inl ((cT 0), 41, .inl f20)), (r 21, .inl ((cT 0), 41, .inl f21)), (r 22, .inl ((cT 0), 8200, .inl f22)), (r 23, .inl ((cT 0), 656, .inl f23)), (r 15, .inl ((cT 0), 200, .inl g15_118)), (r 12, .inl ((cT 0), 1200, .inl g12_89)), (r 3, .inl ((cT 0), 160, .inl f3)), (r 4, .inl ((cT 0), 4, .inl f4)), (mo, .inr (12, mdG r cd tm (nI sn) (nI 0) (nI lz) (nI ((az + 1) + 1 + 16)) (nI na) (nI nt) (nI nr) mw ml mk dq)), (r 9, .inl ((cT 0), 1400, .inl g9_114)), (r 0, .inl ((cT 1), 64, .inr (.inl f0))), (r 11, .inl ((cT 0), 16, .inl g11_115))] → va_S A s.heap H locs → lv_has ls 5 [(4, .int (nI 16)), (3, .int 1), (2, .int (nI (az + 2))), (0, .ref mo), (1, .int (nI st))] → W p l e ({ frames := 3, cells := 0, slots := 0, locals := 95 } : Room) s m args below meth c H locs 0 0 Q (F0 m 228 ls [])) (j8 i : Nat) (g15_118 : Nat → Int32) (H : Heap) (locs : List Loc) (ls : Array Slot), i + j8 = 16 → va_P (dC, dI) vcl [(r 13, .inl ((cT 0), 200, .inl f13)), (r 7, .inl ((cT 0), 1000, .inl f7)), (r 18, .inl ((cT 0), 41, .inl f18)), (r 19, .inl ((cT 0), 41, .inl f19)), (r 20, .inl ((cT 0), 41, .inl f20)), (r 21, .inl ((cT 0), 41, .inl f21)), (r 22, .inl ((cT 0), 8200, .inl f22)), (r 23, .inl ((cT 0), 656, .inl f23)), (r 15, .inl ((cT 0), 200, .inl g15_118)), (r 12, .inl ((cT 0), 1200, .inl g12_89)), (r 3, .inl ((cT 0), 160, .inl f3)), (r 4, .inl ((cT 0), 4, .inl f4)), (mo, .inr (12, mdG r cd tm (nI sn) (nI 0) (nI lz) (nI ((az + 1) + 1 + 16)) (nI na) (nI nt) (nI nr) mw ml mk dq)), (r 9, .inl ((cT 0), 1400, .inl g9_114)), (r 0, .inl ((cT 1), 64, .inr (.inl f0))), (r 11, .inl ((cT 0), 16, .inl g11_115))] H → va_D A [(r 13, .inl ((cT 0), 200, .inl f13)), (r 7, .inl ((cT 0), 1000, .inl f7)), (r 18, .inl ((cT 0), 41, .inl f18)), (r 19, .inl ((cT 0), 41, .inl f19)), (r 20, .inl ((cT 0), 41, .inl f20)), (r 21, .inl ((cT 0), 41, .inl f21)), (r 22, .inl ((cT 0), 8200, .inl f22)), (r 23, .inl ((cT 0), 656, .inl f23)), (r 15, .inl ((cT 0), 200, .inl g15_118)), (r 12, .inl ((cT 0), 1200, .inl g12_89)), (r 3, .inl ((cT 0), 160, .inl f3)), (r 4, .inl ((cT 0), 4, .inl f4)), (mo, .inr (12, mdG r cd tm (nI sn) (nI 0) (nI lz) (nI ((az + 1) + 1 + 16)) (nI na) (nI nt) (nI nr) mw ml mk dq)), (r 9, .inl ((cT 0), 1400, .inl g9_114)), (r 0, .inl ((cT 1), 64, .inr (.inl f0))), (r 11, .inl ((cT 0), 16, .inl g11_115))] → va_S A s.heap H locs → lv_has ls 5 [(4, .int (nI i)), (3, .int 1), (2, .int (nI (az + 2))), (0, .ref mo), (1, .int (nI st))] → W p l e ({ frames := 3, cells := 0, slots := 0, locals := 95 } : Room) s m args below meth c H locs 0 0 Q (F0 m 199 ls []) := by
      intro Q exit j8
      induction j8 with
      | zero => 
        intro i g15_118 H locs ls hij  hP hD hS hl
        have hij : 16 = i := by omega
        refine lv_iload hx hb d_Md_close_199 (lv_at hl 0 rfl) ?_
        refine lv_bipush (v := 16) hx hb d_Md_close_201 (by decide) ?_
        refine lv_topi (fun x121 e120 => ?_)
        obtain rfl : x121 = nI 16 := by rw [e120]; rfl
        refine lv_icmp_ge (tgt := 228) hx hb d_Md_close_203 (by decide) (fun hc122 => ?_) (fun hn9 => absurd (nI_le (by omega) (by omega)) hn9)
        subst hij
        exact exit g15_118 _ _ _  hP hD hS hl
      | succ j8 ih => 
        intro i g15_118 H locs ls hij  hP hD hS hl
        have hlt : i < 16 := by omega
        have hlti := hlt
        refine lv_iload hx hb d_Md_close_199 (lv_at hl 0 rfl) ?_
        refine lv_bipush (v := 16) hx hb d_Md_close_201 (by decide) ?_
        refine lv_topi (fun x124 e123 => ?_)
        obtain rfl : x124 = nI 16 := by rw [e123]; rfl
        refine lv_icmp_ge (tgt := 228) hx hb d_Md_close_203 (by decide) (fun hn9 => absurd hn9 (nI_ge (by omega) (by omega))) (fun hc125 => ?_)
        refine lv_aload_n hx hb d_Md_close_206 rfl (lv_at hl 3 rfl) ?_
        refine va_get (D := (dC, dI)) (ci := 12) (v := (.ref (r 15))) (C := R_Md) (T := F_Md) (N := 45) hx hb hg in_Md hown hK hP 12 rfl rfl 15 (by decide) (hg _ k_1035) (fun _ h9 => h9) rfl d_Md_close_207 ?_
        refine lv_iconst (v := 4) hx hb d_Md_close_210 (by decide) ?_
        refine lv_iload hx hb d_Md_close_211 (lv_at hl 0 rfl) ?_
        refine lv_iadd hx hb d_Md_close_213 ?_
        refine lv_topi (fun x127 e126 => ?_)
        obtain rfl : x127 = nI (4 + i) := by rw [e126]; exact nI_add 4 i
        refine lv_aload_n hx hb d_Md_close_214 rfl (lv_at hl 3 rfl) ?_
        refine va_get (D := (dC, dI)) (ci := 12) (v := (.ref (r 11))) (C := R_Md) (T := F_Md) (N := 45) hx hb hg in_Md hown hK hP 12 rfl rfl 11 (by decide) (hg _ k_1031) (fun _ h9 => h9) rfl d_Md_close_215 ?_
        refine lv_iload hx hb d_Md_close_218 (lv_at hl 0 rfl) ?_
        refine va_iald hx hb hK hP 15 0 rfl rfl (i := (nI i)) (vp_in_nI (N := 16) (by omega) (by decide)) d_Md_close_220 ?_
        refine lv_topi (fun x128 e_x128 => ?_)
        clear e_x128
        refine va_iast hx hb hK hP hD hS 8 0 rfl rfl (i := (nI (4 + i))) (vp_in_nI (n := 4 + i) (N := 200) (by omega) (by decide)) d_Md_close_221 (fun H locs hP hD hS => ?_)
        have ef129 : upd g15_118 (nI (4 + i)).toNatClampNeg x128 = upd g15_118 (4 + i) x128 := by rw [show (nI (4 + i)).toNatClampNeg = 4 + i from nI_clamp (by omega)]
        rw [ef129] at hP hD
        have hP : va_P (dC, dI) vcl [(r 13, .inl ((cT 0), 200, .inl f13)), (r 7, .inl ((cT 0), 1000, .inl f7)), (r 18, .inl ((cT 0), 41, .inl f18)), (r 19, .inl ((cT 0), 41, .inl f19)), (r 20, .inl ((cT 0), 41, .inl f20)), (r 21, .inl ((cT 0), 41, .inl f21)), (r 22, .inl ((cT 0), 8200, .inl f22)), (r 23, .inl ((cT 0), 656, .inl f23)), (r 15, .inl ((cT 0), 200, .inl (upd g15_118 (4 + i) x128))), (r 12, .inl ((cT 0), 1200, .inl g12_89)), (r 3, .inl ((cT 0), 160, .inl f3)), (r 4, .inl ((cT 0), 4, .inl f4)), (mo, .inr (12, mdG r cd tm (nI sn) (nI 0) (nI lz) (nI ((az + 1) + 1 + 16)) (nI na) (nI nt) (nI nr) mw ml mk dq)), (r 9, .inl ((cT 0), 1400, .inl g9_114)), (r 0, .inl ((cT 1), 64, .inr (.inl f0))), (r 11, .inl ((cT 0), 16, .inl g11_115))] H := hP
        have hD : va_D A [(r 13, .inl ((cT 0), 200, .inl f13)), (r 7, .inl ((cT 0), 1000, .inl f7)), (r 18, .inl ((cT 0), 41, .inl f18)), (r 19, .inl ((cT 0), 41, .inl f19)), (r 20, .inl ((cT 0), 41, .inl f20)), (r 21, .inl ((cT 0), 41, .inl f21)), (r 22, .inl ((cT 0), 8200, .inl f22)), (r 23, .inl ((cT 0), 656, .inl f23)), (r 15, .inl ((cT 0), 200, .inl (upd g15_118 (4 + i) x128))), (r 12, .inl ((cT 0), 1200, .inl g12_89)), (r 3, .inl ((cT 0), 160, .inl f3)), (r 4, .inl ((cT 0), 4, .inl f4)), (mo, .inr (12, mdG r cd tm (nI sn) (nI 0) (nI lz) (nI ((az + 1) + 1 + 16)) (nI na) (nI nt) (nI nr) mw ml mk dq)), (r 9, .inl ((cT 0), 1400, .inl g9_114)), (r 0, .inl ((cT 1), 64, .inr (.inl f0))), (r 11, .inl ((cT 0), 16, .inl g11_115))] := hD
        refine lv_iinc (k := 0) (v := nI (i + 1)) (lv' := [(4, .int (nI (i + 1))), (3, .int 1), (2, .int (nI (az + 2))), (0, .ref mo), (1, .int (nI st))]) hx hb d_Md_close_222 hl rfl (nI_1 i) (by decide) rfl (fun ls hl => ?_)
        refine lv_goto (tgt := 199) hx hb d_Md_close_225 (by decide) ?_
        have hl := lv_sub hl [0, 1, 2, 3, 4] (show _ = [(4, .int (nI (i + 1))), (3, .int 1), (2, .int (nI (az + 2))), (0, .ref mo), (1, .int (nI st))] from rfl)
        exact ih (i + 1) _ _ _ _ (by omega)  hP hD hS hl
    refine L119 _ (fun g15_118 H locs ls  hP hD hS hl => ?_) (16 - 0) 0 g15_93 H _ ls (by omega)  hP hD hS hl
    refine lv_aload_n hx hb d_Md_close_228 rfl (lv_at hl 3 rfl) ?_
    refine lv_aload_n hx hb d_Md_close_229 rfl (lv_at hl 3 rfl) ?_
    refine va_get (D := (dC, dI)) (ci := 12) (v := (.int (nI ((az + 1) + 1 + 16)))) (C := R_Md) (T := F_Md) (N := 45) hx hb hg in_Md hown hK hP 12 rfl rfl 16 (by decide) (hg _ k_1036) (fun _ h9 => h9) rfl d_Md_close_230 ?_
    refine va_put (D := (dC, dI)) (ci := 12) (v := (.int (nI ((az + 1) + 1 + 16)))) (ty := .int) (C := R_Md) (T := F_Md) (N := 45) hx hb hg in_Md t_Md tok_Md nm_Md hown hK hP hD hS 12 rfl rfl 14 (by decide) (hg _ k_1034) (fun _ h9 => h9) rfl (by decide +kernel) rfl rfl (Nat.le_of_ble_eq_true rfl) d_Md_close_233 (fun H locs hP hD hS => ?_)
    have hP : va_P (dC, dI) vcl [(r 13, .inl ((cT 0), 200, .inl f13)), (r 7, .inl ((cT 0), 1000, .inl f7)), (r 18, .inl ((cT 0), 41, .inl f18)), (r 19, .inl ((cT 0), 41, .inl f19)), (r 20, .inl ((cT 0), 41, .inl f20)), (r 21, .inl ((cT 0), 41, .inl f21)), (r 22, .inl ((cT 0), 8200, .inl f22)), (r 23, .inl ((cT 0), 656, .inl f23)), (r 15, .inl ((cT 0), 200, .inl g15_118)), (r 12, .inl ((cT 0), 1200, .inl g12_89)), (r 3, .inl ((cT 0), 160, .inl f3)), (r 4, .inl ((cT 0), 4, .inl f4)), (mo, .inr (12, mdG r cd tm (nI sn) (nI 0) (nI ((az + 1) + 1 + 16)) (nI ((az + 1) + 1 + 16)) (nI na) (nI nt) (nI nr) mw ml mk dq)), (r 9, .inl ((cT 0), 1400, .inl g9_114)), (r 0, .inl ((cT 1), 64, .inr (.inl f0))), (r 11, .inl ((cT 0), 16, .inl g11_115))] H := hP
    have hD : va_D A [(r 13, .inl ((cT 0), 200, .inl f13)), (r 7, .inl ((cT 0), 1000, .inl f7)), (r 18, .inl ((cT 0), 41, .inl f18)), (r 19, .inl ((cT 0), 41, .inl f19)), (r 20, .inl ((cT 0), 41, .inl f20)), (r 21, .inl ((cT 0), 41, .inl f21)), (r 22, .inl ((cT 0), 8200, .inl f22)), (r 23, .inl ((cT 0), 656, .inl f23)), (r 15, .inl ((cT 0), 200, .inl g15_118)), (r 12, .inl ((cT 0), 1200, .inl g12_89)), (r 3, .inl ((cT 0), 160, .inl f3)), (r 4, .inl ((cT 0), 4, .inl f4)), (mo, .inr (12, mdG r cd tm (nI sn) (nI 0) (nI ((az + 1) + 1 + 16)) (nI ((az + 1) + 1 + 16)) (nI na) (nI nt) (nI nr) mw ml mk dq)), (r 9, .inl ((cT 0), 1400, .inl g9_114)), (r 0, .inl ((cT 1), 64, .inr (.inl f0))), (r 11, .inl ((cT 0), 16, .inl g11_115))] := hD
    refine lv_iconst (v := 0) hx hb d_Md_close_236 (by decide) ?_
    refine lv_istore (lv' := [(4, .int 0), (3, .int 1), (2, .int (nI (az + 2))), (0, .ref mo), (1, .int (nI st))]) hx hb d_Md_close_237 hl (by decide) rfl (fun ls hl => ?_)
    have hl := lv_sub hl [0, 1, 2, 3, 4] (show _ = [(4, .int 0), (3, .int 1), (2, .int (nI (az + 2))), (0, .ref mo), (1, .int (nI st))] from rfl)
    have L131 : ∀ (Q : State → Prop) (exit : ∀ (g13_130 : Nat → Int32) (H : Heap) (locs : List Loc) (ls : Array Slot), va_P (dC, dI) vcl [(r 13, .inl ((cT 0), 200, .inl g13_130)), (r 7, .inl ((cT 0), 1000, .inl f7)), (r 18, .inl ((cT 0), 41, .inl f18)), (r 19, .inl ((cT 0), 41, .inl f19)), (r 20, .inl ((cT 0), 41, .inl f20)), (r 21, .inl ((cT 0), 41, .inl f21)), (r 22, .inl ((cT 0), 8200, .inl f22)), (r 23, .inl ((cT 0), 656, .inl f23)), (r 15, .inl ((cT 0), 200, .inl g15_118)), (r 12, .inl ((cT 0), 1200, .inl g12_89)), (r 3, .inl ((cT 0), 160, .inl f3)), (r 4, .inl ((cT 0), 4, .inl f4)), (mo, .inr (12, mdG r cd tm (nI sn) (nI 0) (nI ((az + 1) + 1 + 16)) (nI ((az + 1) + 1 + 16)) (nI na) (nI nt) (nI nr) mw ml mk dq)), (r 9, .inl ((cT 0), 1400, .inl g9_114)), (r 0, .inl ((cT 1), 64, .inr (.inl f0))), (r 11, .inl ((cT 0), 16, .inl g11_115))] H → va_D A [(r 13, .inl ((cT 0), 200, .inl g13_130)), (r 7, .inl ((cT 0), 1000, .inl f7)), (r 18, .inl ((cT 0), 41, .inl f18)), (r 19, .inl ((cT 0), 41, .inl f19)), (r 20, .inl ((cT 0), 41, .inl f20)), (r 21, .inl ((cT 0), 41, .inl f21)), (r 22, .inl ((cT 0), 8200, .inl f22)), (r 23, .inl ((cT 0), 656, .inl f23)), (r 15, .inl ((cT 0), 200, .inl g15_118)), (r 12, .inl ((cT 0), 1200, .inl g12_89)), (r 3, .inl ((cT 0), 160, .inl f3)), (r 4, .inl ((cT 0), 4, .inl f4)), (mo, .inr (12, mdG r cd tm (nI sn) (nI 0) (nI ((az + 1) + 1 + 16)) (nI ((az + 1) + 1 + 16)) (nI na) (nI nt) (nI nr) mw ml mk dq)), (r 9, .inl ((cT 0), 1400, .inl g9_114)), (r 0, .inl ((cT 1), 64, .inr (.inl f0))), (r 11, .inl ((cT 0), 16, .inl g11_115))] → va_S A s.heap H locs → lv_has ls 5 [(4, .int (nI ((az + 1) + 1 + 16))), (3, .int 1), (2, .int (nI (az + 2))), (0, .ref mo), (1, .int (nI st))] → W p l e ({ frames := 3, cells := 0, slots := 0, locals := 95 } : Room) s m args below meth c H locs 0 0 Q (F0 m 268 ls [])) (j8 i : Nat) (g13_130 : Nat → Int32) (H : Heap) (locs : List Loc) (ls : Array Slot), i + j8 = (az + 1) + 1 + 16 → va_P (dC, dI) vcl [(r 13, .inl ((cT 0), 200, .inl g13_130)), (r 7, .inl ((cT 0), 1000, .inl f7)), (r 18, .inl ((cT 0), 41, .inl f18)), (r 19, .inl ((cT 0), 41, .inl f19)), (r 20, .inl ((cT 0), 41, .inl f20)), (r 21, .inl ((cT 0), 41, .inl f21)), (r 22, .inl ((cT 0), 8200, .inl f22)), (r 23, .inl ((cT 0), 656, .inl f23)), (r 15, .inl ((cT 0), 200, .inl g15_118)), (r 12, .inl ((cT 0), 1200, .inl g12_89)), (r 3, .inl ((cT 0), 160, .inl f3)), (r 4, .inl ((cT 0), 4, .inl f4)), (mo, .inr (12, mdG r cd tm (nI sn) (nI 0) (nI ((az + 1) + 1 + 16)) (nI ((az + 1) + 1 + 16)) (nI na) (nI nt) (nI nr) mw ml mk dq)), (r 9, .inl ((cT 0), 1400, .inl g9_114)), (r 0, .inl ((cT 1), 64, .inr (.inl f0))), (r 11, .inl ((cT 0), 16, .inl g11_115))] H → va_D A [(r 13, .inl ((cT 0), 200, .inl g13_130)), (r 7, .inl ((cT 0), 1000, .inl f7)), (r 18, .inl ((cT 0), 41, .inl f18)), (r 19, .inl ((cT 0), 41, .inl f19)), (r 20, .inl ((cT 0), 41, .inl f20)), (r 21, .inl ((cT 0), 41, .inl f21)), (r 22, .inl ((cT 0), 8200, .inl f22)), (r 23, .inl ((cT 0), 656, .inl f23)), (r 15, .inl ((cT 0), 200, .inl g15_118)), (r 12, .inl ((cT 0), 1200, .inl g12_89)), (r 3, .inl ((cT 0), 160, .inl f3)), (r 4, .inl ((cT 0), 4, .inl f4)), (mo, .inr (12, mdG r cd tm (nI sn) (nI 0) (nI ((az + 1) + 1 + 16)) (nI ((az + 1) + 1 + 16)) (nI na) (nI nt) (nI nr) mw ml mk dq)), (r 9, .inl ((cT 0), 1400, .inl g9_114)), (r 0, .inl ((cT 1), 64, .inr (.inl f0))), (r 11, .inl ((cT 0), 16, .inl g11_115))] → va_S A s.heap H locs → lv_has ls 5 [(4, .int (nI i)), (3, .int 1), (2, .int (nI (az + 2))), (0, .ref mo), (1, .int (nI st))] → W p l e ({ frames := 3, cells := 0, slots := 0, locals := 95 } : Room) s m args below meth c H locs 0 0 Q (F0 m 239 ls []) := by
      intro Q exit j8
      induction j8 with
      | zero => 
        intro i g13_130 H locs ls hij  hP hD hS hl
        have hij : (az + 1) + 1 + 16 = i := by omega
        refine lv_iload hx hb d_Md_close_239 (lv_at hl 0 rfl) ?_
        refine lv_aload_n hx hb d_Md_close_241 rfl (lv_at hl 3 rfl) ?_
        refine va_get (D := (dC, dI)) (ci := 12) (v := (.int (nI ((az + 1) + 1 + 16)))) (C := R_Md) (T := F_Md) (N := 45) hx hb hg in_Md hown hK hP 12 rfl rfl 16 (by decide) (hg _ k_1036) (fun _ h9 => h9) rfl d_Md_close_242 ?_
        refine lv_icmp_ge (tgt := 268) hx hb d_Md_close_245 (by decide) (fun hc132 => ?_) (fun hn9 => absurd (nI_le (by omega) (by omega)) hn9)
        subst hij
        exact exit g13_130 _ _ _  hP hD hS hl
      | succ j8 ih => 
        intro i g13_130 H locs ls hij  hP hD hS hl
        have hlt : i < (az + 1) + 1 + 16 := by omega
        have hlti := hlt
        refine lv_iload hx hb d_Md_close_239 (lv_at hl 0 rfl) ?_
        refine lv_aload_n hx hb d_Md_close_241 rfl (lv_at hl 3 rfl) ?_
        refine va_get (D := (dC, dI)) (ci := 12) (v := (.int (nI ((az + 1) + 1 + 16)))) (C := R_Md) (T := F_Md) (N := 45) hx hb hg in_Md hown hK hP 12 rfl rfl 16 (by decide) (hg _ k_1036) (fun _ h9 => h9) rfl d_Md_close_242 ?_
        refine lv_icmp_ge (tgt := 268) hx hb d_Md_close_245 (by decide) (fun hn9 => absurd hn9 (nI_ge (by omega) (by omega))) (fun hc133 => ?_)
        refine lv_aload_n hx hb d_Md_close_248 rfl (lv_at hl 3 rfl) ?_
        refine va_get (D := (dC, dI)) (ci := 12) (v := (.ref (r 13))) (C := R_Md) (T := F_Md) (N := 45) hx hb hg in_Md hown hK hP 12 rfl rfl 13 (by decide) (hg _ k_1033) (fun _ h9 => h9) rfl d_Md_close_249 ?_
        refine lv_iload hx hb d_Md_close_252 (lv_at hl 0 rfl) ?_
        refine lv_aload_n hx hb d_Md_close_254 rfl (lv_at hl 3 rfl) ?_
        refine va_get (D := (dC, dI)) (ci := 12) (v := (.ref (r 15))) (C := R_Md) (T := F_Md) (N := 45) hx hb hg in_Md hown hK hP 12 rfl rfl 15 (by decide) (hg _ k_1035) (fun _ h9 => h9) rfl d_Md_close_255 ?_
        refine lv_iload hx hb d_Md_close_258 (lv_at hl 0 rfl) ?_
        refine va_iald hx hb hK hP 8 0 rfl rfl (i := (nI i)) (vp_in_nI (N := 200) (by omega) (by decide)) d_Md_close_260 ?_
        refine lv_topi (fun x134 e_x134 => ?_)
        clear e_x134
        refine va_iast hx hb hK hP hD hS 0 0 rfl rfl (i := (nI i)) (vp_in_nI (n := i) (N := 200) (by omega) (by decide)) d_Md_close_261 (fun H locs hP hD hS => ?_)
        have ef135 : upd g13_130 (nI i).toNatClampNeg x134 = upd g13_130 i x134 := by rw [show (nI i).toNatClampNeg = i from nI_clamp (by omega)]
        rw [ef135] at hP hD
        have hP : va_P (dC, dI) vcl [(r 13, .inl ((cT 0), 200, .inl (upd g13_130 i x134))), (r 7, .inl ((cT 0), 1000, .inl f7)), (r 18, .inl ((cT 0), 41, .inl f18)), (r 19, .inl ((cT 0), 41, .inl f19)), (r 20, .inl ((cT 0), 41, .inl f20)), (r 21, .inl ((cT 0), 41, .inl f21)), (r 22, .inl ((cT 0), 8200, .inl f22)), (r 23, .inl ((cT 0), 656, .inl f23)), (r 15, .inl ((cT 0), 200, .inl g15_118)), (r 12, .inl ((cT 0), 1200, .inl g12_89)), (r 3, .inl ((cT 0), 160, .inl f3)), (r 4, .inl ((cT 0), 4, .inl f4)), (mo, .inr (12, mdG r cd tm (nI sn) (nI 0) (nI ((az + 1) + 1 + 16)) (nI ((az + 1) + 1 + 16)) (nI na) (nI nt) (nI nr) mw ml mk dq)), (r 9, .inl ((cT 0), 1400, .inl g9_114)), (r 0, .inl ((cT 1), 64, .inr (.inl f0))), (r 11, .inl ((cT 0), 16, .inl g11_115))] H := hP
        have hD : va_D A [(r 13, .inl ((cT 0), 200, .inl (upd g13_130 i x134))), (r 7, .inl ((cT 0), 1000, .inl f7)), (r 18, .inl ((cT 0), 41, .inl f18)), (r 19, .inl ((cT 0), 41, .inl f19)), (r 20, .inl ((cT 0), 41, .inl f20)), (r 21, .inl ((cT 0), 41, .inl f21)), (r 22, .inl ((cT 0), 8200, .inl f22)), (r 23, .inl ((cT 0), 656, .inl f23)), (r 15, .inl ((cT 0), 200, .inl g15_118)), (r 12, .inl ((cT 0), 1200, .inl g12_89)), (r 3, .inl ((cT 0), 160, .inl f3)), (r 4, .inl ((cT 0), 4, .inl f4)), (mo, .inr (12, mdG r cd tm (nI sn) (nI 0) (nI ((az + 1) + 1 + 16)) (nI ((az + 1) + 1 + 16)) (nI na) (nI nt) (nI nr) mw ml mk dq)), (r 9, .inl ((cT 0), 1400, .inl g9_114)), (r 0, .inl ((cT 1), 64, .inr (.inl f0))), (r 11, .inl ((cT 0), 16, .inl g11_115))] := hD
        refine lv_iinc (k := 0) (v := nI (i + 1)) (lv' := [(4, .int (nI (i + 1))), (3, .int 1), (2, .int (nI (az + 2))), (0, .ref mo), (1, .int (nI st))]) hx hb d_Md_close_262 hl rfl (nI_1 i) (by decide) rfl (fun ls hl => ?_)
        refine lv_goto (tgt := 239) hx hb d_Md_close_265 (by decide) ?_
        have hl := lv_sub hl [0, 1, 2, 3, 4] (show _ = [(4, .int (nI (i + 1))), (3, .int 1), (2, .int (nI (az + 2))), (0, .ref mo), (1, .int (nI st))] from rfl)
        exact ih (i + 1) _ _ _ _ (by omega)  hP hD hS hl
    refine L131 _ (fun g13_130 H locs ls  hP hD hS hl => ?_) ((az + 1) + 1 + 16 - 0) 0 f13 H _ ls (by omega)  hP hD hS hl
    refine lv_aload_n hx hb d_Md_close_268 rfl (lv_at hl 3 rfl) ?_
    refine lv_iload_n hx hb d_Md_close_269 rfl (lv_at hl 4 rfl) ?_
    have hPc := hP.sub (ws' := [(mo, .inr (12, mdG r cd tm (nI sn) (nI 0) (nI ((az + 1) + 1 + 16)) (nI ((az + 1) + 1 + 16)) (nI na) (nI nt) (nI nr) mw ml mk dq)), (r 18, .inl ((cT 0), 41, .inl f18)), (r 19, .inl ((cT 0), 41, .inl f19)), (r 20, .inl ((cT 0), 41, .inl f20)), (r 21, .inl ((cT 0), 41, .inl f21)), (r 22, .inl ((cT 0), 8200, .inl f22)), (r 23, .inl ((cT 0), 656, .inl f23)), (r 7, .inl ((cT 0), 1000, .inl f7)), (r 15, .inl ((cT 0), 200, .inl g15_118))]) [12, 2, 3, 4, 5, 6, 7, 1, 8] rfl
    have hDc := hD.sub (ws' := [(mo, .inr (12, mdG r cd tm (nI sn) (nI 0) (nI ((az + 1) + 1 + 16)) (nI ((az + 1) + 1 + 16)) (nI na) (nI nt) (nI nr) mw ml mk dq)), (r 18, .inl ((cT 0), 41, .inl f18)), (r 19, .inl ((cT 0), 41, .inl f19)), (r 20, .inl ((cT 0), 41, .inl f20)), (r 21, .inl ((cT 0), 41, .inl f21)), (r 22, .inl ((cT 0), 8200, .inl f22)), (r 23, .inl ((cT 0), 656, .inl f23)), (r 7, .inl ((cT 0), 1000, .inl f7)), (r 15, .inl ((cT 0), 200, .inl g15_118))]) [12, 2, 3, 4, 5, 6, 7, 1, 8] (by decide) rfl
    have hFc := va_free (wc := [(mo, .inr (12, mdG r cd tm (nI sn) (nI 0) (nI ((az + 1) + 1 + 16)) (nI ((az + 1) + 1 + 16)) (nI na) (nI nt) (nI nr) mw ml mk dq)), (r 18, .inl ((cT 0), 41, .inl f18)), (r 19, .inl ((cT 0), 41, .inl f19)), (r 20, .inl ((cT 0), 41, .inl f20)), (r 21, .inl ((cT 0), 41, .inl f21)), (r 22, .inl ((cT 0), 8200, .inl f22)), (r 23, .inl ((cT 0), 656, .inl f23)), (r 7, .inl ((cT 0), 1000, .inl f7)), (r 15, .inl ((cT 0), 200, .inl g15_118))]) hD hS hA [12, 2, 3, 4, 5, 6, 7, 1, 8] rfl
    refine va_callv (va_runV (C := "DoorServerModel") (As := [.int (nI st)]) (rest := []) ⟨hx, hb, hml, hown, hg⟩ (m_keep l dC dI cT H.size mo r cd tm sn 0 ((az + 1) + 1 + 16) ((az + 1) + 1 + 16) na nt nr mw ml mk dq f18 f19 f20 f21 f22 f23 f7 g15_118 (nI st) (by first | assumption | omega) (by first | assumption | omega) (by first | assumption | omega)) (cwV 1 hg (gI (List.forall_mem_append.mpr ⟨List.forall_mem_cons.mpr ⟨k_1367, List.forall_mem_cons.mpr ⟨k_1369, List.forall_mem_cons.mpr ⟨(big_sel (q := y_Md_keep) (n := 45) (by decide +kernel)), List.forall_mem_cons.mpr ⟨k_13, fun _ h => absurd h List.not_mem_nil⟩⟩⟩⟩, List.forall_mem_cons.mpr ⟨k_1370, fun _ h => h⟩⟩)) rfl rfl rfl (by decide +kernel) ⟨Nat.le_of_ble_eq_true rfl, Nat.le_of_ble_eq_true rfl⟩) ⟨fun a U g mk q => by obtain ⟨q0, q1, qP, qK, qD⟩ := q; exact ⟨q0, q1, qP, va_K.moved (u := U) (U := U.calling g mk a) (Vm.Alike.refl U.vm) qK, qD⟩, va_recv (q0 := 12) (ci := 12) hK hP rfl rfl, fun U hU hW => ⟨rfl, by rw [hU], by rw [hU]; exact hPc, va_K.moved hW.alike hK, hDc.weaken (fun _ _ _ _ => trivial)⟩⟩ rfl rfl hl.1 rfl (lv_room (Nat.le_of_ble_eq_true rfl)) d_Md_close_270 ⟨Nat.le_of_ble_eq_true rfl, Nat.le_of_ble_eq_true rfl⟩) hS (fun q _ h => hFc q h) hFc (fun u t H1 locs ht hvm hw hB hz1 hk1 hS => ?_)
    obtain ⟨g18_136, g19_137, g20_138, g21_139, g22_140, g23_141, na2_142⟩ := u
    try dsimp only at hw hB
    obtain ⟨hP1, hK1, hD1⟩ := hB
    rw [ht] at hP1
    obtain ⟨hP, hD⟩ := va_join (wr := [(r 13, .inl ((cT 0), 200, .inl g13_130)), (r 12, .inl ((cT 0), 1200, .inl g12_89)), (r 3, .inl ((cT 0), 160, .inl f3)), (r 4, .inl ((cT 0), 4, .inl f4)), (r 9, .inl ((cT 0), 1400, .inl g9_114)), (r 0, .inl ((cT 1), 64, .inr (.inl f0))), (r 11, .inl ((cT 0), 16, .inl g11_115))]) (w1 := [(mo, .inr (12, mdG r cd tm (nI sn) (nI 0) (nI ((az + 1) + 1 + 16)) (nI ((az + 1) + 1 + 16)) (nI na2_142) (nI nt) (nI nr) mw ml mk dq)), (r 18, .inl ((cT 0), 41, .inl g18_136)), (r 19, .inl ((cT 0), 41, .inl g19_137)), (r 20, .inl ((cT 0), 41, .inl g20_138)), (r 21, .inl ((cT 0), 41, .inl g21_139)), (r 22, .inl ((cT 0), 8200, .inl g22_140)), (r 23, .inl ((cT 0), 656, .inl g23_141)), (r 7, .inl ((cT 0), 1000, .inl f7)), (r 15, .inl ((cT 0), 200, .inl g15_118))]) hP hD [12, 2, 3, 4, 5, 6, 7, 1, 8] [0, 9, 10, 11, 13, 14, 15] rfl rfl (by decide) (by decide) hk1 hFc hP1 hD1
    have hw143 := hw
    clear hPc hDc hFc hz1 hk1 hP1 hK1 hD1
    generalize H1 = H at hP hS ⊢
    have hP : va_P (dC, dI) vcl [(r 13, .inl ((cT 0), 200, .inl g13_130)), (r 12, .inl ((cT 0), 1200, .inl g12_89)), (r 3, .inl ((cT 0), 160, .inl f3)), (r 4, .inl ((cT 0), 4, .inl f4)), (r 9, .inl ((cT 0), 1400, .inl g9_114)), (r 0, .inl ((cT 1), 64, .inr (.inl f0))), (r 11, .inl ((cT 0), 16, .inl g11_115)), (mo, .inr (12, mdG r cd tm (nI sn) (nI 0) (nI ((az + 1) + 1 + 16)) (nI ((az + 1) + 1 + 16)) (nI na2_142) (nI nt) (nI nr) mw ml mk dq)), (r 18, .inl ((cT 0), 41, .inl g18_136)), (r 19, .inl ((cT 0), 41, .inl g19_137)), (r 20, .inl ((cT 0), 41, .inl g20_138)), (r 21, .inl ((cT 0), 41, .inl g21_139)), (r 22, .inl ((cT 0), 8200, .inl g22_140)), (r 23, .inl ((cT 0), 656, .inl g23_141)), (r 7, .inl ((cT 0), 1000, .inl f7)), (r 15, .inl ((cT 0), 200, .inl g15_118))] H := hP
    have hD : va_D A [(r 13, .inl ((cT 0), 200, .inl g13_130)), (r 12, .inl ((cT 0), 1200, .inl g12_89)), (r 3, .inl ((cT 0), 160, .inl f3)), (r 4, .inl ((cT 0), 4, .inl f4)), (r 9, .inl ((cT 0), 1400, .inl g9_114)), (r 0, .inl ((cT 1), 64, .inr (.inl f0))), (r 11, .inl ((cT 0), 16, .inl g11_115)), (mo, .inr (12, mdG r cd tm (nI sn) (nI 0) (nI ((az + 1) + 1 + 16)) (nI ((az + 1) + 1 + 16)) (nI na2_142) (nI nt) (nI nr) mw ml mk dq)), (r 18, .inl ((cT 0), 41, .inl g18_136)), (r 19, .inl ((cT 0), 41, .inl g19_137)), (r 20, .inl ((cT 0), 41, .inl g20_138)), (r 21, .inl ((cT 0), 41, .inl g21_139)), (r 22, .inl ((cT 0), 8200, .inl g22_140)), (r 23, .inl ((cT 0), 656, .inl g23_141)), (r 7, .inl ((cT 0), 1000, .inl f7)), (r 15, .inl ((cT 0), 200, .inl g15_118))] := hD
    obtain ⟨k144, k145⟩ := hw143
    refine lv_aload_n hx hb d_Md_close_273 rfl (lv_at hl 3 rfl) ?_
    refine lv_dup hx hb d_Md_close_274 rfl ?_
    refine va_get (D := (dC, dI)) (ci := 12) (v := (.int mw)) (C := R_Md) (T := F_Md) (N := 45) hx hb hg in_Md hown hK hP 7 rfl rfl 43 (by decide) (hg _ k_1063) (fun _ h9 => h9) rfl d_Md_close_275 ?_
    refine lv_iconst (v := 1) hx hb d_Md_close_278 (by decide) ?_
    refine lv_iadd hx hb d_Md_close_279 ?_
    refine va_put (D := (dC, dI)) (ci := 12) (v := (.int (mw + 1))) (ty := .int) (C := R_Md) (T := F_Md) (N := 45) hx hb hg in_Md t_Md tok_Md nm_Md hown hK hP hD hS 7 rfl rfl 43 (by decide) (hg _ k_1063) (fun _ h9 => h9) rfl (by decide +kernel) rfl rfl (Nat.le_of_ble_eq_true rfl) d_Md_close_280 (fun H locs hP hD hS => ?_)
    have hP : va_P (dC, dI) vcl [(r 13, .inl ((cT 0), 200, .inl g13_130)), (r 12, .inl ((cT 0), 1200, .inl g12_89)), (r 3, .inl ((cT 0), 160, .inl f3)), (r 4, .inl ((cT 0), 4, .inl f4)), (r 9, .inl ((cT 0), 1400, .inl g9_114)), (r 0, .inl ((cT 1), 64, .inr (.inl f0))), (r 11, .inl ((cT 0), 16, .inl g11_115)), (mo, .inr (12, mdG r cd tm (nI sn) (nI 0) (nI ((az + 1) + 1 + 16)) (nI ((az + 1) + 1 + 16)) (nI na2_142) (nI nt) (nI nr) (mw + 1) ml mk dq)), (r 18, .inl ((cT 0), 41, .inl g18_136)), (r 19, .inl ((cT 0), 41, .inl g19_137)), (r 20, .inl ((cT 0), 41, .inl g20_138)), (r 21, .inl ((cT 0), 41, .inl g21_139)), (r 22, .inl ((cT 0), 8200, .inl g22_140)), (r 23, .inl ((cT 0), 656, .inl g23_141)), (r 7, .inl ((cT 0), 1000, .inl f7)), (r 15, .inl ((cT 0), 200, .inl g15_118))] H := hP
    have hD : va_D A [(r 13, .inl ((cT 0), 200, .inl g13_130)), (r 12, .inl ((cT 0), 1200, .inl g12_89)), (r 3, .inl ((cT 0), 160, .inl f3)), (r 4, .inl ((cT 0), 4, .inl f4)), (r 9, .inl ((cT 0), 1400, .inl g9_114)), (r 0, .inl ((cT 1), 64, .inr (.inl f0))), (r 11, .inl ((cT 0), 16, .inl g11_115)), (mo, .inr (12, mdG r cd tm (nI sn) (nI 0) (nI ((az + 1) + 1 + 16)) (nI ((az + 1) + 1 + 16)) (nI na2_142) (nI nt) (nI nr) (mw + 1) ml mk dq)), (r 18, .inl ((cT 0), 41, .inl g18_136)), (r 19, .inl ((cT 0), 41, .inl g19_137)), (r 20, .inl ((cT 0), 41, .inl g20_138)), (r 21, .inl ((cT 0), 41, .inl g21_139)), (r 22, .inl ((cT 0), 8200, .inl g22_140)), (r 23, .inl ((cT 0), 656, .inl g23_141)), (r 7, .inl ((cT 0), 1000, .inl f7)), (r 15, .inl ((cT 0), 200, .inl g15_118))] := hD
    refine lv_aload_n hx hb d_Md_close_283 rfl (lv_at hl 3 rfl) ?_
    refine va_get (D := (dC, dI)) (ci := 12) (v := (.ref (r 15))) (C := R_Md) (T := F_Md) (N := 45) hx hb hg in_Md hown hK hP 7 rfl rfl 15 (by decide) (hg _ k_1035) (fun _ h9 => h9) rfl d_Md_close_284 ?_
    refine lv_iconst (v := 0) hx hb d_Md_close_287 (by decide) ?_
    refine lv_topi (fun x147 e146 => ?_)
    obtain rfl : x147 = nI 0 := by rw [e146]; rfl
    refine va_iald hx hb hK hP 15 0 rfl rfl (i := (nI 0)) (vp_in_nI (N := 200) (by omega) (by decide)) d_Md_close_288 ?_
    refine lv_topi (fun x148 e_x148 => ?_)
    clear e_x148
    have hP9 := hP.sub (ws' := [(mo, .inr (12, mdG r cd tm (nI sn) (nI 0) (nI ((az + 1) + 1 + 16)) (nI ((az + 1) + 1 + 16)) (nI na2_142) (nI nt) (nI nr) (mw + 1) ml mk dq)), (r 15, .inl ((cT 0), 200, .inl g15_118)), (r 9, .inl ((cT 0), 1400, .inl g9_114)), (r 12, .inl ((cT 0), 1200, .inl g12_89)), (r 3, .inl ((cT 0), 160, .inl f3)), (r 4, .inl ((cT 0), 4, .inl f4)), (r 0, .inl ((cT 1), 64, .inr (.inl f0))), (r 11, .inl ((cT 0), 16, .inl g11_115)), (r 13, .inl ((cT 0), 200, .inl g13_130)), (r 7, .inl ((cT 0), 1000, .inl f7)), (r 18, .inl ((cT 0), 41, .inl g18_136)), (r 19, .inl ((cT 0), 41, .inl g19_137)), (r 20, .inl ((cT 0), 41, .inl g20_138)), (r 21, .inl ((cT 0), 41, .inl g21_139)), (r 22, .inl ((cT 0), 8200, .inl g22_140)), (r 23, .inl ((cT 0), 656, .inl g23_141))]) [7, 15, 4, 1, 2, 3, 5, 6, 0, 14, 8, 9, 10, 11, 12, 13] rfl
    have hD9 := hD.sub (ws' := [(mo, .inr (12, mdG r cd tm (nI sn) (nI 0) (nI ((az + 1) + 1 + 16)) (nI ((az + 1) + 1 + 16)) (nI na2_142) (nI nt) (nI nr) (mw + 1) ml mk dq)), (r 15, .inl ((cT 0), 200, .inl g15_118)), (r 9, .inl ((cT 0), 1400, .inl g9_114)), (r 12, .inl ((cT 0), 1200, .inl g12_89)), (r 3, .inl ((cT 0), 160, .inl f3)), (r 4, .inl ((cT 0), 4, .inl f4)), (r 0, .inl ((cT 1), 64, .inr (.inl f0))), (r 11, .inl ((cT 0), 16, .inl g11_115)), (r 13, .inl ((cT 0), 200, .inl g13_130)), (r 7, .inl ((cT 0), 1000, .inl f7)), (r 18, .inl ((cT 0), 41, .inl g18_136)), (r 19, .inl ((cT 0), 41, .inl g19_137)), (r 20, .inl ((cT 0), 41, .inl g20_138)), (r 21, .inl ((cT 0), 41, .inl g21_139)), (r 22, .inl ((cT 0), 8200, .inl g22_140)), (r 23, .inl ((cT 0), 656, .inl g23_141))]) [7, 15, 4, 1, 2, 3, 5, 6, 0, 14, 8, 9, 10, 11, 12, 13] (by decide) rfl
    exact W.iret (v := x148) hx hb hr (fun t ht hW => ⟨⟨_, ⟨g15_118, g9_114, g12_89, g11_115, g13_130, g18_136, g19_137, g20_138, g21_139, g22_140, g23_141, (az + 1) + 1 + 16, (az + 1) + 1 + 16, na2_142, mw + 1⟩, rfl, ⟨by first | assumption | omega, by first | assumption | omega, by first | assumption | omega, by first | assumption | omega, by first | assumption | omega⟩, by rw [ht]; exact hP9, va_K.moved hW.alike hK, hD9⟩, hS.F ht⟩) hS.2.2 d_Md_close_289
set_option maxHeartbeats 4000000 in
set_option maxRecDepth 100000 in
/-- userOf -/
theorem m_userOf (l : Launch) (dC : Nat → ClassId) (dI : Nat → Nat → Nat) (cT : Nat → ClassId) (sz : Nat) (mo : Nat) (r : Nat → Nat) (cd : Int32) (tm : Int32) (sn : Nat) (tx : Nat) (lz : Nat) (az : Nat) (na : Nat) (nt : Nat) (nr : Nat) (mw : Int32) (ml : Int32) (mk : Int64) (dq : Int64) (f6 : Nat → Int32) (f7 : Nat → Int32) (h20 : 20 ≤ sn) (hsn : sn ≤ 1000) (h7 : AB f7) : Met l y_Md_userOf (Cond.code y_Md_userOf b_Md_userOf 3 (Option.some Jvm.ClassFile.FieldType.int) :: BIG) ({ frames := 3, cells := 0, slots := 0, locals := 72 }) (va_Pc [.ref mo] (fun U => U.heap.size = sz ∧ va_P (dC, dI) vcl [(mo, .inr (12, mdG r cd tm (nI sn) (nI tx) (nI lz) (nI az) (nI na) (nI nt) (nI nr) mw ml mk dq)), (r 6, .inl ((cT 0), 32, .inl f6)), (r 7, .inl ((cT 0), 1000, .inl f7))] U.heap ∧ va_K (dC, dI) vcl (tyL cT) U ∧ va_D (fun _ => True) [(mo, .inr (12, mdG r cd tm (nI sn) (nI tx) (nI lz) (nI az) (nI na) (nI nt) (nI nr) mw ml mk dq)), (r 6, .inl ((cT 0), 32, .inl f6)), (r 7, .inl ((cT 0), 1000, .inl f7))])) (va_Qi (S := Unit) (fun rv9 u => rv9 = -1 ∨ ∃ a : Nat, rv9 = nI a ∧ a < 32) (fun u t => va_P (dC, dI) vcl [(mo, .inr (12, mdG r cd tm (nI sn) (nI tx) (nI lz) (nI az) (nI na) (nI nt) (nI nr) mw ml mk dq)), (r 6, .inl ((cT 0), 32, .inl f6)), (r 7, .inl ((cT 0), 1000, .inl f7))] t.heap ∧ va_K (dC, dI) vcl (tyL cT) t ∧ va_D (va_A [(mo, .inr (12, mdG r cd tm (nI sn) (nI tx) (nI lz) (nI az) (nI na) (nI nt) (nI nr) mw ml mk dq)), (r 6, .inl ((cT 0), 32, .inl f6)), (r 7, .inl ((cT 0), 1000, .inl f7))] sz) [(mo, .inr (12, mdG r cd tm (nI sn) (nI tx) (nI lz) (nI az) (nI na) (nI nt) (nI nr) mw ml mk dq)), (r 6, .inl ((cT 0), 32, .inl f6)), (r 7, .inl ((cT 0), 1000, .inl f7))]) (va_A [(mo, .inr (12, mdG r cd tm (nI sn) (nI tx) (nI lz) (nI az) (nI na) (nI nt) (nI nr) mw ml mk dq)), (r 6, .inl ((cT 0), 32, .inl f6)), (r 7, .inl ((cT 0), 1000, .inl f7))] sz)) 0 0 (va_A [(mo, .inr (12, mdG r cd tm (nI sn) (nI tx) (nI lz) (nI az) (nI na) (nI nt) (nI nr) mw ml mk dq)), (r 6, .inl ((cT 0), 32, .inl f6)), (r 7, .inl ((cT 0), 1000, .inl f7))] sz) := by
  refine Met.ofW (cc := b_Md_userOf) (maxL := 3) (ret := (Option.some Jvm.ClassFile.FieldType.int)) (by decide) rfl ?_
  intro p e s m args below meth c s₁ B hml hv
  obtain ⟨hargs, hsz, hP, hK, hD0⟩ := hv
  have hx := B.exec
  have hb := B.bytes
  have hr := B.returns
  have hts := atoms_spec (ws := (Cond.code y_Md_userOf b_Md_userOf 3 (Option.some Jvm.ClassFile.FieldType.int) :: BIG)) B.pre
  have hg : ∀ w ∈ BIG, w.before _ s = true := fun w h => hts w (List.mem_cons_of_mem _ h)
  have hown : s.vm.findClass "DoorServerModel" = some m.cls := findClass_of_methodNamed B.named
  have hlocks := B.notSynchronized
  subst hsz
  have hD := hD0.self (sz := s.heap.size)
  generalize hAe : va_A [(mo, .inr (12, mdG r cd tm (nI sn) (nI tx) (nI lz) (nI az) (nI na) (nI nt) (nI nr) mw ml mk dq)), (r 6, .inl ((cT 0), 32, .inl f6)), (r 7, .inl ((cT 0), 1000, .inl f7))] s.heap.size = A at hD ⊢
  have hA : ∀ q : Nat, s.heap.size ≤ q → A q := fun q h => by rw [← hAe]; exact Or.inr h
  have hS : va_S A s.heap s.heap [] := va_S.rf
  have hl := lv_entry ([.ref mo]) (n := 3) (Nat.le_of_ble_eq_true rfl)
  refine W.eq (g2 := entryFrame m (List.toArray [.ref mo]) 3) (by rw [hargs]) ?_
  rw [lg_entry_eq]
  generalize (lg_sl ([.ref mo]) ++ List.replicate (3 - (lg_sl ([.ref mo])).length) Slot.unset).toArray = ls at hl ⊢
  have hl : lv_has ls 3 [(0, .ref mo)] := hl
  change W p l e ({ frames := 3, cells := 0, slots := 0, locals := 72 } : Room) s m args below meth c s.heap [] 0 0 _ _
  have hP : va_P (dC, dI) vcl [(mo, .inr (12, mdG r cd tm (nI sn) (nI tx) (nI lz) (nI az) (nI na) (nI nt) (nI nr) mw ml mk dq)), (r 6, .inl ((cT 0), 32, .inl f6)), (r 7, .inl ((cT 0), 1000, .inl f7))] s.heap := hP
  refine lv_iconst (v := 0) hx hb d_Md_userOf_0 (by decide) ?_
  refine lv_istore_n (lv' := [(1, .int 0), (0, .ref mo)]) hx hb d_Md_userOf_1 rfl hl (by decide) rfl (fun ls hl => ?_)
  have hl := lv_sub hl [0, 1] (show _ = [(1, .int 0), (0, .ref mo)] from rfl)
  have L149 : ∀ (Q : State → Prop) (ex0 : ∀ (i : Nat) (H : Heap) (locs : List Loc) (ls : Array Slot), va_P (dC, dI) vcl [(mo, .inr (12, mdG r cd tm (nI sn) (nI tx) (nI lz) (nI az) (nI na) (nI nt) (nI nr) mw ml mk dq)), (r 6, .inl ((cT 0), 32, .inl f6)), (r 7, .inl ((cT 0), 1000, .inl f7))] H → va_D A [(mo, .inr (12, mdG r cd tm (nI sn) (nI tx) (nI lz) (nI az) (nI na) (nI nt) (nI nr) mw ml mk dq)), (r 6, .inl ((cT 0), 32, .inl f6)), (r 7, .inl ((cT 0), 1000, .inl f7))] → va_S A s.heap H locs → lv_has ls 3 [(0, .ref mo)] → W p l e ({ frames := 3, cells := 0, slots := 0, locals := 72 } : Room) s m args below meth c H locs 0 0 Q (F0 m 95 ls [])) (ex1 : ∀ (i : Nat) (H : Heap) (locs : List Loc) (ls : Array Slot), (i < 32) → va_P (dC, dI) vcl [(mo, .inr (12, mdG r cd tm (nI sn) (nI tx) (nI lz) (nI az) (nI na) (nI nt) (nI nr) mw ml mk dq)), (r 6, .inl ((cT 0), 32, .inl f6)), (r 7, .inl ((cT 0), 1000, .inl f7))] H → va_D A [(mo, .inr (12, mdG r cd tm (nI sn) (nI tx) (nI lz) (nI az) (nI na) (nI nt) (nI nr) mw ml mk dq)), (r 6, .inl ((cT 0), 32, .inl f6)), (r 7, .inl ((cT 0), 1000, .inl f7))] → va_S A s.heap H locs → lv_has ls 3 [(0, .ref mo)] → W p l e ({ frames := 3, cells := 0, slots := 0, locals := 72 } : Room) s m args below meth c H locs 0 0 Q (F0 m 88 ls [.int (nI i)])) (jj150 : Nat) (i : Nat) (H : Heap) (locs : List Loc) (ls : Array Slot), 32 - i ≤ jj150 → (i ≤ 32) → va_P (dC, dI) vcl [(mo, .inr (12, mdG r cd tm (nI sn) (nI tx) (nI lz) (nI az) (nI na) (nI nt) (nI nr) mw ml mk dq)), (r 6, .inl ((cT 0), 32, .inl f6)), (r 7, .inl ((cT 0), 1000, .inl f7))] H → va_D A [(mo, .inr (12, mdG r cd tm (nI sn) (nI tx) (nI lz) (nI az) (nI na) (nI nt) (nI nr) mw ml mk dq)), (r 6, .inl ((cT 0), 32, .inl f6)), (r 7, .inl ((cT 0), 1000, .inl f7))] → va_S A s.heap H locs → lv_has ls 3 [(1, .int (nI i)), (0, .ref mo)] → W p l e ({ frames := 3, cells := 0, slots := 0, locals := 72 } : Room) s m args below meth c H locs 0 0 Q (F0 m 2 ls []) := by
    intro Q ex0 ex1 jj150
    induction jj150 with
    | zero => 
      intro i H locs ls hm9 hi hP hD hS hl
      refine lv_iload_n hx hb d_Md_userOf_2 rfl (lv_at hl 0 rfl) ?_
      refine lv_bipush (v := 32) hx hb d_Md_userOf_3 (by decide) ?_
      refine lv_icmp_ge (tgt := 95) hx hb d_Md_userOf_5 (by decide) (fun hc151 => ?_) (fun hc151 => ?_)
      · skip
        have n152 : 32 ≤ i := (nI_leI (a := 32) (b := i) (by omega) (by omega)).mp hc151
        have hl := lv_sub hl [1] (show _ = [(0, .ref mo)] from rfl)
        exact ex0 i _ _ _  hP hD hS hl
      · skip
        have n153 : i < 32 := Nat.not_le.mp (fun h7 => hc151 ((nI_leI (a := 32) (b := i) (by omega) (by omega)).mpr h7))
        refine lv_aload_n hx hb d_Md_userOf_8 rfl (lv_at hl 1 rfl) ?_
        refine va_get (D := (dC, dI)) (ci := 12) (v := (.ref (r 6))) (C := R_Md) (T := F_Md) (N := 45) hx hb hg in_Md hown hK hP 0 rfl rfl 6 (by decide) (hg _ k_1026) (fun _ h9 => h9) rfl d_Md_userOf_9 ?_
        refine lv_iload_n hx hb d_Md_userOf_12 rfl (lv_at hl 0 rfl) ?_
        refine va_iald hx hb hK hP 1 0 rfl rfl (i := (nI i)) (vp_in_nI (N := 32) (by omega) (by decide)) d_Md_userOf_13 ?_
        refine lv_topi (fun x154 e_x154 => ?_)
        clear e_x154
        refine lv_if_le (tgt := 89) hx hb d_Md_userOf_14 (by decide) (fun hc155 => ?_) (fun hc155 => ?_)
        · skip
          refine lv_iinc (k := 0) (v := nI (i + 1)) (lv' := [(1, .int (nI (i + 1))), (0, .ref mo)]) hx hb d_Md_userOf_89 hl rfl (nI_1 i) (by decide) rfl (fun ls hl => ?_)
          refine lv_goto (tgt := 2) hx hb d_Md_userOf_92 (by decide) ?_
          have hl := lv_sub hl [0, 1] (show _ = [(1, .int (nI (i + 1))), (0, .ref mo)] from rfl)
          exfalso; omega
        · skip
          refine lv_aload_n hx hb d_Md_userOf_17 rfl (lv_at hl 1 rfl) ?_
          refine lv_iconst (v := 1) hx hb d_Md_userOf_18 (by decide) ?_
          have hPc := hP.sub (ws' := [(mo, .inr (12, mdG r cd tm (nI sn) (nI tx) (nI lz) (nI az) (nI na) (nI nt) (nI nr) mw ml mk dq)), (r 7, .inl ((cT 0), 1000, .inl f7))]) [0, 2] rfl
          have hDc := hD.sub (ws' := [(mo, .inr (12, mdG r cd tm (nI sn) (nI tx) (nI lz) (nI az) (nI na) (nI nt) (nI nr) mw ml mk dq)), (r 7, .inl ((cT 0), 1000, .inl f7))]) [0, 2] (by decide) rfl
          have hFc := va_free (wc := [(mo, .inr (12, mdG r cd tm (nI sn) (nI tx) (nI lz) (nI az) (nI na) (nI nt) (nI nr) mw ml mk dq)), (r 7, .inl ((cT 0), 1000, .inl f7))]) hD hS hA [0, 2] rfl
          refine va_calli (va_runV (C := "DoorServerModel") (As := [.int 1]) (rest := []) ⟨hx, hb, hml, hown, hg⟩ (m_has l dC dI cT H.size mo r cd tm sn tx lz az na nt nr mw ml mk dq f7 1 (by first | assumption | omega) (by first | assumption | omega) (by first | assumption | omega)) (cwV 1 hg (gI (List.forall_mem_append.mpr ⟨List.forall_mem_cons.mpr ⟨k_1305, List.forall_mem_cons.mpr ⟨k_1307, List.forall_mem_cons.mpr ⟨(big_sel (q := y_Md_has) (n := 45) (by decide +kernel)), List.forall_mem_cons.mpr ⟨k_13, fun _ h => absurd h List.not_mem_nil⟩⟩⟩⟩, List.forall_mem_cons.mpr ⟨k_1308, fun _ h => h⟩⟩)) rfl rfl rfl (by decide +kernel) ⟨Nat.le_of_ble_eq_true rfl, Nat.le_of_ble_eq_true rfl⟩) ⟨fun a U g mk q => by obtain ⟨q0, q1, qP, qK, qD⟩ := q; exact ⟨q0, q1, qP, va_K.moved (u := U) (U := U.calling g mk a) (Vm.Alike.refl U.vm) qK, qD⟩, va_recv (q0 := 0) (ci := 12) hK hP rfl rfl, fun U hU hW => ⟨rfl, by rw [hU], by rw [hU]; exact hPc, va_K.moved hW.alike hK, hDc.weaken (fun _ _ _ _ => trivial)⟩⟩ rfl rfl hl.1 rfl (lv_room (Nat.le_of_ble_eq_true rfl)) d_Md_userOf_19 ⟨Nat.le_of_ble_eq_true rfl, Nat.le_of_ble_eq_true rfl⟩) hS (fun q _ h => hFc q h) hFc (fun rv9 u t H1 locs ht hvm hw hB hz1 hk1 hS => ?_)
          try dsimp only at hw hB
          obtain ⟨hP1, hK1, hD1⟩ := hB
          rw [ht] at hP1
          generalize rv9 = r156 at hw ⊢
          obtain ⟨hP, hD⟩ := va_join (wr := [(r 6, .inl ((cT 0), 32, .inl f6))]) (w1 := [(mo, .inr (12, mdG r cd tm (nI sn) (nI tx) (nI lz) (nI az) (nI na) (nI nt) (nI nr) mw ml mk dq)), (r 7, .inl ((cT 0), 1000, .inl f7))]) hP hD [0, 2] [1] rfl rfl (by decide) (by decide) hk1 hFc hP1 hD1
          have hw157 := hw
          clear hPc hDc hFc hz1 hk1 hP1 hK1 hD1
          generalize H1 = H at hP hS ⊢
          have hP : va_P (dC, dI) vcl [(r 6, .inl ((cT 0), 32, .inl f6)), (mo, .inr (12, mdG r cd tm (nI sn) (nI tx) (nI lz) (nI az) (nI na) (nI nt) (nI nr) mw ml mk dq)), (r 7, .inl ((cT 0), 1000, .inl f7))] H := hP
          have hD : va_D A [(r 6, .inl ((cT 0), 32, .inl f6)), (mo, .inr (12, mdG r cd tm (nI sn) (nI tx) (nI lz) (nI az) (nI na) (nI nt) (nI nr) mw ml mk dq)), (r 7, .inl ((cT 0), 1000, .inl f7))] := hD
          have k158 := hw157
          rcases k158 with ⟨h8z, hno1⟩ | ⟨h8z, pa1, pn1, hh1⟩
          · skip
            refine lv_topi (fun x160 e159 => ?_)
            obtain rfl : x160 = 0 := by rw [e159]; exact h8z
            refine lv_if_eq (tgt := 89) hx hb d_Md_userOf_22 (by decide) (fun hc161 => ?_) (fun hn9 => absurd (by decide) hn9)
            refine lv_iinc (k := 0) (v := nI (i + 1)) (lv' := [(1, .int (nI (i + 1))), (0, .ref mo)]) hx hb d_Md_userOf_89 hl rfl (nI_1 i) (by decide) rfl (fun ls hl => ?_)
            refine lv_goto (tgt := 2) hx hb d_Md_userOf_92 (by decide) ?_
            have hl := lv_sub hl [0, 1] (show _ = [(1, .int (nI (i + 1))), (0, .ref mo)] from rfl)
            have hP := hP.sub (ws' := [(mo, .inr (12, mdG r cd tm (nI sn) (nI tx) (nI lz) (nI az) (nI na) (nI nt) (nI nr) mw ml mk dq)), (r 6, .inl ((cT 0), 32, .inl f6)), (r 7, .inl ((cT 0), 1000, .inl f7))]) [1, 0, 2] rfl
            have hD := hD.sub (ws' := [(mo, .inr (12, mdG r cd tm (nI sn) (nI tx) (nI lz) (nI az) (nI na) (nI nt) (nI nr) mw ml mk dq)), (r 6, .inl ((cT 0), 32, .inl f6)), (r 7, .inl ((cT 0), 1000, .inl f7))]) [1, 0, 2] (by decide) rfl
            exfalso; omega
          · skip
            refine lv_topi (fun x163 e162 => ?_)
            obtain rfl : x163 = 1 := by rw [e162]; exact h8z
            have hs1 := rsb_1 (by have := hh1.2.2.2.1; omega) hh1.2.2.2.2.2
            have hb1 := hh1.2.2.2.1; have hc1 := hh1.2.1
            refine lv_if_eq (tgt := 89) hx hb d_Md_userOf_22 (by decide) (fun hn9 => absurd hn9 (by decide)) (fun hc164 => ?_)
            refine lv_aload_n hx hb d_Md_userOf_25 rfl (lv_at hl 1 rfl) ?_
            refine lv_iconst (v := 1) hx hb d_Md_userOf_26 (by decide) ?_
            have hPc := hP.sub (ws' := [(mo, .inr (12, mdG r cd tm (nI sn) (nI tx) (nI lz) (nI az) (nI na) (nI nt) (nI nr) mw ml mk dq)), (r 7, .inl ((cT 0), 1000, .inl f7))]) [1, 2] rfl
            have hDc := hD.sub (ws' := [(mo, .inr (12, mdG r cd tm (nI sn) (nI tx) (nI lz) (nI az) (nI na) (nI nt) (nI nr) mw ml mk dq)), (r 7, .inl ((cT 0), 1000, .inl f7))]) [1, 2] (by decide) rfl
            have hFc := va_free (wc := [(mo, .inr (12, mdG r cd tm (nI sn) (nI tx) (nI lz) (nI az) (nI na) (nI nt) (nI nr) mw ml mk dq)), (r 7, .inl ((cT 0), 1000, .inl f7))]) hD hS hA [1, 2] rfl
            refine va_calli (va_runV (C := "DoorServerModel") (As := [.int 1]) (rest := []) ⟨hx, hb, hml, hown, hg⟩ (m_sizeOf l dC dI cT H.size mo r cd tm sn tx lz az na nt nr mw ml mk dq f7 1 pa1 pn1 (by first | assumption | omega) (by first | assumption | omega) (by first | assumption | omega) (by first | assumption | omega)) (cwV 1 hg (gI (List.forall_mem_append.mpr ⟨List.forall_mem_cons.mpr ⟨k_1329, List.forall_mem_cons.mpr ⟨k_1331, List.forall_mem_cons.mpr ⟨(big_sel (q := y_Md_sizeOf) (n := 45) (by decide +kernel)), List.forall_mem_cons.mpr ⟨k_13, fun _ h => absurd h List.not_mem_nil⟩⟩⟩⟩, List.forall_mem_cons.mpr ⟨k_1332, fun _ h => h⟩⟩)) rfl rfl rfl (by decide +kernel) ⟨Nat.le_of_ble_eq_true rfl, Nat.le_of_ble_eq_true rfl⟩) ⟨fun a U g mk q => by obtain ⟨q0, q1, qP, qK, qD⟩ := q; exact ⟨q0, q1, qP, va_K.moved (u := U) (U := U.calling g mk a) (Vm.Alike.refl U.vm) qK, qD⟩, va_recv (q0 := 1) (ci := 12) hK hP rfl rfl, fun U hU hW => ⟨rfl, by rw [hU], by rw [hU]; exact hPc, va_K.moved hW.alike hK, hDc.weaken (fun _ _ _ _ => trivial)⟩⟩ rfl rfl hl.1 rfl (lv_room (Nat.le_of_ble_eq_true rfl)) d_Md_userOf_27 ⟨Nat.le_of_ble_eq_true rfl, Nat.le_of_ble_eq_true rfl⟩) hS (fun q _ h => hFc q h) hFc (fun rv9 u t H1 locs ht hvm hw hB hz1 hk1 hS => ?_)
            try dsimp only at hw hB
            obtain ⟨hP1, hK1, hD1⟩ := hB
            rw [ht] at hP1
            obtain ⟨rfl, hw⟩ := hw
            obtain ⟨hP, hD⟩ := va_join (wr := [(r 6, .inl ((cT 0), 32, .inl f6))]) (w1 := [(mo, .inr (12, mdG r cd tm (nI sn) (nI tx) (nI lz) (nI az) (nI na) (nI nt) (nI nr) mw ml mk dq)), (r 7, .inl ((cT 0), 1000, .inl f7))]) hP hD [1, 2] [0] rfl rfl (by decide) (by decide) hk1 hFc hP1 hD1
            have hw165 := hw
            clear hPc hDc hFc hz1 hk1 hP1 hK1 hD1
            generalize H1 = H at hP hS ⊢
            have hP : va_P (dC, dI) vcl [(r 6, .inl ((cT 0), 32, .inl f6)), (mo, .inr (12, mdG r cd tm (nI sn) (nI tx) (nI lz) (nI az) (nI na) (nI nt) (nI nr) mw ml mk dq)), (r 7, .inl ((cT 0), 1000, .inl f7))] H := hP
            have hD : va_D A [(r 6, .inl ((cT 0), 32, .inl f6)), (mo, .inr (12, mdG r cd tm (nI sn) (nI tx) (nI lz) (nI az) (nI na) (nI nt) (nI nr) mw ml mk dq)), (r 7, .inl ((cT 0), 1000, .inl f7))] := hD
            refine lv_iconst (v := 3) hx hb d_Md_userOf_30 (by decide) ?_
            refine lv_icmp_ne (tgt := 89) hx hb d_Md_userOf_31 (by decide) (fun hc166 => ?_) (fun hc166 => ?_)
            · skip
              have n167 : ¬ pn1 = 3 := fun h7 => hc166 ((nI_eq (a := pn1) (b := 3) (by omega) (by omega)).mpr h7)
              refine lv_iinc (k := 0) (v := nI (i + 1)) (lv' := [(1, .int (nI (i + 1))), (0, .ref mo)]) hx hb d_Md_userOf_89 hl rfl (nI_1 i) (by decide) rfl (fun ls hl => ?_)
              refine lv_goto (tgt := 2) hx hb d_Md_userOf_92 (by decide) ?_
              have hl := lv_sub hl [0, 1] (show _ = [(1, .int (nI (i + 1))), (0, .ref mo)] from rfl)
              have hP := hP.sub (ws' := [(mo, .inr (12, mdG r cd tm (nI sn) (nI tx) (nI lz) (nI az) (nI na) (nI nt) (nI nr) mw ml mk dq)), (r 6, .inl ((cT 0), 32, .inl f6)), (r 7, .inl ((cT 0), 1000, .inl f7))]) [1, 0, 2] rfl
              have hD := hD.sub (ws' := [(mo, .inr (12, mdG r cd tm (nI sn) (nI tx) (nI lz) (nI az) (nI na) (nI nt) (nI nr) mw ml mk dq)), (r 6, .inl ((cT 0), 32, .inl f6)), (r 7, .inl ((cT 0), 1000, .inl f7))]) [1, 0, 2] (by decide) rfl
              exfalso; omega
            · skip
              have n168 : pn1 = 3 := (nI_eq (a := pn1) (b := 3) (by omega) (by omega)).mp hc166
              refine lv_aload_n hx hb d_Md_userOf_34 rfl (lv_at hl 1 rfl) ?_
              refine lv_iconst (v := 1) hx hb d_Md_userOf_35 (by decide) ?_
              have hPc := hP.sub (ws' := [(mo, .inr (12, mdG r cd tm (nI sn) (nI tx) (nI lz) (nI az) (nI na) (nI nt) (nI nr) mw ml mk dq)), (r 7, .inl ((cT 0), 1000, .inl f7))]) [1, 2] rfl
              have hDc := hD.sub (ws' := [(mo, .inr (12, mdG r cd tm (nI sn) (nI tx) (nI lz) (nI az) (nI na) (nI nt) (nI nr) mw ml mk dq)), (r 7, .inl ((cT 0), 1000, .inl f7))]) [1, 2] (by decide) rfl
              have hFc := va_free (wc := [(mo, .inr (12, mdG r cd tm (nI sn) (nI tx) (nI lz) (nI az) (nI na) (nI nt) (nI nr) mw ml mk dq)), (r 7, .inl ((cT 0), 1000, .inl f7))]) hD hS hA [1, 2] rfl
              refine va_calli (va_runV (C := "DoorServerModel") (As := [.int 1]) (rest := []) ⟨hx, hb, hml, hown, hg⟩ (m_valueAt l dC dI cT H.size mo r cd tm sn tx lz az na nt nr mw ml mk dq f7 1 pa1 pn1 (by first | assumption | omega) (by first | assumption | omega) (by first | assumption | omega) (by first | assumption | omega)) (cwV 1 hg (gI (List.forall_mem_append.mpr ⟨List.forall_mem_cons.mpr ⟨k_1309, List.forall_mem_cons.mpr ⟨k_1311, List.forall_mem_cons.mpr ⟨(big_sel (q := y_Md_valueAt) (n := 45) (by decide +kernel)), List.forall_mem_cons.mpr ⟨k_13, fun _ h => absurd h List.not_mem_nil⟩⟩⟩⟩, List.forall_mem_cons.mpr ⟨k_1312, fun _ h => h⟩⟩)) rfl rfl rfl (by decide +kernel) ⟨Nat.le_of_ble_eq_true rfl, Nat.le_of_ble_eq_true rfl⟩) ⟨fun a U g mk q => by obtain ⟨q0, q1, qP, qK, qD⟩ := q; exact ⟨q0, q1, qP, va_K.moved (u := U) (U := U.calling g mk a) (Vm.Alike.refl U.vm) qK, qD⟩, va_recv (q0 := 1) (ci := 12) hK hP rfl rfl, fun U hU hW => ⟨rfl, by rw [hU], by rw [hU]; exact hPc, va_K.moved hW.alike hK, hDc.weaken (fun _ _ _ _ => trivial)⟩⟩ rfl rfl hl.1 rfl (lv_room (Nat.le_of_ble_eq_true rfl)) d_Md_userOf_36 ⟨Nat.le_of_ble_eq_true rfl, Nat.le_of_ble_eq_true rfl⟩) hS (fun q _ h => hFc q h) hFc (fun rv9 u t H1 locs ht hvm hw hB hz1 hk1 hS => ?_)
              try dsimp only at hw hB
              obtain ⟨hP1, hK1, hD1⟩ := hB
              rw [ht] at hP1
              obtain ⟨rfl, hw⟩ := hw
              obtain ⟨hP, hD⟩ := va_join (wr := [(r 6, .inl ((cT 0), 32, .inl f6))]) (w1 := [(mo, .inr (12, mdG r cd tm (nI sn) (nI tx) (nI lz) (nI az) (nI na) (nI nt) (nI nr) mw ml mk dq)), (r 7, .inl ((cT 0), 1000, .inl f7))]) hP hD [1, 2] [0] rfl rfl (by decide) (by decide) hk1 hFc hP1 hD1
              have hw169 := hw
              clear hPc hDc hFc hz1 hk1 hP1 hK1 hD1
              generalize H1 = H at hP hS ⊢
              have hP : va_P (dC, dI) vcl [(r 6, .inl ((cT 0), 32, .inl f6)), (mo, .inr (12, mdG r cd tm (nI sn) (nI tx) (nI lz) (nI az) (nI na) (nI nt) (nI nr) mw ml mk dq)), (r 7, .inl ((cT 0), 1000, .inl f7))] H := hP
              have hD : va_D A [(r 6, .inl ((cT 0), 32, .inl f6)), (mo, .inr (12, mdG r cd tm (nI sn) (nI tx) (nI lz) (nI az) (nI na) (nI nt) (nI nr) mw ml mk dq)), (r 7, .inl ((cT 0), 1000, .inl f7))] := hD
              refine lv_istore_n (lv' := [(2, .int (nI (pa1 + 2))), (1, .int (nI i)), (0, .ref mo)]) hx hb d_Md_userOf_39 rfl hl (by decide) rfl (fun ls hl => ?_)
              refine lv_aload_n hx hb d_Md_userOf_40 rfl (lv_at hl 2 rfl) ?_
              refine va_get (D := (dC, dI)) (ci := 12) (v := (.ref (r 7))) (C := R_Md) (T := F_Md) (N := 45) hx hb hg in_Md hown hK hP 1 rfl rfl 7 (by decide) (hg _ k_1027) (fun _ h9 => h9) rfl d_Md_userOf_41 ?_
              refine lv_iload_n hx hb d_Md_userOf_44 rfl (lv_at hl 0 rfl) ?_
              refine va_iald hx hb hK hP 2 0 rfl rfl (i := (nI (pa1 + 2))) (vp_in_nI (N := 1000) (by omega) (by decide)) d_Md_userOf_45 ?_
              refine lv_topi (fun x170 e_x170 => ?_)
              clear e_x170
              refine lv_bipush (v := 117) hx hb d_Md_userOf_46 (by decide) ?_
              refine lv_icmp_ne (tgt := 89) hx hb d_Md_userOf_48 (by decide) (fun hc171 => ?_) (fun hc171 => ?_)
              · skip
                refine lv_iinc (k := 1) (v := nI (i + 1)) (lv' := [(1, .int (nI (i + 1))), (2, .int (nI (pa1 + 2))), (0, .ref mo)]) hx hb d_Md_userOf_89 hl rfl (nI_1 i) (by decide) rfl (fun ls hl => ?_)
                refine lv_goto (tgt := 2) hx hb d_Md_userOf_92 (by decide) ?_
                have hl := lv_sub hl [0, 2] (show _ = [(1, .int (nI (i + 1))), (0, .ref mo)] from rfl)
                have hP := hP.sub (ws' := [(mo, .inr (12, mdG r cd tm (nI sn) (nI tx) (nI lz) (nI az) (nI na) (nI nt) (nI nr) mw ml mk dq)), (r 6, .inl ((cT 0), 32, .inl f6)), (r 7, .inl ((cT 0), 1000, .inl f7))]) [1, 0, 2] rfl
                have hD := hD.sub (ws' := [(mo, .inr (12, mdG r cd tm (nI sn) (nI tx) (nI lz) (nI az) (nI na) (nI nt) (nI nr) mw ml mk dq)), (r 6, .inl ((cT 0), 32, .inl f6)), (r 7, .inl ((cT 0), 1000, .inl f7))]) [1, 0, 2] (by decide) rfl
                exfalso; omega
              · skip
                refine lv_aload_n hx hb d_Md_userOf_51 rfl (lv_at hl 2 rfl) ?_
                refine va_get (D := (dC, dI)) (ci := 12) (v := (.ref (r 7))) (C := R_Md) (T := F_Md) (N := 45) hx hb hg in_Md hown hK hP 1 rfl rfl 7 (by decide) (hg _ k_1027) (fun _ h9 => h9) rfl d_Md_userOf_52 ?_
                refine lv_iload_n hx hb d_Md_userOf_55 rfl (lv_at hl 0 rfl) ?_
                refine lv_iconst (v := 1) hx hb d_Md_userOf_56 (by decide) ?_
                refine lv_iadd hx hb d_Md_userOf_57 ?_
                refine lv_topi (fun x173 e172 => ?_)
                obtain rfl : x173 = nI (pa1 + 2 + 1) := by rw [e172]; exact nI_add (pa1 + 2) 1
                refine va_iald hx hb hK hP 2 0 rfl rfl (i := (nI (pa1 + 2 + 1))) (vp_in_nI (N := 1000) (by omega) (by decide)) d_Md_userOf_58 ?_
                refine lv_topi (fun x174 e_x174 => ?_)
                clear e_x174
                refine lv_bipush (v := 48) hx hb d_Md_userOf_59 (by decide) ?_
                refine lv_iload_n hx hb d_Md_userOf_61 rfl (lv_at hl 1 rfl) ?_
                refine lv_bipush (v := 10) hx hb d_Md_userOf_62 (by decide) ?_
                refine lv_idiv hx hb d_Md_userOf_64 (by decide) ?_
                refine lv_topi (fun x176 e175 => ?_)
                obtain rfl : x176 = nI (i / 10) := by rw [e175]; exact pk_div (d := 10) (by omega) (by decide) (by decide)
                refine lv_iadd hx hb d_Md_userOf_65 ?_
                refine lv_topi (fun x178 e177 => ?_)
                obtain rfl : x178 = nI (48 + (i / 10)) := by rw [e177]; exact nI_add 48 (i / 10)
                refine lv_icmp_ne (tgt := 89) hx hb d_Md_userOf_66 (by decide) (fun hc179 => ?_) (fun hc179 => ?_)
                · skip
                  refine lv_iinc (k := 1) (v := nI (i + 1)) (lv' := [(1, .int (nI (i + 1))), (2, .int (nI (pa1 + 2))), (0, .ref mo)]) hx hb d_Md_userOf_89 hl rfl (nI_1 i) (by decide) rfl (fun ls hl => ?_)
                  refine lv_goto (tgt := 2) hx hb d_Md_userOf_92 (by decide) ?_
                  have hl := lv_sub hl [0, 2] (show _ = [(1, .int (nI (i + 1))), (0, .ref mo)] from rfl)
                  have hP := hP.sub (ws' := [(mo, .inr (12, mdG r cd tm (nI sn) (nI tx) (nI lz) (nI az) (nI na) (nI nt) (nI nr) mw ml mk dq)), (r 6, .inl ((cT 0), 32, .inl f6)), (r 7, .inl ((cT 0), 1000, .inl f7))]) [1, 0, 2] rfl
                  have hD := hD.sub (ws' := [(mo, .inr (12, mdG r cd tm (nI sn) (nI tx) (nI lz) (nI az) (nI na) (nI nt) (nI nr) mw ml mk dq)), (r 6, .inl ((cT 0), 32, .inl f6)), (r 7, .inl ((cT 0), 1000, .inl f7))]) [1, 0, 2] (by decide) rfl
                  exfalso; omega
                · skip
                  refine lv_aload_n hx hb d_Md_userOf_69 rfl (lv_at hl 2 rfl) ?_
                  refine va_get (D := (dC, dI)) (ci := 12) (v := (.ref (r 7))) (C := R_Md) (T := F_Md) (N := 45) hx hb hg in_Md hown hK hP 1 rfl rfl 7 (by decide) (hg _ k_1027) (fun _ h9 => h9) rfl d_Md_userOf_70 ?_
                  refine lv_iload_n hx hb d_Md_userOf_73 rfl (lv_at hl 0 rfl) ?_
                  refine lv_iconst (v := 2) hx hb d_Md_userOf_74 (by decide) ?_
                  refine lv_iadd hx hb d_Md_userOf_75 ?_
                  refine lv_topi (fun x181 e180 => ?_)
                  obtain rfl : x181 = nI (pa1 + 2 + 2) := by rw [e180]; exact nI_add (pa1 + 2) 2
                  refine va_iald hx hb hK hP 2 0 rfl rfl (i := (nI (pa1 + 2 + 2))) (vp_in_nI (N := 1000) (by omega) (by decide)) d_Md_userOf_76 ?_
                  refine lv_topi (fun x182 e_x182 => ?_)
                  clear e_x182
                  refine lv_bipush (v := 48) hx hb d_Md_userOf_77 (by decide) ?_
                  refine lv_iload_n hx hb d_Md_userOf_79 rfl (lv_at hl 1 rfl) ?_
                  refine lv_bipush (v := 10) hx hb d_Md_userOf_80 (by decide) ?_
                  refine lv_irem hx hb d_Md_userOf_82 (by decide) ?_
                  refine lv_topi (fun x184 e183 => ?_)
                  obtain rfl : x184 = nI (i % 10) := by rw [e183]; exact pk_rem (d := 10) (by omega) (by decide) (by decide)
                  refine lv_iadd hx hb d_Md_userOf_83 ?_
                  refine lv_topi (fun x186 e185 => ?_)
                  obtain rfl : x186 = nI (48 + (i % 10)) := by rw [e185]; exact nI_add 48 (i % 10)
                  refine lv_icmp_ne (tgt := 89) hx hb d_Md_userOf_84 (by decide) (fun hc187 => ?_) (fun hc187 => ?_)
                  · skip
                    refine lv_iinc (k := 1) (v := nI (i + 1)) (lv' := [(1, .int (nI (i + 1))), (2, .int (nI (pa1 + 2))), (0, .ref mo)]) hx hb d_Md_userOf_89 hl rfl (nI_1 i) (by decide) rfl (fun ls hl => ?_)
                    refine lv_goto (tgt := 2) hx hb d_Md_userOf_92 (by decide) ?_
                    have hl := lv_sub hl [0, 2] (show _ = [(1, .int (nI (i + 1))), (0, .ref mo)] from rfl)
                    have hP := hP.sub (ws' := [(mo, .inr (12, mdG r cd tm (nI sn) (nI tx) (nI lz) (nI az) (nI na) (nI nt) (nI nr) mw ml mk dq)), (r 6, .inl ((cT 0), 32, .inl f6)), (r 7, .inl ((cT 0), 1000, .inl f7))]) [1, 0, 2] rfl
                    have hD := hD.sub (ws' := [(mo, .inr (12, mdG r cd tm (nI sn) (nI tx) (nI lz) (nI az) (nI na) (nI nt) (nI nr) mw ml mk dq)), (r 6, .inl ((cT 0), 32, .inl f6)), (r 7, .inl ((cT 0), 1000, .inl f7))]) [1, 0, 2] (by decide) rfl
                    exfalso; omega
                  · skip
                    refine lv_iload_n hx hb d_Md_userOf_87 rfl (lv_at hl 1 rfl) ?_
                    have hl := lv_sub hl [2] (show _ = [(0, .ref mo)] from rfl)
                    have hP := hP.sub (ws' := [(mo, .inr (12, mdG r cd tm (nI sn) (nI tx) (nI lz) (nI az) (nI na) (nI nt) (nI nr) mw ml mk dq)), (r 6, .inl ((cT 0), 32, .inl f6)), (r 7, .inl ((cT 0), 1000, .inl f7))]) [1, 0, 2] rfl
                    have hD := hD.sub (ws' := [(mo, .inr (12, mdG r cd tm (nI sn) (nI tx) (nI lz) (nI az) (nI na) (nI nt) (nI nr) mw ml mk dq)), (r 6, .inl ((cT 0), 32, .inl f6)), (r 7, .inl ((cT 0), 1000, .inl f7))]) [1, 0, 2] (by decide) rfl
                    exact ex1 i _ _ _ (by omega) hP hD hS hl
    | succ jj150 ih => 
      intro i H locs ls hm9 hi hP hD hS hl
      refine lv_iload_n hx hb d_Md_userOf_2 rfl (lv_at hl 0 rfl) ?_
      refine lv_bipush (v := 32) hx hb d_Md_userOf_3 (by decide) ?_
      refine lv_icmp_ge (tgt := 95) hx hb d_Md_userOf_5 (by decide) (fun hc188 => ?_) (fun hc188 => ?_)
      · skip
        have n189 : 32 ≤ i := (nI_leI (a := 32) (b := i) (by omega) (by omega)).mp hc188
        have hl := lv_sub hl [1] (show _ = [(0, .ref mo)] from rfl)
        exact ex0 i _ _ _  hP hD hS hl
      · skip
        have n190 : i < 32 := Nat.not_le.mp (fun h7 => hc188 ((nI_leI (a := 32) (b := i) (by omega) (by omega)).mpr h7))
        refine lv_aload_n hx hb d_Md_userOf_8 rfl (lv_at hl 1 rfl) ?_
        refine va_get (D := (dC, dI)) (ci := 12) (v := (.ref (r 6))) (C := R_Md) (T := F_Md) (N := 45) hx hb hg in_Md hown hK hP 0 rfl rfl 6 (by decide) (hg _ k_1026) (fun _ h9 => h9) rfl d_Md_userOf_9 ?_
        refine lv_iload_n hx hb d_Md_userOf_12 rfl (lv_at hl 0 rfl) ?_
        refine va_iald hx hb hK hP 1 0 rfl rfl (i := (nI i)) (vp_in_nI (N := 32) (by omega) (by decide)) d_Md_userOf_13 ?_
        refine lv_topi (fun x191 e_x191 => ?_)
        clear e_x191
        refine lv_if_le (tgt := 89) hx hb d_Md_userOf_14 (by decide) (fun hc192 => ?_) (fun hc192 => ?_)
        · skip
          refine lv_iinc (k := 0) (v := nI (i + 1)) (lv' := [(1, .int (nI (i + 1))), (0, .ref mo)]) hx hb d_Md_userOf_89 hl rfl (nI_1 i) (by decide) rfl (fun ls hl => ?_)
          refine lv_goto (tgt := 2) hx hb d_Md_userOf_92 (by decide) ?_
          have hl := lv_sub hl [0, 1] (show _ = [(1, .int (nI (i + 1))), (0, .ref mo)] from rfl)
          exact ih (i + 1) _ _ _ (by omega) (by omega) hP hD hS hl
        · skip
          refine lv_aload_n hx hb d_Md_userOf_17 rfl (lv_at hl 1 rfl) ?_
          refine lv_iconst (v := 1) hx hb d_Md_userOf_18 (by decide) ?_
          have hPc := hP.sub (ws' := [(mo, .inr (12, mdG r cd tm (nI sn) (nI tx) (nI lz) (nI az) (nI na) (nI nt) (nI nr) mw ml mk dq)), (r 7, .inl ((cT 0), 1000, .inl f7))]) [0, 2] rfl
          have hDc := hD.sub (ws' := [(mo, .inr (12, mdG r cd tm (nI sn) (nI tx) (nI lz) (nI az) (nI na) (nI nt) (nI nr) mw ml mk dq)), (r 7, .inl ((cT 0), 1000, .inl f7))]) [0, 2] (by decide) rfl
          have hFc := va_free (wc := [(mo, .inr (12, mdG r cd tm (nI sn) (nI tx) (nI lz) (nI az) (nI na) (nI nt) (nI nr) mw ml mk dq)), (r 7, .inl ((cT 0), 1000, .inl f7))]) hD hS hA [0, 2] rfl
          refine va_calli (va_runV (C := "DoorServerModel") (As := [.int 1]) (rest := []) ⟨hx, hb, hml, hown, hg⟩ (m_has l dC dI cT H.size mo r cd tm sn tx lz az na nt nr mw ml mk dq f7 1 (by first | assumption | omega) (by first | assumption | omega) (by first | assumption | omega)) (cwV 1 hg (gI (List.forall_mem_append.mpr ⟨List.forall_mem_cons.mpr ⟨k_1305, List.forall_mem_cons.mpr ⟨k_1307, List.forall_mem_cons.mpr ⟨(big_sel (q := y_Md_has) (n := 45) (by decide +kernel)), List.forall_mem_cons.mpr ⟨k_13, fun _ h => absurd h List.not_mem_nil⟩⟩⟩⟩, List.forall_mem_cons.mpr ⟨k_1308, fun _ h => h⟩⟩)) rfl rfl rfl (by decide +kernel) ⟨Nat.le_of_ble_eq_true rfl, Nat.le_of_ble_eq_true rfl⟩) ⟨fun a U g mk q => by obtain ⟨q0, q1, qP, qK, qD⟩ := q; exact ⟨q0, q1, qP, va_K.moved (u := U) (U := U.calling g mk a) (Vm.Alike.refl U.vm) qK, qD⟩, va_recv (q0 := 0) (ci := 12) hK hP rfl rfl, fun U hU hW => ⟨rfl, by rw [hU], by rw [hU]; exact hPc, va_K.moved hW.alike hK, hDc.weaken (fun _ _ _ _ => trivial)⟩⟩ rfl rfl hl.1 rfl (lv_room (Nat.le_of_ble_eq_true rfl)) d_Md_userOf_19 ⟨Nat.le_of_ble_eq_true rfl, Nat.le_of_ble_eq_true rfl⟩) hS (fun q _ h => hFc q h) hFc (fun rv9 u t H1 locs ht hvm hw hB hz1 hk1 hS => ?_)
          try dsimp only at hw hB
          obtain ⟨hP1, hK1, hD1⟩ := hB
          rw [ht] at hP1
          generalize rv9 = r193 at hw ⊢
          obtain ⟨hP, hD⟩ := va_join (wr := [(r 6, .inl ((cT 0), 32, .inl f6))]) (w1 := [(mo, .inr (12, mdG r cd tm (nI sn) (nI tx) (nI lz) (nI az) (nI na) (nI nt) (nI nr) mw ml mk dq)), (r 7, .inl ((cT 0), 1000, .inl f7))]) hP hD [0, 2] [1] rfl rfl (by decide) (by decide) hk1 hFc hP1 hD1
          have hw194 := hw
          clear hPc hDc hFc hz1 hk1 hP1 hK1 hD1
          generalize H1 = H at hP hS ⊢
          have hP : va_P (dC, dI) vcl [(r 6, .inl ((cT 0), 32, .inl f6)), (mo, .inr (12, mdG r cd tm (nI sn) (nI tx) (nI lz) (nI az) (nI na) (nI nt) (nI nr) mw ml mk dq)), (r 7, .inl ((cT 0), 1000, .inl f7))] H := hP
          have hD : va_D A [(r 6, .inl ((cT 0), 32, .inl f6)), (mo, .inr (12, mdG r cd tm (nI sn) (nI tx) (nI lz) (nI az) (nI na) (nI nt) (nI nr) mw ml mk dq)), (r 7, .inl ((cT 0), 1000, .inl f7))] := hD
          have k195 := hw194
          rcases k195 with ⟨h8z, hno1⟩ | ⟨h8z, pa1, pn1, hh1⟩
          · skip
            refine lv_topi (fun x197 e196 => ?_)
            obtain rfl : x197 = 0 := by rw [e196]; exact h8z
            refine lv_if_eq (tgt := 89) hx hb d_Md_userOf_22 (by decide) (fun hc198 => ?_) (fun hn9 => absurd (by decide) hn9)
            refine lv_iinc (k := 0) (v := nI (i + 1)) (lv' := [(1, .int (nI (i + 1))), (0, .ref mo)]) hx hb d_Md_userOf_89 hl rfl (nI_1 i) (by decide) rfl (fun ls hl => ?_)
            refine lv_goto (tgt := 2) hx hb d_Md_userOf_92 (by decide) ?_
            have hl := lv_sub hl [0, 1] (show _ = [(1, .int (nI (i + 1))), (0, .ref mo)] from rfl)
            have hP := hP.sub (ws' := [(mo, .inr (12, mdG r cd tm (nI sn) (nI tx) (nI lz) (nI az) (nI na) (nI nt) (nI nr) mw ml mk dq)), (r 6, .inl ((cT 0), 32, .inl f6)), (r 7, .inl ((cT 0), 1000, .inl f7))]) [1, 0, 2] rfl
            have hD := hD.sub (ws' := [(mo, .inr (12, mdG r cd tm (nI sn) (nI tx) (nI lz) (nI az) (nI na) (nI nt) (nI nr) mw ml mk dq)), (r 6, .inl ((cT 0), 32, .inl f6)), (r 7, .inl ((cT 0), 1000, .inl f7))]) [1, 0, 2] (by decide) rfl
            exact ih (i + 1) _ _ _ (by omega) (by omega) hP hD hS hl
          · skip
            refine lv_topi (fun x200 e199 => ?_)
            obtain rfl : x200 = 1 := by rw [e199]; exact h8z
            have hs1 := rsb_1 (by have := hh1.2.2.2.1; omega) hh1.2.2.2.2.2
            have hb1 := hh1.2.2.2.1; have hc1 := hh1.2.1
            refine lv_if_eq (tgt := 89) hx hb d_Md_userOf_22 (by decide) (fun hn9 => absurd hn9 (by decide)) (fun hc201 => ?_)
            refine lv_aload_n hx hb d_Md_userOf_25 rfl (lv_at hl 1 rfl) ?_
            refine lv_iconst (v := 1) hx hb d_Md_userOf_26 (by decide) ?_
            have hPc := hP.sub (ws' := [(mo, .inr (12, mdG r cd tm (nI sn) (nI tx) (nI lz) (nI az) (nI na) (nI nt) (nI nr) mw ml mk dq)), (r 7, .inl ((cT 0), 1000, .inl f7))]) [1, 2] rfl
            have hDc := hD.sub (ws' := [(mo, .inr (12, mdG r cd tm (nI sn) (nI tx) (nI lz) (nI az) (nI na) (nI nt) (nI nr) mw ml mk dq)), (r 7, .inl ((cT 0), 1000, .inl f7))]) [1, 2] (by decide) rfl
            have hFc := va_free (wc := [(mo, .inr (12, mdG r cd tm (nI sn) (nI tx) (nI lz) (nI az) (nI na) (nI nt) (nI nr) mw ml mk dq)), (r 7, .inl ((cT 0), 1000, .inl f7))]) hD hS hA [1, 2] rfl
            refine va_calli (va_runV (C := "DoorServerModel") (As := [.int 1]) (rest := []) ⟨hx, hb, hml, hown, hg⟩ (m_sizeOf l dC dI cT H.size mo r cd tm sn tx lz az na nt nr mw ml mk dq f7 1 pa1 pn1 (by first | assumption | omega) (by first | assumption | omega) (by first | assumption | omega) (by first | assumption | omega)) (cwV 1 hg (gI (List.forall_mem_append.mpr ⟨List.forall_mem_cons.mpr ⟨k_1329, List.forall_mem_cons.mpr ⟨k_1331, List.forall_mem_cons.mpr ⟨(big_sel (q := y_Md_sizeOf) (n := 45) (by decide +kernel)), List.forall_mem_cons.mpr ⟨k_13, fun _ h => absurd h List.not_mem_nil⟩⟩⟩⟩, List.forall_mem_cons.mpr ⟨k_1332, fun _ h => h⟩⟩)) rfl rfl rfl (by decide +kernel) ⟨Nat.le_of_ble_eq_true rfl, Nat.le_of_ble_eq_true rfl⟩) ⟨fun a U g mk q => by obtain ⟨q0, q1, qP, qK, qD⟩ := q; exact ⟨q0, q1, qP, va_K.moved (u := U) (U := U.calling g mk a) (Vm.Alike.refl U.vm) qK, qD⟩, va_recv (q0 := 1) (ci := 12) hK hP rfl rfl, fun U hU hW => ⟨rfl, by rw [hU], by rw [hU]; exact hPc, va_K.moved hW.alike hK, hDc.weaken (fun _ _ _ _ => trivial)⟩⟩ rfl rfl hl.1 rfl (lv_room (Nat.le_of_ble_eq_true rfl)) d_Md_userOf_27 ⟨Nat.le_of_ble_eq_true rfl, Nat.le_of_ble_eq_true rfl⟩) hS (fun q _ h => hFc q h) hFc (fun rv9 u t H1 locs ht hvm hw hB hz1 hk1 hS => ?_)
            try dsimp only at hw hB
            obtain ⟨hP1, hK1, hD1⟩ := hB
            rw [ht] at hP1
            obtain ⟨rfl, hw⟩ := hw
            obtain ⟨hP, hD⟩ := va_join (wr := [(r 6, .inl ((cT 0), 32, .inl f6))]) (w1 := [(mo, .inr (12, mdG r cd tm (nI sn) (nI tx) (nI lz) (nI az) (nI na) (nI nt) (nI nr) mw ml mk dq)), (r 7, .inl ((cT 0), 1000, .inl f7))]) hP hD [1, 2] [0] rfl rfl (by decide) (by decide) hk1 hFc hP1 hD1
            have hw202 := hw
            clear hPc hDc hFc hz1 hk1 hP1 hK1 hD1
            generalize H1 = H at hP hS ⊢
            have hP : va_P (dC, dI) vcl [(r 6, .inl ((cT 0), 32, .inl f6)), (mo, .inr (12, mdG r cd tm (nI sn) (nI tx) (nI lz) (nI az) (nI na) (nI nt) (nI nr) mw ml mk dq)), (r 7, .inl ((cT 0), 1000, .inl f7))] H := hP
            have hD : va_D A [(r 6, .inl ((cT 0), 32, .inl f6)), (mo, .inr (12, mdG r cd tm (nI sn) (nI tx) (nI lz) (nI az) (nI na) (nI nt) (nI nr) mw ml mk dq)), (r 7, .inl ((cT 0), 1000, .inl f7))] := hD
            refine lv_iconst (v := 3) hx hb d_Md_userOf_30 (by decide) ?_
            refine lv_icmp_ne (tgt := 89) hx hb d_Md_userOf_31 (by decide) (fun hc203 => ?_) (fun hc203 => ?_)
            · skip
              have n204 : ¬ pn1 = 3 := fun h7 => hc203 ((nI_eq (a := pn1) (b := 3) (by omega) (by omega)).mpr h7)
              refine lv_iinc (k := 0) (v := nI (i + 1)) (lv' := [(1, .int (nI (i + 1))), (0, .ref mo)]) hx hb d_Md_userOf_89 hl rfl (nI_1 i) (by decide) rfl (fun ls hl => ?_)
              refine lv_goto (tgt := 2) hx hb d_Md_userOf_92 (by decide) ?_
              have hl := lv_sub hl [0, 1] (show _ = [(1, .int (nI (i + 1))), (0, .ref mo)] from rfl)
              have hP := hP.sub (ws' := [(mo, .inr (12, mdG r cd tm (nI sn) (nI tx) (nI lz) (nI az) (nI na) (nI nt) (nI nr) mw ml mk dq)), (r 6, .inl ((cT 0), 32, .inl f6)), (r 7, .inl ((cT 0), 1000, .inl f7))]) [1, 0, 2] rfl
              have hD := hD.sub (ws' := [(mo, .inr (12, mdG r cd tm (nI sn) (nI tx) (nI lz) (nI az) (nI na) (nI nt) (nI nr) mw ml mk dq)), (r 6, .inl ((cT 0), 32, .inl f6)), (r 7, .inl ((cT 0), 1000, .inl f7))]) [1, 0, 2] (by decide) rfl
              exact ih (i + 1) _ _ _ (by omega) (by omega) hP hD hS hl
            · skip
              have n205 : pn1 = 3 := (nI_eq (a := pn1) (b := 3) (by omega) (by omega)).mp hc203
              refine lv_aload_n hx hb d_Md_userOf_34 rfl (lv_at hl 1 rfl) ?_
              refine lv_iconst (v := 1) hx hb d_Md_userOf_35 (by decide) ?_
              have hPc := hP.sub (ws' := [(mo, .inr (12, mdG r cd tm (nI sn) (nI tx) (nI lz) (nI az) (nI na) (nI nt) (nI nr) mw ml mk dq)), (r 7, .inl ((cT 0), 1000, .inl f7))]) [1, 2] rfl
              have hDc := hD.sub (ws' := [(mo, .inr (12, mdG r cd tm (nI sn) (nI tx) (nI lz) (nI az) (nI na) (nI nt) (nI nr) mw ml mk dq)), (r 7, .inl ((cT 0), 1000, .inl f7))]) [1, 2] (by decide) rfl
              have hFc := va_free (wc := [(mo, .inr (12, mdG r cd tm (nI sn) (nI tx) (nI lz) (nI az) (nI na) (nI nt) (nI nr) mw ml mk dq)), (r 7, .inl ((cT 0), 1000, .inl f7))]) hD hS hA [1, 2] rfl
              refine va_calli (va_runV (C := "DoorServerModel") (As := [.int 1]) (rest := []) ⟨hx, hb, hml, hown, hg⟩ (m_valueAt l dC dI cT H.size mo r cd tm sn tx lz az na nt nr mw ml mk dq f7 1 pa1 pn1 (by first | assumption | omega) (by first | assumption | omega) (by first | assumption | omega) (by first | assumption | omega)) (cwV 1 hg (gI (List.forall_mem_append.mpr ⟨List.forall_mem_cons.mpr ⟨k_1309, List.forall_mem_cons.mpr ⟨k_1311, List.forall_mem_cons.mpr ⟨(big_sel (q := y_Md_valueAt) (n := 45) (by decide +kernel)), List.forall_mem_cons.mpr ⟨k_13, fun _ h => absurd h List.not_mem_nil⟩⟩⟩⟩, List.forall_mem_cons.mpr ⟨k_1312, fun _ h => h⟩⟩)) rfl rfl rfl (by decide +kernel) ⟨Nat.le_of_ble_eq_true rfl, Nat.le_of_ble_eq_true rfl⟩) ⟨fun a U g mk q => by obtain ⟨q0, q1, qP, qK, qD⟩ := q; exact ⟨q0, q1, qP, va_K.moved (u := U) (U := U.calling g mk a) (Vm.Alike.refl U.vm) qK, qD⟩, va_recv (q0 := 1) (ci := 12) hK hP rfl rfl, fun U hU hW => ⟨rfl, by rw [hU], by rw [hU]; exact hPc, va_K.moved hW.alike hK, hDc.weaken (fun _ _ _ _ => trivial)⟩⟩ rfl rfl hl.1 rfl (lv_room (Nat.le_of_ble_eq_true rfl)) d_Md_userOf_36 ⟨Nat.le_of_ble_eq_true rfl, Nat.le_of_ble_eq_true rfl⟩) hS (fun q _ h => hFc q h) hFc (fun rv9 u t H1 locs ht hvm hw hB hz1 hk1 hS => ?_)
              try dsimp only at hw hB
              obtain ⟨hP1, hK1, hD1⟩ := hB
              rw [ht] at hP1
              obtain ⟨rfl, hw⟩ := hw
              obtain ⟨hP, hD⟩ := va_join (wr := [(r 6, .inl ((cT 0), 32, .inl f6))]) (w1 := [(mo, .inr (12, mdG r cd tm (nI sn) (nI tx) (nI lz) (nI az) (nI na) (nI nt) (nI nr) mw ml mk dq)), (r 7, .inl ((cT 0), 1000, .inl f7))]) hP hD [1, 2] [0] rfl rfl (by decide) (by decide) hk1 hFc hP1 hD1
              have hw206 := hw
              clear hPc hDc hFc hz1 hk1 hP1 hK1 hD1
              generalize H1 = H at hP hS ⊢
              have hP : va_P (dC, dI) vcl [(r 6, .inl ((cT 0), 32, .inl f6)), (mo, .inr (12, mdG r cd tm (nI sn) (nI tx) (nI lz) (nI az) (nI na) (nI nt) (nI nr) mw ml mk dq)), (r 7, .inl ((cT 0), 1000, .inl f7))] H := hP
              have hD : va_D A [(r 6, .inl ((cT 0), 32, .inl f6)), (mo, .inr (12, mdG r cd tm (nI sn) (nI tx) (nI lz) (nI az) (nI na) (nI nt) (nI nr) mw ml mk dq)), (r 7, .inl ((cT 0), 1000, .inl f7))] := hD
              refine lv_istore_n (lv' := [(2, .int (nI (pa1 + 2))), (1, .int (nI i)), (0, .ref mo)]) hx hb d_Md_userOf_39 rfl hl (by decide) rfl (fun ls hl => ?_)
              refine lv_aload_n hx hb d_Md_userOf_40 rfl (lv_at hl 2 rfl) ?_
              refine va_get (D := (dC, dI)) (ci := 12) (v := (.ref (r 7))) (C := R_Md) (T := F_Md) (N := 45) hx hb hg in_Md hown hK hP 1 rfl rfl 7 (by decide) (hg _ k_1027) (fun _ h9 => h9) rfl d_Md_userOf_41 ?_
              refine lv_iload_n hx hb d_Md_userOf_44 rfl (lv_at hl 0 rfl) ?_
              refine va_iald hx hb hK hP 2 0 rfl rfl (i := (nI (pa1 + 2))) (vp_in_nI (N := 1000) (by omega) (by decide)) d_Md_userOf_45 ?_
              refine lv_topi (fun x207 e_x207 => ?_)
              clear e_x207
              refine lv_bipush (v := 117) hx hb d_Md_userOf_46 (by decide) ?_
              refine lv_icmp_ne (tgt := 89) hx hb d_Md_userOf_48 (by decide) (fun hc208 => ?_) (fun hc208 => ?_)
              · skip
                refine lv_iinc (k := 1) (v := nI (i + 1)) (lv' := [(1, .int (nI (i + 1))), (2, .int (nI (pa1 + 2))), (0, .ref mo)]) hx hb d_Md_userOf_89 hl rfl (nI_1 i) (by decide) rfl (fun ls hl => ?_)
                refine lv_goto (tgt := 2) hx hb d_Md_userOf_92 (by decide) ?_
                have hl := lv_sub hl [0, 2] (show _ = [(1, .int (nI (i + 1))), (0, .ref mo)] from rfl)
                have hP := hP.sub (ws' := [(mo, .inr (12, mdG r cd tm (nI sn) (nI tx) (nI lz) (nI az) (nI na) (nI nt) (nI nr) mw ml mk dq)), (r 6, .inl ((cT 0), 32, .inl f6)), (r 7, .inl ((cT 0), 1000, .inl f7))]) [1, 0, 2] rfl
                have hD := hD.sub (ws' := [(mo, .inr (12, mdG r cd tm (nI sn) (nI tx) (nI lz) (nI az) (nI na) (nI nt) (nI nr) mw ml mk dq)), (r 6, .inl ((cT 0), 32, .inl f6)), (r 7, .inl ((cT 0), 1000, .inl f7))]) [1, 0, 2] (by decide) rfl
                exact ih (i + 1) _ _ _ (by omega) (by omega) hP hD hS hl
              · skip
                refine lv_aload_n hx hb d_Md_userOf_51 rfl (lv_at hl 2 rfl) ?_
                refine va_get (D := (dC, dI)) (ci := 12) (v := (.ref (r 7))) (C := R_Md) (T := F_Md) (N := 45) hx hb hg in_Md hown hK hP 1 rfl rfl 7 (by decide) (hg _ k_1027) (fun _ h9 => h9) rfl d_Md_userOf_52 ?_
                refine lv_iload_n hx hb d_Md_userOf_55 rfl (lv_at hl 0 rfl) ?_
                refine lv_iconst (v := 1) hx hb d_Md_userOf_56 (by decide) ?_
                refine lv_iadd hx hb d_Md_userOf_57 ?_
                refine lv_topi (fun x210 e209 => ?_)
                obtain rfl : x210 = nI (pa1 + 2 + 1) := by rw [e209]; exact nI_add (pa1 + 2) 1
                refine va_iald hx hb hK hP 2 0 rfl rfl (i := (nI (pa1 + 2 + 1))) (vp_in_nI (N := 1000) (by omega) (by decide)) d_Md_userOf_58 ?_
                refine lv_topi (fun x211 e_x211 => ?_)
                clear e_x211
                refine lv_bipush (v := 48) hx hb d_Md_userOf_59 (by decide) ?_
                refine lv_iload_n hx hb d_Md_userOf_61 rfl (lv_at hl 1 rfl) ?_
                refine lv_bipush (v := 10) hx hb d_Md_userOf_62 (by decide) ?_
                refine lv_idiv hx hb d_Md_userOf_64 (by decide) ?_
                refine lv_topi (fun x213 e212 => ?_)
                obtain rfl : x213 = nI (i / 10) := by rw [e212]; exact pk_div (d := 10) (by omega) (by decide) (by decide)
                refine lv_iadd hx hb d_Md_userOf_65 ?_
                refine lv_topi (fun x215 e214 => ?_)
                obtain rfl : x215 = nI (48 + (i / 10)) := by rw [e214]; exact nI_add 48 (i / 10)
                refine lv_icmp_ne (tgt := 89) hx hb d_Md_userOf_66 (by decide) (fun hc216 => ?_) (fun hc216 => ?_)
                · skip
                  refine lv_iinc (k := 1) (v := nI (i + 1)) (lv' := [(1, .int (nI (i + 1))), (2, .int (nI (pa1 + 2))), (0, .ref mo)]) hx hb d_Md_userOf_89 hl rfl (nI_1 i) (by decide) rfl (fun ls hl => ?_)
                  refine lv_goto (tgt := 2) hx hb d_Md_userOf_92 (by decide) ?_
                  have hl := lv_sub hl [0, 2] (show _ = [(1, .int (nI (i + 1))), (0, .ref mo)] from rfl)
                  have hP := hP.sub (ws' := [(mo, .inr (12, mdG r cd tm (nI sn) (nI tx) (nI lz) (nI az) (nI na) (nI nt) (nI nr) mw ml mk dq)), (r 6, .inl ((cT 0), 32, .inl f6)), (r 7, .inl ((cT 0), 1000, .inl f7))]) [1, 0, 2] rfl
                  have hD := hD.sub (ws' := [(mo, .inr (12, mdG r cd tm (nI sn) (nI tx) (nI lz) (nI az) (nI na) (nI nt) (nI nr) mw ml mk dq)), (r 6, .inl ((cT 0), 32, .inl f6)), (r 7, .inl ((cT 0), 1000, .inl f7))]) [1, 0, 2] (by decide) rfl
                  exact ih (i + 1) _ _ _ (by omega) (by omega) hP hD hS hl
                · skip
                  refine lv_aload_n hx hb d_Md_userOf_69 rfl (lv_at hl 2 rfl) ?_
                  refine va_get (D := (dC, dI)) (ci := 12) (v := (.ref (r 7))) (C := R_Md) (T := F_Md) (N := 45) hx hb hg in_Md hown hK hP 1 rfl rfl 7 (by decide) (hg _ k_1027) (fun _ h9 => h9) rfl d_Md_userOf_70 ?_
                  refine lv_iload_n hx hb d_Md_userOf_73 rfl (lv_at hl 0 rfl) ?_
                  refine lv_iconst (v := 2) hx hb d_Md_userOf_74 (by decide) ?_
                  refine lv_iadd hx hb d_Md_userOf_75 ?_
                  refine lv_topi (fun x218 e217 => ?_)
                  obtain rfl : x218 = nI (pa1 + 2 + 2) := by rw [e217]; exact nI_add (pa1 + 2) 2
                  refine va_iald hx hb hK hP 2 0 rfl rfl (i := (nI (pa1 + 2 + 2))) (vp_in_nI (N := 1000) (by omega) (by decide)) d_Md_userOf_76 ?_
                  refine lv_topi (fun x219 e_x219 => ?_)
                  clear e_x219
                  refine lv_bipush (v := 48) hx hb d_Md_userOf_77 (by decide) ?_
                  refine lv_iload_n hx hb d_Md_userOf_79 rfl (lv_at hl 1 rfl) ?_
                  refine lv_bipush (v := 10) hx hb d_Md_userOf_80 (by decide) ?_
                  refine lv_irem hx hb d_Md_userOf_82 (by decide) ?_
                  refine lv_topi (fun x221 e220 => ?_)
                  obtain rfl : x221 = nI (i % 10) := by rw [e220]; exact pk_rem (d := 10) (by omega) (by decide) (by decide)
                  refine lv_iadd hx hb d_Md_userOf_83 ?_
                  refine lv_topi (fun x223 e222 => ?_)
                  obtain rfl : x223 = nI (48 + (i % 10)) := by rw [e222]; exact nI_add 48 (i % 10)
                  refine lv_icmp_ne (tgt := 89) hx hb d_Md_userOf_84 (by decide) (fun hc224 => ?_) (fun hc224 => ?_)
                  · skip
                    refine lv_iinc (k := 1) (v := nI (i + 1)) (lv' := [(1, .int (nI (i + 1))), (2, .int (nI (pa1 + 2))), (0, .ref mo)]) hx hb d_Md_userOf_89 hl rfl (nI_1 i) (by decide) rfl (fun ls hl => ?_)
                    refine lv_goto (tgt := 2) hx hb d_Md_userOf_92 (by decide) ?_
                    have hl := lv_sub hl [0, 2] (show _ = [(1, .int (nI (i + 1))), (0, .ref mo)] from rfl)
                    have hP := hP.sub (ws' := [(mo, .inr (12, mdG r cd tm (nI sn) (nI tx) (nI lz) (nI az) (nI na) (nI nt) (nI nr) mw ml mk dq)), (r 6, .inl ((cT 0), 32, .inl f6)), (r 7, .inl ((cT 0), 1000, .inl f7))]) [1, 0, 2] rfl
                    have hD := hD.sub (ws' := [(mo, .inr (12, mdG r cd tm (nI sn) (nI tx) (nI lz) (nI az) (nI na) (nI nt) (nI nr) mw ml mk dq)), (r 6, .inl ((cT 0), 32, .inl f6)), (r 7, .inl ((cT 0), 1000, .inl f7))]) [1, 0, 2] (by decide) rfl
                    exact ih (i + 1) _ _ _ (by omega) (by omega) hP hD hS hl
                  · skip
                    refine lv_iload_n hx hb d_Md_userOf_87 rfl (lv_at hl 1 rfl) ?_
                    have hl := lv_sub hl [2] (show _ = [(0, .ref mo)] from rfl)
                    have hP := hP.sub (ws' := [(mo, .inr (12, mdG r cd tm (nI sn) (nI tx) (nI lz) (nI az) (nI na) (nI nt) (nI nr) mw ml mk dq)), (r 6, .inl ((cT 0), 32, .inl f6)), (r 7, .inl ((cT 0), 1000, .inl f7))]) [1, 0, 2] rfl
                    have hD := hD.sub (ws' := [(mo, .inr (12, mdG r cd tm (nI sn) (nI tx) (nI lz) (nI az) (nI na) (nI nt) (nI nr) mw ml mk dq)), (r 6, .inl ((cT 0), 32, .inl f6)), (r 7, .inl ((cT 0), 1000, .inl f7))]) [1, 0, 2] (by decide) rfl
                    exact ex1 i _ _ _ (by omega) hP hD hS hl
  refine L149 _ (fun i H locs ls  hP hD hS hl => ?_) (fun i H locs ls hxa hP hD hS hl => ?_) (32 - 0) 0 s.heap _ ls (Nat.le_refl _) (by omega) hP hD hS hl
  · skip
    refine lv_iconst (v := (-1)) hx hb d_Md_userOf_95 (by decide) ?_
    have hP9 := hP.sub (ws' := [(mo, .inr (12, mdG r cd tm (nI sn) (nI tx) (nI lz) (nI az) (nI na) (nI nt) (nI nr) mw ml mk dq)), (r 6, .inl ((cT 0), 32, .inl f6)), (r 7, .inl ((cT 0), 1000, .inl f7))]) [0, 1, 2] rfl
    have hD9 := hD.sub (ws' := [(mo, .inr (12, mdG r cd tm (nI sn) (nI tx) (nI lz) (nI az) (nI na) (nI nt) (nI nr) mw ml mk dq)), (r 6, .inl ((cT 0), 32, .inl f6)), (r 7, .inl ((cT 0), 1000, .inl f7))]) [0, 1, 2] (by decide) rfl
    exact W.iret (v := (-1)) hx hb hr (fun t ht hW => ⟨⟨_, (), rfl, Or.inl rfl, by rw [ht]; exact hP9, va_K.moved hW.alike hK, hD9⟩, hS.F ht⟩) hS.2.2 d_Md_userOf_96
  · skip
    have hP9 := hP.sub (ws' := [(mo, .inr (12, mdG r cd tm (nI sn) (nI tx) (nI lz) (nI az) (nI na) (nI nt) (nI nr) mw ml mk dq)), (r 6, .inl ((cT 0), 32, .inl f6)), (r 7, .inl ((cT 0), 1000, .inl f7))]) [0, 1, 2] rfl
    have hD9 := hD.sub (ws' := [(mo, .inr (12, mdG r cd tm (nI sn) (nI tx) (nI lz) (nI az) (nI na) (nI nt) (nI nr) mw ml mk dq)), (r 6, .inl ((cT 0), 32, .inl f6)), (r 7, .inl ((cT 0), 1000, .inl f7))]) [0, 1, 2] (by decide) rfl
    exact W.iret (v := nI i) hx hb hr (fun t ht hW => ⟨⟨_, (), rfl, Or.inr ⟨i, rfl, hxa⟩, by rw [ht]; exact hP9, va_K.moved hW.alike hK, hD9⟩, hS.F ht⟩) hS.2.2 d_Md_userOf_88
set_option maxHeartbeats 4000000 in
set_option maxRecDepth 100000 in
/-- isPassword -/
theorem m_isPassword (l : Launch) (dC : Nat → ClassId) (dI : Nat → Nat → Nat) (cT : Nat → ClassId) (sz : Nat) (mo : Nat) (r : Nat → Nat) (cd : Int32) (tm : Int32) (sn : Nat) (tx : Nat) (lz : Nat) (az : Nat) (na : Nat) (nt : Nat) (nr : Nat) (mw : Int32) (ml : Int32) (mk : Int64) (dq : Int64) (f5 : Nat → Int32) (f6 : Nat → Int32) (f7 : Nat → Int32) (f9 : Nat → Int32) (f3 : Nat → Int32) (f4 : Nat → Int32) (f0 : Nat → Int64) (f11 : Nat → Int32) (st : Nat) (sl : Nat) (us : Nat) (pa2 : Nat) (pn2 : Nat) (hst : st < 4) (hfz : f4 st = nI sl) (hsl : sl ≤ 40) (hus : us < 32) (h6 : BD 60 32 f6) (h11 : AB f11) (h20 : 20 ≤ sn) (hsn : sn ≤ 1000) (h7 : AB f7) (hh2 : HA f7 sn 2 (MFV f7 sn 2) pa2 pn2) : Met l y_Md_isPassword (Cond.code y_Md_isPassword b_Md_isPassword 9 (Option.some Jvm.ClassFile.FieldType.boolean) :: BIG) ({ frames := 3, cells := 0, slots := 0, locals := 92 }) (va_Pc [.ref mo, .int (nI st), .int (nI us)] (fun U => U.heap.size = sz ∧ va_P (dC, dI) vcl [(mo, .inr (12, mdG r cd tm (nI sn) (nI 0) (nI lz) (nI az) (nI na) (nI nt) (nI nr) mw ml mk dq)), (r 5, .inl ((cT 0), 1920, .inl f5)), (r 6, .inl ((cT 0), 32, .inl f6)), (r 7, .inl ((cT 0), 1000, .inl f7)), (r 9, .inl ((cT 0), 1400, .inl f9)), (r 3, .inl ((cT 0), 160, .inl f3)), (r 4, .inl ((cT 0), 4, .inl f4)), (r 0, .inl ((cT 1), 64, .inr (.inl f0))), (r 11, .inl ((cT 0), 16, .inl f11))] U.heap ∧ va_K (dC, dI) vcl (tyL cT) U ∧ va_D (fun _ => True) [(mo, .inr (12, mdG r cd tm (nI sn) (nI 0) (nI lz) (nI az) (nI na) (nI nt) (nI nr) mw ml mk dq)), (r 5, .inl ((cT 0), 1920, .inl f5)), (r 6, .inl ((cT 0), 32, .inl f6)), (r 7, .inl ((cT 0), 1000, .inl f7)), (r 9, .inl ((cT 0), 1400, .inl f9)), (r 3, .inl ((cT 0), 160, .inl f3)), (r 4, .inl ((cT 0), 4, .inl f4)), (r 0, .inl ((cT 1), 64, .inr (.inl f0))), (r 11, .inl ((cT 0), 16, .inl f11))])) (va_Qi (S := (Nat → Int32) × (Nat → Int32)) (fun rv9 u => match u with | (g9, g11) => (rv9 = 0 ∨ rv9 = 1) ∧ (AB g11)) (fun u t => match u with | (g9, g11) => va_P (dC, dI) vcl [(mo, .inr (12, mdG r cd tm (nI sn) (nI 0) (nI lz) (nI az) (nI na) (nI nt) (nI nr) mw ml mk dq)), (r 5, .inl ((cT 0), 1920, .inl f5)), (r 6, .inl ((cT 0), 32, .inl f6)), (r 7, .inl ((cT 0), 1000, .inl f7)), (r 9, .inl ((cT 0), 1400, .inl g9)), (r 3, .inl ((cT 0), 160, .inl f3)), (r 4, .inl ((cT 0), 4, .inl f4)), (r 0, .inl ((cT 1), 64, .inr (.inl f0))), (r 11, .inl ((cT 0), 16, .inl g11))] t.heap ∧ va_K (dC, dI) vcl (tyL cT) t ∧ va_D (va_A [(mo, .inr (12, mdG r cd tm (nI sn) (nI 0) (nI lz) (nI az) (nI na) (nI nt) (nI nr) mw ml mk dq)), (r 5, .inl ((cT 0), 1920, .inl f5)), (r 6, .inl ((cT 0), 32, .inl f6)), (r 7, .inl ((cT 0), 1000, .inl f7)), (r 9, .inl ((cT 0), 1400, .inl f9)), (r 3, .inl ((cT 0), 160, .inl f3)), (r 4, .inl ((cT 0), 4, .inl f4)), (r 0, .inl ((cT 1), 64, .inr (.inl f0))), (r 11, .inl ((cT 0), 16, .inl f11))] sz) [(mo, .inr (12, mdG r cd tm (nI sn) (nI 0) (nI lz) (nI az) (nI na) (nI nt) (nI nr) mw ml mk dq)), (r 5, .inl ((cT 0), 1920, .inl f5)), (r 6, .inl ((cT 0), 32, .inl f6)), (r 7, .inl ((cT 0), 1000, .inl f7)), (r 9, .inl ((cT 0), 1400, .inl g9)), (r 3, .inl ((cT 0), 160, .inl f3)), (r 4, .inl ((cT 0), 4, .inl f4)), (r 0, .inl ((cT 1), 64, .inr (.inl f0))), (r 11, .inl ((cT 0), 16, .inl g11))]) (va_A [(mo, .inr (12, mdG r cd tm (nI sn) (nI 0) (nI lz) (nI az) (nI na) (nI nt) (nI nr) mw ml mk dq)), (r 5, .inl ((cT 0), 1920, .inl f5)), (r 6, .inl ((cT 0), 32, .inl f6)), (r 7, .inl ((cT 0), 1000, .inl f7)), (r 9, .inl ((cT 0), 1400, .inl f9)), (r 3, .inl ((cT 0), 160, .inl f3)), (r 4, .inl ((cT 0), 4, .inl f4)), (r 0, .inl ((cT 1), 64, .inr (.inl f0))), (r 11, .inl ((cT 0), 16, .inl f11))] sz)) 0 0 (va_A [(mo, .inr (12, mdG r cd tm (nI sn) (nI 0) (nI lz) (nI az) (nI na) (nI nt) (nI nr) mw ml mk dq)), (r 5, .inl ((cT 0), 1920, .inl f5)), (r 6, .inl ((cT 0), 32, .inl f6)), (r 7, .inl ((cT 0), 1000, .inl f7)), (r 9, .inl ((cT 0), 1400, .inl f9)), (r 3, .inl ((cT 0), 160, .inl f3)), (r 4, .inl ((cT 0), 4, .inl f4)), (r 0, .inl ((cT 1), 64, .inr (.inl f0))), (r 11, .inl ((cT 0), 16, .inl f11))] sz) := by
  refine Met.ofW (cc := b_Md_isPassword) (maxL := 9) (ret := (Option.some Jvm.ClassFile.FieldType.boolean)) (by decide) rfl ?_
  intro p e s m args below meth c s₁ B hml hv
  obtain ⟨hargs, hsz, hP, hK, hD0⟩ := hv
  have hx := B.exec
  have hb := B.bytes
  have hr := B.returns
  have hts := atoms_spec (ws := (Cond.code y_Md_isPassword b_Md_isPassword 9 (Option.some Jvm.ClassFile.FieldType.boolean) :: BIG)) B.pre
  have hg : ∀ w ∈ BIG, w.before _ s = true := fun w h => hts w (List.mem_cons_of_mem _ h)
  have hown : s.vm.findClass "DoorServerModel" = some m.cls := findClass_of_methodNamed B.named
  have hlocks := B.notSynchronized
  subst hsz
  have hD := hD0.self (sz := s.heap.size)
  generalize hAe : va_A [(mo, .inr (12, mdG r cd tm (nI sn) (nI 0) (nI lz) (nI az) (nI na) (nI nt) (nI nr) mw ml mk dq)), (r 5, .inl ((cT 0), 1920, .inl f5)), (r 6, .inl ((cT 0), 32, .inl f6)), (r 7, .inl ((cT 0), 1000, .inl f7)), (r 9, .inl ((cT 0), 1400, .inl f9)), (r 3, .inl ((cT 0), 160, .inl f3)), (r 4, .inl ((cT 0), 4, .inl f4)), (r 0, .inl ((cT 1), 64, .inr (.inl f0))), (r 11, .inl ((cT 0), 16, .inl f11))] s.heap.size = A at hD ⊢
  have hA : ∀ q : Nat, s.heap.size ≤ q → A q := fun q h => by rw [← hAe]; exact Or.inr h
  have hS : va_S A s.heap s.heap [] := va_S.rf
  have hl := lv_entry ([.ref mo, .int (nI st), .int (nI us)]) (n := 9) (Nat.le_of_ble_eq_true rfl)
  refine W.eq (g2 := entryFrame m (List.toArray [.ref mo, .int (nI st), .int (nI us)]) 9) (by rw [hargs]) ?_
  rw [lg_entry_eq]
  generalize (lg_sl ([.ref mo, .int (nI st), .int (nI us)]) ++ List.replicate (9 - (lg_sl ([.ref mo, .int (nI st), .int (nI us)])).length) Slot.unset).toArray = ls at hl ⊢
  have hl : lv_has ls 9 [(0, .ref mo), (1, .int (nI st)), (2, .int (nI us))] := hl
  change W p l e ({ frames := 3, cells := 0, slots := 0, locals := 92 } : Room) s m args below meth c s.heap [] 0 0 _ _
  have hP : va_P (dC, dI) vcl [(mo, .inr (12, mdG r cd tm (nI sn) (nI 0) (nI lz) (nI az) (nI na) (nI nt) (nI nr) mw ml mk dq)), (r 5, .inl ((cT 0), 1920, .inl f5)), (r 6, .inl ((cT 0), 32, .inl f6)), (r 7, .inl ((cT 0), 1000, .inl f7)), (r 9, .inl ((cT 0), 1400, .inl f9)), (r 3, .inl ((cT 0), 160, .inl f3)), (r 4, .inl ((cT 0), 4, .inl f4)), (r 0, .inl ((cT 1), 64, .inr (.inl f0))), (r 11, .inl ((cT 0), 16, .inl f11))] s.heap := hP
  have hs2 := rsb_2 (by have := hh2.2.2.2.1; omega) hh2.2.2.2.2.2
  have hb2 := hh2.2.2.2.1; have hc2 := hh2.2.1
  refine lv_aload_n hx hb d_Md_isPassword_0 rfl (lv_at hl 0 rfl) ?_
  refine lv_iconst (v := 2) hx hb d_Md_isPassword_1 (by decide) ?_
  have hPc := hP.sub (ws' := [(mo, .inr (12, mdG r cd tm (nI sn) (nI 0) (nI lz) (nI az) (nI na) (nI nt) (nI nr) mw ml mk dq)), (r 7, .inl ((cT 0), 1000, .inl f7))]) [0, 3] rfl
  have hDc := hD.sub (ws' := [(mo, .inr (12, mdG r cd tm (nI sn) (nI 0) (nI lz) (nI az) (nI na) (nI nt) (nI nr) mw ml mk dq)), (r 7, .inl ((cT 0), 1000, .inl f7))]) [0, 3] (by decide) rfl
  have hFc := va_free (wc := [(mo, .inr (12, mdG r cd tm (nI sn) (nI 0) (nI lz) (nI az) (nI na) (nI nt) (nI nr) mw ml mk dq)), (r 7, .inl ((cT 0), 1000, .inl f7))]) hD hS hA [0, 3] rfl
  refine va_calli (va_runV (C := "DoorServerModel") (As := [.int 2]) (rest := []) ⟨hx, hb, hml, hown, hg⟩ (m_valueAt l dC dI cT s.heap.size mo r cd tm sn 0 lz az na nt nr mw ml mk dq f7 2 pa2 pn2 (by first | assumption | omega) (by first | assumption | omega) (by first | assumption | omega) (by first | assumption | omega)) (cwV 1 hg (gI (List.forall_mem_append.mpr ⟨List.forall_mem_cons.mpr ⟨k_1309, List.forall_mem_cons.mpr ⟨k_1311, List.forall_mem_cons.mpr ⟨(big_sel (q := y_Md_valueAt) (n := 45) (by decide +kernel)), List.forall_mem_cons.mpr ⟨k_13, fun _ h => absurd h List.not_mem_nil⟩⟩⟩⟩, List.forall_mem_cons.mpr ⟨k_1312, fun _ h => h⟩⟩)) rfl rfl rfl (by decide +kernel) ⟨Nat.le_of_ble_eq_true rfl, Nat.le_of_ble_eq_true rfl⟩) ⟨fun a U g mk q => by obtain ⟨q0, q1, qP, qK, qD⟩ := q; exact ⟨q0, q1, qP, va_K.moved (u := U) (U := U.calling g mk a) (Vm.Alike.refl U.vm) qK, qD⟩, va_recv (q0 := 0) (ci := 12) hK hP rfl rfl, fun U hU hW => ⟨rfl, by rw [hU], by rw [hU]; exact hPc, va_K.moved hW.alike hK, hDc.weaken (fun _ _ _ _ => trivial)⟩⟩ rfl rfl hl.1 rfl (lv_room (Nat.le_of_ble_eq_true rfl)) d_Md_isPassword_2 ⟨Nat.le_of_ble_eq_true rfl, Nat.le_of_ble_eq_true rfl⟩) hS (fun q _ h => hFc q h) hFc (fun rv9 u t H1 locs ht hvm hw hB hz1 hk1 hS => ?_)
  try dsimp only at hw hB
  obtain ⟨hP1, hK1, hD1⟩ := hB
  rw [ht] at hP1
  obtain ⟨rfl, hw⟩ := hw
  obtain ⟨hP, hD⟩ := va_join (wr := [(r 5, .inl ((cT 0), 1920, .inl f5)), (r 6, .inl ((cT 0), 32, .inl f6)), (r 9, .inl ((cT 0), 1400, .inl f9)), (r 3, .inl ((cT 0), 160, .inl f3)), (r 4, .inl ((cT 0), 4, .inl f4)), (r 0, .inl ((cT 1), 64, .inr (.inl f0))), (r 11, .inl ((cT 0), 16, .inl f11))]) (w1 := [(mo, .inr (12, mdG r cd tm (nI sn) (nI 0) (nI lz) (nI az) (nI na) (nI nt) (nI nr) mw ml mk dq)), (r 7, .inl ((cT 0), 1000, .inl f7))]) hP hD [0, 3] [1, 2, 4, 5, 6, 7, 8] rfl rfl (by decide) (by decide) hk1 hFc hP1 hD1
  have hw225 := hw
  clear hPc hDc hFc hz1 hk1 hP1 hK1 hD1
  generalize H1 = H at hP hS ⊢
  have hP : va_P (dC, dI) vcl [(r 5, .inl ((cT 0), 1920, .inl f5)), (r 6, .inl ((cT 0), 32, .inl f6)), (r 9, .inl ((cT 0), 1400, .inl f9)), (r 3, .inl ((cT 0), 160, .inl f3)), (r 4, .inl ((cT 0), 4, .inl f4)), (r 0, .inl ((cT 1), 64, .inr (.inl f0))), (r 11, .inl ((cT 0), 16, .inl f11)), (mo, .inr (12, mdG r cd tm (nI sn) (nI 0) (nI lz) (nI az) (nI na) (nI nt) (nI nr) mw ml mk dq)), (r 7, .inl ((cT 0), 1000, .inl f7))] H := hP
  have hD : va_D A [(r 5, .inl ((cT 0), 1920, .inl f5)), (r 6, .inl ((cT 0), 32, .inl f6)), (r 9, .inl ((cT 0), 1400, .inl f9)), (r 3, .inl ((cT 0), 160, .inl f3)), (r 4, .inl ((cT 0), 4, .inl f4)), (r 0, .inl ((cT 1), 64, .inr (.inl f0))), (r 11, .inl ((cT 0), 16, .inl f11)), (mo, .inr (12, mdG r cd tm (nI sn) (nI 0) (nI lz) (nI az) (nI na) (nI nt) (nI nr) mw ml mk dq)), (r 7, .inl ((cT 0), 1000, .inl f7))] := hD
  refine lv_istore_n (lv' := [(3, .int (nI (pa2 + 2))), (0, .ref mo), (1, .int (nI st)), (2, .int (nI us))]) hx hb d_Md_isPassword_5 rfl hl (by decide) rfl (fun ls hl => ?_)
  refine lv_aload_n hx hb d_Md_isPassword_6 rfl (lv_at hl 1 rfl) ?_
  refine lv_iconst (v := 2) hx hb d_Md_isPassword_7 (by decide) ?_
  have hPc := hP.sub (ws' := [(mo, .inr (12, mdG r cd tm (nI sn) (nI 0) (nI lz) (nI az) (nI na) (nI nt) (nI nr) mw ml mk dq)), (r 7, .inl ((cT 0), 1000, .inl f7))]) [7, 8] rfl
  have hDc := hD.sub (ws' := [(mo, .inr (12, mdG r cd tm (nI sn) (nI 0) (nI lz) (nI az) (nI na) (nI nt) (nI nr) mw ml mk dq)), (r 7, .inl ((cT 0), 1000, .inl f7))]) [7, 8] (by decide) rfl
  have hFc := va_free (wc := [(mo, .inr (12, mdG r cd tm (nI sn) (nI 0) (nI lz) (nI az) (nI na) (nI nt) (nI nr) mw ml mk dq)), (r 7, .inl ((cT 0), 1000, .inl f7))]) hD hS hA [7, 8] rfl
  refine va_calli (va_runV (C := "DoorServerModel") (As := [.int 2]) (rest := []) ⟨hx, hb, hml, hown, hg⟩ (m_sizeOf l dC dI cT H.size mo r cd tm sn 0 lz az na nt nr mw ml mk dq f7 2 pa2 pn2 (by first | assumption | omega) (by first | assumption | omega) (by first | assumption | omega) (by first | assumption | omega)) (cwV 1 hg (gI (List.forall_mem_append.mpr ⟨List.forall_mem_cons.mpr ⟨k_1329, List.forall_mem_cons.mpr ⟨k_1331, List.forall_mem_cons.mpr ⟨(big_sel (q := y_Md_sizeOf) (n := 45) (by decide +kernel)), List.forall_mem_cons.mpr ⟨k_13, fun _ h => absurd h List.not_mem_nil⟩⟩⟩⟩, List.forall_mem_cons.mpr ⟨k_1332, fun _ h => h⟩⟩)) rfl rfl rfl (by decide +kernel) ⟨Nat.le_of_ble_eq_true rfl, Nat.le_of_ble_eq_true rfl⟩) ⟨fun a U g mk q => by obtain ⟨q0, q1, qP, qK, qD⟩ := q; exact ⟨q0, q1, qP, va_K.moved (u := U) (U := U.calling g mk a) (Vm.Alike.refl U.vm) qK, qD⟩, va_recv (q0 := 7) (ci := 12) hK hP rfl rfl, fun U hU hW => ⟨rfl, by rw [hU], by rw [hU]; exact hPc, va_K.moved hW.alike hK, hDc.weaken (fun _ _ _ _ => trivial)⟩⟩ rfl rfl hl.1 rfl (lv_room (Nat.le_of_ble_eq_true rfl)) d_Md_isPassword_8 ⟨Nat.le_of_ble_eq_true rfl, Nat.le_of_ble_eq_true rfl⟩) hS (fun q _ h => hFc q h) hFc (fun rv9 u t H1 locs ht hvm hw hB hz1 hk1 hS => ?_)
  try dsimp only at hw hB
  obtain ⟨hP1, hK1, hD1⟩ := hB
  rw [ht] at hP1
  obtain ⟨rfl, hw⟩ := hw
  obtain ⟨hP, hD⟩ := va_join (wr := [(r 5, .inl ((cT 0), 1920, .inl f5)), (r 6, .inl ((cT 0), 32, .inl f6)), (r 9, .inl ((cT 0), 1400, .inl f9)), (r 3, .inl ((cT 0), 160, .inl f3)), (r 4, .inl ((cT 0), 4, .inl f4)), (r 0, .inl ((cT 1), 64, .inr (.inl f0))), (r 11, .inl ((cT 0), 16, .inl f11))]) (w1 := [(mo, .inr (12, mdG r cd tm (nI sn) (nI 0) (nI lz) (nI az) (nI na) (nI nt) (nI nr) mw ml mk dq)), (r 7, .inl ((cT 0), 1000, .inl f7))]) hP hD [7, 8] [0, 1, 2, 3, 4, 5, 6] rfl rfl (by decide) (by decide) hk1 hFc hP1 hD1
  have hw226 := hw
  clear hPc hDc hFc hz1 hk1 hP1 hK1 hD1
  generalize H1 = H at hP hS ⊢
  have hP : va_P (dC, dI) vcl [(r 5, .inl ((cT 0), 1920, .inl f5)), (r 6, .inl ((cT 0), 32, .inl f6)), (r 9, .inl ((cT 0), 1400, .inl f9)), (r 3, .inl ((cT 0), 160, .inl f3)), (r 4, .inl ((cT 0), 4, .inl f4)), (r 0, .inl ((cT 1), 64, .inr (.inl f0))), (r 11, .inl ((cT 0), 16, .inl f11)), (mo, .inr (12, mdG r cd tm (nI sn) (nI 0) (nI lz) (nI az) (nI na) (nI nt) (nI nr) mw ml mk dq)), (r 7, .inl ((cT 0), 1000, .inl f7))] H := hP
  have hD : va_D A [(r 5, .inl ((cT 0), 1920, .inl f5)), (r 6, .inl ((cT 0), 32, .inl f6)), (r 9, .inl ((cT 0), 1400, .inl f9)), (r 3, .inl ((cT 0), 160, .inl f3)), (r 4, .inl ((cT 0), 4, .inl f4)), (r 0, .inl ((cT 1), 64, .inr (.inl f0))), (r 11, .inl ((cT 0), 16, .inl f11)), (mo, .inr (12, mdG r cd tm (nI sn) (nI 0) (nI lz) (nI az) (nI na) (nI nt) (nI nr) mw ml mk dq)), (r 7, .inl ((cT 0), 1000, .inl f7))] := hD
  refine lv_istore (lv' := [(4, .int (nI pn2)), (3, .int (nI (pa2 + 2))), (0, .ref mo), (1, .int (nI st)), (2, .int (nI us))]) hx hb d_Md_isPassword_11 hl (by decide) rfl (fun ls hl => ?_)
  refine lv_aload_n hx hb d_Md_isPassword_13 rfl (lv_at hl 2 rfl) ?_
  refine va_get (D := (dC, dI)) (ci := 12) (v := (.ref (r 6))) (C := R_Md) (T := F_Md) (N := 45) hx hb hg in_Md hown hK hP 7 rfl rfl 6 (by decide) (hg _ k_1026) (fun _ h9 => h9) rfl d_Md_isPassword_14 ?_
  refine lv_iload_n hx hb d_Md_isPassword_17 rfl (lv_at hl 4 rfl) ?_
  obtain ⟨t227, ht227, xt227⟩ := h6 us (by omega)
  refine va_iald hx hb hK hP 1 0 rfl rfl (i := (nI us)) (vp_in_nI (N := 32) (by omega) (by decide)) d_Md_isPassword_18 ?_
  refine lv_topi (fun x229 e228 => ?_)
  obtain rfl : x229 = nI t227 := by rw [e228]; rw [nI_clamp (by omega)]; exact xt227
  refine lv_iload hx hb d_Md_isPassword_19 (lv_at hl 0 rfl) ?_
  refine lv_icmp_gt (tgt := 28) hx hb d_Md_isPassword_21 (by decide) (fun hc230 => ?_) (fun hc230 => ?_)
  · skip
    have n231 : pn2 < t227 := (nI_ltI (a := pn2) (b := t227) (by omega) (by omega)).mp hc230
    refine lv_iconst (v := 0) hx hb d_Md_isPassword_28 (by decide) ?_
    refine lv_istore (lv' := [(5, .int 0), (4, .int (nI pn2)), (3, .int (nI (pa2 + 2))), (0, .ref mo), (1, .int (nI st)), (2, .int (nI us))]) hx hb d_Md_isPassword_29 hl (by decide) rfl (fun ls hl => ?_)
    refine lv_iconst (v := 0) hx hb d_Md_isPassword_31 (by decide) ?_
    refine lv_istore (lv' := [(6, .int 0), (5, .int 0), (4, .int (nI pn2)), (3, .int (nI (pa2 + 2))), (0, .ref mo), (1, .int (nI st)), (2, .int (nI us))]) hx hb d_Md_isPassword_32 hl (by decide) rfl (fun ls hl => ?_)
    have hl := lv_sub hl [0, 1, 2, 3, 4, 5, 6] (show _ = [(6, .int 0), (5, .int 0), (4, .int (nI pn2)), (3, .int (nI (pa2 + 2))), (0, .ref mo), (1, .int (nI st)), (2, .int (nI us))] from rfl)
    have L235 : ∀ (Q : State → Prop) (exit : ∀ (g9_233 : Nat → Int32) (g11_234 : Nat → Int32) (sm : Int32) (H : Heap) (locs : List Loc) (ls : Array Slot), (sm = 0 ∨ sm = 1) → (AB g11_234) → va_P (dC, dI) vcl [(r 5, .inl ((cT 0), 1920, .inl f5)), (r 6, .inl ((cT 0), 32, .inl f6)), (r 9, .inl ((cT 0), 1400, .inl g9_233)), (r 3, .inl ((cT 0), 160, .inl f3)), (r 4, .inl ((cT 0), 4, .inl f4)), (r 0, .inl ((cT 1), 64, .inr (.inl f0))), (r 11, .inl ((cT 0), 16, .inl g11_234)), (mo, .inr (12, mdG r cd tm (nI sn) (nI 0) (nI lz) (nI az) (nI na) (nI nt) (nI nr) mw ml mk dq)), (r 7, .inl ((cT 0), 1000, .inl f7))] H → va_D A [(r 5, .inl ((cT 0), 1920, .inl f5)), (r 6, .inl ((cT 0), 32, .inl f6)), (r 9, .inl ((cT 0), 1400, .inl g9_233)), (r 3, .inl ((cT 0), 160, .inl f3)), (r 4, .inl ((cT 0), 4, .inl f4)), (r 0, .inl ((cT 1), 64, .inr (.inl f0))), (r 11, .inl ((cT 0), 16, .inl g11_234)), (mo, .inr (12, mdG r cd tm (nI sn) (nI 0) (nI lz) (nI az) (nI na) (nI nt) (nI nr) mw ml mk dq)), (r 7, .inl ((cT 0), 1000, .inl f7))] → va_S A s.heap H locs → lv_has ls 9 [(6, .int (nI (pn2 / 16))), (5, .int sm), (4, .int (nI pn2)), (3, .int (nI (pa2 + 2))), (0, .ref mo), (1, .int (nI st)), (2, .int (nI us))] → W p l e ({ frames := 3, cells := 0, slots := 0, locals := 92 } : Room) s m args below meth c H locs 0 0 Q (F0 m 166 ls [])) (j8 i : Nat) (g9_233 : Nat → Int32) (g11_234 : Nat → Int32) (sm : Int32) (H : Heap) (locs : List Loc) (ls : Array Slot), i + j8 = pn2 / 16 → (sm = 0 ∨ sm = 1) → (AB g11_234) → va_P (dC, dI) vcl [(r 5, .inl ((cT 0), 1920, .inl f5)), (r 6, .inl ((cT 0), 32, .inl f6)), (r 9, .inl ((cT 0), 1400, .inl g9_233)), (r 3, .inl ((cT 0), 160, .inl f3)), (r 4, .inl ((cT 0), 4, .inl f4)), (r 0, .inl ((cT 1), 64, .inr (.inl f0))), (r 11, .inl ((cT 0), 16, .inl g11_234)), (mo, .inr (12, mdG r cd tm (nI sn) (nI 0) (nI lz) (nI az) (nI na) (nI nt) (nI nr) mw ml mk dq)), (r 7, .inl ((cT 0), 1000, .inl f7))] H → va_D A [(r 5, .inl ((cT 0), 1920, .inl f5)), (r 6, .inl ((cT 0), 32, .inl f6)), (r 9, .inl ((cT 0), 1400, .inl g9_233)), (r 3, .inl ((cT 0), 160, .inl f3)), (r 4, .inl ((cT 0), 4, .inl f4)), (r 0, .inl ((cT 1), 64, .inr (.inl f0))), (r 11, .inl ((cT 0), 16, .inl g11_234)), (mo, .inr (12, mdG r cd tm (nI sn) (nI 0) (nI lz) (nI az) (nI na) (nI nt) (nI nr) mw ml mk dq)), (r 7, .inl ((cT 0), 1000, .inl f7))] → va_S A s.heap H locs → lv_has ls 9 [(6, .int (nI i)), (5, .int sm), (4, .int (nI pn2)), (3, .int (nI (pa2 + 2))), (0, .ref mo), (1, .int (nI st)), (2, .int (nI us))] → W p l e ({ frames := 3, cells := 0, slots := 0, locals := 92 } : Room) s m args below meth c H locs 0 0 Q (F0 m 34 ls []) := by
      intro Q exit j8
      induction j8 with
      | zero => 
        intro i g9_233 g11_234 sm H locs ls hij hsm hdb hP hD hS hl
        have hij : pn2 / 16 = i := by omega
        refine lv_iload hx hb d_Md_isPassword_34 (lv_at hl 0 rfl) ?_
        refine lv_iload hx hb d_Md_isPassword_36 (lv_at hl 2 rfl) ?_
        refine lv_bipush (v := 16) hx hb d_Md_isPassword_38 (by decide) ?_
        refine lv_idiv hx hb d_Md_isPassword_40 (by decide) ?_
        refine lv_topi (fun x237 e236 => ?_)
        obtain rfl : x237 = nI (pn2 / 16) := by rw [e236]; exact pk_div (d := 16) (by omega) (by decide) (by decide)
        refine lv_icmp_ge (tgt := 166) hx hb d_Md_isPassword_41 (by decide) (fun hc238 => ?_) (fun hn9 => absurd (nI_le (by omega) (by omega)) hn9)
        subst hij
        exact exit g9_233 g11_234 sm _ _ _ hsm hdb hP hD hS hl
      | succ j8 ih => 
        intro i g9_233 g11_234 sm H locs ls hij hsm hdb hP hD hS hl
        have hlt : i < pn2 / 16 := by omega
        have hlti := hlt
        refine lv_iload hx hb d_Md_isPassword_34 (lv_at hl 0 rfl) ?_
        refine lv_iload hx hb d_Md_isPassword_36 (lv_at hl 2 rfl) ?_
        refine lv_bipush (v := 16) hx hb d_Md_isPassword_38 (by decide) ?_
        refine lv_idiv hx hb d_Md_isPassword_40 (by decide) ?_
        refine lv_topi (fun x240 e239 => ?_)
        obtain rfl : x240 = nI (pn2 / 16) := by rw [e239]; exact pk_div (d := 16) (by omega) (by decide) (by decide)
        refine lv_icmp_ge (tgt := 166) hx hb d_Md_isPassword_41 (by decide) (fun hn9 => absurd hn9 (nI_ge (by omega) (by omega))) (fun hc241 => ?_)
        refine lv_aload_n hx hb d_Md_isPassword_44 rfl (lv_at hl 4 rfl) ?_
        refine lv_iload_n hx hb d_Md_isPassword_45 rfl (lv_at hl 5 rfl) ?_
        refine lv_iload hx hb d_Md_isPassword_46 (lv_at hl 0 rfl) ?_
        refine lv_if_ne (tgt := 55) hx hb d_Md_isPassword_48 (by decide) (fun hc242 => ?_) (fun hc242 => ?_)
        · skip
          have n243 : ¬ i = 0 := fun h7 => hc242 ((nI_eq (a := i) (b := 0) (by omega) (by omega)).mpr h7)
          refine lv_iload_n hx hb d_Md_isPassword_55 rfl (lv_at hl 3 rfl) ?_
          refine lv_bipush (v := 16) hx hb d_Md_isPassword_56 (by decide) ?_
          refine lv_iload hx hb d_Md_isPassword_58 (lv_at hl 0 rfl) ?_
          refine lv_imul hx hb d_Md_isPassword_60 ?_
          refine lv_topi (fun x246 e245 => ?_)
          obtain rfl : x246 = nI (16 * i) := by rw [e245]; exact pk_mul 16 i
          refine lv_iadd hx hb d_Md_isPassword_61 ?_
          refine lv_topi (fun x248 e247 => ?_)
          obtain rfl : x248 = nI (pa2 + 2 + (16 * i)) := by rw [e247]; exact nI_add (pa2 + 2) (16 * i)
          refine lv_bipush (v := 16) hx hb d_Md_isPassword_62 (by decide) ?_
          refine lv_isub hx hb d_Md_isPassword_64 ?_
          refine lv_topi (fun x250 e249 => ?_)
          obtain rfl : x250 = nI ((pa2 + 2 + (16 * i)) - 16) := by rw [e249]; exact pk_sub (a := pa2 + 2 + (16 * i)) (b := 16) (by omega)
          have hPc := hP.sub (ws' := [(mo, .inr (12, mdG r cd tm (nI sn) (nI 0) (nI lz) (nI az) (nI na) (nI nt) (nI nr) mw ml mk dq)), (r 9, .inl ((cT 0), 1400, .inl g9_233)), (r 3, .inl ((cT 0), 160, .inl f3)), (r 4, .inl ((cT 0), 4, .inl f4)), (r 7, .inl ((cT 0), 1000, .inl f7)), (r 0, .inl ((cT 1), 64, .inr (.inl f0))), (r 11, .inl ((cT 0), 16, .inl g11_234))]) [7, 2, 3, 4, 8, 5, 6] rfl
          have hDc := hD.sub (ws' := [(mo, .inr (12, mdG r cd tm (nI sn) (nI 0) (nI lz) (nI az) (nI na) (nI nt) (nI nr) mw ml mk dq)), (r 9, .inl ((cT 0), 1400, .inl g9_233)), (r 3, .inl ((cT 0), 160, .inl f3)), (r 4, .inl ((cT 0), 4, .inl f4)), (r 7, .inl ((cT 0), 1000, .inl f7)), (r 0, .inl ((cT 1), 64, .inr (.inl f0))), (r 11, .inl ((cT 0), 16, .inl g11_234))]) [7, 2, 3, 4, 8, 5, 6] (by decide) rfl
          have hFc := va_free (wc := [(mo, .inr (12, mdG r cd tm (nI sn) (nI 0) (nI lz) (nI az) (nI na) (nI nt) (nI nr) mw ml mk dq)), (r 9, .inl ((cT 0), 1400, .inl g9_233)), (r 3, .inl ((cT 0), 160, .inl f3)), (r 4, .inl ((cT 0), 4, .inl f4)), (r 7, .inl ((cT 0), 1000, .inl f7)), (r 0, .inl ((cT 1), 64, .inr (.inl f0))), (r 11, .inl ((cT 0), 16, .inl g11_234))]) hD hS hA [7, 2, 3, 4, 8, 5, 6] rfl
          refine va_callv (va_runV (C := "DoorServerModel") (As := [.int (nI st), .int (nI ((pa2 + 2 + (16 * i)) - 16))]) (rest := []) ⟨hx, hb, hml, hown, hg⟩ (m_cover l dC dI cT H.size mo r cd tm sn 0 lz az na nt nr mw ml mk dq g9_233 f3 f4 f7 f0 g11_234 st sl ((pa2 + 2 + (16 * i)) - 16) (by first | assumption | omega) (by first | assumption | omega) (by first | assumption | omega) (by first | assumption | omega) (by first | assumption | omega) (by first | assumption | omega)) (cwV 2 hg (gI (List.forall_mem_append.mpr ⟨List.forall_mem_cons.mpr ⟨k_1212, List.forall_mem_cons.mpr ⟨k_1214, List.forall_mem_cons.mpr ⟨(big_sel (q := y_Md_cover) (n := 45) (by decide +kernel)), List.forall_mem_cons.mpr ⟨k_13, fun _ h => absurd h List.not_mem_nil⟩⟩⟩⟩, List.forall_mem_cons.mpr ⟨k_1215, fun _ h => h⟩⟩)) rfl rfl rfl (by decide +kernel) ⟨Nat.le_of_ble_eq_true rfl, Nat.le_of_ble_eq_true rfl⟩) ⟨fun a U g mk q => by obtain ⟨q0, q1, qP, qK, qD⟩ := q; exact ⟨q0, q1, qP, va_K.moved (u := U) (U := U.calling g mk a) (Vm.Alike.refl U.vm) qK, qD⟩, va_recv (q0 := 7) (ci := 12) hK hP rfl rfl, fun U hU hW => ⟨rfl, by rw [hU], by rw [hU]; exact hPc, va_K.moved hW.alike hK, hDc.weaken (fun _ _ _ _ => trivial)⟩⟩ rfl rfl hl.1 rfl (lv_room (Nat.le_of_ble_eq_true rfl)) d_Md_isPassword_65 ⟨Nat.le_of_ble_eq_true rfl, Nat.le_of_ble_eq_true rfl⟩) hS (fun q _ h => hFc q h) hFc (fun u t H1 locs ht hvm hw hB hz1 hk1 hS => ?_)
          obtain ⟨g9_251, g11_252⟩ := u
          try dsimp only at hw hB
          obtain ⟨hP1, hK1, hD1⟩ := hB
          rw [ht] at hP1
          obtain ⟨hP, hD⟩ := va_join (wr := [(r 5, .inl ((cT 0), 1920, .inl f5)), (r 6, .inl ((cT 0), 32, .inl f6))]) (w1 := [(mo, .inr (12, mdG r cd tm (nI sn) (nI 0) (nI lz) (nI az) (nI na) (nI nt) (nI nr) mw ml mk dq)), (r 9, .inl ((cT 0), 1400, .inl g9_251)), (r 3, .inl ((cT 0), 160, .inl f3)), (r 4, .inl ((cT 0), 4, .inl f4)), (r 7, .inl ((cT 0), 1000, .inl f7)), (r 0, .inl ((cT 1), 64, .inr (.inl f0))), (r 11, .inl ((cT 0), 16, .inl g11_252))]) hP hD [7, 2, 3, 4, 8, 5, 6] [0, 1] rfl rfl (by decide) (by decide) hk1 hFc hP1 hD1
          have hw253 := hw
          clear hPc hDc hFc hz1 hk1 hP1 hK1 hD1
          generalize H1 = H at hP hS ⊢
          have hP : va_P (dC, dI) vcl [(r 5, .inl ((cT 0), 1920, .inl f5)), (r 6, .inl ((cT 0), 32, .inl f6)), (mo, .inr (12, mdG r cd tm (nI sn) (nI 0) (nI lz) (nI az) (nI na) (nI nt) (nI nr) mw ml mk dq)), (r 9, .inl ((cT 0), 1400, .inl g9_251)), (r 3, .inl ((cT 0), 160, .inl f3)), (r 4, .inl ((cT 0), 4, .inl f4)), (r 7, .inl ((cT 0), 1000, .inl f7)), (r 0, .inl ((cT 1), 64, .inr (.inl f0))), (r 11, .inl ((cT 0), 16, .inl g11_252))] H := hP
          have hD : va_D A [(r 5, .inl ((cT 0), 1920, .inl f5)), (r 6, .inl ((cT 0), 32, .inl f6)), (mo, .inr (12, mdG r cd tm (nI sn) (nI 0) (nI lz) (nI az) (nI na) (nI nt) (nI nr) mw ml mk dq)), (r 9, .inl ((cT 0), 1400, .inl g9_251)), (r 3, .inl ((cT 0), 160, .inl f3)), (r 4, .inl ((cT 0), 4, .inl f4)), (r 7, .inl ((cT 0), 1000, .inl f7)), (r 0, .inl ((cT 1), 64, .inr (.inl f0))), (r 11, .inl ((cT 0), 16, .inl g11_252))] := hD
          have k254 := hw253
          refine lv_bipush (v := 16) hx hb d_Md_isPassword_68 (by decide) ?_
          refine lv_iload hx hb d_Md_isPassword_70 (lv_at hl 0 rfl) ?_
          refine lv_imul hx hb d_Md_isPassword_72 ?_
          refine lv_topi (fun x256 e255 => ?_)
          obtain rfl : x256 = nI (16 * i) := by rw [e255]; exact pk_mul 16 i
          refine lv_istore (lv' := [(7, .int (nI (16 * i))), (6, .int (nI i)), (5, .int sm), (4, .int (nI pn2)), (3, .int (nI (pa2 + 2))), (0, .ref mo), (1, .int (nI st)), (2, .int (nI us))]) hx hb d_Md_isPassword_73 hl (by decide) rfl (fun ls hl => ?_)
          have hl := lv_sub hl [0, 1, 2, 3, 4, 5, 6, 7] (show _ = [(7, .int (nI (16 * i))), (6, .int (nI i)), (5, .int sm), (4, .int (nI pn2)), (3, .int (nI (pa2 + 2))), (0, .ref mo), (1, .int (nI st)), (2, .int (nI us))] from rfl)
          have L257 : ∀ (Q : State → Prop) (exit : ∀ (sm : Int32) (H : Heap) (locs : List Loc) (ls : Array Slot), (sm = 0 ∨ sm = 1) → va_P (dC, dI) vcl [(r 5, .inl ((cT 0), 1920, .inl f5)), (r 6, .inl ((cT 0), 32, .inl f6)), (mo, .inr (12, mdG r cd tm (nI sn) (nI 0) (nI lz) (nI az) (nI na) (nI nt) (nI nr) mw ml mk dq)), (r 9, .inl ((cT 0), 1400, .inl g9_251)), (r 3, .inl ((cT 0), 160, .inl f3)), (r 4, .inl ((cT 0), 4, .inl f4)), (r 7, .inl ((cT 0), 1000, .inl f7)), (r 0, .inl ((cT 1), 64, .inr (.inl f0))), (r 11, .inl ((cT 0), 16, .inl g11_252))] H → va_D A [(r 5, .inl ((cT 0), 1920, .inl f5)), (r 6, .inl ((cT 0), 32, .inl f6)), (mo, .inr (12, mdG r cd tm (nI sn) (nI 0) (nI lz) (nI az) (nI na) (nI nt) (nI nr) mw ml mk dq)), (r 9, .inl ((cT 0), 1400, .inl g9_251)), (r 3, .inl ((cT 0), 160, .inl f3)), (r 4, .inl ((cT 0), 4, .inl f4)), (r 7, .inl ((cT 0), 1000, .inl f7)), (r 0, .inl ((cT 1), 64, .inr (.inl f0))), (r 11, .inl ((cT 0), 16, .inl g11_252))] → va_S A s.heap H locs → lv_has ls 9 [(7, .int (nI (16 * i + 16))), (6, .int (nI i)), (5, .int sm), (4, .int (nI pn2)), (3, .int (nI (pa2 + 2))), (0, .ref mo), (1, .int (nI st)), (2, .int (nI us))] → W p l e ({ frames := 3, cells := 0, slots := 0, locals := 92 } : Room) s m args below meth c H locs 0 0 Q (F0 m 160 ls [])) (j8 q9 : Nat) (sm : Int32) (H : Heap) (locs : List Loc) (ls : Array Slot), q9 + j8 = 16 * i + 16 → (sm = 0 ∨ sm = 1) → va_P (dC, dI) vcl [(r 5, .inl ((cT 0), 1920, .inl f5)), (r 6, .inl ((cT 0), 32, .inl f6)), (mo, .inr (12, mdG r cd tm (nI sn) (nI 0) (nI lz) (nI az) (nI na) (nI nt) (nI nr) mw ml mk dq)), (r 9, .inl ((cT 0), 1400, .inl g9_251)), (r 3, .inl ((cT 0), 160, .inl f3)), (r 4, .inl ((cT 0), 4, .inl f4)), (r 7, .inl ((cT 0), 1000, .inl f7)), (r 0, .inl ((cT 1), 64, .inr (.inl f0))), (r 11, .inl ((cT 0), 16, .inl g11_252))] H → va_D A [(r 5, .inl ((cT 0), 1920, .inl f5)), (r 6, .inl ((cT 0), 32, .inl f6)), (mo, .inr (12, mdG r cd tm (nI sn) (nI 0) (nI lz) (nI az) (nI na) (nI nt) (nI nr) mw ml mk dq)), (r 9, .inl ((cT 0), 1400, .inl g9_251)), (r 3, .inl ((cT 0), 160, .inl f3)), (r 4, .inl ((cT 0), 4, .inl f4)), (r 7, .inl ((cT 0), 1000, .inl f7)), (r 0, .inl ((cT 1), 64, .inr (.inl f0))), (r 11, .inl ((cT 0), 16, .inl g11_252))] → va_S A s.heap H locs → lv_has ls 9 [(7, .int (nI q9)), (6, .int (nI i)), (5, .int sm), (4, .int (nI pn2)), (3, .int (nI (pa2 + 2))), (0, .ref mo), (1, .int (nI st)), (2, .int (nI us))] → W p l e ({ frames := 3, cells := 0, slots := 0, locals := 92 } : Room) s m args below meth c H locs 0 0 Q (F0 m 75 ls []) := by
            intro Q exit j8
            induction j8 with
            | zero => 
              intro q9 sm H locs ls hij hsm hP hD hS hl
              have hij : 16 * i + 16 = q9 := by omega
              refine lv_iload hx hb d_Md_isPassword_75 (lv_at hl 0 rfl) ?_
              refine lv_bipush (v := 16) hx hb d_Md_isPassword_77 (by decide) ?_
              refine lv_iload hx hb d_Md_isPassword_79 (lv_at hl 1 rfl) ?_
              refine lv_imul hx hb d_Md_isPassword_81 ?_
              refine lv_topi (fun x259 e258 => ?_)
              obtain rfl : x259 = nI (16 * i) := by rw [e258]; exact pk_mul 16 i
              refine lv_bipush (v := 16) hx hb d_Md_isPassword_82 (by decide) ?_
              refine lv_iadd hx hb d_Md_isPassword_84 ?_
              refine lv_topi (fun x261 e260 => ?_)
              obtain rfl : x261 = nI ((16 * i) + 16) := by rw [e260]; exact nI_add (16 * i) 16
              refine lv_icmp_ge (tgt := 160) hx hb d_Md_isPassword_85 (by decide) (fun hc262 => ?_) (fun hn9 => absurd (nI_le (by omega) (by omega)) hn9)
              subst hij
              exact exit sm _ _ _ hsm hP hD hS hl
            | succ j8 ih => 
              intro q9 sm H locs ls hij hsm hP hD hS hl
              have hlt : q9 < 16 * i + 16 := by omega
              have hltq9 := hlt
              refine lv_iload hx hb d_Md_isPassword_75 (lv_at hl 0 rfl) ?_
              refine lv_bipush (v := 16) hx hb d_Md_isPassword_77 (by decide) ?_
              refine lv_iload hx hb d_Md_isPassword_79 (lv_at hl 1 rfl) ?_
              refine lv_imul hx hb d_Md_isPassword_81 ?_
              refine lv_topi (fun x264 e263 => ?_)
              obtain rfl : x264 = nI (16 * i) := by rw [e263]; exact pk_mul 16 i
              refine lv_bipush (v := 16) hx hb d_Md_isPassword_82 (by decide) ?_
              refine lv_iadd hx hb d_Md_isPassword_84 ?_
              refine lv_topi (fun x266 e265 => ?_)
              obtain rfl : x266 = nI ((16 * i) + 16) := by rw [e265]; exact nI_add (16 * i) 16
              refine lv_icmp_ge (tgt := 160) hx hb d_Md_isPassword_85 (by decide) (fun hn9 => absurd hn9 (nI_ge (by omega) (by omega))) (fun hc267 => ?_)
              refine lv_iload hx hb d_Md_isPassword_88 (lv_at hl 0 rfl) ?_
              refine lv_aload_n hx hb d_Md_isPassword_90 rfl (lv_at hl 5 rfl) ?_
              refine va_get (D := (dC, dI)) (ci := 12) (v := (.ref (r 6))) (C := R_Md) (T := F_Md) (N := 45) hx hb hg in_Md hown hK hP 2 rfl rfl 6 (by decide) (hg _ k_1026) (fun _ h9 => h9) rfl d_Md_isPassword_91 ?_
              refine lv_iload_n hx hb d_Md_isPassword_94 rfl (lv_at hl 7 rfl) ?_
              refine va_iald hx hb hK hP 1 0 rfl rfl (i := (nI us)) (vp_in_nI (N := 32) (by omega) (by decide)) d_Md_isPassword_95 ?_
              refine lv_topi (fun x269 e268 => ?_)
              obtain rfl : x269 = nI t227 := by rw [e268]; rw [nI_clamp (by omega)]; exact xt227
              refine lv_icmp_ge (tgt := 114) hx hb d_Md_isPassword_96 (by decide) (fun hc270 => ?_) (fun hc270 => ?_)
              · skip
                have n271 : t227 ≤ q9 := (nI_leI (a := t227) (b := q9) (by omega) (by omega)).mp hc270
                refine lv_iconst (v := 0) hx hb d_Md_isPassword_114 (by decide) ?_
                refine lv_istore (lv' := [(8, .int 0), (7, .int (nI q9)), (6, .int (nI i)), (5, .int sm), (4, .int (nI pn2)), (3, .int (nI (pa2 + 2))), (0, .ref mo), (1, .int (nI st)), (2, .int (nI us))]) hx hb d_Md_isPassword_115 hl (by decide) rfl (fun ls hl => ?_)
                refine lv_iload hx hb d_Md_isPassword_117 (lv_at hl 3 rfl) ?_
                refine lv_if_eq (tgt := 151) hx hb d_Md_isPassword_119 (by decide) (fun hc273 => ?_) (fun hc273 => ?_)
                · skip
                  refine lv_iconst (v := 0) hx hb d_Md_isPassword_151 (by decide) ?_
                  refine lv_istore (lv' := [(5, .int 0), (8, .int 0), (7, .int (nI q9)), (6, .int (nI i)), (4, .int (nI pn2)), (3, .int (nI (pa2 + 2))), (0, .ref mo), (1, .int (nI st)), (2, .int (nI us))]) hx hb d_Md_isPassword_152 hl (by decide) rfl (fun ls hl => ?_)
                  refine lv_iinc (k := 2) (v := nI (q9 + 1)) (lv' := [(7, .int (nI (q9 + 1))), (5, .int 0), (8, .int 0), (6, .int (nI i)), (4, .int (nI pn2)), (3, .int (nI (pa2 + 2))), (0, .ref mo), (1, .int (nI st)), (2, .int (nI us))]) hx hb d_Md_isPassword_154 hl rfl (nI_1 q9) (by decide) rfl (fun ls hl => ?_)
                  refine lv_goto (tgt := 75) hx hb d_Md_isPassword_157 (by decide) ?_
                  have hl := lv_sub hl [0, 3, 1, 4, 5, 6, 7, 8] (show _ = [(7, .int (nI (q9 + 1))), (6, .int (nI i)), (5, .int 0), (4, .int (nI pn2)), (3, .int (nI (pa2 + 2))), (0, .ref mo), (1, .int (nI st)), (2, .int (nI us))] from rfl)
                  exact ih (q9 + 1) _ _ _ _ (by omega) (Or.inl rfl) hP hD hS hl
                · skip
                  refine lv_aload_n hx hb d_Md_isPassword_122 rfl (lv_at hl 6 rfl) ?_
                  refine va_get (D := (dC, dI)) (ci := 12) (v := (.ref (r 7))) (C := R_Md) (T := F_Md) (N := 45) hx hb hg in_Md hown hK hP 2 rfl rfl 7 (by decide) (hg _ k_1027) (fun _ h9 => h9) rfl d_Md_isPassword_123 ?_
                  refine lv_iload_n hx hb d_Md_isPassword_126 rfl (lv_at hl 5 rfl) ?_
                  refine lv_iload hx hb d_Md_isPassword_127 (lv_at hl 1 rfl) ?_
                  refine lv_iadd hx hb d_Md_isPassword_129 ?_
                  refine lv_topi (fun x275 e274 => ?_)
                  obtain rfl : x275 = nI (pa2 + 2 + q9) := by rw [e274]; exact nI_add (pa2 + 2) q9
                  refine va_iald hx hb hK hP 6 0 rfl rfl (i := (nI (pa2 + 2 + q9))) (vp_in_nI (N := 1000) (by omega) (by decide)) d_Md_isPassword_130 ?_
                  refine lv_topi (fun x276 e_x276 => ?_)
                  clear e_x276
                  refine lv_aload_n hx hb d_Md_isPassword_131 rfl (lv_at hl 6 rfl) ?_
                  refine va_get (D := (dC, dI)) (ci := 12) (v := (.ref (r 11))) (C := R_Md) (T := F_Md) (N := 45) hx hb hg in_Md hown hK hP 2 rfl rfl 11 (by decide) (hg _ k_1031) (fun _ h9 => h9) rfl d_Md_isPassword_132 ?_
                  refine lv_iload hx hb d_Md_isPassword_135 (lv_at hl 1 rfl) ?_
                  refine lv_bipush (v := 16) hx hb d_Md_isPassword_137 (by decide) ?_
                  refine lv_irem hx hb d_Md_isPassword_139 (by decide) ?_
                  refine lv_topi (fun x278 e277 => ?_)
                  obtain rfl : x278 = nI (q9 % 16) := by rw [e277]; exact pk_rem (d := 16) (by omega) (by decide) (by decide)
                  refine va_iald hx hb hK hP 8 0 rfl rfl (i := (nI (q9 % 16))) (vp_in_nI (N := 16) (by omega) (by decide)) d_Md_isPassword_140 ?_
                  refine lv_topi (fun x279 e_x279 => ?_)
                  clear e_x279
                  refine lv_ixor hx hb d_Md_isPassword_141 ?_
                  refine lv_iload hx hb d_Md_isPassword_142 (lv_at hl 0 rfl) ?_
                  refine lv_icmp_ne (tgt := 151) hx hb d_Md_isPassword_144 (by decide) (fun hc280 => ?_) (fun hc280 => ?_)
                  · skip
                    refine lv_iconst (v := 0) hx hb d_Md_isPassword_151 (by decide) ?_
                    refine lv_istore (lv' := [(5, .int 0), (8, .int 0), (7, .int (nI q9)), (6, .int (nI i)), (4, .int (nI pn2)), (3, .int (nI (pa2 + 2))), (0, .ref mo), (1, .int (nI st)), (2, .int (nI us))]) hx hb d_Md_isPassword_152 hl (by decide) rfl (fun ls hl => ?_)
                    refine lv_iinc (k := 2) (v := nI (q9 + 1)) (lv' := [(7, .int (nI (q9 + 1))), (5, .int 0), (8, .int 0), (6, .int (nI i)), (4, .int (nI pn2)), (3, .int (nI (pa2 + 2))), (0, .ref mo), (1, .int (nI st)), (2, .int (nI us))]) hx hb d_Md_isPassword_154 hl rfl (nI_1 q9) (by decide) rfl (fun ls hl => ?_)
                    refine lv_goto (tgt := 75) hx hb d_Md_isPassword_157 (by decide) ?_
                    have hl := lv_sub hl [0, 3, 1, 4, 5, 6, 7, 8] (show _ = [(7, .int (nI (q9 + 1))), (6, .int (nI i)), (5, .int 0), (4, .int (nI pn2)), (3, .int (nI (pa2 + 2))), (0, .ref mo), (1, .int (nI st)), (2, .int (nI us))] from rfl)
                    exact ih (q9 + 1) _ _ _ _ (by omega) (Or.inl rfl) hP hD hS hl
                  · skip
                    refine lv_iconst (v := 1) hx hb d_Md_isPassword_147 (by decide) ?_
                    refine lv_goto (tgt := 152) hx hb d_Md_isPassword_148 (by decide) ?_
                    refine lv_istore (lv' := [(5, .int 1), (8, .int 0), (7, .int (nI q9)), (6, .int (nI i)), (4, .int (nI pn2)), (3, .int (nI (pa2 + 2))), (0, .ref mo), (1, .int (nI st)), (2, .int (nI us))]) hx hb d_Md_isPassword_152 hl (by decide) rfl (fun ls hl => ?_)
                    refine lv_iinc (k := 2) (v := nI (q9 + 1)) (lv' := [(7, .int (nI (q9 + 1))), (5, .int 1), (8, .int 0), (6, .int (nI i)), (4, .int (nI pn2)), (3, .int (nI (pa2 + 2))), (0, .ref mo), (1, .int (nI st)), (2, .int (nI us))]) hx hb d_Md_isPassword_154 hl rfl (nI_1 q9) (by decide) rfl (fun ls hl => ?_)
                    refine lv_goto (tgt := 75) hx hb d_Md_isPassword_157 (by decide) ?_
                    have hl := lv_sub hl [0, 3, 1, 4, 5, 6, 7, 8] (show _ = [(7, .int (nI (q9 + 1))), (6, .int (nI i)), (5, .int 1), (4, .int (nI pn2)), (3, .int (nI (pa2 + 2))), (0, .ref mo), (1, .int (nI st)), (2, .int (nI us))] from rfl)
                    exact ih (q9 + 1) _ _ _ _ (by omega) (Or.inr rfl) hP hD hS hl
              · skip
                have n272 : q9 < t227 := Nat.not_le.mp (fun h7 => hc270 ((nI_leI (a := t227) (b := q9) (by omega) (by omega)).mpr h7))
                refine lv_aload_n hx hb d_Md_isPassword_99 rfl (lv_at hl 5 rfl) ?_
                refine va_get (D := (dC, dI)) (ci := 12) (v := (.ref (r 5))) (C := R_Md) (T := F_Md) (N := 45) hx hb hg in_Md hown hK hP 2 rfl rfl 5 (by decide) (hg _ k_1025) (fun _ h9 => h9) rfl d_Md_isPassword_100 ?_
                refine lv_bipush (v := 60) hx hb d_Md_isPassword_103 (by decide) ?_
                refine lv_iload_n hx hb d_Md_isPassword_105 rfl (lv_at hl 7 rfl) ?_
                refine lv_imul hx hb d_Md_isPassword_106 ?_
                refine lv_topi (fun x282 e281 => ?_)
                obtain rfl : x282 = nI (60 * us) := by rw [e281]; exact pk_mul 60 us
                refine lv_iload hx hb d_Md_isPassword_107 (lv_at hl 0 rfl) ?_
                refine lv_iadd hx hb d_Md_isPassword_109 ?_
                refine lv_topi (fun x284 e283 => ?_)
                obtain rfl : x284 = nI ((60 * us) + q9) := by rw [e283]; exact nI_add (60 * us) q9
                refine va_iald hx hb hK hP 0 0 rfl rfl (i := (nI ((60 * us) + q9))) (vp_in_nI (N := 1920) (by omega) (by decide)) d_Md_isPassword_110 ?_
                refine lv_topi (fun x285 e_x285 => ?_)
                clear e_x285
                refine lv_goto (tgt := 115) hx hb d_Md_isPassword_111 (by decide) ?_
                refine lv_istore (lv' := [(8, .int x285), (7, .int (nI q9)), (6, .int (nI i)), (5, .int sm), (4, .int (nI pn2)), (3, .int (nI (pa2 + 2))), (0, .ref mo), (1, .int (nI st)), (2, .int (nI us))]) hx hb d_Md_isPassword_115 hl (by decide) rfl (fun ls hl => ?_)
                refine lv_iload hx hb d_Md_isPassword_117 (lv_at hl 3 rfl) ?_
                refine lv_if_eq (tgt := 151) hx hb d_Md_isPassword_119 (by decide) (fun hc286 => ?_) (fun hc286 => ?_)
                · skip
                  refine lv_iconst (v := 0) hx hb d_Md_isPassword_151 (by decide) ?_
                  refine lv_istore (lv' := [(5, .int 0), (8, .int x285), (7, .int (nI q9)), (6, .int (nI i)), (4, .int (nI pn2)), (3, .int (nI (pa2 + 2))), (0, .ref mo), (1, .int (nI st)), (2, .int (nI us))]) hx hb d_Md_isPassword_152 hl (by decide) rfl (fun ls hl => ?_)
                  refine lv_iinc (k := 2) (v := nI (q9 + 1)) (lv' := [(7, .int (nI (q9 + 1))), (5, .int 0), (8, .int x285), (6, .int (nI i)), (4, .int (nI pn2)), (3, .int (nI (pa2 + 2))), (0, .ref mo), (1, .int (nI st)), (2, .int (nI us))]) hx hb d_Md_isPassword_154 hl rfl (nI_1 q9) (by decide) rfl (fun ls hl => ?_)
                  refine lv_goto (tgt := 75) hx hb d_Md_isPassword_157 (by decide) ?_
                  have hl := lv_sub hl [0, 3, 1, 4, 5, 6, 7, 8] (show _ = [(7, .int (nI (q9 + 1))), (6, .int (nI i)), (5, .int 0), (4, .int (nI pn2)), (3, .int (nI (pa2 + 2))), (0, .ref mo), (1, .int (nI st)), (2, .int (nI us))] from rfl)
                  exact ih (q9 + 1) _ _ _ _ (by omega) (Or.inl rfl) hP hD hS hl
                · skip
                  refine lv_aload_n hx hb d_Md_isPassword_122 rfl (lv_at hl 6 rfl) ?_
                  refine va_get (D := (dC, dI)) (ci := 12) (v := (.ref (r 7))) (C := R_Md) (T := F_Md) (N := 45) hx hb hg in_Md hown hK hP 2 rfl rfl 7 (by decide) (hg _ k_1027) (fun _ h9 => h9) rfl d_Md_isPassword_123 ?_
                  refine lv_iload_n hx hb d_Md_isPassword_126 rfl (lv_at hl 5 rfl) ?_
                  refine lv_iload hx hb d_Md_isPassword_127 (lv_at hl 1 rfl) ?_
                  refine lv_iadd hx hb d_Md_isPassword_129 ?_
                  refine lv_topi (fun x288 e287 => ?_)
                  obtain rfl : x288 = nI (pa2 + 2 + q9) := by rw [e287]; exact nI_add (pa2 + 2) q9
                  refine va_iald hx hb hK hP 6 0 rfl rfl (i := (nI (pa2 + 2 + q9))) (vp_in_nI (N := 1000) (by omega) (by decide)) d_Md_isPassword_130 ?_
                  refine lv_topi (fun x289 e_x289 => ?_)
                  clear e_x289
                  refine lv_aload_n hx hb d_Md_isPassword_131 rfl (lv_at hl 6 rfl) ?_
                  refine va_get (D := (dC, dI)) (ci := 12) (v := (.ref (r 11))) (C := R_Md) (T := F_Md) (N := 45) hx hb hg in_Md hown hK hP 2 rfl rfl 11 (by decide) (hg _ k_1031) (fun _ h9 => h9) rfl d_Md_isPassword_132 ?_
                  refine lv_iload hx hb d_Md_isPassword_135 (lv_at hl 1 rfl) ?_
                  refine lv_bipush (v := 16) hx hb d_Md_isPassword_137 (by decide) ?_
                  refine lv_irem hx hb d_Md_isPassword_139 (by decide) ?_
                  refine lv_topi (fun x291 e290 => ?_)
                  obtain rfl : x291 = nI (q9 % 16) := by rw [e290]; exact pk_rem (d := 16) (by omega) (by decide) (by decide)
                  refine va_iald hx hb hK hP 8 0 rfl rfl (i := (nI (q9 % 16))) (vp_in_nI (N := 16) (by omega) (by decide)) d_Md_isPassword_140 ?_
                  refine lv_topi (fun x292 e_x292 => ?_)
                  clear e_x292
                  refine lv_ixor hx hb d_Md_isPassword_141 ?_
                  refine lv_iload hx hb d_Md_isPassword_142 (lv_at hl 0 rfl) ?_
                  refine lv_icmp_ne (tgt := 151) hx hb d_Md_isPassword_144 (by decide) (fun hc293 => ?_) (fun hc293 => ?_)
                  · skip
                    refine lv_iconst (v := 0) hx hb d_Md_isPassword_151 (by decide) ?_
                    refine lv_istore (lv' := [(5, .int 0), (8, .int x285), (7, .int (nI q9)), (6, .int (nI i)), (4, .int (nI pn2)), (3, .int (nI (pa2 + 2))), (0, .ref mo), (1, .int (nI st)), (2, .int (nI us))]) hx hb d_Md_isPassword_152 hl (by decide) rfl (fun ls hl => ?_)
                    refine lv_iinc (k := 2) (v := nI (q9 + 1)) (lv' := [(7, .int (nI (q9 + 1))), (5, .int 0), (8, .int x285), (6, .int (nI i)), (4, .int (nI pn2)), (3, .int (nI (pa2 + 2))), (0, .ref mo), (1, .int (nI st)), (2, .int (nI us))]) hx hb d_Md_isPassword_154 hl rfl (nI_1 q9) (by decide) rfl (fun ls hl => ?_)
                    refine lv_goto (tgt := 75) hx hb d_Md_isPassword_157 (by decide) ?_
                    have hl := lv_sub hl [0, 3, 1, 4, 5, 6, 7, 8] (show _ = [(7, .int (nI (q9 + 1))), (6, .int (nI i)), (5, .int 0), (4, .int (nI pn2)), (3, .int (nI (pa2 + 2))), (0, .ref mo), (1, .int (nI st)), (2, .int (nI us))] from rfl)
                    exact ih (q9 + 1) _ _ _ _ (by omega) (Or.inl rfl) hP hD hS hl
                  · skip
                    refine lv_iconst (v := 1) hx hb d_Md_isPassword_147 (by decide) ?_
                    refine lv_goto (tgt := 152) hx hb d_Md_isPassword_148 (by decide) ?_
                    refine lv_istore (lv' := [(5, .int 1), (8, .int x285), (7, .int (nI q9)), (6, .int (nI i)), (4, .int (nI pn2)), (3, .int (nI (pa2 + 2))), (0, .ref mo), (1, .int (nI st)), (2, .int (nI us))]) hx hb d_Md_isPassword_152 hl (by decide) rfl (fun ls hl => ?_)
                    refine lv_iinc (k := 2) (v := nI (q9 + 1)) (lv' := [(7, .int (nI (q9 + 1))), (5, .int 1), (8, .int x285), (6, .int (nI i)), (4, .int (nI pn2)), (3, .int (nI (pa2 + 2))), (0, .ref mo), (1, .int (nI st)), (2, .int (nI us))]) hx hb d_Md_isPassword_154 hl rfl (nI_1 q9) (by decide) rfl (fun ls hl => ?_)
                    refine lv_goto (tgt := 75) hx hb d_Md_isPassword_157 (by decide) ?_
                    have hl := lv_sub hl [0, 3, 1, 4, 5, 6, 7, 8] (show _ = [(7, .int (nI (q9 + 1))), (6, .int (nI i)), (5, .int 1), (4, .int (nI pn2)), (3, .int (nI (pa2 + 2))), (0, .ref mo), (1, .int (nI st)), (2, .int (nI us))] from rfl)
                    exact ih (q9 + 1) _ _ _ _ (by omega) (Or.inr rfl) hP hD hS hl
          refine L257 _ (fun sm H locs ls hsm hP hD hS hl => ?_) (16 * i + 16 - (16 * i)) (16 * i) sm H _ ls (by omega) (hsm) hP hD hS hl
          refine lv_iinc (k := 1) (v := nI (i + 1)) (lv' := [(6, .int (nI (i + 1))), (7, .int (nI (16 * i + 16))), (5, .int sm), (4, .int (nI pn2)), (3, .int (nI (pa2 + 2))), (0, .ref mo), (1, .int (nI st)), (2, .int (nI us))]) hx hb d_Md_isPassword_160 hl rfl (nI_1 i) (by decide) rfl (fun ls hl => ?_)
          refine lv_goto (tgt := 34) hx hb d_Md_isPassword_163 (by decide) ?_
          have hl := lv_sub hl [0, 2, 3, 4, 5, 6, 7] (show _ = [(6, .int (nI (i + 1))), (5, .int sm), (4, .int (nI pn2)), (3, .int (nI (pa2 + 2))), (0, .ref mo), (1, .int (nI st)), (2, .int (nI us))] from rfl)
          have hP := hP.sub (ws' := [(r 5, .inl ((cT 0), 1920, .inl f5)), (r 6, .inl ((cT 0), 32, .inl f6)), (r 9, .inl ((cT 0), 1400, .inl g9_251)), (r 3, .inl ((cT 0), 160, .inl f3)), (r 4, .inl ((cT 0), 4, .inl f4)), (r 0, .inl ((cT 1), 64, .inr (.inl f0))), (r 11, .inl ((cT 0), 16, .inl g11_252)), (mo, .inr (12, mdG r cd tm (nI sn) (nI 0) (nI lz) (nI az) (nI na) (nI nt) (nI nr) mw ml mk dq)), (r 7, .inl ((cT 0), 1000, .inl f7))]) [0, 1, 3, 4, 5, 7, 8, 2, 6] rfl
          have hD := hD.sub (ws' := [(r 5, .inl ((cT 0), 1920, .inl f5)), (r 6, .inl ((cT 0), 32, .inl f6)), (r 9, .inl ((cT 0), 1400, .inl g9_251)), (r 3, .inl ((cT 0), 160, .inl f3)), (r 4, .inl ((cT 0), 4, .inl f4)), (r 0, .inl ((cT 1), 64, .inr (.inl f0))), (r 11, .inl ((cT 0), 16, .inl g11_252)), (mo, .inr (12, mdG r cd tm (nI sn) (nI 0) (nI lz) (nI az) (nI na) (nI nt) (nI nr) mw ml mk dq)), (r 7, .inl ((cT 0), 1000, .inl f7))]) [0, 1, 3, 4, 5, 7, 8, 2, 6] (by decide) rfl
          exact ih (i + 1) _ _ _ _ _ _ (by omega) (hsm) (by first | assumption | omega) hP hD hS hl
        · skip
          have n244 : i = 0 := (nI_eq (a := i) (b := 0) (by omega) (by omega)).mp hc242
          refine lv_iconst (v := 4) hx hb d_Md_isPassword_51 (by decide) ?_
          refine lv_goto (tgt := 65) hx hb d_Md_isPassword_52 (by decide) ?_
          refine lv_topi (fun x295 e294 => ?_)
          obtain rfl : x295 = nI 4 := by rw [e294]; rfl
          have hPc := hP.sub (ws' := [(mo, .inr (12, mdG r cd tm (nI sn) (nI 0) (nI lz) (nI az) (nI na) (nI nt) (nI nr) mw ml mk dq)), (r 9, .inl ((cT 0), 1400, .inl g9_233)), (r 3, .inl ((cT 0), 160, .inl f3)), (r 4, .inl ((cT 0), 4, .inl f4)), (r 7, .inl ((cT 0), 1000, .inl f7)), (r 0, .inl ((cT 1), 64, .inr (.inl f0))), (r 11, .inl ((cT 0), 16, .inl g11_234))]) [7, 2, 3, 4, 8, 5, 6] rfl
          have hDc := hD.sub (ws' := [(mo, .inr (12, mdG r cd tm (nI sn) (nI 0) (nI lz) (nI az) (nI na) (nI nt) (nI nr) mw ml mk dq)), (r 9, .inl ((cT 0), 1400, .inl g9_233)), (r 3, .inl ((cT 0), 160, .inl f3)), (r 4, .inl ((cT 0), 4, .inl f4)), (r 7, .inl ((cT 0), 1000, .inl f7)), (r 0, .inl ((cT 1), 64, .inr (.inl f0))), (r 11, .inl ((cT 0), 16, .inl g11_234))]) [7, 2, 3, 4, 8, 5, 6] (by decide) rfl
          have hFc := va_free (wc := [(mo, .inr (12, mdG r cd tm (nI sn) (nI 0) (nI lz) (nI az) (nI na) (nI nt) (nI nr) mw ml mk dq)), (r 9, .inl ((cT 0), 1400, .inl g9_233)), (r 3, .inl ((cT 0), 160, .inl f3)), (r 4, .inl ((cT 0), 4, .inl f4)), (r 7, .inl ((cT 0), 1000, .inl f7)), (r 0, .inl ((cT 1), 64, .inr (.inl f0))), (r 11, .inl ((cT 0), 16, .inl g11_234))]) hD hS hA [7, 2, 3, 4, 8, 5, 6] rfl
          refine va_callv (va_runV (C := "DoorServerModel") (As := [.int (nI st), .int (nI 4)]) (rest := []) ⟨hx, hb, hml, hown, hg⟩ (m_cover l dC dI cT H.size mo r cd tm sn 0 lz az na nt nr mw ml mk dq g9_233 f3 f4 f7 f0 g11_234 st sl 4 (by first | assumption | omega) (by first | assumption | omega) (by first | assumption | omega) (by first | assumption | omega) (by first | assumption | omega) (by first | assumption | omega)) (cwV 2 hg (gI (List.forall_mem_append.mpr ⟨List.forall_mem_cons.mpr ⟨k_1212, List.forall_mem_cons.mpr ⟨k_1214, List.forall_mem_cons.mpr ⟨(big_sel (q := y_Md_cover) (n := 45) (by decide +kernel)), List.forall_mem_cons.mpr ⟨k_13, fun _ h => absurd h List.not_mem_nil⟩⟩⟩⟩, List.forall_mem_cons.mpr ⟨k_1215, fun _ h => h⟩⟩)) rfl rfl rfl (by decide +kernel) ⟨Nat.le_of_ble_eq_true rfl, Nat.le_of_ble_eq_true rfl⟩) ⟨fun a U g mk q => by obtain ⟨q0, q1, qP, qK, qD⟩ := q; exact ⟨q0, q1, qP, va_K.moved (u := U) (U := U.calling g mk a) (Vm.Alike.refl U.vm) qK, qD⟩, va_recv (q0 := 7) (ci := 12) hK hP rfl rfl, fun U hU hW => ⟨rfl, by rw [hU], by rw [hU]; exact hPc, va_K.moved hW.alike hK, hDc.weaken (fun _ _ _ _ => trivial)⟩⟩ rfl rfl hl.1 rfl (lv_room (Nat.le_of_ble_eq_true rfl)) d_Md_isPassword_65 ⟨Nat.le_of_ble_eq_true rfl, Nat.le_of_ble_eq_true rfl⟩) hS (fun q _ h => hFc q h) hFc (fun u t H1 locs ht hvm hw hB hz1 hk1 hS => ?_)
          obtain ⟨g9_296, g11_297⟩ := u
          try dsimp only at hw hB
          obtain ⟨hP1, hK1, hD1⟩ := hB
          rw [ht] at hP1
          obtain ⟨hP, hD⟩ := va_join (wr := [(r 5, .inl ((cT 0), 1920, .inl f5)), (r 6, .inl ((cT 0), 32, .inl f6))]) (w1 := [(mo, .inr (12, mdG r cd tm (nI sn) (nI 0) (nI lz) (nI az) (nI na) (nI nt) (nI nr) mw ml mk dq)), (r 9, .inl ((cT 0), 1400, .inl g9_296)), (r 3, .inl ((cT 0), 160, .inl f3)), (r 4, .inl ((cT 0), 4, .inl f4)), (r 7, .inl ((cT 0), 1000, .inl f7)), (r 0, .inl ((cT 1), 64, .inr (.inl f0))), (r 11, .inl ((cT 0), 16, .inl g11_297))]) hP hD [7, 2, 3, 4, 8, 5, 6] [0, 1] rfl rfl (by decide) (by decide) hk1 hFc hP1 hD1
          have hw298 := hw
          clear hPc hDc hFc hz1 hk1 hP1 hK1 hD1
          generalize H1 = H at hP hS ⊢
          have hP : va_P (dC, dI) vcl [(r 5, .inl ((cT 0), 1920, .inl f5)), (r 6, .inl ((cT 0), 32, .inl f6)), (mo, .inr (12, mdG r cd tm (nI sn) (nI 0) (nI lz) (nI az) (nI na) (nI nt) (nI nr) mw ml mk dq)), (r 9, .inl ((cT 0), 1400, .inl g9_296)), (r 3, .inl ((cT 0), 160, .inl f3)), (r 4, .inl ((cT 0), 4, .inl f4)), (r 7, .inl ((cT 0), 1000, .inl f7)), (r 0, .inl ((cT 1), 64, .inr (.inl f0))), (r 11, .inl ((cT 0), 16, .inl g11_297))] H := hP
          have hD : va_D A [(r 5, .inl ((cT 0), 1920, .inl f5)), (r 6, .inl ((cT 0), 32, .inl f6)), (mo, .inr (12, mdG r cd tm (nI sn) (nI 0) (nI lz) (nI az) (nI na) (nI nt) (nI nr) mw ml mk dq)), (r 9, .inl ((cT 0), 1400, .inl g9_296)), (r 3, .inl ((cT 0), 160, .inl f3)), (r 4, .inl ((cT 0), 4, .inl f4)), (r 7, .inl ((cT 0), 1000, .inl f7)), (r 0, .inl ((cT 1), 64, .inr (.inl f0))), (r 11, .inl ((cT 0), 16, .inl g11_297))] := hD
          have k299 := hw298
          refine lv_bipush (v := 16) hx hb d_Md_isPassword_68 (by decide) ?_
          refine lv_iload hx hb d_Md_isPassword_70 (lv_at hl 0 rfl) ?_
          refine lv_imul hx hb d_Md_isPassword_72 ?_
          refine lv_topi (fun x301 e300 => ?_)
          obtain rfl : x301 = nI (16 * i) := by rw [e300]; exact pk_mul 16 i
          refine lv_istore (lv' := [(7, .int (nI (16 * i))), (6, .int (nI i)), (5, .int sm), (4, .int (nI pn2)), (3, .int (nI (pa2 + 2))), (0, .ref mo), (1, .int (nI st)), (2, .int (nI us))]) hx hb d_Md_isPassword_73 hl (by decide) rfl (fun ls hl => ?_)
          have hl := lv_sub hl [0, 1, 2, 3, 4, 5, 6, 7] (show _ = [(7, .int (nI (16 * i))), (6, .int (nI i)), (5, .int sm), (4, .int (nI pn2)), (3, .int (nI (pa2 + 2))), (0, .ref mo), (1, .int (nI st)), (2, .int (nI us))] from rfl)
          have L302 : ∀ (Q : State → Prop) (exit : ∀ (sm : Int32) (H : Heap) (locs : List Loc) (ls : Array Slot), (sm = 0 ∨ sm = 1) → va_P (dC, dI) vcl [(r 5, .inl ((cT 0), 1920, .inl f5)), (r 6, .inl ((cT 0), 32, .inl f6)), (mo, .inr (12, mdG r cd tm (nI sn) (nI 0) (nI lz) (nI az) (nI na) (nI nt) (nI nr) mw ml mk dq)), (r 9, .inl ((cT 0), 1400, .inl g9_296)), (r 3, .inl ((cT 0), 160, .inl f3)), (r 4, .inl ((cT 0), 4, .inl f4)), (r 7, .inl ((cT 0), 1000, .inl f7)), (r 0, .inl ((cT 1), 64, .inr (.inl f0))), (r 11, .inl ((cT 0), 16, .inl g11_297))] H → va_D A [(r 5, .inl ((cT 0), 1920, .inl f5)), (r 6, .inl ((cT 0), 32, .inl f6)), (mo, .inr (12, mdG r cd tm (nI sn) (nI 0) (nI lz) (nI az) (nI na) (nI nt) (nI nr) mw ml mk dq)), (r 9, .inl ((cT 0), 1400, .inl g9_296)), (r 3, .inl ((cT 0), 160, .inl f3)), (r 4, .inl ((cT 0), 4, .inl f4)), (r 7, .inl ((cT 0), 1000, .inl f7)), (r 0, .inl ((cT 1), 64, .inr (.inl f0))), (r 11, .inl ((cT 0), 16, .inl g11_297))] → va_S A s.heap H locs → lv_has ls 9 [(7, .int (nI (16 * i + 16))), (6, .int (nI i)), (5, .int sm), (4, .int (nI pn2)), (3, .int (nI (pa2 + 2))), (0, .ref mo), (1, .int (nI st)), (2, .int (nI us))] → W p l e ({ frames := 3, cells := 0, slots := 0, locals := 92 } : Room) s m args below meth c H locs 0 0 Q (F0 m 160 ls [])) (j8 q9 : Nat) (sm : Int32) (H : Heap) (locs : List Loc) (ls : Array Slot), q9 + j8 = 16 * i + 16 → (sm = 0 ∨ sm = 1) → va_P (dC, dI) vcl [(r 5, .inl ((cT 0), 1920, .inl f5)), (r 6, .inl ((cT 0), 32, .inl f6)), (mo, .inr (12, mdG r cd tm (nI sn) (nI 0) (nI lz) (nI az) (nI na) (nI nt) (nI nr) mw ml mk dq)), (r 9, .inl ((cT 0), 1400, .inl g9_296)), (r 3, .inl ((cT 0), 160, .inl f3)), (r 4, .inl ((cT 0), 4, .inl f4)), (r 7, .inl ((cT 0), 1000, .inl f7)), (r 0, .inl ((cT 1), 64, .inr (.inl f0))), (r 11, .inl ((cT 0), 16, .inl g11_297))] H → va_D A [(r 5, .inl ((cT 0), 1920, .inl f5)), (r 6, .inl ((cT 0), 32, .inl f6)), (mo, .inr (12, mdG r cd tm (nI sn) (nI 0) (nI lz) (nI az) (nI na) (nI nt) (nI nr) mw ml mk dq)), (r 9, .inl ((cT 0), 1400, .inl g9_296)), (r 3, .inl ((cT 0), 160, .inl f3)), (r 4, .inl ((cT 0), 4, .inl f4)), (r 7, .inl ((cT 0), 1000, .inl f7)), (r 0, .inl ((cT 1), 64, .inr (.inl f0))), (r 11, .inl ((cT 0), 16, .inl g11_297))] → va_S A s.heap H locs → lv_has ls 9 [(7, .int (nI q9)), (6, .int (nI i)), (5, .int sm), (4, .int (nI pn2)), (3, .int (nI (pa2 + 2))), (0, .ref mo), (1, .int (nI st)), (2, .int (nI us))] → W p l e ({ frames := 3, cells := 0, slots := 0, locals := 92 } : Room) s m args below meth c H locs 0 0 Q (F0 m 75 ls []) := by
            intro Q exit j8
            induction j8 with
            | zero => 
              intro q9 sm H locs ls hij hsm hP hD hS hl
              have hij : 16 * i + 16 = q9 := by omega
              refine lv_iload hx hb d_Md_isPassword_75 (lv_at hl 0 rfl) ?_
              refine lv_bipush (v := 16) hx hb d_Md_isPassword_77 (by decide) ?_
              refine lv_iload hx hb d_Md_isPassword_79 (lv_at hl 1 rfl) ?_
              refine lv_imul hx hb d_Md_isPassword_81 ?_
              refine lv_topi (fun x304 e303 => ?_)
              obtain rfl : x304 = nI (16 * i) := by rw [e303]; exact pk_mul 16 i
              refine lv_bipush (v := 16) hx hb d_Md_isPassword_82 (by decide) ?_
              refine lv_iadd hx hb d_Md_isPassword_84 ?_
              refine lv_topi (fun x306 e305 => ?_)
              obtain rfl : x306 = nI ((16 * i) + 16) := by rw [e305]; exact nI_add (16 * i) 16
              refine lv_icmp_ge (tgt := 160) hx hb d_Md_isPassword_85 (by decide) (fun hc307 => ?_) (fun hn9 => absurd (nI_le (by omega) (by omega)) hn9)
              subst hij
              exact exit sm _ _ _ hsm hP hD hS hl
            | succ j8 ih => 
              intro q9 sm H locs ls hij hsm hP hD hS hl
              have hlt : q9 < 16 * i + 16 := by omega
              have hltq9 := hlt
              refine lv_iload hx hb d_Md_isPassword_75 (lv_at hl 0 rfl) ?_
              refine lv_bipush (v := 16) hx hb d_Md_isPassword_77 (by decide) ?_
              refine lv_iload hx hb d_Md_isPassword_79 (lv_at hl 1 rfl) ?_
              refine lv_imul hx hb d_Md_isPassword_81 ?_
              refine lv_topi (fun x309 e308 => ?_)
              obtain rfl : x309 = nI (16 * i) := by rw [e308]; exact pk_mul 16 i
              refine lv_bipush (v := 16) hx hb d_Md_isPassword_82 (by decide) ?_
              refine lv_iadd hx hb d_Md_isPassword_84 ?_
              refine lv_topi (fun x311 e310 => ?_)
              obtain rfl : x311 = nI ((16 * i) + 16) := by rw [e310]; exact nI_add (16 * i) 16
              refine lv_icmp_ge (tgt := 160) hx hb d_Md_isPassword_85 (by decide) (fun hn9 => absurd hn9 (nI_ge (by omega) (by omega))) (fun hc312 => ?_)
              refine lv_iload hx hb d_Md_isPassword_88 (lv_at hl 0 rfl) ?_
              refine lv_aload_n hx hb d_Md_isPassword_90 rfl (lv_at hl 5 rfl) ?_
              refine va_get (D := (dC, dI)) (ci := 12) (v := (.ref (r 6))) (C := R_Md) (T := F_Md) (N := 45) hx hb hg in_Md hown hK hP 2 rfl rfl 6 (by decide) (hg _ k_1026) (fun _ h9 => h9) rfl d_Md_isPassword_91 ?_
              refine lv_iload_n hx hb d_Md_isPassword_94 rfl (lv_at hl 7 rfl) ?_
              refine va_iald hx hb hK hP 1 0 rfl rfl (i := (nI us)) (vp_in_nI (N := 32) (by omega) (by decide)) d_Md_isPassword_95 ?_
              refine lv_topi (fun x314 e313 => ?_)
              obtain rfl : x314 = nI t227 := by rw [e313]; rw [nI_clamp (by omega)]; exact xt227
              refine lv_icmp_ge (tgt := 114) hx hb d_Md_isPassword_96 (by decide) (fun hc315 => ?_) (fun hc315 => ?_)
              · skip
                have n316 : t227 ≤ q9 := (nI_leI (a := t227) (b := q9) (by omega) (by omega)).mp hc315
                refine lv_iconst (v := 0) hx hb d_Md_isPassword_114 (by decide) ?_
                refine lv_istore (lv' := [(8, .int 0), (7, .int (nI q9)), (6, .int (nI i)), (5, .int sm), (4, .int (nI pn2)), (3, .int (nI (pa2 + 2))), (0, .ref mo), (1, .int (nI st)), (2, .int (nI us))]) hx hb d_Md_isPassword_115 hl (by decide) rfl (fun ls hl => ?_)
                refine lv_iload hx hb d_Md_isPassword_117 (lv_at hl 3 rfl) ?_
                refine lv_if_eq (tgt := 151) hx hb d_Md_isPassword_119 (by decide) (fun hc318 => ?_) (fun hc318 => ?_)
                · skip
                  refine lv_iconst (v := 0) hx hb d_Md_isPassword_151 (by decide) ?_
                  refine lv_istore (lv' := [(5, .int 0), (8, .int 0), (7, .int (nI q9)), (6, .int (nI i)), (4, .int (nI pn2)), (3, .int (nI (pa2 + 2))), (0, .ref mo), (1, .int (nI st)), (2, .int (nI us))]) hx hb d_Md_isPassword_152 hl (by decide) rfl (fun ls hl => ?_)
                  refine lv_iinc (k := 2) (v := nI (q9 + 1)) (lv' := [(7, .int (nI (q9 + 1))), (5, .int 0), (8, .int 0), (6, .int (nI i)), (4, .int (nI pn2)), (3, .int (nI (pa2 + 2))), (0, .ref mo), (1, .int (nI st)), (2, .int (nI us))]) hx hb d_Md_isPassword_154 hl rfl (nI_1 q9) (by decide) rfl (fun ls hl => ?_)
                  refine lv_goto (tgt := 75) hx hb d_Md_isPassword_157 (by decide) ?_
                  have hl := lv_sub hl [0, 3, 1, 4, 5, 6, 7, 8] (show _ = [(7, .int (nI (q9 + 1))), (6, .int (nI i)), (5, .int 0), (4, .int (nI pn2)), (3, .int (nI (pa2 + 2))), (0, .ref mo), (1, .int (nI st)), (2, .int (nI us))] from rfl)
                  exact ih (q9 + 1) _ _ _ _ (by omega) (Or.inl rfl) hP hD hS hl
                · skip
                  refine lv_aload_n hx hb d_Md_isPassword_122 rfl (lv_at hl 6 rfl) ?_
                  refine va_get (D := (dC, dI)) (ci := 12) (v := (.ref (r 7))) (C := R_Md) (T := F_Md) (N := 45) hx hb hg in_Md hown hK hP 2 rfl rfl 7 (by decide) (hg _ k_1027) (fun _ h9 => h9) rfl d_Md_isPassword_123 ?_
                  refine lv_iload_n hx hb d_Md_isPassword_126 rfl (lv_at hl 5 rfl) ?_
                  refine lv_iload hx hb d_Md_isPassword_127 (lv_at hl 1 rfl) ?_
                  refine lv_iadd hx hb d_Md_isPassword_129 ?_
                  refine lv_topi (fun x320 e319 => ?_)
                  obtain rfl : x320 = nI (pa2 + 2 + q9) := by rw [e319]; exact nI_add (pa2 + 2) q9
                  refine va_iald hx hb hK hP 6 0 rfl rfl (i := (nI (pa2 + 2 + q9))) (vp_in_nI (N := 1000) (by omega) (by decide)) d_Md_isPassword_130 ?_
                  refine lv_topi (fun x321 e_x321 => ?_)
                  clear e_x321
                  refine lv_aload_n hx hb d_Md_isPassword_131 rfl (lv_at hl 6 rfl) ?_
                  refine va_get (D := (dC, dI)) (ci := 12) (v := (.ref (r 11))) (C := R_Md) (T := F_Md) (N := 45) hx hb hg in_Md hown hK hP 2 rfl rfl 11 (by decide) (hg _ k_1031) (fun _ h9 => h9) rfl d_Md_isPassword_132 ?_
                  refine lv_iload hx hb d_Md_isPassword_135 (lv_at hl 1 rfl) ?_
                  refine lv_bipush (v := 16) hx hb d_Md_isPassword_137 (by decide) ?_
                  refine lv_irem hx hb d_Md_isPassword_139 (by decide) ?_
                  refine lv_topi (fun x323 e322 => ?_)
                  obtain rfl : x323 = nI (q9 % 16) := by rw [e322]; exact pk_rem (d := 16) (by omega) (by decide) (by decide)
                  refine va_iald hx hb hK hP 8 0 rfl rfl (i := (nI (q9 % 16))) (vp_in_nI (N := 16) (by omega) (by decide)) d_Md_isPassword_140 ?_
                  refine lv_topi (fun x324 e_x324 => ?_)
                  clear e_x324
                  refine lv_ixor hx hb d_Md_isPassword_141 ?_
                  refine lv_iload hx hb d_Md_isPassword_142 (lv_at hl 0 rfl) ?_
                  refine lv_icmp_ne (tgt := 151) hx hb d_Md_isPassword_144 (by decide) (fun hc325 => ?_) (fun hc325 => ?_)
                  · skip
                    refine lv_iconst (v := 0) hx hb d_Md_isPassword_151 (by decide) ?_
                    refine lv_istore (lv' := [(5, .int 0), (8, .int 0), (7, .int (nI q9)), (6, .int (nI i)), (4, .int (nI pn2)), (3, .int (nI (pa2 + 2))), (0, .ref mo), (1, .int (nI st)), (2, .int (nI us))]) hx hb d_Md_isPassword_152 hl (by decide) rfl (fun ls hl => ?_)
                    refine lv_iinc (k := 2) (v := nI (q9 + 1)) (lv' := [(7, .int (nI (q9 + 1))), (5, .int 0), (8, .int 0), (6, .int (nI i)), (4, .int (nI pn2)), (3, .int (nI (pa2 + 2))), (0, .ref mo), (1, .int (nI st)), (2, .int (nI us))]) hx hb d_Md_isPassword_154 hl rfl (nI_1 q9) (by decide) rfl (fun ls hl => ?_)
                    refine lv_goto (tgt := 75) hx hb d_Md_isPassword_157 (by decide) ?_
                    have hl := lv_sub hl [0, 3, 1, 4, 5, 6, 7, 8] (show _ = [(7, .int (nI (q9 + 1))), (6, .int (nI i)), (5, .int 0), (4, .int (nI pn2)), (3, .int (nI (pa2 + 2))), (0, .ref mo), (1, .int (nI st)), (2, .int (nI us))] from rfl)
                    exact ih (q9 + 1) _ _ _ _ (by omega) (Or.inl rfl) hP hD hS hl
                  · skip
                    refine lv_iconst (v := 1) hx hb d_Md_isPassword_147 (by decide) ?_
                    refine lv_goto (tgt := 152) hx hb d_Md_isPassword_148 (by decide) ?_
                    refine lv_istore (lv' := [(5, .int 1), (8, .int 0), (7, .int (nI q9)), (6, .int (nI i)), (4, .int (nI pn2)), (3, .int (nI (pa2 + 2))), (0, .ref mo), (1, .int (nI st)), (2, .int (nI us))]) hx hb d_Md_isPassword_152 hl (by decide) rfl (fun ls hl => ?_)
                    refine lv_iinc (k := 2) (v := nI (q9 + 1)) (lv' := [(7, .int (nI (q9 + 1))), (5, .int 1), (8, .int 0), (6, .int (nI i)), (4, .int (nI pn2)), (3, .int (nI (pa2 + 2))), (0, .ref mo), (1, .int (nI st)), (2, .int (nI us))]) hx hb d_Md_isPassword_154 hl rfl (nI_1 q9) (by decide) rfl (fun ls hl => ?_)
                    refine lv_goto (tgt := 75) hx hb d_Md_isPassword_157 (by decide) ?_
                    have hl := lv_sub hl [0, 3, 1, 4, 5, 6, 7, 8] (show _ = [(7, .int (nI (q9 + 1))), (6, .int (nI i)), (5, .int 1), (4, .int (nI pn2)), (3, .int (nI (pa2 + 2))), (0, .ref mo), (1, .int (nI st)), (2, .int (nI us))] from rfl)
                    exact ih (q9 + 1) _ _ _ _ (by omega) (Or.inr rfl) hP hD hS hl
              · skip
                have n317 : q9 < t227 := Nat.not_le.mp (fun h7 => hc315 ((nI_leI (a := t227) (b := q9) (by omega) (by omega)).mpr h7))
                refine lv_aload_n hx hb d_Md_isPassword_99 rfl (lv_at hl 5 rfl) ?_
                refine va_get (D := (dC, dI)) (ci := 12) (v := (.ref (r 5))) (C := R_Md) (T := F_Md) (N := 45) hx hb hg in_Md hown hK hP 2 rfl rfl 5 (by decide) (hg _ k_1025) (fun _ h9 => h9) rfl d_Md_isPassword_100 ?_
                refine lv_bipush (v := 60) hx hb d_Md_isPassword_103 (by decide) ?_
                refine lv_iload_n hx hb d_Md_isPassword_105 rfl (lv_at hl 7 rfl) ?_
                refine lv_imul hx hb d_Md_isPassword_106 ?_
                refine lv_topi (fun x327 e326 => ?_)
                obtain rfl : x327 = nI (60 * us) := by rw [e326]; exact pk_mul 60 us
                refine lv_iload hx hb d_Md_isPassword_107 (lv_at hl 0 rfl) ?_
                refine lv_iadd hx hb d_Md_isPassword_109 ?_
                refine lv_topi (fun x329 e328 => ?_)
                obtain rfl : x329 = nI ((60 * us) + q9) := by rw [e328]; exact nI_add (60 * us) q9
                refine va_iald hx hb hK hP 0 0 rfl rfl (i := (nI ((60 * us) + q9))) (vp_in_nI (N := 1920) (by omega) (by decide)) d_Md_isPassword_110 ?_
                refine lv_topi (fun x330 e_x330 => ?_)
                clear e_x330
                refine lv_goto (tgt := 115) hx hb d_Md_isPassword_111 (by decide) ?_
                refine lv_istore (lv' := [(8, .int x330), (7, .int (nI q9)), (6, .int (nI i)), (5, .int sm), (4, .int (nI pn2)), (3, .int (nI (pa2 + 2))), (0, .ref mo), (1, .int (nI st)), (2, .int (nI us))]) hx hb d_Md_isPassword_115 hl (by decide) rfl (fun ls hl => ?_)
                refine lv_iload hx hb d_Md_isPassword_117 (lv_at hl 3 rfl) ?_
                refine lv_if_eq (tgt := 151) hx hb d_Md_isPassword_119 (by decide) (fun hc331 => ?_) (fun hc331 => ?_)
                · skip
                  refine lv_iconst (v := 0) hx hb d_Md_isPassword_151 (by decide) ?_
                  refine lv_istore (lv' := [(5, .int 0), (8, .int x330), (7, .int (nI q9)), (6, .int (nI i)), (4, .int (nI pn2)), (3, .int (nI (pa2 + 2))), (0, .ref mo), (1, .int (nI st)), (2, .int (nI us))]) hx hb d_Md_isPassword_152 hl (by decide) rfl (fun ls hl => ?_)
                  refine lv_iinc (k := 2) (v := nI (q9 + 1)) (lv' := [(7, .int (nI (q9 + 1))), (5, .int 0), (8, .int x330), (6, .int (nI i)), (4, .int (nI pn2)), (3, .int (nI (pa2 + 2))), (0, .ref mo), (1, .int (nI st)), (2, .int (nI us))]) hx hb d_Md_isPassword_154 hl rfl (nI_1 q9) (by decide) rfl (fun ls hl => ?_)
                  refine lv_goto (tgt := 75) hx hb d_Md_isPassword_157 (by decide) ?_
                  have hl := lv_sub hl [0, 3, 1, 4, 5, 6, 7, 8] (show _ = [(7, .int (nI (q9 + 1))), (6, .int (nI i)), (5, .int 0), (4, .int (nI pn2)), (3, .int (nI (pa2 + 2))), (0, .ref mo), (1, .int (nI st)), (2, .int (nI us))] from rfl)
                  exact ih (q9 + 1) _ _ _ _ (by omega) (Or.inl rfl) hP hD hS hl
                · skip
                  refine lv_aload_n hx hb d_Md_isPassword_122 rfl (lv_at hl 6 rfl) ?_
                  refine va_get (D := (dC, dI)) (ci := 12) (v := (.ref (r 7))) (C := R_Md) (T := F_Md) (N := 45) hx hb hg in_Md hown hK hP 2 rfl rfl 7 (by decide) (hg _ k_1027) (fun _ h9 => h9) rfl d_Md_isPassword_123 ?_
                  refine lv_iload_n hx hb d_Md_isPassword_126 rfl (lv_at hl 5 rfl) ?_
                  refine lv_iload hx hb d_Md_isPassword_127 (lv_at hl 1 rfl) ?_
                  refine lv_iadd hx hb d_Md_isPassword_129 ?_
                  refine lv_topi (fun x333 e332 => ?_)
                  obtain rfl : x333 = nI (pa2 + 2 + q9) := by rw [e332]; exact nI_add (pa2 + 2) q9
                  refine va_iald hx hb hK hP 6 0 rfl rfl (i := (nI (pa2 + 2 + q9))) (vp_in_nI (N := 1000) (by omega) (by decide)) d_Md_isPassword_130 ?_
                  refine lv_topi (fun x334 e_x334 => ?_)
                  clear e_x334
                  refine lv_aload_n hx hb d_Md_isPassword_131 rfl (lv_at hl 6 rfl) ?_
                  refine va_get (D := (dC, dI)) (ci := 12) (v := (.ref (r 11))) (C := R_Md) (T := F_Md) (N := 45) hx hb hg in_Md hown hK hP 2 rfl rfl 11 (by decide) (hg _ k_1031) (fun _ h9 => h9) rfl d_Md_isPassword_132 ?_
                  refine lv_iload hx hb d_Md_isPassword_135 (lv_at hl 1 rfl) ?_
                  refine lv_bipush (v := 16) hx hb d_Md_isPassword_137 (by decide) ?_
                  refine lv_irem hx hb d_Md_isPassword_139 (by decide) ?_
                  refine lv_topi (fun x336 e335 => ?_)
                  obtain rfl : x336 = nI (q9 % 16) := by rw [e335]; exact pk_rem (d := 16) (by omega) (by decide) (by decide)
                  refine va_iald hx hb hK hP 8 0 rfl rfl (i := (nI (q9 % 16))) (vp_in_nI (N := 16) (by omega) (by decide)) d_Md_isPassword_140 ?_
                  refine lv_topi (fun x337 e_x337 => ?_)
                  clear e_x337
                  refine lv_ixor hx hb d_Md_isPassword_141 ?_
                  refine lv_iload hx hb d_Md_isPassword_142 (lv_at hl 0 rfl) ?_
                  refine lv_icmp_ne (tgt := 151) hx hb d_Md_isPassword_144 (by decide) (fun hc338 => ?_) (fun hc338 => ?_)
                  · skip
                    refine lv_iconst (v := 0) hx hb d_Md_isPassword_151 (by decide) ?_
                    refine lv_istore (lv' := [(5, .int 0), (8, .int x330), (7, .int (nI q9)), (6, .int (nI i)), (4, .int (nI pn2)), (3, .int (nI (pa2 + 2))), (0, .ref mo), (1, .int (nI st)), (2, .int (nI us))]) hx hb d_Md_isPassword_152 hl (by decide) rfl (fun ls hl => ?_)
                    refine lv_iinc (k := 2) (v := nI (q9 + 1)) (lv' := [(7, .int (nI (q9 + 1))), (5, .int 0), (8, .int x330), (6, .int (nI i)), (4, .int (nI pn2)), (3, .int (nI (pa2 + 2))), (0, .ref mo), (1, .int (nI st)), (2, .int (nI us))]) hx hb d_Md_isPassword_154 hl rfl (nI_1 q9) (by decide) rfl (fun ls hl => ?_)
                    refine lv_goto (tgt := 75) hx hb d_Md_isPassword_157 (by decide) ?_
                    have hl := lv_sub hl [0, 3, 1, 4, 5, 6, 7, 8] (show _ = [(7, .int (nI (q9 + 1))), (6, .int (nI i)), (5, .int 0), (4, .int (nI pn2)), (3, .int (nI (pa2 + 2))), (0, .ref mo), (1, .int (nI st)), (2, .int (nI us))] from rfl)
                    exact ih (q9 + 1) _ _ _ _ (by omega) (Or.inl rfl) hP hD hS hl
                  · skip
                    refine lv_iconst (v := 1) hx hb d_Md_isPassword_147 (by decide) ?_
                    refine lv_goto (tgt := 152) hx hb d_Md_isPassword_148 (by decide) ?_
                    refine lv_istore (lv' := [(5, .int 1), (8, .int x330), (7, .int (nI q9)), (6, .int (nI i)), (4, .int (nI pn2)), (3, .int (nI (pa2 + 2))), (0, .ref mo), (1, .int (nI st)), (2, .int (nI us))]) hx hb d_Md_isPassword_152 hl (by decide) rfl (fun ls hl => ?_)
                    refine lv_iinc (k := 2) (v := nI (q9 + 1)) (lv' := [(7, .int (nI (q9 + 1))), (5, .int 1), (8, .int x330), (6, .int (nI i)), (4, .int (nI pn2)), (3, .int (nI (pa2 + 2))), (0, .ref mo), (1, .int (nI st)), (2, .int (nI us))]) hx hb d_Md_isPassword_154 hl rfl (nI_1 q9) (by decide) rfl (fun ls hl => ?_)
                    refine lv_goto (tgt := 75) hx hb d_Md_isPassword_157 (by decide) ?_
                    have hl := lv_sub hl [0, 3, 1, 4, 5, 6, 7, 8] (show _ = [(7, .int (nI (q9 + 1))), (6, .int (nI i)), (5, .int 1), (4, .int (nI pn2)), (3, .int (nI (pa2 + 2))), (0, .ref mo), (1, .int (nI st)), (2, .int (nI us))] from rfl)
                    exact ih (q9 + 1) _ _ _ _ (by omega) (Or.inr rfl) hP hD hS hl
          refine L302 _ (fun sm H locs ls hsm hP hD hS hl => ?_) (16 * i + 16 - (16 * i)) (16 * i) sm H _ ls (by omega) (hsm) hP hD hS hl
          refine lv_iinc (k := 1) (v := nI (i + 1)) (lv' := [(6, .int (nI (i + 1))), (7, .int (nI (16 * i + 16))), (5, .int sm), (4, .int (nI pn2)), (3, .int (nI (pa2 + 2))), (0, .ref mo), (1, .int (nI st)), (2, .int (nI us))]) hx hb d_Md_isPassword_160 hl rfl (nI_1 i) (by decide) rfl (fun ls hl => ?_)
          refine lv_goto (tgt := 34) hx hb d_Md_isPassword_163 (by decide) ?_
          have hl := lv_sub hl [0, 2, 3, 4, 5, 6, 7] (show _ = [(6, .int (nI (i + 1))), (5, .int sm), (4, .int (nI pn2)), (3, .int (nI (pa2 + 2))), (0, .ref mo), (1, .int (nI st)), (2, .int (nI us))] from rfl)
          have hP := hP.sub (ws' := [(r 5, .inl ((cT 0), 1920, .inl f5)), (r 6, .inl ((cT 0), 32, .inl f6)), (r 9, .inl ((cT 0), 1400, .inl g9_296)), (r 3, .inl ((cT 0), 160, .inl f3)), (r 4, .inl ((cT 0), 4, .inl f4)), (r 0, .inl ((cT 1), 64, .inr (.inl f0))), (r 11, .inl ((cT 0), 16, .inl g11_297)), (mo, .inr (12, mdG r cd tm (nI sn) (nI 0) (nI lz) (nI az) (nI na) (nI nt) (nI nr) mw ml mk dq)), (r 7, .inl ((cT 0), 1000, .inl f7))]) [0, 1, 3, 4, 5, 7, 8, 2, 6] rfl
          have hD := hD.sub (ws' := [(r 5, .inl ((cT 0), 1920, .inl f5)), (r 6, .inl ((cT 0), 32, .inl f6)), (r 9, .inl ((cT 0), 1400, .inl g9_296)), (r 3, .inl ((cT 0), 160, .inl f3)), (r 4, .inl ((cT 0), 4, .inl f4)), (r 0, .inl ((cT 1), 64, .inr (.inl f0))), (r 11, .inl ((cT 0), 16, .inl g11_297)), (mo, .inr (12, mdG r cd tm (nI sn) (nI 0) (nI lz) (nI az) (nI na) (nI nt) (nI nr) mw ml mk dq)), (r 7, .inl ((cT 0), 1000, .inl f7))]) [0, 1, 3, 4, 5, 7, 8, 2, 6] (by decide) rfl
          exact ih (i + 1) _ _ _ _ _ _ (by omega) (hsm) (by first | assumption | omega) hP hD hS hl
    refine L235 _ (fun g9_233 g11_234 sm H locs ls hsm hdb hP hD hS hl => ?_) (pn2 / 16 - 0) 0 f9 f11 0 H _ ls (by omega) (Or.inl rfl) (by first | assumption | omega) hP hD hS hl
    refine lv_iload hx hb d_Md_isPassword_166 (lv_at hl 1 rfl) ?_
    rcases hsm with h7s | h7s
    · skip
      refine lv_topi (fun x340 e339 => ?_)
      obtain rfl : x340 = 0 := by rw [e339]; exact h7s
      have hP9 := hP.sub (ws' := [(mo, .inr (12, mdG r cd tm (nI sn) (nI 0) (nI lz) (nI az) (nI na) (nI nt) (nI nr) mw ml mk dq)), (r 5, .inl ((cT 0), 1920, .inl f5)), (r 6, .inl ((cT 0), 32, .inl f6)), (r 7, .inl ((cT 0), 1000, .inl f7)), (r 9, .inl ((cT 0), 1400, .inl g9_233)), (r 3, .inl ((cT 0), 160, .inl f3)), (r 4, .inl ((cT 0), 4, .inl f4)), (r 0, .inl ((cT 1), 64, .inr (.inl f0))), (r 11, .inl ((cT 0), 16, .inl g11_234))]) [7, 0, 1, 8, 2, 3, 4, 5, 6] rfl
      have hD9 := hD.sub (ws' := [(mo, .inr (12, mdG r cd tm (nI sn) (nI 0) (nI lz) (nI az) (nI na) (nI nt) (nI nr) mw ml mk dq)), (r 5, .inl ((cT 0), 1920, .inl f5)), (r 6, .inl ((cT 0), 32, .inl f6)), (r 7, .inl ((cT 0), 1000, .inl f7)), (r 9, .inl ((cT 0), 1400, .inl g9_233)), (r 3, .inl ((cT 0), 160, .inl f3)), (r 4, .inl ((cT 0), 4, .inl f4)), (r 0, .inl ((cT 1), 64, .inr (.inl f0))), (r 11, .inl ((cT 0), 16, .inl g11_234))]) [7, 0, 1, 8, 2, 3, 4, 5, 6] (by decide) rfl
      exact W.zret (v := 0) hx hb hr (by first | rfl | decide) (fun t ht hW => ⟨⟨_, ⟨g9_233, g11_234⟩, rfl, ⟨Or.inl rfl, by assumption⟩, by rw [ht]; exact hP9, va_K.moved hW.alike hK, hD9⟩, hS.F ht⟩) hS.2.2 d_Md_isPassword_168
    · skip
      refine lv_topi (fun x342 e341 => ?_)
      obtain rfl : x342 = 1 := by rw [e341]; exact h7s
      have hP9 := hP.sub (ws' := [(mo, .inr (12, mdG r cd tm (nI sn) (nI 0) (nI lz) (nI az) (nI na) (nI nt) (nI nr) mw ml mk dq)), (r 5, .inl ((cT 0), 1920, .inl f5)), (r 6, .inl ((cT 0), 32, .inl f6)), (r 7, .inl ((cT 0), 1000, .inl f7)), (r 9, .inl ((cT 0), 1400, .inl g9_233)), (r 3, .inl ((cT 0), 160, .inl f3)), (r 4, .inl ((cT 0), 4, .inl f4)), (r 0, .inl ((cT 1), 64, .inr (.inl f0))), (r 11, .inl ((cT 0), 16, .inl g11_234))]) [7, 0, 1, 8, 2, 3, 4, 5, 6] rfl
      have hD9 := hD.sub (ws' := [(mo, .inr (12, mdG r cd tm (nI sn) (nI 0) (nI lz) (nI az) (nI na) (nI nt) (nI nr) mw ml mk dq)), (r 5, .inl ((cT 0), 1920, .inl f5)), (r 6, .inl ((cT 0), 32, .inl f6)), (r 7, .inl ((cT 0), 1000, .inl f7)), (r 9, .inl ((cT 0), 1400, .inl g9_233)), (r 3, .inl ((cT 0), 160, .inl f3)), (r 4, .inl ((cT 0), 4, .inl f4)), (r 0, .inl ((cT 1), 64, .inr (.inl f0))), (r 11, .inl ((cT 0), 16, .inl g11_234))]) [7, 0, 1, 8, 2, 3, 4, 5, 6] (by decide) rfl
      exact W.zret (v := 1) hx hb hr (by first | rfl | decide) (fun t ht hW => ⟨⟨_, ⟨g9_233, g11_234⟩, rfl, ⟨Or.inr rfl, by assumption⟩, by rw [ht]; exact hP9, va_K.moved hW.alike hK, hD9⟩, hS.F ht⟩) hS.2.2 d_Md_isPassword_168
  · skip
    have n232 : t227 ≤ pn2 := Nat.not_lt.mp (fun h7 => hc230 ((nI_ltI (a := pn2) (b := t227) (by omega) (by omega)).mpr h7))
    refine lv_iconst (v := 1) hx hb d_Md_isPassword_24 (by decide) ?_
    refine lv_goto (tgt := 29) hx hb d_Md_isPassword_25 (by decide) ?_
    refine lv_istore (lv' := [(5, .int 1), (4, .int (nI pn2)), (3, .int (nI (pa2 + 2))), (0, .ref mo), (1, .int (nI st)), (2, .int (nI us))]) hx hb d_Md_isPassword_29 hl (by decide) rfl (fun ls hl => ?_)
    refine lv_iconst (v := 0) hx hb d_Md_isPassword_31 (by decide) ?_
    refine lv_istore (lv' := [(6, .int 0), (5, .int 1), (4, .int (nI pn2)), (3, .int (nI (pa2 + 2))), (0, .ref mo), (1, .int (nI st)), (2, .int (nI us))]) hx hb d_Md_isPassword_32 hl (by decide) rfl (fun ls hl => ?_)
    have hl := lv_sub hl [0, 1, 2, 3, 4, 5, 6] (show _ = [(6, .int 0), (5, .int 1), (4, .int (nI pn2)), (3, .int (nI (pa2 + 2))), (0, .ref mo), (1, .int (nI st)), (2, .int (nI us))] from rfl)
    have L345 : ∀ (Q : State → Prop) (exit : ∀ (g9_343 : Nat → Int32) (g11_344 : Nat → Int32) (sm : Int32) (H : Heap) (locs : List Loc) (ls : Array Slot), (sm = 0 ∨ sm = 1) → (AB g11_344) → va_P (dC, dI) vcl [(r 5, .inl ((cT 0), 1920, .inl f5)), (r 6, .inl ((cT 0), 32, .inl f6)), (r 9, .inl ((cT 0), 1400, .inl g9_343)), (r 3, .inl ((cT 0), 160, .inl f3)), (r 4, .inl ((cT 0), 4, .inl f4)), (r 0, .inl ((cT 1), 64, .inr (.inl f0))), (r 11, .inl ((cT 0), 16, .inl g11_344)), (mo, .inr (12, mdG r cd tm (nI sn) (nI 0) (nI lz) (nI az) (nI na) (nI nt) (nI nr) mw ml mk dq)), (r 7, .inl ((cT 0), 1000, .inl f7))] H → va_D A [(r 5, .inl ((cT 0), 1920, .inl f5)), (r 6, .inl ((cT 0), 32, .inl f6)), (r 9, .inl ((cT 0), 1400, .inl g9_343)), (r 3, .inl ((cT 0), 160, .inl f3)), (r 4, .inl ((cT 0), 4, .inl f4)), (r 0, .inl ((cT 1), 64, .inr (.inl f0))), (r 11, .inl ((cT 0), 16, .inl g11_344)), (mo, .inr (12, mdG r cd tm (nI sn) (nI 0) (nI lz) (nI az) (nI na) (nI nt) (nI nr) mw ml mk dq)), (r 7, .inl ((cT 0), 1000, .inl f7))] → va_S A s.heap H locs → lv_has ls 9 [(6, .int (nI (pn2 / 16))), (5, .int sm), (4, .int (nI pn2)), (3, .int (nI (pa2 + 2))), (0, .ref mo), (1, .int (nI st)), (2, .int (nI us))] → W p l e ({ frames := 3, cells := 0, slots := 0, locals := 92 } : Room) s m args below meth c H locs 0 0 Q (F0 m 166 ls [])) (j8 i : Nat) (g9_343 : Nat → Int32) (g11_344 : Nat → Int32) (sm : Int32) (H : Heap) (locs : List Loc) (ls : Array Slot), i + j8 = pn2 / 16 → (sm = 0 ∨ sm = 1) → (AB g11_344) → va_P (dC, dI) vcl [(r 5, .inl ((cT 0), 1920, .inl f5)), (r 6, .inl ((cT 0), 32, .inl f6)), (r 9, .inl ((cT 0), 1400, .inl g9_343)), (r 3, .inl ((cT 0), 160, .inl f3)), (r 4, .inl ((cT 0), 4, .inl f4)), (r 0, .inl ((cT 1), 64, .inr (.inl f0))), (r 11, .inl ((cT 0), 16, .inl g11_344)), (mo, .inr (12, mdG r cd tm (nI sn) (nI 0) (nI lz) (nI az) (nI na) (nI nt) (nI nr) mw ml mk dq)), (r 7, .inl ((cT 0), 1000, .inl f7))] H → va_D A [(r 5, .inl ((cT 0), 1920, .inl f5)), (r 6, .inl ((cT 0), 32, .inl f6)), (r 9, .inl ((cT 0), 1400, .inl g9_343)), (r 3, .inl ((cT 0), 160, .inl f3)), (r 4, .inl ((cT 0), 4, .inl f4)), (r 0, .inl ((cT 1), 64, .inr (.inl f0))), (r 11, .inl ((cT 0), 16, .inl g11_344)), (mo, .inr (12, mdG r cd tm (nI sn) (nI 0) (nI lz) (nI az) (nI na) (nI nt) (nI nr) mw ml mk dq)), (r 7, .inl ((cT 0), 1000, .inl f7))] → va_S A s.heap H locs → lv_has ls 9 [(6, .int (nI i)), (5, .int sm), (4, .int (nI pn2)), (3, .int (nI (pa2 + 2))), (0, .ref mo), (1, .int (nI st)), (2, .int (nI us))] → W p l e ({ frames := 3, cells := 0, slots := 0, locals := 92 } : Room) s m args below meth c H locs 0 0 Q (F0 m 34 ls []) := by
      intro Q exit j8
      induction j8 with
      | zero => 
        intro i g9_343 g11_344 sm H locs ls hij hsm hdb hP hD hS hl
        have hij : pn2 / 16 = i := by omega
        refine lv_iload hx hb d_Md_isPassword_34 (lv_at hl 0 rfl) ?_
        refine lv_iload hx hb d_Md_isPassword_36 (lv_at hl 2 rfl) ?_
        refine lv_bipush (v := 16) hx hb d_Md_isPassword_38 (by decide) ?_
        refine lv_idiv hx hb d_Md_isPassword_40 (by decide) ?_
        refine lv_topi (fun x347 e346 => ?_)
        obtain rfl : x347 = nI (pn2 / 16) := by rw [e346]; exact pk_div (d := 16) (by omega) (by decide) (by decide)
        refine lv_icmp_ge (tgt := 166) hx hb d_Md_isPassword_41 (by decide) (fun hc348 => ?_) (fun hn9 => absurd (nI_le (by omega) (by omega)) hn9)
        subst hij
        exact exit g9_343 g11_344 sm _ _ _ hsm hdb hP hD hS hl
      | succ j8 ih => 
        intro i g9_343 g11_344 sm H locs ls hij hsm hdb hP hD hS hl
        have hlt : i < pn2 / 16 := by omega
        have hlti := hlt
        refine lv_iload hx hb d_Md_isPassword_34 (lv_at hl 0 rfl) ?_
        refine lv_iload hx hb d_Md_isPassword_36 (lv_at hl 2 rfl) ?_
        refine lv_bipush (v := 16) hx hb d_Md_isPassword_38 (by decide) ?_
        refine lv_idiv hx hb d_Md_isPassword_40 (by decide) ?_
        refine lv_topi (fun x350 e349 => ?_)
        obtain rfl : x350 = nI (pn2 / 16) := by rw [e349]; exact pk_div (d := 16) (by omega) (by decide) (by decide)
        refine lv_icmp_ge (tgt := 166) hx hb d_Md_isPassword_41 (by decide) (fun hn9 => absurd hn9 (nI_ge (by omega) (by omega))) (fun hc351 => ?_)
        refine lv_aload_n hx hb d_Md_isPassword_44 rfl (lv_at hl 4 rfl) ?_
        refine lv_iload_n hx hb d_Md_isPassword_45 rfl (lv_at hl 5 rfl) ?_
        refine lv_iload hx hb d_Md_isPassword_46 (lv_at hl 0 rfl) ?_
        refine lv_if_ne (tgt := 55) hx hb d_Md_isPassword_48 (by decide) (fun hc352 => ?_) (fun hc352 => ?_)
        · skip
          have n353 : ¬ i = 0 := fun h7 => hc352 ((nI_eq (a := i) (b := 0) (by omega) (by omega)).mpr h7)
          refine lv_iload_n hx hb d_Md_isPassword_55 rfl (lv_at hl 3 rfl) ?_
          refine lv_bipush (v := 16) hx hb d_Md_isPassword_56 (by decide) ?_
          refine lv_iload hx hb d_Md_isPassword_58 (lv_at hl 0 rfl) ?_
          refine lv_imul hx hb d_Md_isPassword_60 ?_
          refine lv_topi (fun x356 e355 => ?_)
          obtain rfl : x356 = nI (16 * i) := by rw [e355]; exact pk_mul 16 i
          refine lv_iadd hx hb d_Md_isPassword_61 ?_
          refine lv_topi (fun x358 e357 => ?_)
          obtain rfl : x358 = nI (pa2 + 2 + (16 * i)) := by rw [e357]; exact nI_add (pa2 + 2) (16 * i)
          refine lv_bipush (v := 16) hx hb d_Md_isPassword_62 (by decide) ?_
          refine lv_isub hx hb d_Md_isPassword_64 ?_
          refine lv_topi (fun x360 e359 => ?_)
          obtain rfl : x360 = nI ((pa2 + 2 + (16 * i)) - 16) := by rw [e359]; exact pk_sub (a := pa2 + 2 + (16 * i)) (b := 16) (by omega)
          have hPc := hP.sub (ws' := [(mo, .inr (12, mdG r cd tm (nI sn) (nI 0) (nI lz) (nI az) (nI na) (nI nt) (nI nr) mw ml mk dq)), (r 9, .inl ((cT 0), 1400, .inl g9_343)), (r 3, .inl ((cT 0), 160, .inl f3)), (r 4, .inl ((cT 0), 4, .inl f4)), (r 7, .inl ((cT 0), 1000, .inl f7)), (r 0, .inl ((cT 1), 64, .inr (.inl f0))), (r 11, .inl ((cT 0), 16, .inl g11_344))]) [7, 2, 3, 4, 8, 5, 6] rfl
          have hDc := hD.sub (ws' := [(mo, .inr (12, mdG r cd tm (nI sn) (nI 0) (nI lz) (nI az) (nI na) (nI nt) (nI nr) mw ml mk dq)), (r 9, .inl ((cT 0), 1400, .inl g9_343)), (r 3, .inl ((cT 0), 160, .inl f3)), (r 4, .inl ((cT 0), 4, .inl f4)), (r 7, .inl ((cT 0), 1000, .inl f7)), (r 0, .inl ((cT 1), 64, .inr (.inl f0))), (r 11, .inl ((cT 0), 16, .inl g11_344))]) [7, 2, 3, 4, 8, 5, 6] (by decide) rfl
          have hFc := va_free (wc := [(mo, .inr (12, mdG r cd tm (nI sn) (nI 0) (nI lz) (nI az) (nI na) (nI nt) (nI nr) mw ml mk dq)), (r 9, .inl ((cT 0), 1400, .inl g9_343)), (r 3, .inl ((cT 0), 160, .inl f3)), (r 4, .inl ((cT 0), 4, .inl f4)), (r 7, .inl ((cT 0), 1000, .inl f7)), (r 0, .inl ((cT 1), 64, .inr (.inl f0))), (r 11, .inl ((cT 0), 16, .inl g11_344))]) hD hS hA [7, 2, 3, 4, 8, 5, 6] rfl
          refine va_callv (va_runV (C := "DoorServerModel") (As := [.int (nI st), .int (nI ((pa2 + 2 + (16 * i)) - 16))]) (rest := []) ⟨hx, hb, hml, hown, hg⟩ (m_cover l dC dI cT H.size mo r cd tm sn 0 lz az na nt nr mw ml mk dq g9_343 f3 f4 f7 f0 g11_344 st sl ((pa2 + 2 + (16 * i)) - 16) (by first | assumption | omega) (by first | assumption | omega) (by first | assumption | omega) (by first | assumption | omega) (by first | assumption | omega) (by first | assumption | omega)) (cwV 2 hg (gI (List.forall_mem_append.mpr ⟨List.forall_mem_cons.mpr ⟨k_1212, List.forall_mem_cons.mpr ⟨k_1214, List.forall_mem_cons.mpr ⟨(big_sel (q := y_Md_cover) (n := 45) (by decide +kernel)), List.forall_mem_cons.mpr ⟨k_13, fun _ h => absurd h List.not_mem_nil⟩⟩⟩⟩, List.forall_mem_cons.mpr ⟨k_1215, fun _ h => h⟩⟩)) rfl rfl rfl (by decide +kernel) ⟨Nat.le_of_ble_eq_true rfl, Nat.le_of_ble_eq_true rfl⟩) ⟨fun a U g mk q => by obtain ⟨q0, q1, qP, qK, qD⟩ := q; exact ⟨q0, q1, qP, va_K.moved (u := U) (U := U.calling g mk a) (Vm.Alike.refl U.vm) qK, qD⟩, va_recv (q0 := 7) (ci := 12) hK hP rfl rfl, fun U hU hW => ⟨rfl, by rw [hU], by rw [hU]; exact hPc, va_K.moved hW.alike hK, hDc.weaken (fun _ _ _ _ => trivial)⟩⟩ rfl rfl hl.1 rfl (lv_room (Nat.le_of_ble_eq_true rfl)) d_Md_isPassword_65 ⟨Nat.le_of_ble_eq_true rfl, Nat.le_of_ble_eq_true rfl⟩) hS (fun q _ h => hFc q h) hFc (fun u t H1 locs ht hvm hw hB hz1 hk1 hS => ?_)
          obtain ⟨g9_361, g11_362⟩ := u
          try dsimp only at hw hB
          obtain ⟨hP1, hK1, hD1⟩ := hB
          rw [ht] at hP1
          obtain ⟨hP, hD⟩ := va_join (wr := [(r 5, .inl ((cT 0), 1920, .inl f5)), (r 6, .inl ((cT 0), 32, .inl f6))]) (w1 := [(mo, .inr (12, mdG r cd tm (nI sn) (nI 0) (nI lz) (nI az) (nI na) (nI nt) (nI nr) mw ml mk dq)), (r 9, .inl ((cT 0), 1400, .inl g9_361)), (r 3, .inl ((cT 0), 160, .inl f3)), (r 4, .inl ((cT 0), 4, .inl f4)), (r 7, .inl ((cT 0), 1000, .inl f7)), (r 0, .inl ((cT 1), 64, .inr (.inl f0))), (r 11, .inl ((cT 0), 16, .inl g11_362))]) hP hD [7, 2, 3, 4, 8, 5, 6] [0, 1] rfl rfl (by decide) (by decide) hk1 hFc hP1 hD1
          have hw363 := hw
          clear hPc hDc hFc hz1 hk1 hP1 hK1 hD1
          generalize H1 = H at hP hS ⊢
          have hP : va_P (dC, dI) vcl [(r 5, .inl ((cT 0), 1920, .inl f5)), (r 6, .inl ((cT 0), 32, .inl f6)), (mo, .inr (12, mdG r cd tm (nI sn) (nI 0) (nI lz) (nI az) (nI na) (nI nt) (nI nr) mw ml mk dq)), (r 9, .inl ((cT 0), 1400, .inl g9_361)), (r 3, .inl ((cT 0), 160, .inl f3)), (r 4, .inl ((cT 0), 4, .inl f4)), (r 7, .inl ((cT 0), 1000, .inl f7)), (r 0, .inl ((cT 1), 64, .inr (.inl f0))), (r 11, .inl ((cT 0), 16, .inl g11_362))] H := hP
          have hD : va_D A [(r 5, .inl ((cT 0), 1920, .inl f5)), (r 6, .inl ((cT 0), 32, .inl f6)), (mo, .inr (12, mdG r cd tm (nI sn) (nI 0) (nI lz) (nI az) (nI na) (nI nt) (nI nr) mw ml mk dq)), (r 9, .inl ((cT 0), 1400, .inl g9_361)), (r 3, .inl ((cT 0), 160, .inl f3)), (r 4, .inl ((cT 0), 4, .inl f4)), (r 7, .inl ((cT 0), 1000, .inl f7)), (r 0, .inl ((cT 1), 64, .inr (.inl f0))), (r 11, .inl ((cT 0), 16, .inl g11_362))] := hD
          have k364 := hw363
          refine lv_bipush (v := 16) hx hb d_Md_isPassword_68 (by decide) ?_
          refine lv_iload hx hb d_Md_isPassword_70 (lv_at hl 0 rfl) ?_
          refine lv_imul hx hb d_Md_isPassword_72 ?_
          refine lv_topi (fun x366 e365 => ?_)
          obtain rfl : x366 = nI (16 * i) := by rw [e365]; exact pk_mul 16 i
          refine lv_istore (lv' := [(7, .int (nI (16 * i))), (6, .int (nI i)), (5, .int sm), (4, .int (nI pn2)), (3, .int (nI (pa2 + 2))), (0, .ref mo), (1, .int (nI st)), (2, .int (nI us))]) hx hb d_Md_isPassword_73 hl (by decide) rfl (fun ls hl => ?_)
          have hl := lv_sub hl [0, 1, 2, 3, 4, 5, 6, 7] (show _ = [(7, .int (nI (16 * i))), (6, .int (nI i)), (5, .int sm), (4, .int (nI pn2)), (3, .int (nI (pa2 + 2))), (0, .ref mo), (1, .int (nI st)), (2, .int (nI us))] from rfl)
          have L367 : ∀ (Q : State → Prop) (exit : ∀ (sm : Int32) (H : Heap) (locs : List Loc) (ls : Array Slot), (sm = 0 ∨ sm = 1) → va_P (dC, dI) vcl [(r 5, .inl ((cT 0), 1920, .inl f5)), (r 6, .inl ((cT 0), 32, .inl f6)), (mo, .inr (12, mdG r cd tm (nI sn) (nI 0) (nI lz) (nI az) (nI na) (nI nt) (nI nr) mw ml mk dq)), (r 9, .inl ((cT 0), 1400, .inl g9_361)), (r 3, .inl ((cT 0), 160, .inl f3)), (r 4, .inl ((cT 0), 4, .inl f4)), (r 7, .inl ((cT 0), 1000, .inl f7)), (r 0, .inl ((cT 1), 64, .inr (.inl f0))), (r 11, .inl ((cT 0), 16, .inl g11_362))] H → va_D A [(r 5, .inl ((cT 0), 1920, .inl f5)), (r 6, .inl ((cT 0), 32, .inl f6)), (mo, .inr (12, mdG r cd tm (nI sn) (nI 0) (nI lz) (nI az) (nI na) (nI nt) (nI nr) mw ml mk dq)), (r 9, .inl ((cT 0), 1400, .inl g9_361)), (r 3, .inl ((cT 0), 160, .inl f3)), (r 4, .inl ((cT 0), 4, .inl f4)), (r 7, .inl ((cT 0), 1000, .inl f7)), (r 0, .inl ((cT 1), 64, .inr (.inl f0))), (r 11, .inl ((cT 0), 16, .inl g11_362))] → va_S A s.heap H locs → lv_has ls 9 [(7, .int (nI (16 * i + 16))), (6, .int (nI i)), (5, .int sm), (4, .int (nI pn2)), (3, .int (nI (pa2 + 2))), (0, .ref mo), (1, .int (nI st)), (2, .int (nI us))] → W p l e ({ frames := 3, cells := 0, slots := 0, locals := 92 } : Room) s m args below meth c H locs 0 0 Q (F0 m 160 ls [])) (j8 q9 : Nat) (sm : Int32) (H : Heap) (locs : List Loc) (ls : Array Slot), q9 + j8 = 16 * i + 16 → (sm = 0 ∨ sm = 1) → va_P (dC, dI) vcl [(r 5, .inl ((cT 0), 1920, .inl f5)), (r 6, .inl ((cT 0), 32, .inl f6)), (mo, .inr (12, mdG r cd tm (nI sn) (nI 0) (nI lz) (nI az) (nI na) (nI nt) (nI nr) mw ml mk dq)), (r 9, .inl ((cT 0), 1400, .inl g9_361)), (r 3, .inl ((cT 0), 160, .inl f3)), (r 4, .inl ((cT 0), 4, .inl f4)), (r 7, .inl ((cT 0), 1000, .inl f7)), (r 0, .inl ((cT 1), 64, .inr (.inl f0))), (r 11, .inl ((cT 0), 16, .inl g11_362))] H → va_D A [(r 5, .inl ((cT 0), 1920, .inl f5)), (r 6, .inl ((cT 0), 32, .inl f6)), (mo, .inr (12, mdG r cd tm (nI sn) (nI 0) (nI lz) (nI az) (nI na) (nI nt) (nI nr) mw ml mk dq)), (r 9, .inl ((cT 0), 1400, .inl g9_361)), (r 3, .inl ((cT 0), 160, .inl f3)), (r 4, .inl ((cT 0), 4, .inl f4)), (r 7, .inl ((cT 0), 1000, .inl f7)), (r 0, .inl ((cT 1), 64, .inr (.inl f0))), (r 11, .inl ((cT 0), 16, .inl g11_362))] → va_S A s.heap H locs → lv_has ls 9 [(7, .int (nI q9)), (6, .int (nI i)), (5, .int sm), (4, .int (nI pn2)), (3, .int (nI (pa2 + 2))), (0, .ref mo), (1, .int (nI st)), (2, .int (nI us))] → W p l e ({ frames := 3, cells := 0, slots := 0, locals := 92 } : Room) s m args below meth c H locs 0 0 Q (F0 m 75 ls []) := by
            intro Q exit j8
            induction j8 with
            | zero => 
              intro q9 sm H locs ls hij hsm hP hD hS hl
              have hij : 16 * i + 16 = q9 := by omega
              refine lv_iload hx hb d_Md_isPassword_75 (lv_at hl 0 rfl) ?_
              refine lv_bipush (v := 16) hx hb d_Md_isPassword_77 (by decide) ?_
              refine lv_iload hx hb d_Md_isPassword_79 (lv_at hl 1 rfl) ?_
              refine lv_imul hx hb d_Md_isPassword_81 ?_
              refine lv_topi (fun x369 e368 => ?_)
              obtain rfl : x369 = nI (16 * i) := by rw [e368]; exact pk_mul 16 i
              refine lv_bipush (v := 16) hx hb d_Md_isPassword_82 (by decide) ?_
              refine lv_iadd hx hb d_Md_isPassword_84 ?_
              refine lv_topi (fun x371 e370 => ?_)
              obtain rfl : x371 = nI ((16 * i) + 16) := by rw [e370]; exact nI_add (16 * i) 16
              refine lv_icmp_ge (tgt := 160) hx hb d_Md_isPassword_85 (by decide) (fun hc372 => ?_) (fun hn9 => absurd (nI_le (by omega) (by omega)) hn9)
              subst hij
              exact exit sm _ _ _ hsm hP hD hS hl
            | succ j8 ih => 
              intro q9 sm H locs ls hij hsm hP hD hS hl
              have hlt : q9 < 16 * i + 16 := by omega
              have hltq9 := hlt
              refine lv_iload hx hb d_Md_isPassword_75 (lv_at hl 0 rfl) ?_
              refine lv_bipush (v := 16) hx hb d_Md_isPassword_77 (by decide) ?_
              refine lv_iload hx hb d_Md_isPassword_79 (lv_at hl 1 rfl) ?_
              refine lv_imul hx hb d_Md_isPassword_81 ?_
              refine lv_topi (fun x374 e373 => ?_)
              obtain rfl : x374 = nI (16 * i) := by rw [e373]; exact pk_mul 16 i
              refine lv_bipush (v := 16) hx hb d_Md_isPassword_82 (by decide) ?_
              refine lv_iadd hx hb d_Md_isPassword_84 ?_
              refine lv_topi (fun x376 e375 => ?_)
              obtain rfl : x376 = nI ((16 * i) + 16) := by rw [e375]; exact nI_add (16 * i) 16
              refine lv_icmp_ge (tgt := 160) hx hb d_Md_isPassword_85 (by decide) (fun hn9 => absurd hn9 (nI_ge (by omega) (by omega))) (fun hc377 => ?_)
              refine lv_iload hx hb d_Md_isPassword_88 (lv_at hl 0 rfl) ?_
              refine lv_aload_n hx hb d_Md_isPassword_90 rfl (lv_at hl 5 rfl) ?_
              refine va_get (D := (dC, dI)) (ci := 12) (v := (.ref (r 6))) (C := R_Md) (T := F_Md) (N := 45) hx hb hg in_Md hown hK hP 2 rfl rfl 6 (by decide) (hg _ k_1026) (fun _ h9 => h9) rfl d_Md_isPassword_91 ?_
              refine lv_iload_n hx hb d_Md_isPassword_94 rfl (lv_at hl 7 rfl) ?_
              refine va_iald hx hb hK hP 1 0 rfl rfl (i := (nI us)) (vp_in_nI (N := 32) (by omega) (by decide)) d_Md_isPassword_95 ?_
              refine lv_topi (fun x379 e378 => ?_)
              obtain rfl : x379 = nI t227 := by rw [e378]; rw [nI_clamp (by omega)]; exact xt227
              refine lv_icmp_ge (tgt := 114) hx hb d_Md_isPassword_96 (by decide) (fun hc380 => ?_) (fun hc380 => ?_)
              · skip
                have n381 : t227 ≤ q9 := (nI_leI (a := t227) (b := q9) (by omega) (by omega)).mp hc380
                refine lv_iconst (v := 0) hx hb d_Md_isPassword_114 (by decide) ?_
                refine lv_istore (lv' := [(8, .int 0), (7, .int (nI q9)), (6, .int (nI i)), (5, .int sm), (4, .int (nI pn2)), (3, .int (nI (pa2 + 2))), (0, .ref mo), (1, .int (nI st)), (2, .int (nI us))]) hx hb d_Md_isPassword_115 hl (by decide) rfl (fun ls hl => ?_)
                refine lv_iload hx hb d_Md_isPassword_117 (lv_at hl 3 rfl) ?_
                refine lv_if_eq (tgt := 151) hx hb d_Md_isPassword_119 (by decide) (fun hc383 => ?_) (fun hc383 => ?_)
                · skip
                  refine lv_iconst (v := 0) hx hb d_Md_isPassword_151 (by decide) ?_
                  refine lv_istore (lv' := [(5, .int 0), (8, .int 0), (7, .int (nI q9)), (6, .int (nI i)), (4, .int (nI pn2)), (3, .int (nI (pa2 + 2))), (0, .ref mo), (1, .int (nI st)), (2, .int (nI us))]) hx hb d_Md_isPassword_152 hl (by decide) rfl (fun ls hl => ?_)
                  refine lv_iinc (k := 2) (v := nI (q9 + 1)) (lv' := [(7, .int (nI (q9 + 1))), (5, .int 0), (8, .int 0), (6, .int (nI i)), (4, .int (nI pn2)), (3, .int (nI (pa2 + 2))), (0, .ref mo), (1, .int (nI st)), (2, .int (nI us))]) hx hb d_Md_isPassword_154 hl rfl (nI_1 q9) (by decide) rfl (fun ls hl => ?_)
                  refine lv_goto (tgt := 75) hx hb d_Md_isPassword_157 (by decide) ?_
                  have hl := lv_sub hl [0, 3, 1, 4, 5, 6, 7, 8] (show _ = [(7, .int (nI (q9 + 1))), (6, .int (nI i)), (5, .int 0), (4, .int (nI pn2)), (3, .int (nI (pa2 + 2))), (0, .ref mo), (1, .int (nI st)), (2, .int (nI us))] from rfl)
                  exact ih (q9 + 1) _ _ _ _ (by omega) (Or.inl rfl) hP hD hS hl
                · skip
                  refine lv_aload_n hx hb d_Md_isPassword_122 rfl (lv_at hl 6 rfl) ?_
                  refine va_get (D := (dC, dI)) (ci := 12) (v := (.ref (r 7))) (C := R_Md) (T := F_Md) (N := 45) hx hb hg in_Md hown hK hP 2 rfl rfl 7 (by decide) (hg _ k_1027) (fun _ h9 => h9) rfl d_Md_isPassword_123 ?_
                  refine lv_iload_n hx hb d_Md_isPassword_126 rfl (lv_at hl 5 rfl) ?_
                  refine lv_iload hx hb d_Md_isPassword_127 (lv_at hl 1 rfl) ?_
                  refine lv_iadd hx hb d_Md_isPassword_129 ?_
                  refine lv_topi (fun x385 e384 => ?_)
                  obtain rfl : x385 = nI (pa2 + 2 + q9) := by rw [e384]; exact nI_add (pa2 + 2) q9
                  refine va_iald hx hb hK hP 6 0 rfl rfl (i := (nI (pa2 + 2 + q9))) (vp_in_nI (N := 1000) (by omega) (by decide)) d_Md_isPassword_130 ?_
                  refine lv_topi (fun x386 e_x386 => ?_)
                  clear e_x386
                  refine lv_aload_n hx hb d_Md_isPassword_131 rfl (lv_at hl 6 rfl) ?_
                  refine va_get (D := (dC, dI)) (ci := 12) (v := (.ref (r 11))) (C := R_Md) (T := F_Md) (N := 45) hx hb hg in_Md hown hK hP 2 rfl rfl 11 (by decide) (hg _ k_1031) (fun _ h9 => h9) rfl d_Md_isPassword_132 ?_
                  refine lv_iload hx hb d_Md_isPassword_135 (lv_at hl 1 rfl) ?_
                  refine lv_bipush (v := 16) hx hb d_Md_isPassword_137 (by decide) ?_
                  refine lv_irem hx hb d_Md_isPassword_139 (by decide) ?_
                  refine lv_topi (fun x388 e387 => ?_)
                  obtain rfl : x388 = nI (q9 % 16) := by rw [e387]; exact pk_rem (d := 16) (by omega) (by decide) (by decide)
                  refine va_iald hx hb hK hP 8 0 rfl rfl (i := (nI (q9 % 16))) (vp_in_nI (N := 16) (by omega) (by decide)) d_Md_isPassword_140 ?_
                  refine lv_topi (fun x389 e_x389 => ?_)
                  clear e_x389
                  refine lv_ixor hx hb d_Md_isPassword_141 ?_
                  refine lv_iload hx hb d_Md_isPassword_142 (lv_at hl 0 rfl) ?_
                  refine lv_icmp_ne (tgt := 151) hx hb d_Md_isPassword_144 (by decide) (fun hc390 => ?_) (fun hc390 => ?_)
                  · skip
                    refine lv_iconst (v := 0) hx hb d_Md_isPassword_151 (by decide) ?_
                    refine lv_istore (lv' := [(5, .int 0), (8, .int 0), (7, .int (nI q9)), (6, .int (nI i)), (4, .int (nI pn2)), (3, .int (nI (pa2 + 2))), (0, .ref mo), (1, .int (nI st)), (2, .int (nI us))]) hx hb d_Md_isPassword_152 hl (by decide) rfl (fun ls hl => ?_)
                    refine lv_iinc (k := 2) (v := nI (q9 + 1)) (lv' := [(7, .int (nI (q9 + 1))), (5, .int 0), (8, .int 0), (6, .int (nI i)), (4, .int (nI pn2)), (3, .int (nI (pa2 + 2))), (0, .ref mo), (1, .int (nI st)), (2, .int (nI us))]) hx hb d_Md_isPassword_154 hl rfl (nI_1 q9) (by decide) rfl (fun ls hl => ?_)
                    refine lv_goto (tgt := 75) hx hb d_Md_isPassword_157 (by decide) ?_
                    have hl := lv_sub hl [0, 3, 1, 4, 5, 6, 7, 8] (show _ = [(7, .int (nI (q9 + 1))), (6, .int (nI i)), (5, .int 0), (4, .int (nI pn2)), (3, .int (nI (pa2 + 2))), (0, .ref mo), (1, .int (nI st)), (2, .int (nI us))] from rfl)
                    exact ih (q9 + 1) _ _ _ _ (by omega) (Or.inl rfl) hP hD hS hl
                  · skip
                    refine lv_iconst (v := 1) hx hb d_Md_isPassword_147 (by decide) ?_
                    refine lv_goto (tgt := 152) hx hb d_Md_isPassword_148 (by decide) ?_
                    refine lv_istore (lv' := [(5, .int 1), (8, .int 0), (7, .int (nI q9)), (6, .int (nI i)), (4, .int (nI pn2)), (3, .int (nI (pa2 + 2))), (0, .ref mo), (1, .int (nI st)), (2, .int (nI us))]) hx hb d_Md_isPassword_152 hl (by decide) rfl (fun ls hl => ?_)
                    refine lv_iinc (k := 2) (v := nI (q9 + 1)) (lv' := [(7, .int (nI (q9 + 1))), (5, .int 1), (8, .int 0), (6, .int (nI i)), (4, .int (nI pn2)), (3, .int (nI (pa2 + 2))), (0, .ref mo), (1, .int (nI st)), (2, .int (nI us))]) hx hb d_Md_isPassword_154 hl rfl (nI_1 q9) (by decide) rfl (fun ls hl => ?_)
                    refine lv_goto (tgt := 75) hx hb d_Md_isPassword_157 (by decide) ?_
                    have hl := lv_sub hl [0, 3, 1, 4, 5, 6, 7, 8] (show _ = [(7, .int (nI (q9 + 1))), (6, .int (nI i)), (5, .int 1), (4, .int (nI pn2)), (3, .int (nI (pa2 + 2))), (0, .ref mo), (1, .int (nI st)), (2, .int (nI us))] from rfl)
                    exact ih (q9 + 1) _ _ _ _ (by omega) (Or.inr rfl) hP hD hS hl
              · skip
                have n382 : q9 < t227 := Nat.not_le.mp (fun h7 => hc380 ((nI_leI (a := t227) (b := q9) (by omega) (by omega)).mpr h7))
                refine lv_aload_n hx hb d_Md_isPassword_99 rfl (lv_at hl 5 rfl) ?_
                refine va_get (D := (dC, dI)) (ci := 12) (v := (.ref (r 5))) (C := R_Md) (T := F_Md) (N := 45) hx hb hg in_Md hown hK hP 2 rfl rfl 5 (by decide) (hg _ k_1025) (fun _ h9 => h9) rfl d_Md_isPassword_100 ?_
                refine lv_bipush (v := 60) hx hb d_Md_isPassword_103 (by decide) ?_
                refine lv_iload_n hx hb d_Md_isPassword_105 rfl (lv_at hl 7 rfl) ?_
                refine lv_imul hx hb d_Md_isPassword_106 ?_
                refine lv_topi (fun x392 e391 => ?_)
                obtain rfl : x392 = nI (60 * us) := by rw [e391]; exact pk_mul 60 us
                refine lv_iload hx hb d_Md_isPassword_107 (lv_at hl 0 rfl) ?_
                refine lv_iadd hx hb d_Md_isPassword_109 ?_
                refine lv_topi (fun x394 e393 => ?_)
                obtain rfl : x394 = nI ((60 * us) + q9) := by rw [e393]; exact nI_add (60 * us) q9
                refine va_iald hx hb hK hP 0 0 rfl rfl (i := (nI ((60 * us) + q9))) (vp_in_nI (N := 1920) (by omega) (by decide)) d_Md_isPassword_110 ?_
                refine lv_topi (fun x395 e_x395 => ?_)
                clear e_x395
                refine lv_goto (tgt := 115) hx hb d_Md_isPassword_111 (by decide) ?_
                refine lv_istore (lv' := [(8, .int x395), (7, .int (nI q9)), (6, .int (nI i)), (5, .int sm), (4, .int (nI pn2)), (3, .int (nI (pa2 + 2))), (0, .ref mo), (1, .int (nI st)), (2, .int (nI us))]) hx hb d_Md_isPassword_115 hl (by decide) rfl (fun ls hl => ?_)
                refine lv_iload hx hb d_Md_isPassword_117 (lv_at hl 3 rfl) ?_
                refine lv_if_eq (tgt := 151) hx hb d_Md_isPassword_119 (by decide) (fun hc396 => ?_) (fun hc396 => ?_)
                · skip
                  refine lv_iconst (v := 0) hx hb d_Md_isPassword_151 (by decide) ?_
                  refine lv_istore (lv' := [(5, .int 0), (8, .int x395), (7, .int (nI q9)), (6, .int (nI i)), (4, .int (nI pn2)), (3, .int (nI (pa2 + 2))), (0, .ref mo), (1, .int (nI st)), (2, .int (nI us))]) hx hb d_Md_isPassword_152 hl (by decide) rfl (fun ls hl => ?_)
                  refine lv_iinc (k := 2) (v := nI (q9 + 1)) (lv' := [(7, .int (nI (q9 + 1))), (5, .int 0), (8, .int x395), (6, .int (nI i)), (4, .int (nI pn2)), (3, .int (nI (pa2 + 2))), (0, .ref mo), (1, .int (nI st)), (2, .int (nI us))]) hx hb d_Md_isPassword_154 hl rfl (nI_1 q9) (by decide) rfl (fun ls hl => ?_)
                  refine lv_goto (tgt := 75) hx hb d_Md_isPassword_157 (by decide) ?_
                  have hl := lv_sub hl [0, 3, 1, 4, 5, 6, 7, 8] (show _ = [(7, .int (nI (q9 + 1))), (6, .int (nI i)), (5, .int 0), (4, .int (nI pn2)), (3, .int (nI (pa2 + 2))), (0, .ref mo), (1, .int (nI st)), (2, .int (nI us))] from rfl)
                  exact ih (q9 + 1) _ _ _ _ (by omega) (Or.inl rfl) hP hD hS hl
                · skip
                  refine lv_aload_n hx hb d_Md_isPassword_122 rfl (lv_at hl 6 rfl) ?_
                  refine va_get (D := (dC, dI)) (ci := 12) (v := (.ref (r 7))) (C := R_Md) (T := F_Md) (N := 45) hx hb hg in_Md hown hK hP 2 rfl rfl 7 (by decide) (hg _ k_1027) (fun _ h9 => h9) rfl d_Md_isPassword_123 ?_
                  refine lv_iload_n hx hb d_Md_isPassword_126 rfl (lv_at hl 5 rfl) ?_
                  refine lv_iload hx hb d_Md_isPassword_127 (lv_at hl 1 rfl) ?_
                  refine lv_iadd hx hb d_Md_isPassword_129 ?_
                  refine lv_topi (fun x398 e397 => ?_)
                  obtain rfl : x398 = nI (pa2 + 2 + q9) := by rw [e397]; exact nI_add (pa2 + 2) q9
                  refine va_iald hx hb hK hP 6 0 rfl rfl (i := (nI (pa2 + 2 + q9))) (vp_in_nI (N := 1000) (by omega) (by decide)) d_Md_isPassword_130 ?_
                  refine lv_topi (fun x399 e_x399 => ?_)
                  clear e_x399
                  refine lv_aload_n hx hb d_Md_isPassword_131 rfl (lv_at hl 6 rfl) ?_
                  refine va_get (D := (dC, dI)) (ci := 12) (v := (.ref (r 11))) (C := R_Md) (T := F_Md) (N := 45) hx hb hg in_Md hown hK hP 2 rfl rfl 11 (by decide) (hg _ k_1031) (fun _ h9 => h9) rfl d_Md_isPassword_132 ?_
                  refine lv_iload hx hb d_Md_isPassword_135 (lv_at hl 1 rfl) ?_
                  refine lv_bipush (v := 16) hx hb d_Md_isPassword_137 (by decide) ?_
                  refine lv_irem hx hb d_Md_isPassword_139 (by decide) ?_
                  refine lv_topi (fun x401 e400 => ?_)
                  obtain rfl : x401 = nI (q9 % 16) := by rw [e400]; exact pk_rem (d := 16) (by omega) (by decide) (by decide)
                  refine va_iald hx hb hK hP 8 0 rfl rfl (i := (nI (q9 % 16))) (vp_in_nI (N := 16) (by omega) (by decide)) d_Md_isPassword_140 ?_
                  refine lv_topi (fun x402 e_x402 => ?_)
                  clear e_x402
                  refine lv_ixor hx hb d_Md_isPassword_141 ?_
                  refine lv_iload hx hb d_Md_isPassword_142 (lv_at hl 0 rfl) ?_
                  refine lv_icmp_ne (tgt := 151) hx hb d_Md_isPassword_144 (by decide) (fun hc403 => ?_) (fun hc403 => ?_)
                  · skip
                    refine lv_iconst (v := 0) hx hb d_Md_isPassword_151 (by decide) ?_
                    refine lv_istore (lv' := [(5, .int 0), (8, .int x395), (7, .int (nI q9)), (6, .int (nI i)), (4, .int (nI pn2)), (3, .int (nI (pa2 + 2))), (0, .ref mo), (1, .int (nI st)), (2, .int (nI us))]) hx hb d_Md_isPassword_152 hl (by decide) rfl (fun ls hl => ?_)
                    refine lv_iinc (k := 2) (v := nI (q9 + 1)) (lv' := [(7, .int (nI (q9 + 1))), (5, .int 0), (8, .int x395), (6, .int (nI i)), (4, .int (nI pn2)), (3, .int (nI (pa2 + 2))), (0, .ref mo), (1, .int (nI st)), (2, .int (nI us))]) hx hb d_Md_isPassword_154 hl rfl (nI_1 q9) (by decide) rfl (fun ls hl => ?_)
                    refine lv_goto (tgt := 75) hx hb d_Md_isPassword_157 (by decide) ?_
                    have hl := lv_sub hl [0, 3, 1, 4, 5, 6, 7, 8] (show _ = [(7, .int (nI (q9 + 1))), (6, .int (nI i)), (5, .int 0), (4, .int (nI pn2)), (3, .int (nI (pa2 + 2))), (0, .ref mo), (1, .int (nI st)), (2, .int (nI us))] from rfl)
                    exact ih (q9 + 1) _ _ _ _ (by omega) (Or.inl rfl) hP hD hS hl
                  · skip
                    refine lv_iconst (v := 1) hx hb d_Md_isPassword_147 (by decide) ?_
                    refine lv_goto (tgt := 152) hx hb d_Md_isPassword_148 (by decide) ?_
                    refine lv_istore (lv' := [(5, .int 1), (8, .int x395), (7, .int (nI q9)), (6, .int (nI i)), (4, .int (nI pn2)), (3, .int (nI (pa2 + 2))), (0, .ref mo), (1, .int (nI st)), (2, .int (nI us))]) hx hb d_Md_isPassword_152 hl (by decide) rfl (fun ls hl => ?_)
                    refine lv_iinc (k := 2) (v := nI (q9 + 1)) (lv' := [(7, .int (nI (q9 + 1))), (5, .int 1), (8, .int x395), (6, .int (nI i)), (4, .int (nI pn2)), (3, .int (nI (pa2 + 2))), (0, .ref mo), (1, .int (nI st)), (2, .int (nI us))]) hx hb d_Md_isPassword_154 hl rfl (nI_1 q9) (by decide) rfl (fun ls hl => ?_)
                    refine lv_goto (tgt := 75) hx hb d_Md_isPassword_157 (by decide) ?_
                    have hl := lv_sub hl [0, 3, 1, 4, 5, 6, 7, 8] (show _ = [(7, .int (nI (q9 + 1))), (6, .int (nI i)), (5, .int 1), (4, .int (nI pn2)), (3, .int (nI (pa2 + 2))), (0, .ref mo), (1, .int (nI st)), (2, .int (nI us))] from rfl)
                    exact ih (q9 + 1) _ _ _ _ (by omega) (Or.inr rfl) hP hD hS hl
          refine L367 _ (fun sm H locs ls hsm hP hD hS hl => ?_) (16 * i + 16 - (16 * i)) (16 * i) sm H _ ls (by omega) (hsm) hP hD hS hl
          refine lv_iinc (k := 1) (v := nI (i + 1)) (lv' := [(6, .int (nI (i + 1))), (7, .int (nI (16 * i + 16))), (5, .int sm), (4, .int (nI pn2)), (3, .int (nI (pa2 + 2))), (0, .ref mo), (1, .int (nI st)), (2, .int (nI us))]) hx hb d_Md_isPassword_160 hl rfl (nI_1 i) (by decide) rfl (fun ls hl => ?_)
          refine lv_goto (tgt := 34) hx hb d_Md_isPassword_163 (by decide) ?_
          have hl := lv_sub hl [0, 2, 3, 4, 5, 6, 7] (show _ = [(6, .int (nI (i + 1))), (5, .int sm), (4, .int (nI pn2)), (3, .int (nI (pa2 + 2))), (0, .ref mo), (1, .int (nI st)), (2, .int (nI us))] from rfl)
          have hP := hP.sub (ws' := [(r 5, .inl ((cT 0), 1920, .inl f5)), (r 6, .inl ((cT 0), 32, .inl f6)), (r 9, .inl ((cT 0), 1400, .inl g9_361)), (r 3, .inl ((cT 0), 160, .inl f3)), (r 4, .inl ((cT 0), 4, .inl f4)), (r 0, .inl ((cT 1), 64, .inr (.inl f0))), (r 11, .inl ((cT 0), 16, .inl g11_362)), (mo, .inr (12, mdG r cd tm (nI sn) (nI 0) (nI lz) (nI az) (nI na) (nI nt) (nI nr) mw ml mk dq)), (r 7, .inl ((cT 0), 1000, .inl f7))]) [0, 1, 3, 4, 5, 7, 8, 2, 6] rfl
          have hD := hD.sub (ws' := [(r 5, .inl ((cT 0), 1920, .inl f5)), (r 6, .inl ((cT 0), 32, .inl f6)), (r 9, .inl ((cT 0), 1400, .inl g9_361)), (r 3, .inl ((cT 0), 160, .inl f3)), (r 4, .inl ((cT 0), 4, .inl f4)), (r 0, .inl ((cT 1), 64, .inr (.inl f0))), (r 11, .inl ((cT 0), 16, .inl g11_362)), (mo, .inr (12, mdG r cd tm (nI sn) (nI 0) (nI lz) (nI az) (nI na) (nI nt) (nI nr) mw ml mk dq)), (r 7, .inl ((cT 0), 1000, .inl f7))]) [0, 1, 3, 4, 5, 7, 8, 2, 6] (by decide) rfl
          exact ih (i + 1) _ _ _ _ _ _ (by omega) (hsm) (by first | assumption | omega) hP hD hS hl
        · skip
          have n354 : i = 0 := (nI_eq (a := i) (b := 0) (by omega) (by omega)).mp hc352
          refine lv_iconst (v := 4) hx hb d_Md_isPassword_51 (by decide) ?_
          refine lv_goto (tgt := 65) hx hb d_Md_isPassword_52 (by decide) ?_
          refine lv_topi (fun x405 e404 => ?_)
          obtain rfl : x405 = nI 4 := by rw [e404]; rfl
          have hPc := hP.sub (ws' := [(mo, .inr (12, mdG r cd tm (nI sn) (nI 0) (nI lz) (nI az) (nI na) (nI nt) (nI nr) mw ml mk dq)), (r 9, .inl ((cT 0), 1400, .inl g9_343)), (r 3, .inl ((cT 0), 160, .inl f3)), (r 4, .inl ((cT 0), 4, .inl f4)), (r 7, .inl ((cT 0), 1000, .inl f7)), (r 0, .inl ((cT 1), 64, .inr (.inl f0))), (r 11, .inl ((cT 0), 16, .inl g11_344))]) [7, 2, 3, 4, 8, 5, 6] rfl
          have hDc := hD.sub (ws' := [(mo, .inr (12, mdG r cd tm (nI sn) (nI 0) (nI lz) (nI az) (nI na) (nI nt) (nI nr) mw ml mk dq)), (r 9, .inl ((cT 0), 1400, .inl g9_343)), (r 3, .inl ((cT 0), 160, .inl f3)), (r 4, .inl ((cT 0), 4, .inl f4)), (r 7, .inl ((cT 0), 1000, .inl f7)), (r 0, .inl ((cT 1), 64, .inr (.inl f0))), (r 11, .inl ((cT 0), 16, .inl g11_344))]) [7, 2, 3, 4, 8, 5, 6] (by decide) rfl
          have hFc := va_free (wc := [(mo, .inr (12, mdG r cd tm (nI sn) (nI 0) (nI lz) (nI az) (nI na) (nI nt) (nI nr) mw ml mk dq)), (r 9, .inl ((cT 0), 1400, .inl g9_343)), (r 3, .inl ((cT 0), 160, .inl f3)), (r 4, .inl ((cT 0), 4, .inl f4)), (r 7, .inl ((cT 0), 1000, .inl f7)), (r 0, .inl ((cT 1), 64, .inr (.inl f0))), (r 11, .inl ((cT 0), 16, .inl g11_344))]) hD hS hA [7, 2, 3, 4, 8, 5, 6] rfl
          refine va_callv (va_runV (C := "DoorServerModel") (As := [.int (nI st), .int (nI 4)]) (rest := []) ⟨hx, hb, hml, hown, hg⟩ (m_cover l dC dI cT H.size mo r cd tm sn 0 lz az na nt nr mw ml mk dq g9_343 f3 f4 f7 f0 g11_344 st sl 4 (by first | assumption | omega) (by first | assumption | omega) (by first | assumption | omega) (by first | assumption | omega) (by first | assumption | omega) (by first | assumption | omega)) (cwV 2 hg (gI (List.forall_mem_append.mpr ⟨List.forall_mem_cons.mpr ⟨k_1212, List.forall_mem_cons.mpr ⟨k_1214, List.forall_mem_cons.mpr ⟨(big_sel (q := y_Md_cover) (n := 45) (by decide +kernel)), List.forall_mem_cons.mpr ⟨k_13, fun _ h => absurd h List.not_mem_nil⟩⟩⟩⟩, List.forall_mem_cons.mpr ⟨k_1215, fun _ h => h⟩⟩)) rfl rfl rfl (by decide +kernel) ⟨Nat.le_of_ble_eq_true rfl, Nat.le_of_ble_eq_true rfl⟩) ⟨fun a U g mk q => by obtain ⟨q0, q1, qP, qK, qD⟩ := q; exact ⟨q0, q1, qP, va_K.moved (u := U) (U := U.calling g mk a) (Vm.Alike.refl U.vm) qK, qD⟩, va_recv (q0 := 7) (ci := 12) hK hP rfl rfl, fun U hU hW => ⟨rfl, by rw [hU], by rw [hU]; exact hPc, va_K.moved hW.alike hK, hDc.weaken (fun _ _ _ _ => trivial)⟩⟩ rfl rfl hl.1 rfl (lv_room (Nat.le_of_ble_eq_true rfl)) d_Md_isPassword_65 ⟨Nat.le_of_ble_eq_true rfl, Nat.le_of_ble_eq_true rfl⟩) hS (fun q _ h => hFc q h) hFc (fun u t H1 locs ht hvm hw hB hz1 hk1 hS => ?_)
          obtain ⟨g9_406, g11_407⟩ := u
          try dsimp only at hw hB
          obtain ⟨hP1, hK1, hD1⟩ := hB
          rw [ht] at hP1
          obtain ⟨hP, hD⟩ := va_join (wr := [(r 5, .inl ((cT 0), 1920, .inl f5)), (r 6, .inl ((cT 0), 32, .inl f6))]) (w1 := [(mo, .inr (12, mdG r cd tm (nI sn) (nI 0) (nI lz) (nI az) (nI na) (nI nt) (nI nr) mw ml mk dq)), (r 9, .inl ((cT 0), 1400, .inl g9_406)), (r 3, .inl ((cT 0), 160, .inl f3)), (r 4, .inl ((cT 0), 4, .inl f4)), (r 7, .inl ((cT 0), 1000, .inl f7)), (r 0, .inl ((cT 1), 64, .inr (.inl f0))), (r 11, .inl ((cT 0), 16, .inl g11_407))]) hP hD [7, 2, 3, 4, 8, 5, 6] [0, 1] rfl rfl (by decide) (by decide) hk1 hFc hP1 hD1
          have hw408 := hw
          clear hPc hDc hFc hz1 hk1 hP1 hK1 hD1
          generalize H1 = H at hP hS ⊢
          have hP : va_P (dC, dI) vcl [(r 5, .inl ((cT 0), 1920, .inl f5)), (r 6, .inl ((cT 0), 32, .inl f6)), (mo, .inr (12, mdG r cd tm (nI sn) (nI 0) (nI lz) (nI az) (nI na) (nI nt) (nI nr) mw ml mk dq)), (r 9, .inl ((cT 0), 1400, .inl g9_406)), (r 3, .inl ((cT 0), 160, .inl f3)), (r 4, .inl ((cT 0), 4, .inl f4)), (r 7, .inl ((cT 0), 1000, .inl f7)), (r 0, .inl ((cT 1), 64, .inr (.inl f0))), (r 11, .inl ((cT 0), 16, .inl g11_407))] H := hP
          have hD : va_D A [(r 5, .inl ((cT 0), 1920, .inl f5)), (r 6, .inl ((cT 0), 32, .inl f6)), (mo, .inr (12, mdG r cd tm (nI sn) (nI 0) (nI lz) (nI az) (nI na) (nI nt) (nI nr) mw ml mk dq)), (r 9, .inl ((cT 0), 1400, .inl g9_406)), (r 3, .inl ((cT 0), 160, .inl f3)), (r 4, .inl ((cT 0), 4, .inl f4)), (r 7, .inl ((cT 0), 1000, .inl f7)), (r 0, .inl ((cT 1), 64, .inr (.inl f0))), (r 11, .inl ((cT 0), 16, .inl g11_407))] := hD
          have k409 := hw408
          refine lv_bipush (v := 16) hx hb d_Md_isPassword_68 (by decide) ?_
          refine lv_iload hx hb d_Md_isPassword_70 (lv_at hl 0 rfl) ?_
          refine lv_imul hx hb d_Md_isPassword_72 ?_
          refine lv_topi (fun x411 e410 => ?_)
          obtain rfl : x411 = nI (16 * i) := by rw [e410]; exact pk_mul 16 i
          refine lv_istore (lv' := [(7, .int (nI (16 * i))), (6, .int (nI i)), (5, .int sm), (4, .int (nI pn2)), (3, .int (nI (pa2 + 2))), (0, .ref mo), (1, .int (nI st)), (2, .int (nI us))]) hx hb d_Md_isPassword_73 hl (by decide) rfl (fun ls hl => ?_)
          have hl := lv_sub hl [0, 1, 2, 3, 4, 5, 6, 7] (show _ = [(7, .int (nI (16 * i))), (6, .int (nI i)), (5, .int sm), (4, .int (nI pn2)), (3, .int (nI (pa2 + 2))), (0, .ref mo), (1, .int (nI st)), (2, .int (nI us))] from rfl)
          have L412 : ∀ (Q : State → Prop) (exit : ∀ (sm : Int32) (H : Heap) (locs : List Loc) (ls : Array Slot), (sm = 0 ∨ sm = 1) → va_P (dC, dI) vcl [(r 5, .inl ((cT 0), 1920, .inl f5)), (r 6, .inl ((cT 0), 32, .inl f6)), (mo, .inr (12, mdG r cd tm (nI sn) (nI 0) (nI lz) (nI az) (nI na) (nI nt) (nI nr) mw ml mk dq)), (r 9, .inl ((cT 0), 1400, .inl g9_406)), (r 3, .inl ((cT 0), 160, .inl f3)), (r 4, .inl ((cT 0), 4, .inl f4)), (r 7, .inl ((cT 0), 1000, .inl f7)), (r 0, .inl ((cT 1), 64, .inr (.inl f0))), (r 11, .inl ((cT 0), 16, .inl g11_407))] H → va_D A [(r 5, .inl ((cT 0), 1920, .inl f5)), (r 6, .inl ((cT 0), 32, .inl f6)), (mo, .inr (12, mdG r cd tm (nI sn) (nI 0) (nI lz) (nI az) (nI na) (nI nt) (nI nr) mw ml mk dq)), (r 9, .inl ((cT 0), 1400, .inl g9_406)), (r 3, .inl ((cT 0), 160, .inl f3)), (r 4, .inl ((cT 0), 4, .inl f4)), (r 7, .inl ((cT 0), 1000, .inl f7)), (r 0, .inl ((cT 1), 64, .inr (.inl f0))), (r 11, .inl ((cT 0), 16, .inl g11_407))] → va_S A s.heap H locs → lv_has ls 9 [(7, .int (nI (16 * i + 16))), (6, .int (nI i)), (5, .int sm), (4, .int (nI pn2)), (3, .int (nI (pa2 + 2))), (0, .ref mo), (1, .int (nI st)), (2, .int (nI us))] → W p l e ({ frames := 3, cells := 0, slots := 0, locals := 92 } : Room) s m args below meth c H locs 0 0 Q (F0 m 160 ls [])) (j8 q9 : Nat) (sm : Int32) (H : Heap) (locs : List Loc) (ls : Array Slot), q9 + j8 = 16 * i + 16 → (sm = 0 ∨ sm = 1) → va_P (dC, dI) vcl [(r 5, .inl ((cT 0), 1920, .inl f5)), (r 6, .inl ((cT 0), 32, .inl f6)), (mo, .inr (12, mdG r cd tm (nI sn) (nI 0) (nI lz) (nI az) (nI na) (nI nt) (nI nr) mw ml mk dq)), (r 9, .inl ((cT 0), 1400, .inl g9_406)), (r 3, .inl ((cT 0), 160, .inl f3)), (r 4, .inl ((cT 0), 4, .inl f4)), (r 7, .inl ((cT 0), 1000, .inl f7)), (r 0, .inl ((cT 1), 64, .inr (.inl f0))), (r 11, .inl ((cT 0), 16, .inl g11_407))] H → va_D A [(r 5, .inl ((cT 0), 1920, .inl f5)), (r 6, .inl ((cT 0), 32, .inl f6)), (mo, .inr (12, mdG r cd tm (nI sn) (nI 0) (nI lz) (nI az) (nI na) (nI nt) (nI nr) mw ml mk dq)), (r 9, .inl ((cT 0), 1400, .inl g9_406)), (r 3, .inl ((cT 0), 160, .inl f3)), (r 4, .inl ((cT 0), 4, .inl f4)), (r 7, .inl ((cT 0), 1000, .inl f7)), (r 0, .inl ((cT 1), 64, .inr (.inl f0))), (r 11, .inl ((cT 0), 16, .inl g11_407))] → va_S A s.heap H locs → lv_has ls 9 [(7, .int (nI q9)), (6, .int (nI i)), (5, .int sm), (4, .int (nI pn2)), (3, .int (nI (pa2 + 2))), (0, .ref mo), (1, .int (nI st)), (2, .int (nI us))] → W p l e ({ frames := 3, cells := 0, slots := 0, locals := 92 } : Room) s m args below meth c H locs 0 0 Q (F0 m 75 ls []) := by
            intro Q exit j8
            induction j8 with
            | zero => 
              intro q9 sm H locs ls hij hsm hP hD hS hl
              have hij : 16 * i + 16 = q9 := by omega
              refine lv_iload hx hb d_Md_isPassword_75 (lv_at hl 0 rfl) ?_
              refine lv_bipush (v := 16) hx hb d_Md_isPassword_77 (by decide) ?_
              refine lv_iload hx hb d_Md_isPassword_79 (lv_at hl 1 rfl) ?_
              refine lv_imul hx hb d_Md_isPassword_81 ?_
              refine lv_topi (fun x414 e413 => ?_)
              obtain rfl : x414 = nI (16 * i) := by rw [e413]; exact pk_mul 16 i
              refine lv_bipush (v := 16) hx hb d_Md_isPassword_82 (by decide) ?_
              refine lv_iadd hx hb d_Md_isPassword_84 ?_
              refine lv_topi (fun x416 e415 => ?_)
              obtain rfl : x416 = nI ((16 * i) + 16) := by rw [e415]; exact nI_add (16 * i) 16
              refine lv_icmp_ge (tgt := 160) hx hb d_Md_isPassword_85 (by decide) (fun hc417 => ?_) (fun hn9 => absurd (nI_le (by omega) (by omega)) hn9)
              subst hij
              exact exit sm _ _ _ hsm hP hD hS hl
            | succ j8 ih => 
              intro q9 sm H locs ls hij hsm hP hD hS hl
              have hlt : q9 < 16 * i + 16 := by omega
              have hltq9 := hlt
              refine lv_iload hx hb d_Md_isPassword_75 (lv_at hl 0 rfl) ?_
              refine lv_bipush (v := 16) hx hb d_Md_isPassword_77 (by decide) ?_
              refine lv_iload hx hb d_Md_isPassword_79 (lv_at hl 1 rfl) ?_
              refine lv_imul hx hb d_Md_isPassword_81 ?_
              refine lv_topi (fun x419 e418 => ?_)
              obtain rfl : x419 = nI (16 * i) := by rw [e418]; exact pk_mul 16 i
              refine lv_bipush (v := 16) hx hb d_Md_isPassword_82 (by decide) ?_
              refine lv_iadd hx hb d_Md_isPassword_84 ?_
              refine lv_topi (fun x421 e420 => ?_)
              obtain rfl : x421 = nI ((16 * i) + 16) := by rw [e420]; exact nI_add (16 * i) 16
              refine lv_icmp_ge (tgt := 160) hx hb d_Md_isPassword_85 (by decide) (fun hn9 => absurd hn9 (nI_ge (by omega) (by omega))) (fun hc422 => ?_)
              refine lv_iload hx hb d_Md_isPassword_88 (lv_at hl 0 rfl) ?_
              refine lv_aload_n hx hb d_Md_isPassword_90 rfl (lv_at hl 5 rfl) ?_
              refine va_get (D := (dC, dI)) (ci := 12) (v := (.ref (r 6))) (C := R_Md) (T := F_Md) (N := 45) hx hb hg in_Md hown hK hP 2 rfl rfl 6 (by decide) (hg _ k_1026) (fun _ h9 => h9) rfl d_Md_isPassword_91 ?_
              refine lv_iload_n hx hb d_Md_isPassword_94 rfl (lv_at hl 7 rfl) ?_
              refine va_iald hx hb hK hP 1 0 rfl rfl (i := (nI us)) (vp_in_nI (N := 32) (by omega) (by decide)) d_Md_isPassword_95 ?_
              refine lv_topi (fun x424 e423 => ?_)
              obtain rfl : x424 = nI t227 := by rw [e423]; rw [nI_clamp (by omega)]; exact xt227
              refine lv_icmp_ge (tgt := 114) hx hb d_Md_isPassword_96 (by decide) (fun hc425 => ?_) (fun hc425 => ?_)
              · skip
                have n426 : t227 ≤ q9 := (nI_leI (a := t227) (b := q9) (by omega) (by omega)).mp hc425
                refine lv_iconst (v := 0) hx hb d_Md_isPassword_114 (by decide) ?_
                refine lv_istore (lv' := [(8, .int 0), (7, .int (nI q9)), (6, .int (nI i)), (5, .int sm), (4, .int (nI pn2)), (3, .int (nI (pa2 + 2))), (0, .ref mo), (1, .int (nI st)), (2, .int (nI us))]) hx hb d_Md_isPassword_115 hl (by decide) rfl (fun ls hl => ?_)
                refine lv_iload hx hb d_Md_isPassword_117 (lv_at hl 3 rfl) ?_
                refine lv_if_eq (tgt := 151) hx hb d_Md_isPassword_119 (by decide) (fun hc428 => ?_) (fun hc428 => ?_)
                · skip
                  refine lv_iconst (v := 0) hx hb d_Md_isPassword_151 (by decide) ?_
                  refine lv_istore (lv' := [(5, .int 0), (8, .int 0), (7, .int (nI q9)), (6, .int (nI i)), (4, .int (nI pn2)), (3, .int (nI (pa2 + 2))), (0, .ref mo), (1, .int (nI st)), (2, .int (nI us))]) hx hb d_Md_isPassword_152 hl (by decide) rfl (fun ls hl => ?_)
                  refine lv_iinc (k := 2) (v := nI (q9 + 1)) (lv' := [(7, .int (nI (q9 + 1))), (5, .int 0), (8, .int 0), (6, .int (nI i)), (4, .int (nI pn2)), (3, .int (nI (pa2 + 2))), (0, .ref mo), (1, .int (nI st)), (2, .int (nI us))]) hx hb d_Md_isPassword_154 hl rfl (nI_1 q9) (by decide) rfl (fun ls hl => ?_)
                  refine lv_goto (tgt := 75) hx hb d_Md_isPassword_157 (by decide) ?_
                  have hl := lv_sub hl [0, 3, 1, 4, 5, 6, 7, 8] (show _ = [(7, .int (nI (q9 + 1))), (6, .int (nI i)), (5, .int 0), (4, .int (nI pn2)), (3, .int (nI (pa2 + 2))), (0, .ref mo), (1, .int (nI st)), (2, .int (nI us))] from rfl)
                  exact ih (q9 + 1) _ _ _ _ (by omega) (Or.inl rfl) hP hD hS hl
                · skip
                  refine lv_aload_n hx hb d_Md_isPassword_122 rfl (lv_at hl 6 rfl) ?_
                  refine va_get (D := (dC, dI)) (ci := 12) (v := (.ref (r 7))) (C := R_Md) (T := F_Md) (N := 45) hx hb hg in_Md hown hK hP 2 rfl rfl 7 (by decide) (hg _ k_1027) (fun _ h9 => h9) rfl d_Md_isPassword_123 ?_
                  refine lv_iload_n hx hb d_Md_isPassword_126 rfl (lv_at hl 5 rfl) ?_
                  refine lv_iload hx hb d_Md_isPassword_127 (lv_at hl 1 rfl) ?_
                  refine lv_iadd hx hb d_Md_isPassword_129 ?_
                  refine lv_topi (fun x430 e429 => ?_)
                  obtain rfl : x430 = nI (pa2 + 2 + q9) := by rw [e429]; exact nI_add (pa2 + 2) q9
                  refine va_iald hx hb hK hP 6 0 rfl rfl (i := (nI (pa2 + 2 + q9))) (vp_in_nI (N := 1000) (by omega) (by decide)) d_Md_isPassword_130 ?_
                  refine lv_topi (fun x431 e_x431 => ?_)
                  clear e_x431
                  refine lv_aload_n hx hb d_Md_isPassword_131 rfl (lv_at hl 6 rfl) ?_
                  refine va_get (D := (dC, dI)) (ci := 12) (v := (.ref (r 11))) (C := R_Md) (T := F_Md) (N := 45) hx hb hg in_Md hown hK hP 2 rfl rfl 11 (by decide) (hg _ k_1031) (fun _ h9 => h9) rfl d_Md_isPassword_132 ?_
                  refine lv_iload hx hb d_Md_isPassword_135 (lv_at hl 1 rfl) ?_
                  refine lv_bipush (v := 16) hx hb d_Md_isPassword_137 (by decide) ?_
                  refine lv_irem hx hb d_Md_isPassword_139 (by decide) ?_
                  refine lv_topi (fun x433 e432 => ?_)
                  obtain rfl : x433 = nI (q9 % 16) := by rw [e432]; exact pk_rem (d := 16) (by omega) (by decide) (by decide)
                  refine va_iald hx hb hK hP 8 0 rfl rfl (i := (nI (q9 % 16))) (vp_in_nI (N := 16) (by omega) (by decide)) d_Md_isPassword_140 ?_
                  refine lv_topi (fun x434 e_x434 => ?_)
                  clear e_x434
                  refine lv_ixor hx hb d_Md_isPassword_141 ?_
                  refine lv_iload hx hb d_Md_isPassword_142 (lv_at hl 0 rfl) ?_
                  refine lv_icmp_ne (tgt := 151) hx hb d_Md_isPassword_144 (by decide) (fun hc435 => ?_) (fun hc435 => ?_)
                  · skip
                    refine lv_iconst (v := 0) hx hb d_Md_isPassword_151 (by decide) ?_
                    refine lv_istore (lv' := [(5, .int 0), (8, .int 0), (7, .int (nI q9)), (6, .int (nI i)), (4, .int (nI pn2)), (3, .int (nI (pa2 + 2))), (0, .ref mo), (1, .int (nI st)), (2, .int (nI us))]) hx hb d_Md_isPassword_152 hl (by decide) rfl (fun ls hl => ?_)
                    refine lv_iinc (k := 2) (v := nI (q9 + 1)) (lv' := [(7, .int (nI (q9 + 1))), (5, .int 0), (8, .int 0), (6, .int (nI i)), (4, .int (nI pn2)), (3, .int (nI (pa2 + 2))), (0, .ref mo), (1, .int (nI st)), (2, .int (nI us))]) hx hb d_Md_isPassword_154 hl rfl (nI_1 q9) (by decide) rfl (fun ls hl => ?_)
                    refine lv_goto (tgt := 75) hx hb d_Md_isPassword_157 (by decide) ?_
                    have hl := lv_sub hl [0, 3, 1, 4, 5, 6, 7, 8] (show _ = [(7, .int (nI (q9 + 1))), (6, .int (nI i)), (5, .int 0), (4, .int (nI pn2)), (3, .int (nI (pa2 + 2))), (0, .ref mo), (1, .int (nI st)), (2, .int (nI us))] from rfl)
                    exact ih (q9 + 1) _ _ _ _ (by omega) (Or.inl rfl) hP hD hS hl
                  · skip
                    refine lv_iconst (v := 1) hx hb d_Md_isPassword_147 (by decide) ?_
                    refine lv_goto (tgt := 152) hx hb d_Md_isPassword_148 (by decide) ?_
                    refine lv_istore (lv' := [(5, .int 1), (8, .int 0), (7, .int (nI q9)), (6, .int (nI i)), (4, .int (nI pn2)), (3, .int (nI (pa2 + 2))), (0, .ref mo), (1, .int (nI st)), (2, .int (nI us))]) hx hb d_Md_isPassword_152 hl (by decide) rfl (fun ls hl => ?_)
                    refine lv_iinc (k := 2) (v := nI (q9 + 1)) (lv' := [(7, .int (nI (q9 + 1))), (5, .int 1), (8, .int 0), (6, .int (nI i)), (4, .int (nI pn2)), (3, .int (nI (pa2 + 2))), (0, .ref mo), (1, .int (nI st)), (2, .int (nI us))]) hx hb d_Md_isPassword_154 hl rfl (nI_1 q9) (by decide) rfl (fun ls hl => ?_)
                    refine lv_goto (tgt := 75) hx hb d_Md_isPassword_157 (by decide) ?_
                    have hl := lv_sub hl [0, 3, 1, 4, 5, 6, 7, 8] (show _ = [(7, .int (nI (q9 + 1))), (6, .int (nI i)), (5, .int 1), (4, .int (nI pn2)), (3, .int (nI (pa2 + 2))), (0, .ref mo), (1, .int (nI st)), (2, .int (nI us))] from rfl)
                    exact ih (q9 + 1) _ _ _ _ (by omega) (Or.inr rfl) hP hD hS hl
              · skip
                have n427 : q9 < t227 := Nat.not_le.mp (fun h7 => hc425 ((nI_leI (a := t227) (b := q9) (by omega) (by omega)).mpr h7))
                refine lv_aload_n hx hb d_Md_isPassword_99 rfl (lv_at hl 5 rfl) ?_
                refine va_get (D := (dC, dI)) (ci := 12) (v := (.ref (r 5))) (C := R_Md) (T := F_Md) (N := 45) hx hb hg in_Md hown hK hP 2 rfl rfl 5 (by decide) (hg _ k_1025) (fun _ h9 => h9) rfl d_Md_isPassword_100 ?_
                refine lv_bipush (v := 60) hx hb d_Md_isPassword_103 (by decide) ?_
                refine lv_iload_n hx hb d_Md_isPassword_105 rfl (lv_at hl 7 rfl) ?_
                refine lv_imul hx hb d_Md_isPassword_106 ?_
                refine lv_topi (fun x437 e436 => ?_)
                obtain rfl : x437 = nI (60 * us) := by rw [e436]; exact pk_mul 60 us
                refine lv_iload hx hb d_Md_isPassword_107 (lv_at hl 0 rfl) ?_
                refine lv_iadd hx hb d_Md_isPassword_109 ?_
                refine lv_topi (fun x439 e438 => ?_)
                obtain rfl : x439 = nI ((60 * us) + q9) := by rw [e438]; exact nI_add (60 * us) q9
                refine va_iald hx hb hK hP 0 0 rfl rfl (i := (nI ((60 * us) + q9))) (vp_in_nI (N := 1920) (by omega) (by decide)) d_Md_isPassword_110 ?_
                refine lv_topi (fun x440 e_x440 => ?_)
                clear e_x440
                refine lv_goto (tgt := 115) hx hb d_Md_isPassword_111 (by decide) ?_
                refine lv_istore (lv' := [(8, .int x440), (7, .int (nI q9)), (6, .int (nI i)), (5, .int sm), (4, .int (nI pn2)), (3, .int (nI (pa2 + 2))), (0, .ref mo), (1, .int (nI st)), (2, .int (nI us))]) hx hb d_Md_isPassword_115 hl (by decide) rfl (fun ls hl => ?_)
                refine lv_iload hx hb d_Md_isPassword_117 (lv_at hl 3 rfl) ?_
                refine lv_if_eq (tgt := 151) hx hb d_Md_isPassword_119 (by decide) (fun hc441 => ?_) (fun hc441 => ?_)
                · skip
                  refine lv_iconst (v := 0) hx hb d_Md_isPassword_151 (by decide) ?_
                  refine lv_istore (lv' := [(5, .int 0), (8, .int x440), (7, .int (nI q9)), (6, .int (nI i)), (4, .int (nI pn2)), (3, .int (nI (pa2 + 2))), (0, .ref mo), (1, .int (nI st)), (2, .int (nI us))]) hx hb d_Md_isPassword_152 hl (by decide) rfl (fun ls hl => ?_)
                  refine lv_iinc (k := 2) (v := nI (q9 + 1)) (lv' := [(7, .int (nI (q9 + 1))), (5, .int 0), (8, .int x440), (6, .int (nI i)), (4, .int (nI pn2)), (3, .int (nI (pa2 + 2))), (0, .ref mo), (1, .int (nI st)), (2, .int (nI us))]) hx hb d_Md_isPassword_154 hl rfl (nI_1 q9) (by decide) rfl (fun ls hl => ?_)
                  refine lv_goto (tgt := 75) hx hb d_Md_isPassword_157 (by decide) ?_
                  have hl := lv_sub hl [0, 3, 1, 4, 5, 6, 7, 8] (show _ = [(7, .int (nI (q9 + 1))), (6, .int (nI i)), (5, .int 0), (4, .int (nI pn2)), (3, .int (nI (pa2 + 2))), (0, .ref mo), (1, .int (nI st)), (2, .int (nI us))] from rfl)
                  exact ih (q9 + 1) _ _ _ _ (by omega) (Or.inl rfl) hP hD hS hl
                · skip
                  refine lv_aload_n hx hb d_Md_isPassword_122 rfl (lv_at hl 6 rfl) ?_
                  refine va_get (D := (dC, dI)) (ci := 12) (v := (.ref (r 7))) (C := R_Md) (T := F_Md) (N := 45) hx hb hg in_Md hown hK hP 2 rfl rfl 7 (by decide) (hg _ k_1027) (fun _ h9 => h9) rfl d_Md_isPassword_123 ?_
                  refine lv_iload_n hx hb d_Md_isPassword_126 rfl (lv_at hl 5 rfl) ?_
                  refine lv_iload hx hb d_Md_isPassword_127 (lv_at hl 1 rfl) ?_
                  refine lv_iadd hx hb d_Md_isPassword_129 ?_
                  refine lv_topi (fun x443 e442 => ?_)
                  obtain rfl : x443 = nI (pa2 + 2 + q9) := by rw [e442]; exact nI_add (pa2 + 2) q9
                  refine va_iald hx hb hK hP 6 0 rfl rfl (i := (nI (pa2 + 2 + q9))) (vp_in_nI (N := 1000) (by omega) (by decide)) d_Md_isPassword_130 ?_
                  refine lv_topi (fun x444 e_x444 => ?_)
                  clear e_x444
                  refine lv_aload_n hx hb d_Md_isPassword_131 rfl (lv_at hl 6 rfl) ?_
                  refine va_get (D := (dC, dI)) (ci := 12) (v := (.ref (r 11))) (C := R_Md) (T := F_Md) (N := 45) hx hb hg in_Md hown hK hP 2 rfl rfl 11 (by decide) (hg _ k_1031) (fun _ h9 => h9) rfl d_Md_isPassword_132 ?_
                  refine lv_iload hx hb d_Md_isPassword_135 (lv_at hl 1 rfl) ?_
                  refine lv_bipush (v := 16) hx hb d_Md_isPassword_137 (by decide) ?_
                  refine lv_irem hx hb d_Md_isPassword_139 (by decide) ?_
                  refine lv_topi (fun x446 e445 => ?_)
                  obtain rfl : x446 = nI (q9 % 16) := by rw [e445]; exact pk_rem (d := 16) (by omega) (by decide) (by decide)
                  refine va_iald hx hb hK hP 8 0 rfl rfl (i := (nI (q9 % 16))) (vp_in_nI (N := 16) (by omega) (by decide)) d_Md_isPassword_140 ?_
                  refine lv_topi (fun x447 e_x447 => ?_)
                  clear e_x447
                  refine lv_ixor hx hb d_Md_isPassword_141 ?_
                  refine lv_iload hx hb d_Md_isPassword_142 (lv_at hl 0 rfl) ?_
                  refine lv_icmp_ne (tgt := 151) hx hb d_Md_isPassword_144 (by decide) (fun hc448 => ?_) (fun hc448 => ?_)
                  · skip
                    refine lv_iconst (v := 0) hx hb d_Md_isPassword_151 (by decide) ?_
                    refine lv_istore (lv' := [(5, .int 0), (8, .int x440), (7, .int (nI q9)), (6, .int (nI i)), (4, .int (nI pn2)), (3, .int (nI (pa2 + 2))), (0, .ref mo), (1, .int (nI st)), (2, .int (nI us))]) hx hb d_Md_isPassword_152 hl (by decide) rfl (fun ls hl => ?_)
                    refine lv_iinc (k := 2) (v := nI (q9 + 1)) (lv' := [(7, .int (nI (q9 + 1))), (5, .int 0), (8, .int x440), (6, .int (nI i)), (4, .int (nI pn2)), (3, .int (nI (pa2 + 2))), (0, .ref mo), (1, .int (nI st)), (2, .int (nI us))]) hx hb d_Md_isPassword_154 hl rfl (nI_1 q9) (by decide) rfl (fun ls hl => ?_)
                    refine lv_goto (tgt := 75) hx hb d_Md_isPassword_157 (by decide) ?_
                    have hl := lv_sub hl [0, 3, 1, 4, 5, 6, 7, 8] (show _ = [(7, .int (nI (q9 + 1))), (6, .int (nI i)), (5, .int 0), (4, .int (nI pn2)), (3, .int (nI (pa2 + 2))), (0, .ref mo), (1, .int (nI st)), (2, .int (nI us))] from rfl)
                    exact ih (q9 + 1) _ _ _ _ (by omega) (Or.inl rfl) hP hD hS hl
                  · skip
                    refine lv_iconst (v := 1) hx hb d_Md_isPassword_147 (by decide) ?_
                    refine lv_goto (tgt := 152) hx hb d_Md_isPassword_148 (by decide) ?_
                    refine lv_istore (lv' := [(5, .int 1), (8, .int x440), (7, .int (nI q9)), (6, .int (nI i)), (4, .int (nI pn2)), (3, .int (nI (pa2 + 2))), (0, .ref mo), (1, .int (nI st)), (2, .int (nI us))]) hx hb d_Md_isPassword_152 hl (by decide) rfl (fun ls hl => ?_)
                    refine lv_iinc (k := 2) (v := nI (q9 + 1)) (lv' := [(7, .int (nI (q9 + 1))), (5, .int 1), (8, .int x440), (6, .int (nI i)), (4, .int (nI pn2)), (3, .int (nI (pa2 + 2))), (0, .ref mo), (1, .int (nI st)), (2, .int (nI us))]) hx hb d_Md_isPassword_154 hl rfl (nI_1 q9) (by decide) rfl (fun ls hl => ?_)
                    refine lv_goto (tgt := 75) hx hb d_Md_isPassword_157 (by decide) ?_
                    have hl := lv_sub hl [0, 3, 1, 4, 5, 6, 7, 8] (show _ = [(7, .int (nI (q9 + 1))), (6, .int (nI i)), (5, .int 1), (4, .int (nI pn2)), (3, .int (nI (pa2 + 2))), (0, .ref mo), (1, .int (nI st)), (2, .int (nI us))] from rfl)
                    exact ih (q9 + 1) _ _ _ _ (by omega) (Or.inr rfl) hP hD hS hl
          refine L412 _ (fun sm H locs ls hsm hP hD hS hl => ?_) (16 * i + 16 - (16 * i)) (16 * i) sm H _ ls (by omega) (hsm) hP hD hS hl
          refine lv_iinc (k := 1) (v := nI (i + 1)) (lv' := [(6, .int (nI (i + 1))), (7, .int (nI (16 * i + 16))), (5, .int sm), (4, .int (nI pn2)), (3, .int (nI (pa2 + 2))), (0, .ref mo), (1, .int (nI st)), (2, .int (nI us))]) hx hb d_Md_isPassword_160 hl rfl (nI_1 i) (by decide) rfl (fun ls hl => ?_)
          refine lv_goto (tgt := 34) hx hb d_Md_isPassword_163 (by decide) ?_
          have hl := lv_sub hl [0, 2, 3, 4, 5, 6, 7] (show _ = [(6, .int (nI (i + 1))), (5, .int sm), (4, .int (nI pn2)), (3, .int (nI (pa2 + 2))), (0, .ref mo), (1, .int (nI st)), (2, .int (nI us))] from rfl)
          have hP := hP.sub (ws' := [(r 5, .inl ((cT 0), 1920, .inl f5)), (r 6, .inl ((cT 0), 32, .inl f6)), (r 9, .inl ((cT 0), 1400, .inl g9_406)), (r 3, .inl ((cT 0), 160, .inl f3)), (r 4, .inl ((cT 0), 4, .inl f4)), (r 0, .inl ((cT 1), 64, .inr (.inl f0))), (r 11, .inl ((cT 0), 16, .inl g11_407)), (mo, .inr (12, mdG r cd tm (nI sn) (nI 0) (nI lz) (nI az) (nI na) (nI nt) (nI nr) mw ml mk dq)), (r 7, .inl ((cT 0), 1000, .inl f7))]) [0, 1, 3, 4, 5, 7, 8, 2, 6] rfl
          have hD := hD.sub (ws' := [(r 5, .inl ((cT 0), 1920, .inl f5)), (r 6, .inl ((cT 0), 32, .inl f6)), (r 9, .inl ((cT 0), 1400, .inl g9_406)), (r 3, .inl ((cT 0), 160, .inl f3)), (r 4, .inl ((cT 0), 4, .inl f4)), (r 0, .inl ((cT 1), 64, .inr (.inl f0))), (r 11, .inl ((cT 0), 16, .inl g11_407)), (mo, .inr (12, mdG r cd tm (nI sn) (nI 0) (nI lz) (nI az) (nI na) (nI nt) (nI nr) mw ml mk dq)), (r 7, .inl ((cT 0), 1000, .inl f7))]) [0, 1, 3, 4, 5, 7, 8, 2, 6] (by decide) rfl
          exact ih (i + 1) _ _ _ _ _ _ (by omega) (hsm) (by first | assumption | omega) hP hD hS hl
    refine L345 _ (fun g9_343 g11_344 sm H locs ls hsm hdb hP hD hS hl => ?_) (pn2 / 16 - 0) 0 f9 f11 1 H _ ls (by omega) (Or.inr rfl) (by first | assumption | omega) hP hD hS hl
    refine lv_iload hx hb d_Md_isPassword_166 (lv_at hl 1 rfl) ?_
    rcases hsm with h7s | h7s
    · skip
      refine lv_topi (fun x450 e449 => ?_)
      obtain rfl : x450 = 0 := by rw [e449]; exact h7s
      have hP9 := hP.sub (ws' := [(mo, .inr (12, mdG r cd tm (nI sn) (nI 0) (nI lz) (nI az) (nI na) (nI nt) (nI nr) mw ml mk dq)), (r 5, .inl ((cT 0), 1920, .inl f5)), (r 6, .inl ((cT 0), 32, .inl f6)), (r 7, .inl ((cT 0), 1000, .inl f7)), (r 9, .inl ((cT 0), 1400, .inl g9_343)), (r 3, .inl ((cT 0), 160, .inl f3)), (r 4, .inl ((cT 0), 4, .inl f4)), (r 0, .inl ((cT 1), 64, .inr (.inl f0))), (r 11, .inl ((cT 0), 16, .inl g11_344))]) [7, 0, 1, 8, 2, 3, 4, 5, 6] rfl
      have hD9 := hD.sub (ws' := [(mo, .inr (12, mdG r cd tm (nI sn) (nI 0) (nI lz) (nI az) (nI na) (nI nt) (nI nr) mw ml mk dq)), (r 5, .inl ((cT 0), 1920, .inl f5)), (r 6, .inl ((cT 0), 32, .inl f6)), (r 7, .inl ((cT 0), 1000, .inl f7)), (r 9, .inl ((cT 0), 1400, .inl g9_343)), (r 3, .inl ((cT 0), 160, .inl f3)), (r 4, .inl ((cT 0), 4, .inl f4)), (r 0, .inl ((cT 1), 64, .inr (.inl f0))), (r 11, .inl ((cT 0), 16, .inl g11_344))]) [7, 0, 1, 8, 2, 3, 4, 5, 6] (by decide) rfl
      exact W.zret (v := 0) hx hb hr (by first | rfl | decide) (fun t ht hW => ⟨⟨_, ⟨g9_343, g11_344⟩, rfl, ⟨Or.inl rfl, by assumption⟩, by rw [ht]; exact hP9, va_K.moved hW.alike hK, hD9⟩, hS.F ht⟩) hS.2.2 d_Md_isPassword_168
    · skip
      refine lv_topi (fun x452 e451 => ?_)
      obtain rfl : x452 = 1 := by rw [e451]; exact h7s
      have hP9 := hP.sub (ws' := [(mo, .inr (12, mdG r cd tm (nI sn) (nI 0) (nI lz) (nI az) (nI na) (nI nt) (nI nr) mw ml mk dq)), (r 5, .inl ((cT 0), 1920, .inl f5)), (r 6, .inl ((cT 0), 32, .inl f6)), (r 7, .inl ((cT 0), 1000, .inl f7)), (r 9, .inl ((cT 0), 1400, .inl g9_343)), (r 3, .inl ((cT 0), 160, .inl f3)), (r 4, .inl ((cT 0), 4, .inl f4)), (r 0, .inl ((cT 1), 64, .inr (.inl f0))), (r 11, .inl ((cT 0), 16, .inl g11_344))]) [7, 0, 1, 8, 2, 3, 4, 5, 6] rfl
      have hD9 := hD.sub (ws' := [(mo, .inr (12, mdG r cd tm (nI sn) (nI 0) (nI lz) (nI az) (nI na) (nI nt) (nI nr) mw ml mk dq)), (r 5, .inl ((cT 0), 1920, .inl f5)), (r 6, .inl ((cT 0), 32, .inl f6)), (r 7, .inl ((cT 0), 1000, .inl f7)), (r 9, .inl ((cT 0), 1400, .inl g9_343)), (r 3, .inl ((cT 0), 160, .inl f3)), (r 4, .inl ((cT 0), 4, .inl f4)), (r 0, .inl ((cT 1), 64, .inr (.inl f0))), (r 11, .inl ((cT 0), 16, .inl g11_344))]) [7, 0, 1, 8, 2, 3, 4, 5, 6] (by decide) rfl
      exact W.zret (v := 1) hx hb hr (by first | rfl | decide) (fun t ht hW => ⟨⟨_, ⟨g9_343, g11_344⟩, rfl, ⟨Or.inr rfl, by assumption⟩, by rw [ht]; exact hP9, va_K.moved hW.alike hK, hD9⟩, hS.F ht⟩) hS.2.2 d_Md_isPassword_168
set_option maxHeartbeats 4000000 in
set_option maxRecDepth 100000 in
/-- dropTrial -/
theorem m_dropTrial (l : Launch) (dC : Nat → ClassId) (dI : Nat → Nat → Nat) (cT : Nat → ClassId) (sz : Nat) (mo : Nat) (r : Nat → Nat) (cd : Int32) (tm : Int32) (sn : Nat) (tx : Nat) (lz : Nat) (az : Nat) (na : Nat) (nt : Nat) (nr : Nat) (mw : Int32) (ml : Int32) (mk : Int64) (dq : Int64) (f25 : Nat → Int64) (f26 : Nat → Int32) (f27 : Nat → Int32) (f28 : Nat → Int32) (f29 : Nat → Int32) (f30 : Nat → Int32) (a : Nat) (ha : a < nt) (hnt : nt ≤ 6) : Met l y_Md_dropTrial (Cond.code y_Md_dropTrial b_Md_dropTrial 4 (Option.none : Option Jvm.ClassFile.FieldType) :: BIG) ({ frames := 0, cells := 0, slots := 0, locals := 0 }) (va_Pc [.ref mo, .int (nI a)] (fun U => U.heap.size = sz ∧ va_P (dC, dI) vcl [(mo, .inr (12, mdG r cd tm (nI sn) (nI tx) (nI lz) (nI az) (nI na) (nI nt) (nI nr) mw ml mk dq)), (r 25, .inl ((cT 1), 7, .inr (.inl f25))), (r 26, .inl ((cT 0), 7, .inl f26)), (r 27, .inl ((cT 0), 7, .inl f27)), (r 28, .inl ((cT 0), 7, .inl f28)), (r 29, .inl ((cT 0), 7, .inl f29)), (r 30, .inl ((cT 0), 112, .inl f30))] U.heap ∧ va_K (dC, dI) vcl (tyL cT) U ∧ va_D (fun _ => True) [(mo, .inr (12, mdG r cd tm (nI sn) (nI tx) (nI lz) (nI az) (nI na) (nI nt) (nI nr) mw ml mk dq)), (r 25, .inl ((cT 1), 7, .inr (.inl f25))), (r 26, .inl ((cT 0), 7, .inl f26)), (r 27, .inl ((cT 0), 7, .inl f27)), (r 28, .inl ((cT 0), 7, .inl f28)), (r 29, .inl ((cT 0), 7, .inl f29)), (r 30, .inl ((cT 0), 112, .inl f30))])) (va_Qv (S := (Nat → Int64) × (Nat → Int32) × (Nat → Int32) × (Nat → Int32) × (Nat → Int32) × (Nat → Int32)) (fun u => match u with | (g25, g26, g27, g28, g29, g30) => True) (fun u t => match u with | (g25, g26, g27, g28, g29, g30) => va_P (dC, dI) vcl [(mo, .inr (12, mdG r cd tm (nI sn) (nI tx) (nI lz) (nI az) (nI na) (nI (nt - 1)) (nI nr) mw ml mk dq)), (r 25, .inl ((cT 1), 7, .inr (.inl g25))), (r 26, .inl ((cT 0), 7, .inl g26)), (r 27, .inl ((cT 0), 7, .inl g27)), (r 28, .inl ((cT 0), 7, .inl g28)), (r 29, .inl ((cT 0), 7, .inl g29)), (r 30, .inl ((cT 0), 112, .inl g30))] t.heap ∧ va_K (dC, dI) vcl (tyL cT) t ∧ va_D (va_A [(mo, .inr (12, mdG r cd tm (nI sn) (nI tx) (nI lz) (nI az) (nI na) (nI nt) (nI nr) mw ml mk dq)), (r 25, .inl ((cT 1), 7, .inr (.inl f25))), (r 26, .inl ((cT 0), 7, .inl f26)), (r 27, .inl ((cT 0), 7, .inl f27)), (r 28, .inl ((cT 0), 7, .inl f28)), (r 29, .inl ((cT 0), 7, .inl f29)), (r 30, .inl ((cT 0), 112, .inl f30))] sz) [(mo, .inr (12, mdG r cd tm (nI sn) (nI tx) (nI lz) (nI az) (nI na) (nI (nt - 1)) (nI nr) mw ml mk dq)), (r 25, .inl ((cT 1), 7, .inr (.inl g25))), (r 26, .inl ((cT 0), 7, .inl g26)), (r 27, .inl ((cT 0), 7, .inl g27)), (r 28, .inl ((cT 0), 7, .inl g28)), (r 29, .inl ((cT 0), 7, .inl g29)), (r 30, .inl ((cT 0), 112, .inl g30))]) (va_A [(mo, .inr (12, mdG r cd tm (nI sn) (nI tx) (nI lz) (nI az) (nI na) (nI nt) (nI nr) mw ml mk dq)), (r 25, .inl ((cT 1), 7, .inr (.inl f25))), (r 26, .inl ((cT 0), 7, .inl f26)), (r 27, .inl ((cT 0), 7, .inl f27)), (r 28, .inl ((cT 0), 7, .inl f28)), (r 29, .inl ((cT 0), 7, .inl f29)), (r 30, .inl ((cT 0), 112, .inl f30))] sz)) 0 0 (va_A [(mo, .inr (12, mdG r cd tm (nI sn) (nI tx) (nI lz) (nI az) (nI na) (nI nt) (nI nr) mw ml mk dq)), (r 25, .inl ((cT 1), 7, .inr (.inl f25))), (r 26, .inl ((cT 0), 7, .inl f26)), (r 27, .inl ((cT 0), 7, .inl f27)), (r 28, .inl ((cT 0), 7, .inl f28)), (r 29, .inl ((cT 0), 7, .inl f29)), (r 30, .inl ((cT 0), 112, .inl f30))] sz) := by
  refine Met.ofW (cc := b_Md_dropTrial) (maxL := 4) (ret := (Option.none : Option Jvm.ClassFile.FieldType)) (by decide) rfl ?_
  intro p e s m args below meth c s₁ B hml hv
  obtain ⟨hargs, hsz, hP, hK, hD0⟩ := hv
  have hx := B.exec
  have hb := B.bytes
  have hr := B.returns
  have hts := atoms_spec (ws := (Cond.code y_Md_dropTrial b_Md_dropTrial 4 (Option.none : Option Jvm.ClassFile.FieldType) :: BIG)) B.pre
  have hg : ∀ w ∈ BIG, w.before _ s = true := fun w h => hts w (List.mem_cons_of_mem _ h)
  have hown : s.vm.findClass "DoorServerModel" = some m.cls := findClass_of_methodNamed B.named
  have hlocks := B.notSynchronized
  subst hsz
  have hD := hD0.self (sz := s.heap.size)
  generalize hAe : va_A [(mo, .inr (12, mdG r cd tm (nI sn) (nI tx) (nI lz) (nI az) (nI na) (nI nt) (nI nr) mw ml mk dq)), (r 25, .inl ((cT 1), 7, .inr (.inl f25))), (r 26, .inl ((cT 0), 7, .inl f26)), (r 27, .inl ((cT 0), 7, .inl f27)), (r 28, .inl ((cT 0), 7, .inl f28)), (r 29, .inl ((cT 0), 7, .inl f29)), (r 30, .inl ((cT 0), 112, .inl f30))] s.heap.size = A at hD ⊢
  have hA : ∀ q : Nat, s.heap.size ≤ q → A q := fun q h => by rw [← hAe]; exact Or.inr h
  have hS : va_S A s.heap s.heap [] := va_S.rf
  have hl := lv_entry ([.ref mo, .int (nI a)]) (n := 4) (Nat.le_of_ble_eq_true rfl)
  refine W.eq (g2 := entryFrame m (List.toArray [.ref mo, .int (nI a)]) 4) (by rw [hargs]) ?_
  rw [lg_entry_eq]
  generalize (lg_sl ([.ref mo, .int (nI a)]) ++ List.replicate (4 - (lg_sl ([.ref mo, .int (nI a)])).length) Slot.unset).toArray = ls at hl ⊢
  have hl : lv_has ls 4 [(0, .ref mo), (1, .int (nI a))] := hl
  change W p l e ({ frames := 0, cells := 0, slots := 0, locals := 0 } : Room) s m args below meth c s.heap [] 0 0 _ _
  have hP : va_P (dC, dI) vcl [(mo, .inr (12, mdG r cd tm (nI sn) (nI tx) (nI lz) (nI az) (nI na) (nI nt) (nI nr) mw ml mk dq)), (r 25, .inl ((cT 1), 7, .inr (.inl f25))), (r 26, .inl ((cT 0), 7, .inl f26)), (r 27, .inl ((cT 0), 7, .inl f27)), (r 28, .inl ((cT 0), 7, .inl f28)), (r 29, .inl ((cT 0), 7, .inl f29)), (r 30, .inl ((cT 0), 112, .inl f30))] s.heap := hP
  refine lv_iload_n hx hb d_Md_dropTrial_0 rfl (lv_at hl 1 rfl) ?_
  refine lv_iconst (v := 1) hx hb d_Md_dropTrial_1 (by decide) ?_
  refine lv_iadd hx hb d_Md_dropTrial_2 ?_
  refine lv_topi (fun x454 e453 => ?_)
  obtain rfl : x454 = nI (a + 1) := by rw [e453]; exact nI_add a 1
  refine lv_istore_n (lv' := [(2, .int (nI (a + 1))), (0, .ref mo), (1, .int (nI a))]) hx hb d_Md_dropTrial_3 rfl hl (by decide) rfl (fun ls hl => ?_)
  have hl := lv_sub hl [0, 1, 2] (show _ = [(2, .int (nI (a + 1))), (0, .ref mo), (1, .int (nI a))] from rfl)
  have L461 : ∀ (Q : State → Prop) (exit : ∀ (g25_455 : Nat → Int64) (g26_456 : Nat → Int32) (g27_457 : Nat → Int32) (g28_458 : Nat → Int32) (g29_459 : Nat → Int32) (g30_460 : Nat → Int32) (H : Heap) (locs : List Loc) (ls : Array Slot), (a + 1 ≤ nt) → va_P (dC, dI) vcl [(mo, .inr (12, mdG r cd tm (nI sn) (nI tx) (nI lz) (nI az) (nI na) (nI nt) (nI nr) mw ml mk dq)), (r 25, .inl ((cT 1), 7, .inr (.inl g25_455))), (r 26, .inl ((cT 0), 7, .inl g26_456)), (r 27, .inl ((cT 0), 7, .inl g27_457)), (r 28, .inl ((cT 0), 7, .inl g28_458)), (r 29, .inl ((cT 0), 7, .inl g29_459)), (r 30, .inl ((cT 0), 112, .inl g30_460))] H → va_D A [(mo, .inr (12, mdG r cd tm (nI sn) (nI tx) (nI lz) (nI az) (nI na) (nI nt) (nI nr) mw ml mk dq)), (r 25, .inl ((cT 1), 7, .inr (.inl g25_455))), (r 26, .inl ((cT 0), 7, .inl g26_456)), (r 27, .inl ((cT 0), 7, .inl g27_457)), (r 28, .inl ((cT 0), 7, .inl g28_458)), (r 29, .inl ((cT 0), 7, .inl g29_459)), (r 30, .inl ((cT 0), 112, .inl g30_460))] → va_S A s.heap H locs → lv_has ls 4 [(2, .int (nI nt)), (0, .ref mo), (1, .int (nI a))] → W p l e ({ frames := 0, cells := 0, slots := 0, locals := 0 } : Room) s m args below meth c H locs 0 0 Q (F0 m 127 ls [])) (j8 i : Nat) (g25_455 : Nat → Int64) (g26_456 : Nat → Int32) (g27_457 : Nat → Int32) (g28_458 : Nat → Int32) (g29_459 : Nat → Int32) (g30_460 : Nat → Int32) (H : Heap) (locs : List Loc) (ls : Array Slot), i + j8 = nt → (a + 1 ≤ i) → va_P (dC, dI) vcl [(mo, .inr (12, mdG r cd tm (nI sn) (nI tx) (nI lz) (nI az) (nI na) (nI nt) (nI nr) mw ml mk dq)), (r 25, .inl ((cT 1), 7, .inr (.inl g25_455))), (r 26, .inl ((cT 0), 7, .inl g26_456)), (r 27, .inl ((cT 0), 7, .inl g27_457)), (r 28, .inl ((cT 0), 7, .inl g28_458)), (r 29, .inl ((cT 0), 7, .inl g29_459)), (r 30, .inl ((cT 0), 112, .inl g30_460))] H → va_D A [(mo, .inr (12, mdG r cd tm (nI sn) (nI tx) (nI lz) (nI az) (nI na) (nI nt) (nI nr) mw ml mk dq)), (r 25, .inl ((cT 1), 7, .inr (.inl g25_455))), (r 26, .inl ((cT 0), 7, .inl g26_456)), (r 27, .inl ((cT 0), 7, .inl g27_457)), (r 28, .inl ((cT 0), 7, .inl g28_458)), (r 29, .inl ((cT 0), 7, .inl g29_459)), (r 30, .inl ((cT 0), 112, .inl g30_460))] → va_S A s.heap H locs → lv_has ls 4 [(2, .int (nI i)), (0, .ref mo), (1, .int (nI a))] → W p l e ({ frames := 0, cells := 0, slots := 0, locals := 0 } : Room) s m args below meth c H locs 0 0 Q (F0 m 4 ls []) := by
    intro Q exit j8
    induction j8 with
    | zero => 
      intro i g25_455 g26_456 g27_457 g28_458 g29_459 g30_460 H locs ls hij hia hP hD hS hl
      have hij : nt = i := by omega
      refine lv_iload_n hx hb d_Md_dropTrial_4 rfl (lv_at hl 0 rfl) ?_
      refine lv_aload_n hx hb d_Md_dropTrial_5 rfl (lv_at hl 1 rfl) ?_
      refine va_get (D := (dC, dI)) (ci := 12) (v := (.int (nI nt))) (C := R_Md) (T := F_Md) (N := 45) hx hb hg in_Md hown hK hP 0 rfl rfl 24 (by decide) (hg _ k_1044) (fun _ h9 => h9) rfl d_Md_dropTrial_6 ?_
      refine lv_icmp_ge (tgt := 127) hx hb d_Md_dropTrial_9 (by decide) (fun hc462 => ?_) (fun hn9 => absurd (nI_le (by omega) (by omega)) hn9)
      subst hij
      exact exit g25_455 g26_456 g27_457 g28_458 g29_459 g30_460 _ _ _ hia hP hD hS hl
    | succ j8 ih => 
      intro i g25_455 g26_456 g27_457 g28_458 g29_459 g30_460 H locs ls hij hia hP hD hS hl
      have hlt : i < nt := by omega
      have hlti := hlt
      refine lv_iload_n hx hb d_Md_dropTrial_4 rfl (lv_at hl 0 rfl) ?_
      refine lv_aload_n hx hb d_Md_dropTrial_5 rfl (lv_at hl 1 rfl) ?_
      refine va_get (D := (dC, dI)) (ci := 12) (v := (.int (nI nt))) (C := R_Md) (T := F_Md) (N := 45) hx hb hg in_Md hown hK hP 0 rfl rfl 24 (by decide) (hg _ k_1044) (fun _ h9 => h9) rfl d_Md_dropTrial_6 ?_
      refine lv_icmp_ge (tgt := 127) hx hb d_Md_dropTrial_9 (by decide) (fun hn9 => absurd hn9 (nI_ge (by omega) (by omega))) (fun hc463 => ?_)
      refine lv_aload_n hx hb d_Md_dropTrial_12 rfl (lv_at hl 1 rfl) ?_
      refine va_get (D := (dC, dI)) (ci := 12) (v := (.ref (r 25))) (C := R_Md) (T := F_Md) (N := 45) hx hb hg in_Md hown hK hP 0 rfl rfl 25 (by decide) (hg _ k_1045) (fun _ h9 => h9) rfl d_Md_dropTrial_13 ?_
      refine lv_iload_n hx hb d_Md_dropTrial_16 rfl (lv_at hl 0 rfl) ?_
      refine lv_iconst (v := 1) hx hb d_Md_dropTrial_17 (by decide) ?_
      refine lv_isub hx hb d_Md_dropTrial_18 ?_
      refine lv_topi (fun x465 e464 => ?_)
      obtain rfl : x465 = nI (i - 1) := by rw [e464]; exact pk_sub (a := i) (b := 1) (by omega)
      refine lv_aload_n hx hb d_Md_dropTrial_19 rfl (lv_at hl 1 rfl) ?_
      refine va_get (D := (dC, dI)) (ci := 12) (v := (.ref (r 25))) (C := R_Md) (T := F_Md) (N := 45) hx hb hg in_Md hown hK hP 0 rfl rfl 25 (by decide) (hg _ k_1045) (fun _ h9 => h9) rfl d_Md_dropTrial_20 ?_
      refine lv_iload_n hx hb d_Md_dropTrial_23 rfl (lv_at hl 0 rfl) ?_
      refine va_lald hx hb hK hP 1 1 rfl rfl (i := (nI i)) (vp_in_nI (N := 7) (by omega) (by decide)) d_Md_dropTrial_24 ?_
      refine lv_topl (fun x466 e_x466 => ?_)
      clear e_x466
      refine va_last hx hb hK hP hD hS 1 1 rfl rfl (i := (nI (i - 1))) (vp_in_nI (n := i - 1) (N := 7) (by omega) (by decide)) d_Md_dropTrial_25 (fun H locs hP hD hS => ?_)
      have hP : va_P (dC, dI) vcl [(mo, .inr (12, mdG r cd tm (nI sn) (nI tx) (nI lz) (nI az) (nI na) (nI nt) (nI nr) mw ml mk dq)), (r 25, .inl ((cT 1), 7, .inr (.inl (vp_updL g25_455 (nI (i - 1)).toNatClampNeg x466)))), (r 26, .inl ((cT 0), 7, .inl g26_456)), (r 27, .inl ((cT 0), 7, .inl g27_457)), (r 28, .inl ((cT 0), 7, .inl g28_458)), (r 29, .inl ((cT 0), 7, .inl g29_459)), (r 30, .inl ((cT 0), 112, .inl g30_460))] H := hP
      have hD : va_D A [(mo, .inr (12, mdG r cd tm (nI sn) (nI tx) (nI lz) (nI az) (nI na) (nI nt) (nI nr) mw ml mk dq)), (r 25, .inl ((cT 1), 7, .inr (.inl (vp_updL g25_455 (nI (i - 1)).toNatClampNeg x466)))), (r 26, .inl ((cT 0), 7, .inl g26_456)), (r 27, .inl ((cT 0), 7, .inl g27_457)), (r 28, .inl ((cT 0), 7, .inl g28_458)), (r 29, .inl ((cT 0), 7, .inl g29_459)), (r 30, .inl ((cT 0), 112, .inl g30_460))] := hD
      refine lv_aload_n hx hb d_Md_dropTrial_26 rfl (lv_at hl 1 rfl) ?_
      refine va_get (D := (dC, dI)) (ci := 12) (v := (.ref (r 26))) (C := R_Md) (T := F_Md) (N := 45) hx hb hg in_Md hown hK hP 0 rfl rfl 26 (by decide) (hg _ k_1046) (fun _ h9 => h9) rfl d_Md_dropTrial_27 ?_
      refine lv_iload_n hx hb d_Md_dropTrial_30 rfl (lv_at hl 0 rfl) ?_
      refine lv_iconst (v := 1) hx hb d_Md_dropTrial_31 (by decide) ?_
      refine lv_isub hx hb d_Md_dropTrial_32 ?_
      refine lv_topi (fun x468 e467 => ?_)
      obtain rfl : x468 = nI (i - 1) := by rw [e467]; exact pk_sub (a := i) (b := 1) (by omega)
      refine lv_aload_n hx hb d_Md_dropTrial_33 rfl (lv_at hl 1 rfl) ?_
      refine va_get (D := (dC, dI)) (ci := 12) (v := (.ref (r 26))) (C := R_Md) (T := F_Md) (N := 45) hx hb hg in_Md hown hK hP 0 rfl rfl 26 (by decide) (hg _ k_1046) (fun _ h9 => h9) rfl d_Md_dropTrial_34 ?_
      refine lv_iload_n hx hb d_Md_dropTrial_37 rfl (lv_at hl 0 rfl) ?_
      refine va_iald hx hb hK hP 2 0 rfl rfl (i := (nI i)) (vp_in_nI (N := 7) (by omega) (by decide)) d_Md_dropTrial_38 ?_
      refine lv_topi (fun x469 e_x469 => ?_)
      clear e_x469
      refine va_iast hx hb hK hP hD hS 2 0 rfl rfl (i := (nI (i - 1))) (vp_in_nI (n := i - 1) (N := 7) (by omega) (by decide)) d_Md_dropTrial_39 (fun H locs hP hD hS => ?_)
      have ef470 : upd g26_456 (nI (i - 1)).toNatClampNeg x469 = upd g26_456 (i - 1) x469 := by rw [show (nI (i - 1)).toNatClampNeg = i - 1 from nI_clamp (by omega)]
      rw [ef470] at hP hD
      have hP : va_P (dC, dI) vcl [(mo, .inr (12, mdG r cd tm (nI sn) (nI tx) (nI lz) (nI az) (nI na) (nI nt) (nI nr) mw ml mk dq)), (r 25, .inl ((cT 1), 7, .inr (.inl (vp_updL g25_455 (nI (i - 1)).toNatClampNeg x466)))), (r 26, .inl ((cT 0), 7, .inl (upd g26_456 (i - 1) x469))), (r 27, .inl ((cT 0), 7, .inl g27_457)), (r 28, .inl ((cT 0), 7, .inl g28_458)), (r 29, .inl ((cT 0), 7, .inl g29_459)), (r 30, .inl ((cT 0), 112, .inl g30_460))] H := hP
      have hD : va_D A [(mo, .inr (12, mdG r cd tm (nI sn) (nI tx) (nI lz) (nI az) (nI na) (nI nt) (nI nr) mw ml mk dq)), (r 25, .inl ((cT 1), 7, .inr (.inl (vp_updL g25_455 (nI (i - 1)).toNatClampNeg x466)))), (r 26, .inl ((cT 0), 7, .inl (upd g26_456 (i - 1) x469))), (r 27, .inl ((cT 0), 7, .inl g27_457)), (r 28, .inl ((cT 0), 7, .inl g28_458)), (r 29, .inl ((cT 0), 7, .inl g29_459)), (r 30, .inl ((cT 0), 112, .inl g30_460))] := hD
      refine lv_aload_n hx hb d_Md_dropTrial_40 rfl (lv_at hl 1 rfl) ?_
      refine va_get (D := (dC, dI)) (ci := 12) (v := (.ref (r 27))) (C := R_Md) (T := F_Md) (N := 45) hx hb hg in_Md hown hK hP 0 rfl rfl 27 (by decide) (hg _ k_1047) (fun _ h9 => h9) rfl d_Md_dropTrial_41 ?_
      refine lv_iload_n hx hb d_Md_dropTrial_44 rfl (lv_at hl 0 rfl) ?_
      refine lv_iconst (v := 1) hx hb d_Md_dropTrial_45 (by decide) ?_
      refine lv_isub hx hb d_Md_dropTrial_46 ?_
      refine lv_topi (fun x472 e471 => ?_)
      obtain rfl : x472 = nI (i - 1) := by rw [e471]; exact pk_sub (a := i) (b := 1) (by omega)
      refine lv_aload_n hx hb d_Md_dropTrial_47 rfl (lv_at hl 1 rfl) ?_
      refine va_get (D := (dC, dI)) (ci := 12) (v := (.ref (r 27))) (C := R_Md) (T := F_Md) (N := 45) hx hb hg in_Md hown hK hP 0 rfl rfl 27 (by decide) (hg _ k_1047) (fun _ h9 => h9) rfl d_Md_dropTrial_48 ?_
      refine lv_iload_n hx hb d_Md_dropTrial_51 rfl (lv_at hl 0 rfl) ?_
      refine va_iald hx hb hK hP 3 0 rfl rfl (i := (nI i)) (vp_in_nI (N := 7) (by omega) (by decide)) d_Md_dropTrial_52 ?_
      refine lv_topi (fun x473 e_x473 => ?_)
      clear e_x473
      refine va_iast hx hb hK hP hD hS 3 0 rfl rfl (i := (nI (i - 1))) (vp_in_nI (n := i - 1) (N := 7) (by omega) (by decide)) d_Md_dropTrial_53 (fun H locs hP hD hS => ?_)
      have ef474 : upd g27_457 (nI (i - 1)).toNatClampNeg x473 = upd g27_457 (i - 1) x473 := by rw [show (nI (i - 1)).toNatClampNeg = i - 1 from nI_clamp (by omega)]
      rw [ef474] at hP hD
      have hP : va_P (dC, dI) vcl [(mo, .inr (12, mdG r cd tm (nI sn) (nI tx) (nI lz) (nI az) (nI na) (nI nt) (nI nr) mw ml mk dq)), (r 25, .inl ((cT 1), 7, .inr (.inl (vp_updL g25_455 (nI (i - 1)).toNatClampNeg x466)))), (r 26, .inl ((cT 0), 7, .inl (upd g26_456 (i - 1) x469))), (r 27, .inl ((cT 0), 7, .inl (upd g27_457 (i - 1) x473))), (r 28, .inl ((cT 0), 7, .inl g28_458)), (r 29, .inl ((cT 0), 7, .inl g29_459)), (r 30, .inl ((cT 0), 112, .inl g30_460))] H := hP
      have hD : va_D A [(mo, .inr (12, mdG r cd tm (nI sn) (nI tx) (nI lz) (nI az) (nI na) (nI nt) (nI nr) mw ml mk dq)), (r 25, .inl ((cT 1), 7, .inr (.inl (vp_updL g25_455 (nI (i - 1)).toNatClampNeg x466)))), (r 26, .inl ((cT 0), 7, .inl (upd g26_456 (i - 1) x469))), (r 27, .inl ((cT 0), 7, .inl (upd g27_457 (i - 1) x473))), (r 28, .inl ((cT 0), 7, .inl g28_458)), (r 29, .inl ((cT 0), 7, .inl g29_459)), (r 30, .inl ((cT 0), 112, .inl g30_460))] := hD
      refine lv_aload_n hx hb d_Md_dropTrial_54 rfl (lv_at hl 1 rfl) ?_
      refine va_get (D := (dC, dI)) (ci := 12) (v := (.ref (r 28))) (C := R_Md) (T := F_Md) (N := 45) hx hb hg in_Md hown hK hP 0 rfl rfl 28 (by decide) (hg _ k_1048) (fun _ h9 => h9) rfl d_Md_dropTrial_55 ?_
      refine lv_iload_n hx hb d_Md_dropTrial_58 rfl (lv_at hl 0 rfl) ?_
      refine lv_iconst (v := 1) hx hb d_Md_dropTrial_59 (by decide) ?_
      refine lv_isub hx hb d_Md_dropTrial_60 ?_
      refine lv_topi (fun x476 e475 => ?_)
      obtain rfl : x476 = nI (i - 1) := by rw [e475]; exact pk_sub (a := i) (b := 1) (by omega)
      refine lv_aload_n hx hb d_Md_dropTrial_61 rfl (lv_at hl 1 rfl) ?_
      refine va_get (D := (dC, dI)) (ci := 12) (v := (.ref (r 28))) (C := R_Md) (T := F_Md) (N := 45) hx hb hg in_Md hown hK hP 0 rfl rfl 28 (by decide) (hg _ k_1048) (fun _ h9 => h9) rfl d_Md_dropTrial_62 ?_
      refine lv_iload_n hx hb d_Md_dropTrial_65 rfl (lv_at hl 0 rfl) ?_
      refine va_iald hx hb hK hP 4 0 rfl rfl (i := (nI i)) (vp_in_nI (N := 7) (by omega) (by decide)) d_Md_dropTrial_66 ?_
      refine lv_topi (fun x477 e_x477 => ?_)
      clear e_x477
      refine va_iast hx hb hK hP hD hS 4 0 rfl rfl (i := (nI (i - 1))) (vp_in_nI (n := i - 1) (N := 7) (by omega) (by decide)) d_Md_dropTrial_67 (fun H locs hP hD hS => ?_)
      have ef478 : upd g28_458 (nI (i - 1)).toNatClampNeg x477 = upd g28_458 (i - 1) x477 := by rw [show (nI (i - 1)).toNatClampNeg = i - 1 from nI_clamp (by omega)]
      rw [ef478] at hP hD
      have hP : va_P (dC, dI) vcl [(mo, .inr (12, mdG r cd tm (nI sn) (nI tx) (nI lz) (nI az) (nI na) (nI nt) (nI nr) mw ml mk dq)), (r 25, .inl ((cT 1), 7, .inr (.inl (vp_updL g25_455 (nI (i - 1)).toNatClampNeg x466)))), (r 26, .inl ((cT 0), 7, .inl (upd g26_456 (i - 1) x469))), (r 27, .inl ((cT 0), 7, .inl (upd g27_457 (i - 1) x473))), (r 28, .inl ((cT 0), 7, .inl (upd g28_458 (i - 1) x477))), (r 29, .inl ((cT 0), 7, .inl g29_459)), (r 30, .inl ((cT 0), 112, .inl g30_460))] H := hP
      have hD : va_D A [(mo, .inr (12, mdG r cd tm (nI sn) (nI tx) (nI lz) (nI az) (nI na) (nI nt) (nI nr) mw ml mk dq)), (r 25, .inl ((cT 1), 7, .inr (.inl (vp_updL g25_455 (nI (i - 1)).toNatClampNeg x466)))), (r 26, .inl ((cT 0), 7, .inl (upd g26_456 (i - 1) x469))), (r 27, .inl ((cT 0), 7, .inl (upd g27_457 (i - 1) x473))), (r 28, .inl ((cT 0), 7, .inl (upd g28_458 (i - 1) x477))), (r 29, .inl ((cT 0), 7, .inl g29_459)), (r 30, .inl ((cT 0), 112, .inl g30_460))] := hD
      refine lv_aload_n hx hb d_Md_dropTrial_68 rfl (lv_at hl 1 rfl) ?_
      refine va_get (D := (dC, dI)) (ci := 12) (v := (.ref (r 29))) (C := R_Md) (T := F_Md) (N := 45) hx hb hg in_Md hown hK hP 0 rfl rfl 29 (by decide) (hg _ k_1049) (fun _ h9 => h9) rfl d_Md_dropTrial_69 ?_
      refine lv_iload_n hx hb d_Md_dropTrial_72 rfl (lv_at hl 0 rfl) ?_
      refine lv_iconst (v := 1) hx hb d_Md_dropTrial_73 (by decide) ?_
      refine lv_isub hx hb d_Md_dropTrial_74 ?_
      refine lv_topi (fun x480 e479 => ?_)
      obtain rfl : x480 = nI (i - 1) := by rw [e479]; exact pk_sub (a := i) (b := 1) (by omega)
      refine lv_aload_n hx hb d_Md_dropTrial_75 rfl (lv_at hl 1 rfl) ?_
      refine va_get (D := (dC, dI)) (ci := 12) (v := (.ref (r 29))) (C := R_Md) (T := F_Md) (N := 45) hx hb hg in_Md hown hK hP 0 rfl rfl 29 (by decide) (hg _ k_1049) (fun _ h9 => h9) rfl d_Md_dropTrial_76 ?_
      refine lv_iload_n hx hb d_Md_dropTrial_79 rfl (lv_at hl 0 rfl) ?_
      refine va_iald hx hb hK hP 5 0 rfl rfl (i := (nI i)) (vp_in_nI (N := 7) (by omega) (by decide)) d_Md_dropTrial_80 ?_
      refine lv_topi (fun x481 e_x481 => ?_)
      clear e_x481
      refine va_iast hx hb hK hP hD hS 5 0 rfl rfl (i := (nI (i - 1))) (vp_in_nI (n := i - 1) (N := 7) (by omega) (by decide)) d_Md_dropTrial_81 (fun H locs hP hD hS => ?_)
      have ef482 : upd g29_459 (nI (i - 1)).toNatClampNeg x481 = upd g29_459 (i - 1) x481 := by rw [show (nI (i - 1)).toNatClampNeg = i - 1 from nI_clamp (by omega)]
      rw [ef482] at hP hD
      have hP : va_P (dC, dI) vcl [(mo, .inr (12, mdG r cd tm (nI sn) (nI tx) (nI lz) (nI az) (nI na) (nI nt) (nI nr) mw ml mk dq)), (r 25, .inl ((cT 1), 7, .inr (.inl (vp_updL g25_455 (nI (i - 1)).toNatClampNeg x466)))), (r 26, .inl ((cT 0), 7, .inl (upd g26_456 (i - 1) x469))), (r 27, .inl ((cT 0), 7, .inl (upd g27_457 (i - 1) x473))), (r 28, .inl ((cT 0), 7, .inl (upd g28_458 (i - 1) x477))), (r 29, .inl ((cT 0), 7, .inl (upd g29_459 (i - 1) x481))), (r 30, .inl ((cT 0), 112, .inl g30_460))] H := hP
      have hD : va_D A [(mo, .inr (12, mdG r cd tm (nI sn) (nI tx) (nI lz) (nI az) (nI na) (nI nt) (nI nr) mw ml mk dq)), (r 25, .inl ((cT 1), 7, .inr (.inl (vp_updL g25_455 (nI (i - 1)).toNatClampNeg x466)))), (r 26, .inl ((cT 0), 7, .inl (upd g26_456 (i - 1) x469))), (r 27, .inl ((cT 0), 7, .inl (upd g27_457 (i - 1) x473))), (r 28, .inl ((cT 0), 7, .inl (upd g28_458 (i - 1) x477))), (r 29, .inl ((cT 0), 7, .inl (upd g29_459 (i - 1) x481))), (r 30, .inl ((cT 0), 112, .inl g30_460))] := hD
      refine lv_iconst (v := 0) hx hb d_Md_dropTrial_82 (by decide) ?_
      refine lv_istore_n (lv' := [(3, .int 0), (2, .int (nI i)), (0, .ref mo), (1, .int (nI a))]) hx hb d_Md_dropTrial_83 rfl hl (by decide) rfl (fun ls hl => ?_)
      have hl := lv_sub hl [0, 1, 2, 3] (show _ = [(3, .int 0), (2, .int (nI i)), (0, .ref mo), (1, .int (nI a))] from rfl)
      have L484 : ∀ (Q : State → Prop) (exit : ∀ (g30_483 : Nat → Int32) (H : Heap) (locs : List Loc) (ls : Array Slot), va_P (dC, dI) vcl [(mo, .inr (12, mdG r cd tm (nI sn) (nI tx) (nI lz) (nI az) (nI na) (nI nt) (nI nr) mw ml mk dq)), (r 25, .inl ((cT 1), 7, .inr (.inl (vp_updL g25_455 (nI (i - 1)).toNatClampNeg x466)))), (r 26, .inl ((cT 0), 7, .inl (upd g26_456 (i - 1) x469))), (r 27, .inl ((cT 0), 7, .inl (upd g27_457 (i - 1) x473))), (r 28, .inl ((cT 0), 7, .inl (upd g28_458 (i - 1) x477))), (r 29, .inl ((cT 0), 7, .inl (upd g29_459 (i - 1) x481))), (r 30, .inl ((cT 0), 112, .inl g30_483))] H → va_D A [(mo, .inr (12, mdG r cd tm (nI sn) (nI tx) (nI lz) (nI az) (nI na) (nI nt) (nI nr) mw ml mk dq)), (r 25, .inl ((cT 1), 7, .inr (.inl (vp_updL g25_455 (nI (i - 1)).toNatClampNeg x466)))), (r 26, .inl ((cT 0), 7, .inl (upd g26_456 (i - 1) x469))), (r 27, .inl ((cT 0), 7, .inl (upd g27_457 (i - 1) x473))), (r 28, .inl ((cT 0), 7, .inl (upd g28_458 (i - 1) x477))), (r 29, .inl ((cT 0), 7, .inl (upd g29_459 (i - 1) x481))), (r 30, .inl ((cT 0), 112, .inl g30_483))] → va_S A s.heap H locs → lv_has ls 4 [(3, .int (nI 16)), (2, .int (nI i)), (0, .ref mo), (1, .int (nI a))] → W p l e ({ frames := 0, cells := 0, slots := 0, locals := 0 } : Room) s m args below meth c H locs 0 0 Q (F0 m 121 ls [])) (j8 q9 : Nat) (g30_483 : Nat → Int32) (H : Heap) (locs : List Loc) (ls : Array Slot), q9 + j8 = 16 → va_P (dC, dI) vcl [(mo, .inr (12, mdG r cd tm (nI sn) (nI tx) (nI lz) (nI az) (nI na) (nI nt) (nI nr) mw ml mk dq)), (r 25, .inl ((cT 1), 7, .inr (.inl (vp_updL g25_455 (nI (i - 1)).toNatClampNeg x466)))), (r 26, .inl ((cT 0), 7, .inl (upd g26_456 (i - 1) x469))), (r 27, .inl ((cT 0), 7, .inl (upd g27_457 (i - 1) x473))), (r 28, .inl ((cT 0), 7, .inl (upd g28_458 (i - 1) x477))), (r 29, .inl ((cT 0), 7, .inl (upd g29_459 (i - 1) x481))), (r 30, .inl ((cT 0), 112, .inl g30_483))] H → va_D A [(mo, .inr (12, mdG r cd tm (nI sn) (nI tx) (nI lz) (nI az) (nI na) (nI nt) (nI nr) mw ml mk dq)), (r 25, .inl ((cT 1), 7, .inr (.inl (vp_updL g25_455 (nI (i - 1)).toNatClampNeg x466)))), (r 26, .inl ((cT 0), 7, .inl (upd g26_456 (i - 1) x469))), (r 27, .inl ((cT 0), 7, .inl (upd g27_457 (i - 1) x473))), (r 28, .inl ((cT 0), 7, .inl (upd g28_458 (i - 1) x477))), (r 29, .inl ((cT 0), 7, .inl (upd g29_459 (i - 1) x481))), (r 30, .inl ((cT 0), 112, .inl g30_483))] → va_S A s.heap H locs → lv_has ls 4 [(3, .int (nI q9)), (2, .int (nI i)), (0, .ref mo), (1, .int (nI a))] → W p l e ({ frames := 0, cells := 0, slots := 0, locals := 0 } : Room) s m args below meth c H locs 0 0 Q (F0 m 84 ls []) := by
        intro Q exit j8
        induction j8 with
        | zero => 
          intro q9 g30_483 H locs ls hij  hP hD hS hl
          have hij : 16 = q9 := by omega
          refine lv_iload_n hx hb d_Md_dropTrial_84 rfl (lv_at hl 0 rfl) ?_
          refine lv_bipush (v := 16) hx hb d_Md_dropTrial_85 (by decide) ?_
          refine lv_topi (fun x486 e485 => ?_)
          obtain rfl : x486 = nI 16 := by rw [e485]; rfl
          refine lv_icmp_ge (tgt := 121) hx hb d_Md_dropTrial_87 (by decide) (fun hc487 => ?_) (fun hn9 => absurd (nI_le (by omega) (by omega)) hn9)
          subst hij
          exact exit g30_483 _ _ _  hP hD hS hl
        | succ j8 ih => 
          intro q9 g30_483 H locs ls hij  hP hD hS hl
          have hlt : q9 < 16 := by omega
          have hltq9 := hlt
          refine lv_iload_n hx hb d_Md_dropTrial_84 rfl (lv_at hl 0 rfl) ?_
          refine lv_bipush (v := 16) hx hb d_Md_dropTrial_85 (by decide) ?_
          refine lv_topi (fun x489 e488 => ?_)
          obtain rfl : x489 = nI 16 := by rw [e488]; rfl
          refine lv_icmp_ge (tgt := 121) hx hb d_Md_dropTrial_87 (by decide) (fun hn9 => absurd hn9 (nI_ge (by omega) (by omega))) (fun hc490 => ?_)
          refine lv_aload_n hx hb d_Md_dropTrial_90 rfl (lv_at hl 2 rfl) ?_
          refine va_get (D := (dC, dI)) (ci := 12) (v := (.ref (r 30))) (C := R_Md) (T := F_Md) (N := 45) hx hb hg in_Md hown hK hP 0 rfl rfl 30 (by decide) (hg _ k_1050) (fun _ h9 => h9) rfl d_Md_dropTrial_91 ?_
          refine lv_bipush (v := 16) hx hb d_Md_dropTrial_94 (by decide) ?_
          refine lv_iload_n hx hb d_Md_dropTrial_96 rfl (lv_at hl 1 rfl) ?_
          refine lv_imul hx hb d_Md_dropTrial_97 ?_
          refine lv_topi (fun x492 e491 => ?_)
          obtain rfl : x492 = nI (16 * i) := by rw [e491]; exact pk_mul 16 i
          refine lv_bipush (v := 16) hx hb d_Md_dropTrial_98 (by decide) ?_
          refine lv_isub hx hb d_Md_dropTrial_100 ?_
          refine lv_topi (fun x494 e493 => ?_)
          obtain rfl : x494 = nI ((16 * i) - 16) := by rw [e493]; exact pk_sub (a := 16 * i) (b := 16) (by omega)
          refine lv_iload_n hx hb d_Md_dropTrial_101 rfl (lv_at hl 0 rfl) ?_
          refine lv_iadd hx hb d_Md_dropTrial_102 ?_
          refine lv_topi (fun x496 e495 => ?_)
          obtain rfl : x496 = nI (((16 * i) - 16) + q9) := by rw [e495]; exact nI_add ((16 * i) - 16) q9
          refine lv_aload_n hx hb d_Md_dropTrial_103 rfl (lv_at hl 2 rfl) ?_
          refine va_get (D := (dC, dI)) (ci := 12) (v := (.ref (r 30))) (C := R_Md) (T := F_Md) (N := 45) hx hb hg in_Md hown hK hP 0 rfl rfl 30 (by decide) (hg _ k_1050) (fun _ h9 => h9) rfl d_Md_dropTrial_104 ?_
          refine lv_bipush (v := 16) hx hb d_Md_dropTrial_107 (by decide) ?_
          refine lv_iload_n hx hb d_Md_dropTrial_109 rfl (lv_at hl 1 rfl) ?_
          refine lv_imul hx hb d_Md_dropTrial_110 ?_
          refine lv_topi (fun x498 e497 => ?_)
          obtain rfl : x498 = nI (16 * i) := by rw [e497]; exact pk_mul 16 i
          refine lv_iload_n hx hb d_Md_dropTrial_111 rfl (lv_at hl 0 rfl) ?_
          refine lv_iadd hx hb d_Md_dropTrial_112 ?_
          refine lv_topi (fun x500 e499 => ?_)
          obtain rfl : x500 = nI ((16 * i) + q9) := by rw [e499]; exact nI_add (16 * i) q9
          refine va_iald hx hb hK hP 6 0 rfl rfl (i := (nI ((16 * i) + q9))) (vp_in_nI (N := 112) (by omega) (by decide)) d_Md_dropTrial_113 ?_
          refine lv_topi (fun x501 e_x501 => ?_)
          clear e_x501
          refine va_iast hx hb hK hP hD hS 6 0 rfl rfl (i := (nI (((16 * i) - 16) + q9))) (vp_in_nI (n := ((16 * i) - 16) + q9) (N := 112) (by omega) (by decide)) d_Md_dropTrial_114 (fun H locs hP hD hS => ?_)
          have ef502 : upd g30_483 (nI (((16 * i) - 16) + q9)).toNatClampNeg x501 = upd g30_483 (((16 * i) - 16) + q9) x501 := by rw [show (nI (((16 * i) - 16) + q9)).toNatClampNeg = ((16 * i) - 16) + q9 from nI_clamp (by omega)]
          rw [ef502] at hP hD
          have hP : va_P (dC, dI) vcl [(mo, .inr (12, mdG r cd tm (nI sn) (nI tx) (nI lz) (nI az) (nI na) (nI nt) (nI nr) mw ml mk dq)), (r 25, .inl ((cT 1), 7, .inr (.inl (vp_updL g25_455 (nI (i - 1)).toNatClampNeg x466)))), (r 26, .inl ((cT 0), 7, .inl (upd g26_456 (i - 1) x469))), (r 27, .inl ((cT 0), 7, .inl (upd g27_457 (i - 1) x473))), (r 28, .inl ((cT 0), 7, .inl (upd g28_458 (i - 1) x477))), (r 29, .inl ((cT 0), 7, .inl (upd g29_459 (i - 1) x481))), (r 30, .inl ((cT 0), 112, .inl (upd g30_483 (((16 * i) - 16) + q9) x501)))] H := hP
          have hD : va_D A [(mo, .inr (12, mdG r cd tm (nI sn) (nI tx) (nI lz) (nI az) (nI na) (nI nt) (nI nr) mw ml mk dq)), (r 25, .inl ((cT 1), 7, .inr (.inl (vp_updL g25_455 (nI (i - 1)).toNatClampNeg x466)))), (r 26, .inl ((cT 0), 7, .inl (upd g26_456 (i - 1) x469))), (r 27, .inl ((cT 0), 7, .inl (upd g27_457 (i - 1) x473))), (r 28, .inl ((cT 0), 7, .inl (upd g28_458 (i - 1) x477))), (r 29, .inl ((cT 0), 7, .inl (upd g29_459 (i - 1) x481))), (r 30, .inl ((cT 0), 112, .inl (upd g30_483 (((16 * i) - 16) + q9) x501)))] := hD
          refine lv_iinc (k := 0) (v := nI (q9 + 1)) (lv' := [(3, .int (nI (q9 + 1))), (2, .int (nI i)), (0, .ref mo), (1, .int (nI a))]) hx hb d_Md_dropTrial_115 hl rfl (nI_1 q9) (by decide) rfl (fun ls hl => ?_)
          refine lv_goto (tgt := 84) hx hb d_Md_dropTrial_118 (by decide) ?_
          have hl := lv_sub hl [0, 1, 2, 3] (show _ = [(3, .int (nI (q9 + 1))), (2, .int (nI i)), (0, .ref mo), (1, .int (nI a))] from rfl)
          exact ih (q9 + 1) _ _ _ _ (by omega)  hP hD hS hl
      refine L484 _ (fun g30_483 H locs ls  hP hD hS hl => ?_) (16 - 0) 0 g30_460 H _ ls (by omega)  hP hD hS hl
      refine lv_iinc (k := 1) (v := nI (i + 1)) (lv' := [(2, .int (nI (i + 1))), (3, .int (nI 16)), (0, .ref mo), (1, .int (nI a))]) hx hb d_Md_dropTrial_121 hl rfl (nI_1 i) (by decide) rfl (fun ls hl => ?_)
      refine lv_goto (tgt := 4) hx hb d_Md_dropTrial_124 (by decide) ?_
      have hl := lv_sub hl [0, 2, 3] (show _ = [(2, .int (nI (i + 1))), (0, .ref mo), (1, .int (nI a))] from rfl)
      exact ih (i + 1) _ _ _ _ _ _ _ _ _ (by omega) (by omega) hP hD hS hl
  refine L461 _ (fun g25_455 g26_456 g27_457 g28_458 g29_459 g30_460 H locs ls hia hP hD hS hl => ?_) (nt - (a + 1)) (a + 1) f25 f26 f27 f28 f29 f30 s.heap _ ls (by omega) (by omega) hP hD hS hl
  refine lv_aload_n hx hb d_Md_dropTrial_127 rfl (lv_at hl 1 rfl) ?_
  refine lv_dup hx hb d_Md_dropTrial_128 rfl ?_
  refine va_get (D := (dC, dI)) (ci := 12) (v := (.int (nI nt))) (C := R_Md) (T := F_Md) (N := 45) hx hb hg in_Md hown hK hP 0 rfl rfl 24 (by decide) (hg _ k_1044) (fun _ h9 => h9) rfl d_Md_dropTrial_129 ?_
  refine lv_iconst (v := 1) hx hb d_Md_dropTrial_132 (by decide) ?_
  refine lv_isub hx hb d_Md_dropTrial_133 ?_
  refine lv_topi (fun x504 e503 => ?_)
  obtain rfl : x504 = nI (nt - 1) := by rw [e503]; exact pk_sub (a := nt) (b := 1) (by omega)
  refine va_put (D := (dC, dI)) (ci := 12) (v := (.int (nI (nt - 1)))) (ty := .int) (C := R_Md) (T := F_Md) (N := 45) hx hb hg in_Md t_Md tok_Md nm_Md hown hK hP hD hS 0 rfl rfl 24 (by decide) (hg _ k_1044) (fun _ h9 => h9) rfl (by decide +kernel) rfl rfl (Nat.le_of_ble_eq_true rfl) d_Md_dropTrial_134 (fun H locs hP hD hS => ?_)
  have hP : va_P (dC, dI) vcl [(mo, .inr (12, mdG r cd tm (nI sn) (nI tx) (nI lz) (nI az) (nI na) (nI (nt - 1)) (nI nr) mw ml mk dq)), (r 25, .inl ((cT 1), 7, .inr (.inl g25_455))), (r 26, .inl ((cT 0), 7, .inl g26_456)), (r 27, .inl ((cT 0), 7, .inl g27_457)), (r 28, .inl ((cT 0), 7, .inl g28_458)), (r 29, .inl ((cT 0), 7, .inl g29_459)), (r 30, .inl ((cT 0), 112, .inl g30_460))] H := hP
  have hD : va_D A [(mo, .inr (12, mdG r cd tm (nI sn) (nI tx) (nI lz) (nI az) (nI na) (nI (nt - 1)) (nI nr) mw ml mk dq)), (r 25, .inl ((cT 1), 7, .inr (.inl g25_455))), (r 26, .inl ((cT 0), 7, .inl g26_456)), (r 27, .inl ((cT 0), 7, .inl g27_457)), (r 28, .inl ((cT 0), 7, .inl g28_458)), (r 29, .inl ((cT 0), 7, .inl g29_459)), (r 30, .inl ((cT 0), 112, .inl g30_460))] := hD
  have hP9 := hP.sub (ws' := [(mo, .inr (12, mdG r cd tm (nI sn) (nI tx) (nI lz) (nI az) (nI na) (nI (nt - 1)) (nI nr) mw ml mk dq)), (r 25, .inl ((cT 1), 7, .inr (.inl g25_455))), (r 26, .inl ((cT 0), 7, .inl g26_456)), (r 27, .inl ((cT 0), 7, .inl g27_457)), (r 28, .inl ((cT 0), 7, .inl g28_458)), (r 29, .inl ((cT 0), 7, .inl g29_459)), (r 30, .inl ((cT 0), 112, .inl g30_460))]) [0, 1, 2, 3, 4, 5, 6] rfl
  have hD9 := hD.sub (ws' := [(mo, .inr (12, mdG r cd tm (nI sn) (nI tx) (nI lz) (nI az) (nI na) (nI (nt - 1)) (nI nr) mw ml mk dq)), (r 25, .inl ((cT 1), 7, .inr (.inl g25_455))), (r 26, .inl ((cT 0), 7, .inl g26_456)), (r 27, .inl ((cT 0), 7, .inl g27_457)), (r 28, .inl ((cT 0), 7, .inl g28_458)), (r 29, .inl ((cT 0), 7, .inl g29_459)), (r 30, .inl ((cT 0), 112, .inl g30_460))]) [0, 1, 2, 3, 4, 5, 6] (by decide) rfl
  exact W.vret hx hb hr (fun t ht hW => ⟨⟨⟨g25_455, g26_456, g27_457, g28_458, g29_459, g30_460⟩, rfl, trivial, by rw [ht]; exact hP9, va_K.moved hW.alike hK, hD9⟩, hS.F ht⟩) hS.2.2 d_Md_dropTrial_137
set_option maxHeartbeats 4000000 in
set_option maxRecDepth 100000 in
/-- challenge -/
theorem m_challenge (l : Launch) (dC : Nat → ClassId) (dI : Nat → Nat → Nat) (cT : Nat → ClassId) (sz : Nat) (mo : Nat) (r : Nat → Nat) (cd : Int32) (tm : Int32) (sn : Nat) (tx : Nat) (lz : Nat) (az : Nat) (na : Nat) (nt : Nat) (nr : Nat) (mw : Int32) (ml : Int32) (mk : Int64) (dq : Int64) (f7 : Nat → Int32) (f15 : Nat → Int32) (f25 : Nat → Int64) (f26 : Nat → Int32) (f27 : Nat → Int32) (f28 : Nat → Int32) (f29 : Nat → Int32) (f30 : Nat → Int32) (x : Int32) (y : Int32) (z9 : Int32) (hnt : nt ≤ 6) : Met l y_Md_challenge (Cond.code y_Md_challenge b_Md_challenge 5 (Option.none : Option Jvm.ClassFile.FieldType) :: BIG) ({ frames := 2, cells := 0, slots := 0, locals := 45 }) (va_Pc [.ref mo, .int x, .int y, .int z9] (fun U => U.heap.size = sz ∧ va_P (dC, dI) vcl [(mo, .inr (12, mdG r cd tm (nI sn) (nI tx) (nI lz) (nI az) (nI na) (nI nt) (nI nr) mw ml mk dq)), (r 7, .inl ((cT 0), 1000, .inl f7)), (r 15, .inl ((cT 0), 200, .inl f15)), (r 25, .inl ((cT 1), 7, .inr (.inl f25))), (r 26, .inl ((cT 0), 7, .inl f26)), (r 27, .inl ((cT 0), 7, .inl f27)), (r 28, .inl ((cT 0), 7, .inl f28)), (r 29, .inl ((cT 0), 7, .inl f29)), (r 30, .inl ((cT 0), 112, .inl f30))] U.heap ∧ va_K (dC, dI) vcl (tyL cT) U ∧ va_D (fun _ => True) [(mo, .inr (12, mdG r cd tm (nI sn) (nI tx) (nI lz) (nI az) (nI na) (nI nt) (nI nr) mw ml mk dq)), (r 7, .inl ((cT 0), 1000, .inl f7)), (r 15, .inl ((cT 0), 200, .inl f15)), (r 25, .inl ((cT 1), 7, .inr (.inl f25))), (r 26, .inl ((cT 0), 7, .inl f26)), (r 27, .inl ((cT 0), 7, .inl f27)), (r 28, .inl ((cT 0), 7, .inl f28)), (r 29, .inl ((cT 0), 7, .inl f29)), (r 30, .inl ((cT 0), 112, .inl f30))])) (va_Qv (S := (Nat → Int32) × (Nat → Int64) × (Nat → Int32) × (Nat → Int32) × (Nat → Int32) × (Nat → Int32) × (Nat → Int32) × Nat × Nat × Int64 × Int64) (fun u => match u with | (g15, g25, g26, g27, g28, g29, g30, az2, nt2, mk2, dq2) => (az2 ≤ 60) ∧ (nt2 ≤ 6)) (fun u t => match u with | (g15, g25, g26, g27, g28, g29, g30, az2, nt2, mk2, dq2) => va_P (dC, dI) vcl [(mo, .inr (12, mdG r cd tm (nI sn) (nI tx) (nI lz) (nI az2) (nI na) (nI nt2) (nI nr) mw ml mk2 dq2)), (r 7, .inl ((cT 0), 1000, .inl f7)), (r 15, .inl ((cT 0), 200, .inl g15)), (r 25, .inl ((cT 1), 7, .inr (.inl g25))), (r 26, .inl ((cT 0), 7, .inl g26)), (r 27, .inl ((cT 0), 7, .inl g27)), (r 28, .inl ((cT 0), 7, .inl g28)), (r 29, .inl ((cT 0), 7, .inl g29)), (r 30, .inl ((cT 0), 112, .inl g30))] t.heap ∧ va_K (dC, dI) vcl (tyL cT) t ∧ va_D (va_A [(mo, .inr (12, mdG r cd tm (nI sn) (nI tx) (nI lz) (nI az) (nI na) (nI nt) (nI nr) mw ml mk dq)), (r 7, .inl ((cT 0), 1000, .inl f7)), (r 15, .inl ((cT 0), 200, .inl f15)), (r 25, .inl ((cT 1), 7, .inr (.inl f25))), (r 26, .inl ((cT 0), 7, .inl f26)), (r 27, .inl ((cT 0), 7, .inl f27)), (r 28, .inl ((cT 0), 7, .inl f28)), (r 29, .inl ((cT 0), 7, .inl f29)), (r 30, .inl ((cT 0), 112, .inl f30))] sz) [(mo, .inr (12, mdG r cd tm (nI sn) (nI tx) (nI lz) (nI az2) (nI na) (nI nt2) (nI nr) mw ml mk2 dq2)), (r 7, .inl ((cT 0), 1000, .inl f7)), (r 15, .inl ((cT 0), 200, .inl g15)), (r 25, .inl ((cT 1), 7, .inr (.inl g25))), (r 26, .inl ((cT 0), 7, .inl g26)), (r 27, .inl ((cT 0), 7, .inl g27)), (r 28, .inl ((cT 0), 7, .inl g28)), (r 29, .inl ((cT 0), 7, .inl g29)), (r 30, .inl ((cT 0), 112, .inl g30))]) (va_A [(mo, .inr (12, mdG r cd tm (nI sn) (nI tx) (nI lz) (nI az) (nI na) (nI nt) (nI nr) mw ml mk dq)), (r 7, .inl ((cT 0), 1000, .inl f7)), (r 15, .inl ((cT 0), 200, .inl f15)), (r 25, .inl ((cT 1), 7, .inr (.inl f25))), (r 26, .inl ((cT 0), 7, .inl f26)), (r 27, .inl ((cT 0), 7, .inl f27)), (r 28, .inl ((cT 0), 7, .inl f28)), (r 29, .inl ((cT 0), 7, .inl f29)), (r 30, .inl ((cT 0), 112, .inl f30))] sz)) 0 0 (va_A [(mo, .inr (12, mdG r cd tm (nI sn) (nI tx) (nI lz) (nI az) (nI na) (nI nt) (nI nr) mw ml mk dq)), (r 7, .inl ((cT 0), 1000, .inl f7)), (r 15, .inl ((cT 0), 200, .inl f15)), (r 25, .inl ((cT 1), 7, .inr (.inl f25))), (r 26, .inl ((cT 0), 7, .inl f26)), (r 27, .inl ((cT 0), 7, .inl f27)), (r 28, .inl ((cT 0), 7, .inl f28)), (r 29, .inl ((cT 0), 7, .inl f29)), (r 30, .inl ((cT 0), 112, .inl f30))] sz) := by
  refine Met.ofW (cc := b_Md_challenge) (maxL := 5) (ret := (Option.none : Option Jvm.ClassFile.FieldType)) (by decide) rfl ?_
  intro p e s m args below meth c s₁ B hml hv
  obtain ⟨hargs, hsz, hP, hK, hD0⟩ := hv
  have hx := B.exec
  have hb := B.bytes
  have hr := B.returns
  have hts := atoms_spec (ws := (Cond.code y_Md_challenge b_Md_challenge 5 (Option.none : Option Jvm.ClassFile.FieldType) :: BIG)) B.pre
  have hg : ∀ w ∈ BIG, w.before _ s = true := fun w h => hts w (List.mem_cons_of_mem _ h)
  have hown : s.vm.findClass "DoorServerModel" = some m.cls := findClass_of_methodNamed B.named
  have hlocks := B.notSynchronized
  subst hsz
  have hD := hD0.self (sz := s.heap.size)
  generalize hAe : va_A [(mo, .inr (12, mdG r cd tm (nI sn) (nI tx) (nI lz) (nI az) (nI na) (nI nt) (nI nr) mw ml mk dq)), (r 7, .inl ((cT 0), 1000, .inl f7)), (r 15, .inl ((cT 0), 200, .inl f15)), (r 25, .inl ((cT 1), 7, .inr (.inl f25))), (r 26, .inl ((cT 0), 7, .inl f26)), (r 27, .inl ((cT 0), 7, .inl f27)), (r 28, .inl ((cT 0), 7, .inl f28)), (r 29, .inl ((cT 0), 7, .inl f29)), (r 30, .inl ((cT 0), 112, .inl f30))] s.heap.size = A at hD ⊢
  have hA : ∀ q : Nat, s.heap.size ≤ q → A q := fun q h => by rw [← hAe]; exact Or.inr h
  have hS : va_S A s.heap s.heap [] := va_S.rf
  have hl := lv_entry ([.ref mo, .int x, .int y, .int z9]) (n := 5) (Nat.le_of_ble_eq_true rfl)
  refine W.eq (g2 := entryFrame m (List.toArray [.ref mo, .int x, .int y, .int z9]) 5) (by rw [hargs]) ?_
  rw [lg_entry_eq]
  generalize (lg_sl ([.ref mo, .int x, .int y, .int z9]) ++ List.replicate (5 - (lg_sl ([.ref mo, .int x, .int y, .int z9])).length) Slot.unset).toArray = ls at hl ⊢
  have hl : lv_has ls 5 [(0, .ref mo), (1, .int x), (2, .int y), (3, .int z9)] := hl
  change W p l e ({ frames := 2, cells := 0, slots := 0, locals := 45 } : Room) s m args below meth c s.heap [] 0 0 _ _
  have hP : va_P (dC, dI) vcl [(mo, .inr (12, mdG r cd tm (nI sn) (nI tx) (nI lz) (nI az) (nI na) (nI nt) (nI nr) mw ml mk dq)), (r 7, .inl ((cT 0), 1000, .inl f7)), (r 15, .inl ((cT 0), 200, .inl f15)), (r 25, .inl ((cT 1), 7, .inr (.inl f25))), (r 26, .inl ((cT 0), 7, .inl f26)), (r 27, .inl ((cT 0), 7, .inl f27)), (r 28, .inl ((cT 0), 7, .inl f28)), (r 29, .inl ((cT 0), 7, .inl f29)), (r 30, .inl ((cT 0), 112, .inl f30))] s.heap := hP
  refine lv_aload_n hx hb d_Md_challenge_0 rfl (lv_at hl 0 rfl) ?_
  refine va_get (D := (dC, dI)) (ci := 12) (v := (.int (nI nt))) (C := R_Md) (T := F_Md) (N := 45) hx hb hg in_Md hown hK hP 0 rfl rfl 24 (by decide) (hg _ k_1044) (fun _ h9 => h9) rfl d_Md_challenge_1 ?_
  refine lv_bipush (v := 6) hx hb d_Md_challenge_4 (by decide) ?_
  refine lv_icmp_ne (tgt := 14) hx hb d_Md_challenge_6 (by decide) (fun hc505 => ?_) (fun hc505 => ?_)
  · skip
    have n506 : ¬ nt = 6 := fun h7 => hc505 ((nI_eq (a := nt) (b := 6) (by omega) (by omega)).mpr h7)
    refine lv_aload_n hx hb d_Md_challenge_14 rfl (lv_at hl 0 rfl) ?_
    refine lv_dup hx hb d_Md_challenge_15 rfl ?_
    refine va_get (D := (dC, dI)) (ci := 12) (v := (.long mk)) (C := R_Md) (T := F_Md) (N := 45) hx hb hg in_Md hown hK hP 0 rfl rfl 31 (by decide) (hg _ k_1051) (fun _ h9 => h9) rfl d_Md_challenge_16 ?_
    refine lv_lconst (v := 1) hx hb d_Md_challenge_19 (by decide) ?_
    refine lv_ladd hx hb d_Md_challenge_20 ?_
    refine va_put (D := (dC, dI)) (ci := 12) (v := (.long (mk + 1))) (ty := .long) (C := R_Md) (T := F_Md) (N := 45) hx hb hg in_Md t_Md tok_Md nm_Md hown hK hP hD hS 0 rfl rfl 31 (by decide) (hg _ k_1051) (fun _ h9 => h9) rfl (by decide +kernel) rfl rfl (Nat.le_of_ble_eq_true rfl) d_Md_challenge_21 (fun H locs hP hD hS => ?_)
    have hP : va_P (dC, dI) vcl [(mo, .inr (12, mdG r cd tm (nI sn) (nI tx) (nI lz) (nI az) (nI na) (nI nt) (nI nr) mw ml (mk + 1) dq)), (r 7, .inl ((cT 0), 1000, .inl f7)), (r 15, .inl ((cT 0), 200, .inl f15)), (r 25, .inl ((cT 1), 7, .inr (.inl f25))), (r 26, .inl ((cT 0), 7, .inl f26)), (r 27, .inl ((cT 0), 7, .inl f27)), (r 28, .inl ((cT 0), 7, .inl f28)), (r 29, .inl ((cT 0), 7, .inl f29)), (r 30, .inl ((cT 0), 112, .inl f30))] H := hP
    have hD : va_D A [(mo, .inr (12, mdG r cd tm (nI sn) (nI tx) (nI lz) (nI az) (nI na) (nI nt) (nI nr) mw ml (mk + 1) dq)), (r 7, .inl ((cT 0), 1000, .inl f7)), (r 15, .inl ((cT 0), 200, .inl f15)), (r 25, .inl ((cT 1), 7, .inr (.inl f25))), (r 26, .inl ((cT 0), 7, .inl f26)), (r 27, .inl ((cT 0), 7, .inl f27)), (r 28, .inl ((cT 0), 7, .inl f28)), (r 29, .inl ((cT 0), 7, .inl f29)), (r 30, .inl ((cT 0), 112, .inl f30))] := hD
    refine lv_aload_n hx hb d_Md_challenge_24 rfl (lv_at hl 0 rfl) ?_
    refine va_get (D := (dC, dI)) (ci := 12) (v := (.ref (r 25))) (C := R_Md) (T := F_Md) (N := 45) hx hb hg in_Md hown hK hP 0 rfl rfl 25 (by decide) (hg _ k_1045) (fun _ h9 => h9) rfl d_Md_challenge_25 ?_
    refine lv_aload_n hx hb d_Md_challenge_28 rfl (lv_at hl 0 rfl) ?_
    refine va_get (D := (dC, dI)) (ci := 12) (v := (.int (nI nt))) (C := R_Md) (T := F_Md) (N := 45) hx hb hg in_Md hown hK hP 0 rfl rfl 24 (by decide) (hg _ k_1044) (fun _ h9 => h9) rfl d_Md_challenge_29 ?_
    refine lv_aload_n hx hb d_Md_challenge_32 rfl (lv_at hl 0 rfl) ?_
    refine va_get (D := (dC, dI)) (ci := 12) (v := (.long (mk + 1))) (C := R_Md) (T := F_Md) (N := 45) hx hb hg in_Md hown hK hP 0 rfl rfl 31 (by decide) (hg _ k_1051) (fun _ h9 => h9) rfl d_Md_challenge_33 ?_
    refine va_last hx hb hK hP hD hS 3 1 rfl rfl (i := (nI nt)) (vp_in_nI (n := nt) (N := 7) (by omega) (by decide)) d_Md_challenge_36 (fun H locs hP hD hS => ?_)
    have hP : va_P (dC, dI) vcl [(mo, .inr (12, mdG r cd tm (nI sn) (nI tx) (nI lz) (nI az) (nI na) (nI nt) (nI nr) mw ml (mk + 1) dq)), (r 7, .inl ((cT 0), 1000, .inl f7)), (r 15, .inl ((cT 0), 200, .inl f15)), (r 25, .inl ((cT 1), 7, .inr (.inl (vp_updL f25 (nI nt).toNatClampNeg (mk + 1))))), (r 26, .inl ((cT 0), 7, .inl f26)), (r 27, .inl ((cT 0), 7, .inl f27)), (r 28, .inl ((cT 0), 7, .inl f28)), (r 29, .inl ((cT 0), 7, .inl f29)), (r 30, .inl ((cT 0), 112, .inl f30))] H := hP
    have hD : va_D A [(mo, .inr (12, mdG r cd tm (nI sn) (nI tx) (nI lz) (nI az) (nI na) (nI nt) (nI nr) mw ml (mk + 1) dq)), (r 7, .inl ((cT 0), 1000, .inl f7)), (r 15, .inl ((cT 0), 200, .inl f15)), (r 25, .inl ((cT 1), 7, .inr (.inl (vp_updL f25 (nI nt).toNatClampNeg (mk + 1))))), (r 26, .inl ((cT 0), 7, .inl f26)), (r 27, .inl ((cT 0), 7, .inl f27)), (r 28, .inl ((cT 0), 7, .inl f28)), (r 29, .inl ((cT 0), 7, .inl f29)), (r 30, .inl ((cT 0), 112, .inl f30))] := hD
    refine lv_aload_n hx hb d_Md_challenge_37 rfl (lv_at hl 0 rfl) ?_
    refine va_get (D := (dC, dI)) (ci := 12) (v := (.ref (r 26))) (C := R_Md) (T := F_Md) (N := 45) hx hb hg in_Md hown hK hP 0 rfl rfl 26 (by decide) (hg _ k_1046) (fun _ h9 => h9) rfl d_Md_challenge_38 ?_
    refine lv_aload_n hx hb d_Md_challenge_41 rfl (lv_at hl 0 rfl) ?_
    refine va_get (D := (dC, dI)) (ci := 12) (v := (.int (nI nt))) (C := R_Md) (T := F_Md) (N := 45) hx hb hg in_Md hown hK hP 0 rfl rfl 24 (by decide) (hg _ k_1044) (fun _ h9 => h9) rfl d_Md_challenge_42 ?_
    refine lv_iload_n hx hb d_Md_challenge_45 rfl (lv_at hl 1 rfl) ?_
    refine va_iast hx hb hK hP hD hS 4 0 rfl rfl (i := (nI nt)) (vp_in_nI (n := nt) (N := 7) (by omega) (by decide)) d_Md_challenge_46 (fun H locs hP hD hS => ?_)
    have ef508 : upd f26 (nI nt).toNatClampNeg x = upd f26 nt x := by rw [show (nI nt).toNatClampNeg = nt from nI_clamp (by omega)]
    rw [ef508] at hP hD
    have hP : va_P (dC, dI) vcl [(mo, .inr (12, mdG r cd tm (nI sn) (nI tx) (nI lz) (nI az) (nI na) (nI nt) (nI nr) mw ml (mk + 1) dq)), (r 7, .inl ((cT 0), 1000, .inl f7)), (r 15, .inl ((cT 0), 200, .inl f15)), (r 25, .inl ((cT 1), 7, .inr (.inl (vp_updL f25 (nI nt).toNatClampNeg (mk + 1))))), (r 26, .inl ((cT 0), 7, .inl (upd f26 nt x))), (r 27, .inl ((cT 0), 7, .inl f27)), (r 28, .inl ((cT 0), 7, .inl f28)), (r 29, .inl ((cT 0), 7, .inl f29)), (r 30, .inl ((cT 0), 112, .inl f30))] H := hP
    have hD : va_D A [(mo, .inr (12, mdG r cd tm (nI sn) (nI tx) (nI lz) (nI az) (nI na) (nI nt) (nI nr) mw ml (mk + 1) dq)), (r 7, .inl ((cT 0), 1000, .inl f7)), (r 15, .inl ((cT 0), 200, .inl f15)), (r 25, .inl ((cT 1), 7, .inr (.inl (vp_updL f25 (nI nt).toNatClampNeg (mk + 1))))), (r 26, .inl ((cT 0), 7, .inl (upd f26 nt x))), (r 27, .inl ((cT 0), 7, .inl f27)), (r 28, .inl ((cT 0), 7, .inl f28)), (r 29, .inl ((cT 0), 7, .inl f29)), (r 30, .inl ((cT 0), 112, .inl f30))] := hD
    refine lv_aload_n hx hb d_Md_challenge_47 rfl (lv_at hl 0 rfl) ?_
    refine va_get (D := (dC, dI)) (ci := 12) (v := (.ref (r 27))) (C := R_Md) (T := F_Md) (N := 45) hx hb hg in_Md hown hK hP 0 rfl rfl 27 (by decide) (hg _ k_1047) (fun _ h9 => h9) rfl d_Md_challenge_48 ?_
    refine lv_aload_n hx hb d_Md_challenge_51 rfl (lv_at hl 0 rfl) ?_
    refine va_get (D := (dC, dI)) (ci := 12) (v := (.int (nI nt))) (C := R_Md) (T := F_Md) (N := 45) hx hb hg in_Md hown hK hP 0 rfl rfl 24 (by decide) (hg _ k_1044) (fun _ h9 => h9) rfl d_Md_challenge_52 ?_
    refine lv_iload_n hx hb d_Md_challenge_55 rfl (lv_at hl 2 rfl) ?_
    refine va_iast hx hb hK hP hD hS 5 0 rfl rfl (i := (nI nt)) (vp_in_nI (n := nt) (N := 7) (by omega) (by decide)) d_Md_challenge_56 (fun H locs hP hD hS => ?_)
    have ef509 : upd f27 (nI nt).toNatClampNeg y = upd f27 nt y := by rw [show (nI nt).toNatClampNeg = nt from nI_clamp (by omega)]
    rw [ef509] at hP hD
    have hP : va_P (dC, dI) vcl [(mo, .inr (12, mdG r cd tm (nI sn) (nI tx) (nI lz) (nI az) (nI na) (nI nt) (nI nr) mw ml (mk + 1) dq)), (r 7, .inl ((cT 0), 1000, .inl f7)), (r 15, .inl ((cT 0), 200, .inl f15)), (r 25, .inl ((cT 1), 7, .inr (.inl (vp_updL f25 (nI nt).toNatClampNeg (mk + 1))))), (r 26, .inl ((cT 0), 7, .inl (upd f26 nt x))), (r 27, .inl ((cT 0), 7, .inl (upd f27 nt y))), (r 28, .inl ((cT 0), 7, .inl f28)), (r 29, .inl ((cT 0), 7, .inl f29)), (r 30, .inl ((cT 0), 112, .inl f30))] H := hP
    have hD : va_D A [(mo, .inr (12, mdG r cd tm (nI sn) (nI tx) (nI lz) (nI az) (nI na) (nI nt) (nI nr) mw ml (mk + 1) dq)), (r 7, .inl ((cT 0), 1000, .inl f7)), (r 15, .inl ((cT 0), 200, .inl f15)), (r 25, .inl ((cT 1), 7, .inr (.inl (vp_updL f25 (nI nt).toNatClampNeg (mk + 1))))), (r 26, .inl ((cT 0), 7, .inl (upd f26 nt x))), (r 27, .inl ((cT 0), 7, .inl (upd f27 nt y))), (r 28, .inl ((cT 0), 7, .inl f28)), (r 29, .inl ((cT 0), 7, .inl f29)), (r 30, .inl ((cT 0), 112, .inl f30))] := hD
    refine lv_aload_n hx hb d_Md_challenge_57 rfl (lv_at hl 0 rfl) ?_
    refine va_get (D := (dC, dI)) (ci := 12) (v := (.ref (r 28))) (C := R_Md) (T := F_Md) (N := 45) hx hb hg in_Md hown hK hP 0 rfl rfl 28 (by decide) (hg _ k_1048) (fun _ h9 => h9) rfl d_Md_challenge_58 ?_
    refine lv_aload_n hx hb d_Md_challenge_61 rfl (lv_at hl 0 rfl) ?_
    refine va_get (D := (dC, dI)) (ci := 12) (v := (.int (nI nt))) (C := R_Md) (T := F_Md) (N := 45) hx hb hg in_Md hown hK hP 0 rfl rfl 24 (by decide) (hg _ k_1044) (fun _ h9 => h9) rfl d_Md_challenge_62 ?_
    refine lv_iload_n hx hb d_Md_challenge_65 rfl (lv_at hl 3 rfl) ?_
    refine va_iast hx hb hK hP hD hS 6 0 rfl rfl (i := (nI nt)) (vp_in_nI (n := nt) (N := 7) (by omega) (by decide)) d_Md_challenge_66 (fun H locs hP hD hS => ?_)
    have ef510 : upd f28 (nI nt).toNatClampNeg z9 = upd f28 nt z9 := by rw [show (nI nt).toNatClampNeg = nt from nI_clamp (by omega)]
    rw [ef510] at hP hD
    have hP : va_P (dC, dI) vcl [(mo, .inr (12, mdG r cd tm (nI sn) (nI tx) (nI lz) (nI az) (nI na) (nI nt) (nI nr) mw ml (mk + 1) dq)), (r 7, .inl ((cT 0), 1000, .inl f7)), (r 15, .inl ((cT 0), 200, .inl f15)), (r 25, .inl ((cT 1), 7, .inr (.inl (vp_updL f25 (nI nt).toNatClampNeg (mk + 1))))), (r 26, .inl ((cT 0), 7, .inl (upd f26 nt x))), (r 27, .inl ((cT 0), 7, .inl (upd f27 nt y))), (r 28, .inl ((cT 0), 7, .inl (upd f28 nt z9))), (r 29, .inl ((cT 0), 7, .inl f29)), (r 30, .inl ((cT 0), 112, .inl f30))] H := hP
    have hD : va_D A [(mo, .inr (12, mdG r cd tm (nI sn) (nI tx) (nI lz) (nI az) (nI na) (nI nt) (nI nr) mw ml (mk + 1) dq)), (r 7, .inl ((cT 0), 1000, .inl f7)), (r 15, .inl ((cT 0), 200, .inl f15)), (r 25, .inl ((cT 1), 7, .inr (.inl (vp_updL f25 (nI nt).toNatClampNeg (mk + 1))))), (r 26, .inl ((cT 0), 7, .inl (upd f26 nt x))), (r 27, .inl ((cT 0), 7, .inl (upd f27 nt y))), (r 28, .inl ((cT 0), 7, .inl (upd f28 nt z9))), (r 29, .inl ((cT 0), 7, .inl f29)), (r 30, .inl ((cT 0), 112, .inl f30))] := hD
    refine lv_aload_n hx hb d_Md_challenge_67 rfl (lv_at hl 0 rfl) ?_
    refine va_get (D := (dC, dI)) (ci := 12) (v := (.ref (r 29))) (C := R_Md) (T := F_Md) (N := 45) hx hb hg in_Md hown hK hP 0 rfl rfl 29 (by decide) (hg _ k_1049) (fun _ h9 => h9) rfl d_Md_challenge_68 ?_
    refine lv_aload_n hx hb d_Md_challenge_71 rfl (lv_at hl 0 rfl) ?_
    refine va_get (D := (dC, dI)) (ci := 12) (v := (.int (nI nt))) (C := R_Md) (T := F_Md) (N := 45) hx hb hg in_Md hown hK hP 0 rfl rfl 24 (by decide) (hg _ k_1044) (fun _ h9 => h9) rfl d_Md_challenge_72 ?_
    refine lv_aload_n hx hb d_Md_challenge_75 rfl (lv_at hl 0 rfl) ?_
    refine va_get (D := (dC, dI)) (ci := 12) (v := (.int tm)) (C := R_Md) (T := F_Md) (N := 45) hx hb hg in_Md hown hK hP 0 rfl rfl 2 (by decide) (hg _ k_1022) (fun _ h9 => h9) rfl d_Md_challenge_76 ?_
    refine va_iast hx hb hK hP hD hS 7 0 rfl rfl (i := (nI nt)) (vp_in_nI (n := nt) (N := 7) (by omega) (by decide)) d_Md_challenge_79 (fun H locs hP hD hS => ?_)
    have ef511 : upd f29 (nI nt).toNatClampNeg tm = upd f29 nt tm := by rw [show (nI nt).toNatClampNeg = nt from nI_clamp (by omega)]
    rw [ef511] at hP hD
    have hP : va_P (dC, dI) vcl [(mo, .inr (12, mdG r cd tm (nI sn) (nI tx) (nI lz) (nI az) (nI na) (nI nt) (nI nr) mw ml (mk + 1) dq)), (r 7, .inl ((cT 0), 1000, .inl f7)), (r 15, .inl ((cT 0), 200, .inl f15)), (r 25, .inl ((cT 1), 7, .inr (.inl (vp_updL f25 (nI nt).toNatClampNeg (mk + 1))))), (r 26, .inl ((cT 0), 7, .inl (upd f26 nt x))), (r 27, .inl ((cT 0), 7, .inl (upd f27 nt y))), (r 28, .inl ((cT 0), 7, .inl (upd f28 nt z9))), (r 29, .inl ((cT 0), 7, .inl (upd f29 nt tm))), (r 30, .inl ((cT 0), 112, .inl f30))] H := hP
    have hD : va_D A [(mo, .inr (12, mdG r cd tm (nI sn) (nI tx) (nI lz) (nI az) (nI na) (nI nt) (nI nr) mw ml (mk + 1) dq)), (r 7, .inl ((cT 0), 1000, .inl f7)), (r 15, .inl ((cT 0), 200, .inl f15)), (r 25, .inl ((cT 1), 7, .inr (.inl (vp_updL f25 (nI nt).toNatClampNeg (mk + 1))))), (r 26, .inl ((cT 0), 7, .inl (upd f26 nt x))), (r 27, .inl ((cT 0), 7, .inl (upd f27 nt y))), (r 28, .inl ((cT 0), 7, .inl (upd f28 nt z9))), (r 29, .inl ((cT 0), 7, .inl (upd f29 nt tm))), (r 30, .inl ((cT 0), 112, .inl f30))] := hD
    refine lv_iconst (v := 0) hx hb d_Md_challenge_80 (by decide) ?_
    refine lv_istore (lv' := [(4, .int 0), (0, .ref mo), (1, .int x), (2, .int y), (3, .int z9)]) hx hb d_Md_challenge_81 hl (by decide) rfl (fun ls hl => ?_)
    have hl := lv_sub hl [0, 1, 2, 3, 4] (show _ = [(4, .int 0), (0, .ref mo), (1, .int x), (2, .int y), (3, .int z9)] from rfl)
    have L513 : ∀ (Q : State → Prop) (exit : ∀ (g30_512 : Nat → Int32) (dw9 : Int64) (H : Heap) (locs : List Loc) (ls : Array Slot), va_P (dC, dI) vcl [(mo, .inr (12, mdG r cd tm (nI sn) (nI tx) (nI lz) (nI az) (nI na) (nI nt) (nI nr) mw ml (mk + 1) dw9)), (r 7, .inl ((cT 0), 1000, .inl f7)), (r 15, .inl ((cT 0), 200, .inl f15)), (r 25, .inl ((cT 1), 7, .inr (.inl (vp_updL f25 (nI nt).toNatClampNeg (mk + 1))))), (r 26, .inl ((cT 0), 7, .inl (upd f26 nt x))), (r 27, .inl ((cT 0), 7, .inl (upd f27 nt y))), (r 28, .inl ((cT 0), 7, .inl (upd f28 nt z9))), (r 29, .inl ((cT 0), 7, .inl (upd f29 nt tm))), (r 30, .inl ((cT 0), 112, .inl g30_512))] H → va_D A [(mo, .inr (12, mdG r cd tm (nI sn) (nI tx) (nI lz) (nI az) (nI na) (nI nt) (nI nr) mw ml (mk + 1) dw9)), (r 7, .inl ((cT 0), 1000, .inl f7)), (r 15, .inl ((cT 0), 200, .inl f15)), (r 25, .inl ((cT 1), 7, .inr (.inl (vp_updL f25 (nI nt).toNatClampNeg (mk + 1))))), (r 26, .inl ((cT 0), 7, .inl (upd f26 nt x))), (r 27, .inl ((cT 0), 7, .inl (upd f27 nt y))), (r 28, .inl ((cT 0), 7, .inl (upd f28 nt z9))), (r 29, .inl ((cT 0), 7, .inl (upd f29 nt tm))), (r 30, .inl ((cT 0), 112, .inl g30_512))] → va_S A s.heap H locs → lv_has ls 5 [(4, .int (nI 16)), (0, .ref mo), (1, .int x), (2, .int y), (3, .int z9)] → W p l e ({ frames := 2, cells := 0, slots := 0, locals := 45 } : Room) s m args below meth c H locs 0 0 Q (F0 m 135 ls [])) (j8 i : Nat) (g30_512 : Nat → Int32) (dw9 : Int64) (H : Heap) (locs : List Loc) (ls : Array Slot), i + j8 = 16 → va_P (dC, dI) vcl [(mo, .inr (12, mdG r cd tm (nI sn) (nI tx) (nI lz) (nI az) (nI na) (nI nt) (nI nr) mw ml (mk + 1) dw9)), (r 7, .inl ((cT 0), 1000, .inl f7)), (r 15, .inl ((cT 0), 200, .inl f15)), (r 25, .inl ((cT 1), 7, .inr (.inl (vp_updL f25 (nI nt).toNatClampNeg (mk + 1))))), (r 26, .inl ((cT 0), 7, .inl (upd f26 nt x))), (r 27, .inl ((cT 0), 7, .inl (upd f27 nt y))), (r 28, .inl ((cT 0), 7, .inl (upd f28 nt z9))), (r 29, .inl ((cT 0), 7, .inl (upd f29 nt tm))), (r 30, .inl ((cT 0), 112, .inl g30_512))] H → va_D A [(mo, .inr (12, mdG r cd tm (nI sn) (nI tx) (nI lz) (nI az) (nI na) (nI nt) (nI nr) mw ml (mk + 1) dw9)), (r 7, .inl ((cT 0), 1000, .inl f7)), (r 15, .inl ((cT 0), 200, .inl f15)), (r 25, .inl ((cT 1), 7, .inr (.inl (vp_updL f25 (nI nt).toNatClampNeg (mk + 1))))), (r 26, .inl ((cT 0), 7, .inl (upd f26 nt x))), (r 27, .inl ((cT 0), 7, .inl (upd f27 nt y))), (r 28, .inl ((cT 0), 7, .inl (upd f28 nt z9))), (r 29, .inl ((cT 0), 7, .inl (upd f29 nt tm))), (r 30, .inl ((cT 0), 112, .inl g30_512))] → va_S A s.heap H locs → lv_has ls 5 [(4, .int (nI i)), (0, .ref mo), (1, .int x), (2, .int y), (3, .int z9)] → W p l e ({ frames := 2, cells := 0, slots := 0, locals := 45 } : Room) s m args below meth c H locs 0 0 Q (F0 m 83 ls []) := by
      intro Q exit j8
      induction j8 with
      | zero => 
        intro i g30_512 dw9 H locs ls hij  hP hD hS hl
        have hij : 16 = i := by omega
        refine lv_iload hx hb d_Md_challenge_83 (lv_at hl 0 rfl) ?_
        refine lv_bipush (v := 16) hx hb d_Md_challenge_85 (by decide) ?_
        refine lv_topi (fun x515 e514 => ?_)
        obtain rfl : x515 = nI 16 := by rw [e514]; rfl
        refine lv_icmp_ge (tgt := 135) hx hb d_Md_challenge_87 (by decide) (fun hc516 => ?_) (fun hn9 => absurd (nI_le (by omega) (by omega)) hn9)
        subst hij
        exact exit g30_512 dw9 _ _ _  hP hD hS hl
      | succ j8 ih => 
        intro i g30_512 dw9 H locs ls hij  hP hD hS hl
        have hlt : i < 16 := by omega
        have hlti := hlt
        refine lv_iload hx hb d_Md_challenge_83 (lv_at hl 0 rfl) ?_
        refine lv_bipush (v := 16) hx hb d_Md_challenge_85 (by decide) ?_
        refine lv_topi (fun x518 e517 => ?_)
        obtain rfl : x518 = nI 16 := by rw [e517]; rfl
        refine lv_icmp_ge (tgt := 135) hx hb d_Md_challenge_87 (by decide) (fun hn9 => absurd hn9 (nI_ge (by omega) (by omega))) (fun hc519 => ?_)
        refine lv_aload_n hx hb d_Md_challenge_90 rfl (lv_at hl 1 rfl) ?_
        refine lv_aload_n hx hb d_Md_challenge_91 rfl (lv_at hl 1 rfl) ?_
        refine va_get (D := (dC, dI)) (ci := 12) (v := (.long dw9)) (C := R_Md) (T := F_Md) (N := 45) hx hb hg in_Md hown hK hP 0 rfl rfl 32 (by decide) (hg _ k_1052) (fun _ h9 => h9) rfl d_Md_challenge_92 ?_
        refine lv_ldc2 (v := 6364136223846793005) hx hb hown (hg _ k_1357) d_Md_challenge_95 ?_
        refine lv_lmul hx hb d_Md_challenge_98 ?_
        refine lv_ldc2 (v := 1442695040888963407) hx hb hown (hg _ k_1358) d_Md_challenge_99 ?_
        refine lv_ladd hx hb d_Md_challenge_102 ?_
        refine va_put (D := (dC, dI)) (ci := 12) (v := (.long ((dw9 * 6364136223846793005) + 1442695040888963407))) (ty := .long) (C := R_Md) (T := F_Md) (N := 45) hx hb hg in_Md t_Md tok_Md nm_Md hown hK hP hD hS 0 rfl rfl 32 (by decide) (hg _ k_1052) (fun _ h9 => h9) rfl (by decide +kernel) rfl rfl (Nat.le_of_ble_eq_true rfl) d_Md_challenge_103 (fun H locs hP hD hS => ?_)
        have hP : va_P (dC, dI) vcl [(mo, .inr (12, mdG r cd tm (nI sn) (nI tx) (nI lz) (nI az) (nI na) (nI nt) (nI nr) mw ml (mk + 1) ((dw9 * 6364136223846793005) + 1442695040888963407))), (r 7, .inl ((cT 0), 1000, .inl f7)), (r 15, .inl ((cT 0), 200, .inl f15)), (r 25, .inl ((cT 1), 7, .inr (.inl (vp_updL f25 (nI nt).toNatClampNeg (mk + 1))))), (r 26, .inl ((cT 0), 7, .inl (upd f26 nt x))), (r 27, .inl ((cT 0), 7, .inl (upd f27 nt y))), (r 28, .inl ((cT 0), 7, .inl (upd f28 nt z9))), (r 29, .inl ((cT 0), 7, .inl (upd f29 nt tm))), (r 30, .inl ((cT 0), 112, .inl g30_512))] H := hP
        have hD : va_D A [(mo, .inr (12, mdG r cd tm (nI sn) (nI tx) (nI lz) (nI az) (nI na) (nI nt) (nI nr) mw ml (mk + 1) ((dw9 * 6364136223846793005) + 1442695040888963407))), (r 7, .inl ((cT 0), 1000, .inl f7)), (r 15, .inl ((cT 0), 200, .inl f15)), (r 25, .inl ((cT 1), 7, .inr (.inl (vp_updL f25 (nI nt).toNatClampNeg (mk + 1))))), (r 26, .inl ((cT 0), 7, .inl (upd f26 nt x))), (r 27, .inl ((cT 0), 7, .inl (upd f27 nt y))), (r 28, .inl ((cT 0), 7, .inl (upd f28 nt z9))), (r 29, .inl ((cT 0), 7, .inl (upd f29 nt tm))), (r 30, .inl ((cT 0), 112, .inl g30_512))] := hD
        refine lv_aload_n hx hb d_Md_challenge_106 rfl (lv_at hl 1 rfl) ?_
        refine va_get (D := (dC, dI)) (ci := 12) (v := (.ref (r 30))) (C := R_Md) (T := F_Md) (N := 45) hx hb hg in_Md hown hK hP 0 rfl rfl 30 (by decide) (hg _ k_1050) (fun _ h9 => h9) rfl d_Md_challenge_107 ?_
        refine lv_bipush (v := 16) hx hb d_Md_challenge_110 (by decide) ?_
        refine lv_aload_n hx hb d_Md_challenge_112 rfl (lv_at hl 1 rfl) ?_
        refine va_get (D := (dC, dI)) (ci := 12) (v := (.int (nI nt))) (C := R_Md) (T := F_Md) (N := 45) hx hb hg in_Md hown hK hP 0 rfl rfl 24 (by decide) (hg _ k_1044) (fun _ h9 => h9) rfl d_Md_challenge_113 ?_
        refine lv_imul hx hb d_Md_challenge_116 ?_
        refine lv_topi (fun x521 e520 => ?_)
        obtain rfl : x521 = nI (16 * nt) := by rw [e520]; exact pk_mul 16 nt
        refine lv_iload hx hb d_Md_challenge_117 (lv_at hl 0 rfl) ?_
        refine lv_iadd hx hb d_Md_challenge_119 ?_
        refine lv_topi (fun x523 e522 => ?_)
        obtain rfl : x523 = nI ((16 * nt) + i) := by rw [e522]; exact nI_add (16 * nt) i
        refine lv_aload_n hx hb d_Md_challenge_120 rfl (lv_at hl 1 rfl) ?_
        refine va_get (D := (dC, dI)) (ci := 12) (v := (.long ((dw9 * 6364136223846793005) + 1442695040888963407))) (C := R_Md) (T := F_Md) (N := 45) hx hb hg in_Md hown hK hP 0 rfl rfl 32 (by decide) (hg _ k_1052) (fun _ h9 => h9) rfl d_Md_challenge_121 ?_
        refine lv_bipush (v := 56) hx hb d_Md_challenge_124 (by decide) ?_
        refine lv_lushr (v := (((dw9 * 6364136223846793005) + 1442695040888963407).toUInt64 >>> ((56 : Int32).toInt64.toUInt64 &&& Int64.toUInt64 63)).toInt64) hx hb d_Md_challenge_126 rfl ?_
        refine lv_l2i (v := ((((dw9 * 6364136223846793005) + 1442695040888963407).toUInt64 >>> ((56 : Int32).toInt64.toUInt64 &&& Int64.toUInt64 63)).toInt64).toInt32) hx hb d_Md_challenge_127 rfl ?_
        refine va_iast hx hb hK hP hD hS 8 0 rfl rfl (i := (nI ((16 * nt) + i))) (vp_in_nI (n := (16 * nt) + i) (N := 112) (by omega) (by decide)) d_Md_challenge_128 (fun H locs hP hD hS => ?_)
        have ef524 : upd g30_512 (nI ((16 * nt) + i)).toNatClampNeg (((((dw9 * 6364136223846793005) + 1442695040888963407).toUInt64 >>> ((56 : Int32).toInt64.toUInt64 &&& Int64.toUInt64 63)).toInt64).toInt32) = upd g30_512 ((16 * nt) + i) (((((dw9 * 6364136223846793005) + 1442695040888963407).toUInt64 >>> ((56 : Int32).toInt64.toUInt64 &&& Int64.toUInt64 63)).toInt64).toInt32) := by rw [show (nI ((16 * nt) + i)).toNatClampNeg = (16 * nt) + i from nI_clamp (by omega)]
        rw [ef524] at hP hD
        have hP : va_P (dC, dI) vcl [(mo, .inr (12, mdG r cd tm (nI sn) (nI tx) (nI lz) (nI az) (nI na) (nI nt) (nI nr) mw ml (mk + 1) ((dw9 * 6364136223846793005) + 1442695040888963407))), (r 7, .inl ((cT 0), 1000, .inl f7)), (r 15, .inl ((cT 0), 200, .inl f15)), (r 25, .inl ((cT 1), 7, .inr (.inl (vp_updL f25 (nI nt).toNatClampNeg (mk + 1))))), (r 26, .inl ((cT 0), 7, .inl (upd f26 nt x))), (r 27, .inl ((cT 0), 7, .inl (upd f27 nt y))), (r 28, .inl ((cT 0), 7, .inl (upd f28 nt z9))), (r 29, .inl ((cT 0), 7, .inl (upd f29 nt tm))), (r 30, .inl ((cT 0), 112, .inl (upd g30_512 ((16 * nt) + i) (((((dw9 * 6364136223846793005) + 1442695040888963407).toUInt64 >>> ((56 : Int32).toInt64.toUInt64 &&& Int64.toUInt64 63)).toInt64).toInt32))))] H := hP
        have hD : va_D A [(mo, .inr (12, mdG r cd tm (nI sn) (nI tx) (nI lz) (nI az) (nI na) (nI nt) (nI nr) mw ml (mk + 1) ((dw9 * 6364136223846793005) + 1442695040888963407))), (r 7, .inl ((cT 0), 1000, .inl f7)), (r 15, .inl ((cT 0), 200, .inl f15)), (r 25, .inl ((cT 1), 7, .inr (.inl (vp_updL f25 (nI nt).toNatClampNeg (mk + 1))))), (r 26, .inl ((cT 0), 7, .inl (upd f26 nt x))), (r 27, .inl ((cT 0), 7, .inl (upd f27 nt y))), (r 28, .inl ((cT 0), 7, .inl (upd f28 nt z9))), (r 29, .inl ((cT 0), 7, .inl (upd f29 nt tm))), (r 30, .inl ((cT 0), 112, .inl (upd g30_512 ((16 * nt) + i) (((((dw9 * 6364136223846793005) + 1442695040888963407).toUInt64 >>> ((56 : Int32).toInt64.toUInt64 &&& Int64.toUInt64 63)).toInt64).toInt32))))] := hD
        refine lv_iinc (k := 0) (v := nI (i + 1)) (lv' := [(4, .int (nI (i + 1))), (0, .ref mo), (1, .int x), (2, .int y), (3, .int z9)]) hx hb d_Md_challenge_129 hl rfl (nI_1 i) (by decide) rfl (fun ls hl => ?_)
        refine lv_goto (tgt := 83) hx hb d_Md_challenge_132 (by decide) ?_
        have hl := lv_sub hl [0, 1, 2, 3, 4] (show _ = [(4, .int (nI (i + 1))), (0, .ref mo), (1, .int x), (2, .int y), (3, .int z9)] from rfl)
        exact ih (i + 1) _ _ _ _ _ (by omega)  hP hD hS hl
    refine L513 _ (fun g30_512 dw9 H locs ls  hP hD hS hl => ?_) (16 - 0) 0 f30 dq H _ ls (by omega)  hP hD hS hl
    refine lv_aload_n hx hb d_Md_challenge_135 rfl (lv_at hl 1 rfl) ?_
    refine lv_bipush (v := 11) hx hb d_Md_challenge_136 (by decide) ?_
    have hPc := hP.sub (ws' := [(mo, .inr (12, mdG r cd tm (nI sn) (nI tx) (nI lz) (nI az) (nI na) (nI nt) (nI nr) mw ml (mk + 1) dw9)), (r 7, .inl ((cT 0), 1000, .inl f7)), (r 15, .inl ((cT 0), 200, .inl f15))]) [0, 1, 2] rfl
    have hDc := hD.sub (ws' := [(mo, .inr (12, mdG r cd tm (nI sn) (nI tx) (nI lz) (nI az) (nI na) (nI nt) (nI nr) mw ml (mk + 1) dw9)), (r 7, .inl ((cT 0), 1000, .inl f7)), (r 15, .inl ((cT 0), 200, .inl f15))]) [0, 1, 2] (by decide) rfl
    have hFc := va_free (wc := [(mo, .inr (12, mdG r cd tm (nI sn) (nI tx) (nI lz) (nI az) (nI na) (nI nt) (nI nr) mw ml (mk + 1) dw9)), (r 7, .inl ((cT 0), 1000, .inl f7)), (r 15, .inl ((cT 0), 200, .inl f15))]) hD hS hA [0, 1, 2] rfl
    refine va_callv (va_runV (C := "DoorServerModel") (As := [.int 11]) (rest := []) ⟨hx, hb, hml, hown, hg⟩ (m_open l dC dI cT H.size mo r cd tm sn tx lz az na nt nr mw ml (mk + 1) dw9 f7 f15 11 ) (cwV 1 hg (gI (List.forall_mem_append.mpr ⟨List.forall_mem_cons.mpr ⟨k_1333, List.forall_mem_cons.mpr ⟨k_1335, List.forall_mem_cons.mpr ⟨(big_sel (q := y_Md_open) (n := 45) (by decide +kernel)), List.forall_mem_cons.mpr ⟨k_13, fun _ h => absurd h List.not_mem_nil⟩⟩⟩⟩, List.forall_mem_cons.mpr ⟨k_1336, fun _ h => h⟩⟩)) rfl rfl rfl (by decide +kernel) ⟨Nat.le_of_ble_eq_true rfl, Nat.le_of_ble_eq_true rfl⟩) ⟨fun a U g mk q => by obtain ⟨q0, q1, qP, qK, qD⟩ := q; exact ⟨q0, q1, qP, va_K.moved (u := U) (U := U.calling g mk a) (Vm.Alike.refl U.vm) qK, qD⟩, va_recv (q0 := 0) (ci := 12) hK hP rfl rfl, fun U hU hW => ⟨rfl, by rw [hU], by rw [hU]; exact hPc, va_K.moved hW.alike hK, hDc.weaken (fun _ _ _ _ => trivial)⟩⟩ rfl rfl hl.1 rfl (lv_room (Nat.le_of_ble_eq_true rfl)) d_Md_challenge_138 ⟨Nat.le_of_ble_eq_true rfl, Nat.le_of_ble_eq_true rfl⟩) hS (fun q _ h => hFc q h) hFc (fun u t H1 locs ht hvm hw hB hz1 hk1 hS => ?_)
    obtain ⟨g15_525, rfl⟩ : ∃ z, z = u := ⟨_, rfl⟩
    try dsimp only at hw hB
    obtain ⟨hP1, hK1, hD1⟩ := hB
    rw [ht] at hP1
    obtain ⟨hP, hD⟩ := va_join (wr := [(r 25, .inl ((cT 1), 7, .inr (.inl (vp_updL f25 (nI nt).toNatClampNeg (mk + 1))))), (r 26, .inl ((cT 0), 7, .inl (upd f26 nt x))), (r 27, .inl ((cT 0), 7, .inl (upd f27 nt y))), (r 28, .inl ((cT 0), 7, .inl (upd f28 nt z9))), (r 29, .inl ((cT 0), 7, .inl (upd f29 nt tm))), (r 30, .inl ((cT 0), 112, .inl g30_512))]) (w1 := [(mo, .inr (12, mdG r cd tm (nI sn) (nI tx) (nI lz) (nI 20) (nI na) (nI nt) (nI nr) mw ml (mk + 1) dw9)), (r 7, .inl ((cT 0), 1000, .inl f7)), (r 15, .inl ((cT 0), 200, .inl g15_525))]) hP hD [0, 1, 2] [3, 4, 5, 6, 7, 8] rfl rfl (by decide) (by decide) hk1 hFc hP1 hD1
    have hw526 := hw
    clear hPc hDc hFc hz1 hk1 hP1 hK1 hD1
    generalize H1 = H at hP hS ⊢
    have hP : va_P (dC, dI) vcl [(r 25, .inl ((cT 1), 7, .inr (.inl (vp_updL f25 (nI nt).toNatClampNeg (mk + 1))))), (r 26, .inl ((cT 0), 7, .inl (upd f26 nt x))), (r 27, .inl ((cT 0), 7, .inl (upd f27 nt y))), (r 28, .inl ((cT 0), 7, .inl (upd f28 nt z9))), (r 29, .inl ((cT 0), 7, .inl (upd f29 nt tm))), (r 30, .inl ((cT 0), 112, .inl g30_512)), (mo, .inr (12, mdG r cd tm (nI sn) (nI tx) (nI lz) (nI 20) (nI na) (nI nt) (nI nr) mw ml (mk + 1) dw9)), (r 7, .inl ((cT 0), 1000, .inl f7)), (r 15, .inl ((cT 0), 200, .inl g15_525))] H := hP
    have hD : va_D A [(r 25, .inl ((cT 1), 7, .inr (.inl (vp_updL f25 (nI nt).toNatClampNeg (mk + 1))))), (r 26, .inl ((cT 0), 7, .inl (upd f26 nt x))), (r 27, .inl ((cT 0), 7, .inl (upd f27 nt y))), (r 28, .inl ((cT 0), 7, .inl (upd f28 nt z9))), (r 29, .inl ((cT 0), 7, .inl (upd f29 nt tm))), (r 30, .inl ((cT 0), 112, .inl g30_512)), (mo, .inr (12, mdG r cd tm (nI sn) (nI tx) (nI lz) (nI 20) (nI na) (nI nt) (nI nr) mw ml (mk + 1) dw9)), (r 7, .inl ((cT 0), 1000, .inl f7)), (r 15, .inl ((cT 0), 200, .inl g15_525))] := hD
    refine lv_aload_n hx hb d_Md_challenge_141 rfl (lv_at hl 1 rfl) ?_
    refine lv_bipush (v := 24) hx hb d_Md_challenge_142 (by decide) ?_
    have hPc := hP.sub (ws' := [(mo, .inr (12, mdG r cd tm (nI sn) (nI tx) (nI lz) (nI 20) (nI na) (nI nt) (nI nr) mw ml (mk + 1) dw9)), (r 15, .inl ((cT 0), 200, .inl g15_525))]) [6, 8] rfl
    have hDc := hD.sub (ws' := [(mo, .inr (12, mdG r cd tm (nI sn) (nI tx) (nI lz) (nI 20) (nI na) (nI nt) (nI nr) mw ml (mk + 1) dw9)), (r 15, .inl ((cT 0), 200, .inl g15_525))]) [6, 8] (by decide) rfl
    have hFc := va_free (wc := [(mo, .inr (12, mdG r cd tm (nI sn) (nI tx) (nI lz) (nI 20) (nI na) (nI nt) (nI nr) mw ml (mk + 1) dw9)), (r 15, .inl ((cT 0), 200, .inl g15_525))]) hD hS hA [6, 8] rfl
    refine va_callv (va_runV (C := "DoorServerModel") (As := [.int 24]) (rest := []) ⟨hx, hb, hml, hown, hg⟩ (m_tell l dC dI cT H.size mo r cd tm sn tx lz 20 na nt nr mw ml (mk + 1) dw9 g15_525 24 (by first | assumption | omega)) (cwV 1 hg (gI (List.forall_mem_append.mpr ⟨List.forall_mem_cons.mpr ⟨k_1337, List.forall_mem_cons.mpr ⟨k_1339, List.forall_mem_cons.mpr ⟨(big_sel (q := y_Md_tell) (n := 45) (by decide +kernel)), List.forall_mem_cons.mpr ⟨k_13, fun _ h => absurd h List.not_mem_nil⟩⟩⟩⟩, List.forall_mem_cons.mpr ⟨k_1340, fun _ h => h⟩⟩)) rfl rfl rfl (by decide +kernel) ⟨Nat.le_of_ble_eq_true rfl, Nat.le_of_ble_eq_true rfl⟩) ⟨fun a U g mk q => by obtain ⟨q0, q1, qP, qK, qD⟩ := q; exact ⟨q0, q1, qP, va_K.moved (u := U) (U := U.calling g mk a) (Vm.Alike.refl U.vm) qK, qD⟩, va_recv (q0 := 6) (ci := 12) hK hP rfl rfl, fun U hU hW => ⟨rfl, by rw [hU], by rw [hU]; exact hPc, va_K.moved hW.alike hK, hDc.weaken (fun _ _ _ _ => trivial)⟩⟩ rfl rfl hl.1 rfl (lv_room (Nat.le_of_ble_eq_true rfl)) d_Md_challenge_144 ⟨Nat.le_of_ble_eq_true rfl, Nat.le_of_ble_eq_true rfl⟩) hS (fun q _ h => hFc q h) hFc (fun u t H1 locs ht hvm hw hB hz1 hk1 hS => ?_)
    obtain ⟨g15_527, rfl⟩ : ∃ z, z = u := ⟨_, rfl⟩
    try dsimp only at hw hB
    obtain ⟨hP1, hK1, hD1⟩ := hB
    rw [ht] at hP1
    obtain ⟨hP, hD⟩ := va_join (wr := [(r 25, .inl ((cT 1), 7, .inr (.inl (vp_updL f25 (nI nt).toNatClampNeg (mk + 1))))), (r 26, .inl ((cT 0), 7, .inl (upd f26 nt x))), (r 27, .inl ((cT 0), 7, .inl (upd f27 nt y))), (r 28, .inl ((cT 0), 7, .inl (upd f28 nt z9))), (r 29, .inl ((cT 0), 7, .inl (upd f29 nt tm))), (r 30, .inl ((cT 0), 112, .inl g30_512)), (r 7, .inl ((cT 0), 1000, .inl f7))]) (w1 := [(mo, .inr (12, mdG r cd tm (nI sn) (nI tx) (nI lz) (nI (20 + 1)) (nI na) (nI nt) (nI nr) mw ml (mk + 1) dw9)), (r 15, .inl ((cT 0), 200, .inl g15_527))]) hP hD [6, 8] [0, 1, 2, 3, 4, 5, 7] rfl rfl (by decide) (by decide) hk1 hFc hP1 hD1
    have hw528 := hw
    clear hPc hDc hFc hz1 hk1 hP1 hK1 hD1
    generalize H1 = H at hP hS ⊢
    have hP : va_P (dC, dI) vcl [(r 25, .inl ((cT 1), 7, .inr (.inl (vp_updL f25 (nI nt).toNatClampNeg (mk + 1))))), (r 26, .inl ((cT 0), 7, .inl (upd f26 nt x))), (r 27, .inl ((cT 0), 7, .inl (upd f27 nt y))), (r 28, .inl ((cT 0), 7, .inl (upd f28 nt z9))), (r 29, .inl ((cT 0), 7, .inl (upd f29 nt tm))), (r 30, .inl ((cT 0), 112, .inl g30_512)), (r 7, .inl ((cT 0), 1000, .inl f7)), (mo, .inr (12, mdG r cd tm (nI sn) (nI tx) (nI lz) (nI (20 + 1)) (nI na) (nI nt) (nI nr) mw ml (mk + 1) dw9)), (r 15, .inl ((cT 0), 200, .inl g15_527))] H := hP
    have hD : va_D A [(r 25, .inl ((cT 1), 7, .inr (.inl (vp_updL f25 (nI nt).toNatClampNeg (mk + 1))))), (r 26, .inl ((cT 0), 7, .inl (upd f26 nt x))), (r 27, .inl ((cT 0), 7, .inl (upd f27 nt y))), (r 28, .inl ((cT 0), 7, .inl (upd f28 nt z9))), (r 29, .inl ((cT 0), 7, .inl (upd f29 nt tm))), (r 30, .inl ((cT 0), 112, .inl g30_512)), (r 7, .inl ((cT 0), 1000, .inl f7)), (mo, .inr (12, mdG r cd tm (nI sn) (nI tx) (nI lz) (nI (20 + 1)) (nI na) (nI nt) (nI nr) mw ml (mk + 1) dw9)), (r 15, .inl ((cT 0), 200, .inl g15_527))] := hD
    refine lv_aload_n hx hb d_Md_challenge_147 rfl (lv_at hl 1 rfl) ?_
    refine lv_bipush (v := 10) hx hb d_Md_challenge_148 (by decide) ?_
    have hPc := hP.sub (ws' := [(mo, .inr (12, mdG r cd tm (nI sn) (nI tx) (nI lz) (nI (20 + 1)) (nI na) (nI nt) (nI nr) mw ml (mk + 1) dw9)), (r 15, .inl ((cT 0), 200, .inl g15_527))]) [7, 8] rfl
    have hDc := hD.sub (ws' := [(mo, .inr (12, mdG r cd tm (nI sn) (nI tx) (nI lz) (nI (20 + 1)) (nI na) (nI nt) (nI nr) mw ml (mk + 1) dw9)), (r 15, .inl ((cT 0), 200, .inl g15_527))]) [7, 8] (by decide) rfl
    have hFc := va_free (wc := [(mo, .inr (12, mdG r cd tm (nI sn) (nI tx) (nI lz) (nI (20 + 1)) (nI na) (nI nt) (nI nr) mw ml (mk + 1) dw9)), (r 15, .inl ((cT 0), 200, .inl g15_527))]) hD hS hA [7, 8] rfl
    refine va_callv (va_runV (C := "DoorServerModel") (As := [.int 10]) (rest := []) ⟨hx, hb, hml, hown, hg⟩ (m_tell l dC dI cT H.size mo r cd tm sn tx lz (20 + 1) na nt nr mw ml (mk + 1) dw9 g15_527 10 (by first | assumption | omega)) (cwV 1 hg (gI (List.forall_mem_append.mpr ⟨List.forall_mem_cons.mpr ⟨k_1337, List.forall_mem_cons.mpr ⟨k_1339, List.forall_mem_cons.mpr ⟨(big_sel (q := y_Md_tell) (n := 45) (by decide +kernel)), List.forall_mem_cons.mpr ⟨k_13, fun _ h => absurd h List.not_mem_nil⟩⟩⟩⟩, List.forall_mem_cons.mpr ⟨k_1340, fun _ h => h⟩⟩)) rfl rfl rfl (by decide +kernel) ⟨Nat.le_of_ble_eq_true rfl, Nat.le_of_ble_eq_true rfl⟩) ⟨fun a U g mk q => by obtain ⟨q0, q1, qP, qK, qD⟩ := q; exact ⟨q0, q1, qP, va_K.moved (u := U) (U := U.calling g mk a) (Vm.Alike.refl U.vm) qK, qD⟩, va_recv (q0 := 7) (ci := 12) hK hP rfl rfl, fun U hU hW => ⟨rfl, by rw [hU], by rw [hU]; exact hPc, va_K.moved hW.alike hK, hDc.weaken (fun _ _ _ _ => trivial)⟩⟩ rfl rfl hl.1 rfl (lv_room (Nat.le_of_ble_eq_true rfl)) d_Md_challenge_150 ⟨Nat.le_of_ble_eq_true rfl, Nat.le_of_ble_eq_true rfl⟩) hS (fun q _ h => hFc q h) hFc (fun u t H1 locs ht hvm hw hB hz1 hk1 hS => ?_)
    obtain ⟨g15_529, rfl⟩ : ∃ z, z = u := ⟨_, rfl⟩
    try dsimp only at hw hB
    obtain ⟨hP1, hK1, hD1⟩ := hB
    rw [ht] at hP1
    obtain ⟨hP, hD⟩ := va_join (wr := [(r 25, .inl ((cT 1), 7, .inr (.inl (vp_updL f25 (nI nt).toNatClampNeg (mk + 1))))), (r 26, .inl ((cT 0), 7, .inl (upd f26 nt x))), (r 27, .inl ((cT 0), 7, .inl (upd f27 nt y))), (r 28, .inl ((cT 0), 7, .inl (upd f28 nt z9))), (r 29, .inl ((cT 0), 7, .inl (upd f29 nt tm))), (r 30, .inl ((cT 0), 112, .inl g30_512)), (r 7, .inl ((cT 0), 1000, .inl f7))]) (w1 := [(mo, .inr (12, mdG r cd tm (nI sn) (nI tx) (nI lz) (nI ((20 + 1) + 1)) (nI na) (nI nt) (nI nr) mw ml (mk + 1) dw9)), (r 15, .inl ((cT 0), 200, .inl g15_529))]) hP hD [7, 8] [0, 1, 2, 3, 4, 5, 6] rfl rfl (by decide) (by decide) hk1 hFc hP1 hD1
    have hw530 := hw
    clear hPc hDc hFc hz1 hk1 hP1 hK1 hD1
    generalize H1 = H at hP hS ⊢
    have hP : va_P (dC, dI) vcl [(r 25, .inl ((cT 1), 7, .inr (.inl (vp_updL f25 (nI nt).toNatClampNeg (mk + 1))))), (r 26, .inl ((cT 0), 7, .inl (upd f26 nt x))), (r 27, .inl ((cT 0), 7, .inl (upd f27 nt y))), (r 28, .inl ((cT 0), 7, .inl (upd f28 nt z9))), (r 29, .inl ((cT 0), 7, .inl (upd f29 nt tm))), (r 30, .inl ((cT 0), 112, .inl g30_512)), (r 7, .inl ((cT 0), 1000, .inl f7)), (mo, .inr (12, mdG r cd tm (nI sn) (nI tx) (nI lz) (nI ((20 + 1) + 1)) (nI na) (nI nt) (nI nr) mw ml (mk + 1) dw9)), (r 15, .inl ((cT 0), 200, .inl g15_529))] H := hP
    have hD : va_D A [(r 25, .inl ((cT 1), 7, .inr (.inl (vp_updL f25 (nI nt).toNatClampNeg (mk + 1))))), (r 26, .inl ((cT 0), 7, .inl (upd f26 nt x))), (r 27, .inl ((cT 0), 7, .inl (upd f27 nt y))), (r 28, .inl ((cT 0), 7, .inl (upd f28 nt z9))), (r 29, .inl ((cT 0), 7, .inl (upd f29 nt tm))), (r 30, .inl ((cT 0), 112, .inl g30_512)), (r 7, .inl ((cT 0), 1000, .inl f7)), (mo, .inr (12, mdG r cd tm (nI sn) (nI tx) (nI lz) (nI ((20 + 1) + 1)) (nI na) (nI nt) (nI nr) mw ml (mk + 1) dw9)), (r 15, .inl ((cT 0), 200, .inl g15_529))] := hD
    refine lv_bipush (v := 56) hx hb d_Md_challenge_153 (by decide) ?_
    refine lv_istore (lv' := [(4, .int 56), (0, .ref mo), (1, .int x), (2, .int y), (3, .int z9)]) hx hb d_Md_challenge_155 hl (by decide) rfl (fun ls hl => ?_)
    refine lv_iload hx hb d_Md_challenge_157 (lv_at hl 0 rfl) ?_
    refine lv_if_lt (tgt := 180) hx hb d_Md_challenge_159 (by decide) (fun hn9 => absurd hn9 (by decide)) (fun hc531 => ?_)
    refine lv_aload_n hx hb d_Md_challenge_162 rfl (lv_at hl 1 rfl) ?_
    refine lv_aload_n hx hb d_Md_challenge_163 rfl (lv_at hl 1 rfl) ?_
    refine va_get (D := (dC, dI)) (ci := 12) (v := (.long (mk + 1))) (C := R_Md) (T := F_Md) (N := 45) hx hb hg in_Md hown hK hP 7 rfl rfl 31 (by decide) (hg _ k_1051) (fun _ h9 => h9) rfl d_Md_challenge_164 ?_
    refine lv_iload hx hb d_Md_challenge_167 (lv_at hl 0 rfl) ?_
    refine lv_lshr (v := (mk + 1) >>> ((56 : Int32).toInt64 &&& 63)) hx hb d_Md_challenge_169 rfl ?_
    refine lv_l2i (v := ((mk + 1) >>> ((56 : Int32).toInt64 &&& 63)).toInt32) hx hb d_Md_challenge_170 rfl ?_
    have hPc := hP.sub (ws' := [(mo, .inr (12, mdG r cd tm (nI sn) (nI tx) (nI lz) (nI ((20 + 1) + 1)) (nI na) (nI nt) (nI nr) mw ml (mk + 1) dw9)), (r 15, .inl ((cT 0), 200, .inl g15_529))]) [7, 8] rfl
    have hDc := hD.sub (ws' := [(mo, .inr (12, mdG r cd tm (nI sn) (nI tx) (nI lz) (nI ((20 + 1) + 1)) (nI na) (nI nt) (nI nr) mw ml (mk + 1) dw9)), (r 15, .inl ((cT 0), 200, .inl g15_529))]) [7, 8] (by decide) rfl
    have hFc := va_free (wc := [(mo, .inr (12, mdG r cd tm (nI sn) (nI tx) (nI lz) (nI ((20 + 1) + 1)) (nI na) (nI nt) (nI nr) mw ml (mk + 1) dw9)), (r 15, .inl ((cT 0), 200, .inl g15_529))]) hD hS hA [7, 8] rfl
    refine va_callv (va_runV (C := "DoorServerModel") (As := [.int (((mk + 1) >>> ((56 : Int32).toInt64 &&& 63)).toInt32)]) (rest := []) ⟨hx, hb, hml, hown, hg⟩ (m_tell l dC dI cT H.size mo r cd tm sn tx lz ((20 + 1) + 1) na nt nr mw ml (mk + 1) dw9 g15_529 (((mk + 1) >>> ((56 : Int32).toInt64 &&& 63)).toInt32) (by first | assumption | omega)) (cwV 1 hg (gI (List.forall_mem_append.mpr ⟨List.forall_mem_cons.mpr ⟨k_1337, List.forall_mem_cons.mpr ⟨k_1339, List.forall_mem_cons.mpr ⟨(big_sel (q := y_Md_tell) (n := 45) (by decide +kernel)), List.forall_mem_cons.mpr ⟨k_13, fun _ h => absurd h List.not_mem_nil⟩⟩⟩⟩, List.forall_mem_cons.mpr ⟨k_1340, fun _ h => h⟩⟩)) rfl rfl rfl (by decide +kernel) ⟨Nat.le_of_ble_eq_true rfl, Nat.le_of_ble_eq_true rfl⟩) ⟨fun a U g mk q => by obtain ⟨q0, q1, qP, qK, qD⟩ := q; exact ⟨q0, q1, qP, va_K.moved (u := U) (U := U.calling g mk a) (Vm.Alike.refl U.vm) qK, qD⟩, va_recv (q0 := 7) (ci := 12) hK hP rfl rfl, fun U hU hW => ⟨rfl, by rw [hU], by rw [hU]; exact hPc, va_K.moved hW.alike hK, hDc.weaken (fun _ _ _ _ => trivial)⟩⟩ rfl rfl hl.1 rfl (lv_room (Nat.le_of_ble_eq_true rfl)) d_Md_challenge_171 ⟨Nat.le_of_ble_eq_true rfl, Nat.le_of_ble_eq_true rfl⟩) hS (fun q _ h => hFc q h) hFc (fun u t H1 locs ht hvm hw hB hz1 hk1 hS => ?_)
    obtain ⟨g15_532, rfl⟩ : ∃ z, z = u := ⟨_, rfl⟩
    try dsimp only at hw hB
    obtain ⟨hP1, hK1, hD1⟩ := hB
    rw [ht] at hP1
    obtain ⟨hP, hD⟩ := va_join (wr := [(r 25, .inl ((cT 1), 7, .inr (.inl (vp_updL f25 (nI nt).toNatClampNeg (mk + 1))))), (r 26, .inl ((cT 0), 7, .inl (upd f26 nt x))), (r 27, .inl ((cT 0), 7, .inl (upd f27 nt y))), (r 28, .inl ((cT 0), 7, .inl (upd f28 nt z9))), (r 29, .inl ((cT 0), 7, .inl (upd f29 nt tm))), (r 30, .inl ((cT 0), 112, .inl g30_512)), (r 7, .inl ((cT 0), 1000, .inl f7))]) (w1 := [(mo, .inr (12, mdG r cd tm (nI sn) (nI tx) (nI lz) (nI (((20 + 1) + 1) + 1)) (nI na) (nI nt) (nI nr) mw ml (mk + 1) dw9)), (r 15, .inl ((cT 0), 200, .inl g15_532))]) hP hD [7, 8] [0, 1, 2, 3, 4, 5, 6] rfl rfl (by decide) (by decide) hk1 hFc hP1 hD1
    have hw533 := hw
    clear hPc hDc hFc hz1 hk1 hP1 hK1 hD1
    generalize H1 = H at hP hS ⊢
    have hP : va_P (dC, dI) vcl [(r 25, .inl ((cT 1), 7, .inr (.inl (vp_updL f25 (nI nt).toNatClampNeg (mk + 1))))), (r 26, .inl ((cT 0), 7, .inl (upd f26 nt x))), (r 27, .inl ((cT 0), 7, .inl (upd f27 nt y))), (r 28, .inl ((cT 0), 7, .inl (upd f28 nt z9))), (r 29, .inl ((cT 0), 7, .inl (upd f29 nt tm))), (r 30, .inl ((cT 0), 112, .inl g30_512)), (r 7, .inl ((cT 0), 1000, .inl f7)), (mo, .inr (12, mdG r cd tm (nI sn) (nI tx) (nI lz) (nI (((20 + 1) + 1) + 1)) (nI na) (nI nt) (nI nr) mw ml (mk + 1) dw9)), (r 15, .inl ((cT 0), 200, .inl g15_532))] H := hP
    have hD : va_D A [(r 25, .inl ((cT 1), 7, .inr (.inl (vp_updL f25 (nI nt).toNatClampNeg (mk + 1))))), (r 26, .inl ((cT 0), 7, .inl (upd f26 nt x))), (r 27, .inl ((cT 0), 7, .inl (upd f27 nt y))), (r 28, .inl ((cT 0), 7, .inl (upd f28 nt z9))), (r 29, .inl ((cT 0), 7, .inl (upd f29 nt tm))), (r 30, .inl ((cT 0), 112, .inl g30_512)), (r 7, .inl ((cT 0), 1000, .inl f7)), (mo, .inr (12, mdG r cd tm (nI sn) (nI tx) (nI lz) (nI (((20 + 1) + 1) + 1)) (nI na) (nI nt) (nI nr) mw ml (mk + 1) dw9)), (r 15, .inl ((cT 0), 200, .inl g15_532))] := hD
    refine lv_iinc (k := 0) (v := 48) (lv' := [(4, .int 48), (0, .ref mo), (1, .int x), (2, .int y), (3, .int z9)]) hx hb d_Md_challenge_174 hl rfl (by decide) (by decide) rfl (fun ls hl => ?_)
    refine lv_goto (tgt := 157) hx hb d_Md_challenge_177 (by decide) ?_
    refine lv_iload hx hb d_Md_challenge_157 (lv_at hl 0 rfl) ?_
    refine lv_if_lt (tgt := 180) hx hb d_Md_challenge_159 (by decide) (fun hn9 => absurd hn9 (by decide)) (fun hc534 => ?_)
    refine lv_aload_n hx hb d_Md_challenge_162 rfl (lv_at hl 1 rfl) ?_
    refine lv_aload_n hx hb d_Md_challenge_163 rfl (lv_at hl 1 rfl) ?_
    refine va_get (D := (dC, dI)) (ci := 12) (v := (.long (mk + 1))) (C := R_Md) (T := F_Md) (N := 45) hx hb hg in_Md hown hK hP 7 rfl rfl 31 (by decide) (hg _ k_1051) (fun _ h9 => h9) rfl d_Md_challenge_164 ?_
    refine lv_iload hx hb d_Md_challenge_167 (lv_at hl 0 rfl) ?_
    refine lv_lshr (v := (mk + 1) >>> ((48 : Int32).toInt64 &&& 63)) hx hb d_Md_challenge_169 rfl ?_
    refine lv_l2i (v := ((mk + 1) >>> ((48 : Int32).toInt64 &&& 63)).toInt32) hx hb d_Md_challenge_170 rfl ?_
    have hPc := hP.sub (ws' := [(mo, .inr (12, mdG r cd tm (nI sn) (nI tx) (nI lz) (nI (((20 + 1) + 1) + 1)) (nI na) (nI nt) (nI nr) mw ml (mk + 1) dw9)), (r 15, .inl ((cT 0), 200, .inl g15_532))]) [7, 8] rfl
    have hDc := hD.sub (ws' := [(mo, .inr (12, mdG r cd tm (nI sn) (nI tx) (nI lz) (nI (((20 + 1) + 1) + 1)) (nI na) (nI nt) (nI nr) mw ml (mk + 1) dw9)), (r 15, .inl ((cT 0), 200, .inl g15_532))]) [7, 8] (by decide) rfl
    have hFc := va_free (wc := [(mo, .inr (12, mdG r cd tm (nI sn) (nI tx) (nI lz) (nI (((20 + 1) + 1) + 1)) (nI na) (nI nt) (nI nr) mw ml (mk + 1) dw9)), (r 15, .inl ((cT 0), 200, .inl g15_532))]) hD hS hA [7, 8] rfl
    refine va_callv (va_runV (C := "DoorServerModel") (As := [.int (((mk + 1) >>> ((48 : Int32).toInt64 &&& 63)).toInt32)]) (rest := []) ⟨hx, hb, hml, hown, hg⟩ (m_tell l dC dI cT H.size mo r cd tm sn tx lz (((20 + 1) + 1) + 1) na nt nr mw ml (mk + 1) dw9 g15_532 (((mk + 1) >>> ((48 : Int32).toInt64 &&& 63)).toInt32) (by first | assumption | omega)) (cwV 1 hg (gI (List.forall_mem_append.mpr ⟨List.forall_mem_cons.mpr ⟨k_1337, List.forall_mem_cons.mpr ⟨k_1339, List.forall_mem_cons.mpr ⟨(big_sel (q := y_Md_tell) (n := 45) (by decide +kernel)), List.forall_mem_cons.mpr ⟨k_13, fun _ h => absurd h List.not_mem_nil⟩⟩⟩⟩, List.forall_mem_cons.mpr ⟨k_1340, fun _ h => h⟩⟩)) rfl rfl rfl (by decide +kernel) ⟨Nat.le_of_ble_eq_true rfl, Nat.le_of_ble_eq_true rfl⟩) ⟨fun a U g mk q => by obtain ⟨q0, q1, qP, qK, qD⟩ := q; exact ⟨q0, q1, qP, va_K.moved (u := U) (U := U.calling g mk a) (Vm.Alike.refl U.vm) qK, qD⟩, va_recv (q0 := 7) (ci := 12) hK hP rfl rfl, fun U hU hW => ⟨rfl, by rw [hU], by rw [hU]; exact hPc, va_K.moved hW.alike hK, hDc.weaken (fun _ _ _ _ => trivial)⟩⟩ rfl rfl hl.1 rfl (lv_room (Nat.le_of_ble_eq_true rfl)) d_Md_challenge_171 ⟨Nat.le_of_ble_eq_true rfl, Nat.le_of_ble_eq_true rfl⟩) hS (fun q _ h => hFc q h) hFc (fun u t H1 locs ht hvm hw hB hz1 hk1 hS => ?_)
    obtain ⟨g15_535, rfl⟩ : ∃ z, z = u := ⟨_, rfl⟩
    try dsimp only at hw hB
    obtain ⟨hP1, hK1, hD1⟩ := hB
    rw [ht] at hP1
    obtain ⟨hP, hD⟩ := va_join (wr := [(r 25, .inl ((cT 1), 7, .inr (.inl (vp_updL f25 (nI nt).toNatClampNeg (mk + 1))))), (r 26, .inl ((cT 0), 7, .inl (upd f26 nt x))), (r 27, .inl ((cT 0), 7, .inl (upd f27 nt y))), (r 28, .inl ((cT 0), 7, .inl (upd f28 nt z9))), (r 29, .inl ((cT 0), 7, .inl (upd f29 nt tm))), (r 30, .inl ((cT 0), 112, .inl g30_512)), (r 7, .inl ((cT 0), 1000, .inl f7))]) (w1 := [(mo, .inr (12, mdG r cd tm (nI sn) (nI tx) (nI lz) (nI ((((20 + 1) + 1) + 1) + 1)) (nI na) (nI nt) (nI nr) mw ml (mk + 1) dw9)), (r 15, .inl ((cT 0), 200, .inl g15_535))]) hP hD [7, 8] [0, 1, 2, 3, 4, 5, 6] rfl rfl (by decide) (by decide) hk1 hFc hP1 hD1
    have hw536 := hw
    clear hPc hDc hFc hz1 hk1 hP1 hK1 hD1
    generalize H1 = H at hP hS ⊢
    have hP : va_P (dC, dI) vcl [(r 25, .inl ((cT 1), 7, .inr (.inl (vp_updL f25 (nI nt).toNatClampNeg (mk + 1))))), (r 26, .inl ((cT 0), 7, .inl (upd f26 nt x))), (r 27, .inl ((cT 0), 7, .inl (upd f27 nt y))), (r 28, .inl ((cT 0), 7, .inl (upd f28 nt z9))), (r 29, .inl ((cT 0), 7, .inl (upd f29 nt tm))), (r 30, .inl ((cT 0), 112, .inl g30_512)), (r 7, .inl ((cT 0), 1000, .inl f7)), (mo, .inr (12, mdG r cd tm (nI sn) (nI tx) (nI lz) (nI ((((20 + 1) + 1) + 1) + 1)) (nI na) (nI nt) (nI nr) mw ml (mk + 1) dw9)), (r 15, .inl ((cT 0), 200, .inl g15_535))] H := hP
    have hD : va_D A [(r 25, .inl ((cT 1), 7, .inr (.inl (vp_updL f25 (nI nt).toNatClampNeg (mk + 1))))), (r 26, .inl ((cT 0), 7, .inl (upd f26 nt x))), (r 27, .inl ((cT 0), 7, .inl (upd f27 nt y))), (r 28, .inl ((cT 0), 7, .inl (upd f28 nt z9))), (r 29, .inl ((cT 0), 7, .inl (upd f29 nt tm))), (r 30, .inl ((cT 0), 112, .inl g30_512)), (r 7, .inl ((cT 0), 1000, .inl f7)), (mo, .inr (12, mdG r cd tm (nI sn) (nI tx) (nI lz) (nI ((((20 + 1) + 1) + 1) + 1)) (nI na) (nI nt) (nI nr) mw ml (mk + 1) dw9)), (r 15, .inl ((cT 0), 200, .inl g15_535))] := hD
    refine lv_iinc (k := 0) (v := 40) (lv' := [(4, .int 40), (0, .ref mo), (1, .int x), (2, .int y), (3, .int z9)]) hx hb d_Md_challenge_174 hl rfl (by decide) (by decide) rfl (fun ls hl => ?_)
    refine lv_goto (tgt := 157) hx hb d_Md_challenge_177 (by decide) ?_
    refine lv_iload hx hb d_Md_challenge_157 (lv_at hl 0 rfl) ?_
    refine lv_if_lt (tgt := 180) hx hb d_Md_challenge_159 (by decide) (fun hn9 => absurd hn9 (by decide)) (fun hc537 => ?_)
    refine lv_aload_n hx hb d_Md_challenge_162 rfl (lv_at hl 1 rfl) ?_
    refine lv_aload_n hx hb d_Md_challenge_163 rfl (lv_at hl 1 rfl) ?_
    refine va_get (D := (dC, dI)) (ci := 12) (v := (.long (mk + 1))) (C := R_Md) (T := F_Md) (N := 45) hx hb hg in_Md hown hK hP 7 rfl rfl 31 (by decide) (hg _ k_1051) (fun _ h9 => h9) rfl d_Md_challenge_164 ?_
    refine lv_iload hx hb d_Md_challenge_167 (lv_at hl 0 rfl) ?_
    refine lv_lshr (v := (mk + 1) >>> ((40 : Int32).toInt64 &&& 63)) hx hb d_Md_challenge_169 rfl ?_
    refine lv_l2i (v := ((mk + 1) >>> ((40 : Int32).toInt64 &&& 63)).toInt32) hx hb d_Md_challenge_170 rfl ?_
    have hPc := hP.sub (ws' := [(mo, .inr (12, mdG r cd tm (nI sn) (nI tx) (nI lz) (nI ((((20 + 1) + 1) + 1) + 1)) (nI na) (nI nt) (nI nr) mw ml (mk + 1) dw9)), (r 15, .inl ((cT 0), 200, .inl g15_535))]) [7, 8] rfl
    have hDc := hD.sub (ws' := [(mo, .inr (12, mdG r cd tm (nI sn) (nI tx) (nI lz) (nI ((((20 + 1) + 1) + 1) + 1)) (nI na) (nI nt) (nI nr) mw ml (mk + 1) dw9)), (r 15, .inl ((cT 0), 200, .inl g15_535))]) [7, 8] (by decide) rfl
    have hFc := va_free (wc := [(mo, .inr (12, mdG r cd tm (nI sn) (nI tx) (nI lz) (nI ((((20 + 1) + 1) + 1) + 1)) (nI na) (nI nt) (nI nr) mw ml (mk + 1) dw9)), (r 15, .inl ((cT 0), 200, .inl g15_535))]) hD hS hA [7, 8] rfl
    refine va_callv (va_runV (C := "DoorServerModel") (As := [.int (((mk + 1) >>> ((40 : Int32).toInt64 &&& 63)).toInt32)]) (rest := []) ⟨hx, hb, hml, hown, hg⟩ (m_tell l dC dI cT H.size mo r cd tm sn tx lz ((((20 + 1) + 1) + 1) + 1) na nt nr mw ml (mk + 1) dw9 g15_535 (((mk + 1) >>> ((40 : Int32).toInt64 &&& 63)).toInt32) (by first | assumption | omega)) (cwV 1 hg (gI (List.forall_mem_append.mpr ⟨List.forall_mem_cons.mpr ⟨k_1337, List.forall_mem_cons.mpr ⟨k_1339, List.forall_mem_cons.mpr ⟨(big_sel (q := y_Md_tell) (n := 45) (by decide +kernel)), List.forall_mem_cons.mpr ⟨k_13, fun _ h => absurd h List.not_mem_nil⟩⟩⟩⟩, List.forall_mem_cons.mpr ⟨k_1340, fun _ h => h⟩⟩)) rfl rfl rfl (by decide +kernel) ⟨Nat.le_of_ble_eq_true rfl, Nat.le_of_ble_eq_true rfl⟩) ⟨fun a U g mk q => by obtain ⟨q0, q1, qP, qK, qD⟩ := q; exact ⟨q0, q1, qP, va_K.moved (u := U) (U := U.calling g mk a) (Vm.Alike.refl U.vm) qK, qD⟩, va_recv (q0 := 7) (ci := 12) hK hP rfl rfl, fun U hU hW => ⟨rfl, by rw [hU], by rw [hU]; exact hPc, va_K.moved hW.alike hK, hDc.weaken (fun _ _ _ _ => trivial)⟩⟩ rfl rfl hl.1 rfl (lv_room (Nat.le_of_ble_eq_true rfl)) d_Md_challenge_171 ⟨Nat.le_of_ble_eq_true rfl, Nat.le_of_ble_eq_true rfl⟩) hS (fun q _ h => hFc q h) hFc (fun u t H1 locs ht hvm hw hB hz1 hk1 hS => ?_)
    obtain ⟨g15_538, rfl⟩ : ∃ z, z = u := ⟨_, rfl⟩
    try dsimp only at hw hB
    obtain ⟨hP1, hK1, hD1⟩ := hB
    rw [ht] at hP1
    obtain ⟨hP, hD⟩ := va_join (wr := [(r 25, .inl ((cT 1), 7, .inr (.inl (vp_updL f25 (nI nt).toNatClampNeg (mk + 1))))), (r 26, .inl ((cT 0), 7, .inl (upd f26 nt x))), (r 27, .inl ((cT 0), 7, .inl (upd f27 nt y))), (r 28, .inl ((cT 0), 7, .inl (upd f28 nt z9))), (r 29, .inl ((cT 0), 7, .inl (upd f29 nt tm))), (r 30, .inl ((cT 0), 112, .inl g30_512)), (r 7, .inl ((cT 0), 1000, .inl f7))]) (w1 := [(mo, .inr (12, mdG r cd tm (nI sn) (nI tx) (nI lz) (nI (((((20 + 1) + 1) + 1) + 1) + 1)) (nI na) (nI nt) (nI nr) mw ml (mk + 1) dw9)), (r 15, .inl ((cT 0), 200, .inl g15_538))]) hP hD [7, 8] [0, 1, 2, 3, 4, 5, 6] rfl rfl (by decide) (by decide) hk1 hFc hP1 hD1
    have hw539 := hw
    clear hPc hDc hFc hz1 hk1 hP1 hK1 hD1
    generalize H1 = H at hP hS ⊢
    have hP : va_P (dC, dI) vcl [(r 25, .inl ((cT 1), 7, .inr (.inl (vp_updL f25 (nI nt).toNatClampNeg (mk + 1))))), (r 26, .inl ((cT 0), 7, .inl (upd f26 nt x))), (r 27, .inl ((cT 0), 7, .inl (upd f27 nt y))), (r 28, .inl ((cT 0), 7, .inl (upd f28 nt z9))), (r 29, .inl ((cT 0), 7, .inl (upd f29 nt tm))), (r 30, .inl ((cT 0), 112, .inl g30_512)), (r 7, .inl ((cT 0), 1000, .inl f7)), (mo, .inr (12, mdG r cd tm (nI sn) (nI tx) (nI lz) (nI (((((20 + 1) + 1) + 1) + 1) + 1)) (nI na) (nI nt) (nI nr) mw ml (mk + 1) dw9)), (r 15, .inl ((cT 0), 200, .inl g15_538))] H := hP
    have hD : va_D A [(r 25, .inl ((cT 1), 7, .inr (.inl (vp_updL f25 (nI nt).toNatClampNeg (mk + 1))))), (r 26, .inl ((cT 0), 7, .inl (upd f26 nt x))), (r 27, .inl ((cT 0), 7, .inl (upd f27 nt y))), (r 28, .inl ((cT 0), 7, .inl (upd f28 nt z9))), (r 29, .inl ((cT 0), 7, .inl (upd f29 nt tm))), (r 30, .inl ((cT 0), 112, .inl g30_512)), (r 7, .inl ((cT 0), 1000, .inl f7)), (mo, .inr (12, mdG r cd tm (nI sn) (nI tx) (nI lz) (nI (((((20 + 1) + 1) + 1) + 1) + 1)) (nI na) (nI nt) (nI nr) mw ml (mk + 1) dw9)), (r 15, .inl ((cT 0), 200, .inl g15_538))] := hD
    refine lv_iinc (k := 0) (v := 32) (lv' := [(4, .int 32), (0, .ref mo), (1, .int x), (2, .int y), (3, .int z9)]) hx hb d_Md_challenge_174 hl rfl (by decide) (by decide) rfl (fun ls hl => ?_)
    refine lv_goto (tgt := 157) hx hb d_Md_challenge_177 (by decide) ?_
    refine lv_iload hx hb d_Md_challenge_157 (lv_at hl 0 rfl) ?_
    refine lv_if_lt (tgt := 180) hx hb d_Md_challenge_159 (by decide) (fun hn9 => absurd hn9 (by decide)) (fun hc540 => ?_)
    refine lv_aload_n hx hb d_Md_challenge_162 rfl (lv_at hl 1 rfl) ?_
    refine lv_aload_n hx hb d_Md_challenge_163 rfl (lv_at hl 1 rfl) ?_
    refine va_get (D := (dC, dI)) (ci := 12) (v := (.long (mk + 1))) (C := R_Md) (T := F_Md) (N := 45) hx hb hg in_Md hown hK hP 7 rfl rfl 31 (by decide) (hg _ k_1051) (fun _ h9 => h9) rfl d_Md_challenge_164 ?_
    refine lv_iload hx hb d_Md_challenge_167 (lv_at hl 0 rfl) ?_
    refine lv_lshr (v := (mk + 1) >>> ((32 : Int32).toInt64 &&& 63)) hx hb d_Md_challenge_169 rfl ?_
    refine lv_l2i (v := ((mk + 1) >>> ((32 : Int32).toInt64 &&& 63)).toInt32) hx hb d_Md_challenge_170 rfl ?_
    have hPc := hP.sub (ws' := [(mo, .inr (12, mdG r cd tm (nI sn) (nI tx) (nI lz) (nI (((((20 + 1) + 1) + 1) + 1) + 1)) (nI na) (nI nt) (nI nr) mw ml (mk + 1) dw9)), (r 15, .inl ((cT 0), 200, .inl g15_538))]) [7, 8] rfl
    have hDc := hD.sub (ws' := [(mo, .inr (12, mdG r cd tm (nI sn) (nI tx) (nI lz) (nI (((((20 + 1) + 1) + 1) + 1) + 1)) (nI na) (nI nt) (nI nr) mw ml (mk + 1) dw9)), (r 15, .inl ((cT 0), 200, .inl g15_538))]) [7, 8] (by decide) rfl
    have hFc := va_free (wc := [(mo, .inr (12, mdG r cd tm (nI sn) (nI tx) (nI lz) (nI (((((20 + 1) + 1) + 1) + 1) + 1)) (nI na) (nI nt) (nI nr) mw ml (mk + 1) dw9)), (r 15, .inl ((cT 0), 200, .inl g15_538))]) hD hS hA [7, 8] rfl
    refine va_callv (va_runV (C := "DoorServerModel") (As := [.int (((mk + 1) >>> ((32 : Int32).toInt64 &&& 63)).toInt32)]) (rest := []) ⟨hx, hb, hml, hown, hg⟩ (m_tell l dC dI cT H.size mo r cd tm sn tx lz (((((20 + 1) + 1) + 1) + 1) + 1) na nt nr mw ml (mk + 1) dw9 g15_538 (((mk + 1) >>> ((32 : Int32).toInt64 &&& 63)).toInt32) (by first | assumption | omega)) (cwV 1 hg (gI (List.forall_mem_append.mpr ⟨List.forall_mem_cons.mpr ⟨k_1337, List.forall_mem_cons.mpr ⟨k_1339, List.forall_mem_cons.mpr ⟨(big_sel (q := y_Md_tell) (n := 45) (by decide +kernel)), List.forall_mem_cons.mpr ⟨k_13, fun _ h => absurd h List.not_mem_nil⟩⟩⟩⟩, List.forall_mem_cons.mpr ⟨k_1340, fun _ h => h⟩⟩)) rfl rfl rfl (by decide +kernel) ⟨Nat.le_of_ble_eq_true rfl, Nat.le_of_ble_eq_true rfl⟩) ⟨fun a U g mk q => by obtain ⟨q0, q1, qP, qK, qD⟩ := q; exact ⟨q0, q1, qP, va_K.moved (u := U) (U := U.calling g mk a) (Vm.Alike.refl U.vm) qK, qD⟩, va_recv (q0 := 7) (ci := 12) hK hP rfl rfl, fun U hU hW => ⟨rfl, by rw [hU], by rw [hU]; exact hPc, va_K.moved hW.alike hK, hDc.weaken (fun _ _ _ _ => trivial)⟩⟩ rfl rfl hl.1 rfl (lv_room (Nat.le_of_ble_eq_true rfl)) d_Md_challenge_171 ⟨Nat.le_of_ble_eq_true rfl, Nat.le_of_ble_eq_true rfl⟩) hS (fun q _ h => hFc q h) hFc (fun u t H1 locs ht hvm hw hB hz1 hk1 hS => ?_)
    obtain ⟨g15_541, rfl⟩ : ∃ z, z = u := ⟨_, rfl⟩
    try dsimp only at hw hB
    obtain ⟨hP1, hK1, hD1⟩ := hB
    rw [ht] at hP1
    obtain ⟨hP, hD⟩ := va_join (wr := [(r 25, .inl ((cT 1), 7, .inr (.inl (vp_updL f25 (nI nt).toNatClampNeg (mk + 1))))), (r 26, .inl ((cT 0), 7, .inl (upd f26 nt x))), (r 27, .inl ((cT 0), 7, .inl (upd f27 nt y))), (r 28, .inl ((cT 0), 7, .inl (upd f28 nt z9))), (r 29, .inl ((cT 0), 7, .inl (upd f29 nt tm))), (r 30, .inl ((cT 0), 112, .inl g30_512)), (r 7, .inl ((cT 0), 1000, .inl f7))]) (w1 := [(mo, .inr (12, mdG r cd tm (nI sn) (nI tx) (nI lz) (nI ((((((20 + 1) + 1) + 1) + 1) + 1) + 1)) (nI na) (nI nt) (nI nr) mw ml (mk + 1) dw9)), (r 15, .inl ((cT 0), 200, .inl g15_541))]) hP hD [7, 8] [0, 1, 2, 3, 4, 5, 6] rfl rfl (by decide) (by decide) hk1 hFc hP1 hD1
    have hw542 := hw
    clear hPc hDc hFc hz1 hk1 hP1 hK1 hD1
    generalize H1 = H at hP hS ⊢
    have hP : va_P (dC, dI) vcl [(r 25, .inl ((cT 1), 7, .inr (.inl (vp_updL f25 (nI nt).toNatClampNeg (mk + 1))))), (r 26, .inl ((cT 0), 7, .inl (upd f26 nt x))), (r 27, .inl ((cT 0), 7, .inl (upd f27 nt y))), (r 28, .inl ((cT 0), 7, .inl (upd f28 nt z9))), (r 29, .inl ((cT 0), 7, .inl (upd f29 nt tm))), (r 30, .inl ((cT 0), 112, .inl g30_512)), (r 7, .inl ((cT 0), 1000, .inl f7)), (mo, .inr (12, mdG r cd tm (nI sn) (nI tx) (nI lz) (nI ((((((20 + 1) + 1) + 1) + 1) + 1) + 1)) (nI na) (nI nt) (nI nr) mw ml (mk + 1) dw9)), (r 15, .inl ((cT 0), 200, .inl g15_541))] H := hP
    have hD : va_D A [(r 25, .inl ((cT 1), 7, .inr (.inl (vp_updL f25 (nI nt).toNatClampNeg (mk + 1))))), (r 26, .inl ((cT 0), 7, .inl (upd f26 nt x))), (r 27, .inl ((cT 0), 7, .inl (upd f27 nt y))), (r 28, .inl ((cT 0), 7, .inl (upd f28 nt z9))), (r 29, .inl ((cT 0), 7, .inl (upd f29 nt tm))), (r 30, .inl ((cT 0), 112, .inl g30_512)), (r 7, .inl ((cT 0), 1000, .inl f7)), (mo, .inr (12, mdG r cd tm (nI sn) (nI tx) (nI lz) (nI ((((((20 + 1) + 1) + 1) + 1) + 1) + 1)) (nI na) (nI nt) (nI nr) mw ml (mk + 1) dw9)), (r 15, .inl ((cT 0), 200, .inl g15_541))] := hD
    refine lv_iinc (k := 0) (v := 24) (lv' := [(4, .int 24), (0, .ref mo), (1, .int x), (2, .int y), (3, .int z9)]) hx hb d_Md_challenge_174 hl rfl (by decide) (by decide) rfl (fun ls hl => ?_)
    refine lv_goto (tgt := 157) hx hb d_Md_challenge_177 (by decide) ?_
    refine lv_iload hx hb d_Md_challenge_157 (lv_at hl 0 rfl) ?_
    refine lv_if_lt (tgt := 180) hx hb d_Md_challenge_159 (by decide) (fun hn9 => absurd hn9 (by decide)) (fun hc543 => ?_)
    refine lv_aload_n hx hb d_Md_challenge_162 rfl (lv_at hl 1 rfl) ?_
    refine lv_aload_n hx hb d_Md_challenge_163 rfl (lv_at hl 1 rfl) ?_
    refine va_get (D := (dC, dI)) (ci := 12) (v := (.long (mk + 1))) (C := R_Md) (T := F_Md) (N := 45) hx hb hg in_Md hown hK hP 7 rfl rfl 31 (by decide) (hg _ k_1051) (fun _ h9 => h9) rfl d_Md_challenge_164 ?_
    refine lv_iload hx hb d_Md_challenge_167 (lv_at hl 0 rfl) ?_
    refine lv_lshr (v := (mk + 1) >>> ((24 : Int32).toInt64 &&& 63)) hx hb d_Md_challenge_169 rfl ?_
    refine lv_l2i (v := ((mk + 1) >>> ((24 : Int32).toInt64 &&& 63)).toInt32) hx hb d_Md_challenge_170 rfl ?_
    have hPc := hP.sub (ws' := [(mo, .inr (12, mdG r cd tm (nI sn) (nI tx) (nI lz) (nI ((((((20 + 1) + 1) + 1) + 1) + 1) + 1)) (nI na) (nI nt) (nI nr) mw ml (mk + 1) dw9)), (r 15, .inl ((cT 0), 200, .inl g15_541))]) [7, 8] rfl
    have hDc := hD.sub (ws' := [(mo, .inr (12, mdG r cd tm (nI sn) (nI tx) (nI lz) (nI ((((((20 + 1) + 1) + 1) + 1) + 1) + 1)) (nI na) (nI nt) (nI nr) mw ml (mk + 1) dw9)), (r 15, .inl ((cT 0), 200, .inl g15_541))]) [7, 8] (by decide) rfl
    have hFc := va_free (wc := [(mo, .inr (12, mdG r cd tm (nI sn) (nI tx) (nI lz) (nI ((((((20 + 1) + 1) + 1) + 1) + 1) + 1)) (nI na) (nI nt) (nI nr) mw ml (mk + 1) dw9)), (r 15, .inl ((cT 0), 200, .inl g15_541))]) hD hS hA [7, 8] rfl
    refine va_callv (va_runV (C := "DoorServerModel") (As := [.int (((mk + 1) >>> ((24 : Int32).toInt64 &&& 63)).toInt32)]) (rest := []) ⟨hx, hb, hml, hown, hg⟩ (m_tell l dC dI cT H.size mo r cd tm sn tx lz ((((((20 + 1) + 1) + 1) + 1) + 1) + 1) na nt nr mw ml (mk + 1) dw9 g15_541 (((mk + 1) >>> ((24 : Int32).toInt64 &&& 63)).toInt32) (by first | assumption | omega)) (cwV 1 hg (gI (List.forall_mem_append.mpr ⟨List.forall_mem_cons.mpr ⟨k_1337, List.forall_mem_cons.mpr ⟨k_1339, List.forall_mem_cons.mpr ⟨(big_sel (q := y_Md_tell) (n := 45) (by decide +kernel)), List.forall_mem_cons.mpr ⟨k_13, fun _ h => absurd h List.not_mem_nil⟩⟩⟩⟩, List.forall_mem_cons.mpr ⟨k_1340, fun _ h => h⟩⟩)) rfl rfl rfl (by decide +kernel) ⟨Nat.le_of_ble_eq_true rfl, Nat.le_of_ble_eq_true rfl⟩) ⟨fun a U g mk q => by obtain ⟨q0, q1, qP, qK, qD⟩ := q; exact ⟨q0, q1, qP, va_K.moved (u := U) (U := U.calling g mk a) (Vm.Alike.refl U.vm) qK, qD⟩, va_recv (q0 := 7) (ci := 12) hK hP rfl rfl, fun U hU hW => ⟨rfl, by rw [hU], by rw [hU]; exact hPc, va_K.moved hW.alike hK, hDc.weaken (fun _ _ _ _ => trivial)⟩⟩ rfl rfl hl.1 rfl (lv_room (Nat.le_of_ble_eq_true rfl)) d_Md_challenge_171 ⟨Nat.le_of_ble_eq_true rfl, Nat.le_of_ble_eq_true rfl⟩) hS (fun q _ h => hFc q h) hFc (fun u t H1 locs ht hvm hw hB hz1 hk1 hS => ?_)
    obtain ⟨g15_544, rfl⟩ : ∃ z, z = u := ⟨_, rfl⟩
    try dsimp only at hw hB
    obtain ⟨hP1, hK1, hD1⟩ := hB
    rw [ht] at hP1
    obtain ⟨hP, hD⟩ := va_join (wr := [(r 25, .inl ((cT 1), 7, .inr (.inl (vp_updL f25 (nI nt).toNatClampNeg (mk + 1))))), (r 26, .inl ((cT 0), 7, .inl (upd f26 nt x))), (r 27, .inl ((cT 0), 7, .inl (upd f27 nt y))), (r 28, .inl ((cT 0), 7, .inl (upd f28 nt z9))), (r 29, .inl ((cT 0), 7, .inl (upd f29 nt tm))), (r 30, .inl ((cT 0), 112, .inl g30_512)), (r 7, .inl ((cT 0), 1000, .inl f7))]) (w1 := [(mo, .inr (12, mdG r cd tm (nI sn) (nI tx) (nI lz) (nI (((((((20 + 1) + 1) + 1) + 1) + 1) + 1) + 1)) (nI na) (nI nt) (nI nr) mw ml (mk + 1) dw9)), (r 15, .inl ((cT 0), 200, .inl g15_544))]) hP hD [7, 8] [0, 1, 2, 3, 4, 5, 6] rfl rfl (by decide) (by decide) hk1 hFc hP1 hD1
    have hw545 := hw
    clear hPc hDc hFc hz1 hk1 hP1 hK1 hD1
    generalize H1 = H at hP hS ⊢
    have hP : va_P (dC, dI) vcl [(r 25, .inl ((cT 1), 7, .inr (.inl (vp_updL f25 (nI nt).toNatClampNeg (mk + 1))))), (r 26, .inl ((cT 0), 7, .inl (upd f26 nt x))), (r 27, .inl ((cT 0), 7, .inl (upd f27 nt y))), (r 28, .inl ((cT 0), 7, .inl (upd f28 nt z9))), (r 29, .inl ((cT 0), 7, .inl (upd f29 nt tm))), (r 30, .inl ((cT 0), 112, .inl g30_512)), (r 7, .inl ((cT 0), 1000, .inl f7)), (mo, .inr (12, mdG r cd tm (nI sn) (nI tx) (nI lz) (nI (((((((20 + 1) + 1) + 1) + 1) + 1) + 1) + 1)) (nI na) (nI nt) (nI nr) mw ml (mk + 1) dw9)), (r 15, .inl ((cT 0), 200, .inl g15_544))] H := hP
    have hD : va_D A [(r 25, .inl ((cT 1), 7, .inr (.inl (vp_updL f25 (nI nt).toNatClampNeg (mk + 1))))), (r 26, .inl ((cT 0), 7, .inl (upd f26 nt x))), (r 27, .inl ((cT 0), 7, .inl (upd f27 nt y))), (r 28, .inl ((cT 0), 7, .inl (upd f28 nt z9))), (r 29, .inl ((cT 0), 7, .inl (upd f29 nt tm))), (r 30, .inl ((cT 0), 112, .inl g30_512)), (r 7, .inl ((cT 0), 1000, .inl f7)), (mo, .inr (12, mdG r cd tm (nI sn) (nI tx) (nI lz) (nI (((((((20 + 1) + 1) + 1) + 1) + 1) + 1) + 1)) (nI na) (nI nt) (nI nr) mw ml (mk + 1) dw9)), (r 15, .inl ((cT 0), 200, .inl g15_544))] := hD
    refine lv_iinc (k := 0) (v := 16) (lv' := [(4, .int 16), (0, .ref mo), (1, .int x), (2, .int y), (3, .int z9)]) hx hb d_Md_challenge_174 hl rfl (by decide) (by decide) rfl (fun ls hl => ?_)
    refine lv_goto (tgt := 157) hx hb d_Md_challenge_177 (by decide) ?_
    refine lv_iload hx hb d_Md_challenge_157 (lv_at hl 0 rfl) ?_
    refine lv_if_lt (tgt := 180) hx hb d_Md_challenge_159 (by decide) (fun hn9 => absurd hn9 (by decide)) (fun hc546 => ?_)
    refine lv_aload_n hx hb d_Md_challenge_162 rfl (lv_at hl 1 rfl) ?_
    refine lv_aload_n hx hb d_Md_challenge_163 rfl (lv_at hl 1 rfl) ?_
    refine va_get (D := (dC, dI)) (ci := 12) (v := (.long (mk + 1))) (C := R_Md) (T := F_Md) (N := 45) hx hb hg in_Md hown hK hP 7 rfl rfl 31 (by decide) (hg _ k_1051) (fun _ h9 => h9) rfl d_Md_challenge_164 ?_
    refine lv_iload hx hb d_Md_challenge_167 (lv_at hl 0 rfl) ?_
    refine lv_lshr (v := (mk + 1) >>> ((16 : Int32).toInt64 &&& 63)) hx hb d_Md_challenge_169 rfl ?_
    refine lv_l2i (v := ((mk + 1) >>> ((16 : Int32).toInt64 &&& 63)).toInt32) hx hb d_Md_challenge_170 rfl ?_
    have hPc := hP.sub (ws' := [(mo, .inr (12, mdG r cd tm (nI sn) (nI tx) (nI lz) (nI (((((((20 + 1) + 1) + 1) + 1) + 1) + 1) + 1)) (nI na) (nI nt) (nI nr) mw ml (mk + 1) dw9)), (r 15, .inl ((cT 0), 200, .inl g15_544))]) [7, 8] rfl
    have hDc := hD.sub (ws' := [(mo, .inr (12, mdG r cd tm (nI sn) (nI tx) (nI lz) (nI (((((((20 + 1) + 1) + 1) + 1) + 1) + 1) + 1)) (nI na) (nI nt) (nI nr) mw ml (mk + 1) dw9)), (r 15, .inl ((cT 0), 200, .inl g15_544))]) [7, 8] (by decide) rfl
    have hFc := va_free (wc := [(mo, .inr (12, mdG r cd tm (nI sn) (nI tx) (nI lz) (nI (((((((20 + 1) + 1) + 1) + 1) + 1) + 1) + 1)) (nI na) (nI nt) (nI nr) mw ml (mk + 1) dw9)), (r 15, .inl ((cT 0), 200, .inl g15_544))]) hD hS hA [7, 8] rfl
    refine va_callv (va_runV (C := "DoorServerModel") (As := [.int (((mk + 1) >>> ((16 : Int32).toInt64 &&& 63)).toInt32)]) (rest := []) ⟨hx, hb, hml, hown, hg⟩ (m_tell l dC dI cT H.size mo r cd tm sn tx lz (((((((20 + 1) + 1) + 1) + 1) + 1) + 1) + 1) na nt nr mw ml (mk + 1) dw9 g15_544 (((mk + 1) >>> ((16 : Int32).toInt64 &&& 63)).toInt32) (by first | assumption | omega)) (cwV 1 hg (gI (List.forall_mem_append.mpr ⟨List.forall_mem_cons.mpr ⟨k_1337, List.forall_mem_cons.mpr ⟨k_1339, List.forall_mem_cons.mpr ⟨(big_sel (q := y_Md_tell) (n := 45) (by decide +kernel)), List.forall_mem_cons.mpr ⟨k_13, fun _ h => absurd h List.not_mem_nil⟩⟩⟩⟩, List.forall_mem_cons.mpr ⟨k_1340, fun _ h => h⟩⟩)) rfl rfl rfl (by decide +kernel) ⟨Nat.le_of_ble_eq_true rfl, Nat.le_of_ble_eq_true rfl⟩) ⟨fun a U g mk q => by obtain ⟨q0, q1, qP, qK, qD⟩ := q; exact ⟨q0, q1, qP, va_K.moved (u := U) (U := U.calling g mk a) (Vm.Alike.refl U.vm) qK, qD⟩, va_recv (q0 := 7) (ci := 12) hK hP rfl rfl, fun U hU hW => ⟨rfl, by rw [hU], by rw [hU]; exact hPc, va_K.moved hW.alike hK, hDc.weaken (fun _ _ _ _ => trivial)⟩⟩ rfl rfl hl.1 rfl (lv_room (Nat.le_of_ble_eq_true rfl)) d_Md_challenge_171 ⟨Nat.le_of_ble_eq_true rfl, Nat.le_of_ble_eq_true rfl⟩) hS (fun q _ h => hFc q h) hFc (fun u t H1 locs ht hvm hw hB hz1 hk1 hS => ?_)
    obtain ⟨g15_547, rfl⟩ : ∃ z, z = u := ⟨_, rfl⟩
    try dsimp only at hw hB
    obtain ⟨hP1, hK1, hD1⟩ := hB
    rw [ht] at hP1
    obtain ⟨hP, hD⟩ := va_join (wr := [(r 25, .inl ((cT 1), 7, .inr (.inl (vp_updL f25 (nI nt).toNatClampNeg (mk + 1))))), (r 26, .inl ((cT 0), 7, .inl (upd f26 nt x))), (r 27, .inl ((cT 0), 7, .inl (upd f27 nt y))), (r 28, .inl ((cT 0), 7, .inl (upd f28 nt z9))), (r 29, .inl ((cT 0), 7, .inl (upd f29 nt tm))), (r 30, .inl ((cT 0), 112, .inl g30_512)), (r 7, .inl ((cT 0), 1000, .inl f7))]) (w1 := [(mo, .inr (12, mdG r cd tm (nI sn) (nI tx) (nI lz) (nI ((((((((20 + 1) + 1) + 1) + 1) + 1) + 1) + 1) + 1)) (nI na) (nI nt) (nI nr) mw ml (mk + 1) dw9)), (r 15, .inl ((cT 0), 200, .inl g15_547))]) hP hD [7, 8] [0, 1, 2, 3, 4, 5, 6] rfl rfl (by decide) (by decide) hk1 hFc hP1 hD1
    have hw548 := hw
    clear hPc hDc hFc hz1 hk1 hP1 hK1 hD1
    generalize H1 = H at hP hS ⊢
    have hP : va_P (dC, dI) vcl [(r 25, .inl ((cT 1), 7, .inr (.inl (vp_updL f25 (nI nt).toNatClampNeg (mk + 1))))), (r 26, .inl ((cT 0), 7, .inl (upd f26 nt x))), (r 27, .inl ((cT 0), 7, .inl (upd f27 nt y))), (r 28, .inl ((cT 0), 7, .inl (upd f28 nt z9))), (r 29, .inl ((cT 0), 7, .inl (upd f29 nt tm))), (r 30, .inl ((cT 0), 112, .inl g30_512)), (r 7, .inl ((cT 0), 1000, .inl f7)), (mo, .inr (12, mdG r cd tm (nI sn) (nI tx) (nI lz) (nI ((((((((20 + 1) + 1) + 1) + 1) + 1) + 1) + 1) + 1)) (nI na) (nI nt) (nI nr) mw ml (mk + 1) dw9)), (r 15, .inl ((cT 0), 200, .inl g15_547))] H := hP
    have hD : va_D A [(r 25, .inl ((cT 1), 7, .inr (.inl (vp_updL f25 (nI nt).toNatClampNeg (mk + 1))))), (r 26, .inl ((cT 0), 7, .inl (upd f26 nt x))), (r 27, .inl ((cT 0), 7, .inl (upd f27 nt y))), (r 28, .inl ((cT 0), 7, .inl (upd f28 nt z9))), (r 29, .inl ((cT 0), 7, .inl (upd f29 nt tm))), (r 30, .inl ((cT 0), 112, .inl g30_512)), (r 7, .inl ((cT 0), 1000, .inl f7)), (mo, .inr (12, mdG r cd tm (nI sn) (nI tx) (nI lz) (nI ((((((((20 + 1) + 1) + 1) + 1) + 1) + 1) + 1) + 1)) (nI na) (nI nt) (nI nr) mw ml (mk + 1) dw9)), (r 15, .inl ((cT 0), 200, .inl g15_547))] := hD
    refine lv_iinc (k := 0) (v := 8) (lv' := [(4, .int 8), (0, .ref mo), (1, .int x), (2, .int y), (3, .int z9)]) hx hb d_Md_challenge_174 hl rfl (by decide) (by decide) rfl (fun ls hl => ?_)
    refine lv_goto (tgt := 157) hx hb d_Md_challenge_177 (by decide) ?_
    refine lv_iload hx hb d_Md_challenge_157 (lv_at hl 0 rfl) ?_
    refine lv_if_lt (tgt := 180) hx hb d_Md_challenge_159 (by decide) (fun hn9 => absurd hn9 (by decide)) (fun hc549 => ?_)
    refine lv_aload_n hx hb d_Md_challenge_162 rfl (lv_at hl 1 rfl) ?_
    refine lv_aload_n hx hb d_Md_challenge_163 rfl (lv_at hl 1 rfl) ?_
    refine va_get (D := (dC, dI)) (ci := 12) (v := (.long (mk + 1))) (C := R_Md) (T := F_Md) (N := 45) hx hb hg in_Md hown hK hP 7 rfl rfl 31 (by decide) (hg _ k_1051) (fun _ h9 => h9) rfl d_Md_challenge_164 ?_
    refine lv_iload hx hb d_Md_challenge_167 (lv_at hl 0 rfl) ?_
    refine lv_lshr (v := (mk + 1) >>> ((8 : Int32).toInt64 &&& 63)) hx hb d_Md_challenge_169 rfl ?_
    refine lv_l2i (v := ((mk + 1) >>> ((8 : Int32).toInt64 &&& 63)).toInt32) hx hb d_Md_challenge_170 rfl ?_
    have hPc := hP.sub (ws' := [(mo, .inr (12, mdG r cd tm (nI sn) (nI tx) (nI lz) (nI ((((((((20 + 1) + 1) + 1) + 1) + 1) + 1) + 1) + 1)) (nI na) (nI nt) (nI nr) mw ml (mk + 1) dw9)), (r 15, .inl ((cT 0), 200, .inl g15_547))]) [7, 8] rfl
    have hDc := hD.sub (ws' := [(mo, .inr (12, mdG r cd tm (nI sn) (nI tx) (nI lz) (nI ((((((((20 + 1) + 1) + 1) + 1) + 1) + 1) + 1) + 1)) (nI na) (nI nt) (nI nr) mw ml (mk + 1) dw9)), (r 15, .inl ((cT 0), 200, .inl g15_547))]) [7, 8] (by decide) rfl
    have hFc := va_free (wc := [(mo, .inr (12, mdG r cd tm (nI sn) (nI tx) (nI lz) (nI ((((((((20 + 1) + 1) + 1) + 1) + 1) + 1) + 1) + 1)) (nI na) (nI nt) (nI nr) mw ml (mk + 1) dw9)), (r 15, .inl ((cT 0), 200, .inl g15_547))]) hD hS hA [7, 8] rfl
    refine va_callv (va_runV (C := "DoorServerModel") (As := [.int (((mk + 1) >>> ((8 : Int32).toInt64 &&& 63)).toInt32)]) (rest := []) ⟨hx, hb, hml, hown, hg⟩ (m_tell l dC dI cT H.size mo r cd tm sn tx lz ((((((((20 + 1) + 1) + 1) + 1) + 1) + 1) + 1) + 1) na nt nr mw ml (mk + 1) dw9 g15_547 (((mk + 1) >>> ((8 : Int32).toInt64 &&& 63)).toInt32) (by first | assumption | omega)) (cwV 1 hg (gI (List.forall_mem_append.mpr ⟨List.forall_mem_cons.mpr ⟨k_1337, List.forall_mem_cons.mpr ⟨k_1339, List.forall_mem_cons.mpr ⟨(big_sel (q := y_Md_tell) (n := 45) (by decide +kernel)), List.forall_mem_cons.mpr ⟨k_13, fun _ h => absurd h List.not_mem_nil⟩⟩⟩⟩, List.forall_mem_cons.mpr ⟨k_1340, fun _ h => h⟩⟩)) rfl rfl rfl (by decide +kernel) ⟨Nat.le_of_ble_eq_true rfl, Nat.le_of_ble_eq_true rfl⟩) ⟨fun a U g mk q => by obtain ⟨q0, q1, qP, qK, qD⟩ := q; exact ⟨q0, q1, qP, va_K.moved (u := U) (U := U.calling g mk a) (Vm.Alike.refl U.vm) qK, qD⟩, va_recv (q0 := 7) (ci := 12) hK hP rfl rfl, fun U hU hW => ⟨rfl, by rw [hU], by rw [hU]; exact hPc, va_K.moved hW.alike hK, hDc.weaken (fun _ _ _ _ => trivial)⟩⟩ rfl rfl hl.1 rfl (lv_room (Nat.le_of_ble_eq_true rfl)) d_Md_challenge_171 ⟨Nat.le_of_ble_eq_true rfl, Nat.le_of_ble_eq_true rfl⟩) hS (fun q _ h => hFc q h) hFc (fun u t H1 locs ht hvm hw hB hz1 hk1 hS => ?_)
    obtain ⟨g15_550, rfl⟩ : ∃ z, z = u := ⟨_, rfl⟩
    try dsimp only at hw hB
    obtain ⟨hP1, hK1, hD1⟩ := hB
    rw [ht] at hP1
    obtain ⟨hP, hD⟩ := va_join (wr := [(r 25, .inl ((cT 1), 7, .inr (.inl (vp_updL f25 (nI nt).toNatClampNeg (mk + 1))))), (r 26, .inl ((cT 0), 7, .inl (upd f26 nt x))), (r 27, .inl ((cT 0), 7, .inl (upd f27 nt y))), (r 28, .inl ((cT 0), 7, .inl (upd f28 nt z9))), (r 29, .inl ((cT 0), 7, .inl (upd f29 nt tm))), (r 30, .inl ((cT 0), 112, .inl g30_512)), (r 7, .inl ((cT 0), 1000, .inl f7))]) (w1 := [(mo, .inr (12, mdG r cd tm (nI sn) (nI tx) (nI lz) (nI (((((((((20 + 1) + 1) + 1) + 1) + 1) + 1) + 1) + 1) + 1)) (nI na) (nI nt) (nI nr) mw ml (mk + 1) dw9)), (r 15, .inl ((cT 0), 200, .inl g15_550))]) hP hD [7, 8] [0, 1, 2, 3, 4, 5, 6] rfl rfl (by decide) (by decide) hk1 hFc hP1 hD1
    have hw551 := hw
    clear hPc hDc hFc hz1 hk1 hP1 hK1 hD1
    generalize H1 = H at hP hS ⊢
    have hP : va_P (dC, dI) vcl [(r 25, .inl ((cT 1), 7, .inr (.inl (vp_updL f25 (nI nt).toNatClampNeg (mk + 1))))), (r 26, .inl ((cT 0), 7, .inl (upd f26 nt x))), (r 27, .inl ((cT 0), 7, .inl (upd f27 nt y))), (r 28, .inl ((cT 0), 7, .inl (upd f28 nt z9))), (r 29, .inl ((cT 0), 7, .inl (upd f29 nt tm))), (r 30, .inl ((cT 0), 112, .inl g30_512)), (r 7, .inl ((cT 0), 1000, .inl f7)), (mo, .inr (12, mdG r cd tm (nI sn) (nI tx) (nI lz) (nI (((((((((20 + 1) + 1) + 1) + 1) + 1) + 1) + 1) + 1) + 1)) (nI na) (nI nt) (nI nr) mw ml (mk + 1) dw9)), (r 15, .inl ((cT 0), 200, .inl g15_550))] H := hP
    have hD : va_D A [(r 25, .inl ((cT 1), 7, .inr (.inl (vp_updL f25 (nI nt).toNatClampNeg (mk + 1))))), (r 26, .inl ((cT 0), 7, .inl (upd f26 nt x))), (r 27, .inl ((cT 0), 7, .inl (upd f27 nt y))), (r 28, .inl ((cT 0), 7, .inl (upd f28 nt z9))), (r 29, .inl ((cT 0), 7, .inl (upd f29 nt tm))), (r 30, .inl ((cT 0), 112, .inl g30_512)), (r 7, .inl ((cT 0), 1000, .inl f7)), (mo, .inr (12, mdG r cd tm (nI sn) (nI tx) (nI lz) (nI (((((((((20 + 1) + 1) + 1) + 1) + 1) + 1) + 1) + 1) + 1)) (nI na) (nI nt) (nI nr) mw ml (mk + 1) dw9)), (r 15, .inl ((cT 0), 200, .inl g15_550))] := hD
    refine lv_iinc (k := 0) (v := 0) (lv' := [(4, .int 0), (0, .ref mo), (1, .int x), (2, .int y), (3, .int z9)]) hx hb d_Md_challenge_174 hl rfl (by decide) (by decide) rfl (fun ls hl => ?_)
    refine lv_goto (tgt := 157) hx hb d_Md_challenge_177 (by decide) ?_
    refine lv_iload hx hb d_Md_challenge_157 (lv_at hl 0 rfl) ?_
    refine lv_if_lt (tgt := 180) hx hb d_Md_challenge_159 (by decide) (fun hn9 => absurd hn9 (by decide)) (fun hc552 => ?_)
    refine lv_aload_n hx hb d_Md_challenge_162 rfl (lv_at hl 1 rfl) ?_
    refine lv_aload_n hx hb d_Md_challenge_163 rfl (lv_at hl 1 rfl) ?_
    refine va_get (D := (dC, dI)) (ci := 12) (v := (.long (mk + 1))) (C := R_Md) (T := F_Md) (N := 45) hx hb hg in_Md hown hK hP 7 rfl rfl 31 (by decide) (hg _ k_1051) (fun _ h9 => h9) rfl d_Md_challenge_164 ?_
    refine lv_iload hx hb d_Md_challenge_167 (lv_at hl 0 rfl) ?_
    refine lv_lshr (v := (mk + 1) >>> ((0 : Int32).toInt64 &&& 63)) hx hb d_Md_challenge_169 rfl ?_
    refine lv_l2i (v := ((mk + 1) >>> ((0 : Int32).toInt64 &&& 63)).toInt32) hx hb d_Md_challenge_170 rfl ?_
    have hPc := hP.sub (ws' := [(mo, .inr (12, mdG r cd tm (nI sn) (nI tx) (nI lz) (nI (((((((((20 + 1) + 1) + 1) + 1) + 1) + 1) + 1) + 1) + 1)) (nI na) (nI nt) (nI nr) mw ml (mk + 1) dw9)), (r 15, .inl ((cT 0), 200, .inl g15_550))]) [7, 8] rfl
    have hDc := hD.sub (ws' := [(mo, .inr (12, mdG r cd tm (nI sn) (nI tx) (nI lz) (nI (((((((((20 + 1) + 1) + 1) + 1) + 1) + 1) + 1) + 1) + 1)) (nI na) (nI nt) (nI nr) mw ml (mk + 1) dw9)), (r 15, .inl ((cT 0), 200, .inl g15_550))]) [7, 8] (by decide) rfl
    have hFc := va_free (wc := [(mo, .inr (12, mdG r cd tm (nI sn) (nI tx) (nI lz) (nI (((((((((20 + 1) + 1) + 1) + 1) + 1) + 1) + 1) + 1) + 1)) (nI na) (nI nt) (nI nr) mw ml (mk + 1) dw9)), (r 15, .inl ((cT 0), 200, .inl g15_550))]) hD hS hA [7, 8] rfl
    refine va_callv (va_runV (C := "DoorServerModel") (As := [.int (((mk + 1) >>> ((0 : Int32).toInt64 &&& 63)).toInt32)]) (rest := []) ⟨hx, hb, hml, hown, hg⟩ (m_tell l dC dI cT H.size mo r cd tm sn tx lz (((((((((20 + 1) + 1) + 1) + 1) + 1) + 1) + 1) + 1) + 1) na nt nr mw ml (mk + 1) dw9 g15_550 (((mk + 1) >>> ((0 : Int32).toInt64 &&& 63)).toInt32) (by first | assumption | omega)) (cwV 1 hg (gI (List.forall_mem_append.mpr ⟨List.forall_mem_cons.mpr ⟨k_1337, List.forall_mem_cons.mpr ⟨k_1339, List.forall_mem_cons.mpr ⟨(big_sel (q := y_Md_tell) (n := 45) (by decide +kernel)), List.forall_mem_cons.mpr ⟨k_13, fun _ h => absurd h List.not_mem_nil⟩⟩⟩⟩, List.forall_mem_cons.mpr ⟨k_1340, fun _ h => h⟩⟩)) rfl rfl rfl (by decide +kernel) ⟨Nat.le_of_ble_eq_true rfl, Nat.le_of_ble_eq_true rfl⟩) ⟨fun a U g mk q => by obtain ⟨q0, q1, qP, qK, qD⟩ := q; exact ⟨q0, q1, qP, va_K.moved (u := U) (U := U.calling g mk a) (Vm.Alike.refl U.vm) qK, qD⟩, va_recv (q0 := 7) (ci := 12) hK hP rfl rfl, fun U hU hW => ⟨rfl, by rw [hU], by rw [hU]; exact hPc, va_K.moved hW.alike hK, hDc.weaken (fun _ _ _ _ => trivial)⟩⟩ rfl rfl hl.1 rfl (lv_room (Nat.le_of_ble_eq_true rfl)) d_Md_challenge_171 ⟨Nat.le_of_ble_eq_true rfl, Nat.le_of_ble_eq_true rfl⟩) hS (fun q _ h => hFc q h) hFc (fun u t H1 locs ht hvm hw hB hz1 hk1 hS => ?_)
    obtain ⟨g15_553, rfl⟩ : ∃ z, z = u := ⟨_, rfl⟩
    try dsimp only at hw hB
    obtain ⟨hP1, hK1, hD1⟩ := hB
    rw [ht] at hP1
    obtain ⟨hP, hD⟩ := va_join (wr := [(r 25, .inl ((cT 1), 7, .inr (.inl (vp_updL f25 (nI nt).toNatClampNeg (mk + 1))))), (r 26, .inl ((cT 0), 7, .inl (upd f26 nt x))), (r 27, .inl ((cT 0), 7, .inl (upd f27 nt y))), (r 28, .inl ((cT 0), 7, .inl (upd f28 nt z9))), (r 29, .inl ((cT 0), 7, .inl (upd f29 nt tm))), (r 30, .inl ((cT 0), 112, .inl g30_512)), (r 7, .inl ((cT 0), 1000, .inl f7))]) (w1 := [(mo, .inr (12, mdG r cd tm (nI sn) (nI tx) (nI lz) (nI ((((((((((20 + 1) + 1) + 1) + 1) + 1) + 1) + 1) + 1) + 1) + 1)) (nI na) (nI nt) (nI nr) mw ml (mk + 1) dw9)), (r 15, .inl ((cT 0), 200, .inl g15_553))]) hP hD [7, 8] [0, 1, 2, 3, 4, 5, 6] rfl rfl (by decide) (by decide) hk1 hFc hP1 hD1
    have hw554 := hw
    clear hPc hDc hFc hz1 hk1 hP1 hK1 hD1
    generalize H1 = H at hP hS ⊢
    have hP : va_P (dC, dI) vcl [(r 25, .inl ((cT 1), 7, .inr (.inl (vp_updL f25 (nI nt).toNatClampNeg (mk + 1))))), (r 26, .inl ((cT 0), 7, .inl (upd f26 nt x))), (r 27, .inl ((cT 0), 7, .inl (upd f27 nt y))), (r 28, .inl ((cT 0), 7, .inl (upd f28 nt z9))), (r 29, .inl ((cT 0), 7, .inl (upd f29 nt tm))), (r 30, .inl ((cT 0), 112, .inl g30_512)), (r 7, .inl ((cT 0), 1000, .inl f7)), (mo, .inr (12, mdG r cd tm (nI sn) (nI tx) (nI lz) (nI ((((((((((20 + 1) + 1) + 1) + 1) + 1) + 1) + 1) + 1) + 1) + 1)) (nI na) (nI nt) (nI nr) mw ml (mk + 1) dw9)), (r 15, .inl ((cT 0), 200, .inl g15_553))] H := hP
    have hD : va_D A [(r 25, .inl ((cT 1), 7, .inr (.inl (vp_updL f25 (nI nt).toNatClampNeg (mk + 1))))), (r 26, .inl ((cT 0), 7, .inl (upd f26 nt x))), (r 27, .inl ((cT 0), 7, .inl (upd f27 nt y))), (r 28, .inl ((cT 0), 7, .inl (upd f28 nt z9))), (r 29, .inl ((cT 0), 7, .inl (upd f29 nt tm))), (r 30, .inl ((cT 0), 112, .inl g30_512)), (r 7, .inl ((cT 0), 1000, .inl f7)), (mo, .inr (12, mdG r cd tm (nI sn) (nI tx) (nI lz) (nI ((((((((((20 + 1) + 1) + 1) + 1) + 1) + 1) + 1) + 1) + 1) + 1)) (nI na) (nI nt) (nI nr) mw ml (mk + 1) dw9)), (r 15, .inl ((cT 0), 200, .inl g15_553))] := hD
    refine lv_iinc (k := 0) (v := (-8)) (lv' := [(4, .int (-8)), (0, .ref mo), (1, .int x), (2, .int y), (3, .int z9)]) hx hb d_Md_challenge_174 hl rfl (by decide) (by decide) rfl (fun ls hl => ?_)
    refine lv_goto (tgt := 157) hx hb d_Md_challenge_177 (by decide) ?_
    refine lv_iload hx hb d_Md_challenge_157 (lv_at hl 0 rfl) ?_
    refine lv_if_lt (tgt := 180) hx hb d_Md_challenge_159 (by decide) (fun hc555 => ?_) (fun hn9 => absurd (by decide) hn9)
    refine lv_aload_n hx hb d_Md_challenge_180 rfl (lv_at hl 1 rfl) ?_
    refine lv_bipush (v := 79) hx hb d_Md_challenge_181 (by decide) ?_
    have hPc := hP.sub (ws' := [(mo, .inr (12, mdG r cd tm (nI sn) (nI tx) (nI lz) (nI ((((((((((20 + 1) + 1) + 1) + 1) + 1) + 1) + 1) + 1) + 1) + 1)) (nI na) (nI nt) (nI nr) mw ml (mk + 1) dw9)), (r 15, .inl ((cT 0), 200, .inl g15_553))]) [7, 8] rfl
    have hDc := hD.sub (ws' := [(mo, .inr (12, mdG r cd tm (nI sn) (nI tx) (nI lz) (nI ((((((((((20 + 1) + 1) + 1) + 1) + 1) + 1) + 1) + 1) + 1) + 1)) (nI na) (nI nt) (nI nr) mw ml (mk + 1) dw9)), (r 15, .inl ((cT 0), 200, .inl g15_553))]) [7, 8] (by decide) rfl
    have hFc := va_free (wc := [(mo, .inr (12, mdG r cd tm (nI sn) (nI tx) (nI lz) (nI ((((((((((20 + 1) + 1) + 1) + 1) + 1) + 1) + 1) + 1) + 1) + 1)) (nI na) (nI nt) (nI nr) mw ml (mk + 1) dw9)), (r 15, .inl ((cT 0), 200, .inl g15_553))]) hD hS hA [7, 8] rfl
    refine va_callv (va_runV (C := "DoorServerModel") (As := [.int 79]) (rest := []) ⟨hx, hb, hml, hown, hg⟩ (m_tell l dC dI cT H.size mo r cd tm sn tx lz ((((((((((20 + 1) + 1) + 1) + 1) + 1) + 1) + 1) + 1) + 1) + 1) na nt nr mw ml (mk + 1) dw9 g15_553 79 (by first | assumption | omega)) (cwV 1 hg (gI (List.forall_mem_append.mpr ⟨List.forall_mem_cons.mpr ⟨k_1337, List.forall_mem_cons.mpr ⟨k_1339, List.forall_mem_cons.mpr ⟨(big_sel (q := y_Md_tell) (n := 45) (by decide +kernel)), List.forall_mem_cons.mpr ⟨k_13, fun _ h => absurd h List.not_mem_nil⟩⟩⟩⟩, List.forall_mem_cons.mpr ⟨k_1340, fun _ h => h⟩⟩)) rfl rfl rfl (by decide +kernel) ⟨Nat.le_of_ble_eq_true rfl, Nat.le_of_ble_eq_true rfl⟩) ⟨fun a U g mk q => by obtain ⟨q0, q1, qP, qK, qD⟩ := q; exact ⟨q0, q1, qP, va_K.moved (u := U) (U := U.calling g mk a) (Vm.Alike.refl U.vm) qK, qD⟩, va_recv (q0 := 7) (ci := 12) hK hP rfl rfl, fun U hU hW => ⟨rfl, by rw [hU], by rw [hU]; exact hPc, va_K.moved hW.alike hK, hDc.weaken (fun _ _ _ _ => trivial)⟩⟩ rfl rfl hl.1 rfl (lv_room (Nat.le_of_ble_eq_true rfl)) d_Md_challenge_183 ⟨Nat.le_of_ble_eq_true rfl, Nat.le_of_ble_eq_true rfl⟩) hS (fun q _ h => hFc q h) hFc (fun u t H1 locs ht hvm hw hB hz1 hk1 hS => ?_)
    obtain ⟨g15_556, rfl⟩ : ∃ z, z = u := ⟨_, rfl⟩
    try dsimp only at hw hB
    obtain ⟨hP1, hK1, hD1⟩ := hB
    rw [ht] at hP1
    obtain ⟨hP, hD⟩ := va_join (wr := [(r 25, .inl ((cT 1), 7, .inr (.inl (vp_updL f25 (nI nt).toNatClampNeg (mk + 1))))), (r 26, .inl ((cT 0), 7, .inl (upd f26 nt x))), (r 27, .inl ((cT 0), 7, .inl (upd f27 nt y))), (r 28, .inl ((cT 0), 7, .inl (upd f28 nt z9))), (r 29, .inl ((cT 0), 7, .inl (upd f29 nt tm))), (r 30, .inl ((cT 0), 112, .inl g30_512)), (r 7, .inl ((cT 0), 1000, .inl f7))]) (w1 := [(mo, .inr (12, mdG r cd tm (nI sn) (nI tx) (nI lz) (nI (((((((((((20 + 1) + 1) + 1) + 1) + 1) + 1) + 1) + 1) + 1) + 1) + 1)) (nI na) (nI nt) (nI nr) mw ml (mk + 1) dw9)), (r 15, .inl ((cT 0), 200, .inl g15_556))]) hP hD [7, 8] [0, 1, 2, 3, 4, 5, 6] rfl rfl (by decide) (by decide) hk1 hFc hP1 hD1
    have hw557 := hw
    clear hPc hDc hFc hz1 hk1 hP1 hK1 hD1
    generalize H1 = H at hP hS ⊢
    have hP : va_P (dC, dI) vcl [(r 25, .inl ((cT 1), 7, .inr (.inl (vp_updL f25 (nI nt).toNatClampNeg (mk + 1))))), (r 26, .inl ((cT 0), 7, .inl (upd f26 nt x))), (r 27, .inl ((cT 0), 7, .inl (upd f27 nt y))), (r 28, .inl ((cT 0), 7, .inl (upd f28 nt z9))), (r 29, .inl ((cT 0), 7, .inl (upd f29 nt tm))), (r 30, .inl ((cT 0), 112, .inl g30_512)), (r 7, .inl ((cT 0), 1000, .inl f7)), (mo, .inr (12, mdG r cd tm (nI sn) (nI tx) (nI lz) (nI (((((((((((20 + 1) + 1) + 1) + 1) + 1) + 1) + 1) + 1) + 1) + 1) + 1)) (nI na) (nI nt) (nI nr) mw ml (mk + 1) dw9)), (r 15, .inl ((cT 0), 200, .inl g15_556))] H := hP
    have hD : va_D A [(r 25, .inl ((cT 1), 7, .inr (.inl (vp_updL f25 (nI nt).toNatClampNeg (mk + 1))))), (r 26, .inl ((cT 0), 7, .inl (upd f26 nt x))), (r 27, .inl ((cT 0), 7, .inl (upd f27 nt y))), (r 28, .inl ((cT 0), 7, .inl (upd f28 nt z9))), (r 29, .inl ((cT 0), 7, .inl (upd f29 nt tm))), (r 30, .inl ((cT 0), 112, .inl g30_512)), (r 7, .inl ((cT 0), 1000, .inl f7)), (mo, .inr (12, mdG r cd tm (nI sn) (nI tx) (nI lz) (nI (((((((((((20 + 1) + 1) + 1) + 1) + 1) + 1) + 1) + 1) + 1) + 1) + 1)) (nI na) (nI nt) (nI nr) mw ml (mk + 1) dw9)), (r 15, .inl ((cT 0), 200, .inl g15_556))] := hD
    refine lv_aload_n hx hb d_Md_challenge_186 rfl (lv_at hl 1 rfl) ?_
    refine lv_bipush (v := 24) hx hb d_Md_challenge_187 (by decide) ?_
    have hPc := hP.sub (ws' := [(mo, .inr (12, mdG r cd tm (nI sn) (nI tx) (nI lz) (nI (((((((((((20 + 1) + 1) + 1) + 1) + 1) + 1) + 1) + 1) + 1) + 1) + 1)) (nI na) (nI nt) (nI nr) mw ml (mk + 1) dw9)), (r 15, .inl ((cT 0), 200, .inl g15_556))]) [7, 8] rfl
    have hDc := hD.sub (ws' := [(mo, .inr (12, mdG r cd tm (nI sn) (nI tx) (nI lz) (nI (((((((((((20 + 1) + 1) + 1) + 1) + 1) + 1) + 1) + 1) + 1) + 1) + 1)) (nI na) (nI nt) (nI nr) mw ml (mk + 1) dw9)), (r 15, .inl ((cT 0), 200, .inl g15_556))]) [7, 8] (by decide) rfl
    have hFc := va_free (wc := [(mo, .inr (12, mdG r cd tm (nI sn) (nI tx) (nI lz) (nI (((((((((((20 + 1) + 1) + 1) + 1) + 1) + 1) + 1) + 1) + 1) + 1) + 1)) (nI na) (nI nt) (nI nr) mw ml (mk + 1) dw9)), (r 15, .inl ((cT 0), 200, .inl g15_556))]) hD hS hA [7, 8] rfl
    refine va_callv (va_runV (C := "DoorServerModel") (As := [.int 24]) (rest := []) ⟨hx, hb, hml, hown, hg⟩ (m_tell l dC dI cT H.size mo r cd tm sn tx lz (((((((((((20 + 1) + 1) + 1) + 1) + 1) + 1) + 1) + 1) + 1) + 1) + 1) na nt nr mw ml (mk + 1) dw9 g15_556 24 (by first | assumption | omega)) (cwV 1 hg (gI (List.forall_mem_append.mpr ⟨List.forall_mem_cons.mpr ⟨k_1337, List.forall_mem_cons.mpr ⟨k_1339, List.forall_mem_cons.mpr ⟨(big_sel (q := y_Md_tell) (n := 45) (by decide +kernel)), List.forall_mem_cons.mpr ⟨k_13, fun _ h => absurd h List.not_mem_nil⟩⟩⟩⟩, List.forall_mem_cons.mpr ⟨k_1340, fun _ h => h⟩⟩)) rfl rfl rfl (by decide +kernel) ⟨Nat.le_of_ble_eq_true rfl, Nat.le_of_ble_eq_true rfl⟩) ⟨fun a U g mk q => by obtain ⟨q0, q1, qP, qK, qD⟩ := q; exact ⟨q0, q1, qP, va_K.moved (u := U) (U := U.calling g mk a) (Vm.Alike.refl U.vm) qK, qD⟩, va_recv (q0 := 7) (ci := 12) hK hP rfl rfl, fun U hU hW => ⟨rfl, by rw [hU], by rw [hU]; exact hPc, va_K.moved hW.alike hK, hDc.weaken (fun _ _ _ _ => trivial)⟩⟩ rfl rfl hl.1 rfl (lv_room (Nat.le_of_ble_eq_true rfl)) d_Md_challenge_189 ⟨Nat.le_of_ble_eq_true rfl, Nat.le_of_ble_eq_true rfl⟩) hS (fun q _ h => hFc q h) hFc (fun u t H1 locs ht hvm hw hB hz1 hk1 hS => ?_)
    obtain ⟨g15_558, rfl⟩ : ∃ z, z = u := ⟨_, rfl⟩
    try dsimp only at hw hB
    obtain ⟨hP1, hK1, hD1⟩ := hB
    rw [ht] at hP1
    obtain ⟨hP, hD⟩ := va_join (wr := [(r 25, .inl ((cT 1), 7, .inr (.inl (vp_updL f25 (nI nt).toNatClampNeg (mk + 1))))), (r 26, .inl ((cT 0), 7, .inl (upd f26 nt x))), (r 27, .inl ((cT 0), 7, .inl (upd f27 nt y))), (r 28, .inl ((cT 0), 7, .inl (upd f28 nt z9))), (r 29, .inl ((cT 0), 7, .inl (upd f29 nt tm))), (r 30, .inl ((cT 0), 112, .inl g30_512)), (r 7, .inl ((cT 0), 1000, .inl f7))]) (w1 := [(mo, .inr (12, mdG r cd tm (nI sn) (nI tx) (nI lz) (nI ((((((((((((20 + 1) + 1) + 1) + 1) + 1) + 1) + 1) + 1) + 1) + 1) + 1) + 1)) (nI na) (nI nt) (nI nr) mw ml (mk + 1) dw9)), (r 15, .inl ((cT 0), 200, .inl g15_558))]) hP hD [7, 8] [0, 1, 2, 3, 4, 5, 6] rfl rfl (by decide) (by decide) hk1 hFc hP1 hD1
    have hw559 := hw
    clear hPc hDc hFc hz1 hk1 hP1 hK1 hD1
    generalize H1 = H at hP hS ⊢
    have hP : va_P (dC, dI) vcl [(r 25, .inl ((cT 1), 7, .inr (.inl (vp_updL f25 (nI nt).toNatClampNeg (mk + 1))))), (r 26, .inl ((cT 0), 7, .inl (upd f26 nt x))), (r 27, .inl ((cT 0), 7, .inl (upd f27 nt y))), (r 28, .inl ((cT 0), 7, .inl (upd f28 nt z9))), (r 29, .inl ((cT 0), 7, .inl (upd f29 nt tm))), (r 30, .inl ((cT 0), 112, .inl g30_512)), (r 7, .inl ((cT 0), 1000, .inl f7)), (mo, .inr (12, mdG r cd tm (nI sn) (nI tx) (nI lz) (nI ((((((((((((20 + 1) + 1) + 1) + 1) + 1) + 1) + 1) + 1) + 1) + 1) + 1) + 1)) (nI na) (nI nt) (nI nr) mw ml (mk + 1) dw9)), (r 15, .inl ((cT 0), 200, .inl g15_558))] H := hP
    have hD : va_D A [(r 25, .inl ((cT 1), 7, .inr (.inl (vp_updL f25 (nI nt).toNatClampNeg (mk + 1))))), (r 26, .inl ((cT 0), 7, .inl (upd f26 nt x))), (r 27, .inl ((cT 0), 7, .inl (upd f27 nt y))), (r 28, .inl ((cT 0), 7, .inl (upd f28 nt z9))), (r 29, .inl ((cT 0), 7, .inl (upd f29 nt tm))), (r 30, .inl ((cT 0), 112, .inl g30_512)), (r 7, .inl ((cT 0), 1000, .inl f7)), (mo, .inr (12, mdG r cd tm (nI sn) (nI tx) (nI lz) (nI ((((((((((((20 + 1) + 1) + 1) + 1) + 1) + 1) + 1) + 1) + 1) + 1) + 1) + 1)) (nI na) (nI nt) (nI nr) mw ml (mk + 1) dw9)), (r 15, .inl ((cT 0), 200, .inl g15_558))] := hD
    refine lv_aload_n hx hb d_Md_challenge_192 rfl (lv_at hl 1 rfl) ?_
    refine lv_iconst (v := 1) hx hb d_Md_challenge_193 (by decide) ?_
    have hPc := hP.sub (ws' := [(mo, .inr (12, mdG r cd tm (nI sn) (nI tx) (nI lz) (nI ((((((((((((20 + 1) + 1) + 1) + 1) + 1) + 1) + 1) + 1) + 1) + 1) + 1) + 1)) (nI na) (nI nt) (nI nr) mw ml (mk + 1) dw9)), (r 15, .inl ((cT 0), 200, .inl g15_558))]) [7, 8] rfl
    have hDc := hD.sub (ws' := [(mo, .inr (12, mdG r cd tm (nI sn) (nI tx) (nI lz) (nI ((((((((((((20 + 1) + 1) + 1) + 1) + 1) + 1) + 1) + 1) + 1) + 1) + 1) + 1)) (nI na) (nI nt) (nI nr) mw ml (mk + 1) dw9)), (r 15, .inl ((cT 0), 200, .inl g15_558))]) [7, 8] (by decide) rfl
    have hFc := va_free (wc := [(mo, .inr (12, mdG r cd tm (nI sn) (nI tx) (nI lz) (nI ((((((((((((20 + 1) + 1) + 1) + 1) + 1) + 1) + 1) + 1) + 1) + 1) + 1) + 1)) (nI na) (nI nt) (nI nr) mw ml (mk + 1) dw9)), (r 15, .inl ((cT 0), 200, .inl g15_558))]) hD hS hA [7, 8] rfl
    refine va_callv (va_runV (C := "DoorServerModel") (As := [.int 1]) (rest := []) ⟨hx, hb, hml, hown, hg⟩ (m_tell l dC dI cT H.size mo r cd tm sn tx lz ((((((((((((20 + 1) + 1) + 1) + 1) + 1) + 1) + 1) + 1) + 1) + 1) + 1) + 1) na nt nr mw ml (mk + 1) dw9 g15_558 1 (by first | assumption | omega)) (cwV 1 hg (gI (List.forall_mem_append.mpr ⟨List.forall_mem_cons.mpr ⟨k_1337, List.forall_mem_cons.mpr ⟨k_1339, List.forall_mem_cons.mpr ⟨(big_sel (q := y_Md_tell) (n := 45) (by decide +kernel)), List.forall_mem_cons.mpr ⟨k_13, fun _ h => absurd h List.not_mem_nil⟩⟩⟩⟩, List.forall_mem_cons.mpr ⟨k_1340, fun _ h => h⟩⟩)) rfl rfl rfl (by decide +kernel) ⟨Nat.le_of_ble_eq_true rfl, Nat.le_of_ble_eq_true rfl⟩) ⟨fun a U g mk q => by obtain ⟨q0, q1, qP, qK, qD⟩ := q; exact ⟨q0, q1, qP, va_K.moved (u := U) (U := U.calling g mk a) (Vm.Alike.refl U.vm) qK, qD⟩, va_recv (q0 := 7) (ci := 12) hK hP rfl rfl, fun U hU hW => ⟨rfl, by rw [hU], by rw [hU]; exact hPc, va_K.moved hW.alike hK, hDc.weaken (fun _ _ _ _ => trivial)⟩⟩ rfl rfl hl.1 rfl (lv_room (Nat.le_of_ble_eq_true rfl)) d_Md_challenge_194 ⟨Nat.le_of_ble_eq_true rfl, Nat.le_of_ble_eq_true rfl⟩) hS (fun q _ h => hFc q h) hFc (fun u t H1 locs ht hvm hw hB hz1 hk1 hS => ?_)
    obtain ⟨g15_560, rfl⟩ : ∃ z, z = u := ⟨_, rfl⟩
    try dsimp only at hw hB
    obtain ⟨hP1, hK1, hD1⟩ := hB
    rw [ht] at hP1
    obtain ⟨hP, hD⟩ := va_join (wr := [(r 25, .inl ((cT 1), 7, .inr (.inl (vp_updL f25 (nI nt).toNatClampNeg (mk + 1))))), (r 26, .inl ((cT 0), 7, .inl (upd f26 nt x))), (r 27, .inl ((cT 0), 7, .inl (upd f27 nt y))), (r 28, .inl ((cT 0), 7, .inl (upd f28 nt z9))), (r 29, .inl ((cT 0), 7, .inl (upd f29 nt tm))), (r 30, .inl ((cT 0), 112, .inl g30_512)), (r 7, .inl ((cT 0), 1000, .inl f7))]) (w1 := [(mo, .inr (12, mdG r cd tm (nI sn) (nI tx) (nI lz) (nI (((((((((((((20 + 1) + 1) + 1) + 1) + 1) + 1) + 1) + 1) + 1) + 1) + 1) + 1) + 1)) (nI na) (nI nt) (nI nr) mw ml (mk + 1) dw9)), (r 15, .inl ((cT 0), 200, .inl g15_560))]) hP hD [7, 8] [0, 1, 2, 3, 4, 5, 6] rfl rfl (by decide) (by decide) hk1 hFc hP1 hD1
    have hw561 := hw
    clear hPc hDc hFc hz1 hk1 hP1 hK1 hD1
    generalize H1 = H at hP hS ⊢
    have hP : va_P (dC, dI) vcl [(r 25, .inl ((cT 1), 7, .inr (.inl (vp_updL f25 (nI nt).toNatClampNeg (mk + 1))))), (r 26, .inl ((cT 0), 7, .inl (upd f26 nt x))), (r 27, .inl ((cT 0), 7, .inl (upd f27 nt y))), (r 28, .inl ((cT 0), 7, .inl (upd f28 nt z9))), (r 29, .inl ((cT 0), 7, .inl (upd f29 nt tm))), (r 30, .inl ((cT 0), 112, .inl g30_512)), (r 7, .inl ((cT 0), 1000, .inl f7)), (mo, .inr (12, mdG r cd tm (nI sn) (nI tx) (nI lz) (nI (((((((((((((20 + 1) + 1) + 1) + 1) + 1) + 1) + 1) + 1) + 1) + 1) + 1) + 1) + 1)) (nI na) (nI nt) (nI nr) mw ml (mk + 1) dw9)), (r 15, .inl ((cT 0), 200, .inl g15_560))] H := hP
    have hD : va_D A [(r 25, .inl ((cT 1), 7, .inr (.inl (vp_updL f25 (nI nt).toNatClampNeg (mk + 1))))), (r 26, .inl ((cT 0), 7, .inl (upd f26 nt x))), (r 27, .inl ((cT 0), 7, .inl (upd f27 nt y))), (r 28, .inl ((cT 0), 7, .inl (upd f28 nt z9))), (r 29, .inl ((cT 0), 7, .inl (upd f29 nt tm))), (r 30, .inl ((cT 0), 112, .inl g30_512)), (r 7, .inl ((cT 0), 1000, .inl f7)), (mo, .inr (12, mdG r cd tm (nI sn) (nI tx) (nI lz) (nI (((((((((((((20 + 1) + 1) + 1) + 1) + 1) + 1) + 1) + 1) + 1) + 1) + 1) + 1) + 1)) (nI na) (nI nt) (nI nr) mw ml (mk + 1) dw9)), (r 15, .inl ((cT 0), 200, .inl g15_560))] := hD
    refine lv_aload_n hx hb d_Md_challenge_197 rfl (lv_at hl 1 rfl) ?_
    refine lv_iload_n hx hb d_Md_challenge_198 rfl (lv_at hl 4 rfl) ?_
    have hPc := hP.sub (ws' := [(mo, .inr (12, mdG r cd tm (nI sn) (nI tx) (nI lz) (nI (((((((((((((20 + 1) + 1) + 1) + 1) + 1) + 1) + 1) + 1) + 1) + 1) + 1) + 1) + 1)) (nI na) (nI nt) (nI nr) mw ml (mk + 1) dw9)), (r 15, .inl ((cT 0), 200, .inl g15_560))]) [7, 8] rfl
    have hDc := hD.sub (ws' := [(mo, .inr (12, mdG r cd tm (nI sn) (nI tx) (nI lz) (nI (((((((((((((20 + 1) + 1) + 1) + 1) + 1) + 1) + 1) + 1) + 1) + 1) + 1) + 1) + 1)) (nI na) (nI nt) (nI nr) mw ml (mk + 1) dw9)), (r 15, .inl ((cT 0), 200, .inl g15_560))]) [7, 8] (by decide) rfl
    have hFc := va_free (wc := [(mo, .inr (12, mdG r cd tm (nI sn) (nI tx) (nI lz) (nI (((((((((((((20 + 1) + 1) + 1) + 1) + 1) + 1) + 1) + 1) + 1) + 1) + 1) + 1) + 1)) (nI na) (nI nt) (nI nr) mw ml (mk + 1) dw9)), (r 15, .inl ((cT 0), 200, .inl g15_560))]) hD hS hA [7, 8] rfl
    refine va_callv (va_runV (C := "DoorServerModel") (As := [.int z9]) (rest := []) ⟨hx, hb, hml, hown, hg⟩ (m_tell l dC dI cT H.size mo r cd tm sn tx lz (((((((((((((20 + 1) + 1) + 1) + 1) + 1) + 1) + 1) + 1) + 1) + 1) + 1) + 1) + 1) na nt nr mw ml (mk + 1) dw9 g15_560 z9 (by first | assumption | omega)) (cwV 1 hg (gI (List.forall_mem_append.mpr ⟨List.forall_mem_cons.mpr ⟨k_1337, List.forall_mem_cons.mpr ⟨k_1339, List.forall_mem_cons.mpr ⟨(big_sel (q := y_Md_tell) (n := 45) (by decide +kernel)), List.forall_mem_cons.mpr ⟨k_13, fun _ h => absurd h List.not_mem_nil⟩⟩⟩⟩, List.forall_mem_cons.mpr ⟨k_1340, fun _ h => h⟩⟩)) rfl rfl rfl (by decide +kernel) ⟨Nat.le_of_ble_eq_true rfl, Nat.le_of_ble_eq_true rfl⟩) ⟨fun a U g mk q => by obtain ⟨q0, q1, qP, qK, qD⟩ := q; exact ⟨q0, q1, qP, va_K.moved (u := U) (U := U.calling g mk a) (Vm.Alike.refl U.vm) qK, qD⟩, va_recv (q0 := 7) (ci := 12) hK hP rfl rfl, fun U hU hW => ⟨rfl, by rw [hU], by rw [hU]; exact hPc, va_K.moved hW.alike hK, hDc.weaken (fun _ _ _ _ => trivial)⟩⟩ rfl rfl hl.1 rfl (lv_room (Nat.le_of_ble_eq_true rfl)) d_Md_challenge_199 ⟨Nat.le_of_ble_eq_true rfl, Nat.le_of_ble_eq_true rfl⟩) hS (fun q _ h => hFc q h) hFc (fun u t H1 locs ht hvm hw hB hz1 hk1 hS => ?_)
    obtain ⟨g15_562, rfl⟩ : ∃ z, z = u := ⟨_, rfl⟩
    try dsimp only at hw hB
    obtain ⟨hP1, hK1, hD1⟩ := hB
    rw [ht] at hP1
    obtain ⟨hP, hD⟩ := va_join (wr := [(r 25, .inl ((cT 1), 7, .inr (.inl (vp_updL f25 (nI nt).toNatClampNeg (mk + 1))))), (r 26, .inl ((cT 0), 7, .inl (upd f26 nt x))), (r 27, .inl ((cT 0), 7, .inl (upd f27 nt y))), (r 28, .inl ((cT 0), 7, .inl (upd f28 nt z9))), (r 29, .inl ((cT 0), 7, .inl (upd f29 nt tm))), (r 30, .inl ((cT 0), 112, .inl g30_512)), (r 7, .inl ((cT 0), 1000, .inl f7))]) (w1 := [(mo, .inr (12, mdG r cd tm (nI sn) (nI tx) (nI lz) (nI ((((((((((((((20 + 1) + 1) + 1) + 1) + 1) + 1) + 1) + 1) + 1) + 1) + 1) + 1) + 1) + 1)) (nI na) (nI nt) (nI nr) mw ml (mk + 1) dw9)), (r 15, .inl ((cT 0), 200, .inl g15_562))]) hP hD [7, 8] [0, 1, 2, 3, 4, 5, 6] rfl rfl (by decide) (by decide) hk1 hFc hP1 hD1
    have hw563 := hw
    clear hPc hDc hFc hz1 hk1 hP1 hK1 hD1
    generalize H1 = H at hP hS ⊢
    have hP : va_P (dC, dI) vcl [(r 25, .inl ((cT 1), 7, .inr (.inl (vp_updL f25 (nI nt).toNatClampNeg (mk + 1))))), (r 26, .inl ((cT 0), 7, .inl (upd f26 nt x))), (r 27, .inl ((cT 0), 7, .inl (upd f27 nt y))), (r 28, .inl ((cT 0), 7, .inl (upd f28 nt z9))), (r 29, .inl ((cT 0), 7, .inl (upd f29 nt tm))), (r 30, .inl ((cT 0), 112, .inl g30_512)), (r 7, .inl ((cT 0), 1000, .inl f7)), (mo, .inr (12, mdG r cd tm (nI sn) (nI tx) (nI lz) (nI ((((((((((((((20 + 1) + 1) + 1) + 1) + 1) + 1) + 1) + 1) + 1) + 1) + 1) + 1) + 1) + 1)) (nI na) (nI nt) (nI nr) mw ml (mk + 1) dw9)), (r 15, .inl ((cT 0), 200, .inl g15_562))] H := hP
    have hD : va_D A [(r 25, .inl ((cT 1), 7, .inr (.inl (vp_updL f25 (nI nt).toNatClampNeg (mk + 1))))), (r 26, .inl ((cT 0), 7, .inl (upd f26 nt x))), (r 27, .inl ((cT 0), 7, .inl (upd f27 nt y))), (r 28, .inl ((cT 0), 7, .inl (upd f28 nt z9))), (r 29, .inl ((cT 0), 7, .inl (upd f29 nt tm))), (r 30, .inl ((cT 0), 112, .inl g30_512)), (r 7, .inl ((cT 0), 1000, .inl f7)), (mo, .inr (12, mdG r cd tm (nI sn) (nI tx) (nI lz) (nI ((((((((((((((20 + 1) + 1) + 1) + 1) + 1) + 1) + 1) + 1) + 1) + 1) + 1) + 1) + 1) + 1)) (nI na) (nI nt) (nI nr) mw ml (mk + 1) dw9)), (r 15, .inl ((cT 0), 200, .inl g15_562))] := hD
    refine lv_aload_n hx hb d_Md_challenge_202 rfl (lv_at hl 1 rfl) ?_
    refine lv_iconst (v := 0) hx hb d_Md_challenge_203 (by decide) ?_
    have hPc := hP.sub (ws' := [(mo, .inr (12, mdG r cd tm (nI sn) (nI tx) (nI lz) (nI ((((((((((((((20 + 1) + 1) + 1) + 1) + 1) + 1) + 1) + 1) + 1) + 1) + 1) + 1) + 1) + 1)) (nI na) (nI nt) (nI nr) mw ml (mk + 1) dw9)), (r 15, .inl ((cT 0), 200, .inl g15_562))]) [7, 8] rfl
    have hDc := hD.sub (ws' := [(mo, .inr (12, mdG r cd tm (nI sn) (nI tx) (nI lz) (nI ((((((((((((((20 + 1) + 1) + 1) + 1) + 1) + 1) + 1) + 1) + 1) + 1) + 1) + 1) + 1) + 1)) (nI na) (nI nt) (nI nr) mw ml (mk + 1) dw9)), (r 15, .inl ((cT 0), 200, .inl g15_562))]) [7, 8] (by decide) rfl
    have hFc := va_free (wc := [(mo, .inr (12, mdG r cd tm (nI sn) (nI tx) (nI lz) (nI ((((((((((((((20 + 1) + 1) + 1) + 1) + 1) + 1) + 1) + 1) + 1) + 1) + 1) + 1) + 1) + 1)) (nI na) (nI nt) (nI nr) mw ml (mk + 1) dw9)), (r 15, .inl ((cT 0), 200, .inl g15_562))]) hD hS hA [7, 8] rfl
    refine va_callv (va_runV (C := "DoorServerModel") (As := [.int 0]) (rest := []) ⟨hx, hb, hml, hown, hg⟩ (m_tell l dC dI cT H.size mo r cd tm sn tx lz ((((((((((((((20 + 1) + 1) + 1) + 1) + 1) + 1) + 1) + 1) + 1) + 1) + 1) + 1) + 1) + 1) na nt nr mw ml (mk + 1) dw9 g15_562 0 (by first | assumption | omega)) (cwV 1 hg (gI (List.forall_mem_append.mpr ⟨List.forall_mem_cons.mpr ⟨k_1337, List.forall_mem_cons.mpr ⟨k_1339, List.forall_mem_cons.mpr ⟨(big_sel (q := y_Md_tell) (n := 45) (by decide +kernel)), List.forall_mem_cons.mpr ⟨k_13, fun _ h => absurd h List.not_mem_nil⟩⟩⟩⟩, List.forall_mem_cons.mpr ⟨k_1340, fun _ h => h⟩⟩)) rfl rfl rfl (by decide +kernel) ⟨Nat.le_of_ble_eq_true rfl, Nat.le_of_ble_eq_true rfl⟩) ⟨fun a U g mk q => by obtain ⟨q0, q1, qP, qK, qD⟩ := q; exact ⟨q0, q1, qP, va_K.moved (u := U) (U := U.calling g mk a) (Vm.Alike.refl U.vm) qK, qD⟩, va_recv (q0 := 7) (ci := 12) hK hP rfl rfl, fun U hU hW => ⟨rfl, by rw [hU], by rw [hU]; exact hPc, va_K.moved hW.alike hK, hDc.weaken (fun _ _ _ _ => trivial)⟩⟩ rfl rfl hl.1 rfl (lv_room (Nat.le_of_ble_eq_true rfl)) d_Md_challenge_204 ⟨Nat.le_of_ble_eq_true rfl, Nat.le_of_ble_eq_true rfl⟩) hS (fun q _ h => hFc q h) hFc (fun u t H1 locs ht hvm hw hB hz1 hk1 hS => ?_)
    obtain ⟨g15_564, rfl⟩ : ∃ z, z = u := ⟨_, rfl⟩
    try dsimp only at hw hB
    obtain ⟨hP1, hK1, hD1⟩ := hB
    rw [ht] at hP1
    obtain ⟨hP, hD⟩ := va_join (wr := [(r 25, .inl ((cT 1), 7, .inr (.inl (vp_updL f25 (nI nt).toNatClampNeg (mk + 1))))), (r 26, .inl ((cT 0), 7, .inl (upd f26 nt x))), (r 27, .inl ((cT 0), 7, .inl (upd f27 nt y))), (r 28, .inl ((cT 0), 7, .inl (upd f28 nt z9))), (r 29, .inl ((cT 0), 7, .inl (upd f29 nt tm))), (r 30, .inl ((cT 0), 112, .inl g30_512)), (r 7, .inl ((cT 0), 1000, .inl f7))]) (w1 := [(mo, .inr (12, mdG r cd tm (nI sn) (nI tx) (nI lz) (nI (((((((((((((((20 + 1) + 1) + 1) + 1) + 1) + 1) + 1) + 1) + 1) + 1) + 1) + 1) + 1) + 1) + 1)) (nI na) (nI nt) (nI nr) mw ml (mk + 1) dw9)), (r 15, .inl ((cT 0), 200, .inl g15_564))]) hP hD [7, 8] [0, 1, 2, 3, 4, 5, 6] rfl rfl (by decide) (by decide) hk1 hFc hP1 hD1
    have hw565 := hw
    clear hPc hDc hFc hz1 hk1 hP1 hK1 hD1
    generalize H1 = H at hP hS ⊢
    have hP : va_P (dC, dI) vcl [(r 25, .inl ((cT 1), 7, .inr (.inl (vp_updL f25 (nI nt).toNatClampNeg (mk + 1))))), (r 26, .inl ((cT 0), 7, .inl (upd f26 nt x))), (r 27, .inl ((cT 0), 7, .inl (upd f27 nt y))), (r 28, .inl ((cT 0), 7, .inl (upd f28 nt z9))), (r 29, .inl ((cT 0), 7, .inl (upd f29 nt tm))), (r 30, .inl ((cT 0), 112, .inl g30_512)), (r 7, .inl ((cT 0), 1000, .inl f7)), (mo, .inr (12, mdG r cd tm (nI sn) (nI tx) (nI lz) (nI (((((((((((((((20 + 1) + 1) + 1) + 1) + 1) + 1) + 1) + 1) + 1) + 1) + 1) + 1) + 1) + 1) + 1)) (nI na) (nI nt) (nI nr) mw ml (mk + 1) dw9)), (r 15, .inl ((cT 0), 200, .inl g15_564))] H := hP
    have hD : va_D A [(r 25, .inl ((cT 1), 7, .inr (.inl (vp_updL f25 (nI nt).toNatClampNeg (mk + 1))))), (r 26, .inl ((cT 0), 7, .inl (upd f26 nt x))), (r 27, .inl ((cT 0), 7, .inl (upd f27 nt y))), (r 28, .inl ((cT 0), 7, .inl (upd f28 nt z9))), (r 29, .inl ((cT 0), 7, .inl (upd f29 nt tm))), (r 30, .inl ((cT 0), 112, .inl g30_512)), (r 7, .inl ((cT 0), 1000, .inl f7)), (mo, .inr (12, mdG r cd tm (nI sn) (nI tx) (nI lz) (nI (((((((((((((((20 + 1) + 1) + 1) + 1) + 1) + 1) + 1) + 1) + 1) + 1) + 1) + 1) + 1) + 1) + 1)) (nI na) (nI nt) (nI nr) mw ml (mk + 1) dw9)), (r 15, .inl ((cT 0), 200, .inl g15_564))] := hD
    refine lv_aload_n hx hb d_Md_challenge_207 rfl (lv_at hl 1 rfl) ?_
    refine lv_bipush (v := 22) hx hb d_Md_challenge_208 (by decide) ?_
    have hPc := hP.sub (ws' := [(mo, .inr (12, mdG r cd tm (nI sn) (nI tx) (nI lz) (nI (((((((((((((((20 + 1) + 1) + 1) + 1) + 1) + 1) + 1) + 1) + 1) + 1) + 1) + 1) + 1) + 1) + 1)) (nI na) (nI nt) (nI nr) mw ml (mk + 1) dw9)), (r 15, .inl ((cT 0), 200, .inl g15_564))]) [7, 8] rfl
    have hDc := hD.sub (ws' := [(mo, .inr (12, mdG r cd tm (nI sn) (nI tx) (nI lz) (nI (((((((((((((((20 + 1) + 1) + 1) + 1) + 1) + 1) + 1) + 1) + 1) + 1) + 1) + 1) + 1) + 1) + 1)) (nI na) (nI nt) (nI nr) mw ml (mk + 1) dw9)), (r 15, .inl ((cT 0), 200, .inl g15_564))]) [7, 8] (by decide) rfl
    have hFc := va_free (wc := [(mo, .inr (12, mdG r cd tm (nI sn) (nI tx) (nI lz) (nI (((((((((((((((20 + 1) + 1) + 1) + 1) + 1) + 1) + 1) + 1) + 1) + 1) + 1) + 1) + 1) + 1) + 1)) (nI na) (nI nt) (nI nr) mw ml (mk + 1) dw9)), (r 15, .inl ((cT 0), 200, .inl g15_564))]) hD hS hA [7, 8] rfl
    refine va_callv (va_runV (C := "DoorServerModel") (As := [.int 22]) (rest := []) ⟨hx, hb, hml, hown, hg⟩ (m_tell l dC dI cT H.size mo r cd tm sn tx lz (((((((((((((((20 + 1) + 1) + 1) + 1) + 1) + 1) + 1) + 1) + 1) + 1) + 1) + 1) + 1) + 1) + 1) na nt nr mw ml (mk + 1) dw9 g15_564 22 (by first | assumption | omega)) (cwV 1 hg (gI (List.forall_mem_append.mpr ⟨List.forall_mem_cons.mpr ⟨k_1337, List.forall_mem_cons.mpr ⟨k_1339, List.forall_mem_cons.mpr ⟨(big_sel (q := y_Md_tell) (n := 45) (by decide +kernel)), List.forall_mem_cons.mpr ⟨k_13, fun _ h => absurd h List.not_mem_nil⟩⟩⟩⟩, List.forall_mem_cons.mpr ⟨k_1340, fun _ h => h⟩⟩)) rfl rfl rfl (by decide +kernel) ⟨Nat.le_of_ble_eq_true rfl, Nat.le_of_ble_eq_true rfl⟩) ⟨fun a U g mk q => by obtain ⟨q0, q1, qP, qK, qD⟩ := q; exact ⟨q0, q1, qP, va_K.moved (u := U) (U := U.calling g mk a) (Vm.Alike.refl U.vm) qK, qD⟩, va_recv (q0 := 7) (ci := 12) hK hP rfl rfl, fun U hU hW => ⟨rfl, by rw [hU], by rw [hU]; exact hPc, va_K.moved hW.alike hK, hDc.weaken (fun _ _ _ _ => trivial)⟩⟩ rfl rfl hl.1 rfl (lv_room (Nat.le_of_ble_eq_true rfl)) d_Md_challenge_210 ⟨Nat.le_of_ble_eq_true rfl, Nat.le_of_ble_eq_true rfl⟩) hS (fun q _ h => hFc q h) hFc (fun u t H1 locs ht hvm hw hB hz1 hk1 hS => ?_)
    obtain ⟨g15_566, rfl⟩ : ∃ z, z = u := ⟨_, rfl⟩
    try dsimp only at hw hB
    obtain ⟨hP1, hK1, hD1⟩ := hB
    rw [ht] at hP1
    obtain ⟨hP, hD⟩ := va_join (wr := [(r 25, .inl ((cT 1), 7, .inr (.inl (vp_updL f25 (nI nt).toNatClampNeg (mk + 1))))), (r 26, .inl ((cT 0), 7, .inl (upd f26 nt x))), (r 27, .inl ((cT 0), 7, .inl (upd f27 nt y))), (r 28, .inl ((cT 0), 7, .inl (upd f28 nt z9))), (r 29, .inl ((cT 0), 7, .inl (upd f29 nt tm))), (r 30, .inl ((cT 0), 112, .inl g30_512)), (r 7, .inl ((cT 0), 1000, .inl f7))]) (w1 := [(mo, .inr (12, mdG r cd tm (nI sn) (nI tx) (nI lz) (nI ((((((((((((((((20 + 1) + 1) + 1) + 1) + 1) + 1) + 1) + 1) + 1) + 1) + 1) + 1) + 1) + 1) + 1) + 1)) (nI na) (nI nt) (nI nr) mw ml (mk + 1) dw9)), (r 15, .inl ((cT 0), 200, .inl g15_566))]) hP hD [7, 8] [0, 1, 2, 3, 4, 5, 6] rfl rfl (by decide) (by decide) hk1 hFc hP1 hD1
    have hw567 := hw
    clear hPc hDc hFc hz1 hk1 hP1 hK1 hD1
    generalize H1 = H at hP hS ⊢
    have hP : va_P (dC, dI) vcl [(r 25, .inl ((cT 1), 7, .inr (.inl (vp_updL f25 (nI nt).toNatClampNeg (mk + 1))))), (r 26, .inl ((cT 0), 7, .inl (upd f26 nt x))), (r 27, .inl ((cT 0), 7, .inl (upd f27 nt y))), (r 28, .inl ((cT 0), 7, .inl (upd f28 nt z9))), (r 29, .inl ((cT 0), 7, .inl (upd f29 nt tm))), (r 30, .inl ((cT 0), 112, .inl g30_512)), (r 7, .inl ((cT 0), 1000, .inl f7)), (mo, .inr (12, mdG r cd tm (nI sn) (nI tx) (nI lz) (nI ((((((((((((((((20 + 1) + 1) + 1) + 1) + 1) + 1) + 1) + 1) + 1) + 1) + 1) + 1) + 1) + 1) + 1) + 1)) (nI na) (nI nt) (nI nr) mw ml (mk + 1) dw9)), (r 15, .inl ((cT 0), 200, .inl g15_566))] H := hP
    have hD : va_D A [(r 25, .inl ((cT 1), 7, .inr (.inl (vp_updL f25 (nI nt).toNatClampNeg (mk + 1))))), (r 26, .inl ((cT 0), 7, .inl (upd f26 nt x))), (r 27, .inl ((cT 0), 7, .inl (upd f27 nt y))), (r 28, .inl ((cT 0), 7, .inl (upd f28 nt z9))), (r 29, .inl ((cT 0), 7, .inl (upd f29 nt tm))), (r 30, .inl ((cT 0), 112, .inl g30_512)), (r 7, .inl ((cT 0), 1000, .inl f7)), (mo, .inr (12, mdG r cd tm (nI sn) (nI tx) (nI lz) (nI ((((((((((((((((20 + 1) + 1) + 1) + 1) + 1) + 1) + 1) + 1) + 1) + 1) + 1) + 1) + 1) + 1) + 1) + 1)) (nI na) (nI nt) (nI nr) mw ml (mk + 1) dw9)), (r 15, .inl ((cT 0), 200, .inl g15_566))] := hD
    refine lv_aload_n hx hb d_Md_challenge_213 rfl (lv_at hl 1 rfl) ?_
    refine lv_iconst (v := 4) hx hb d_Md_challenge_214 (by decide) ?_
    have hPc := hP.sub (ws' := [(mo, .inr (12, mdG r cd tm (nI sn) (nI tx) (nI lz) (nI ((((((((((((((((20 + 1) + 1) + 1) + 1) + 1) + 1) + 1) + 1) + 1) + 1) + 1) + 1) + 1) + 1) + 1) + 1)) (nI na) (nI nt) (nI nr) mw ml (mk + 1) dw9)), (r 15, .inl ((cT 0), 200, .inl g15_566))]) [7, 8] rfl
    have hDc := hD.sub (ws' := [(mo, .inr (12, mdG r cd tm (nI sn) (nI tx) (nI lz) (nI ((((((((((((((((20 + 1) + 1) + 1) + 1) + 1) + 1) + 1) + 1) + 1) + 1) + 1) + 1) + 1) + 1) + 1) + 1)) (nI na) (nI nt) (nI nr) mw ml (mk + 1) dw9)), (r 15, .inl ((cT 0), 200, .inl g15_566))]) [7, 8] (by decide) rfl
    have hFc := va_free (wc := [(mo, .inr (12, mdG r cd tm (nI sn) (nI tx) (nI lz) (nI ((((((((((((((((20 + 1) + 1) + 1) + 1) + 1) + 1) + 1) + 1) + 1) + 1) + 1) + 1) + 1) + 1) + 1) + 1)) (nI na) (nI nt) (nI nr) mw ml (mk + 1) dw9)), (r 15, .inl ((cT 0), 200, .inl g15_566))]) hD hS hA [7, 8] rfl
    refine va_callv (va_runV (C := "DoorServerModel") (As := [.int 4]) (rest := []) ⟨hx, hb, hml, hown, hg⟩ (m_tell l dC dI cT H.size mo r cd tm sn tx lz ((((((((((((((((20 + 1) + 1) + 1) + 1) + 1) + 1) + 1) + 1) + 1) + 1) + 1) + 1) + 1) + 1) + 1) + 1) na nt nr mw ml (mk + 1) dw9 g15_566 4 (by first | assumption | omega)) (cwV 1 hg (gI (List.forall_mem_append.mpr ⟨List.forall_mem_cons.mpr ⟨k_1337, List.forall_mem_cons.mpr ⟨k_1339, List.forall_mem_cons.mpr ⟨(big_sel (q := y_Md_tell) (n := 45) (by decide +kernel)), List.forall_mem_cons.mpr ⟨k_13, fun _ h => absurd h List.not_mem_nil⟩⟩⟩⟩, List.forall_mem_cons.mpr ⟨k_1340, fun _ h => h⟩⟩)) rfl rfl rfl (by decide +kernel) ⟨Nat.le_of_ble_eq_true rfl, Nat.le_of_ble_eq_true rfl⟩) ⟨fun a U g mk q => by obtain ⟨q0, q1, qP, qK, qD⟩ := q; exact ⟨q0, q1, qP, va_K.moved (u := U) (U := U.calling g mk a) (Vm.Alike.refl U.vm) qK, qD⟩, va_recv (q0 := 7) (ci := 12) hK hP rfl rfl, fun U hU hW => ⟨rfl, by rw [hU], by rw [hU]; exact hPc, va_K.moved hW.alike hK, hDc.weaken (fun _ _ _ _ => trivial)⟩⟩ rfl rfl hl.1 rfl (lv_room (Nat.le_of_ble_eq_true rfl)) d_Md_challenge_215 ⟨Nat.le_of_ble_eq_true rfl, Nat.le_of_ble_eq_true rfl⟩) hS (fun q _ h => hFc q h) hFc (fun u t H1 locs ht hvm hw hB hz1 hk1 hS => ?_)
    obtain ⟨g15_568, rfl⟩ : ∃ z, z = u := ⟨_, rfl⟩
    try dsimp only at hw hB
    obtain ⟨hP1, hK1, hD1⟩ := hB
    rw [ht] at hP1
    obtain ⟨hP, hD⟩ := va_join (wr := [(r 25, .inl ((cT 1), 7, .inr (.inl (vp_updL f25 (nI nt).toNatClampNeg (mk + 1))))), (r 26, .inl ((cT 0), 7, .inl (upd f26 nt x))), (r 27, .inl ((cT 0), 7, .inl (upd f27 nt y))), (r 28, .inl ((cT 0), 7, .inl (upd f28 nt z9))), (r 29, .inl ((cT 0), 7, .inl (upd f29 nt tm))), (r 30, .inl ((cT 0), 112, .inl g30_512)), (r 7, .inl ((cT 0), 1000, .inl f7))]) (w1 := [(mo, .inr (12, mdG r cd tm (nI sn) (nI tx) (nI lz) (nI (((((((((((((((((20 + 1) + 1) + 1) + 1) + 1) + 1) + 1) + 1) + 1) + 1) + 1) + 1) + 1) + 1) + 1) + 1) + 1)) (nI na) (nI nt) (nI nr) mw ml (mk + 1) dw9)), (r 15, .inl ((cT 0), 200, .inl g15_568))]) hP hD [7, 8] [0, 1, 2, 3, 4, 5, 6] rfl rfl (by decide) (by decide) hk1 hFc hP1 hD1
    have hw569 := hw
    clear hPc hDc hFc hz1 hk1 hP1 hK1 hD1
    generalize H1 = H at hP hS ⊢
    have hP : va_P (dC, dI) vcl [(r 25, .inl ((cT 1), 7, .inr (.inl (vp_updL f25 (nI nt).toNatClampNeg (mk + 1))))), (r 26, .inl ((cT 0), 7, .inl (upd f26 nt x))), (r 27, .inl ((cT 0), 7, .inl (upd f27 nt y))), (r 28, .inl ((cT 0), 7, .inl (upd f28 nt z9))), (r 29, .inl ((cT 0), 7, .inl (upd f29 nt tm))), (r 30, .inl ((cT 0), 112, .inl g30_512)), (r 7, .inl ((cT 0), 1000, .inl f7)), (mo, .inr (12, mdG r cd tm (nI sn) (nI tx) (nI lz) (nI (((((((((((((((((20 + 1) + 1) + 1) + 1) + 1) + 1) + 1) + 1) + 1) + 1) + 1) + 1) + 1) + 1) + 1) + 1) + 1)) (nI na) (nI nt) (nI nr) mw ml (mk + 1) dw9)), (r 15, .inl ((cT 0), 200, .inl g15_568))] H := hP
    have hD : va_D A [(r 25, .inl ((cT 1), 7, .inr (.inl (vp_updL f25 (nI nt).toNatClampNeg (mk + 1))))), (r 26, .inl ((cT 0), 7, .inl (upd f26 nt x))), (r 27, .inl ((cT 0), 7, .inl (upd f27 nt y))), (r 28, .inl ((cT 0), 7, .inl (upd f28 nt z9))), (r 29, .inl ((cT 0), 7, .inl (upd f29 nt tm))), (r 30, .inl ((cT 0), 112, .inl g30_512)), (r 7, .inl ((cT 0), 1000, .inl f7)), (mo, .inr (12, mdG r cd tm (nI sn) (nI tx) (nI lz) (nI (((((((((((((((((20 + 1) + 1) + 1) + 1) + 1) + 1) + 1) + 1) + 1) + 1) + 1) + 1) + 1) + 1) + 1) + 1) + 1)) (nI na) (nI nt) (nI nr) mw ml (mk + 1) dw9)), (r 15, .inl ((cT 0), 200, .inl g15_568))] := hD
    refine lv_aload_n hx hb d_Md_challenge_218 rfl (lv_at hl 1 rfl) ?_
    refine lv_bipush (v := 16) hx hb d_Md_challenge_219 (by decide) ?_
    have hPc := hP.sub (ws' := [(mo, .inr (12, mdG r cd tm (nI sn) (nI tx) (nI lz) (nI (((((((((((((((((20 + 1) + 1) + 1) + 1) + 1) + 1) + 1) + 1) + 1) + 1) + 1) + 1) + 1) + 1) + 1) + 1) + 1)) (nI na) (nI nt) (nI nr) mw ml (mk + 1) dw9)), (r 15, .inl ((cT 0), 200, .inl g15_568))]) [7, 8] rfl
    have hDc := hD.sub (ws' := [(mo, .inr (12, mdG r cd tm (nI sn) (nI tx) (nI lz) (nI (((((((((((((((((20 + 1) + 1) + 1) + 1) + 1) + 1) + 1) + 1) + 1) + 1) + 1) + 1) + 1) + 1) + 1) + 1) + 1)) (nI na) (nI nt) (nI nr) mw ml (mk + 1) dw9)), (r 15, .inl ((cT 0), 200, .inl g15_568))]) [7, 8] (by decide) rfl
    have hFc := va_free (wc := [(mo, .inr (12, mdG r cd tm (nI sn) (nI tx) (nI lz) (nI (((((((((((((((((20 + 1) + 1) + 1) + 1) + 1) + 1) + 1) + 1) + 1) + 1) + 1) + 1) + 1) + 1) + 1) + 1) + 1)) (nI na) (nI nt) (nI nr) mw ml (mk + 1) dw9)), (r 15, .inl ((cT 0), 200, .inl g15_568))]) hD hS hA [7, 8] rfl
    refine va_callv (va_runV (C := "DoorServerModel") (As := [.int 16]) (rest := []) ⟨hx, hb, hml, hown, hg⟩ (m_tell l dC dI cT H.size mo r cd tm sn tx lz (((((((((((((((((20 + 1) + 1) + 1) + 1) + 1) + 1) + 1) + 1) + 1) + 1) + 1) + 1) + 1) + 1) + 1) + 1) + 1) na nt nr mw ml (mk + 1) dw9 g15_568 16 (by first | assumption | omega)) (cwV 1 hg (gI (List.forall_mem_append.mpr ⟨List.forall_mem_cons.mpr ⟨k_1337, List.forall_mem_cons.mpr ⟨k_1339, List.forall_mem_cons.mpr ⟨(big_sel (q := y_Md_tell) (n := 45) (by decide +kernel)), List.forall_mem_cons.mpr ⟨k_13, fun _ h => absurd h List.not_mem_nil⟩⟩⟩⟩, List.forall_mem_cons.mpr ⟨k_1340, fun _ h => h⟩⟩)) rfl rfl rfl (by decide +kernel) ⟨Nat.le_of_ble_eq_true rfl, Nat.le_of_ble_eq_true rfl⟩) ⟨fun a U g mk q => by obtain ⟨q0, q1, qP, qK, qD⟩ := q; exact ⟨q0, q1, qP, va_K.moved (u := U) (U := U.calling g mk a) (Vm.Alike.refl U.vm) qK, qD⟩, va_recv (q0 := 7) (ci := 12) hK hP rfl rfl, fun U hU hW => ⟨rfl, by rw [hU], by rw [hU]; exact hPc, va_K.moved hW.alike hK, hDc.weaken (fun _ _ _ _ => trivial)⟩⟩ rfl rfl hl.1 rfl (lv_room (Nat.le_of_ble_eq_true rfl)) d_Md_challenge_221 ⟨Nat.le_of_ble_eq_true rfl, Nat.le_of_ble_eq_true rfl⟩) hS (fun q _ h => hFc q h) hFc (fun u t H1 locs ht hvm hw hB hz1 hk1 hS => ?_)
    obtain ⟨g15_570, rfl⟩ : ∃ z, z = u := ⟨_, rfl⟩
    try dsimp only at hw hB
    obtain ⟨hP1, hK1, hD1⟩ := hB
    rw [ht] at hP1
    obtain ⟨hP, hD⟩ := va_join (wr := [(r 25, .inl ((cT 1), 7, .inr (.inl (vp_updL f25 (nI nt).toNatClampNeg (mk + 1))))), (r 26, .inl ((cT 0), 7, .inl (upd f26 nt x))), (r 27, .inl ((cT 0), 7, .inl (upd f27 nt y))), (r 28, .inl ((cT 0), 7, .inl (upd f28 nt z9))), (r 29, .inl ((cT 0), 7, .inl (upd f29 nt tm))), (r 30, .inl ((cT 0), 112, .inl g30_512)), (r 7, .inl ((cT 0), 1000, .inl f7))]) (w1 := [(mo, .inr (12, mdG r cd tm (nI sn) (nI tx) (nI lz) (nI ((((((((((((((((((20 + 1) + 1) + 1) + 1) + 1) + 1) + 1) + 1) + 1) + 1) + 1) + 1) + 1) + 1) + 1) + 1) + 1) + 1)) (nI na) (nI nt) (nI nr) mw ml (mk + 1) dw9)), (r 15, .inl ((cT 0), 200, .inl g15_570))]) hP hD [7, 8] [0, 1, 2, 3, 4, 5, 6] rfl rfl (by decide) (by decide) hk1 hFc hP1 hD1
    have hw571 := hw
    clear hPc hDc hFc hz1 hk1 hP1 hK1 hD1
    generalize H1 = H at hP hS ⊢
    have hP : va_P (dC, dI) vcl [(r 25, .inl ((cT 1), 7, .inr (.inl (vp_updL f25 (nI nt).toNatClampNeg (mk + 1))))), (r 26, .inl ((cT 0), 7, .inl (upd f26 nt x))), (r 27, .inl ((cT 0), 7, .inl (upd f27 nt y))), (r 28, .inl ((cT 0), 7, .inl (upd f28 nt z9))), (r 29, .inl ((cT 0), 7, .inl (upd f29 nt tm))), (r 30, .inl ((cT 0), 112, .inl g30_512)), (r 7, .inl ((cT 0), 1000, .inl f7)), (mo, .inr (12, mdG r cd tm (nI sn) (nI tx) (nI lz) (nI ((((((((((((((((((20 + 1) + 1) + 1) + 1) + 1) + 1) + 1) + 1) + 1) + 1) + 1) + 1) + 1) + 1) + 1) + 1) + 1) + 1)) (nI na) (nI nt) (nI nr) mw ml (mk + 1) dw9)), (r 15, .inl ((cT 0), 200, .inl g15_570))] H := hP
    have hD : va_D A [(r 25, .inl ((cT 1), 7, .inr (.inl (vp_updL f25 (nI nt).toNatClampNeg (mk + 1))))), (r 26, .inl ((cT 0), 7, .inl (upd f26 nt x))), (r 27, .inl ((cT 0), 7, .inl (upd f27 nt y))), (r 28, .inl ((cT 0), 7, .inl (upd f28 nt z9))), (r 29, .inl ((cT 0), 7, .inl (upd f29 nt tm))), (r 30, .inl ((cT 0), 112, .inl g30_512)), (r 7, .inl ((cT 0), 1000, .inl f7)), (mo, .inr (12, mdG r cd tm (nI sn) (nI tx) (nI lz) (nI ((((((((((((((((((20 + 1) + 1) + 1) + 1) + 1) + 1) + 1) + 1) + 1) + 1) + 1) + 1) + 1) + 1) + 1) + 1) + 1) + 1)) (nI na) (nI nt) (nI nr) mw ml (mk + 1) dw9)), (r 15, .inl ((cT 0), 200, .inl g15_570))] := hD
    refine lv_iconst (v := 0) hx hb d_Md_challenge_224 (by decide) ?_
    refine lv_istore (lv' := [(4, .int 0), (0, .ref mo), (1, .int x), (2, .int y), (3, .int z9)]) hx hb d_Md_challenge_225 hl (by decide) rfl (fun ls hl => ?_)
    have hl := lv_sub hl [0, 1, 2, 3, 4] (show _ = [(4, .int 0), (0, .ref mo), (1, .int x), (2, .int y), (3, .int z9)] from rfl)
    have L573 : ∀ (Q : State → Prop) (exit : ∀ (g15_572 : Nat → Int32) (H : Heap) (locs : List Loc) (ls : Array Slot), va_P (dC, dI) vcl [(r 25, .inl ((cT 1), 7, .inr (.inl (vp_updL f25 (nI nt).toNatClampNeg (mk + 1))))), (r 26, .inl ((cT 0), 7, .inl (upd f26 nt x))), (r 27, .inl ((cT 0), 7, .inl (upd f27 nt y))), (r 28, .inl ((cT 0), 7, .inl (upd f28 nt z9))), (r 29, .inl ((cT 0), 7, .inl (upd f29 nt tm))), (r 30, .inl ((cT 0), 112, .inl g30_512)), (r 7, .inl ((cT 0), 1000, .inl f7)), (mo, .inr (12, mdG r cd tm (nI sn) (nI tx) (nI lz) (nI ((((((((((((((((((20 + 1) + 1) + 1) + 1) + 1) + 1) + 1) + 1) + 1) + 1) + 1) + 1) + 1) + 1) + 1) + 1) + 1) + 1 + 16)) (nI na) (nI nt) (nI nr) mw ml (mk + 1) dw9)), (r 15, .inl ((cT 0), 200, .inl g15_572))] H → va_D A [(r 25, .inl ((cT 1), 7, .inr (.inl (vp_updL f25 (nI nt).toNatClampNeg (mk + 1))))), (r 26, .inl ((cT 0), 7, .inl (upd f26 nt x))), (r 27, .inl ((cT 0), 7, .inl (upd f27 nt y))), (r 28, .inl ((cT 0), 7, .inl (upd f28 nt z9))), (r 29, .inl ((cT 0), 7, .inl (upd f29 nt tm))), (r 30, .inl ((cT 0), 112, .inl g30_512)), (r 7, .inl ((cT 0), 1000, .inl f7)), (mo, .inr (12, mdG r cd tm (nI sn) (nI tx) (nI lz) (nI ((((((((((((((((((20 + 1) + 1) + 1) + 1) + 1) + 1) + 1) + 1) + 1) + 1) + 1) + 1) + 1) + 1) + 1) + 1) + 1) + 1 + 16)) (nI na) (nI nt) (nI nr) mw ml (mk + 1) dw9)), (r 15, .inl ((cT 0), 200, .inl g15_572))] → va_S A s.heap H locs → lv_has ls 5 [(4, .int (nI 16)), (0, .ref mo), (1, .int x), (2, .int y), (3, .int z9)] → W p l e ({ frames := 2, cells := 0, slots := 0, locals := 45 } : Room) s m args below meth c H locs 0 0 Q (F0 m 259 ls [])) (j8 i : Nat) (g15_572 : Nat → Int32) (H : Heap) (locs : List Loc) (ls : Array Slot), i + j8 = 16 → va_P (dC, dI) vcl [(r 25, .inl ((cT 1), 7, .inr (.inl (vp_updL f25 (nI nt).toNatClampNeg (mk + 1))))), (r 26, .inl ((cT 0), 7, .inl (upd f26 nt x))), (r 27, .inl ((cT 0), 7, .inl (upd f27 nt y))), (r 28, .inl ((cT 0), 7, .inl (upd f28 nt z9))), (r 29, .inl ((cT 0), 7, .inl (upd f29 nt tm))), (r 30, .inl ((cT 0), 112, .inl g30_512)), (r 7, .inl ((cT 0), 1000, .inl f7)), (mo, .inr (12, mdG r cd tm (nI sn) (nI tx) (nI lz) (nI ((((((((((((((((((20 + 1) + 1) + 1) + 1) + 1) + 1) + 1) + 1) + 1) + 1) + 1) + 1) + 1) + 1) + 1) + 1) + 1) + 1 + i)) (nI na) (nI nt) (nI nr) mw ml (mk + 1) dw9)), (r 15, .inl ((cT 0), 200, .inl g15_572))] H → va_D A [(r 25, .inl ((cT 1), 7, .inr (.inl (vp_updL f25 (nI nt).toNatClampNeg (mk + 1))))), (r 26, .inl ((cT 0), 7, .inl (upd f26 nt x))), (r 27, .inl ((cT 0), 7, .inl (upd f27 nt y))), (r 28, .inl ((cT 0), 7, .inl (upd f28 nt z9))), (r 29, .inl ((cT 0), 7, .inl (upd f29 nt tm))), (r 30, .inl ((cT 0), 112, .inl g30_512)), (r 7, .inl ((cT 0), 1000, .inl f7)), (mo, .inr (12, mdG r cd tm (nI sn) (nI tx) (nI lz) (nI ((((((((((((((((((20 + 1) + 1) + 1) + 1) + 1) + 1) + 1) + 1) + 1) + 1) + 1) + 1) + 1) + 1) + 1) + 1) + 1) + 1 + i)) (nI na) (nI nt) (nI nr) mw ml (mk + 1) dw9)), (r 15, .inl ((cT 0), 200, .inl g15_572))] → va_S A s.heap H locs → lv_has ls 5 [(4, .int (nI i)), (0, .ref mo), (1, .int x), (2, .int y), (3, .int z9)] → W p l e ({ frames := 2, cells := 0, slots := 0, locals := 45 } : Room) s m args below meth c H locs 0 0 Q (F0 m 227 ls []) := by
      intro Q exit j8
      induction j8 with
      | zero => 
        intro i g15_572 H locs ls hij  hP hD hS hl
        have hij : 16 = i := by omega
        refine lv_iload hx hb d_Md_challenge_227 (lv_at hl 0 rfl) ?_
        refine lv_bipush (v := 16) hx hb d_Md_challenge_229 (by decide) ?_
        refine lv_topi (fun x575 e574 => ?_)
        obtain rfl : x575 = nI 16 := by rw [e574]; rfl
        refine lv_icmp_ge (tgt := 259) hx hb d_Md_challenge_231 (by decide) (fun hc576 => ?_) (fun hn9 => absurd (nI_le (by omega) (by omega)) hn9)
        subst hij
        exact exit g15_572 _ _ _  hP hD hS hl
      | succ j8 ih => 
        intro i g15_572 H locs ls hij  hP hD hS hl
        have hlt : i < 16 := by omega
        have hlti := hlt
        refine lv_iload hx hb d_Md_challenge_227 (lv_at hl 0 rfl) ?_
        refine lv_bipush (v := 16) hx hb d_Md_challenge_229 (by decide) ?_
        refine lv_topi (fun x578 e577 => ?_)
        obtain rfl : x578 = nI 16 := by rw [e577]; rfl
        refine lv_icmp_ge (tgt := 259) hx hb d_Md_challenge_231 (by decide) (fun hn9 => absurd hn9 (nI_ge (by omega) (by omega))) (fun hc579 => ?_)
        refine lv_aload_n hx hb d_Md_challenge_234 rfl (lv_at hl 1 rfl) ?_
        refine lv_aload_n hx hb d_Md_challenge_235 rfl (lv_at hl 1 rfl) ?_
        refine va_get (D := (dC, dI)) (ci := 12) (v := (.ref (r 30))) (C := R_Md) (T := F_Md) (N := 45) hx hb hg in_Md hown hK hP 7 rfl rfl 30 (by decide) (hg _ k_1050) (fun _ h9 => h9) rfl d_Md_challenge_236 ?_
        refine lv_bipush (v := 16) hx hb d_Md_challenge_239 (by decide) ?_
        refine lv_aload_n hx hb d_Md_challenge_241 rfl (lv_at hl 1 rfl) ?_
        refine va_get (D := (dC, dI)) (ci := 12) (v := (.int (nI nt))) (C := R_Md) (T := F_Md) (N := 45) hx hb hg in_Md hown hK hP 7 rfl rfl 24 (by decide) (hg _ k_1044) (fun _ h9 => h9) rfl d_Md_challenge_242 ?_
        refine lv_imul hx hb d_Md_challenge_245 ?_
        refine lv_topi (fun x581 e580 => ?_)
        obtain rfl : x581 = nI (16 * nt) := by rw [e580]; exact pk_mul 16 nt
        refine lv_iload hx hb d_Md_challenge_246 (lv_at hl 0 rfl) ?_
        refine lv_iadd hx hb d_Md_challenge_248 ?_
        refine lv_topi (fun x583 e582 => ?_)
        obtain rfl : x583 = nI ((16 * nt) + i) := by rw [e582]; exact nI_add (16 * nt) i
        refine va_iald hx hb hK hP 5 0 rfl rfl (i := (nI ((16 * nt) + i))) (vp_in_nI (N := 112) (by omega) (by decide)) d_Md_challenge_249 ?_
        refine lv_topi (fun x584 e_x584 => ?_)
        clear e_x584
        have hPc := hP.sub (ws' := [(mo, .inr (12, mdG r cd tm (nI sn) (nI tx) (nI lz) (nI ((((((((((((((((((20 + 1) + 1) + 1) + 1) + 1) + 1) + 1) + 1) + 1) + 1) + 1) + 1) + 1) + 1) + 1) + 1) + 1) + 1 + i)) (nI na) (nI nt) (nI nr) mw ml (mk + 1) dw9)), (r 15, .inl ((cT 0), 200, .inl g15_572))]) [7, 8] rfl
        have hDc := hD.sub (ws' := [(mo, .inr (12, mdG r cd tm (nI sn) (nI tx) (nI lz) (nI ((((((((((((((((((20 + 1) + 1) + 1) + 1) + 1) + 1) + 1) + 1) + 1) + 1) + 1) + 1) + 1) + 1) + 1) + 1) + 1) + 1 + i)) (nI na) (nI nt) (nI nr) mw ml (mk + 1) dw9)), (r 15, .inl ((cT 0), 200, .inl g15_572))]) [7, 8] (by decide) rfl
        have hFc := va_free (wc := [(mo, .inr (12, mdG r cd tm (nI sn) (nI tx) (nI lz) (nI ((((((((((((((((((20 + 1) + 1) + 1) + 1) + 1) + 1) + 1) + 1) + 1) + 1) + 1) + 1) + 1) + 1) + 1) + 1) + 1) + 1 + i)) (nI na) (nI nt) (nI nr) mw ml (mk + 1) dw9)), (r 15, .inl ((cT 0), 200, .inl g15_572))]) hD hS hA [7, 8] rfl
        refine va_callv (va_runV (C := "DoorServerModel") (As := [.int x584]) (rest := []) ⟨hx, hb, hml, hown, hg⟩ (m_tell l dC dI cT H.size mo r cd tm sn tx lz ((((((((((((((((((20 + 1) + 1) + 1) + 1) + 1) + 1) + 1) + 1) + 1) + 1) + 1) + 1) + 1) + 1) + 1) + 1) + 1) + 1 + i) na nt nr mw ml (mk + 1) dw9 g15_572 x584 (by first | assumption | omega)) (cwV 1 hg (gI (List.forall_mem_append.mpr ⟨List.forall_mem_cons.mpr ⟨k_1337, List.forall_mem_cons.mpr ⟨k_1339, List.forall_mem_cons.mpr ⟨(big_sel (q := y_Md_tell) (n := 45) (by decide +kernel)), List.forall_mem_cons.mpr ⟨k_13, fun _ h => absurd h List.not_mem_nil⟩⟩⟩⟩, List.forall_mem_cons.mpr ⟨k_1340, fun _ h => h⟩⟩)) rfl rfl rfl (by decide +kernel) ⟨Nat.le_of_ble_eq_true rfl, Nat.le_of_ble_eq_true rfl⟩) ⟨fun a U g mk q => by obtain ⟨q0, q1, qP, qK, qD⟩ := q; exact ⟨q0, q1, qP, va_K.moved (u := U) (U := U.calling g mk a) (Vm.Alike.refl U.vm) qK, qD⟩, va_recv (q0 := 7) (ci := 12) hK hP rfl rfl, fun U hU hW => ⟨rfl, by rw [hU], by rw [hU]; exact hPc, va_K.moved hW.alike hK, hDc.weaken (fun _ _ _ _ => trivial)⟩⟩ rfl rfl hl.1 rfl (lv_room (Nat.le_of_ble_eq_true rfl)) d_Md_challenge_250 ⟨Nat.le_of_ble_eq_true rfl, Nat.le_of_ble_eq_true rfl⟩) hS (fun q _ h => hFc q h) hFc (fun u t H1 locs ht hvm hw hB hz1 hk1 hS => ?_)
        obtain ⟨g15_585, rfl⟩ : ∃ z, z = u := ⟨_, rfl⟩
        try dsimp only at hw hB
        obtain ⟨hP1, hK1, hD1⟩ := hB
        rw [ht] at hP1
        obtain ⟨hP, hD⟩ := va_join (wr := [(r 25, .inl ((cT 1), 7, .inr (.inl (vp_updL f25 (nI nt).toNatClampNeg (mk + 1))))), (r 26, .inl ((cT 0), 7, .inl (upd f26 nt x))), (r 27, .inl ((cT 0), 7, .inl (upd f27 nt y))), (r 28, .inl ((cT 0), 7, .inl (upd f28 nt z9))), (r 29, .inl ((cT 0), 7, .inl (upd f29 nt tm))), (r 30, .inl ((cT 0), 112, .inl g30_512)), (r 7, .inl ((cT 0), 1000, .inl f7))]) (w1 := [(mo, .inr (12, mdG r cd tm (nI sn) (nI tx) (nI lz) (nI (((((((((((((((((((20 + 1) + 1) + 1) + 1) + 1) + 1) + 1) + 1) + 1) + 1) + 1) + 1) + 1) + 1) + 1) + 1) + 1) + 1 + i) + 1)) (nI na) (nI nt) (nI nr) mw ml (mk + 1) dw9)), (r 15, .inl ((cT 0), 200, .inl g15_585))]) hP hD [7, 8] [0, 1, 2, 3, 4, 5, 6] rfl rfl (by decide) (by decide) hk1 hFc hP1 hD1
        have hw586 := hw
        clear hPc hDc hFc hz1 hk1 hP1 hK1 hD1
        generalize H1 = H at hP hS ⊢
        have hP : va_P (dC, dI) vcl [(r 25, .inl ((cT 1), 7, .inr (.inl (vp_updL f25 (nI nt).toNatClampNeg (mk + 1))))), (r 26, .inl ((cT 0), 7, .inl (upd f26 nt x))), (r 27, .inl ((cT 0), 7, .inl (upd f27 nt y))), (r 28, .inl ((cT 0), 7, .inl (upd f28 nt z9))), (r 29, .inl ((cT 0), 7, .inl (upd f29 nt tm))), (r 30, .inl ((cT 0), 112, .inl g30_512)), (r 7, .inl ((cT 0), 1000, .inl f7)), (mo, .inr (12, mdG r cd tm (nI sn) (nI tx) (nI lz) (nI (((((((((((((((((((20 + 1) + 1) + 1) + 1) + 1) + 1) + 1) + 1) + 1) + 1) + 1) + 1) + 1) + 1) + 1) + 1) + 1) + 1 + i) + 1)) (nI na) (nI nt) (nI nr) mw ml (mk + 1) dw9)), (r 15, .inl ((cT 0), 200, .inl g15_585))] H := hP
        have hD : va_D A [(r 25, .inl ((cT 1), 7, .inr (.inl (vp_updL f25 (nI nt).toNatClampNeg (mk + 1))))), (r 26, .inl ((cT 0), 7, .inl (upd f26 nt x))), (r 27, .inl ((cT 0), 7, .inl (upd f27 nt y))), (r 28, .inl ((cT 0), 7, .inl (upd f28 nt z9))), (r 29, .inl ((cT 0), 7, .inl (upd f29 nt tm))), (r 30, .inl ((cT 0), 112, .inl g30_512)), (r 7, .inl ((cT 0), 1000, .inl f7)), (mo, .inr (12, mdG r cd tm (nI sn) (nI tx) (nI lz) (nI (((((((((((((((((((20 + 1) + 1) + 1) + 1) + 1) + 1) + 1) + 1) + 1) + 1) + 1) + 1) + 1) + 1) + 1) + 1) + 1) + 1 + i) + 1)) (nI na) (nI nt) (nI nr) mw ml (mk + 1) dw9)), (r 15, .inl ((cT 0), 200, .inl g15_585))] := hD
        refine lv_iinc (k := 0) (v := nI (i + 1)) (lv' := [(4, .int (nI (i + 1))), (0, .ref mo), (1, .int x), (2, .int y), (3, .int z9)]) hx hb d_Md_challenge_253 hl rfl (nI_1 i) (by decide) rfl (fun ls hl => ?_)
        refine lv_goto (tgt := 227) hx hb d_Md_challenge_256 (by decide) ?_
        have hl := lv_sub hl [0, 1, 2, 3, 4] (show _ = [(4, .int (nI (i + 1))), (0, .ref mo), (1, .int x), (2, .int y), (3, .int z9)] from rfl)
        exact ih (i + 1) _ _ _ _ (by omega)  hP hD hS hl
    refine L573 _ (fun g15_572 H locs ls  hP hD hS hl => ?_) (16 - 0) 0 g15_570 H _ ls (by omega)  hP hD hS hl
    refine lv_aload_n hx hb d_Md_challenge_259 rfl (lv_at hl 1 rfl) ?_
    refine lv_dup hx hb d_Md_challenge_260 rfl ?_
    refine va_get (D := (dC, dI)) (ci := 12) (v := (.int (nI nt))) (C := R_Md) (T := F_Md) (N := 45) hx hb hg in_Md hown hK hP 7 rfl rfl 24 (by decide) (hg _ k_1044) (fun _ h9 => h9) rfl d_Md_challenge_261 ?_
    refine lv_iconst (v := 1) hx hb d_Md_challenge_264 (by decide) ?_
    refine lv_iadd hx hb d_Md_challenge_265 ?_
    refine lv_topi (fun x588 e587 => ?_)
    obtain rfl : x588 = nI (nt + 1) := by rw [e587]; exact nI_add nt 1
    refine va_put (D := (dC, dI)) (ci := 12) (v := (.int (nI (nt + 1)))) (ty := .int) (C := R_Md) (T := F_Md) (N := 45) hx hb hg in_Md t_Md tok_Md nm_Md hown hK hP hD hS 7 rfl rfl 24 (by decide) (hg _ k_1044) (fun _ h9 => h9) rfl (by decide +kernel) rfl rfl (Nat.le_of_ble_eq_true rfl) d_Md_challenge_266 (fun H locs hP hD hS => ?_)
    have hP : va_P (dC, dI) vcl [(r 25, .inl ((cT 1), 7, .inr (.inl (vp_updL f25 (nI nt).toNatClampNeg (mk + 1))))), (r 26, .inl ((cT 0), 7, .inl (upd f26 nt x))), (r 27, .inl ((cT 0), 7, .inl (upd f27 nt y))), (r 28, .inl ((cT 0), 7, .inl (upd f28 nt z9))), (r 29, .inl ((cT 0), 7, .inl (upd f29 nt tm))), (r 30, .inl ((cT 0), 112, .inl g30_512)), (r 7, .inl ((cT 0), 1000, .inl f7)), (mo, .inr (12, mdG r cd tm (nI sn) (nI tx) (nI lz) (nI ((((((((((((((((((20 + 1) + 1) + 1) + 1) + 1) + 1) + 1) + 1) + 1) + 1) + 1) + 1) + 1) + 1) + 1) + 1) + 1) + 1 + 16)) (nI na) (nI (nt + 1)) (nI nr) mw ml (mk + 1) dw9)), (r 15, .inl ((cT 0), 200, .inl g15_572))] H := hP
    have hD : va_D A [(r 25, .inl ((cT 1), 7, .inr (.inl (vp_updL f25 (nI nt).toNatClampNeg (mk + 1))))), (r 26, .inl ((cT 0), 7, .inl (upd f26 nt x))), (r 27, .inl ((cT 0), 7, .inl (upd f27 nt y))), (r 28, .inl ((cT 0), 7, .inl (upd f28 nt z9))), (r 29, .inl ((cT 0), 7, .inl (upd f29 nt tm))), (r 30, .inl ((cT 0), 112, .inl g30_512)), (r 7, .inl ((cT 0), 1000, .inl f7)), (mo, .inr (12, mdG r cd tm (nI sn) (nI tx) (nI lz) (nI ((((((((((((((((((20 + 1) + 1) + 1) + 1) + 1) + 1) + 1) + 1) + 1) + 1) + 1) + 1) + 1) + 1) + 1) + 1) + 1) + 1 + 16)) (nI na) (nI (nt + 1)) (nI nr) mw ml (mk + 1) dw9)), (r 15, .inl ((cT 0), 200, .inl g15_572))] := hD
    have hP9 := hP.sub (ws' := [(mo, .inr (12, mdG r cd tm (nI sn) (nI tx) (nI lz) (nI ((((((((((((((((((20 + 1) + 1) + 1) + 1) + 1) + 1) + 1) + 1) + 1) + 1) + 1) + 1) + 1) + 1) + 1) + 1) + 1) + 1 + 16)) (nI na) (nI (nt + 1)) (nI nr) mw ml (mk + 1) dw9)), (r 7, .inl ((cT 0), 1000, .inl f7)), (r 15, .inl ((cT 0), 200, .inl g15_572)), (r 25, .inl ((cT 1), 7, .inr (.inl (vp_updL f25 (nI nt).toNatClampNeg (mk + 1))))), (r 26, .inl ((cT 0), 7, .inl (upd f26 nt x))), (r 27, .inl ((cT 0), 7, .inl (upd f27 nt y))), (r 28, .inl ((cT 0), 7, .inl (upd f28 nt z9))), (r 29, .inl ((cT 0), 7, .inl (upd f29 nt tm))), (r 30, .inl ((cT 0), 112, .inl g30_512))]) [7, 6, 8, 0, 1, 2, 3, 4, 5] rfl
    have hD9 := hD.sub (ws' := [(mo, .inr (12, mdG r cd tm (nI sn) (nI tx) (nI lz) (nI ((((((((((((((((((20 + 1) + 1) + 1) + 1) + 1) + 1) + 1) + 1) + 1) + 1) + 1) + 1) + 1) + 1) + 1) + 1) + 1) + 1 + 16)) (nI na) (nI (nt + 1)) (nI nr) mw ml (mk + 1) dw9)), (r 7, .inl ((cT 0), 1000, .inl f7)), (r 15, .inl ((cT 0), 200, .inl g15_572)), (r 25, .inl ((cT 1), 7, .inr (.inl (vp_updL f25 (nI nt).toNatClampNeg (mk + 1))))), (r 26, .inl ((cT 0), 7, .inl (upd f26 nt x))), (r 27, .inl ((cT 0), 7, .inl (upd f27 nt y))), (r 28, .inl ((cT 0), 7, .inl (upd f28 nt z9))), (r 29, .inl ((cT 0), 7, .inl (upd f29 nt tm))), (r 30, .inl ((cT 0), 112, .inl g30_512))]) [7, 6, 8, 0, 1, 2, 3, 4, 5] (by decide) rfl
    exact W.vret hx hb hr (fun t ht hW => ⟨⟨⟨g15_572, vp_updL f25 (nI nt).toNatClampNeg (mk + 1), upd f26 nt x, upd f27 nt y, upd f28 nt z9, upd f29 nt tm, g30_512, (((((((((((((((((20 + 1) + 1) + 1) + 1) + 1) + 1) + 1) + 1) + 1) + 1) + 1) + 1) + 1) + 1) + 1) + 1) + 1) + 1 + 16, nt + 1, (mk + 1), dw9⟩, rfl, ⟨by first | assumption | omega, by first | assumption | omega⟩, by rw [ht]; exact hP9, va_K.moved hW.alike hK, hD9⟩, hS.F ht⟩) hS.2.2 d_Md_challenge_269
  · skip
    have n507 : nt = 6 := (nI_eq (a := nt) (b := 6) (by omega) (by omega)).mp hc505
    refine lv_aload_n hx hb d_Md_challenge_9 rfl (lv_at hl 0 rfl) ?_
    refine lv_iconst (v := 0) hx hb d_Md_challenge_10 (by decide) ?_
    refine lv_topi (fun x590 e589 => ?_)
    obtain rfl : x590 = nI 0 := by rw [e589]; rfl
    have hPc := hP.sub (ws' := [(mo, .inr (12, mdG r cd tm (nI sn) (nI tx) (nI lz) (nI az) (nI na) (nI nt) (nI nr) mw ml mk dq)), (r 25, .inl ((cT 1), 7, .inr (.inl f25))), (r 26, .inl ((cT 0), 7, .inl f26)), (r 27, .inl ((cT 0), 7, .inl f27)), (r 28, .inl ((cT 0), 7, .inl f28)), (r 29, .inl ((cT 0), 7, .inl f29)), (r 30, .inl ((cT 0), 112, .inl f30))]) [0, 3, 4, 5, 6, 7, 8] rfl
    have hDc := hD.sub (ws' := [(mo, .inr (12, mdG r cd tm (nI sn) (nI tx) (nI lz) (nI az) (nI na) (nI nt) (nI nr) mw ml mk dq)), (r 25, .inl ((cT 1), 7, .inr (.inl f25))), (r 26, .inl ((cT 0), 7, .inl f26)), (r 27, .inl ((cT 0), 7, .inl f27)), (r 28, .inl ((cT 0), 7, .inl f28)), (r 29, .inl ((cT 0), 7, .inl f29)), (r 30, .inl ((cT 0), 112, .inl f30))]) [0, 3, 4, 5, 6, 7, 8] (by decide) rfl
    have hFc := va_free (wc := [(mo, .inr (12, mdG r cd tm (nI sn) (nI tx) (nI lz) (nI az) (nI na) (nI nt) (nI nr) mw ml mk dq)), (r 25, .inl ((cT 1), 7, .inr (.inl f25))), (r 26, .inl ((cT 0), 7, .inl f26)), (r 27, .inl ((cT 0), 7, .inl f27)), (r 28, .inl ((cT 0), 7, .inl f28)), (r 29, .inl ((cT 0), 7, .inl f29)), (r 30, .inl ((cT 0), 112, .inl f30))]) hD hS hA [0, 3, 4, 5, 6, 7, 8] rfl
    refine va_callv (va_runV (C := "DoorServerModel") (As := [.int (nI 0)]) (rest := []) ⟨hx, hb, hml, hown, hg⟩ (m_dropTrial l dC dI cT s.heap.size mo r cd tm sn tx lz az na nt nr mw ml mk dq f25 f26 f27 f28 f29 f30 0 (by first | assumption | omega) (by first | assumption | omega)) (cwV 1 hg (gI (List.forall_mem_append.mpr ⟨List.forall_mem_cons.mpr ⟨k_1353, List.forall_mem_cons.mpr ⟨k_1355, List.forall_mem_cons.mpr ⟨(big_sel (q := y_Md_dropTrial) (n := 45) (by decide +kernel)), List.forall_mem_cons.mpr ⟨k_13, fun _ h => absurd h List.not_mem_nil⟩⟩⟩⟩, List.forall_mem_cons.mpr ⟨k_1356, fun _ h => h⟩⟩)) rfl rfl rfl (by decide +kernel) ⟨Nat.le_of_ble_eq_true rfl, Nat.le_of_ble_eq_true rfl⟩) ⟨fun a U g mk q => by obtain ⟨q0, q1, qP, qK, qD⟩ := q; exact ⟨q0, q1, qP, va_K.moved (u := U) (U := U.calling g mk a) (Vm.Alike.refl U.vm) qK, qD⟩, va_recv (q0 := 0) (ci := 12) hK hP rfl rfl, fun U hU hW => ⟨rfl, by rw [hU], by rw [hU]; exact hPc, va_K.moved hW.alike hK, hDc.weaken (fun _ _ _ _ => trivial)⟩⟩ rfl rfl hl.1 rfl (lv_room (Nat.le_of_ble_eq_true rfl)) d_Md_challenge_11 ⟨Nat.le_of_ble_eq_true rfl, Nat.le_of_ble_eq_true rfl⟩) hS (fun q _ h => hFc q h) hFc (fun u t H1 locs ht hvm hw hB hz1 hk1 hS => ?_)
    obtain ⟨g25_591, g26_592, g27_593, g28_594, g29_595, g30_596⟩ := u
    try dsimp only at hw hB
    obtain ⟨hP1, hK1, hD1⟩ := hB
    rw [ht] at hP1
    obtain ⟨hP, hD⟩ := va_join (wr := [(r 7, .inl ((cT 0), 1000, .inl f7)), (r 15, .inl ((cT 0), 200, .inl f15))]) (w1 := [(mo, .inr (12, mdG r cd tm (nI sn) (nI tx) (nI lz) (nI az) (nI na) (nI (nt - 1)) (nI nr) mw ml mk dq)), (r 25, .inl ((cT 1), 7, .inr (.inl g25_591))), (r 26, .inl ((cT 0), 7, .inl g26_592)), (r 27, .inl ((cT 0), 7, .inl g27_593)), (r 28, .inl ((cT 0), 7, .inl g28_594)), (r 29, .inl ((cT 0), 7, .inl g29_595)), (r 30, .inl ((cT 0), 112, .inl g30_596))]) hP hD [0, 3, 4, 5, 6, 7, 8] [1, 2] rfl rfl (by decide) (by decide) hk1 hFc hP1 hD1
    have hw597 := hw
    clear hPc hDc hFc hz1 hk1 hP1 hK1 hD1
    generalize H1 = H at hP hS ⊢
    have hP : va_P (dC, dI) vcl [(r 7, .inl ((cT 0), 1000, .inl f7)), (r 15, .inl ((cT 0), 200, .inl f15)), (mo, .inr (12, mdG r cd tm (nI sn) (nI tx) (nI lz) (nI az) (nI na) (nI (nt - 1)) (nI nr) mw ml mk dq)), (r 25, .inl ((cT 1), 7, .inr (.inl g25_591))), (r 26, .inl ((cT 0), 7, .inl g26_592)), (r 27, .inl ((cT 0), 7, .inl g27_593)), (r 28, .inl ((cT 0), 7, .inl g28_594)), (r 29, .inl ((cT 0), 7, .inl g29_595)), (r 30, .inl ((cT 0), 112, .inl g30_596))] H := hP
    have hD : va_D A [(r 7, .inl ((cT 0), 1000, .inl f7)), (r 15, .inl ((cT 0), 200, .inl f15)), (mo, .inr (12, mdG r cd tm (nI sn) (nI tx) (nI lz) (nI az) (nI na) (nI (nt - 1)) (nI nr) mw ml mk dq)), (r 25, .inl ((cT 1), 7, .inr (.inl g25_591))), (r 26, .inl ((cT 0), 7, .inl g26_592)), (r 27, .inl ((cT 0), 7, .inl g27_593)), (r 28, .inl ((cT 0), 7, .inl g28_594)), (r 29, .inl ((cT 0), 7, .inl g29_595)), (r 30, .inl ((cT 0), 112, .inl g30_596))] := hD
    refine lv_aload_n hx hb d_Md_challenge_14 rfl (lv_at hl 0 rfl) ?_
    refine lv_dup hx hb d_Md_challenge_15 rfl ?_
    refine va_get (D := (dC, dI)) (ci := 12) (v := (.long mk)) (C := R_Md) (T := F_Md) (N := 45) hx hb hg in_Md hown hK hP 2 rfl rfl 31 (by decide) (hg _ k_1051) (fun _ h9 => h9) rfl d_Md_challenge_16 ?_
    refine lv_lconst (v := 1) hx hb d_Md_challenge_19 (by decide) ?_
    refine lv_ladd hx hb d_Md_challenge_20 ?_
    refine va_put (D := (dC, dI)) (ci := 12) (v := (.long (mk + 1))) (ty := .long) (C := R_Md) (T := F_Md) (N := 45) hx hb hg in_Md t_Md tok_Md nm_Md hown hK hP hD hS 2 rfl rfl 31 (by decide) (hg _ k_1051) (fun _ h9 => h9) rfl (by decide +kernel) rfl rfl (Nat.le_of_ble_eq_true rfl) d_Md_challenge_21 (fun H locs hP hD hS => ?_)
    have hP : va_P (dC, dI) vcl [(r 7, .inl ((cT 0), 1000, .inl f7)), (r 15, .inl ((cT 0), 200, .inl f15)), (mo, .inr (12, mdG r cd tm (nI sn) (nI tx) (nI lz) (nI az) (nI na) (nI (nt - 1)) (nI nr) mw ml (mk + 1) dq)), (r 25, .inl ((cT 1), 7, .inr (.inl g25_591))), (r 26, .inl ((cT 0), 7, .inl g26_592)), (r 27, .inl ((cT 0), 7, .inl g27_593)), (r 28, .inl ((cT 0), 7, .inl g28_594)), (r 29, .inl ((cT 0), 7, .inl g29_595)), (r 30, .inl ((cT 0), 112, .inl g30_596))] H := hP
    have hD : va_D A [(r 7, .inl ((cT 0), 1000, .inl f7)), (r 15, .inl ((cT 0), 200, .inl f15)), (mo, .inr (12, mdG r cd tm (nI sn) (nI tx) (nI lz) (nI az) (nI na) (nI (nt - 1)) (nI nr) mw ml (mk + 1) dq)), (r 25, .inl ((cT 1), 7, .inr (.inl g25_591))), (r 26, .inl ((cT 0), 7, .inl g26_592)), (r 27, .inl ((cT 0), 7, .inl g27_593)), (r 28, .inl ((cT 0), 7, .inl g28_594)), (r 29, .inl ((cT 0), 7, .inl g29_595)), (r 30, .inl ((cT 0), 112, .inl g30_596))] := hD
    refine lv_aload_n hx hb d_Md_challenge_24 rfl (lv_at hl 0 rfl) ?_
    refine va_get (D := (dC, dI)) (ci := 12) (v := (.ref (r 25))) (C := R_Md) (T := F_Md) (N := 45) hx hb hg in_Md hown hK hP 2 rfl rfl 25 (by decide) (hg _ k_1045) (fun _ h9 => h9) rfl d_Md_challenge_25 ?_
    refine lv_aload_n hx hb d_Md_challenge_28 rfl (lv_at hl 0 rfl) ?_
    refine va_get (D := (dC, dI)) (ci := 12) (v := (.int (nI (nt - 1)))) (C := R_Md) (T := F_Md) (N := 45) hx hb hg in_Md hown hK hP 2 rfl rfl 24 (by decide) (hg _ k_1044) (fun _ h9 => h9) rfl d_Md_challenge_29 ?_
    refine lv_aload_n hx hb d_Md_challenge_32 rfl (lv_at hl 0 rfl) ?_
    refine va_get (D := (dC, dI)) (ci := 12) (v := (.long (mk + 1))) (C := R_Md) (T := F_Md) (N := 45) hx hb hg in_Md hown hK hP 2 rfl rfl 31 (by decide) (hg _ k_1051) (fun _ h9 => h9) rfl d_Md_challenge_33 ?_
    refine va_last hx hb hK hP hD hS 3 1 rfl rfl (i := (nI (nt - 1))) (vp_in_nI (n := nt - 1) (N := 7) (by omega) (by decide)) d_Md_challenge_36 (fun H locs hP hD hS => ?_)
    have hP : va_P (dC, dI) vcl [(r 7, .inl ((cT 0), 1000, .inl f7)), (r 15, .inl ((cT 0), 200, .inl f15)), (mo, .inr (12, mdG r cd tm (nI sn) (nI tx) (nI lz) (nI az) (nI na) (nI (nt - 1)) (nI nr) mw ml (mk + 1) dq)), (r 25, .inl ((cT 1), 7, .inr (.inl (vp_updL g25_591 (nI (nt - 1)).toNatClampNeg (mk + 1))))), (r 26, .inl ((cT 0), 7, .inl g26_592)), (r 27, .inl ((cT 0), 7, .inl g27_593)), (r 28, .inl ((cT 0), 7, .inl g28_594)), (r 29, .inl ((cT 0), 7, .inl g29_595)), (r 30, .inl ((cT 0), 112, .inl g30_596))] H := hP
    have hD : va_D A [(r 7, .inl ((cT 0), 1000, .inl f7)), (r 15, .inl ((cT 0), 200, .inl f15)), (mo, .inr (12, mdG r cd tm (nI sn) (nI tx) (nI lz) (nI az) (nI na) (nI (nt - 1)) (nI nr) mw ml (mk + 1) dq)), (r 25, .inl ((cT 1), 7, .inr (.inl (vp_updL g25_591 (nI (nt - 1)).toNatClampNeg (mk + 1))))), (r 26, .inl ((cT 0), 7, .inl g26_592)), (r 27, .inl ((cT 0), 7, .inl g27_593)), (r 28, .inl ((cT 0), 7, .inl g28_594)), (r 29, .inl ((cT 0), 7, .inl g29_595)), (r 30, .inl ((cT 0), 112, .inl g30_596))] := hD
    refine lv_aload_n hx hb d_Md_challenge_37 rfl (lv_at hl 0 rfl) ?_
    refine va_get (D := (dC, dI)) (ci := 12) (v := (.ref (r 26))) (C := R_Md) (T := F_Md) (N := 45) hx hb hg in_Md hown hK hP 2 rfl rfl 26 (by decide) (hg _ k_1046) (fun _ h9 => h9) rfl d_Md_challenge_38 ?_
    refine lv_aload_n hx hb d_Md_challenge_41 rfl (lv_at hl 0 rfl) ?_
    refine va_get (D := (dC, dI)) (ci := 12) (v := (.int (nI (nt - 1)))) (C := R_Md) (T := F_Md) (N := 45) hx hb hg in_Md hown hK hP 2 rfl rfl 24 (by decide) (hg _ k_1044) (fun _ h9 => h9) rfl d_Md_challenge_42 ?_
    refine lv_iload_n hx hb d_Md_challenge_45 rfl (lv_at hl 1 rfl) ?_
    refine va_iast hx hb hK hP hD hS 4 0 rfl rfl (i := (nI (nt - 1))) (vp_in_nI (n := nt - 1) (N := 7) (by omega) (by decide)) d_Md_challenge_46 (fun H locs hP hD hS => ?_)
    have ef598 : upd g26_592 (nI (nt - 1)).toNatClampNeg x = upd g26_592 (nt - 1) x := by rw [show (nI (nt - 1)).toNatClampNeg = nt - 1 from nI_clamp (by omega)]
    rw [ef598] at hP hD
    have hP : va_P (dC, dI) vcl [(r 7, .inl ((cT 0), 1000, .inl f7)), (r 15, .inl ((cT 0), 200, .inl f15)), (mo, .inr (12, mdG r cd tm (nI sn) (nI tx) (nI lz) (nI az) (nI na) (nI (nt - 1)) (nI nr) mw ml (mk + 1) dq)), (r 25, .inl ((cT 1), 7, .inr (.inl (vp_updL g25_591 (nI (nt - 1)).toNatClampNeg (mk + 1))))), (r 26, .inl ((cT 0), 7, .inl (upd g26_592 (nt - 1) x))), (r 27, .inl ((cT 0), 7, .inl g27_593)), (r 28, .inl ((cT 0), 7, .inl g28_594)), (r 29, .inl ((cT 0), 7, .inl g29_595)), (r 30, .inl ((cT 0), 112, .inl g30_596))] H := hP
    have hD : va_D A [(r 7, .inl ((cT 0), 1000, .inl f7)), (r 15, .inl ((cT 0), 200, .inl f15)), (mo, .inr (12, mdG r cd tm (nI sn) (nI tx) (nI lz) (nI az) (nI na) (nI (nt - 1)) (nI nr) mw ml (mk + 1) dq)), (r 25, .inl ((cT 1), 7, .inr (.inl (vp_updL g25_591 (nI (nt - 1)).toNatClampNeg (mk + 1))))), (r 26, .inl ((cT 0), 7, .inl (upd g26_592 (nt - 1) x))), (r 27, .inl ((cT 0), 7, .inl g27_593)), (r 28, .inl ((cT 0), 7, .inl g28_594)), (r 29, .inl ((cT 0), 7, .inl g29_595)), (r 30, .inl ((cT 0), 112, .inl g30_596))] := hD
    refine lv_aload_n hx hb d_Md_challenge_47 rfl (lv_at hl 0 rfl) ?_
    refine va_get (D := (dC, dI)) (ci := 12) (v := (.ref (r 27))) (C := R_Md) (T := F_Md) (N := 45) hx hb hg in_Md hown hK hP 2 rfl rfl 27 (by decide) (hg _ k_1047) (fun _ h9 => h9) rfl d_Md_challenge_48 ?_
    refine lv_aload_n hx hb d_Md_challenge_51 rfl (lv_at hl 0 rfl) ?_
    refine va_get (D := (dC, dI)) (ci := 12) (v := (.int (nI (nt - 1)))) (C := R_Md) (T := F_Md) (N := 45) hx hb hg in_Md hown hK hP 2 rfl rfl 24 (by decide) (hg _ k_1044) (fun _ h9 => h9) rfl d_Md_challenge_52 ?_
    refine lv_iload_n hx hb d_Md_challenge_55 rfl (lv_at hl 2 rfl) ?_
    refine va_iast hx hb hK hP hD hS 5 0 rfl rfl (i := (nI (nt - 1))) (vp_in_nI (n := nt - 1) (N := 7) (by omega) (by decide)) d_Md_challenge_56 (fun H locs hP hD hS => ?_)
    have ef599 : upd g27_593 (nI (nt - 1)).toNatClampNeg y = upd g27_593 (nt - 1) y := by rw [show (nI (nt - 1)).toNatClampNeg = nt - 1 from nI_clamp (by omega)]
    rw [ef599] at hP hD
    have hP : va_P (dC, dI) vcl [(r 7, .inl ((cT 0), 1000, .inl f7)), (r 15, .inl ((cT 0), 200, .inl f15)), (mo, .inr (12, mdG r cd tm (nI sn) (nI tx) (nI lz) (nI az) (nI na) (nI (nt - 1)) (nI nr) mw ml (mk + 1) dq)), (r 25, .inl ((cT 1), 7, .inr (.inl (vp_updL g25_591 (nI (nt - 1)).toNatClampNeg (mk + 1))))), (r 26, .inl ((cT 0), 7, .inl (upd g26_592 (nt - 1) x))), (r 27, .inl ((cT 0), 7, .inl (upd g27_593 (nt - 1) y))), (r 28, .inl ((cT 0), 7, .inl g28_594)), (r 29, .inl ((cT 0), 7, .inl g29_595)), (r 30, .inl ((cT 0), 112, .inl g30_596))] H := hP
    have hD : va_D A [(r 7, .inl ((cT 0), 1000, .inl f7)), (r 15, .inl ((cT 0), 200, .inl f15)), (mo, .inr (12, mdG r cd tm (nI sn) (nI tx) (nI lz) (nI az) (nI na) (nI (nt - 1)) (nI nr) mw ml (mk + 1) dq)), (r 25, .inl ((cT 1), 7, .inr (.inl (vp_updL g25_591 (nI (nt - 1)).toNatClampNeg (mk + 1))))), (r 26, .inl ((cT 0), 7, .inl (upd g26_592 (nt - 1) x))), (r 27, .inl ((cT 0), 7, .inl (upd g27_593 (nt - 1) y))), (r 28, .inl ((cT 0), 7, .inl g28_594)), (r 29, .inl ((cT 0), 7, .inl g29_595)), (r 30, .inl ((cT 0), 112, .inl g30_596))] := hD
    refine lv_aload_n hx hb d_Md_challenge_57 rfl (lv_at hl 0 rfl) ?_
    refine va_get (D := (dC, dI)) (ci := 12) (v := (.ref (r 28))) (C := R_Md) (T := F_Md) (N := 45) hx hb hg in_Md hown hK hP 2 rfl rfl 28 (by decide) (hg _ k_1048) (fun _ h9 => h9) rfl d_Md_challenge_58 ?_
    refine lv_aload_n hx hb d_Md_challenge_61 rfl (lv_at hl 0 rfl) ?_
    refine va_get (D := (dC, dI)) (ci := 12) (v := (.int (nI (nt - 1)))) (C := R_Md) (T := F_Md) (N := 45) hx hb hg in_Md hown hK hP 2 rfl rfl 24 (by decide) (hg _ k_1044) (fun _ h9 => h9) rfl d_Md_challenge_62 ?_
    refine lv_iload_n hx hb d_Md_challenge_65 rfl (lv_at hl 3 rfl) ?_
    refine va_iast hx hb hK hP hD hS 6 0 rfl rfl (i := (nI (nt - 1))) (vp_in_nI (n := nt - 1) (N := 7) (by omega) (by decide)) d_Md_challenge_66 (fun H locs hP hD hS => ?_)
    have ef600 : upd g28_594 (nI (nt - 1)).toNatClampNeg z9 = upd g28_594 (nt - 1) z9 := by rw [show (nI (nt - 1)).toNatClampNeg = nt - 1 from nI_clamp (by omega)]
    rw [ef600] at hP hD
    have hP : va_P (dC, dI) vcl [(r 7, .inl ((cT 0), 1000, .inl f7)), (r 15, .inl ((cT 0), 200, .inl f15)), (mo, .inr (12, mdG r cd tm (nI sn) (nI tx) (nI lz) (nI az) (nI na) (nI (nt - 1)) (nI nr) mw ml (mk + 1) dq)), (r 25, .inl ((cT 1), 7, .inr (.inl (vp_updL g25_591 (nI (nt - 1)).toNatClampNeg (mk + 1))))), (r 26, .inl ((cT 0), 7, .inl (upd g26_592 (nt - 1) x))), (r 27, .inl ((cT 0), 7, .inl (upd g27_593 (nt - 1) y))), (r 28, .inl ((cT 0), 7, .inl (upd g28_594 (nt - 1) z9))), (r 29, .inl ((cT 0), 7, .inl g29_595)), (r 30, .inl ((cT 0), 112, .inl g30_596))] H := hP
    have hD : va_D A [(r 7, .inl ((cT 0), 1000, .inl f7)), (r 15, .inl ((cT 0), 200, .inl f15)), (mo, .inr (12, mdG r cd tm (nI sn) (nI tx) (nI lz) (nI az) (nI na) (nI (nt - 1)) (nI nr) mw ml (mk + 1) dq)), (r 25, .inl ((cT 1), 7, .inr (.inl (vp_updL g25_591 (nI (nt - 1)).toNatClampNeg (mk + 1))))), (r 26, .inl ((cT 0), 7, .inl (upd g26_592 (nt - 1) x))), (r 27, .inl ((cT 0), 7, .inl (upd g27_593 (nt - 1) y))), (r 28, .inl ((cT 0), 7, .inl (upd g28_594 (nt - 1) z9))), (r 29, .inl ((cT 0), 7, .inl g29_595)), (r 30, .inl ((cT 0), 112, .inl g30_596))] := hD
    refine lv_aload_n hx hb d_Md_challenge_67 rfl (lv_at hl 0 rfl) ?_
    refine va_get (D := (dC, dI)) (ci := 12) (v := (.ref (r 29))) (C := R_Md) (T := F_Md) (N := 45) hx hb hg in_Md hown hK hP 2 rfl rfl 29 (by decide) (hg _ k_1049) (fun _ h9 => h9) rfl d_Md_challenge_68 ?_
    refine lv_aload_n hx hb d_Md_challenge_71 rfl (lv_at hl 0 rfl) ?_
    refine va_get (D := (dC, dI)) (ci := 12) (v := (.int (nI (nt - 1)))) (C := R_Md) (T := F_Md) (N := 45) hx hb hg in_Md hown hK hP 2 rfl rfl 24 (by decide) (hg _ k_1044) (fun _ h9 => h9) rfl d_Md_challenge_72 ?_
    refine lv_aload_n hx hb d_Md_challenge_75 rfl (lv_at hl 0 rfl) ?_
    refine va_get (D := (dC, dI)) (ci := 12) (v := (.int tm)) (C := R_Md) (T := F_Md) (N := 45) hx hb hg in_Md hown hK hP 2 rfl rfl 2 (by decide) (hg _ k_1022) (fun _ h9 => h9) rfl d_Md_challenge_76 ?_
    refine va_iast hx hb hK hP hD hS 7 0 rfl rfl (i := (nI (nt - 1))) (vp_in_nI (n := nt - 1) (N := 7) (by omega) (by decide)) d_Md_challenge_79 (fun H locs hP hD hS => ?_)
    have ef601 : upd g29_595 (nI (nt - 1)).toNatClampNeg tm = upd g29_595 (nt - 1) tm := by rw [show (nI (nt - 1)).toNatClampNeg = nt - 1 from nI_clamp (by omega)]
    rw [ef601] at hP hD
    have hP : va_P (dC, dI) vcl [(r 7, .inl ((cT 0), 1000, .inl f7)), (r 15, .inl ((cT 0), 200, .inl f15)), (mo, .inr (12, mdG r cd tm (nI sn) (nI tx) (nI lz) (nI az) (nI na) (nI (nt - 1)) (nI nr) mw ml (mk + 1) dq)), (r 25, .inl ((cT 1), 7, .inr (.inl (vp_updL g25_591 (nI (nt - 1)).toNatClampNeg (mk + 1))))), (r 26, .inl ((cT 0), 7, .inl (upd g26_592 (nt - 1) x))), (r 27, .inl ((cT 0), 7, .inl (upd g27_593 (nt - 1) y))), (r 28, .inl ((cT 0), 7, .inl (upd g28_594 (nt - 1) z9))), (r 29, .inl ((cT 0), 7, .inl (upd g29_595 (nt - 1) tm))), (r 30, .inl ((cT 0), 112, .inl g30_596))] H := hP
    have hD : va_D A [(r 7, .inl ((cT 0), 1000, .inl f7)), (r 15, .inl ((cT 0), 200, .inl f15)), (mo, .inr (12, mdG r cd tm (nI sn) (nI tx) (nI lz) (nI az) (nI na) (nI (nt - 1)) (nI nr) mw ml (mk + 1) dq)), (r 25, .inl ((cT 1), 7, .inr (.inl (vp_updL g25_591 (nI (nt - 1)).toNatClampNeg (mk + 1))))), (r 26, .inl ((cT 0), 7, .inl (upd g26_592 (nt - 1) x))), (r 27, .inl ((cT 0), 7, .inl (upd g27_593 (nt - 1) y))), (r 28, .inl ((cT 0), 7, .inl (upd g28_594 (nt - 1) z9))), (r 29, .inl ((cT 0), 7, .inl (upd g29_595 (nt - 1) tm))), (r 30, .inl ((cT 0), 112, .inl g30_596))] := hD
    refine lv_iconst (v := 0) hx hb d_Md_challenge_80 (by decide) ?_
    refine lv_istore (lv' := [(4, .int 0), (0, .ref mo), (1, .int x), (2, .int y), (3, .int z9)]) hx hb d_Md_challenge_81 hl (by decide) rfl (fun ls hl => ?_)
    have hl := lv_sub hl [0, 1, 2, 3, 4] (show _ = [(4, .int 0), (0, .ref mo), (1, .int x), (2, .int y), (3, .int z9)] from rfl)
    have L603 : ∀ (Q : State → Prop) (exit : ∀ (g30_602 : Nat → Int32) (dw9 : Int64) (H : Heap) (locs : List Loc) (ls : Array Slot), va_P (dC, dI) vcl [(r 7, .inl ((cT 0), 1000, .inl f7)), (r 15, .inl ((cT 0), 200, .inl f15)), (mo, .inr (12, mdG r cd tm (nI sn) (nI tx) (nI lz) (nI az) (nI na) (nI (nt - 1)) (nI nr) mw ml (mk + 1) dw9)), (r 25, .inl ((cT 1), 7, .inr (.inl (vp_updL g25_591 (nI (nt - 1)).toNatClampNeg (mk + 1))))), (r 26, .inl ((cT 0), 7, .inl (upd g26_592 (nt - 1) x))), (r 27, .inl ((cT 0), 7, .inl (upd g27_593 (nt - 1) y))), (r 28, .inl ((cT 0), 7, .inl (upd g28_594 (nt - 1) z9))), (r 29, .inl ((cT 0), 7, .inl (upd g29_595 (nt - 1) tm))), (r 30, .inl ((cT 0), 112, .inl g30_602))] H → va_D A [(r 7, .inl ((cT 0), 1000, .inl f7)), (r 15, .inl ((cT 0), 200, .inl f15)), (mo, .inr (12, mdG r cd tm (nI sn) (nI tx) (nI lz) (nI az) (nI na) (nI (nt - 1)) (nI nr) mw ml (mk + 1) dw9)), (r 25, .inl ((cT 1), 7, .inr (.inl (vp_updL g25_591 (nI (nt - 1)).toNatClampNeg (mk + 1))))), (r 26, .inl ((cT 0), 7, .inl (upd g26_592 (nt - 1) x))), (r 27, .inl ((cT 0), 7, .inl (upd g27_593 (nt - 1) y))), (r 28, .inl ((cT 0), 7, .inl (upd g28_594 (nt - 1) z9))), (r 29, .inl ((cT 0), 7, .inl (upd g29_595 (nt - 1) tm))), (r 30, .inl ((cT 0), 112, .inl g30_602))] → va_S A s.heap H locs → lv_has ls 5 [(4, .int (nI 16)), (0, .ref mo), (1, .int x), (2, .int y), (3, .int z9)] → W p l e ({ frames := 2, cells := 0, slots := 0, locals := 45 } : Room) s m args below meth c H locs 0 0 Q (F0 m 135 ls [])) (j8 i : Nat) (g30_602 : Nat → Int32) (dw9 : Int64) (H : Heap) (locs : List Loc) (ls : Array Slot), i + j8 = 16 → va_P (dC, dI) vcl [(r 7, .inl ((cT 0), 1000, .inl f7)), (r 15, .inl ((cT 0), 200, .inl f15)), (mo, .inr (12, mdG r cd tm (nI sn) (nI tx) (nI lz) (nI az) (nI na) (nI (nt - 1)) (nI nr) mw ml (mk + 1) dw9)), (r 25, .inl ((cT 1), 7, .inr (.inl (vp_updL g25_591 (nI (nt - 1)).toNatClampNeg (mk + 1))))), (r 26, .inl ((cT 0), 7, .inl (upd g26_592 (nt - 1) x))), (r 27, .inl ((cT 0), 7, .inl (upd g27_593 (nt - 1) y))), (r 28, .inl ((cT 0), 7, .inl (upd g28_594 (nt - 1) z9))), (r 29, .inl ((cT 0), 7, .inl (upd g29_595 (nt - 1) tm))), (r 30, .inl ((cT 0), 112, .inl g30_602))] H → va_D A [(r 7, .inl ((cT 0), 1000, .inl f7)), (r 15, .inl ((cT 0), 200, .inl f15)), (mo, .inr (12, mdG r cd tm (nI sn) (nI tx) (nI lz) (nI az) (nI na) (nI (nt - 1)) (nI nr) mw ml (mk + 1) dw9)), (r 25, .inl ((cT 1), 7, .inr (.inl (vp_updL g25_591 (nI (nt - 1)).toNatClampNeg (mk + 1))))), (r 26, .inl ((cT 0), 7, .inl (upd g26_592 (nt - 1) x))), (r 27, .inl ((cT 0), 7, .inl (upd g27_593 (nt - 1) y))), (r 28, .inl ((cT 0), 7, .inl (upd g28_594 (nt - 1) z9))), (r 29, .inl ((cT 0), 7, .inl (upd g29_595 (nt - 1) tm))), (r 30, .inl ((cT 0), 112, .inl g30_602))] → va_S A s.heap H locs → lv_has ls 5 [(4, .int (nI i)), (0, .ref mo), (1, .int x), (2, .int y), (3, .int z9)] → W p l e ({ frames := 2, cells := 0, slots := 0, locals := 45 } : Room) s m args below meth c H locs 0 0 Q (F0 m 83 ls []) := by
      intro Q exit j8
      induction j8 with
      | zero => 
        intro i g30_602 dw9 H locs ls hij  hP hD hS hl
        have hij : 16 = i := by omega
        refine lv_iload hx hb d_Md_challenge_83 (lv_at hl 0 rfl) ?_
        refine lv_bipush (v := 16) hx hb d_Md_challenge_85 (by decide) ?_
        refine lv_topi (fun x605 e604 => ?_)
        obtain rfl : x605 = nI 16 := by rw [e604]; rfl
        refine lv_icmp_ge (tgt := 135) hx hb d_Md_challenge_87 (by decide) (fun hc606 => ?_) (fun hn9 => absurd (nI_le (by omega) (by omega)) hn9)
        subst hij
        exact exit g30_602 dw9 _ _ _  hP hD hS hl
      | succ j8 ih => 
        intro i g30_602 dw9 H locs ls hij  hP hD hS hl
        have hlt : i < 16 := by omega
        have hlti := hlt
        refine lv_iload hx hb d_Md_challenge_83 (lv_at hl 0 rfl) ?_
        refine lv_bipush (v := 16) hx hb d_Md_challenge_85 (by decide) ?_
        refine lv_topi (fun x608 e607 => ?_)
        obtain rfl : x608 = nI 16 := by rw [e607]; rfl
        refine lv_icmp_ge (tgt := 135) hx hb d_Md_challenge_87 (by decide) (fun hn9 => absurd hn9 (nI_ge (by omega) (by omega))) (fun hc609 => ?_)
        refine lv_aload_n hx hb d_Md_challenge_90 rfl (lv_at hl 1 rfl) ?_
        refine lv_aload_n hx hb d_Md_challenge_91 rfl (lv_at hl 1 rfl) ?_
        refine va_get (D := (dC, dI)) (ci := 12) (v := (.long dw9)) (C := R_Md) (T := F_Md) (N := 45) hx hb hg in_Md hown hK hP 2 rfl rfl 32 (by decide) (hg _ k_1052) (fun _ h9 => h9) rfl d_Md_challenge_92 ?_
        refine lv_ldc2 (v := 6364136223846793005) hx hb hown (hg _ k_1357) d_Md_challenge_95 ?_
        refine lv_lmul hx hb d_Md_challenge_98 ?_
        refine lv_ldc2 (v := 1442695040888963407) hx hb hown (hg _ k_1358) d_Md_challenge_99 ?_
        refine lv_ladd hx hb d_Md_challenge_102 ?_
        refine va_put (D := (dC, dI)) (ci := 12) (v := (.long ((dw9 * 6364136223846793005) + 1442695040888963407))) (ty := .long) (C := R_Md) (T := F_Md) (N := 45) hx hb hg in_Md t_Md tok_Md nm_Md hown hK hP hD hS 2 rfl rfl 32 (by decide) (hg _ k_1052) (fun _ h9 => h9) rfl (by decide +kernel) rfl rfl (Nat.le_of_ble_eq_true rfl) d_Md_challenge_103 (fun H locs hP hD hS => ?_)
        have hP : va_P (dC, dI) vcl [(r 7, .inl ((cT 0), 1000, .inl f7)), (r 15, .inl ((cT 0), 200, .inl f15)), (mo, .inr (12, mdG r cd tm (nI sn) (nI tx) (nI lz) (nI az) (nI na) (nI (nt - 1)) (nI nr) mw ml (mk + 1) ((dw9 * 6364136223846793005) + 1442695040888963407))), (r 25, .inl ((cT 1), 7, .inr (.inl (vp_updL g25_591 (nI (nt - 1)).toNatClampNeg (mk + 1))))), (r 26, .inl ((cT 0), 7, .inl (upd g26_592 (nt - 1) x))), (r 27, .inl ((cT 0), 7, .inl (upd g27_593 (nt - 1) y))), (r 28, .inl ((cT 0), 7, .inl (upd g28_594 (nt - 1) z9))), (r 29, .inl ((cT 0), 7, .inl (upd g29_595 (nt - 1) tm))), (r 30, .inl ((cT 0), 112, .inl g30_602))] H := hP
        have hD : va_D A [(r 7, .inl ((cT 0), 1000, .inl f7)), (r 15, .inl ((cT 0), 200, .inl f15)), (mo, .inr (12, mdG r cd tm (nI sn) (nI tx) (nI lz) (nI az) (nI na) (nI (nt - 1)) (nI nr) mw ml (mk + 1) ((dw9 * 6364136223846793005) + 1442695040888963407))), (r 25, .inl ((cT 1), 7, .inr (.inl (vp_updL g25_591 (nI (nt - 1)).toNatClampNeg (mk + 1))))), (r 26, .inl ((cT 0), 7, .inl (upd g26_592 (nt - 1) x))), (r 27, .inl ((cT 0), 7, .inl (upd g27_593 (nt - 1) y))), (r 28, .inl ((cT 0), 7, .inl (upd g28_594 (nt - 1) z9))), (r 29, .inl ((cT 0), 7, .inl (upd g29_595 (nt - 1) tm))), (r 30, .inl ((cT 0), 112, .inl g30_602))] := hD
        refine lv_aload_n hx hb d_Md_challenge_106 rfl (lv_at hl 1 rfl) ?_
        refine va_get (D := (dC, dI)) (ci := 12) (v := (.ref (r 30))) (C := R_Md) (T := F_Md) (N := 45) hx hb hg in_Md hown hK hP 2 rfl rfl 30 (by decide) (hg _ k_1050) (fun _ h9 => h9) rfl d_Md_challenge_107 ?_
        refine lv_bipush (v := 16) hx hb d_Md_challenge_110 (by decide) ?_
        refine lv_aload_n hx hb d_Md_challenge_112 rfl (lv_at hl 1 rfl) ?_
        refine va_get (D := (dC, dI)) (ci := 12) (v := (.int (nI (nt - 1)))) (C := R_Md) (T := F_Md) (N := 45) hx hb hg in_Md hown hK hP 2 rfl rfl 24 (by decide) (hg _ k_1044) (fun _ h9 => h9) rfl d_Md_challenge_113 ?_
        refine lv_imul hx hb d_Md_challenge_116 ?_
        refine lv_topi (fun x611 e610 => ?_)
        obtain rfl : x611 = nI (16 * (nt - 1)) := by rw [e610]; exact pk_mul 16 (nt - 1)
        refine lv_iload hx hb d_Md_challenge_117 (lv_at hl 0 rfl) ?_
        refine lv_iadd hx hb d_Md_challenge_119 ?_
        refine lv_topi (fun x613 e612 => ?_)
        obtain rfl : x613 = nI ((16 * (nt - 1)) + i) := by rw [e612]; exact nI_add (16 * (nt - 1)) i
        refine lv_aload_n hx hb d_Md_challenge_120 rfl (lv_at hl 1 rfl) ?_
        refine va_get (D := (dC, dI)) (ci := 12) (v := (.long ((dw9 * 6364136223846793005) + 1442695040888963407))) (C := R_Md) (T := F_Md) (N := 45) hx hb hg in_Md hown hK hP 2 rfl rfl 32 (by decide) (hg _ k_1052) (fun _ h9 => h9) rfl d_Md_challenge_121 ?_
        refine lv_bipush (v := 56) hx hb d_Md_challenge_124 (by decide) ?_
        refine lv_lushr (v := (((dw9 * 6364136223846793005) + 1442695040888963407).toUInt64 >>> ((56 : Int32).toInt64.toUInt64 &&& Int64.toUInt64 63)).toInt64) hx hb d_Md_challenge_126 rfl ?_
        refine lv_l2i (v := ((((dw9 * 6364136223846793005) + 1442695040888963407).toUInt64 >>> ((56 : Int32).toInt64.toUInt64 &&& Int64.toUInt64 63)).toInt64).toInt32) hx hb d_Md_challenge_127 rfl ?_
        refine va_iast hx hb hK hP hD hS 8 0 rfl rfl (i := (nI ((16 * (nt - 1)) + i))) (vp_in_nI (n := (16 * (nt - 1)) + i) (N := 112) (by omega) (by decide)) d_Md_challenge_128 (fun H locs hP hD hS => ?_)
        have ef614 : upd g30_602 (nI ((16 * (nt - 1)) + i)).toNatClampNeg (((((dw9 * 6364136223846793005) + 1442695040888963407).toUInt64 >>> ((56 : Int32).toInt64.toUInt64 &&& Int64.toUInt64 63)).toInt64).toInt32) = upd g30_602 ((16 * (nt - 1)) + i) (((((dw9 * 6364136223846793005) + 1442695040888963407).toUInt64 >>> ((56 : Int32).toInt64.toUInt64 &&& Int64.toUInt64 63)).toInt64).toInt32) := by rw [show (nI ((16 * (nt - 1)) + i)).toNatClampNeg = (16 * (nt - 1)) + i from nI_clamp (by omega)]
        rw [ef614] at hP hD
        have hP : va_P (dC, dI) vcl [(r 7, .inl ((cT 0), 1000, .inl f7)), (r 15, .inl ((cT 0), 200, .inl f15)), (mo, .inr (12, mdG r cd tm (nI sn) (nI tx) (nI lz) (nI az) (nI na) (nI (nt - 1)) (nI nr) mw ml (mk + 1) ((dw9 * 6364136223846793005) + 1442695040888963407))), (r 25, .inl ((cT 1), 7, .inr (.inl (vp_updL g25_591 (nI (nt - 1)).toNatClampNeg (mk + 1))))), (r 26, .inl ((cT 0), 7, .inl (upd g26_592 (nt - 1) x))), (r 27, .inl ((cT 0), 7, .inl (upd g27_593 (nt - 1) y))), (r 28, .inl ((cT 0), 7, .inl (upd g28_594 (nt - 1) z9))), (r 29, .inl ((cT 0), 7, .inl (upd g29_595 (nt - 1) tm))), (r 30, .inl ((cT 0), 112, .inl (upd g30_602 ((16 * (nt - 1)) + i) (((((dw9 * 6364136223846793005) + 1442695040888963407).toUInt64 >>> ((56 : Int32).toInt64.toUInt64 &&& Int64.toUInt64 63)).toInt64).toInt32))))] H := hP
        have hD : va_D A [(r 7, .inl ((cT 0), 1000, .inl f7)), (r 15, .inl ((cT 0), 200, .inl f15)), (mo, .inr (12, mdG r cd tm (nI sn) (nI tx) (nI lz) (nI az) (nI na) (nI (nt - 1)) (nI nr) mw ml (mk + 1) ((dw9 * 6364136223846793005) + 1442695040888963407))), (r 25, .inl ((cT 1), 7, .inr (.inl (vp_updL g25_591 (nI (nt - 1)).toNatClampNeg (mk + 1))))), (r 26, .inl ((cT 0), 7, .inl (upd g26_592 (nt - 1) x))), (r 27, .inl ((cT 0), 7, .inl (upd g27_593 (nt - 1) y))), (r 28, .inl ((cT 0), 7, .inl (upd g28_594 (nt - 1) z9))), (r 29, .inl ((cT 0), 7, .inl (upd g29_595 (nt - 1) tm))), (r 30, .inl ((cT 0), 112, .inl (upd g30_602 ((16 * (nt - 1)) + i) (((((dw9 * 6364136223846793005) + 1442695040888963407).toUInt64 >>> ((56 : Int32).toInt64.toUInt64 &&& Int64.toUInt64 63)).toInt64).toInt32))))] := hD
        refine lv_iinc (k := 0) (v := nI (i + 1)) (lv' := [(4, .int (nI (i + 1))), (0, .ref mo), (1, .int x), (2, .int y), (3, .int z9)]) hx hb d_Md_challenge_129 hl rfl (nI_1 i) (by decide) rfl (fun ls hl => ?_)
        refine lv_goto (tgt := 83) hx hb d_Md_challenge_132 (by decide) ?_
        have hl := lv_sub hl [0, 1, 2, 3, 4] (show _ = [(4, .int (nI (i + 1))), (0, .ref mo), (1, .int x), (2, .int y), (3, .int z9)] from rfl)
        exact ih (i + 1) _ _ _ _ _ (by omega)  hP hD hS hl
    refine L603 _ (fun g30_602 dw9 H locs ls  hP hD hS hl => ?_) (16 - 0) 0 g30_596 dq H _ ls (by omega)  hP hD hS hl
    refine lv_aload_n hx hb d_Md_challenge_135 rfl (lv_at hl 1 rfl) ?_
    refine lv_bipush (v := 11) hx hb d_Md_challenge_136 (by decide) ?_
    have hPc := hP.sub (ws' := [(mo, .inr (12, mdG r cd tm (nI sn) (nI tx) (nI lz) (nI az) (nI na) (nI (nt - 1)) (nI nr) mw ml (mk + 1) dw9)), (r 7, .inl ((cT 0), 1000, .inl f7)), (r 15, .inl ((cT 0), 200, .inl f15))]) [2, 0, 1] rfl
    have hDc := hD.sub (ws' := [(mo, .inr (12, mdG r cd tm (nI sn) (nI tx) (nI lz) (nI az) (nI na) (nI (nt - 1)) (nI nr) mw ml (mk + 1) dw9)), (r 7, .inl ((cT 0), 1000, .inl f7)), (r 15, .inl ((cT 0), 200, .inl f15))]) [2, 0, 1] (by decide) rfl
    have hFc := va_free (wc := [(mo, .inr (12, mdG r cd tm (nI sn) (nI tx) (nI lz) (nI az) (nI na) (nI (nt - 1)) (nI nr) mw ml (mk + 1) dw9)), (r 7, .inl ((cT 0), 1000, .inl f7)), (r 15, .inl ((cT 0), 200, .inl f15))]) hD hS hA [2, 0, 1] rfl
    refine va_callv (va_runV (C := "DoorServerModel") (As := [.int 11]) (rest := []) ⟨hx, hb, hml, hown, hg⟩ (m_open l dC dI cT H.size mo r cd tm sn tx lz az na (nt - 1) nr mw ml (mk + 1) dw9 f7 f15 11 ) (cwV 1 hg (gI (List.forall_mem_append.mpr ⟨List.forall_mem_cons.mpr ⟨k_1333, List.forall_mem_cons.mpr ⟨k_1335, List.forall_mem_cons.mpr ⟨(big_sel (q := y_Md_open) (n := 45) (by decide +kernel)), List.forall_mem_cons.mpr ⟨k_13, fun _ h => absurd h List.not_mem_nil⟩⟩⟩⟩, List.forall_mem_cons.mpr ⟨k_1336, fun _ h => h⟩⟩)) rfl rfl rfl (by decide +kernel) ⟨Nat.le_of_ble_eq_true rfl, Nat.le_of_ble_eq_true rfl⟩) ⟨fun a U g mk q => by obtain ⟨q0, q1, qP, qK, qD⟩ := q; exact ⟨q0, q1, qP, va_K.moved (u := U) (U := U.calling g mk a) (Vm.Alike.refl U.vm) qK, qD⟩, va_recv (q0 := 2) (ci := 12) hK hP rfl rfl, fun U hU hW => ⟨rfl, by rw [hU], by rw [hU]; exact hPc, va_K.moved hW.alike hK, hDc.weaken (fun _ _ _ _ => trivial)⟩⟩ rfl rfl hl.1 rfl (lv_room (Nat.le_of_ble_eq_true rfl)) d_Md_challenge_138 ⟨Nat.le_of_ble_eq_true rfl, Nat.le_of_ble_eq_true rfl⟩) hS (fun q _ h => hFc q h) hFc (fun u t H1 locs ht hvm hw hB hz1 hk1 hS => ?_)
    obtain ⟨g15_615, rfl⟩ : ∃ z, z = u := ⟨_, rfl⟩
    try dsimp only at hw hB
    obtain ⟨hP1, hK1, hD1⟩ := hB
    rw [ht] at hP1
    obtain ⟨hP, hD⟩ := va_join (wr := [(r 25, .inl ((cT 1), 7, .inr (.inl (vp_updL g25_591 (nI (nt - 1)).toNatClampNeg (mk + 1))))), (r 26, .inl ((cT 0), 7, .inl (upd g26_592 (nt - 1) x))), (r 27, .inl ((cT 0), 7, .inl (upd g27_593 (nt - 1) y))), (r 28, .inl ((cT 0), 7, .inl (upd g28_594 (nt - 1) z9))), (r 29, .inl ((cT 0), 7, .inl (upd g29_595 (nt - 1) tm))), (r 30, .inl ((cT 0), 112, .inl g30_602))]) (w1 := [(mo, .inr (12, mdG r cd tm (nI sn) (nI tx) (nI lz) (nI 20) (nI na) (nI (nt - 1)) (nI nr) mw ml (mk + 1) dw9)), (r 7, .inl ((cT 0), 1000, .inl f7)), (r 15, .inl ((cT 0), 200, .inl g15_615))]) hP hD [2, 0, 1] [3, 4, 5, 6, 7, 8] rfl rfl (by decide) (by decide) hk1 hFc hP1 hD1
    have hw616 := hw
    clear hPc hDc hFc hz1 hk1 hP1 hK1 hD1
    generalize H1 = H at hP hS ⊢
    have hP : va_P (dC, dI) vcl [(r 25, .inl ((cT 1), 7, .inr (.inl (vp_updL g25_591 (nI (nt - 1)).toNatClampNeg (mk + 1))))), (r 26, .inl ((cT 0), 7, .inl (upd g26_592 (nt - 1) x))), (r 27, .inl ((cT 0), 7, .inl (upd g27_593 (nt - 1) y))), (r 28, .inl ((cT 0), 7, .inl (upd g28_594 (nt - 1) z9))), (r 29, .inl ((cT 0), 7, .inl (upd g29_595 (nt - 1) tm))), (r 30, .inl ((cT 0), 112, .inl g30_602)), (mo, .inr (12, mdG r cd tm (nI sn) (nI tx) (nI lz) (nI 20) (nI na) (nI (nt - 1)) (nI nr) mw ml (mk + 1) dw9)), (r 7, .inl ((cT 0), 1000, .inl f7)), (r 15, .inl ((cT 0), 200, .inl g15_615))] H := hP
    have hD : va_D A [(r 25, .inl ((cT 1), 7, .inr (.inl (vp_updL g25_591 (nI (nt - 1)).toNatClampNeg (mk + 1))))), (r 26, .inl ((cT 0), 7, .inl (upd g26_592 (nt - 1) x))), (r 27, .inl ((cT 0), 7, .inl (upd g27_593 (nt - 1) y))), (r 28, .inl ((cT 0), 7, .inl (upd g28_594 (nt - 1) z9))), (r 29, .inl ((cT 0), 7, .inl (upd g29_595 (nt - 1) tm))), (r 30, .inl ((cT 0), 112, .inl g30_602)), (mo, .inr (12, mdG r cd tm (nI sn) (nI tx) (nI lz) (nI 20) (nI na) (nI (nt - 1)) (nI nr) mw ml (mk + 1) dw9)), (r 7, .inl ((cT 0), 1000, .inl f7)), (r 15, .inl ((cT 0), 200, .inl g15_615))] := hD
    refine lv_aload_n hx hb d_Md_challenge_141 rfl (lv_at hl 1 rfl) ?_
    refine lv_bipush (v := 24) hx hb d_Md_challenge_142 (by decide) ?_
    have hPc := hP.sub (ws' := [(mo, .inr (12, mdG r cd tm (nI sn) (nI tx) (nI lz) (nI 20) (nI na) (nI (nt - 1)) (nI nr) mw ml (mk + 1) dw9)), (r 15, .inl ((cT 0), 200, .inl g15_615))]) [6, 8] rfl
    have hDc := hD.sub (ws' := [(mo, .inr (12, mdG r cd tm (nI sn) (nI tx) (nI lz) (nI 20) (nI na) (nI (nt - 1)) (nI nr) mw ml (mk + 1) dw9)), (r 15, .inl ((cT 0), 200, .inl g15_615))]) [6, 8] (by decide) rfl
    have hFc := va_free (wc := [(mo, .inr (12, mdG r cd tm (nI sn) (nI tx) (nI lz) (nI 20) (nI na) (nI (nt - 1)) (nI nr) mw ml (mk + 1) dw9)), (r 15, .inl ((cT 0), 200, .inl g15_615))]) hD hS hA [6, 8] rfl
    refine va_callv (va_runV (C := "DoorServerModel") (As := [.int 24]) (rest := []) ⟨hx, hb, hml, hown, hg⟩ (m_tell l dC dI cT H.size mo r cd tm sn tx lz 20 na (nt - 1) nr mw ml (mk + 1) dw9 g15_615 24 (by first | assumption | omega)) (cwV 1 hg (gI (List.forall_mem_append.mpr ⟨List.forall_mem_cons.mpr ⟨k_1337, List.forall_mem_cons.mpr ⟨k_1339, List.forall_mem_cons.mpr ⟨(big_sel (q := y_Md_tell) (n := 45) (by decide +kernel)), List.forall_mem_cons.mpr ⟨k_13, fun _ h => absurd h List.not_mem_nil⟩⟩⟩⟩, List.forall_mem_cons.mpr ⟨k_1340, fun _ h => h⟩⟩)) rfl rfl rfl (by decide +kernel) ⟨Nat.le_of_ble_eq_true rfl, Nat.le_of_ble_eq_true rfl⟩) ⟨fun a U g mk q => by obtain ⟨q0, q1, qP, qK, qD⟩ := q; exact ⟨q0, q1, qP, va_K.moved (u := U) (U := U.calling g mk a) (Vm.Alike.refl U.vm) qK, qD⟩, va_recv (q0 := 6) (ci := 12) hK hP rfl rfl, fun U hU hW => ⟨rfl, by rw [hU], by rw [hU]; exact hPc, va_K.moved hW.alike hK, hDc.weaken (fun _ _ _ _ => trivial)⟩⟩ rfl rfl hl.1 rfl (lv_room (Nat.le_of_ble_eq_true rfl)) d_Md_challenge_144 ⟨Nat.le_of_ble_eq_true rfl, Nat.le_of_ble_eq_true rfl⟩) hS (fun q _ h => hFc q h) hFc (fun u t H1 locs ht hvm hw hB hz1 hk1 hS => ?_)
    obtain ⟨g15_617, rfl⟩ : ∃ z, z = u := ⟨_, rfl⟩
    try dsimp only at hw hB
    obtain ⟨hP1, hK1, hD1⟩ := hB
    rw [ht] at hP1
    obtain ⟨hP, hD⟩ := va_join (wr := [(r 25, .inl ((cT 1), 7, .inr (.inl (vp_updL g25_591 (nI (nt - 1)).toNatClampNeg (mk + 1))))), (r 26, .inl ((cT 0), 7, .inl (upd g26_592 (nt - 1) x))), (r 27, .inl ((cT 0), 7, .inl (upd g27_593 (nt - 1) y))), (r 28, .inl ((cT 0), 7, .inl (upd g28_594 (nt - 1) z9))), (r 29, .inl ((cT 0), 7, .inl (upd g29_595 (nt - 1) tm))), (r 30, .inl ((cT 0), 112, .inl g30_602)), (r 7, .inl ((cT 0), 1000, .inl f7))]) (w1 := [(mo, .inr (12, mdG r cd tm (nI sn) (nI tx) (nI lz) (nI (20 + 1)) (nI na) (nI (nt - 1)) (nI nr) mw ml (mk + 1) dw9)), (r 15, .inl ((cT 0), 200, .inl g15_617))]) hP hD [6, 8] [0, 1, 2, 3, 4, 5, 7] rfl rfl (by decide) (by decide) hk1 hFc hP1 hD1
    have hw618 := hw
    clear hPc hDc hFc hz1 hk1 hP1 hK1 hD1
    generalize H1 = H at hP hS ⊢
    have hP : va_P (dC, dI) vcl [(r 25, .inl ((cT 1), 7, .inr (.inl (vp_updL g25_591 (nI (nt - 1)).toNatClampNeg (mk + 1))))), (r 26, .inl ((cT 0), 7, .inl (upd g26_592 (nt - 1) x))), (r 27, .inl ((cT 0), 7, .inl (upd g27_593 (nt - 1) y))), (r 28, .inl ((cT 0), 7, .inl (upd g28_594 (nt - 1) z9))), (r 29, .inl ((cT 0), 7, .inl (upd g29_595 (nt - 1) tm))), (r 30, .inl ((cT 0), 112, .inl g30_602)), (r 7, .inl ((cT 0), 1000, .inl f7)), (mo, .inr (12, mdG r cd tm (nI sn) (nI tx) (nI lz) (nI (20 + 1)) (nI na) (nI (nt - 1)) (nI nr) mw ml (mk + 1) dw9)), (r 15, .inl ((cT 0), 200, .inl g15_617))] H := hP
    have hD : va_D A [(r 25, .inl ((cT 1), 7, .inr (.inl (vp_updL g25_591 (nI (nt - 1)).toNatClampNeg (mk + 1))))), (r 26, .inl ((cT 0), 7, .inl (upd g26_592 (nt - 1) x))), (r 27, .inl ((cT 0), 7, .inl (upd g27_593 (nt - 1) y))), (r 28, .inl ((cT 0), 7, .inl (upd g28_594 (nt - 1) z9))), (r 29, .inl ((cT 0), 7, .inl (upd g29_595 (nt - 1) tm))), (r 30, .inl ((cT 0), 112, .inl g30_602)), (r 7, .inl ((cT 0), 1000, .inl f7)), (mo, .inr (12, mdG r cd tm (nI sn) (nI tx) (nI lz) (nI (20 + 1)) (nI na) (nI (nt - 1)) (nI nr) mw ml (mk + 1) dw9)), (r 15, .inl ((cT 0), 200, .inl g15_617))] := hD
    refine lv_aload_n hx hb d_Md_challenge_147 rfl (lv_at hl 1 rfl) ?_
    refine lv_bipush (v := 10) hx hb d_Md_challenge_148 (by decide) ?_
    have hPc := hP.sub (ws' := [(mo, .inr (12, mdG r cd tm (nI sn) (nI tx) (nI lz) (nI (20 + 1)) (nI na) (nI (nt - 1)) (nI nr) mw ml (mk + 1) dw9)), (r 15, .inl ((cT 0), 200, .inl g15_617))]) [7, 8] rfl
    have hDc := hD.sub (ws' := [(mo, .inr (12, mdG r cd tm (nI sn) (nI tx) (nI lz) (nI (20 + 1)) (nI na) (nI (nt - 1)) (nI nr) mw ml (mk + 1) dw9)), (r 15, .inl ((cT 0), 200, .inl g15_617))]) [7, 8] (by decide) rfl
    have hFc := va_free (wc := [(mo, .inr (12, mdG r cd tm (nI sn) (nI tx) (nI lz) (nI (20 + 1)) (nI na) (nI (nt - 1)) (nI nr) mw ml (mk + 1) dw9)), (r 15, .inl ((cT 0), 200, .inl g15_617))]) hD hS hA [7, 8] rfl
    refine va_callv (va_runV (C := "DoorServerModel") (As := [.int 10]) (rest := []) ⟨hx, hb, hml, hown, hg⟩ (m_tell l dC dI cT H.size mo r cd tm sn tx lz (20 + 1) na (nt - 1) nr mw ml (mk + 1) dw9 g15_617 10 (by first | assumption | omega)) (cwV 1 hg (gI (List.forall_mem_append.mpr ⟨List.forall_mem_cons.mpr ⟨k_1337, List.forall_mem_cons.mpr ⟨k_1339, List.forall_mem_cons.mpr ⟨(big_sel (q := y_Md_tell) (n := 45) (by decide +kernel)), List.forall_mem_cons.mpr ⟨k_13, fun _ h => absurd h List.not_mem_nil⟩⟩⟩⟩, List.forall_mem_cons.mpr ⟨k_1340, fun _ h => h⟩⟩)) rfl rfl rfl (by decide +kernel) ⟨Nat.le_of_ble_eq_true rfl, Nat.le_of_ble_eq_true rfl⟩) ⟨fun a U g mk q => by obtain ⟨q0, q1, qP, qK, qD⟩ := q; exact ⟨q0, q1, qP, va_K.moved (u := U) (U := U.calling g mk a) (Vm.Alike.refl U.vm) qK, qD⟩, va_recv (q0 := 7) (ci := 12) hK hP rfl rfl, fun U hU hW => ⟨rfl, by rw [hU], by rw [hU]; exact hPc, va_K.moved hW.alike hK, hDc.weaken (fun _ _ _ _ => trivial)⟩⟩ rfl rfl hl.1 rfl (lv_room (Nat.le_of_ble_eq_true rfl)) d_Md_challenge_150 ⟨Nat.le_of_ble_eq_true rfl, Nat.le_of_ble_eq_true rfl⟩) hS (fun q _ h => hFc q h) hFc (fun u t H1 locs ht hvm hw hB hz1 hk1 hS => ?_)
    obtain ⟨g15_619, rfl⟩ : ∃ z, z = u := ⟨_, rfl⟩
    try dsimp only at hw hB
    obtain ⟨hP1, hK1, hD1⟩ := hB
    rw [ht] at hP1
    obtain ⟨hP, hD⟩ := va_join (wr := [(r 25, .inl ((cT 1), 7, .inr (.inl (vp_updL g25_591 (nI (nt - 1)).toNatClampNeg (mk + 1))))), (r 26, .inl ((cT 0), 7, .inl (upd g26_592 (nt - 1) x))), (r 27, .inl ((cT 0), 7, .inl (upd g27_593 (nt - 1) y))), (r 28, .inl ((cT 0), 7, .inl (upd g28_594 (nt - 1) z9))), (r 29, .inl ((cT 0), 7, .inl (upd g29_595 (nt - 1) tm))), (r 30, .inl ((cT 0), 112, .inl g30_602)), (r 7, .inl ((cT 0), 1000, .inl f7))]) (w1 := [(mo, .inr (12, mdG r cd tm (nI sn) (nI tx) (nI lz) (nI ((20 + 1) + 1)) (nI na) (nI (nt - 1)) (nI nr) mw ml (mk + 1) dw9)), (r 15, .inl ((cT 0), 200, .inl g15_619))]) hP hD [7, 8] [0, 1, 2, 3, 4, 5, 6] rfl rfl (by decide) (by decide) hk1 hFc hP1 hD1
    have hw620 := hw
    clear hPc hDc hFc hz1 hk1 hP1 hK1 hD1
    generalize H1 = H at hP hS ⊢
    have hP : va_P (dC, dI) vcl [(r 25, .inl ((cT 1), 7, .inr (.inl (vp_updL g25_591 (nI (nt - 1)).toNatClampNeg (mk + 1))))), (r 26, .inl ((cT 0), 7, .inl (upd g26_592 (nt - 1) x))), (r 27, .inl ((cT 0), 7, .inl (upd g27_593 (nt - 1) y))), (r 28, .inl ((cT 0), 7, .inl (upd g28_594 (nt - 1) z9))), (r 29, .inl ((cT 0), 7, .inl (upd g29_595 (nt - 1) tm))), (r 30, .inl ((cT 0), 112, .inl g30_602)), (r 7, .inl ((cT 0), 1000, .inl f7)), (mo, .inr (12, mdG r cd tm (nI sn) (nI tx) (nI lz) (nI ((20 + 1) + 1)) (nI na) (nI (nt - 1)) (nI nr) mw ml (mk + 1) dw9)), (r 15, .inl ((cT 0), 200, .inl g15_619))] H := hP
    have hD : va_D A [(r 25, .inl ((cT 1), 7, .inr (.inl (vp_updL g25_591 (nI (nt - 1)).toNatClampNeg (mk + 1))))), (r 26, .inl ((cT 0), 7, .inl (upd g26_592 (nt - 1) x))), (r 27, .inl ((cT 0), 7, .inl (upd g27_593 (nt - 1) y))), (r 28, .inl ((cT 0), 7, .inl (upd g28_594 (nt - 1) z9))), (r 29, .inl ((cT 0), 7, .inl (upd g29_595 (nt - 1) tm))), (r 30, .inl ((cT 0), 112, .inl g30_602)), (r 7, .inl ((cT 0), 1000, .inl f7)), (mo, .inr (12, mdG r cd tm (nI sn) (nI tx) (nI lz) (nI ((20 + 1) + 1)) (nI na) (nI (nt - 1)) (nI nr) mw ml (mk + 1) dw9)), (r 15, .inl ((cT 0), 200, .inl g15_619))] := hD
    refine lv_bipush (v := 56) hx hb d_Md_challenge_153 (by decide) ?_
    refine lv_istore (lv' := [(4, .int 56), (0, .ref mo), (1, .int x), (2, .int y), (3, .int z9)]) hx hb d_Md_challenge_155 hl (by decide) rfl (fun ls hl => ?_)
    refine lv_iload hx hb d_Md_challenge_157 (lv_at hl 0 rfl) ?_
    refine lv_if_lt (tgt := 180) hx hb d_Md_challenge_159 (by decide) (fun hn9 => absurd hn9 (by decide)) (fun hc621 => ?_)
    refine lv_aload_n hx hb d_Md_challenge_162 rfl (lv_at hl 1 rfl) ?_
    refine lv_aload_n hx hb d_Md_challenge_163 rfl (lv_at hl 1 rfl) ?_
    refine va_get (D := (dC, dI)) (ci := 12) (v := (.long (mk + 1))) (C := R_Md) (T := F_Md) (N := 45) hx hb hg in_Md hown hK hP 7 rfl rfl 31 (by decide) (hg _ k_1051) (fun _ h9 => h9) rfl d_Md_challenge_164 ?_
    refine lv_iload hx hb d_Md_challenge_167 (lv_at hl 0 rfl) ?_
    refine lv_lshr (v := (mk + 1) >>> ((56 : Int32).toInt64 &&& 63)) hx hb d_Md_challenge_169 rfl ?_
    refine lv_l2i (v := ((mk + 1) >>> ((56 : Int32).toInt64 &&& 63)).toInt32) hx hb d_Md_challenge_170 rfl ?_
    have hPc := hP.sub (ws' := [(mo, .inr (12, mdG r cd tm (nI sn) (nI tx) (nI lz) (nI ((20 + 1) + 1)) (nI na) (nI (nt - 1)) (nI nr) mw ml (mk + 1) dw9)), (r 15, .inl ((cT 0), 200, .inl g15_619))]) [7, 8] rfl
    have hDc := hD.sub (ws' := [(mo, .inr (12, mdG r cd tm (nI sn) (nI tx) (nI lz) (nI ((20 + 1) + 1)) (nI na) (nI (nt - 1)) (nI nr) mw ml (mk + 1) dw9)), (r 15, .inl ((cT 0), 200, .inl g15_619))]) [7, 8] (by decide) rfl
    have hFc := va_free (wc := [(mo, .inr (12, mdG r cd tm (nI sn) (nI tx) (nI lz) (nI ((20 + 1) + 1)) (nI na) (nI (nt - 1)) (nI nr) mw ml (mk + 1) dw9)), (r 15, .inl ((cT 0), 200, .inl g15_619))]) hD hS hA [7, 8] rfl
    refine va_callv (va_runV (C := "DoorServerModel") (As := [.int (((mk + 1) >>> ((56 : Int32).toInt64 &&& 63)).toInt32)]) (rest := []) ⟨hx, hb, hml, hown, hg⟩ (m_tell l dC dI cT H.size mo r cd tm sn tx lz ((20 + 1) + 1) na (nt - 1) nr mw ml (mk + 1) dw9 g15_619 (((mk + 1) >>> ((56 : Int32).toInt64 &&& 63)).toInt32) (by first | assumption | omega)) (cwV 1 hg (gI (List.forall_mem_append.mpr ⟨List.forall_mem_cons.mpr ⟨k_1337, List.forall_mem_cons.mpr ⟨k_1339, List.forall_mem_cons.mpr ⟨(big_sel (q := y_Md_tell) (n := 45) (by decide +kernel)), List.forall_mem_cons.mpr ⟨k_13, fun _ h => absurd h List.not_mem_nil⟩⟩⟩⟩, List.forall_mem_cons.mpr ⟨k_1340, fun _ h => h⟩⟩)) rfl rfl rfl (by decide +kernel) ⟨Nat.le_of_ble_eq_true rfl, Nat.le_of_ble_eq_true rfl⟩) ⟨fun a U g mk q => by obtain ⟨q0, q1, qP, qK, qD⟩ := q; exact ⟨q0, q1, qP, va_K.moved (u := U) (U := U.calling g mk a) (Vm.Alike.refl U.vm) qK, qD⟩, va_recv (q0 := 7) (ci := 12) hK hP rfl rfl, fun U hU hW => ⟨rfl, by rw [hU], by rw [hU]; exact hPc, va_K.moved hW.alike hK, hDc.weaken (fun _ _ _ _ => trivial)⟩⟩ rfl rfl hl.1 rfl (lv_room (Nat.le_of_ble_eq_true rfl)) d_Md_challenge_171 ⟨Nat.le_of_ble_eq_true rfl, Nat.le_of_ble_eq_true rfl⟩) hS (fun q _ h => hFc q h) hFc (fun u t H1 locs ht hvm hw hB hz1 hk1 hS => ?_)
    obtain ⟨g15_622, rfl⟩ : ∃ z, z = u := ⟨_, rfl⟩
    try dsimp only at hw hB
    obtain ⟨hP1, hK1, hD1⟩ := hB
    rw [ht] at hP1
    obtain ⟨hP, hD⟩ := va_join (wr := [(r 25, .inl ((cT 1), 7, .inr (.inl (vp_updL g25_591 (nI (nt - 1)).toNatClampNeg (mk + 1))))), (r 26, .inl ((cT 0), 7, .inl (upd g26_592 (nt - 1) x))), (r 27, .inl ((cT 0), 7, .inl (upd g27_593 (nt - 1) y))), (r 28, .inl ((cT 0), 7, .inl (upd g28_594 (nt - 1) z9))), (r 29, .inl ((cT 0), 7, .inl (upd g29_595 (nt - 1) tm))), (r 30, .inl ((cT 0), 112, .inl g30_602)), (r 7, .inl ((cT 0), 1000, .inl f7))]) (w1 := [(mo, .inr (12, mdG r cd tm (nI sn) (nI tx) (nI lz) (nI (((20 + 1) + 1) + 1)) (nI na) (nI (nt - 1)) (nI nr) mw ml (mk + 1) dw9)), (r 15, .inl ((cT 0), 200, .inl g15_622))]) hP hD [7, 8] [0, 1, 2, 3, 4, 5, 6] rfl rfl (by decide) (by decide) hk1 hFc hP1 hD1
    have hw623 := hw
    clear hPc hDc hFc hz1 hk1 hP1 hK1 hD1
    generalize H1 = H at hP hS ⊢
    have hP : va_P (dC, dI) vcl [(r 25, .inl ((cT 1), 7, .inr (.inl (vp_updL g25_591 (nI (nt - 1)).toNatClampNeg (mk + 1))))), (r 26, .inl ((cT 0), 7, .inl (upd g26_592 (nt - 1) x))), (r 27, .inl ((cT 0), 7, .inl (upd g27_593 (nt - 1) y))), (r 28, .inl ((cT 0), 7, .inl (upd g28_594 (nt - 1) z9))), (r 29, .inl ((cT 0), 7, .inl (upd g29_595 (nt - 1) tm))), (r 30, .inl ((cT 0), 112, .inl g30_602)), (r 7, .inl ((cT 0), 1000, .inl f7)), (mo, .inr (12, mdG r cd tm (nI sn) (nI tx) (nI lz) (nI (((20 + 1) + 1) + 1)) (nI na) (nI (nt - 1)) (nI nr) mw ml (mk + 1) dw9)), (r 15, .inl ((cT 0), 200, .inl g15_622))] H := hP
    have hD : va_D A [(r 25, .inl ((cT 1), 7, .inr (.inl (vp_updL g25_591 (nI (nt - 1)).toNatClampNeg (mk + 1))))), (r 26, .inl ((cT 0), 7, .inl (upd g26_592 (nt - 1) x))), (r 27, .inl ((cT 0), 7, .inl (upd g27_593 (nt - 1) y))), (r 28, .inl ((cT 0), 7, .inl (upd g28_594 (nt - 1) z9))), (r 29, .inl ((cT 0), 7, .inl (upd g29_595 (nt - 1) tm))), (r 30, .inl ((cT 0), 112, .inl g30_602)), (r 7, .inl ((cT 0), 1000, .inl f7)), (mo, .inr (12, mdG r cd tm (nI sn) (nI tx) (nI lz) (nI (((20 + 1) + 1) + 1)) (nI na) (nI (nt - 1)) (nI nr) mw ml (mk + 1) dw9)), (r 15, .inl ((cT 0), 200, .inl g15_622))] := hD
    refine lv_iinc (k := 0) (v := 48) (lv' := [(4, .int 48), (0, .ref mo), (1, .int x), (2, .int y), (3, .int z9)]) hx hb d_Md_challenge_174 hl rfl (by decide) (by decide) rfl (fun ls hl => ?_)
    refine lv_goto (tgt := 157) hx hb d_Md_challenge_177 (by decide) ?_
    refine lv_iload hx hb d_Md_challenge_157 (lv_at hl 0 rfl) ?_
    refine lv_if_lt (tgt := 180) hx hb d_Md_challenge_159 (by decide) (fun hn9 => absurd hn9 (by decide)) (fun hc624 => ?_)
    refine lv_aload_n hx hb d_Md_challenge_162 rfl (lv_at hl 1 rfl) ?_
    refine lv_aload_n hx hb d_Md_challenge_163 rfl (lv_at hl 1 rfl) ?_
    refine va_get (D := (dC, dI)) (ci := 12) (v := (.long (mk + 1))) (C := R_Md) (T := F_Md) (N := 45) hx hb hg in_Md hown hK hP 7 rfl rfl 31 (by decide) (hg _ k_1051) (fun _ h9 => h9) rfl d_Md_challenge_164 ?_
    refine lv_iload hx hb d_Md_challenge_167 (lv_at hl 0 rfl) ?_
    refine lv_lshr (v := (mk + 1) >>> ((48 : Int32).toInt64 &&& 63)) hx hb d_Md_challenge_169 rfl ?_
    refine lv_l2i (v := ((mk + 1) >>> ((48 : Int32).toInt64 &&& 63)).toInt32) hx hb d_Md_challenge_170 rfl ?_
    have hPc := hP.sub (ws' := [(mo, .inr (12, mdG r cd tm (nI sn) (nI tx) (nI lz) (nI (((20 + 1) + 1) + 1)) (nI na) (nI (nt - 1)) (nI nr) mw ml (mk + 1) dw9)), (r 15, .inl ((cT 0), 200, .inl g15_622))]) [7, 8] rfl
    have hDc := hD.sub (ws' := [(mo, .inr (12, mdG r cd tm (nI sn) (nI tx) (nI lz) (nI (((20 + 1) + 1) + 1)) (nI na) (nI (nt - 1)) (nI nr) mw ml (mk + 1) dw9)), (r 15, .inl ((cT 0), 200, .inl g15_622))]) [7, 8] (by decide) rfl
    have hFc := va_free (wc := [(mo, .inr (12, mdG r cd tm (nI sn) (nI tx) (nI lz) (nI (((20 + 1) + 1) + 1)) (nI na) (nI (nt - 1)) (nI nr) mw ml (mk + 1) dw9)), (r 15, .inl ((cT 0), 200, .inl g15_622))]) hD hS hA [7, 8] rfl
    refine va_callv (va_runV (C := "DoorServerModel") (As := [.int (((mk + 1) >>> ((48 : Int32).toInt64 &&& 63)).toInt32)]) (rest := []) ⟨hx, hb, hml, hown, hg⟩ (m_tell l dC dI cT H.size mo r cd tm sn tx lz (((20 + 1) + 1) + 1) na (nt - 1) nr mw ml (mk + 1) dw9 g15_622 (((mk + 1) >>> ((48 : Int32).toInt64 &&& 63)).toInt32) (by first | assumption | omega)) (cwV 1 hg (gI (List.forall_mem_append.mpr ⟨List.forall_mem_cons.mpr ⟨k_1337, List.forall_mem_cons.mpr ⟨k_1339, List.forall_mem_cons.mpr ⟨(big_sel (q := y_Md_tell) (n := 45) (by decide +kernel)), List.forall_mem_cons.mpr ⟨k_13, fun _ h => absurd h List.not_mem_nil⟩⟩⟩⟩, List.forall_mem_cons.mpr ⟨k_1340, fun _ h => h⟩⟩)) rfl rfl rfl (by decide +kernel) ⟨Nat.le_of_ble_eq_true rfl, Nat.le_of_ble_eq_true rfl⟩) ⟨fun a U g mk q => by obtain ⟨q0, q1, qP, qK, qD⟩ := q; exact ⟨q0, q1, qP, va_K.moved (u := U) (U := U.calling g mk a) (Vm.Alike.refl U.vm) qK, qD⟩, va_recv (q0 := 7) (ci := 12) hK hP rfl rfl, fun U hU hW => ⟨rfl, by rw [hU], by rw [hU]; exact hPc, va_K.moved hW.alike hK, hDc.weaken (fun _ _ _ _ => trivial)⟩⟩ rfl rfl hl.1 rfl (lv_room (Nat.le_of_ble_eq_true rfl)) d_Md_challenge_171 ⟨Nat.le_of_ble_eq_true rfl, Nat.le_of_ble_eq_true rfl⟩) hS (fun q _ h => hFc q h) hFc (fun u t H1 locs ht hvm hw hB hz1 hk1 hS => ?_)
    obtain ⟨g15_625, rfl⟩ : ∃ z, z = u := ⟨_, rfl⟩
    try dsimp only at hw hB
    obtain ⟨hP1, hK1, hD1⟩ := hB
    rw [ht] at hP1
    obtain ⟨hP, hD⟩ := va_join (wr := [(r 25, .inl ((cT 1), 7, .inr (.inl (vp_updL g25_591 (nI (nt - 1)).toNatClampNeg (mk + 1))))), (r 26, .inl ((cT 0), 7, .inl (upd g26_592 (nt - 1) x))), (r 27, .inl ((cT 0), 7, .inl (upd g27_593 (nt - 1) y))), (r 28, .inl ((cT 0), 7, .inl (upd g28_594 (nt - 1) z9))), (r 29, .inl ((cT 0), 7, .inl (upd g29_595 (nt - 1) tm))), (r 30, .inl ((cT 0), 112, .inl g30_602)), (r 7, .inl ((cT 0), 1000, .inl f7))]) (w1 := [(mo, .inr (12, mdG r cd tm (nI sn) (nI tx) (nI lz) (nI ((((20 + 1) + 1) + 1) + 1)) (nI na) (nI (nt - 1)) (nI nr) mw ml (mk + 1) dw9)), (r 15, .inl ((cT 0), 200, .inl g15_625))]) hP hD [7, 8] [0, 1, 2, 3, 4, 5, 6] rfl rfl (by decide) (by decide) hk1 hFc hP1 hD1
    have hw626 := hw
    clear hPc hDc hFc hz1 hk1 hP1 hK1 hD1
    generalize H1 = H at hP hS ⊢
    have hP : va_P (dC, dI) vcl [(r 25, .inl ((cT 1), 7, .inr (.inl (vp_updL g25_591 (nI (nt - 1)).toNatClampNeg (mk + 1))))), (r 26, .inl ((cT 0), 7, .inl (upd g26_592 (nt - 1) x))), (r 27, .inl ((cT 0), 7, .inl (upd g27_593 (nt - 1) y))), (r 28, .inl ((cT 0), 7, .inl (upd g28_594 (nt - 1) z9))), (r 29, .inl ((cT 0), 7, .inl (upd g29_595 (nt - 1) tm))), (r 30, .inl ((cT 0), 112, .inl g30_602)), (r 7, .inl ((cT 0), 1000, .inl f7)), (mo, .inr (12, mdG r cd tm (nI sn) (nI tx) (nI lz) (nI ((((20 + 1) + 1) + 1) + 1)) (nI na) (nI (nt - 1)) (nI nr) mw ml (mk + 1) dw9)), (r 15, .inl ((cT 0), 200, .inl g15_625))] H := hP
    have hD : va_D A [(r 25, .inl ((cT 1), 7, .inr (.inl (vp_updL g25_591 (nI (nt - 1)).toNatClampNeg (mk + 1))))), (r 26, .inl ((cT 0), 7, .inl (upd g26_592 (nt - 1) x))), (r 27, .inl ((cT 0), 7, .inl (upd g27_593 (nt - 1) y))), (r 28, .inl ((cT 0), 7, .inl (upd g28_594 (nt - 1) z9))), (r 29, .inl ((cT 0), 7, .inl (upd g29_595 (nt - 1) tm))), (r 30, .inl ((cT 0), 112, .inl g30_602)), (r 7, .inl ((cT 0), 1000, .inl f7)), (mo, .inr (12, mdG r cd tm (nI sn) (nI tx) (nI lz) (nI ((((20 + 1) + 1) + 1) + 1)) (nI na) (nI (nt - 1)) (nI nr) mw ml (mk + 1) dw9)), (r 15, .inl ((cT 0), 200, .inl g15_625))] := hD
    refine lv_iinc (k := 0) (v := 40) (lv' := [(4, .int 40), (0, .ref mo), (1, .int x), (2, .int y), (3, .int z9)]) hx hb d_Md_challenge_174 hl rfl (by decide) (by decide) rfl (fun ls hl => ?_)
    refine lv_goto (tgt := 157) hx hb d_Md_challenge_177 (by decide) ?_
    refine lv_iload hx hb d_Md_challenge_157 (lv_at hl 0 rfl) ?_
    refine lv_if_lt (tgt := 180) hx hb d_Md_challenge_159 (by decide) (fun hn9 => absurd hn9 (by decide)) (fun hc627 => ?_)
    refine lv_aload_n hx hb d_Md_challenge_162 rfl (lv_at hl 1 rfl) ?_
    refine lv_aload_n hx hb d_Md_challenge_163 rfl (lv_at hl 1 rfl) ?_
    refine va_get (D := (dC, dI)) (ci := 12) (v := (.long (mk + 1))) (C := R_Md) (T := F_Md) (N := 45) hx hb hg in_Md hown hK hP 7 rfl rfl 31 (by decide) (hg _ k_1051) (fun _ h9 => h9) rfl d_Md_challenge_164 ?_
    refine lv_iload hx hb d_Md_challenge_167 (lv_at hl 0 rfl) ?_
    refine lv_lshr (v := (mk + 1) >>> ((40 : Int32).toInt64 &&& 63)) hx hb d_Md_challenge_169 rfl ?_
    refine lv_l2i (v := ((mk + 1) >>> ((40 : Int32).toInt64 &&& 63)).toInt32) hx hb d_Md_challenge_170 rfl ?_
    have hPc := hP.sub (ws' := [(mo, .inr (12, mdG r cd tm (nI sn) (nI tx) (nI lz) (nI ((((20 + 1) + 1) + 1) + 1)) (nI na) (nI (nt - 1)) (nI nr) mw ml (mk + 1) dw9)), (r 15, .inl ((cT 0), 200, .inl g15_625))]) [7, 8] rfl
    have hDc := hD.sub (ws' := [(mo, .inr (12, mdG r cd tm (nI sn) (nI tx) (nI lz) (nI ((((20 + 1) + 1) + 1) + 1)) (nI na) (nI (nt - 1)) (nI nr) mw ml (mk + 1) dw9)), (r 15, .inl ((cT 0), 200, .inl g15_625))]) [7, 8] (by decide) rfl
    have hFc := va_free (wc := [(mo, .inr (12, mdG r cd tm (nI sn) (nI tx) (nI lz) (nI ((((20 + 1) + 1) + 1) + 1)) (nI na) (nI (nt - 1)) (nI nr) mw ml (mk + 1) dw9)), (r 15, .inl ((cT 0), 200, .inl g15_625))]) hD hS hA [7, 8] rfl
    refine va_callv (va_runV (C := "DoorServerModel") (As := [.int (((mk + 1) >>> ((40 : Int32).toInt64 &&& 63)).toInt32)]) (rest := []) ⟨hx, hb, hml, hown, hg⟩ (m_tell l dC dI cT H.size mo r cd tm sn tx lz ((((20 + 1) + 1) + 1) + 1) na (nt - 1) nr mw ml (mk + 1) dw9 g15_625 (((mk + 1) >>> ((40 : Int32).toInt64 &&& 63)).toInt32) (by first | assumption | omega)) (cwV 1 hg (gI (List.forall_mem_append.mpr ⟨List.forall_mem_cons.mpr ⟨k_1337, List.forall_mem_cons.mpr ⟨k_1339, List.forall_mem_cons.mpr ⟨(big_sel (q := y_Md_tell) (n := 45) (by decide +kernel)), List.forall_mem_cons.mpr ⟨k_13, fun _ h => absurd h List.not_mem_nil⟩⟩⟩⟩, List.forall_mem_cons.mpr ⟨k_1340, fun _ h => h⟩⟩)) rfl rfl rfl (by decide +kernel) ⟨Nat.le_of_ble_eq_true rfl, Nat.le_of_ble_eq_true rfl⟩) ⟨fun a U g mk q => by obtain ⟨q0, q1, qP, qK, qD⟩ := q; exact ⟨q0, q1, qP, va_K.moved (u := U) (U := U.calling g mk a) (Vm.Alike.refl U.vm) qK, qD⟩, va_recv (q0 := 7) (ci := 12) hK hP rfl rfl, fun U hU hW => ⟨rfl, by rw [hU], by rw [hU]; exact hPc, va_K.moved hW.alike hK, hDc.weaken (fun _ _ _ _ => trivial)⟩⟩ rfl rfl hl.1 rfl (lv_room (Nat.le_of_ble_eq_true rfl)) d_Md_challenge_171 ⟨Nat.le_of_ble_eq_true rfl, Nat.le_of_ble_eq_true rfl⟩) hS (fun q _ h => hFc q h) hFc (fun u t H1 locs ht hvm hw hB hz1 hk1 hS => ?_)
    obtain ⟨g15_628, rfl⟩ : ∃ z, z = u := ⟨_, rfl⟩
    try dsimp only at hw hB
    obtain ⟨hP1, hK1, hD1⟩ := hB
    rw [ht] at hP1
    obtain ⟨hP, hD⟩ := va_join (wr := [(r 25, .inl ((cT 1), 7, .inr (.inl (vp_updL g25_591 (nI (nt - 1)).toNatClampNeg (mk + 1))))), (r 26, .inl ((cT 0), 7, .inl (upd g26_592 (nt - 1) x))), (r 27, .inl ((cT 0), 7, .inl (upd g27_593 (nt - 1) y))), (r 28, .inl ((cT 0), 7, .inl (upd g28_594 (nt - 1) z9))), (r 29, .inl ((cT 0), 7, .inl (upd g29_595 (nt - 1) tm))), (r 30, .inl ((cT 0), 112, .inl g30_602)), (r 7, .inl ((cT 0), 1000, .inl f7))]) (w1 := [(mo, .inr (12, mdG r cd tm (nI sn) (nI tx) (nI lz) (nI (((((20 + 1) + 1) + 1) + 1) + 1)) (nI na) (nI (nt - 1)) (nI nr) mw ml (mk + 1) dw9)), (r 15, .inl ((cT 0), 200, .inl g15_628))]) hP hD [7, 8] [0, 1, 2, 3, 4, 5, 6] rfl rfl (by decide) (by decide) hk1 hFc hP1 hD1
    have hw629 := hw
    clear hPc hDc hFc hz1 hk1 hP1 hK1 hD1
    generalize H1 = H at hP hS ⊢
    have hP : va_P (dC, dI) vcl [(r 25, .inl ((cT 1), 7, .inr (.inl (vp_updL g25_591 (nI (nt - 1)).toNatClampNeg (mk + 1))))), (r 26, .inl ((cT 0), 7, .inl (upd g26_592 (nt - 1) x))), (r 27, .inl ((cT 0), 7, .inl (upd g27_593 (nt - 1) y))), (r 28, .inl ((cT 0), 7, .inl (upd g28_594 (nt - 1) z9))), (r 29, .inl ((cT 0), 7, .inl (upd g29_595 (nt - 1) tm))), (r 30, .inl ((cT 0), 112, .inl g30_602)), (r 7, .inl ((cT 0), 1000, .inl f7)), (mo, .inr (12, mdG r cd tm (nI sn) (nI tx) (nI lz) (nI (((((20 + 1) + 1) + 1) + 1) + 1)) (nI na) (nI (nt - 1)) (nI nr) mw ml (mk + 1) dw9)), (r 15, .inl ((cT 0), 200, .inl g15_628))] H := hP
    have hD : va_D A [(r 25, .inl ((cT 1), 7, .inr (.inl (vp_updL g25_591 (nI (nt - 1)).toNatClampNeg (mk + 1))))), (r 26, .inl ((cT 0), 7, .inl (upd g26_592 (nt - 1) x))), (r 27, .inl ((cT 0), 7, .inl (upd g27_593 (nt - 1) y))), (r 28, .inl ((cT 0), 7, .inl (upd g28_594 (nt - 1) z9))), (r 29, .inl ((cT 0), 7, .inl (upd g29_595 (nt - 1) tm))), (r 30, .inl ((cT 0), 112, .inl g30_602)), (r 7, .inl ((cT 0), 1000, .inl f7)), (mo, .inr (12, mdG r cd tm (nI sn) (nI tx) (nI lz) (nI (((((20 + 1) + 1) + 1) + 1) + 1)) (nI na) (nI (nt - 1)) (nI nr) mw ml (mk + 1) dw9)), (r 15, .inl ((cT 0), 200, .inl g15_628))] := hD
    refine lv_iinc (k := 0) (v := 32) (lv' := [(4, .int 32), (0, .ref mo), (1, .int x), (2, .int y), (3, .int z9)]) hx hb d_Md_challenge_174 hl rfl (by decide) (by decide) rfl (fun ls hl => ?_)
    refine lv_goto (tgt := 157) hx hb d_Md_challenge_177 (by decide) ?_
    refine lv_iload hx hb d_Md_challenge_157 (lv_at hl 0 rfl) ?_
    refine lv_if_lt (tgt := 180) hx hb d_Md_challenge_159 (by decide) (fun hn9 => absurd hn9 (by decide)) (fun hc630 => ?_)
    refine lv_aload_n hx hb d_Md_challenge_162 rfl (lv_at hl 1 rfl) ?_
    refine lv_aload_n hx hb d_Md_challenge_163 rfl (lv_at hl 1 rfl) ?_
    refine va_get (D := (dC, dI)) (ci := 12) (v := (.long (mk + 1))) (C := R_Md) (T := F_Md) (N := 45) hx hb hg in_Md hown hK hP 7 rfl rfl 31 (by decide) (hg _ k_1051) (fun _ h9 => h9) rfl d_Md_challenge_164 ?_
    refine lv_iload hx hb d_Md_challenge_167 (lv_at hl 0 rfl) ?_
    refine lv_lshr (v := (mk + 1) >>> ((32 : Int32).toInt64 &&& 63)) hx hb d_Md_challenge_169 rfl ?_
    refine lv_l2i (v := ((mk + 1) >>> ((32 : Int32).toInt64 &&& 63)).toInt32) hx hb d_Md_challenge_170 rfl ?_
    have hPc := hP.sub (ws' := [(mo, .inr (12, mdG r cd tm (nI sn) (nI tx) (nI lz) (nI (((((20 + 1) + 1) + 1) + 1) + 1)) (nI na) (nI (nt - 1)) (nI nr) mw ml (mk + 1) dw9)), (r 15, .inl ((cT 0), 200, .inl g15_628))]) [7, 8] rfl
    have hDc := hD.sub (ws' := [(mo, .inr (12, mdG r cd tm (nI sn) (nI tx) (nI lz) (nI (((((20 + 1) + 1) + 1) + 1) + 1)) (nI na) (nI (nt - 1)) (nI nr) mw ml (mk + 1) dw9)), (r 15, .inl ((cT 0), 200, .inl g15_628))]) [7, 8] (by decide) rfl
    have hFc := va_free (wc := [(mo, .inr (12, mdG r cd tm (nI sn) (nI tx) (nI lz) (nI (((((20 + 1) + 1) + 1) + 1) + 1)) (nI na) (nI (nt - 1)) (nI nr) mw ml (mk + 1) dw9)), (r 15, .inl ((cT 0), 200, .inl g15_628))]) hD hS hA [7, 8] rfl
    refine va_callv (va_runV (C := "DoorServerModel") (As := [.int (((mk + 1) >>> ((32 : Int32).toInt64 &&& 63)).toInt32)]) (rest := []) ⟨hx, hb, hml, hown, hg⟩ (m_tell l dC dI cT H.size mo r cd tm sn tx lz (((((20 + 1) + 1) + 1) + 1) + 1) na (nt - 1) nr mw ml (mk + 1) dw9 g15_628 (((mk + 1) >>> ((32 : Int32).toInt64 &&& 63)).toInt32) (by first | assumption | omega)) (cwV 1 hg (gI (List.forall_mem_append.mpr ⟨List.forall_mem_cons.mpr ⟨k_1337, List.forall_mem_cons.mpr ⟨k_1339, List.forall_mem_cons.mpr ⟨(big_sel (q := y_Md_tell) (n := 45) (by decide +kernel)), List.forall_mem_cons.mpr ⟨k_13, fun _ h => absurd h List.not_mem_nil⟩⟩⟩⟩, List.forall_mem_cons.mpr ⟨k_1340, fun _ h => h⟩⟩)) rfl rfl rfl (by decide +kernel) ⟨Nat.le_of_ble_eq_true rfl, Nat.le_of_ble_eq_true rfl⟩) ⟨fun a U g mk q => by obtain ⟨q0, q1, qP, qK, qD⟩ := q; exact ⟨q0, q1, qP, va_K.moved (u := U) (U := U.calling g mk a) (Vm.Alike.refl U.vm) qK, qD⟩, va_recv (q0 := 7) (ci := 12) hK hP rfl rfl, fun U hU hW => ⟨rfl, by rw [hU], by rw [hU]; exact hPc, va_K.moved hW.alike hK, hDc.weaken (fun _ _ _ _ => trivial)⟩⟩ rfl rfl hl.1 rfl (lv_room (Nat.le_of_ble_eq_true rfl)) d_Md_challenge_171 ⟨Nat.le_of_ble_eq_true rfl, Nat.le_of_ble_eq_true rfl⟩) hS (fun q _ h => hFc q h) hFc (fun u t H1 locs ht hvm hw hB hz1 hk1 hS => ?_)
    obtain ⟨g15_631, rfl⟩ : ∃ z, z = u := ⟨_, rfl⟩
    try dsimp only at hw hB
    obtain ⟨hP1, hK1, hD1⟩ := hB
    rw [ht] at hP1
    obtain ⟨hP, hD⟩ := va_join (wr := [(r 25, .inl ((cT 1), 7, .inr (.inl (vp_updL g25_591 (nI (nt - 1)).toNatClampNeg (mk + 1))))), (r 26, .inl ((cT 0), 7, .inl (upd g26_592 (nt - 1) x))), (r 27, .inl ((cT 0), 7, .inl (upd g27_593 (nt - 1) y))), (r 28, .inl ((cT 0), 7, .inl (upd g28_594 (nt - 1) z9))), (r 29, .inl ((cT 0), 7, .inl (upd g29_595 (nt - 1) tm))), (r 30, .inl ((cT 0), 112, .inl g30_602)), (r 7, .inl ((cT 0), 1000, .inl f7))]) (w1 := [(mo, .inr (12, mdG r cd tm (nI sn) (nI tx) (nI lz) (nI ((((((20 + 1) + 1) + 1) + 1) + 1) + 1)) (nI na) (nI (nt - 1)) (nI nr) mw ml (mk + 1) dw9)), (r 15, .inl ((cT 0), 200, .inl g15_631))]) hP hD [7, 8] [0, 1, 2, 3, 4, 5, 6] rfl rfl (by decide) (by decide) hk1 hFc hP1 hD1
    have hw632 := hw
    clear hPc hDc hFc hz1 hk1 hP1 hK1 hD1
    generalize H1 = H at hP hS ⊢
    have hP : va_P (dC, dI) vcl [(r 25, .inl ((cT 1), 7, .inr (.inl (vp_updL g25_591 (nI (nt - 1)).toNatClampNeg (mk + 1))))), (r 26, .inl ((cT 0), 7, .inl (upd g26_592 (nt - 1) x))), (r 27, .inl ((cT 0), 7, .inl (upd g27_593 (nt - 1) y))), (r 28, .inl ((cT 0), 7, .inl (upd g28_594 (nt - 1) z9))), (r 29, .inl ((cT 0), 7, .inl (upd g29_595 (nt - 1) tm))), (r 30, .inl ((cT 0), 112, .inl g30_602)), (r 7, .inl ((cT 0), 1000, .inl f7)), (mo, .inr (12, mdG r cd tm (nI sn) (nI tx) (nI lz) (nI ((((((20 + 1) + 1) + 1) + 1) + 1) + 1)) (nI na) (nI (nt - 1)) (nI nr) mw ml (mk + 1) dw9)), (r 15, .inl ((cT 0), 200, .inl g15_631))] H := hP
    have hD : va_D A [(r 25, .inl ((cT 1), 7, .inr (.inl (vp_updL g25_591 (nI (nt - 1)).toNatClampNeg (mk + 1))))), (r 26, .inl ((cT 0), 7, .inl (upd g26_592 (nt - 1) x))), (r 27, .inl ((cT 0), 7, .inl (upd g27_593 (nt - 1) y))), (r 28, .inl ((cT 0), 7, .inl (upd g28_594 (nt - 1) z9))), (r 29, .inl ((cT 0), 7, .inl (upd g29_595 (nt - 1) tm))), (r 30, .inl ((cT 0), 112, .inl g30_602)), (r 7, .inl ((cT 0), 1000, .inl f7)), (mo, .inr (12, mdG r cd tm (nI sn) (nI tx) (nI lz) (nI ((((((20 + 1) + 1) + 1) + 1) + 1) + 1)) (nI na) (nI (nt - 1)) (nI nr) mw ml (mk + 1) dw9)), (r 15, .inl ((cT 0), 200, .inl g15_631))] := hD
    refine lv_iinc (k := 0) (v := 24) (lv' := [(4, .int 24), (0, .ref mo), (1, .int x), (2, .int y), (3, .int z9)]) hx hb d_Md_challenge_174 hl rfl (by decide) (by decide) rfl (fun ls hl => ?_)
    refine lv_goto (tgt := 157) hx hb d_Md_challenge_177 (by decide) ?_
    refine lv_iload hx hb d_Md_challenge_157 (lv_at hl 0 rfl) ?_
    refine lv_if_lt (tgt := 180) hx hb d_Md_challenge_159 (by decide) (fun hn9 => absurd hn9 (by decide)) (fun hc633 => ?_)
    refine lv_aload_n hx hb d_Md_challenge_162 rfl (lv_at hl 1 rfl) ?_
    refine lv_aload_n hx hb d_Md_challenge_163 rfl (lv_at hl 1 rfl) ?_
    refine va_get (D := (dC, dI)) (ci := 12) (v := (.long (mk + 1))) (C := R_Md) (T := F_Md) (N := 45) hx hb hg in_Md hown hK hP 7 rfl rfl 31 (by decide) (hg _ k_1051) (fun _ h9 => h9) rfl d_Md_challenge_164 ?_
    refine lv_iload hx hb d_Md_challenge_167 (lv_at hl 0 rfl) ?_
    refine lv_lshr (v := (mk + 1) >>> ((24 : Int32).toInt64 &&& 63)) hx hb d_Md_challenge_169 rfl ?_
    refine lv_l2i (v := ((mk + 1) >>> ((24 : Int32).toInt64 &&& 63)).toInt32) hx hb d_Md_challenge_170 rfl ?_
    have hPc := hP.sub (ws' := [(mo, .inr (12, mdG r cd tm (nI sn) (nI tx) (nI lz) (nI ((((((20 + 1) + 1) + 1) + 1) + 1) + 1)) (nI na) (nI (nt - 1)) (nI nr) mw ml (mk + 1) dw9)), (r 15, .inl ((cT 0), 200, .inl g15_631))]) [7, 8] rfl
    have hDc := hD.sub (ws' := [(mo, .inr (12, mdG r cd tm (nI sn) (nI tx) (nI lz) (nI ((((((20 + 1) + 1) + 1) + 1) + 1) + 1)) (nI na) (nI (nt - 1)) (nI nr) mw ml (mk + 1) dw9)), (r 15, .inl ((cT 0), 200, .inl g15_631))]) [7, 8] (by decide) rfl
    have hFc := va_free (wc := [(mo, .inr (12, mdG r cd tm (nI sn) (nI tx) (nI lz) (nI ((((((20 + 1) + 1) + 1) + 1) + 1) + 1)) (nI na) (nI (nt - 1)) (nI nr) mw ml (mk + 1) dw9)), (r 15, .inl ((cT 0), 200, .inl g15_631))]) hD hS hA [7, 8] rfl
    refine va_callv (va_runV (C := "DoorServerModel") (As := [.int (((mk + 1) >>> ((24 : Int32).toInt64 &&& 63)).toInt32)]) (rest := []) ⟨hx, hb, hml, hown, hg⟩ (m_tell l dC dI cT H.size mo r cd tm sn tx lz ((((((20 + 1) + 1) + 1) + 1) + 1) + 1) na (nt - 1) nr mw ml (mk + 1) dw9 g15_631 (((mk + 1) >>> ((24 : Int32).toInt64 &&& 63)).toInt32) (by first | assumption | omega)) (cwV 1 hg (gI (List.forall_mem_append.mpr ⟨List.forall_mem_cons.mpr ⟨k_1337, List.forall_mem_cons.mpr ⟨k_1339, List.forall_mem_cons.mpr ⟨(big_sel (q := y_Md_tell) (n := 45) (by decide +kernel)), List.forall_mem_cons.mpr ⟨k_13, fun _ h => absurd h List.not_mem_nil⟩⟩⟩⟩, List.forall_mem_cons.mpr ⟨k_1340, fun _ h => h⟩⟩)) rfl rfl rfl (by decide +kernel) ⟨Nat.le_of_ble_eq_true rfl, Nat.le_of_ble_eq_true rfl⟩) ⟨fun a U g mk q => by obtain ⟨q0, q1, qP, qK, qD⟩ := q; exact ⟨q0, q1, qP, va_K.moved (u := U) (U := U.calling g mk a) (Vm.Alike.refl U.vm) qK, qD⟩, va_recv (q0 := 7) (ci := 12) hK hP rfl rfl, fun U hU hW => ⟨rfl, by rw [hU], by rw [hU]; exact hPc, va_K.moved hW.alike hK, hDc.weaken (fun _ _ _ _ => trivial)⟩⟩ rfl rfl hl.1 rfl (lv_room (Nat.le_of_ble_eq_true rfl)) d_Md_challenge_171 ⟨Nat.le_of_ble_eq_true rfl, Nat.le_of_ble_eq_true rfl⟩) hS (fun q _ h => hFc q h) hFc (fun u t H1 locs ht hvm hw hB hz1 hk1 hS => ?_)
    obtain ⟨g15_634, rfl⟩ : ∃ z, z = u := ⟨_, rfl⟩
    try dsimp only at hw hB
    obtain ⟨hP1, hK1, hD1⟩ := hB
    rw [ht] at hP1
    obtain ⟨hP, hD⟩ := va_join (wr := [(r 25, .inl ((cT 1), 7, .inr (.inl (vp_updL g25_591 (nI (nt - 1)).toNatClampNeg (mk + 1))))), (r 26, .inl ((cT 0), 7, .inl (upd g26_592 (nt - 1) x))), (r 27, .inl ((cT 0), 7, .inl (upd g27_593 (nt - 1) y))), (r 28, .inl ((cT 0), 7, .inl (upd g28_594 (nt - 1) z9))), (r 29, .inl ((cT 0), 7, .inl (upd g29_595 (nt - 1) tm))), (r 30, .inl ((cT 0), 112, .inl g30_602)), (r 7, .inl ((cT 0), 1000, .inl f7))]) (w1 := [(mo, .inr (12, mdG r cd tm (nI sn) (nI tx) (nI lz) (nI (((((((20 + 1) + 1) + 1) + 1) + 1) + 1) + 1)) (nI na) (nI (nt - 1)) (nI nr) mw ml (mk + 1) dw9)), (r 15, .inl ((cT 0), 200, .inl g15_634))]) hP hD [7, 8] [0, 1, 2, 3, 4, 5, 6] rfl rfl (by decide) (by decide) hk1 hFc hP1 hD1
    have hw635 := hw
    clear hPc hDc hFc hz1 hk1 hP1 hK1 hD1
    generalize H1 = H at hP hS ⊢
    have hP : va_P (dC, dI) vcl [(r 25, .inl ((cT 1), 7, .inr (.inl (vp_updL g25_591 (nI (nt - 1)).toNatClampNeg (mk + 1))))), (r 26, .inl ((cT 0), 7, .inl (upd g26_592 (nt - 1) x))), (r 27, .inl ((cT 0), 7, .inl (upd g27_593 (nt - 1) y))), (r 28, .inl ((cT 0), 7, .inl (upd g28_594 (nt - 1) z9))), (r 29, .inl ((cT 0), 7, .inl (upd g29_595 (nt - 1) tm))), (r 30, .inl ((cT 0), 112, .inl g30_602)), (r 7, .inl ((cT 0), 1000, .inl f7)), (mo, .inr (12, mdG r cd tm (nI sn) (nI tx) (nI lz) (nI (((((((20 + 1) + 1) + 1) + 1) + 1) + 1) + 1)) (nI na) (nI (nt - 1)) (nI nr) mw ml (mk + 1) dw9)), (r 15, .inl ((cT 0), 200, .inl g15_634))] H := hP
    have hD : va_D A [(r 25, .inl ((cT 1), 7, .inr (.inl (vp_updL g25_591 (nI (nt - 1)).toNatClampNeg (mk + 1))))), (r 26, .inl ((cT 0), 7, .inl (upd g26_592 (nt - 1) x))), (r 27, .inl ((cT 0), 7, .inl (upd g27_593 (nt - 1) y))), (r 28, .inl ((cT 0), 7, .inl (upd g28_594 (nt - 1) z9))), (r 29, .inl ((cT 0), 7, .inl (upd g29_595 (nt - 1) tm))), (r 30, .inl ((cT 0), 112, .inl g30_602)), (r 7, .inl ((cT 0), 1000, .inl f7)), (mo, .inr (12, mdG r cd tm (nI sn) (nI tx) (nI lz) (nI (((((((20 + 1) + 1) + 1) + 1) + 1) + 1) + 1)) (nI na) (nI (nt - 1)) (nI nr) mw ml (mk + 1) dw9)), (r 15, .inl ((cT 0), 200, .inl g15_634))] := hD
    refine lv_iinc (k := 0) (v := 16) (lv' := [(4, .int 16), (0, .ref mo), (1, .int x), (2, .int y), (3, .int z9)]) hx hb d_Md_challenge_174 hl rfl (by decide) (by decide) rfl (fun ls hl => ?_)
    refine lv_goto (tgt := 157) hx hb d_Md_challenge_177 (by decide) ?_
    refine lv_iload hx hb d_Md_challenge_157 (lv_at hl 0 rfl) ?_
    refine lv_if_lt (tgt := 180) hx hb d_Md_challenge_159 (by decide) (fun hn9 => absurd hn9 (by decide)) (fun hc636 => ?_)
    refine lv_aload_n hx hb d_Md_challenge_162 rfl (lv_at hl 1 rfl) ?_
    refine lv_aload_n hx hb d_Md_challenge_163 rfl (lv_at hl 1 rfl) ?_
    refine va_get (D := (dC, dI)) (ci := 12) (v := (.long (mk + 1))) (C := R_Md) (T := F_Md) (N := 45) hx hb hg in_Md hown hK hP 7 rfl rfl 31 (by decide) (hg _ k_1051) (fun _ h9 => h9) rfl d_Md_challenge_164 ?_
    refine lv_iload hx hb d_Md_challenge_167 (lv_at hl 0 rfl) ?_
    refine lv_lshr (v := (mk + 1) >>> ((16 : Int32).toInt64 &&& 63)) hx hb d_Md_challenge_169 rfl ?_
    refine lv_l2i (v := ((mk + 1) >>> ((16 : Int32).toInt64 &&& 63)).toInt32) hx hb d_Md_challenge_170 rfl ?_
    have hPc := hP.sub (ws' := [(mo, .inr (12, mdG r cd tm (nI sn) (nI tx) (nI lz) (nI (((((((20 + 1) + 1) + 1) + 1) + 1) + 1) + 1)) (nI na) (nI (nt - 1)) (nI nr) mw ml (mk + 1) dw9)), (r 15, .inl ((cT 0), 200, .inl g15_634))]) [7, 8] rfl
    have hDc := hD.sub (ws' := [(mo, .inr (12, mdG r cd tm (nI sn) (nI tx) (nI lz) (nI (((((((20 + 1) + 1) + 1) + 1) + 1) + 1) + 1)) (nI na) (nI (nt - 1)) (nI nr) mw ml (mk + 1) dw9)), (r 15, .inl ((cT 0), 200, .inl g15_634))]) [7, 8] (by decide) rfl
    have hFc := va_free (wc := [(mo, .inr (12, mdG r cd tm (nI sn) (nI tx) (nI lz) (nI (((((((20 + 1) + 1) + 1) + 1) + 1) + 1) + 1)) (nI na) (nI (nt - 1)) (nI nr) mw ml (mk + 1) dw9)), (r 15, .inl ((cT 0), 200, .inl g15_634))]) hD hS hA [7, 8] rfl
    refine va_callv (va_runV (C := "DoorServerModel") (As := [.int (((mk + 1) >>> ((16 : Int32).toInt64 &&& 63)).toInt32)]) (rest := []) ⟨hx, hb, hml, hown, hg⟩ (m_tell l dC dI cT H.size mo r cd tm sn tx lz (((((((20 + 1) + 1) + 1) + 1) + 1) + 1) + 1) na (nt - 1) nr mw ml (mk + 1) dw9 g15_634 (((mk + 1) >>> ((16 : Int32).toInt64 &&& 63)).toInt32) (by first | assumption | omega)) (cwV 1 hg (gI (List.forall_mem_append.mpr ⟨List.forall_mem_cons.mpr ⟨k_1337, List.forall_mem_cons.mpr ⟨k_1339, List.forall_mem_cons.mpr ⟨(big_sel (q := y_Md_tell) (n := 45) (by decide +kernel)), List.forall_mem_cons.mpr ⟨k_13, fun _ h => absurd h List.not_mem_nil⟩⟩⟩⟩, List.forall_mem_cons.mpr ⟨k_1340, fun _ h => h⟩⟩)) rfl rfl rfl (by decide +kernel) ⟨Nat.le_of_ble_eq_true rfl, Nat.le_of_ble_eq_true rfl⟩) ⟨fun a U g mk q => by obtain ⟨q0, q1, qP, qK, qD⟩ := q; exact ⟨q0, q1, qP, va_K.moved (u := U) (U := U.calling g mk a) (Vm.Alike.refl U.vm) qK, qD⟩, va_recv (q0 := 7) (ci := 12) hK hP rfl rfl, fun U hU hW => ⟨rfl, by rw [hU], by rw [hU]; exact hPc, va_K.moved hW.alike hK, hDc.weaken (fun _ _ _ _ => trivial)⟩⟩ rfl rfl hl.1 rfl (lv_room (Nat.le_of_ble_eq_true rfl)) d_Md_challenge_171 ⟨Nat.le_of_ble_eq_true rfl, Nat.le_of_ble_eq_true rfl⟩) hS (fun q _ h => hFc q h) hFc (fun u t H1 locs ht hvm hw hB hz1 hk1 hS => ?_)
    obtain ⟨g15_637, rfl⟩ : ∃ z, z = u := ⟨_, rfl⟩
    try dsimp only at hw hB
    obtain ⟨hP1, hK1, hD1⟩ := hB
    rw [ht] at hP1
    obtain ⟨hP, hD⟩ := va_join (wr := [(r 25, .inl ((cT 1), 7, .inr (.inl (vp_updL g25_591 (nI (nt - 1)).toNatClampNeg (mk + 1))))), (r 26, .inl ((cT 0), 7, .inl (upd g26_592 (nt - 1) x))), (r 27, .inl ((cT 0), 7, .inl (upd g27_593 (nt - 1) y))), (r 28, .inl ((cT 0), 7, .inl (upd g28_594 (nt - 1) z9))), (r 29, .inl ((cT 0), 7, .inl (upd g29_595 (nt - 1) tm))), (r 30, .inl ((cT 0), 112, .inl g30_602)), (r 7, .inl ((cT 0), 1000, .inl f7))]) (w1 := [(mo, .inr (12, mdG r cd tm (nI sn) (nI tx) (nI lz) (nI ((((((((20 + 1) + 1) + 1) + 1) + 1) + 1) + 1) + 1)) (nI na) (nI (nt - 1)) (nI nr) mw ml (mk + 1) dw9)), (r 15, .inl ((cT 0), 200, .inl g15_637))]) hP hD [7, 8] [0, 1, 2, 3, 4, 5, 6] rfl rfl (by decide) (by decide) hk1 hFc hP1 hD1
    have hw638 := hw
    clear hPc hDc hFc hz1 hk1 hP1 hK1 hD1
    generalize H1 = H at hP hS ⊢
    have hP : va_P (dC, dI) vcl [(r 25, .inl ((cT 1), 7, .inr (.inl (vp_updL g25_591 (nI (nt - 1)).toNatClampNeg (mk + 1))))), (r 26, .inl ((cT 0), 7, .inl (upd g26_592 (nt - 1) x))), (r 27, .inl ((cT 0), 7, .inl (upd g27_593 (nt - 1) y))), (r 28, .inl ((cT 0), 7, .inl (upd g28_594 (nt - 1) z9))), (r 29, .inl ((cT 0), 7, .inl (upd g29_595 (nt - 1) tm))), (r 30, .inl ((cT 0), 112, .inl g30_602)), (r 7, .inl ((cT 0), 1000, .inl f7)), (mo, .inr (12, mdG r cd tm (nI sn) (nI tx) (nI lz) (nI ((((((((20 + 1) + 1) + 1) + 1) + 1) + 1) + 1) + 1)) (nI na) (nI (nt - 1)) (nI nr) mw ml (mk + 1) dw9)), (r 15, .inl ((cT 0), 200, .inl g15_637))] H := hP
    have hD : va_D A [(r 25, .inl ((cT 1), 7, .inr (.inl (vp_updL g25_591 (nI (nt - 1)).toNatClampNeg (mk + 1))))), (r 26, .inl ((cT 0), 7, .inl (upd g26_592 (nt - 1) x))), (r 27, .inl ((cT 0), 7, .inl (upd g27_593 (nt - 1) y))), (r 28, .inl ((cT 0), 7, .inl (upd g28_594 (nt - 1) z9))), (r 29, .inl ((cT 0), 7, .inl (upd g29_595 (nt - 1) tm))), (r 30, .inl ((cT 0), 112, .inl g30_602)), (r 7, .inl ((cT 0), 1000, .inl f7)), (mo, .inr (12, mdG r cd tm (nI sn) (nI tx) (nI lz) (nI ((((((((20 + 1) + 1) + 1) + 1) + 1) + 1) + 1) + 1)) (nI na) (nI (nt - 1)) (nI nr) mw ml (mk + 1) dw9)), (r 15, .inl ((cT 0), 200, .inl g15_637))] := hD
    refine lv_iinc (k := 0) (v := 8) (lv' := [(4, .int 8), (0, .ref mo), (1, .int x), (2, .int y), (3, .int z9)]) hx hb d_Md_challenge_174 hl rfl (by decide) (by decide) rfl (fun ls hl => ?_)
    refine lv_goto (tgt := 157) hx hb d_Md_challenge_177 (by decide) ?_
    refine lv_iload hx hb d_Md_challenge_157 (lv_at hl 0 rfl) ?_
    refine lv_if_lt (tgt := 180) hx hb d_Md_challenge_159 (by decide) (fun hn9 => absurd hn9 (by decide)) (fun hc639 => ?_)
    refine lv_aload_n hx hb d_Md_challenge_162 rfl (lv_at hl 1 rfl) ?_
    refine lv_aload_n hx hb d_Md_challenge_163 rfl (lv_at hl 1 rfl) ?_
    refine va_get (D := (dC, dI)) (ci := 12) (v := (.long (mk + 1))) (C := R_Md) (T := F_Md) (N := 45) hx hb hg in_Md hown hK hP 7 rfl rfl 31 (by decide) (hg _ k_1051) (fun _ h9 => h9) rfl d_Md_challenge_164 ?_
    refine lv_iload hx hb d_Md_challenge_167 (lv_at hl 0 rfl) ?_
    refine lv_lshr (v := (mk + 1) >>> ((8 : Int32).toInt64 &&& 63)) hx hb d_Md_challenge_169 rfl ?_
    refine lv_l2i (v := ((mk + 1) >>> ((8 : Int32).toInt64 &&& 63)).toInt32) hx hb d_Md_challenge_170 rfl ?_
    have hPc := hP.sub (ws' := [(mo, .inr (12, mdG r cd tm (nI sn) (nI tx) (nI lz) (nI ((((((((20 + 1) + 1) + 1) + 1) + 1) + 1) + 1) + 1)) (nI na) (nI (nt - 1)) (nI nr) mw ml (mk + 1) dw9)), (r 15, .inl ((cT 0), 200, .inl g15_637))]) [7, 8] rfl
    have hDc := hD.sub (ws' := [(mo, .inr (12, mdG r cd tm (nI sn) (nI tx) (nI lz) (nI ((((((((20 + 1) + 1) + 1) + 1) + 1) + 1) + 1) + 1)) (nI na) (nI (nt - 1)) (nI nr) mw ml (mk + 1) dw9)), (r 15, .inl ((cT 0), 200, .inl g15_637))]) [7, 8] (by decide) rfl
    have hFc := va_free (wc := [(mo, .inr (12, mdG r cd tm (nI sn) (nI tx) (nI lz) (nI ((((((((20 + 1) + 1) + 1) + 1) + 1) + 1) + 1) + 1)) (nI na) (nI (nt - 1)) (nI nr) mw ml (mk + 1) dw9)), (r 15, .inl ((cT 0), 200, .inl g15_637))]) hD hS hA [7, 8] rfl
    refine va_callv (va_runV (C := "DoorServerModel") (As := [.int (((mk + 1) >>> ((8 : Int32).toInt64 &&& 63)).toInt32)]) (rest := []) ⟨hx, hb, hml, hown, hg⟩ (m_tell l dC dI cT H.size mo r cd tm sn tx lz ((((((((20 + 1) + 1) + 1) + 1) + 1) + 1) + 1) + 1) na (nt - 1) nr mw ml (mk + 1) dw9 g15_637 (((mk + 1) >>> ((8 : Int32).toInt64 &&& 63)).toInt32) (by first | assumption | omega)) (cwV 1 hg (gI (List.forall_mem_append.mpr ⟨List.forall_mem_cons.mpr ⟨k_1337, List.forall_mem_cons.mpr ⟨k_1339, List.forall_mem_cons.mpr ⟨(big_sel (q := y_Md_tell) (n := 45) (by decide +kernel)), List.forall_mem_cons.mpr ⟨k_13, fun _ h => absurd h List.not_mem_nil⟩⟩⟩⟩, List.forall_mem_cons.mpr ⟨k_1340, fun _ h => h⟩⟩)) rfl rfl rfl (by decide +kernel) ⟨Nat.le_of_ble_eq_true rfl, Nat.le_of_ble_eq_true rfl⟩) ⟨fun a U g mk q => by obtain ⟨q0, q1, qP, qK, qD⟩ := q; exact ⟨q0, q1, qP, va_K.moved (u := U) (U := U.calling g mk a) (Vm.Alike.refl U.vm) qK, qD⟩, va_recv (q0 := 7) (ci := 12) hK hP rfl rfl, fun U hU hW => ⟨rfl, by rw [hU], by rw [hU]; exact hPc, va_K.moved hW.alike hK, hDc.weaken (fun _ _ _ _ => trivial)⟩⟩ rfl rfl hl.1 rfl (lv_room (Nat.le_of_ble_eq_true rfl)) d_Md_challenge_171 ⟨Nat.le_of_ble_eq_true rfl, Nat.le_of_ble_eq_true rfl⟩) hS (fun q _ h => hFc q h) hFc (fun u t H1 locs ht hvm hw hB hz1 hk1 hS => ?_)
    obtain ⟨g15_640, rfl⟩ : ∃ z, z = u := ⟨_, rfl⟩
    try dsimp only at hw hB
    obtain ⟨hP1, hK1, hD1⟩ := hB
    rw [ht] at hP1
    obtain ⟨hP, hD⟩ := va_join (wr := [(r 25, .inl ((cT 1), 7, .inr (.inl (vp_updL g25_591 (nI (nt - 1)).toNatClampNeg (mk + 1))))), (r 26, .inl ((cT 0), 7, .inl (upd g26_592 (nt - 1) x))), (r 27, .inl ((cT 0), 7, .inl (upd g27_593 (nt - 1) y))), (r 28, .inl ((cT 0), 7, .inl (upd g28_594 (nt - 1) z9))), (r 29, .inl ((cT 0), 7, .inl (upd g29_595 (nt - 1) tm))), (r 30, .inl ((cT 0), 112, .inl g30_602)), (r 7, .inl ((cT 0), 1000, .inl f7))]) (w1 := [(mo, .inr (12, mdG r cd tm (nI sn) (nI tx) (nI lz) (nI (((((((((20 + 1) + 1) + 1) + 1) + 1) + 1) + 1) + 1) + 1)) (nI na) (nI (nt - 1)) (nI nr) mw ml (mk + 1) dw9)), (r 15, .inl ((cT 0), 200, .inl g15_640))]) hP hD [7, 8] [0, 1, 2, 3, 4, 5, 6] rfl rfl (by decide) (by decide) hk1 hFc hP1 hD1
    have hw641 := hw
    clear hPc hDc hFc hz1 hk1 hP1 hK1 hD1
    generalize H1 = H at hP hS ⊢
    have hP : va_P (dC, dI) vcl [(r 25, .inl ((cT 1), 7, .inr (.inl (vp_updL g25_591 (nI (nt - 1)).toNatClampNeg (mk + 1))))), (r 26, .inl ((cT 0), 7, .inl (upd g26_592 (nt - 1) x))), (r 27, .inl ((cT 0), 7, .inl (upd g27_593 (nt - 1) y))), (r 28, .inl ((cT 0), 7, .inl (upd g28_594 (nt - 1) z9))), (r 29, .inl ((cT 0), 7, .inl (upd g29_595 (nt - 1) tm))), (r 30, .inl ((cT 0), 112, .inl g30_602)), (r 7, .inl ((cT 0), 1000, .inl f7)), (mo, .inr (12, mdG r cd tm (nI sn) (nI tx) (nI lz) (nI (((((((((20 + 1) + 1) + 1) + 1) + 1) + 1) + 1) + 1) + 1)) (nI na) (nI (nt - 1)) (nI nr) mw ml (mk + 1) dw9)), (r 15, .inl ((cT 0), 200, .inl g15_640))] H := hP
    have hD : va_D A [(r 25, .inl ((cT 1), 7, .inr (.inl (vp_updL g25_591 (nI (nt - 1)).toNatClampNeg (mk + 1))))), (r 26, .inl ((cT 0), 7, .inl (upd g26_592 (nt - 1) x))), (r 27, .inl ((cT 0), 7, .inl (upd g27_593 (nt - 1) y))), (r 28, .inl ((cT 0), 7, .inl (upd g28_594 (nt - 1) z9))), (r 29, .inl ((cT 0), 7, .inl (upd g29_595 (nt - 1) tm))), (r 30, .inl ((cT 0), 112, .inl g30_602)), (r 7, .inl ((cT 0), 1000, .inl f7)), (mo, .inr (12, mdG r cd tm (nI sn) (nI tx) (nI lz) (nI (((((((((20 + 1) + 1) + 1) + 1) + 1) + 1) + 1) + 1) + 1)) (nI na) (nI (nt - 1)) (nI nr) mw ml (mk + 1) dw9)), (r 15, .inl ((cT 0), 200, .inl g15_640))] := hD
    refine lv_iinc (k := 0) (v := 0) (lv' := [(4, .int 0), (0, .ref mo), (1, .int x), (2, .int y), (3, .int z9)]) hx hb d_Md_challenge_174 hl rfl (by decide) (by decide) rfl (fun ls hl => ?_)
    refine lv_goto (tgt := 157) hx hb d_Md_challenge_177 (by decide) ?_
    refine lv_iload hx hb d_Md_challenge_157 (lv_at hl 0 rfl) ?_
    refine lv_if_lt (tgt := 180) hx hb d_Md_challenge_159 (by decide) (fun hn9 => absurd hn9 (by decide)) (fun hc642 => ?_)
    refine lv_aload_n hx hb d_Md_challenge_162 rfl (lv_at hl 1 rfl) ?_
    refine lv_aload_n hx hb d_Md_challenge_163 rfl (lv_at hl 1 rfl) ?_
    refine va_get (D := (dC, dI)) (ci := 12) (v := (.long (mk + 1))) (C := R_Md) (T := F_Md) (N := 45) hx hb hg in_Md hown hK hP 7 rfl rfl 31 (by decide) (hg _ k_1051) (fun _ h9 => h9) rfl d_Md_challenge_164 ?_
    refine lv_iload hx hb d_Md_challenge_167 (lv_at hl 0 rfl) ?_
    refine lv_lshr (v := (mk + 1) >>> ((0 : Int32).toInt64 &&& 63)) hx hb d_Md_challenge_169 rfl ?_
    refine lv_l2i (v := ((mk + 1) >>> ((0 : Int32).toInt64 &&& 63)).toInt32) hx hb d_Md_challenge_170 rfl ?_
    have hPc := hP.sub (ws' := [(mo, .inr (12, mdG r cd tm (nI sn) (nI tx) (nI lz) (nI (((((((((20 + 1) + 1) + 1) + 1) + 1) + 1) + 1) + 1) + 1)) (nI na) (nI (nt - 1)) (nI nr) mw ml (mk + 1) dw9)), (r 15, .inl ((cT 0), 200, .inl g15_640))]) [7, 8] rfl
    have hDc := hD.sub (ws' := [(mo, .inr (12, mdG r cd tm (nI sn) (nI tx) (nI lz) (nI (((((((((20 + 1) + 1) + 1) + 1) + 1) + 1) + 1) + 1) + 1)) (nI na) (nI (nt - 1)) (nI nr) mw ml (mk + 1) dw9)), (r 15, .inl ((cT 0), 200, .inl g15_640))]) [7, 8] (by decide) rfl
    have hFc := va_free (wc := [(mo, .inr (12, mdG r cd tm (nI sn) (nI tx) (nI lz) (nI (((((((((20 + 1) + 1) + 1) + 1) + 1) + 1) + 1) + 1) + 1)) (nI na) (nI (nt - 1)) (nI nr) mw ml (mk + 1) dw9)), (r 15, .inl ((cT 0), 200, .inl g15_640))]) hD hS hA [7, 8] rfl
    refine va_callv (va_runV (C := "DoorServerModel") (As := [.int (((mk + 1) >>> ((0 : Int32).toInt64 &&& 63)).toInt32)]) (rest := []) ⟨hx, hb, hml, hown, hg⟩ (m_tell l dC dI cT H.size mo r cd tm sn tx lz (((((((((20 + 1) + 1) + 1) + 1) + 1) + 1) + 1) + 1) + 1) na (nt - 1) nr mw ml (mk + 1) dw9 g15_640 (((mk + 1) >>> ((0 : Int32).toInt64 &&& 63)).toInt32) (by first | assumption | omega)) (cwV 1 hg (gI (List.forall_mem_append.mpr ⟨List.forall_mem_cons.mpr ⟨k_1337, List.forall_mem_cons.mpr ⟨k_1339, List.forall_mem_cons.mpr ⟨(big_sel (q := y_Md_tell) (n := 45) (by decide +kernel)), List.forall_mem_cons.mpr ⟨k_13, fun _ h => absurd h List.not_mem_nil⟩⟩⟩⟩, List.forall_mem_cons.mpr ⟨k_1340, fun _ h => h⟩⟩)) rfl rfl rfl (by decide +kernel) ⟨Nat.le_of_ble_eq_true rfl, Nat.le_of_ble_eq_true rfl⟩) ⟨fun a U g mk q => by obtain ⟨q0, q1, qP, qK, qD⟩ := q; exact ⟨q0, q1, qP, va_K.moved (u := U) (U := U.calling g mk a) (Vm.Alike.refl U.vm) qK, qD⟩, va_recv (q0 := 7) (ci := 12) hK hP rfl rfl, fun U hU hW => ⟨rfl, by rw [hU], by rw [hU]; exact hPc, va_K.moved hW.alike hK, hDc.weaken (fun _ _ _ _ => trivial)⟩⟩ rfl rfl hl.1 rfl (lv_room (Nat.le_of_ble_eq_true rfl)) d_Md_challenge_171 ⟨Nat.le_of_ble_eq_true rfl, Nat.le_of_ble_eq_true rfl⟩) hS (fun q _ h => hFc q h) hFc (fun u t H1 locs ht hvm hw hB hz1 hk1 hS => ?_)
    obtain ⟨g15_643, rfl⟩ : ∃ z, z = u := ⟨_, rfl⟩
    try dsimp only at hw hB
    obtain ⟨hP1, hK1, hD1⟩ := hB
    rw [ht] at hP1
    obtain ⟨hP, hD⟩ := va_join (wr := [(r 25, .inl ((cT 1), 7, .inr (.inl (vp_updL g25_591 (nI (nt - 1)).toNatClampNeg (mk + 1))))), (r 26, .inl ((cT 0), 7, .inl (upd g26_592 (nt - 1) x))), (r 27, .inl ((cT 0), 7, .inl (upd g27_593 (nt - 1) y))), (r 28, .inl ((cT 0), 7, .inl (upd g28_594 (nt - 1) z9))), (r 29, .inl ((cT 0), 7, .inl (upd g29_595 (nt - 1) tm))), (r 30, .inl ((cT 0), 112, .inl g30_602)), (r 7, .inl ((cT 0), 1000, .inl f7))]) (w1 := [(mo, .inr (12, mdG r cd tm (nI sn) (nI tx) (nI lz) (nI ((((((((((20 + 1) + 1) + 1) + 1) + 1) + 1) + 1) + 1) + 1) + 1)) (nI na) (nI (nt - 1)) (nI nr) mw ml (mk + 1) dw9)), (r 15, .inl ((cT 0), 200, .inl g15_643))]) hP hD [7, 8] [0, 1, 2, 3, 4, 5, 6] rfl rfl (by decide) (by decide) hk1 hFc hP1 hD1
    have hw644 := hw
    clear hPc hDc hFc hz1 hk1 hP1 hK1 hD1
    generalize H1 = H at hP hS ⊢
    have hP : va_P (dC, dI) vcl [(r 25, .inl ((cT 1), 7, .inr (.inl (vp_updL g25_591 (nI (nt - 1)).toNatClampNeg (mk + 1))))), (r 26, .inl ((cT 0), 7, .inl (upd g26_592 (nt - 1) x))), (r 27, .inl ((cT 0), 7, .inl (upd g27_593 (nt - 1) y))), (r 28, .inl ((cT 0), 7, .inl (upd g28_594 (nt - 1) z9))), (r 29, .inl ((cT 0), 7, .inl (upd g29_595 (nt - 1) tm))), (r 30, .inl ((cT 0), 112, .inl g30_602)), (r 7, .inl ((cT 0), 1000, .inl f7)), (mo, .inr (12, mdG r cd tm (nI sn) (nI tx) (nI lz) (nI ((((((((((20 + 1) + 1) + 1) + 1) + 1) + 1) + 1) + 1) + 1) + 1)) (nI na) (nI (nt - 1)) (nI nr) mw ml (mk + 1) dw9)), (r 15, .inl ((cT 0), 200, .inl g15_643))] H := hP
    have hD : va_D A [(r 25, .inl ((cT 1), 7, .inr (.inl (vp_updL g25_591 (nI (nt - 1)).toNatClampNeg (mk + 1))))), (r 26, .inl ((cT 0), 7, .inl (upd g26_592 (nt - 1) x))), (r 27, .inl ((cT 0), 7, .inl (upd g27_593 (nt - 1) y))), (r 28, .inl ((cT 0), 7, .inl (upd g28_594 (nt - 1) z9))), (r 29, .inl ((cT 0), 7, .inl (upd g29_595 (nt - 1) tm))), (r 30, .inl ((cT 0), 112, .inl g30_602)), (r 7, .inl ((cT 0), 1000, .inl f7)), (mo, .inr (12, mdG r cd tm (nI sn) (nI tx) (nI lz) (nI ((((((((((20 + 1) + 1) + 1) + 1) + 1) + 1) + 1) + 1) + 1) + 1)) (nI na) (nI (nt - 1)) (nI nr) mw ml (mk + 1) dw9)), (r 15, .inl ((cT 0), 200, .inl g15_643))] := hD
    refine lv_iinc (k := 0) (v := (-8)) (lv' := [(4, .int (-8)), (0, .ref mo), (1, .int x), (2, .int y), (3, .int z9)]) hx hb d_Md_challenge_174 hl rfl (by decide) (by decide) rfl (fun ls hl => ?_)
    refine lv_goto (tgt := 157) hx hb d_Md_challenge_177 (by decide) ?_
    refine lv_iload hx hb d_Md_challenge_157 (lv_at hl 0 rfl) ?_
    refine lv_if_lt (tgt := 180) hx hb d_Md_challenge_159 (by decide) (fun hc645 => ?_) (fun hn9 => absurd (by decide) hn9)
    refine lv_aload_n hx hb d_Md_challenge_180 rfl (lv_at hl 1 rfl) ?_
    refine lv_bipush (v := 79) hx hb d_Md_challenge_181 (by decide) ?_
    have hPc := hP.sub (ws' := [(mo, .inr (12, mdG r cd tm (nI sn) (nI tx) (nI lz) (nI ((((((((((20 + 1) + 1) + 1) + 1) + 1) + 1) + 1) + 1) + 1) + 1)) (nI na) (nI (nt - 1)) (nI nr) mw ml (mk + 1) dw9)), (r 15, .inl ((cT 0), 200, .inl g15_643))]) [7, 8] rfl
    have hDc := hD.sub (ws' := [(mo, .inr (12, mdG r cd tm (nI sn) (nI tx) (nI lz) (nI ((((((((((20 + 1) + 1) + 1) + 1) + 1) + 1) + 1) + 1) + 1) + 1)) (nI na) (nI (nt - 1)) (nI nr) mw ml (mk + 1) dw9)), (r 15, .inl ((cT 0), 200, .inl g15_643))]) [7, 8] (by decide) rfl
    have hFc := va_free (wc := [(mo, .inr (12, mdG r cd tm (nI sn) (nI tx) (nI lz) (nI ((((((((((20 + 1) + 1) + 1) + 1) + 1) + 1) + 1) + 1) + 1) + 1)) (nI na) (nI (nt - 1)) (nI nr) mw ml (mk + 1) dw9)), (r 15, .inl ((cT 0), 200, .inl g15_643))]) hD hS hA [7, 8] rfl
    refine va_callv (va_runV (C := "DoorServerModel") (As := [.int 79]) (rest := []) ⟨hx, hb, hml, hown, hg⟩ (m_tell l dC dI cT H.size mo r cd tm sn tx lz ((((((((((20 + 1) + 1) + 1) + 1) + 1) + 1) + 1) + 1) + 1) + 1) na (nt - 1) nr mw ml (mk + 1) dw9 g15_643 79 (by first | assumption | omega)) (cwV 1 hg (gI (List.forall_mem_append.mpr ⟨List.forall_mem_cons.mpr ⟨k_1337, List.forall_mem_cons.mpr ⟨k_1339, List.forall_mem_cons.mpr ⟨(big_sel (q := y_Md_tell) (n := 45) (by decide +kernel)), List.forall_mem_cons.mpr ⟨k_13, fun _ h => absurd h List.not_mem_nil⟩⟩⟩⟩, List.forall_mem_cons.mpr ⟨k_1340, fun _ h => h⟩⟩)) rfl rfl rfl (by decide +kernel) ⟨Nat.le_of_ble_eq_true rfl, Nat.le_of_ble_eq_true rfl⟩) ⟨fun a U g mk q => by obtain ⟨q0, q1, qP, qK, qD⟩ := q; exact ⟨q0, q1, qP, va_K.moved (u := U) (U := U.calling g mk a) (Vm.Alike.refl U.vm) qK, qD⟩, va_recv (q0 := 7) (ci := 12) hK hP rfl rfl, fun U hU hW => ⟨rfl, by rw [hU], by rw [hU]; exact hPc, va_K.moved hW.alike hK, hDc.weaken (fun _ _ _ _ => trivial)⟩⟩ rfl rfl hl.1 rfl (lv_room (Nat.le_of_ble_eq_true rfl)) d_Md_challenge_183 ⟨Nat.le_of_ble_eq_true rfl, Nat.le_of_ble_eq_true rfl⟩) hS (fun q _ h => hFc q h) hFc (fun u t H1 locs ht hvm hw hB hz1 hk1 hS => ?_)
    obtain ⟨g15_646, rfl⟩ : ∃ z, z = u := ⟨_, rfl⟩
    try dsimp only at hw hB
    obtain ⟨hP1, hK1, hD1⟩ := hB
    rw [ht] at hP1
    obtain ⟨hP, hD⟩ := va_join (wr := [(r 25, .inl ((cT 1), 7, .inr (.inl (vp_updL g25_591 (nI (nt - 1)).toNatClampNeg (mk + 1))))), (r 26, .inl ((cT 0), 7, .inl (upd g26_592 (nt - 1) x))), (r 27, .inl ((cT 0), 7, .inl (upd g27_593 (nt - 1) y))), (r 28, .inl ((cT 0), 7, .inl (upd g28_594 (nt - 1) z9))), (r 29, .inl ((cT 0), 7, .inl (upd g29_595 (nt - 1) tm))), (r 30, .inl ((cT 0), 112, .inl g30_602)), (r 7, .inl ((cT 0), 1000, .inl f7))]) (w1 := [(mo, .inr (12, mdG r cd tm (nI sn) (nI tx) (nI lz) (nI (((((((((((20 + 1) + 1) + 1) + 1) + 1) + 1) + 1) + 1) + 1) + 1) + 1)) (nI na) (nI (nt - 1)) (nI nr) mw ml (mk + 1) dw9)), (r 15, .inl ((cT 0), 200, .inl g15_646))]) hP hD [7, 8] [0, 1, 2, 3, 4, 5, 6] rfl rfl (by decide) (by decide) hk1 hFc hP1 hD1
    have hw647 := hw
    clear hPc hDc hFc hz1 hk1 hP1 hK1 hD1
    generalize H1 = H at hP hS ⊢
    have hP : va_P (dC, dI) vcl [(r 25, .inl ((cT 1), 7, .inr (.inl (vp_updL g25_591 (nI (nt - 1)).toNatClampNeg (mk + 1))))), (r 26, .inl ((cT 0), 7, .inl (upd g26_592 (nt - 1) x))), (r 27, .inl ((cT 0), 7, .inl (upd g27_593 (nt - 1) y))), (r 28, .inl ((cT 0), 7, .inl (upd g28_594 (nt - 1) z9))), (r 29, .inl ((cT 0), 7, .inl (upd g29_595 (nt - 1) tm))), (r 30, .inl ((cT 0), 112, .inl g30_602)), (r 7, .inl ((cT 0), 1000, .inl f7)), (mo, .inr (12, mdG r cd tm (nI sn) (nI tx) (nI lz) (nI (((((((((((20 + 1) + 1) + 1) + 1) + 1) + 1) + 1) + 1) + 1) + 1) + 1)) (nI na) (nI (nt - 1)) (nI nr) mw ml (mk + 1) dw9)), (r 15, .inl ((cT 0), 200, .inl g15_646))] H := hP
    have hD : va_D A [(r 25, .inl ((cT 1), 7, .inr (.inl (vp_updL g25_591 (nI (nt - 1)).toNatClampNeg (mk + 1))))), (r 26, .inl ((cT 0), 7, .inl (upd g26_592 (nt - 1) x))), (r 27, .inl ((cT 0), 7, .inl (upd g27_593 (nt - 1) y))), (r 28, .inl ((cT 0), 7, .inl (upd g28_594 (nt - 1) z9))), (r 29, .inl ((cT 0), 7, .inl (upd g29_595 (nt - 1) tm))), (r 30, .inl ((cT 0), 112, .inl g30_602)), (r 7, .inl ((cT 0), 1000, .inl f7)), (mo, .inr (12, mdG r cd tm (nI sn) (nI tx) (nI lz) (nI (((((((((((20 + 1) + 1) + 1) + 1) + 1) + 1) + 1) + 1) + 1) + 1) + 1)) (nI na) (nI (nt - 1)) (nI nr) mw ml (mk + 1) dw9)), (r 15, .inl ((cT 0), 200, .inl g15_646))] := hD
    refine lv_aload_n hx hb d_Md_challenge_186 rfl (lv_at hl 1 rfl) ?_
    refine lv_bipush (v := 24) hx hb d_Md_challenge_187 (by decide) ?_
    have hPc := hP.sub (ws' := [(mo, .inr (12, mdG r cd tm (nI sn) (nI tx) (nI lz) (nI (((((((((((20 + 1) + 1) + 1) + 1) + 1) + 1) + 1) + 1) + 1) + 1) + 1)) (nI na) (nI (nt - 1)) (nI nr) mw ml (mk + 1) dw9)), (r 15, .inl ((cT 0), 200, .inl g15_646))]) [7, 8] rfl
    have hDc := hD.sub (ws' := [(mo, .inr (12, mdG r cd tm (nI sn) (nI tx) (nI lz) (nI (((((((((((20 + 1) + 1) + 1) + 1) + 1) + 1) + 1) + 1) + 1) + 1) + 1)) (nI na) (nI (nt - 1)) (nI nr) mw ml (mk + 1) dw9)), (r 15, .inl ((cT 0), 200, .inl g15_646))]) [7, 8] (by decide) rfl
    have hFc := va_free (wc := [(mo, .inr (12, mdG r cd tm (nI sn) (nI tx) (nI lz) (nI (((((((((((20 + 1) + 1) + 1) + 1) + 1) + 1) + 1) + 1) + 1) + 1) + 1)) (nI na) (nI (nt - 1)) (nI nr) mw ml (mk + 1) dw9)), (r 15, .inl ((cT 0), 200, .inl g15_646))]) hD hS hA [7, 8] rfl
    refine va_callv (va_runV (C := "DoorServerModel") (As := [.int 24]) (rest := []) ⟨hx, hb, hml, hown, hg⟩ (m_tell l dC dI cT H.size mo r cd tm sn tx lz (((((((((((20 + 1) + 1) + 1) + 1) + 1) + 1) + 1) + 1) + 1) + 1) + 1) na (nt - 1) nr mw ml (mk + 1) dw9 g15_646 24 (by first | assumption | omega)) (cwV 1 hg (gI (List.forall_mem_append.mpr ⟨List.forall_mem_cons.mpr ⟨k_1337, List.forall_mem_cons.mpr ⟨k_1339, List.forall_mem_cons.mpr ⟨(big_sel (q := y_Md_tell) (n := 45) (by decide +kernel)), List.forall_mem_cons.mpr ⟨k_13, fun _ h => absurd h List.not_mem_nil⟩⟩⟩⟩, List.forall_mem_cons.mpr ⟨k_1340, fun _ h => h⟩⟩)) rfl rfl rfl (by decide +kernel) ⟨Nat.le_of_ble_eq_true rfl, Nat.le_of_ble_eq_true rfl⟩) ⟨fun a U g mk q => by obtain ⟨q0, q1, qP, qK, qD⟩ := q; exact ⟨q0, q1, qP, va_K.moved (u := U) (U := U.calling g mk a) (Vm.Alike.refl U.vm) qK, qD⟩, va_recv (q0 := 7) (ci := 12) hK hP rfl rfl, fun U hU hW => ⟨rfl, by rw [hU], by rw [hU]; exact hPc, va_K.moved hW.alike hK, hDc.weaken (fun _ _ _ _ => trivial)⟩⟩ rfl rfl hl.1 rfl (lv_room (Nat.le_of_ble_eq_true rfl)) d_Md_challenge_189 ⟨Nat.le_of_ble_eq_true rfl, Nat.le_of_ble_eq_true rfl⟩) hS (fun q _ h => hFc q h) hFc (fun u t H1 locs ht hvm hw hB hz1 hk1 hS => ?_)
    obtain ⟨g15_648, rfl⟩ : ∃ z, z = u := ⟨_, rfl⟩
    try dsimp only at hw hB
    obtain ⟨hP1, hK1, hD1⟩ := hB
    rw [ht] at hP1
    obtain ⟨hP, hD⟩ := va_join (wr := [(r 25, .inl ((cT 1), 7, .inr (.inl (vp_updL g25_591 (nI (nt - 1)).toNatClampNeg (mk + 1))))), (r 26, .inl ((cT 0), 7, .inl (upd g26_592 (nt - 1) x))), (r 27, .inl ((cT 0), 7, .inl (upd g27_593 (nt - 1) y))), (r 28, .inl ((cT 0), 7, .inl (upd g28_594 (nt - 1) z9))), (r 29, .inl ((cT 0), 7, .inl (upd g29_595 (nt - 1) tm))), (r 30, .inl ((cT 0), 112, .inl g30_602)), (r 7, .inl ((cT 0), 1000, .inl f7))]) (w1 := [(mo, .inr (12, mdG r cd tm (nI sn) (nI tx) (nI lz) (nI ((((((((((((20 + 1) + 1) + 1) + 1) + 1) + 1) + 1) + 1) + 1) + 1) + 1) + 1)) (nI na) (nI (nt - 1)) (nI nr) mw ml (mk + 1) dw9)), (r 15, .inl ((cT 0), 200, .inl g15_648))]) hP hD [7, 8] [0, 1, 2, 3, 4, 5, 6] rfl rfl (by decide) (by decide) hk1 hFc hP1 hD1
    have hw649 := hw
    clear hPc hDc hFc hz1 hk1 hP1 hK1 hD1
    generalize H1 = H at hP hS ⊢
    have hP : va_P (dC, dI) vcl [(r 25, .inl ((cT 1), 7, .inr (.inl (vp_updL g25_591 (nI (nt - 1)).toNatClampNeg (mk + 1))))), (r 26, .inl ((cT 0), 7, .inl (upd g26_592 (nt - 1) x))), (r 27, .inl ((cT 0), 7, .inl (upd g27_593 (nt - 1) y))), (r 28, .inl ((cT 0), 7, .inl (upd g28_594 (nt - 1) z9))), (r 29, .inl ((cT 0), 7, .inl (upd g29_595 (nt - 1) tm))), (r 30, .inl ((cT 0), 112, .inl g30_602)), (r 7, .inl ((cT 0), 1000, .inl f7)), (mo, .inr (12, mdG r cd tm (nI sn) (nI tx) (nI lz) (nI ((((((((((((20 + 1) + 1) + 1) + 1) + 1) + 1) + 1) + 1) + 1) + 1) + 1) + 1)) (nI na) (nI (nt - 1)) (nI nr) mw ml (mk + 1) dw9)), (r 15, .inl ((cT 0), 200, .inl g15_648))] H := hP
    have hD : va_D A [(r 25, .inl ((cT 1), 7, .inr (.inl (vp_updL g25_591 (nI (nt - 1)).toNatClampNeg (mk + 1))))), (r 26, .inl ((cT 0), 7, .inl (upd g26_592 (nt - 1) x))), (r 27, .inl ((cT 0), 7, .inl (upd g27_593 (nt - 1) y))), (r 28, .inl ((cT 0), 7, .inl (upd g28_594 (nt - 1) z9))), (r 29, .inl ((cT 0), 7, .inl (upd g29_595 (nt - 1) tm))), (r 30, .inl ((cT 0), 112, .inl g30_602)), (r 7, .inl ((cT 0), 1000, .inl f7)), (mo, .inr (12, mdG r cd tm (nI sn) (nI tx) (nI lz) (nI ((((((((((((20 + 1) + 1) + 1) + 1) + 1) + 1) + 1) + 1) + 1) + 1) + 1) + 1)) (nI na) (nI (nt - 1)) (nI nr) mw ml (mk + 1) dw9)), (r 15, .inl ((cT 0), 200, .inl g15_648))] := hD
    refine lv_aload_n hx hb d_Md_challenge_192 rfl (lv_at hl 1 rfl) ?_
    refine lv_iconst (v := 1) hx hb d_Md_challenge_193 (by decide) ?_
    have hPc := hP.sub (ws' := [(mo, .inr (12, mdG r cd tm (nI sn) (nI tx) (nI lz) (nI ((((((((((((20 + 1) + 1) + 1) + 1) + 1) + 1) + 1) + 1) + 1) + 1) + 1) + 1)) (nI na) (nI (nt - 1)) (nI nr) mw ml (mk + 1) dw9)), (r 15, .inl ((cT 0), 200, .inl g15_648))]) [7, 8] rfl
    have hDc := hD.sub (ws' := [(mo, .inr (12, mdG r cd tm (nI sn) (nI tx) (nI lz) (nI ((((((((((((20 + 1) + 1) + 1) + 1) + 1) + 1) + 1) + 1) + 1) + 1) + 1) + 1)) (nI na) (nI (nt - 1)) (nI nr) mw ml (mk + 1) dw9)), (r 15, .inl ((cT 0), 200, .inl g15_648))]) [7, 8] (by decide) rfl
    have hFc := va_free (wc := [(mo, .inr (12, mdG r cd tm (nI sn) (nI tx) (nI lz) (nI ((((((((((((20 + 1) + 1) + 1) + 1) + 1) + 1) + 1) + 1) + 1) + 1) + 1) + 1)) (nI na) (nI (nt - 1)) (nI nr) mw ml (mk + 1) dw9)), (r 15, .inl ((cT 0), 200, .inl g15_648))]) hD hS hA [7, 8] rfl
    refine va_callv (va_runV (C := "DoorServerModel") (As := [.int 1]) (rest := []) ⟨hx, hb, hml, hown, hg⟩ (m_tell l dC dI cT H.size mo r cd tm sn tx lz ((((((((((((20 + 1) + 1) + 1) + 1) + 1) + 1) + 1) + 1) + 1) + 1) + 1) + 1) na (nt - 1) nr mw ml (mk + 1) dw9 g15_648 1 (by first | assumption | omega)) (cwV 1 hg (gI (List.forall_mem_append.mpr ⟨List.forall_mem_cons.mpr ⟨k_1337, List.forall_mem_cons.mpr ⟨k_1339, List.forall_mem_cons.mpr ⟨(big_sel (q := y_Md_tell) (n := 45) (by decide +kernel)), List.forall_mem_cons.mpr ⟨k_13, fun _ h => absurd h List.not_mem_nil⟩⟩⟩⟩, List.forall_mem_cons.mpr ⟨k_1340, fun _ h => h⟩⟩)) rfl rfl rfl (by decide +kernel) ⟨Nat.le_of_ble_eq_true rfl, Nat.le_of_ble_eq_true rfl⟩) ⟨fun a U g mk q => by obtain ⟨q0, q1, qP, qK, qD⟩ := q; exact ⟨q0, q1, qP, va_K.moved (u := U) (U := U.calling g mk a) (Vm.Alike.refl U.vm) qK, qD⟩, va_recv (q0 := 7) (ci := 12) hK hP rfl rfl, fun U hU hW => ⟨rfl, by rw [hU], by rw [hU]; exact hPc, va_K.moved hW.alike hK, hDc.weaken (fun _ _ _ _ => trivial)⟩⟩ rfl rfl hl.1 rfl (lv_room (Nat.le_of_ble_eq_true rfl)) d_Md_challenge_194 ⟨Nat.le_of_ble_eq_true rfl, Nat.le_of_ble_eq_true rfl⟩) hS (fun q _ h => hFc q h) hFc (fun u t H1 locs ht hvm hw hB hz1 hk1 hS => ?_)
    obtain ⟨g15_650, rfl⟩ : ∃ z, z = u := ⟨_, rfl⟩
    try dsimp only at hw hB
    obtain ⟨hP1, hK1, hD1⟩ := hB
    rw [ht] at hP1
    obtain ⟨hP, hD⟩ := va_join (wr := [(r 25, .inl ((cT 1), 7, .inr (.inl (vp_updL g25_591 (nI (nt - 1)).toNatClampNeg (mk + 1))))), (r 26, .inl ((cT 0), 7, .inl (upd g26_592 (nt - 1) x))), (r 27, .inl ((cT 0), 7, .inl (upd g27_593 (nt - 1) y))), (r 28, .inl ((cT 0), 7, .inl (upd g28_594 (nt - 1) z9))), (r 29, .inl ((cT 0), 7, .inl (upd g29_595 (nt - 1) tm))), (r 30, .inl ((cT 0), 112, .inl g30_602)), (r 7, .inl ((cT 0), 1000, .inl f7))]) (w1 := [(mo, .inr (12, mdG r cd tm (nI sn) (nI tx) (nI lz) (nI (((((((((((((20 + 1) + 1) + 1) + 1) + 1) + 1) + 1) + 1) + 1) + 1) + 1) + 1) + 1)) (nI na) (nI (nt - 1)) (nI nr) mw ml (mk + 1) dw9)), (r 15, .inl ((cT 0), 200, .inl g15_650))]) hP hD [7, 8] [0, 1, 2, 3, 4, 5, 6] rfl rfl (by decide) (by decide) hk1 hFc hP1 hD1
    have hw651 := hw
    clear hPc hDc hFc hz1 hk1 hP1 hK1 hD1
    generalize H1 = H at hP hS ⊢
    have hP : va_P (dC, dI) vcl [(r 25, .inl ((cT 1), 7, .inr (.inl (vp_updL g25_591 (nI (nt - 1)).toNatClampNeg (mk + 1))))), (r 26, .inl ((cT 0), 7, .inl (upd g26_592 (nt - 1) x))), (r 27, .inl ((cT 0), 7, .inl (upd g27_593 (nt - 1) y))), (r 28, .inl ((cT 0), 7, .inl (upd g28_594 (nt - 1) z9))), (r 29, .inl ((cT 0), 7, .inl (upd g29_595 (nt - 1) tm))), (r 30, .inl ((cT 0), 112, .inl g30_602)), (r 7, .inl ((cT 0), 1000, .inl f7)), (mo, .inr (12, mdG r cd tm (nI sn) (nI tx) (nI lz) (nI (((((((((((((20 + 1) + 1) + 1) + 1) + 1) + 1) + 1) + 1) + 1) + 1) + 1) + 1) + 1)) (nI na) (nI (nt - 1)) (nI nr) mw ml (mk + 1) dw9)), (r 15, .inl ((cT 0), 200, .inl g15_650))] H := hP
    have hD : va_D A [(r 25, .inl ((cT 1), 7, .inr (.inl (vp_updL g25_591 (nI (nt - 1)).toNatClampNeg (mk + 1))))), (r 26, .inl ((cT 0), 7, .inl (upd g26_592 (nt - 1) x))), (r 27, .inl ((cT 0), 7, .inl (upd g27_593 (nt - 1) y))), (r 28, .inl ((cT 0), 7, .inl (upd g28_594 (nt - 1) z9))), (r 29, .inl ((cT 0), 7, .inl (upd g29_595 (nt - 1) tm))), (r 30, .inl ((cT 0), 112, .inl g30_602)), (r 7, .inl ((cT 0), 1000, .inl f7)), (mo, .inr (12, mdG r cd tm (nI sn) (nI tx) (nI lz) (nI (((((((((((((20 + 1) + 1) + 1) + 1) + 1) + 1) + 1) + 1) + 1) + 1) + 1) + 1) + 1)) (nI na) (nI (nt - 1)) (nI nr) mw ml (mk + 1) dw9)), (r 15, .inl ((cT 0), 200, .inl g15_650))] := hD
    refine lv_aload_n hx hb d_Md_challenge_197 rfl (lv_at hl 1 rfl) ?_
    refine lv_iload_n hx hb d_Md_challenge_198 rfl (lv_at hl 4 rfl) ?_
    have hPc := hP.sub (ws' := [(mo, .inr (12, mdG r cd tm (nI sn) (nI tx) (nI lz) (nI (((((((((((((20 + 1) + 1) + 1) + 1) + 1) + 1) + 1) + 1) + 1) + 1) + 1) + 1) + 1)) (nI na) (nI (nt - 1)) (nI nr) mw ml (mk + 1) dw9)), (r 15, .inl ((cT 0), 200, .inl g15_650))]) [7, 8] rfl
    have hDc := hD.sub (ws' := [(mo, .inr (12, mdG r cd tm (nI sn) (nI tx) (nI lz) (nI (((((((((((((20 + 1) + 1) + 1) + 1) + 1) + 1) + 1) + 1) + 1) + 1) + 1) + 1) + 1)) (nI na) (nI (nt - 1)) (nI nr) mw ml (mk + 1) dw9)), (r 15, .inl ((cT 0), 200, .inl g15_650))]) [7, 8] (by decide) rfl
    have hFc := va_free (wc := [(mo, .inr (12, mdG r cd tm (nI sn) (nI tx) (nI lz) (nI (((((((((((((20 + 1) + 1) + 1) + 1) + 1) + 1) + 1) + 1) + 1) + 1) + 1) + 1) + 1)) (nI na) (nI (nt - 1)) (nI nr) mw ml (mk + 1) dw9)), (r 15, .inl ((cT 0), 200, .inl g15_650))]) hD hS hA [7, 8] rfl
    refine va_callv (va_runV (C := "DoorServerModel") (As := [.int z9]) (rest := []) ⟨hx, hb, hml, hown, hg⟩ (m_tell l dC dI cT H.size mo r cd tm sn tx lz (((((((((((((20 + 1) + 1) + 1) + 1) + 1) + 1) + 1) + 1) + 1) + 1) + 1) + 1) + 1) na (nt - 1) nr mw ml (mk + 1) dw9 g15_650 z9 (by first | assumption | omega)) (cwV 1 hg (gI (List.forall_mem_append.mpr ⟨List.forall_mem_cons.mpr ⟨k_1337, List.forall_mem_cons.mpr ⟨k_1339, List.forall_mem_cons.mpr ⟨(big_sel (q := y_Md_tell) (n := 45) (by decide +kernel)), List.forall_mem_cons.mpr ⟨k_13, fun _ h => absurd h List.not_mem_nil⟩⟩⟩⟩, List.forall_mem_cons.mpr ⟨k_1340, fun _ h => h⟩⟩)) rfl rfl rfl (by decide +kernel) ⟨Nat.le_of_ble_eq_true rfl, Nat.le_of_ble_eq_true rfl⟩) ⟨fun a U g mk q => by obtain ⟨q0, q1, qP, qK, qD⟩ := q; exact ⟨q0, q1, qP, va_K.moved (u := U) (U := U.calling g mk a) (Vm.Alike.refl U.vm) qK, qD⟩, va_recv (q0 := 7) (ci := 12) hK hP rfl rfl, fun U hU hW => ⟨rfl, by rw [hU], by rw [hU]; exact hPc, va_K.moved hW.alike hK, hDc.weaken (fun _ _ _ _ => trivial)⟩⟩ rfl rfl hl.1 rfl (lv_room (Nat.le_of_ble_eq_true rfl)) d_Md_challenge_199 ⟨Nat.le_of_ble_eq_true rfl, Nat.le_of_ble_eq_true rfl⟩) hS (fun q _ h => hFc q h) hFc (fun u t H1 locs ht hvm hw hB hz1 hk1 hS => ?_)
    obtain ⟨g15_652, rfl⟩ : ∃ z, z = u := ⟨_, rfl⟩
    try dsimp only at hw hB
    obtain ⟨hP1, hK1, hD1⟩ := hB
    rw [ht] at hP1
    obtain ⟨hP, hD⟩ := va_join (wr := [(r 25, .inl ((cT 1), 7, .inr (.inl (vp_updL g25_591 (nI (nt - 1)).toNatClampNeg (mk + 1))))), (r 26, .inl ((cT 0), 7, .inl (upd g26_592 (nt - 1) x))), (r 27, .inl ((cT 0), 7, .inl (upd g27_593 (nt - 1) y))), (r 28, .inl ((cT 0), 7, .inl (upd g28_594 (nt - 1) z9))), (r 29, .inl ((cT 0), 7, .inl (upd g29_595 (nt - 1) tm))), (r 30, .inl ((cT 0), 112, .inl g30_602)), (r 7, .inl ((cT 0), 1000, .inl f7))]) (w1 := [(mo, .inr (12, mdG r cd tm (nI sn) (nI tx) (nI lz) (nI ((((((((((((((20 + 1) + 1) + 1) + 1) + 1) + 1) + 1) + 1) + 1) + 1) + 1) + 1) + 1) + 1)) (nI na) (nI (nt - 1)) (nI nr) mw ml (mk + 1) dw9)), (r 15, .inl ((cT 0), 200, .inl g15_652))]) hP hD [7, 8] [0, 1, 2, 3, 4, 5, 6] rfl rfl (by decide) (by decide) hk1 hFc hP1 hD1
    have hw653 := hw
    clear hPc hDc hFc hz1 hk1 hP1 hK1 hD1
    generalize H1 = H at hP hS ⊢
    have hP : va_P (dC, dI) vcl [(r 25, .inl ((cT 1), 7, .inr (.inl (vp_updL g25_591 (nI (nt - 1)).toNatClampNeg (mk + 1))))), (r 26, .inl ((cT 0), 7, .inl (upd g26_592 (nt - 1) x))), (r 27, .inl ((cT 0), 7, .inl (upd g27_593 (nt - 1) y))), (r 28, .inl ((cT 0), 7, .inl (upd g28_594 (nt - 1) z9))), (r 29, .inl ((cT 0), 7, .inl (upd g29_595 (nt - 1) tm))), (r 30, .inl ((cT 0), 112, .inl g30_602)), (r 7, .inl ((cT 0), 1000, .inl f7)), (mo, .inr (12, mdG r cd tm (nI sn) (nI tx) (nI lz) (nI ((((((((((((((20 + 1) + 1) + 1) + 1) + 1) + 1) + 1) + 1) + 1) + 1) + 1) + 1) + 1) + 1)) (nI na) (nI (nt - 1)) (nI nr) mw ml (mk + 1) dw9)), (r 15, .inl ((cT 0), 200, .inl g15_652))] H := hP
    have hD : va_D A [(r 25, .inl ((cT 1), 7, .inr (.inl (vp_updL g25_591 (nI (nt - 1)).toNatClampNeg (mk + 1))))), (r 26, .inl ((cT 0), 7, .inl (upd g26_592 (nt - 1) x))), (r 27, .inl ((cT 0), 7, .inl (upd g27_593 (nt - 1) y))), (r 28, .inl ((cT 0), 7, .inl (upd g28_594 (nt - 1) z9))), (r 29, .inl ((cT 0), 7, .inl (upd g29_595 (nt - 1) tm))), (r 30, .inl ((cT 0), 112, .inl g30_602)), (r 7, .inl ((cT 0), 1000, .inl f7)), (mo, .inr (12, mdG r cd tm (nI sn) (nI tx) (nI lz) (nI ((((((((((((((20 + 1) + 1) + 1) + 1) + 1) + 1) + 1) + 1) + 1) + 1) + 1) + 1) + 1) + 1)) (nI na) (nI (nt - 1)) (nI nr) mw ml (mk + 1) dw9)), (r 15, .inl ((cT 0), 200, .inl g15_652))] := hD
    refine lv_aload_n hx hb d_Md_challenge_202 rfl (lv_at hl 1 rfl) ?_
    refine lv_iconst (v := 0) hx hb d_Md_challenge_203 (by decide) ?_
    have hPc := hP.sub (ws' := [(mo, .inr (12, mdG r cd tm (nI sn) (nI tx) (nI lz) (nI ((((((((((((((20 + 1) + 1) + 1) + 1) + 1) + 1) + 1) + 1) + 1) + 1) + 1) + 1) + 1) + 1)) (nI na) (nI (nt - 1)) (nI nr) mw ml (mk + 1) dw9)), (r 15, .inl ((cT 0), 200, .inl g15_652))]) [7, 8] rfl
    have hDc := hD.sub (ws' := [(mo, .inr (12, mdG r cd tm (nI sn) (nI tx) (nI lz) (nI ((((((((((((((20 + 1) + 1) + 1) + 1) + 1) + 1) + 1) + 1) + 1) + 1) + 1) + 1) + 1) + 1)) (nI na) (nI (nt - 1)) (nI nr) mw ml (mk + 1) dw9)), (r 15, .inl ((cT 0), 200, .inl g15_652))]) [7, 8] (by decide) rfl
    have hFc := va_free (wc := [(mo, .inr (12, mdG r cd tm (nI sn) (nI tx) (nI lz) (nI ((((((((((((((20 + 1) + 1) + 1) + 1) + 1) + 1) + 1) + 1) + 1) + 1) + 1) + 1) + 1) + 1)) (nI na) (nI (nt - 1)) (nI nr) mw ml (mk + 1) dw9)), (r 15, .inl ((cT 0), 200, .inl g15_652))]) hD hS hA [7, 8] rfl
    refine va_callv (va_runV (C := "DoorServerModel") (As := [.int 0]) (rest := []) ⟨hx, hb, hml, hown, hg⟩ (m_tell l dC dI cT H.size mo r cd tm sn tx lz ((((((((((((((20 + 1) + 1) + 1) + 1) + 1) + 1) + 1) + 1) + 1) + 1) + 1) + 1) + 1) + 1) na (nt - 1) nr mw ml (mk + 1) dw9 g15_652 0 (by first | assumption | omega)) (cwV 1 hg (gI (List.forall_mem_append.mpr ⟨List.forall_mem_cons.mpr ⟨k_1337, List.forall_mem_cons.mpr ⟨k_1339, List.forall_mem_cons.mpr ⟨(big_sel (q := y_Md_tell) (n := 45) (by decide +kernel)), List.forall_mem_cons.mpr ⟨k_13, fun _ h => absurd h List.not_mem_nil⟩⟩⟩⟩, List.forall_mem_cons.mpr ⟨k_1340, fun _ h => h⟩⟩)) rfl rfl rfl (by decide +kernel) ⟨Nat.le_of_ble_eq_true rfl, Nat.le_of_ble_eq_true rfl⟩) ⟨fun a U g mk q => by obtain ⟨q0, q1, qP, qK, qD⟩ := q; exact ⟨q0, q1, qP, va_K.moved (u := U) (U := U.calling g mk a) (Vm.Alike.refl U.vm) qK, qD⟩, va_recv (q0 := 7) (ci := 12) hK hP rfl rfl, fun U hU hW => ⟨rfl, by rw [hU], by rw [hU]; exact hPc, va_K.moved hW.alike hK, hDc.weaken (fun _ _ _ _ => trivial)⟩⟩ rfl rfl hl.1 rfl (lv_room (Nat.le_of_ble_eq_true rfl)) d_Md_challenge_204 ⟨Nat.le_of_ble_eq_true rfl, Nat.le_of_ble_eq_true rfl⟩) hS (fun q _ h => hFc q h) hFc (fun u t H1 locs ht hvm hw hB hz1 hk1 hS => ?_)
    obtain ⟨g15_654, rfl⟩ : ∃ z, z = u := ⟨_, rfl⟩
    try dsimp only at hw hB
    obtain ⟨hP1, hK1, hD1⟩ := hB
    rw [ht] at hP1
    obtain ⟨hP, hD⟩ := va_join (wr := [(r 25, .inl ((cT 1), 7, .inr (.inl (vp_updL g25_591 (nI (nt - 1)).toNatClampNeg (mk + 1))))), (r 26, .inl ((cT 0), 7, .inl (upd g26_592 (nt - 1) x))), (r 27, .inl ((cT 0), 7, .inl (upd g27_593 (nt - 1) y))), (r 28, .inl ((cT 0), 7, .inl (upd g28_594 (nt - 1) z9))), (r 29, .inl ((cT 0), 7, .inl (upd g29_595 (nt - 1) tm))), (r 30, .inl ((cT 0), 112, .inl g30_602)), (r 7, .inl ((cT 0), 1000, .inl f7))]) (w1 := [(mo, .inr (12, mdG r cd tm (nI sn) (nI tx) (nI lz) (nI (((((((((((((((20 + 1) + 1) + 1) + 1) + 1) + 1) + 1) + 1) + 1) + 1) + 1) + 1) + 1) + 1) + 1)) (nI na) (nI (nt - 1)) (nI nr) mw ml (mk + 1) dw9)), (r 15, .inl ((cT 0), 200, .inl g15_654))]) hP hD [7, 8] [0, 1, 2, 3, 4, 5, 6] rfl rfl (by decide) (by decide) hk1 hFc hP1 hD1
    have hw655 := hw
    clear hPc hDc hFc hz1 hk1 hP1 hK1 hD1
    generalize H1 = H at hP hS ⊢
    have hP : va_P (dC, dI) vcl [(r 25, .inl ((cT 1), 7, .inr (.inl (vp_updL g25_591 (nI (nt - 1)).toNatClampNeg (mk + 1))))), (r 26, .inl ((cT 0), 7, .inl (upd g26_592 (nt - 1) x))), (r 27, .inl ((cT 0), 7, .inl (upd g27_593 (nt - 1) y))), (r 28, .inl ((cT 0), 7, .inl (upd g28_594 (nt - 1) z9))), (r 29, .inl ((cT 0), 7, .inl (upd g29_595 (nt - 1) tm))), (r 30, .inl ((cT 0), 112, .inl g30_602)), (r 7, .inl ((cT 0), 1000, .inl f7)), (mo, .inr (12, mdG r cd tm (nI sn) (nI tx) (nI lz) (nI (((((((((((((((20 + 1) + 1) + 1) + 1) + 1) + 1) + 1) + 1) + 1) + 1) + 1) + 1) + 1) + 1) + 1)) (nI na) (nI (nt - 1)) (nI nr) mw ml (mk + 1) dw9)), (r 15, .inl ((cT 0), 200, .inl g15_654))] H := hP
    have hD : va_D A [(r 25, .inl ((cT 1), 7, .inr (.inl (vp_updL g25_591 (nI (nt - 1)).toNatClampNeg (mk + 1))))), (r 26, .inl ((cT 0), 7, .inl (upd g26_592 (nt - 1) x))), (r 27, .inl ((cT 0), 7, .inl (upd g27_593 (nt - 1) y))), (r 28, .inl ((cT 0), 7, .inl (upd g28_594 (nt - 1) z9))), (r 29, .inl ((cT 0), 7, .inl (upd g29_595 (nt - 1) tm))), (r 30, .inl ((cT 0), 112, .inl g30_602)), (r 7, .inl ((cT 0), 1000, .inl f7)), (mo, .inr (12, mdG r cd tm (nI sn) (nI tx) (nI lz) (nI (((((((((((((((20 + 1) + 1) + 1) + 1) + 1) + 1) + 1) + 1) + 1) + 1) + 1) + 1) + 1) + 1) + 1)) (nI na) (nI (nt - 1)) (nI nr) mw ml (mk + 1) dw9)), (r 15, .inl ((cT 0), 200, .inl g15_654))] := hD
    refine lv_aload_n hx hb d_Md_challenge_207 rfl (lv_at hl 1 rfl) ?_
    refine lv_bipush (v := 22) hx hb d_Md_challenge_208 (by decide) ?_
    have hPc := hP.sub (ws' := [(mo, .inr (12, mdG r cd tm (nI sn) (nI tx) (nI lz) (nI (((((((((((((((20 + 1) + 1) + 1) + 1) + 1) + 1) + 1) + 1) + 1) + 1) + 1) + 1) + 1) + 1) + 1)) (nI na) (nI (nt - 1)) (nI nr) mw ml (mk + 1) dw9)), (r 15, .inl ((cT 0), 200, .inl g15_654))]) [7, 8] rfl
    have hDc := hD.sub (ws' := [(mo, .inr (12, mdG r cd tm (nI sn) (nI tx) (nI lz) (nI (((((((((((((((20 + 1) + 1) + 1) + 1) + 1) + 1) + 1) + 1) + 1) + 1) + 1) + 1) + 1) + 1) + 1)) (nI na) (nI (nt - 1)) (nI nr) mw ml (mk + 1) dw9)), (r 15, .inl ((cT 0), 200, .inl g15_654))]) [7, 8] (by decide) rfl
    have hFc := va_free (wc := [(mo, .inr (12, mdG r cd tm (nI sn) (nI tx) (nI lz) (nI (((((((((((((((20 + 1) + 1) + 1) + 1) + 1) + 1) + 1) + 1) + 1) + 1) + 1) + 1) + 1) + 1) + 1)) (nI na) (nI (nt - 1)) (nI nr) mw ml (mk + 1) dw9)), (r 15, .inl ((cT 0), 200, .inl g15_654))]) hD hS hA [7, 8] rfl
    refine va_callv (va_runV (C := "DoorServerModel") (As := [.int 22]) (rest := []) ⟨hx, hb, hml, hown, hg⟩ (m_tell l dC dI cT H.size mo r cd tm sn tx lz (((((((((((((((20 + 1) + 1) + 1) + 1) + 1) + 1) + 1) + 1) + 1) + 1) + 1) + 1) + 1) + 1) + 1) na (nt - 1) nr mw ml (mk + 1) dw9 g15_654 22 (by first | assumption | omega)) (cwV 1 hg (gI (List.forall_mem_append.mpr ⟨List.forall_mem_cons.mpr ⟨k_1337, List.forall_mem_cons.mpr ⟨k_1339, List.forall_mem_cons.mpr ⟨(big_sel (q := y_Md_tell) (n := 45) (by decide +kernel)), List.forall_mem_cons.mpr ⟨k_13, fun _ h => absurd h List.not_mem_nil⟩⟩⟩⟩, List.forall_mem_cons.mpr ⟨k_1340, fun _ h => h⟩⟩)) rfl rfl rfl (by decide +kernel) ⟨Nat.le_of_ble_eq_true rfl, Nat.le_of_ble_eq_true rfl⟩) ⟨fun a U g mk q => by obtain ⟨q0, q1, qP, qK, qD⟩ := q; exact ⟨q0, q1, qP, va_K.moved (u := U) (U := U.calling g mk a) (Vm.Alike.refl U.vm) qK, qD⟩, va_recv (q0 := 7) (ci := 12) hK hP rfl rfl, fun U hU hW => ⟨rfl, by rw [hU], by rw [hU]; exact hPc, va_K.moved hW.alike hK, hDc.weaken (fun _ _ _ _ => trivial)⟩⟩ rfl rfl hl.1 rfl (lv_room (Nat.le_of_ble_eq_true rfl)) d_Md_challenge_210 ⟨Nat.le_of_ble_eq_true rfl, Nat.le_of_ble_eq_true rfl⟩) hS (fun q _ h => hFc q h) hFc (fun u t H1 locs ht hvm hw hB hz1 hk1 hS => ?_)
    obtain ⟨g15_656, rfl⟩ : ∃ z, z = u := ⟨_, rfl⟩
    try dsimp only at hw hB
    obtain ⟨hP1, hK1, hD1⟩ := hB
    rw [ht] at hP1
    obtain ⟨hP, hD⟩ := va_join (wr := [(r 25, .inl ((cT 1), 7, .inr (.inl (vp_updL g25_591 (nI (nt - 1)).toNatClampNeg (mk + 1))))), (r 26, .inl ((cT 0), 7, .inl (upd g26_592 (nt - 1) x))), (r 27, .inl ((cT 0), 7, .inl (upd g27_593 (nt - 1) y))), (r 28, .inl ((cT 0), 7, .inl (upd g28_594 (nt - 1) z9))), (r 29, .inl ((cT 0), 7, .inl (upd g29_595 (nt - 1) tm))), (r 30, .inl ((cT 0), 112, .inl g30_602)), (r 7, .inl ((cT 0), 1000, .inl f7))]) (w1 := [(mo, .inr (12, mdG r cd tm (nI sn) (nI tx) (nI lz) (nI ((((((((((((((((20 + 1) + 1) + 1) + 1) + 1) + 1) + 1) + 1) + 1) + 1) + 1) + 1) + 1) + 1) + 1) + 1)) (nI na) (nI (nt - 1)) (nI nr) mw ml (mk + 1) dw9)), (r 15, .inl ((cT 0), 200, .inl g15_656))]) hP hD [7, 8] [0, 1, 2, 3, 4, 5, 6] rfl rfl (by decide) (by decide) hk1 hFc hP1 hD1
    have hw657 := hw
    clear hPc hDc hFc hz1 hk1 hP1 hK1 hD1
    generalize H1 = H at hP hS ⊢
    have hP : va_P (dC, dI) vcl [(r 25, .inl ((cT 1), 7, .inr (.inl (vp_updL g25_591 (nI (nt - 1)).toNatClampNeg (mk + 1))))), (r 26, .inl ((cT 0), 7, .inl (upd g26_592 (nt - 1) x))), (r 27, .inl ((cT 0), 7, .inl (upd g27_593 (nt - 1) y))), (r 28, .inl ((cT 0), 7, .inl (upd g28_594 (nt - 1) z9))), (r 29, .inl ((cT 0), 7, .inl (upd g29_595 (nt - 1) tm))), (r 30, .inl ((cT 0), 112, .inl g30_602)), (r 7, .inl ((cT 0), 1000, .inl f7)), (mo, .inr (12, mdG r cd tm (nI sn) (nI tx) (nI lz) (nI ((((((((((((((((20 + 1) + 1) + 1) + 1) + 1) + 1) + 1) + 1) + 1) + 1) + 1) + 1) + 1) + 1) + 1) + 1)) (nI na) (nI (nt - 1)) (nI nr) mw ml (mk + 1) dw9)), (r 15, .inl ((cT 0), 200, .inl g15_656))] H := hP
    have hD : va_D A [(r 25, .inl ((cT 1), 7, .inr (.inl (vp_updL g25_591 (nI (nt - 1)).toNatClampNeg (mk + 1))))), (r 26, .inl ((cT 0), 7, .inl (upd g26_592 (nt - 1) x))), (r 27, .inl ((cT 0), 7, .inl (upd g27_593 (nt - 1) y))), (r 28, .inl ((cT 0), 7, .inl (upd g28_594 (nt - 1) z9))), (r 29, .inl ((cT 0), 7, .inl (upd g29_595 (nt - 1) tm))), (r 30, .inl ((cT 0), 112, .inl g30_602)), (r 7, .inl ((cT 0), 1000, .inl f7)), (mo, .inr (12, mdG r cd tm (nI sn) (nI tx) (nI lz) (nI ((((((((((((((((20 + 1) + 1) + 1) + 1) + 1) + 1) + 1) + 1) + 1) + 1) + 1) + 1) + 1) + 1) + 1) + 1)) (nI na) (nI (nt - 1)) (nI nr) mw ml (mk + 1) dw9)), (r 15, .inl ((cT 0), 200, .inl g15_656))] := hD
    refine lv_aload_n hx hb d_Md_challenge_213 rfl (lv_at hl 1 rfl) ?_
    refine lv_iconst (v := 4) hx hb d_Md_challenge_214 (by decide) ?_
    have hPc := hP.sub (ws' := [(mo, .inr (12, mdG r cd tm (nI sn) (nI tx) (nI lz) (nI ((((((((((((((((20 + 1) + 1) + 1) + 1) + 1) + 1) + 1) + 1) + 1) + 1) + 1) + 1) + 1) + 1) + 1) + 1)) (nI na) (nI (nt - 1)) (nI nr) mw ml (mk + 1) dw9)), (r 15, .inl ((cT 0), 200, .inl g15_656))]) [7, 8] rfl
    have hDc := hD.sub (ws' := [(mo, .inr (12, mdG r cd tm (nI sn) (nI tx) (nI lz) (nI ((((((((((((((((20 + 1) + 1) + 1) + 1) + 1) + 1) + 1) + 1) + 1) + 1) + 1) + 1) + 1) + 1) + 1) + 1)) (nI na) (nI (nt - 1)) (nI nr) mw ml (mk + 1) dw9)), (r 15, .inl ((cT 0), 200, .inl g15_656))]) [7, 8] (by decide) rfl
    have hFc := va_free (wc := [(mo, .inr (12, mdG r cd tm (nI sn) (nI tx) (nI lz) (nI ((((((((((((((((20 + 1) + 1) + 1) + 1) + 1) + 1) + 1) + 1) + 1) + 1) + 1) + 1) + 1) + 1) + 1) + 1)) (nI na) (nI (nt - 1)) (nI nr) mw ml (mk + 1) dw9)), (r 15, .inl ((cT 0), 200, .inl g15_656))]) hD hS hA [7, 8] rfl
    refine va_callv (va_runV (C := "DoorServerModel") (As := [.int 4]) (rest := []) ⟨hx, hb, hml, hown, hg⟩ (m_tell l dC dI cT H.size mo r cd tm sn tx lz ((((((((((((((((20 + 1) + 1) + 1) + 1) + 1) + 1) + 1) + 1) + 1) + 1) + 1) + 1) + 1) + 1) + 1) + 1) na (nt - 1) nr mw ml (mk + 1) dw9 g15_656 4 (by first | assumption | omega)) (cwV 1 hg (gI (List.forall_mem_append.mpr ⟨List.forall_mem_cons.mpr ⟨k_1337, List.forall_mem_cons.mpr ⟨k_1339, List.forall_mem_cons.mpr ⟨(big_sel (q := y_Md_tell) (n := 45) (by decide +kernel)), List.forall_mem_cons.mpr ⟨k_13, fun _ h => absurd h List.not_mem_nil⟩⟩⟩⟩, List.forall_mem_cons.mpr ⟨k_1340, fun _ h => h⟩⟩)) rfl rfl rfl (by decide +kernel) ⟨Nat.le_of_ble_eq_true rfl, Nat.le_of_ble_eq_true rfl⟩) ⟨fun a U g mk q => by obtain ⟨q0, q1, qP, qK, qD⟩ := q; exact ⟨q0, q1, qP, va_K.moved (u := U) (U := U.calling g mk a) (Vm.Alike.refl U.vm) qK, qD⟩, va_recv (q0 := 7) (ci := 12) hK hP rfl rfl, fun U hU hW => ⟨rfl, by rw [hU], by rw [hU]; exact hPc, va_K.moved hW.alike hK, hDc.weaken (fun _ _ _ _ => trivial)⟩⟩ rfl rfl hl.1 rfl (lv_room (Nat.le_of_ble_eq_true rfl)) d_Md_challenge_215 ⟨Nat.le_of_ble_eq_true rfl, Nat.le_of_ble_eq_true rfl⟩) hS (fun q _ h => hFc q h) hFc (fun u t H1 locs ht hvm hw hB hz1 hk1 hS => ?_)
    obtain ⟨g15_658, rfl⟩ : ∃ z, z = u := ⟨_, rfl⟩
    try dsimp only at hw hB
    obtain ⟨hP1, hK1, hD1⟩ := hB
    rw [ht] at hP1
    obtain ⟨hP, hD⟩ := va_join (wr := [(r 25, .inl ((cT 1), 7, .inr (.inl (vp_updL g25_591 (nI (nt - 1)).toNatClampNeg (mk + 1))))), (r 26, .inl ((cT 0), 7, .inl (upd g26_592 (nt - 1) x))), (r 27, .inl ((cT 0), 7, .inl (upd g27_593 (nt - 1) y))), (r 28, .inl ((cT 0), 7, .inl (upd g28_594 (nt - 1) z9))), (r 29, .inl ((cT 0), 7, .inl (upd g29_595 (nt - 1) tm))), (r 30, .inl ((cT 0), 112, .inl g30_602)), (r 7, .inl ((cT 0), 1000, .inl f7))]) (w1 := [(mo, .inr (12, mdG r cd tm (nI sn) (nI tx) (nI lz) (nI (((((((((((((((((20 + 1) + 1) + 1) + 1) + 1) + 1) + 1) + 1) + 1) + 1) + 1) + 1) + 1) + 1) + 1) + 1) + 1)) (nI na) (nI (nt - 1)) (nI nr) mw ml (mk + 1) dw9)), (r 15, .inl ((cT 0), 200, .inl g15_658))]) hP hD [7, 8] [0, 1, 2, 3, 4, 5, 6] rfl rfl (by decide) (by decide) hk1 hFc hP1 hD1
    have hw659 := hw
    clear hPc hDc hFc hz1 hk1 hP1 hK1 hD1
    generalize H1 = H at hP hS ⊢
    have hP : va_P (dC, dI) vcl [(r 25, .inl ((cT 1), 7, .inr (.inl (vp_updL g25_591 (nI (nt - 1)).toNatClampNeg (mk + 1))))), (r 26, .inl ((cT 0), 7, .inl (upd g26_592 (nt - 1) x))), (r 27, .inl ((cT 0), 7, .inl (upd g27_593 (nt - 1) y))), (r 28, .inl ((cT 0), 7, .inl (upd g28_594 (nt - 1) z9))), (r 29, .inl ((cT 0), 7, .inl (upd g29_595 (nt - 1) tm))), (r 30, .inl ((cT 0), 112, .inl g30_602)), (r 7, .inl ((cT 0), 1000, .inl f7)), (mo, .inr (12, mdG r cd tm (nI sn) (nI tx) (nI lz) (nI (((((((((((((((((20 + 1) + 1) + 1) + 1) + 1) + 1) + 1) + 1) + 1) + 1) + 1) + 1) + 1) + 1) + 1) + 1) + 1)) (nI na) (nI (nt - 1)) (nI nr) mw ml (mk + 1) dw9)), (r 15, .inl ((cT 0), 200, .inl g15_658))] H := hP
    have hD : va_D A [(r 25, .inl ((cT 1), 7, .inr (.inl (vp_updL g25_591 (nI (nt - 1)).toNatClampNeg (mk + 1))))), (r 26, .inl ((cT 0), 7, .inl (upd g26_592 (nt - 1) x))), (r 27, .inl ((cT 0), 7, .inl (upd g27_593 (nt - 1) y))), (r 28, .inl ((cT 0), 7, .inl (upd g28_594 (nt - 1) z9))), (r 29, .inl ((cT 0), 7, .inl (upd g29_595 (nt - 1) tm))), (r 30, .inl ((cT 0), 112, .inl g30_602)), (r 7, .inl ((cT 0), 1000, .inl f7)), (mo, .inr (12, mdG r cd tm (nI sn) (nI tx) (nI lz) (nI (((((((((((((((((20 + 1) + 1) + 1) + 1) + 1) + 1) + 1) + 1) + 1) + 1) + 1) + 1) + 1) + 1) + 1) + 1) + 1)) (nI na) (nI (nt - 1)) (nI nr) mw ml (mk + 1) dw9)), (r 15, .inl ((cT 0), 200, .inl g15_658))] := hD
    refine lv_aload_n hx hb d_Md_challenge_218 rfl (lv_at hl 1 rfl) ?_
    refine lv_bipush (v := 16) hx hb d_Md_challenge_219 (by decide) ?_
    have hPc := hP.sub (ws' := [(mo, .inr (12, mdG r cd tm (nI sn) (nI tx) (nI lz) (nI (((((((((((((((((20 + 1) + 1) + 1) + 1) + 1) + 1) + 1) + 1) + 1) + 1) + 1) + 1) + 1) + 1) + 1) + 1) + 1)) (nI na) (nI (nt - 1)) (nI nr) mw ml (mk + 1) dw9)), (r 15, .inl ((cT 0), 200, .inl g15_658))]) [7, 8] rfl
    have hDc := hD.sub (ws' := [(mo, .inr (12, mdG r cd tm (nI sn) (nI tx) (nI lz) (nI (((((((((((((((((20 + 1) + 1) + 1) + 1) + 1) + 1) + 1) + 1) + 1) + 1) + 1) + 1) + 1) + 1) + 1) + 1) + 1)) (nI na) (nI (nt - 1)) (nI nr) mw ml (mk + 1) dw9)), (r 15, .inl ((cT 0), 200, .inl g15_658))]) [7, 8] (by decide) rfl
    have hFc := va_free (wc := [(mo, .inr (12, mdG r cd tm (nI sn) (nI tx) (nI lz) (nI (((((((((((((((((20 + 1) + 1) + 1) + 1) + 1) + 1) + 1) + 1) + 1) + 1) + 1) + 1) + 1) + 1) + 1) + 1) + 1)) (nI na) (nI (nt - 1)) (nI nr) mw ml (mk + 1) dw9)), (r 15, .inl ((cT 0), 200, .inl g15_658))]) hD hS hA [7, 8] rfl
    refine va_callv (va_runV (C := "DoorServerModel") (As := [.int 16]) (rest := []) ⟨hx, hb, hml, hown, hg⟩ (m_tell l dC dI cT H.size mo r cd tm sn tx lz (((((((((((((((((20 + 1) + 1) + 1) + 1) + 1) + 1) + 1) + 1) + 1) + 1) + 1) + 1) + 1) + 1) + 1) + 1) + 1) na (nt - 1) nr mw ml (mk + 1) dw9 g15_658 16 (by first | assumption | omega)) (cwV 1 hg (gI (List.forall_mem_append.mpr ⟨List.forall_mem_cons.mpr ⟨k_1337, List.forall_mem_cons.mpr ⟨k_1339, List.forall_mem_cons.mpr ⟨(big_sel (q := y_Md_tell) (n := 45) (by decide +kernel)), List.forall_mem_cons.mpr ⟨k_13, fun _ h => absurd h List.not_mem_nil⟩⟩⟩⟩, List.forall_mem_cons.mpr ⟨k_1340, fun _ h => h⟩⟩)) rfl rfl rfl (by decide +kernel) ⟨Nat.le_of_ble_eq_true rfl, Nat.le_of_ble_eq_true rfl⟩) ⟨fun a U g mk q => by obtain ⟨q0, q1, qP, qK, qD⟩ := q; exact ⟨q0, q1, qP, va_K.moved (u := U) (U := U.calling g mk a) (Vm.Alike.refl U.vm) qK, qD⟩, va_recv (q0 := 7) (ci := 12) hK hP rfl rfl, fun U hU hW => ⟨rfl, by rw [hU], by rw [hU]; exact hPc, va_K.moved hW.alike hK, hDc.weaken (fun _ _ _ _ => trivial)⟩⟩ rfl rfl hl.1 rfl (lv_room (Nat.le_of_ble_eq_true rfl)) d_Md_challenge_221 ⟨Nat.le_of_ble_eq_true rfl, Nat.le_of_ble_eq_true rfl⟩) hS (fun q _ h => hFc q h) hFc (fun u t H1 locs ht hvm hw hB hz1 hk1 hS => ?_)
    obtain ⟨g15_660, rfl⟩ : ∃ z, z = u := ⟨_, rfl⟩
    try dsimp only at hw hB
    obtain ⟨hP1, hK1, hD1⟩ := hB
    rw [ht] at hP1
    obtain ⟨hP, hD⟩ := va_join (wr := [(r 25, .inl ((cT 1), 7, .inr (.inl (vp_updL g25_591 (nI (nt - 1)).toNatClampNeg (mk + 1))))), (r 26, .inl ((cT 0), 7, .inl (upd g26_592 (nt - 1) x))), (r 27, .inl ((cT 0), 7, .inl (upd g27_593 (nt - 1) y))), (r 28, .inl ((cT 0), 7, .inl (upd g28_594 (nt - 1) z9))), (r 29, .inl ((cT 0), 7, .inl (upd g29_595 (nt - 1) tm))), (r 30, .inl ((cT 0), 112, .inl g30_602)), (r 7, .inl ((cT 0), 1000, .inl f7))]) (w1 := [(mo, .inr (12, mdG r cd tm (nI sn) (nI tx) (nI lz) (nI ((((((((((((((((((20 + 1) + 1) + 1) + 1) + 1) + 1) + 1) + 1) + 1) + 1) + 1) + 1) + 1) + 1) + 1) + 1) + 1) + 1)) (nI na) (nI (nt - 1)) (nI nr) mw ml (mk + 1) dw9)), (r 15, .inl ((cT 0), 200, .inl g15_660))]) hP hD [7, 8] [0, 1, 2, 3, 4, 5, 6] rfl rfl (by decide) (by decide) hk1 hFc hP1 hD1
    have hw661 := hw
    clear hPc hDc hFc hz1 hk1 hP1 hK1 hD1
    generalize H1 = H at hP hS ⊢
    have hP : va_P (dC, dI) vcl [(r 25, .inl ((cT 1), 7, .inr (.inl (vp_updL g25_591 (nI (nt - 1)).toNatClampNeg (mk + 1))))), (r 26, .inl ((cT 0), 7, .inl (upd g26_592 (nt - 1) x))), (r 27, .inl ((cT 0), 7, .inl (upd g27_593 (nt - 1) y))), (r 28, .inl ((cT 0), 7, .inl (upd g28_594 (nt - 1) z9))), (r 29, .inl ((cT 0), 7, .inl (upd g29_595 (nt - 1) tm))), (r 30, .inl ((cT 0), 112, .inl g30_602)), (r 7, .inl ((cT 0), 1000, .inl f7)), (mo, .inr (12, mdG r cd tm (nI sn) (nI tx) (nI lz) (nI ((((((((((((((((((20 + 1) + 1) + 1) + 1) + 1) + 1) + 1) + 1) + 1) + 1) + 1) + 1) + 1) + 1) + 1) + 1) + 1) + 1)) (nI na) (nI (nt - 1)) (nI nr) mw ml (mk + 1) dw9)), (r 15, .inl ((cT 0), 200, .inl g15_660))] H := hP
    have hD : va_D A [(r 25, .inl ((cT 1), 7, .inr (.inl (vp_updL g25_591 (nI (nt - 1)).toNatClampNeg (mk + 1))))), (r 26, .inl ((cT 0), 7, .inl (upd g26_592 (nt - 1) x))), (r 27, .inl ((cT 0), 7, .inl (upd g27_593 (nt - 1) y))), (r 28, .inl ((cT 0), 7, .inl (upd g28_594 (nt - 1) z9))), (r 29, .inl ((cT 0), 7, .inl (upd g29_595 (nt - 1) tm))), (r 30, .inl ((cT 0), 112, .inl g30_602)), (r 7, .inl ((cT 0), 1000, .inl f7)), (mo, .inr (12, mdG r cd tm (nI sn) (nI tx) (nI lz) (nI ((((((((((((((((((20 + 1) + 1) + 1) + 1) + 1) + 1) + 1) + 1) + 1) + 1) + 1) + 1) + 1) + 1) + 1) + 1) + 1) + 1)) (nI na) (nI (nt - 1)) (nI nr) mw ml (mk + 1) dw9)), (r 15, .inl ((cT 0), 200, .inl g15_660))] := hD
    refine lv_iconst (v := 0) hx hb d_Md_challenge_224 (by decide) ?_
    refine lv_istore (lv' := [(4, .int 0), (0, .ref mo), (1, .int x), (2, .int y), (3, .int z9)]) hx hb d_Md_challenge_225 hl (by decide) rfl (fun ls hl => ?_)
    have hl := lv_sub hl [0, 1, 2, 3, 4] (show _ = [(4, .int 0), (0, .ref mo), (1, .int x), (2, .int y), (3, .int z9)] from rfl)
    have L663 : ∀ (Q : State → Prop) (exit : ∀ (g15_662 : Nat → Int32) (H : Heap) (locs : List Loc) (ls : Array Slot), va_P (dC, dI) vcl [(r 25, .inl ((cT 1), 7, .inr (.inl (vp_updL g25_591 (nI (nt - 1)).toNatClampNeg (mk + 1))))), (r 26, .inl ((cT 0), 7, .inl (upd g26_592 (nt - 1) x))), (r 27, .inl ((cT 0), 7, .inl (upd g27_593 (nt - 1) y))), (r 28, .inl ((cT 0), 7, .inl (upd g28_594 (nt - 1) z9))), (r 29, .inl ((cT 0), 7, .inl (upd g29_595 (nt - 1) tm))), (r 30, .inl ((cT 0), 112, .inl g30_602)), (r 7, .inl ((cT 0), 1000, .inl f7)), (mo, .inr (12, mdG r cd tm (nI sn) (nI tx) (nI lz) (nI ((((((((((((((((((20 + 1) + 1) + 1) + 1) + 1) + 1) + 1) + 1) + 1) + 1) + 1) + 1) + 1) + 1) + 1) + 1) + 1) + 1 + 16)) (nI na) (nI (nt - 1)) (nI nr) mw ml (mk + 1) dw9)), (r 15, .inl ((cT 0), 200, .inl g15_662))] H → va_D A [(r 25, .inl ((cT 1), 7, .inr (.inl (vp_updL g25_591 (nI (nt - 1)).toNatClampNeg (mk + 1))))), (r 26, .inl ((cT 0), 7, .inl (upd g26_592 (nt - 1) x))), (r 27, .inl ((cT 0), 7, .inl (upd g27_593 (nt - 1) y))), (r 28, .inl ((cT 0), 7, .inl (upd g28_594 (nt - 1) z9))), (r 29, .inl ((cT 0), 7, .inl (upd g29_595 (nt - 1) tm))), (r 30, .inl ((cT 0), 112, .inl g30_602)), (r 7, .inl ((cT 0), 1000, .inl f7)), (mo, .inr (12, mdG r cd tm (nI sn) (nI tx) (nI lz) (nI ((((((((((((((((((20 + 1) + 1) + 1) + 1) + 1) + 1) + 1) + 1) + 1) + 1) + 1) + 1) + 1) + 1) + 1) + 1) + 1) + 1 + 16)) (nI na) (nI (nt - 1)) (nI nr) mw ml (mk + 1) dw9)), (r 15, .inl ((cT 0), 200, .inl g15_662))] → va_S A s.heap H locs → lv_has ls 5 [(4, .int (nI 16)), (0, .ref mo), (1, .int x), (2, .int y), (3, .int z9)] → W p l e ({ frames := 2, cells := 0, slots := 0, locals := 45 } : Room) s m args below meth c H locs 0 0 Q (F0 m 259 ls [])) (j8 i : Nat) (g15_662 : Nat → Int32) (H : Heap) (locs : List Loc) (ls : Array Slot), i + j8 = 16 → va_P (dC, dI) vcl [(r 25, .inl ((cT 1), 7, .inr (.inl (vp_updL g25_591 (nI (nt - 1)).toNatClampNeg (mk + 1))))), (r 26, .inl ((cT 0), 7, .inl (upd g26_592 (nt - 1) x))), (r 27, .inl ((cT 0), 7, .inl (upd g27_593 (nt - 1) y))), (r 28, .inl ((cT 0), 7, .inl (upd g28_594 (nt - 1) z9))), (r 29, .inl ((cT 0), 7, .inl (upd g29_595 (nt - 1) tm))), (r 30, .inl ((cT 0), 112, .inl g30_602)), (r 7, .inl ((cT 0), 1000, .inl f7)), (mo, .inr (12, mdG r cd tm (nI sn) (nI tx) (nI lz) (nI ((((((((((((((((((20 + 1) + 1) + 1) + 1) + 1) + 1) + 1) + 1) + 1) + 1) + 1) + 1) + 1) + 1) + 1) + 1) + 1) + 1 + i)) (nI na) (nI (nt - 1)) (nI nr) mw ml (mk + 1) dw9)), (r 15, .inl ((cT 0), 200, .inl g15_662))] H → va_D A [(r 25, .inl ((cT 1), 7, .inr (.inl (vp_updL g25_591 (nI (nt - 1)).toNatClampNeg (mk + 1))))), (r 26, .inl ((cT 0), 7, .inl (upd g26_592 (nt - 1) x))), (r 27, .inl ((cT 0), 7, .inl (upd g27_593 (nt - 1) y))), (r 28, .inl ((cT 0), 7, .inl (upd g28_594 (nt - 1) z9))), (r 29, .inl ((cT 0), 7, .inl (upd g29_595 (nt - 1) tm))), (r 30, .inl ((cT 0), 112, .inl g30_602)), (r 7, .inl ((cT 0), 1000, .inl f7)), (mo, .inr (12, mdG r cd tm (nI sn) (nI tx) (nI lz) (nI ((((((((((((((((((20 + 1) + 1) + 1) + 1) + 1) + 1) + 1) + 1) + 1) + 1) + 1) + 1) + 1) + 1) + 1) + 1) + 1) + 1 + i)) (nI na) (nI (nt - 1)) (nI nr) mw ml (mk + 1) dw9)), (r 15, .inl ((cT 0), 200, .inl g15_662))] → va_S A s.heap H locs → lv_has ls 5 [(4, .int (nI i)), (0, .ref mo), (1, .int x), (2, .int y), (3, .int z9)] → W p l e ({ frames := 2, cells := 0, slots := 0, locals := 45 } : Room) s m args below meth c H locs 0 0 Q (F0 m 227 ls []) := by
      intro Q exit j8
      induction j8 with
      | zero => 
        intro i g15_662 H locs ls hij  hP hD hS hl
        have hij : 16 = i := by omega
        refine lv_iload hx hb d_Md_challenge_227 (lv_at hl 0 rfl) ?_
        refine lv_bipush (v := 16) hx hb d_Md_challenge_229 (by decide) ?_
        refine lv_topi (fun x665 e664 => ?_)
        obtain rfl : x665 = nI 16 := by rw [e664]; rfl
        refine lv_icmp_ge (tgt := 259) hx hb d_Md_challenge_231 (by decide) (fun hc666 => ?_) (fun hn9 => absurd (nI_le (by omega) (by omega)) hn9)
        subst hij
        exact exit g15_662 _ _ _  hP hD hS hl
      | succ j8 ih => 
        intro i g15_662 H locs ls hij  hP hD hS hl
        have hlt : i < 16 := by omega
        have hlti := hlt
        refine lv_iload hx hb d_Md_challenge_227 (lv_at hl 0 rfl) ?_
        refine lv_bipush (v := 16) hx hb d_Md_challenge_229 (by decide) ?_
        refine lv_topi (fun x668 e667 => ?_)
        obtain rfl : x668 = nI 16 := by rw [e667]; rfl
        refine lv_icmp_ge (tgt := 259) hx hb d_Md_challenge_231 (by decide) (fun hn9 => absurd hn9 (nI_ge (by omega) (by omega))) (fun hc669 => ?_)
        refine lv_aload_n hx hb d_Md_challenge_234 rfl (lv_at hl 1 rfl) ?_
        refine lv_aload_n hx hb d_Md_challenge_235 rfl (lv_at hl 1 rfl) ?_
        refine va_get (D := (dC, dI)) (ci := 12) (v := (.ref (r 30))) (C := R_Md) (T := F_Md) (N := 45) hx hb hg in_Md hown hK hP 7 rfl rfl 30 (by decide) (hg _ k_1050) (fun _ h9 => h9) rfl d_Md_challenge_236 ?_
        refine lv_bipush (v := 16) hx hb d_Md_challenge_239 (by decide) ?_
        refine lv_aload_n hx hb d_Md_challenge_241 rfl (lv_at hl 1 rfl) ?_
        refine va_get (D := (dC, dI)) (ci := 12) (v := (.int (nI (nt - 1)))) (C := R_Md) (T := F_Md) (N := 45) hx hb hg in_Md hown hK hP 7 rfl rfl 24 (by decide) (hg _ k_1044) (fun _ h9 => h9) rfl d_Md_challenge_242 ?_
        refine lv_imul hx hb d_Md_challenge_245 ?_
        refine lv_topi (fun x671 e670 => ?_)
        obtain rfl : x671 = nI (16 * (nt - 1)) := by rw [e670]; exact pk_mul 16 (nt - 1)
        refine lv_iload hx hb d_Md_challenge_246 (lv_at hl 0 rfl) ?_
        refine lv_iadd hx hb d_Md_challenge_248 ?_
        refine lv_topi (fun x673 e672 => ?_)
        obtain rfl : x673 = nI ((16 * (nt - 1)) + i) := by rw [e672]; exact nI_add (16 * (nt - 1)) i
        refine va_iald hx hb hK hP 5 0 rfl rfl (i := (nI ((16 * (nt - 1)) + i))) (vp_in_nI (N := 112) (by omega) (by decide)) d_Md_challenge_249 ?_
        refine lv_topi (fun x674 e_x674 => ?_)
        clear e_x674
        have hPc := hP.sub (ws' := [(mo, .inr (12, mdG r cd tm (nI sn) (nI tx) (nI lz) (nI ((((((((((((((((((20 + 1) + 1) + 1) + 1) + 1) + 1) + 1) + 1) + 1) + 1) + 1) + 1) + 1) + 1) + 1) + 1) + 1) + 1 + i)) (nI na) (nI (nt - 1)) (nI nr) mw ml (mk + 1) dw9)), (r 15, .inl ((cT 0), 200, .inl g15_662))]) [7, 8] rfl
        have hDc := hD.sub (ws' := [(mo, .inr (12, mdG r cd tm (nI sn) (nI tx) (nI lz) (nI ((((((((((((((((((20 + 1) + 1) + 1) + 1) + 1) + 1) + 1) + 1) + 1) + 1) + 1) + 1) + 1) + 1) + 1) + 1) + 1) + 1 + i)) (nI na) (nI (nt - 1)) (nI nr) mw ml (mk + 1) dw9)), (r 15, .inl ((cT 0), 200, .inl g15_662))]) [7, 8] (by decide) rfl
        have hFc := va_free (wc := [(mo, .inr (12, mdG r cd tm (nI sn) (nI tx) (nI lz) (nI ((((((((((((((((((20 + 1) + 1) + 1) + 1) + 1) + 1) + 1) + 1) + 1) + 1) + 1) + 1) + 1) + 1) + 1) + 1) + 1) + 1 + i)) (nI na) (nI (nt - 1)) (nI nr) mw ml (mk + 1) dw9)), (r 15, .inl ((cT 0), 200, .inl g15_662))]) hD hS hA [7, 8] rfl
        refine va_callv (va_runV (C := "DoorServerModel") (As := [.int x674]) (rest := []) ⟨hx, hb, hml, hown, hg⟩ (m_tell l dC dI cT H.size mo r cd tm sn tx lz ((((((((((((((((((20 + 1) + 1) + 1) + 1) + 1) + 1) + 1) + 1) + 1) + 1) + 1) + 1) + 1) + 1) + 1) + 1) + 1) + 1 + i) na (nt - 1) nr mw ml (mk + 1) dw9 g15_662 x674 (by first | assumption | omega)) (cwV 1 hg (gI (List.forall_mem_append.mpr ⟨List.forall_mem_cons.mpr ⟨k_1337, List.forall_mem_cons.mpr ⟨k_1339, List.forall_mem_cons.mpr ⟨(big_sel (q := y_Md_tell) (n := 45) (by decide +kernel)), List.forall_mem_cons.mpr ⟨k_13, fun _ h => absurd h List.not_mem_nil⟩⟩⟩⟩, List.forall_mem_cons.mpr ⟨k_1340, fun _ h => h⟩⟩)) rfl rfl rfl (by decide +kernel) ⟨Nat.le_of_ble_eq_true rfl, Nat.le_of_ble_eq_true rfl⟩) ⟨fun a U g mk q => by obtain ⟨q0, q1, qP, qK, qD⟩ := q; exact ⟨q0, q1, qP, va_K.moved (u := U) (U := U.calling g mk a) (Vm.Alike.refl U.vm) qK, qD⟩, va_recv (q0 := 7) (ci := 12) hK hP rfl rfl, fun U hU hW => ⟨rfl, by rw [hU], by rw [hU]; exact hPc, va_K.moved hW.alike hK, hDc.weaken (fun _ _ _ _ => trivial)⟩⟩ rfl rfl hl.1 rfl (lv_room (Nat.le_of_ble_eq_true rfl)) d_Md_challenge_250 ⟨Nat.le_of_ble_eq_true rfl, Nat.le_of_ble_eq_true rfl⟩) hS (fun q _ h => hFc q h) hFc (fun u t H1 locs ht hvm hw hB hz1 hk1 hS => ?_)
        obtain ⟨g15_675, rfl⟩ : ∃ z, z = u := ⟨_, rfl⟩
        try dsimp only at hw hB
        obtain ⟨hP1, hK1, hD1⟩ := hB
        rw [ht] at hP1
        obtain ⟨hP, hD⟩ := va_join (wr := [(r 25, .inl ((cT 1), 7, .inr (.inl (vp_updL g25_591 (nI (nt - 1)).toNatClampNeg (mk + 1))))), (r 26, .inl ((cT 0), 7, .inl (upd g26_592 (nt - 1) x))), (r 27, .inl ((cT 0), 7, .inl (upd g27_593 (nt - 1) y))), (r 28, .inl ((cT 0), 7, .inl (upd g28_594 (nt - 1) z9))), (r 29, .inl ((cT 0), 7, .inl (upd g29_595 (nt - 1) tm))), (r 30, .inl ((cT 0), 112, .inl g30_602)), (r 7, .inl ((cT 0), 1000, .inl f7))]) (w1 := [(mo, .inr (12, mdG r cd tm (nI sn) (nI tx) (nI lz) (nI (((((((((((((((((((20 + 1) + 1) + 1) + 1) + 1) + 1) + 1) + 1) + 1) + 1) + 1) + 1) + 1) + 1) + 1) + 1) + 1) + 1 + i) + 1)) (nI na) (nI (nt - 1)) (nI nr) mw ml (mk + 1) dw9)), (r 15, .inl ((cT 0), 200, .inl g15_675))]) hP hD [7, 8] [0, 1, 2, 3, 4, 5, 6] rfl rfl (by decide) (by decide) hk1 hFc hP1 hD1
        have hw676 := hw
        clear hPc hDc hFc hz1 hk1 hP1 hK1 hD1
        generalize H1 = H at hP hS ⊢
        have hP : va_P (dC, dI) vcl [(r 25, .inl ((cT 1), 7, .inr (.inl (vp_updL g25_591 (nI (nt - 1)).toNatClampNeg (mk + 1))))), (r 26, .inl ((cT 0), 7, .inl (upd g26_592 (nt - 1) x))), (r 27, .inl ((cT 0), 7, .inl (upd g27_593 (nt - 1) y))), (r 28, .inl ((cT 0), 7, .inl (upd g28_594 (nt - 1) z9))), (r 29, .inl ((cT 0), 7, .inl (upd g29_595 (nt - 1) tm))), (r 30, .inl ((cT 0), 112, .inl g30_602)), (r 7, .inl ((cT 0), 1000, .inl f7)), (mo, .inr (12, mdG r cd tm (nI sn) (nI tx) (nI lz) (nI (((((((((((((((((((20 + 1) + 1) + 1) + 1) + 1) + 1) + 1) + 1) + 1) + 1) + 1) + 1) + 1) + 1) + 1) + 1) + 1) + 1 + i) + 1)) (nI na) (nI (nt - 1)) (nI nr) mw ml (mk + 1) dw9)), (r 15, .inl ((cT 0), 200, .inl g15_675))] H := hP
        have hD : va_D A [(r 25, .inl ((cT 1), 7, .inr (.inl (vp_updL g25_591 (nI (nt - 1)).toNatClampNeg (mk + 1))))), (r 26, .inl ((cT 0), 7, .inl (upd g26_592 (nt - 1) x))), (r 27, .inl ((cT 0), 7, .inl (upd g27_593 (nt - 1) y))), (r 28, .inl ((cT 0), 7, .inl (upd g28_594 (nt - 1) z9))), (r 29, .inl ((cT 0), 7, .inl (upd g29_595 (nt - 1) tm))), (r 30, .inl ((cT 0), 112, .inl g30_602)), (r 7, .inl ((cT 0), 1000, .inl f7)), (mo, .inr (12, mdG r cd tm (nI sn) (nI tx) (nI lz) (nI (((((((((((((((((((20 + 1) + 1) + 1) + 1) + 1) + 1) + 1) + 1) + 1) + 1) + 1) + 1) + 1) + 1) + 1) + 1) + 1) + 1 + i) + 1)) (nI na) (nI (nt - 1)) (nI nr) mw ml (mk + 1) dw9)), (r 15, .inl ((cT 0), 200, .inl g15_675))] := hD
        refine lv_iinc (k := 0) (v := nI (i + 1)) (lv' := [(4, .int (nI (i + 1))), (0, .ref mo), (1, .int x), (2, .int y), (3, .int z9)]) hx hb d_Md_challenge_253 hl rfl (nI_1 i) (by decide) rfl (fun ls hl => ?_)
        refine lv_goto (tgt := 227) hx hb d_Md_challenge_256 (by decide) ?_
        have hl := lv_sub hl [0, 1, 2, 3, 4] (show _ = [(4, .int (nI (i + 1))), (0, .ref mo), (1, .int x), (2, .int y), (3, .int z9)] from rfl)
        exact ih (i + 1) _ _ _ _ (by omega)  hP hD hS hl
    refine L663 _ (fun g15_662 H locs ls  hP hD hS hl => ?_) (16 - 0) 0 g15_660 H _ ls (by omega)  hP hD hS hl
    refine lv_aload_n hx hb d_Md_challenge_259 rfl (lv_at hl 1 rfl) ?_
    refine lv_dup hx hb d_Md_challenge_260 rfl ?_
    refine va_get (D := (dC, dI)) (ci := 12) (v := (.int (nI (nt - 1)))) (C := R_Md) (T := F_Md) (N := 45) hx hb hg in_Md hown hK hP 7 rfl rfl 24 (by decide) (hg _ k_1044) (fun _ h9 => h9) rfl d_Md_challenge_261 ?_
    refine lv_iconst (v := 1) hx hb d_Md_challenge_264 (by decide) ?_
    refine lv_iadd hx hb d_Md_challenge_265 ?_
    refine lv_topi (fun x678 e677 => ?_)
    obtain rfl : x678 = nI ((nt - 1) + 1) := by rw [e677]; exact nI_add (nt - 1) 1
    refine va_put (D := (dC, dI)) (ci := 12) (v := (.int (nI ((nt - 1) + 1)))) (ty := .int) (C := R_Md) (T := F_Md) (N := 45) hx hb hg in_Md t_Md tok_Md nm_Md hown hK hP hD hS 7 rfl rfl 24 (by decide) (hg _ k_1044) (fun _ h9 => h9) rfl (by decide +kernel) rfl rfl (Nat.le_of_ble_eq_true rfl) d_Md_challenge_266 (fun H locs hP hD hS => ?_)
    have hP : va_P (dC, dI) vcl [(r 25, .inl ((cT 1), 7, .inr (.inl (vp_updL g25_591 (nI (nt - 1)).toNatClampNeg (mk + 1))))), (r 26, .inl ((cT 0), 7, .inl (upd g26_592 (nt - 1) x))), (r 27, .inl ((cT 0), 7, .inl (upd g27_593 (nt - 1) y))), (r 28, .inl ((cT 0), 7, .inl (upd g28_594 (nt - 1) z9))), (r 29, .inl ((cT 0), 7, .inl (upd g29_595 (nt - 1) tm))), (r 30, .inl ((cT 0), 112, .inl g30_602)), (r 7, .inl ((cT 0), 1000, .inl f7)), (mo, .inr (12, mdG r cd tm (nI sn) (nI tx) (nI lz) (nI ((((((((((((((((((20 + 1) + 1) + 1) + 1) + 1) + 1) + 1) + 1) + 1) + 1) + 1) + 1) + 1) + 1) + 1) + 1) + 1) + 1 + 16)) (nI na) (nI ((nt - 1) + 1)) (nI nr) mw ml (mk + 1) dw9)), (r 15, .inl ((cT 0), 200, .inl g15_662))] H := hP
    have hD : va_D A [(r 25, .inl ((cT 1), 7, .inr (.inl (vp_updL g25_591 (nI (nt - 1)).toNatClampNeg (mk + 1))))), (r 26, .inl ((cT 0), 7, .inl (upd g26_592 (nt - 1) x))), (r 27, .inl ((cT 0), 7, .inl (upd g27_593 (nt - 1) y))), (r 28, .inl ((cT 0), 7, .inl (upd g28_594 (nt - 1) z9))), (r 29, .inl ((cT 0), 7, .inl (upd g29_595 (nt - 1) tm))), (r 30, .inl ((cT 0), 112, .inl g30_602)), (r 7, .inl ((cT 0), 1000, .inl f7)), (mo, .inr (12, mdG r cd tm (nI sn) (nI tx) (nI lz) (nI ((((((((((((((((((20 + 1) + 1) + 1) + 1) + 1) + 1) + 1) + 1) + 1) + 1) + 1) + 1) + 1) + 1) + 1) + 1) + 1) + 1 + 16)) (nI na) (nI ((nt - 1) + 1)) (nI nr) mw ml (mk + 1) dw9)), (r 15, .inl ((cT 0), 200, .inl g15_662))] := hD
    have hP9 := hP.sub (ws' := [(mo, .inr (12, mdG r cd tm (nI sn) (nI tx) (nI lz) (nI ((((((((((((((((((20 + 1) + 1) + 1) + 1) + 1) + 1) + 1) + 1) + 1) + 1) + 1) + 1) + 1) + 1) + 1) + 1) + 1) + 1 + 16)) (nI na) (nI ((nt - 1) + 1)) (nI nr) mw ml (mk + 1) dw9)), (r 7, .inl ((cT 0), 1000, .inl f7)), (r 15, .inl ((cT 0), 200, .inl g15_662)), (r 25, .inl ((cT 1), 7, .inr (.inl (vp_updL g25_591 (nI (nt - 1)).toNatClampNeg (mk + 1))))), (r 26, .inl ((cT 0), 7, .inl (upd g26_592 (nt - 1) x))), (r 27, .inl ((cT 0), 7, .inl (upd g27_593 (nt - 1) y))), (r 28, .inl ((cT 0), 7, .inl (upd g28_594 (nt - 1) z9))), (r 29, .inl ((cT 0), 7, .inl (upd g29_595 (nt - 1) tm))), (r 30, .inl ((cT 0), 112, .inl g30_602))]) [7, 6, 8, 0, 1, 2, 3, 4, 5] rfl
    have hD9 := hD.sub (ws' := [(mo, .inr (12, mdG r cd tm (nI sn) (nI tx) (nI lz) (nI ((((((((((((((((((20 + 1) + 1) + 1) + 1) + 1) + 1) + 1) + 1) + 1) + 1) + 1) + 1) + 1) + 1) + 1) + 1) + 1) + 1 + 16)) (nI na) (nI ((nt - 1) + 1)) (nI nr) mw ml (mk + 1) dw9)), (r 7, .inl ((cT 0), 1000, .inl f7)), (r 15, .inl ((cT 0), 200, .inl g15_662)), (r 25, .inl ((cT 1), 7, .inr (.inl (vp_updL g25_591 (nI (nt - 1)).toNatClampNeg (mk + 1))))), (r 26, .inl ((cT 0), 7, .inl (upd g26_592 (nt - 1) x))), (r 27, .inl ((cT 0), 7, .inl (upd g27_593 (nt - 1) y))), (r 28, .inl ((cT 0), 7, .inl (upd g28_594 (nt - 1) z9))), (r 29, .inl ((cT 0), 7, .inl (upd g29_595 (nt - 1) tm))), (r 30, .inl ((cT 0), 112, .inl g30_602))]) [7, 6, 8, 0, 1, 2, 3, 4, 5] (by decide) rfl
    exact W.vret hx hb hr (fun t ht hW => ⟨⟨⟨g15_662, vp_updL g25_591 (nI (nt - 1)).toNatClampNeg (mk + 1), upd g26_592 (nt - 1) x, upd g27_593 (nt - 1) y, upd g28_594 (nt - 1) z9, upd g29_595 (nt - 1) tm, g30_602, (((((((((((((((((20 + 1) + 1) + 1) + 1) + 1) + 1) + 1) + 1) + 1) + 1) + 1) + 1) + 1) + 1) + 1) + 1) + 1) + 1 + 16, (nt - 1) + 1, (mk + 1), dw9⟩, rfl, ⟨by first | assumption | omega, by first | assumption | omega⟩, by rw [ht]; exact hP9, va_K.moved hW.alike hK, hD9⟩, hS.F ht⟩) hS.2.2 d_Md_challenge_269
