theorem d_Md_recordOf_0 : decode b_Md_recordOf 0 = .ok (.aload_n 0, 1) := by decide +kernel
theorem d_Md_recordOf_1 : decode b_Md_recordOf 1 = .ok (.bipush 44, 2) := by decide +kernel
theorem d_Md_recordOf_3 : decode b_Md_recordOf 3 = .ok (.invokevirtual 356, 3) := by decide +kernel
theorem d_Md_recordOf_6 : decode b_Md_recordOf 6 = .ok (.istore_n 2, 1) := by decide +kernel
theorem d_Md_recordOf_7 : decode b_Md_recordOf 7 = .ok (.aload_n 0, 1) := by decide +kernel
theorem d_Md_recordOf_8 : decode b_Md_recordOf 8 = .ok (.bipush 44, 2) := by decide +kernel
theorem d_Md_recordOf_10 : decode b_Md_recordOf 10 = .ok (.invokevirtual 401, 3) := by decide +kernel
theorem d_Md_recordOf_13 : decode b_Md_recordOf 13 = .ok (.istore_n 3, 1) := by decide +kernel
theorem d_Md_recordOf_14 : decode b_Md_recordOf 14 = .ok (.iconst 0, 1) := by decide +kernel
theorem d_Md_recordOf_15 : decode b_Md_recordOf 15 = .ok (.istore 4, 2) := by decide +kernel
theorem d_Md_recordOf_17 : decode b_Md_recordOf 17 = .ok (.iload 4, 2) := by decide +kernel
theorem d_Md_recordOf_19 : decode b_Md_recordOf 19 = .ok (.aload_n 0, 1) := by decide +kernel
theorem d_Md_recordOf_20 : decode b_Md_recordOf 20 = .ok (.getfield 440, 3) := by decide +kernel
theorem d_Md_recordOf_23 : decode b_Md_recordOf 23 = .ok (.if_icmp .ge 98, 3) := by decide +kernel
theorem d_Md_recordOf_26 : decode b_Md_recordOf 26 = .ok (.aload_n 0, 1) := by decide +kernel
theorem d_Md_recordOf_27 : decode b_Md_recordOf 27 = .ok (.getfield 212, 3) := by decide +kernel
theorem d_Md_recordOf_30 : decode b_Md_recordOf 30 = .ok (.iload 4, 2) := by decide +kernel
theorem d_Md_recordOf_32 : decode b_Md_recordOf 32 = .ok (.iaload, 1) := by decide +kernel
theorem d_Md_recordOf_33 : decode b_Md_recordOf 33 = .ok (.iload_n 1, 1) := by decide +kernel
theorem d_Md_recordOf_34 : decode b_Md_recordOf 34 = .ok (.if_icmp .ne 18, 3) := by decide +kernel
theorem d_Md_recordOf_52 : decode b_Md_recordOf 52 = .ok (.iconst 0, 1) := by decide +kernel
theorem d_Md_recordOf_53 : decode b_Md_recordOf 53 = .ok (.istore 5, 2) := by decide +kernel
theorem d_Md_recordOf_55 : decode b_Md_recordOf 55 = .ok (.iconst 0, 1) := by decide +kernel
theorem d_Md_recordOf_56 : decode b_Md_recordOf 56 = .ok (.istore 6, 2) := by decide +kernel
theorem d_Md_recordOf_58 : decode b_Md_recordOf 58 = .ok (.iload 6, 2) := by decide +kernel
theorem d_Md_recordOf_60 : decode b_Md_recordOf 60 = .ok (.iload_n 3, 1) := by decide +kernel
theorem d_Md_recordOf_61 : decode b_Md_recordOf 61 = .ok (.if_icmp .ge 46, 3) := by decide +kernel
theorem d_Md_recordOf_64 : decode b_Md_recordOf 64 = .ok (.iload 5, 2) := by decide +kernel
theorem d_Md_recordOf_66 : decode b_Md_recordOf 66 = .ok (.ifCond .eq 41, 3) := by decide +kernel
theorem d_Md_recordOf_69 : decode b_Md_recordOf 69 = .ok (.aload_n 0, 1) := by decide +kernel
theorem d_Md_recordOf_70 : decode b_Md_recordOf 70 = .ok (.getfield 218, 3) := by decide +kernel
theorem d_Md_recordOf_73 : decode b_Md_recordOf 73 = .ok (.bipush 16, 2) := by decide +kernel
theorem d_Md_recordOf_75 : decode b_Md_recordOf 75 = .ok (.iload 4, 2) := by decide +kernel
theorem d_Md_recordOf_77 : decode b_Md_recordOf 77 = .ok (.imul, 1) := by decide +kernel
theorem d_Md_recordOf_78 : decode b_Md_recordOf 78 = .ok (.iload 6, 2) := by decide +kernel
theorem d_Md_recordOf_80 : decode b_Md_recordOf 80 = .ok (.iadd, 1) := by decide +kernel
theorem d_Md_recordOf_81 : decode b_Md_recordOf 81 = .ok (.iaload, 1) := by decide +kernel
theorem d_Md_recordOf_82 : decode b_Md_recordOf 82 = .ok (.aload_n 0, 1) := by decide +kernel
theorem d_Md_recordOf_83 : decode b_Md_recordOf 83 = .ok (.getfield 154, 3) := by decide +kernel
theorem d_Md_recordOf_86 : decode b_Md_recordOf 86 = .ok (.iload_n 2, 1) := by decide +kernel
theorem d_Md_recordOf_87 : decode b_Md_recordOf 87 = .ok (.iload 6, 2) := by decide +kernel
theorem d_Md_recordOf_89 : decode b_Md_recordOf 89 = .ok (.iadd, 1) := by decide +kernel
theorem d_Md_recordOf_90 : decode b_Md_recordOf 90 = .ok (.iaload, 1) := by decide +kernel
theorem d_Md_recordOf_91 : decode b_Md_recordOf 91 = .ok (.if_icmp .ne 7, 3) := by decide +kernel
theorem d_Md_recordOf_98 : decode b_Md_recordOf 98 = .ok (.iconst 0, 1) := by decide +kernel
theorem d_Md_recordOf_99 : decode b_Md_recordOf 99 = .ok (.istore 5, 2) := by decide +kernel
theorem d_Md_recordOf_101 : decode b_Md_recordOf 101 = .ok (.iinc 6 1, 3) := by decide +kernel
theorem d_Md_recordOf_104 : decode b_Md_recordOf 104 = .ok (.goto (-46), 3) := by decide +kernel
theorem d_Md_recordOf_94 : decode b_Md_recordOf 94 = .ok (.iconst 1, 1) := by decide +kernel
theorem d_Md_recordOf_95 : decode b_Md_recordOf 95 = .ok (.goto 4, 3) := by decide +kernel
theorem d_Md_recordOf_107 : decode b_Md_recordOf 107 = .ok (.iload 5, 2) := by decide +kernel
theorem d_Md_recordOf_109 : decode b_Md_recordOf 109 = .ok (.ifCond .eq 6, 3) := by decide +kernel
theorem d_Md_recordOf_115 : decode b_Md_recordOf 115 = .ok (.iinc 4 1, 3) := by decide +kernel
theorem d_Md_recordOf_118 : decode b_Md_recordOf 118 = .ok (.goto (-101), 3) := by decide +kernel
theorem d_Md_recordOf_112 : decode b_Md_recordOf 112 = .ok (.iload 4, 2) := by decide +kernel
theorem d_Md_recordOf_37 : decode b_Md_recordOf 37 = .ok (.aload_n 0, 1) := by decide +kernel
theorem d_Md_recordOf_38 : decode b_Md_recordOf 38 = .ok (.getfield 215, 3) := by decide +kernel
theorem d_Md_recordOf_41 : decode b_Md_recordOf 41 = .ok (.iload 4, 2) := by decide +kernel
theorem d_Md_recordOf_43 : decode b_Md_recordOf 43 = .ok (.iaload, 1) := by decide +kernel
theorem d_Md_recordOf_44 : decode b_Md_recordOf 44 = .ok (.iload_n 3, 1) := by decide +kernel
theorem d_Md_recordOf_45 : decode b_Md_recordOf 45 = .ok (.if_icmp .ne 7, 3) := by decide +kernel
theorem d_Md_recordOf_48 : decode b_Md_recordOf 48 = .ok (.iconst 1, 1) := by decide +kernel
theorem d_Md_recordOf_49 : decode b_Md_recordOf 49 = .ok (.goto 4, 3) := by decide +kernel
theorem d_Md_recordOf_121 : decode b_Md_recordOf 121 = .ok (.iconst (-1), 1) := by decide +kernel
theorem d_Md_recordOf_122 : decode b_Md_recordOf 122 = .ok (.ireturn, 1) := by decide +kernel
theorem d_Md_recordOf_114 : decode b_Md_recordOf 114 = .ok (.ireturn, 1) := by decide +kernel
theorem d_Md_write_0 : decode b_Md_write 0 = .ok (.aload_n 0, 1) := by decide +kernel
theorem d_Md_write_1 : decode b_Md_write 1 = .ok (.bipush 40, 2) := by decide +kernel
theorem d_Md_write_3 : decode b_Md_write 3 = .ok (.invokevirtual 443, 3) := by decide +kernel
theorem d_Md_write_6 : decode b_Md_write 6 = .ok (.lstore_n 2, 1) := by decide +kernel
theorem d_Md_write_7 : decode b_Md_write 7 = .ok (.aload_n 0, 1) := by decide +kernel
theorem d_Md_write_8 : decode b_Md_write 8 = .ok (.iconst 1, 1) := by decide +kernel
theorem d_Md_write_9 : decode b_Md_write 9 = .ok (.invokevirtual 353, 3) := by decide +kernel
theorem d_Md_write_12 : decode b_Md_write 12 = .ok (.ifCond .eq 34, 3) := by decide +kernel
theorem d_Md_write_46 : decode b_Md_write 46 = .ok (.bipush (-5), 2) := by decide +kernel
theorem d_Md_write_48 : decode b_Md_write 48 = .ok (.ireturn, 1) := by decide +kernel
theorem d_Md_write_15 : decode b_Md_write 15 = .ok (.aload_n 0, 1) := by decide +kernel
theorem d_Md_write_16 : decode b_Md_write 16 = .ok (.bipush 44, 2) := by decide +kernel
theorem d_Md_write_18 : decode b_Md_write 18 = .ok (.invokevirtual 353, 3) := by decide +kernel
theorem d_Md_write_21 : decode b_Md_write 21 = .ok (.ifCond .eq 25, 3) := by decide +kernel
theorem d_Md_write_370 : decode b_Md_write 370 = .ok (.aload_n 0, 1) := by decide +kernel
theorem d_Md_write_371 : decode b_Md_write 371 = .ok (.iconst 5, 1) := by decide +kernel
theorem d_Md_write_372 : decode b_Md_write 372 = .ok (.invokevirtual 407, 3) := by decide +kernel
theorem d_Md_write_375 : decode b_Md_write 375 = .ok (.aload_n 0, 1) := by decide +kernel
theorem d_Md_write_376 : decode b_Md_write 376 = .ok (.iload_n 1, 1) := by decide +kernel
theorem d_Md_write_377 : decode b_Md_write 377 = .ok (.invokevirtual 416, 3) := by decide +kernel
theorem d_Md_write_380 : decode b_Md_write 380 = .ok (.ireturn, 1) := by decide +kernel
theorem d_Md_write_238 : decode b_Md_write 238 = .ok (.iload 4, 2) := by decide +kernel
theorem d_Md_write_240 : decode b_Md_write 240 = .ok (.ifCond .lt 130, 3) := by decide +kernel
theorem d_Md_write_243 : decode b_Md_write 243 = .ok (.lload_n 2, 1) := by decide +kernel
theorem d_Md_write_244 : decode b_Md_write 244 = .ok (.lconst 1, 1) := by decide +kernel
theorem d_Md_write_245 : decode b_Md_write 245 = .ok (.lcmp, 1) := by decide +kernel
theorem d_Md_write_246 : decode b_Md_write 246 = .ok (.ifCond .le 124, 3) := by decide +kernel
theorem d_Md_write_249 : decode b_Md_write 249 = .ok (.aload_n 0, 1) := by decide +kernel
theorem d_Md_write_250 : decode b_Md_write 250 = .ok (.getfield 224, 3) := by decide +kernel
theorem d_Md_write_253 : decode b_Md_write 253 = .ok (.iload 4, 2) := by decide +kernel
theorem d_Md_write_255 : decode b_Md_write 255 = .ok (.iaload, 1) := by decide +kernel
theorem d_Md_write_256 : decode b_Md_write 256 = .ok (.ifCond .ne 114, 3) := by decide +kernel
theorem d_Md_write_259 : decode b_Md_write 259 = .ok (.aload_n 0, 1) := by decide +kernel
theorem d_Md_write_260 : decode b_Md_write 260 = .ok (.getfield 233, 3) := by decide +kernel
theorem d_Md_write_263 : decode b_Md_write 263 = .ok (.iload 4, 2) := by decide +kernel
theorem d_Md_write_265 : decode b_Md_write 265 = .ok (.aload_n 0, 1) := by decide +kernel
theorem d_Md_write_266 : decode b_Md_write 266 = .ok (.bipush 42, 2) := by decide +kernel
theorem d_Md_write_268 : decode b_Md_write 268 = .ok (.invokevirtual 443, 3) := by decide +kernel
theorem d_Md_write_271 : decode b_Md_write 271 = .ok (.aload_n 0, 1) := by decide +kernel
theorem d_Md_write_272 : decode b_Md_write 272 = .ok (.getfield 233, 3) := by decide +kernel
theorem d_Md_write_275 : decode b_Md_write 275 = .ok (.iload 4, 2) := by decide +kernel
theorem d_Md_write_277 : decode b_Md_write 277 = .ok (.laload, 1) := by decide +kernel
theorem d_Md_write_278 : decode b_Md_write 278 = .ok (.lcmp, 1) := by decide +kernel
theorem d_Md_write_279 : decode b_Md_write 279 = .ok (.ifCond .le 12, 3) := by decide +kernel
theorem d_Md_write_291 : decode b_Md_write 291 = .ok (.aload_n 0, 1) := by decide +kernel
theorem d_Md_write_292 : decode b_Md_write 292 = .ok (.getfield 233, 3) := by decide +kernel
theorem d_Md_write_295 : decode b_Md_write 295 = .ok (.iload 4, 2) := by decide +kernel
theorem d_Md_write_297 : decode b_Md_write 297 = .ok (.laload, 1) := by decide +kernel
theorem d_Md_write_298 : decode b_Md_write 298 = .ok (.lastore, 1) := by decide +kernel
theorem d_Md_write_299 : decode b_Md_write 299 = .ok (.aload_n 0, 1) := by decide +kernel
theorem d_Md_write_300 : decode b_Md_write 300 = .ok (.getfield 236, 3) := by decide +kernel
theorem d_Md_write_303 : decode b_Md_write 303 = .ok (.iload 4, 2) := by decide +kernel
theorem d_Md_write_305 : decode b_Md_write 305 = .ok (.aload_n 0, 1) := by decide +kernel
theorem d_Md_write_306 : decode b_Md_write 306 = .ok (.bipush 43, 2) := by decide +kernel
theorem d_Md_write_308 : decode b_Md_write 308 = .ok (.invokevirtual 443, 3) := by decide +kernel
theorem d_Md_write_311 : decode b_Md_write 311 = .ok (.aload_n 0, 1) := by decide +kernel
theorem d_Md_write_312 : decode b_Md_write 312 = .ok (.getfield 236, 3) := by decide +kernel
theorem d_Md_write_315 : decode b_Md_write 315 = .ok (.iload 4, 2) := by decide +kernel
theorem d_Md_write_317 : decode b_Md_write 317 = .ok (.laload, 1) := by decide +kernel
theorem d_Md_write_318 : decode b_Md_write 318 = .ok (.lcmp, 1) := by decide +kernel
theorem d_Md_write_319 : decode b_Md_write 319 = .ok (.ifCond .le 12, 3) := by decide +kernel
theorem d_Md_write_331 : decode b_Md_write 331 = .ok (.aload_n 0, 1) := by decide +kernel
theorem d_Md_write_332 : decode b_Md_write 332 = .ok (.getfield 236, 3) := by decide +kernel
theorem d_Md_write_335 : decode b_Md_write 335 = .ok (.iload 4, 2) := by decide +kernel
theorem d_Md_write_337 : decode b_Md_write 337 = .ok (.laload, 1) := by decide +kernel
theorem d_Md_write_338 : decode b_Md_write 338 = .ok (.lastore, 1) := by decide +kernel
theorem d_Md_write_339 : decode b_Md_write 339 = .ok (.aload_n 0, 1) := by decide +kernel
theorem d_Md_write_340 : decode b_Md_write 340 = .ok (.getfield 224, 3) := by decide +kernel
theorem d_Md_write_343 : decode b_Md_write 343 = .ok (.iload 4, 2) := by decide +kernel
theorem d_Md_write_345 : decode b_Md_write 345 = .ok (.lload_n 2, 1) := by decide +kernel
theorem d_Md_write_346 : decode b_Md_write 346 = .ok (.ldc2_w 447, 3) := by decide +kernel
theorem d_Md_write_349 : decode b_Md_write 349 = .ok (.lcmp, 1) := by decide +kernel
theorem d_Md_write_350 : decode b_Md_write 350 = .ok (.ifCond .ne 7, 3) := by decide +kernel
theorem d_Md_write_357 : decode b_Md_write 357 = .ok (.iconst 0, 1) := by decide +kernel
theorem d_Md_write_358 : decode b_Md_write 358 = .ok (.iastore, 1) := by decide +kernel
theorem d_Md_write_359 : decode b_Md_write 359 = .ok (.aload_n 0, 1) := by decide +kernel
theorem d_Md_write_360 : decode b_Md_write 360 = .ok (.getfield 230, 3) := by decide +kernel
theorem d_Md_write_363 : decode b_Md_write 363 = .ok (.iload 4, 2) := by decide +kernel
theorem d_Md_write_365 : decode b_Md_write 365 = .ok (.aload_n 0, 1) := by decide +kernel
theorem d_Md_write_366 : decode b_Md_write 366 = .ok (.getfield 380, 3) := by decide +kernel
theorem d_Md_write_369 : decode b_Md_write 369 = .ok (.iastore, 1) := by decide +kernel
theorem d_Md_write_353 : decode b_Md_write 353 = .ok (.iconst 1, 1) := by decide +kernel
theorem d_Md_write_354 : decode b_Md_write 354 = .ok (.goto 4, 3) := by decide +kernel
theorem d_Md_write_322 : decode b_Md_write 322 = .ok (.aload_n 0, 1) := by decide +kernel
theorem d_Md_write_323 : decode b_Md_write 323 = .ok (.bipush 43, 2) := by decide +kernel
theorem d_Md_write_325 : decode b_Md_write 325 = .ok (.invokevirtual 443, 3) := by decide +kernel
theorem d_Md_write_328 : decode b_Md_write 328 = .ok (.goto 10, 3) := by decide +kernel
theorem d_Md_write_282 : decode b_Md_write 282 = .ok (.aload_n 0, 1) := by decide +kernel
theorem d_Md_write_283 : decode b_Md_write 283 = .ok (.bipush 42, 2) := by decide +kernel
theorem d_Md_write_285 : decode b_Md_write 285 = .ok (.invokevirtual 443, 3) := by decide +kernel
theorem d_Md_write_288 : decode b_Md_write 288 = .ok (.goto 10, 3) := by decide +kernel
theorem d_Md_write_49 : decode b_Md_write 49 = .ok (.aload_n 0, 1) := by decide +kernel
theorem d_Md_write_50 : decode b_Md_write 50 = .ok (.iload_n 1, 1) := by decide +kernel
theorem d_Md_write_51 : decode b_Md_write 51 = .ok (.invokevirtual 451, 3) := by decide +kernel
theorem d_Md_write_54 : decode b_Md_write 54 = .ok (.istore 4, 2) := by decide +kernel
theorem d_Md_write_56 : decode b_Md_write 56 = .ok (.iload 4, 2) := by decide +kernel
theorem d_Md_write_58 : decode b_Md_write 58 = .ok (.ifCond .ge 16, 3) := by decide +kernel
theorem d_Md_write_61 : decode b_Md_write 61 = .ok (.aload_n 0, 1) := by decide +kernel
theorem d_Md_write_62 : decode b_Md_write 62 = .ok (.getfield 440, 3) := by decide +kernel
theorem d_Md_write_65 : decode b_Md_write 65 = .ok (.bipush 50, 2) := by decide +kernel
theorem d_Md_write_67 : decode b_Md_write 67 = .ok (.if_icmp .ge 7, 3) := by decide +kernel
theorem d_Md_write_74 : decode b_Md_write 74 = .ok (.iconst 0, 1) := by decide +kernel
theorem d_Md_write_75 : decode b_Md_write 75 = .ok (.istore 5, 2) := by decide +kernel
theorem d_Md_write_77 : decode b_Md_write 77 = .ok (.iload 5, 2) := by decide +kernel
theorem d_Md_write_79 : decode b_Md_write 79 = .ok (.ifCond .eq 159, 3) := by decide +kernel
theorem d_Md_write_70 : decode b_Md_write 70 = .ok (.iconst 1, 1) := by decide +kernel
theorem d_Md_write_71 : decode b_Md_write 71 = .ok (.goto 4, 3) := by decide +kernel
theorem d_Md_write_82 : decode b_Md_write 82 = .ok (.aload_n 0, 1) := by decide +kernel
theorem d_Md_write_83 : decode b_Md_write 83 = .ok (.getfield 440, 3) := by decide +kernel
theorem d_Md_write_86 : decode b_Md_write 86 = .ok (.istore 4, 2) := by decide +kernel
theorem d_Md_write_88 : decode b_Md_write 88 = .ok (.aload_n 0, 1) := by decide +kernel
theorem d_Md_write_89 : decode b_Md_write 89 = .ok (.getfield 212, 3) := by decide +kernel
theorem d_Md_write_92 : decode b_Md_write 92 = .ok (.iload 4, 2) := by decide +kernel
theorem d_Md_write_94 : decode b_Md_write 94 = .ok (.iload_n 1, 1) := by decide +kernel
theorem d_Md_write_95 : decode b_Md_write 95 = .ok (.iastore, 1) := by decide +kernel
theorem d_Md_write_96 : decode b_Md_write 96 = .ok (.aload_n 0, 1) := by decide +kernel
theorem d_Md_write_97 : decode b_Md_write 97 = .ok (.getfield 215, 3) := by decide +kernel
theorem d_Md_write_100 : decode b_Md_write 100 = .ok (.iload 4, 2) := by decide +kernel
theorem d_Md_write_102 : decode b_Md_write 102 = .ok (.aload_n 0, 1) := by decide +kernel
theorem d_Md_write_103 : decode b_Md_write 103 = .ok (.bipush 44, 2) := by decide +kernel
theorem d_Md_write_105 : decode b_Md_write 105 = .ok (.invokevirtual 401, 3) := by decide +kernel
theorem d_Md_write_108 : decode b_Md_write 108 = .ok (.iastore, 1) := by decide +kernel
theorem d_Md_write_109 : decode b_Md_write 109 = .ok (.iconst 0, 1) := by decide +kernel
theorem d_Md_write_110 : decode b_Md_write 110 = .ok (.istore 6, 2) := by decide +kernel
theorem d_Md_write_112 : decode b_Md_write 112 = .ok (.iload 6, 2) := by decide +kernel
theorem d_Md_write_114 : decode b_Md_write 114 = .ok (.aload_n 0, 1) := by decide +kernel
theorem d_Md_write_115 : decode b_Md_write 115 = .ok (.getfield 215, 3) := by decide +kernel
theorem d_Md_write_118 : decode b_Md_write 118 = .ok (.iload 4, 2) := by decide +kernel
theorem d_Md_write_120 : decode b_Md_write 120 = .ok (.iaload, 1) := by decide +kernel
theorem d_Md_write_121 : decode b_Md_write 121 = .ok (.if_icmp .ge 36, 3) := by decide +kernel
theorem d_Md_write_124 : decode b_Md_write 124 = .ok (.aload_n 0, 1) := by decide +kernel
theorem d_Md_write_125 : decode b_Md_write 125 = .ok (.getfield 218, 3) := by decide +kernel
theorem d_Md_write_128 : decode b_Md_write 128 = .ok (.bipush 16, 2) := by decide +kernel
theorem d_Md_write_130 : decode b_Md_write 130 = .ok (.iload 4, 2) := by decide +kernel
theorem d_Md_write_132 : decode b_Md_write 132 = .ok (.imul, 1) := by decide +kernel
theorem d_Md_write_133 : decode b_Md_write 133 = .ok (.iload 6, 2) := by decide +kernel
theorem d_Md_write_135 : decode b_Md_write 135 = .ok (.iadd, 1) := by decide +kernel
theorem d_Md_write_136 : decode b_Md_write 136 = .ok (.aload_n 0, 1) := by decide +kernel
theorem d_Md_write_137 : decode b_Md_write 137 = .ok (.getfield 154, 3) := by decide +kernel
theorem d_Md_write_140 : decode b_Md_write 140 = .ok (.aload_n 0, 1) := by decide +kernel
theorem d_Md_write_141 : decode b_Md_write 141 = .ok (.bipush 44, 2) := by decide +kernel
theorem d_Md_write_143 : decode b_Md_write 143 = .ok (.invokevirtual 356, 3) := by decide +kernel
theorem d_Md_write_146 : decode b_Md_write 146 = .ok (.iload 6, 2) := by decide +kernel
theorem d_Md_write_148 : decode b_Md_write 148 = .ok (.iadd, 1) := by decide +kernel
theorem d_Md_write_149 : decode b_Md_write 149 = .ok (.iaload, 1) := by decide +kernel
theorem d_Md_write_150 : decode b_Md_write 150 = .ok (.iastore, 1) := by decide +kernel
theorem d_Md_write_151 : decode b_Md_write 151 = .ok (.iinc 6 1, 3) := by decide +kernel
theorem d_Md_write_154 : decode b_Md_write 154 = .ok (.goto (-42), 3) := by decide +kernel
theorem d_Md_write_157 : decode b_Md_write 157 = .ok (.aload_n 0, 1) := by decide +kernel
theorem d_Md_write_158 : decode b_Md_write 158 = .ok (.getfield 221, 3) := by decide +kernel
theorem d_Md_write_161 : decode b_Md_write 161 = .ok (.iload 4, 2) := by decide +kernel
theorem d_Md_write_163 : decode b_Md_write 163 = .ok (.aload_n 0, 1) := by decide +kernel
theorem d_Md_write_164 : decode b_Md_write 164 = .ok (.getfield 154, 3) := by decide +kernel
theorem d_Md_write_167 : decode b_Md_write 167 = .ok (.aload_n 0, 1) := by decide +kernel
theorem d_Md_write_168 : decode b_Md_write 168 = .ok (.iconst 1, 1) := by decide +kernel
theorem d_Md_write_169 : decode b_Md_write 169 = .ok (.invokevirtual 356, 3) := by decide +kernel
theorem d_Md_write_172 : decode b_Md_write 172 = .ok (.aload_n 0, 1) := by decide +kernel
theorem d_Md_write_173 : decode b_Md_write 173 = .ok (.iconst 1, 1) := by decide +kernel
theorem d_Md_write_174 : decode b_Md_write 174 = .ok (.invokevirtual 401, 3) := by decide +kernel
theorem d_Md_write_177 : decode b_Md_write 177 = .ok (.iadd, 1) := by decide +kernel
theorem d_Md_write_178 : decode b_Md_write 178 = .ok (.iconst 1, 1) := by decide +kernel
theorem d_Md_write_179 : decode b_Md_write 179 = .ok (.isub, 1) := by decide +kernel
theorem d_Md_write_180 : decode b_Md_write 180 = .ok (.iaload, 1) := by decide +kernel
theorem d_Md_write_181 : decode b_Md_write 181 = .ok (.iastore, 1) := by decide +kernel
theorem d_Md_write_182 : decode b_Md_write 182 = .ok (.aload_n 0, 1) := by decide +kernel
theorem d_Md_write_183 : decode b_Md_write 183 = .ok (.getfield 224, 3) := by decide +kernel
theorem d_Md_write_186 : decode b_Md_write 186 = .ok (.iload 4, 2) := by decide +kernel
theorem d_Md_write_188 : decode b_Md_write 188 = .ok (.iconst 0, 1) := by decide +kernel
theorem d_Md_write_189 : decode b_Md_write 189 = .ok (.iastore, 1) := by decide +kernel
theorem d_Md_write_190 : decode b_Md_write 190 = .ok (.aload_n 0, 1) := by decide +kernel
theorem d_Md_write_191 : decode b_Md_write 191 = .ok (.getfield 227, 3) := by decide +kernel
theorem d_Md_write_194 : decode b_Md_write 194 = .ok (.iload 4, 2) := by decide +kernel
theorem d_Md_write_196 : decode b_Md_write 196 = .ok (.aload_n 0, 1) := by decide +kernel
theorem d_Md_write_197 : decode b_Md_write 197 = .ok (.getfield 380, 3) := by decide +kernel
theorem d_Md_write_200 : decode b_Md_write 200 = .ok (.iastore, 1) := by decide +kernel
theorem d_Md_write_201 : decode b_Md_write 201 = .ok (.aload_n 0, 1) := by decide +kernel
theorem d_Md_write_202 : decode b_Md_write 202 = .ok (.getfield 230, 3) := by decide +kernel
theorem d_Md_write_205 : decode b_Md_write 205 = .ok (.iload 4, 2) := by decide +kernel
theorem d_Md_write_207 : decode b_Md_write 207 = .ok (.aload_n 0, 1) := by decide +kernel
theorem d_Md_write_208 : decode b_Md_write 208 = .ok (.getfield 380, 3) := by decide +kernel
theorem d_Md_write_211 : decode b_Md_write 211 = .ok (.iastore, 1) := by decide +kernel
theorem d_Md_write_212 : decode b_Md_write 212 = .ok (.aload_n 0, 1) := by decide +kernel
theorem d_Md_write_213 : decode b_Md_write 213 = .ok (.getfield 233, 3) := by decide +kernel
theorem d_Md_write_216 : decode b_Md_write 216 = .ok (.iload 4, 2) := by decide +kernel
theorem d_Md_write_218 : decode b_Md_write 218 = .ok (.lconst 0, 1) := by decide +kernel
theorem d_Md_write_219 : decode b_Md_write 219 = .ok (.lastore, 1) := by decide +kernel
theorem d_Md_write_220 : decode b_Md_write 220 = .ok (.aload_n 0, 1) := by decide +kernel
theorem d_Md_write_221 : decode b_Md_write 221 = .ok (.getfield 236, 3) := by decide +kernel
theorem d_Md_write_224 : decode b_Md_write 224 = .ok (.iload 4, 2) := by decide +kernel
theorem d_Md_write_226 : decode b_Md_write 226 = .ok (.lconst 0, 1) := by decide +kernel
theorem d_Md_write_227 : decode b_Md_write 227 = .ok (.lastore, 1) := by decide +kernel
theorem d_Md_write_228 : decode b_Md_write 228 = .ok (.aload_n 0, 1) := by decide +kernel
theorem d_Md_write_229 : decode b_Md_write 229 = .ok (.dup, 1) := by decide +kernel
theorem d_Md_write_230 : decode b_Md_write 230 = .ok (.getfield 440, 3) := by decide +kernel
theorem d_Md_write_233 : decode b_Md_write 233 = .ok (.iconst 1, 1) := by decide +kernel
theorem d_Md_write_234 : decode b_Md_write 234 = .ok (.iadd, 1) := by decide +kernel
theorem d_Md_write_235 : decode b_Md_write 235 = .ok (.putfield 440, 3) := by decide +kernel
theorem d_Md_write_24 : decode b_Md_write 24 = .ok (.lload_n 2, 1) := by decide +kernel
theorem d_Md_write_25 : decode b_Md_write 25 = .ok (.lconst 1, 1) := by decide +kernel
theorem d_Md_write_26 : decode b_Md_write 26 = .ok (.lcmp, 1) := by decide +kernel
theorem d_Md_write_27 : decode b_Md_write 27 = .ok (.ifCond .eq 22, 3) := by decide +kernel
theorem d_Md_write_30 : decode b_Md_write 30 = .ok (.lload_n 2, 1) := by decide +kernel
theorem d_Md_write_31 : decode b_Md_write 31 = .ok (.ldc2_w 447, 3) := by decide +kernel
theorem d_Md_write_34 : decode b_Md_write 34 = .ok (.lcmp, 1) := by decide +kernel
theorem d_Md_write_35 : decode b_Md_write 35 = .ok (.ifCond .eq 14, 3) := by decide +kernel
theorem d_Md_write_38 : decode b_Md_write 38 = .ok (.lload_n 2, 1) := by decide +kernel
theorem d_Md_write_39 : decode b_Md_write 39 = .ok (.ldc2_w 449, 3) := by decide +kernel
theorem d_Md_write_42 : decode b_Md_write 42 = .ok (.lcmp, 1) := by decide +kernel
theorem d_Md_write_43 : decode b_Md_write 43 = .ok (.ifCond .eq 6, 3) := by decide +kernel
set_option maxHeartbeats 4000000 in
set_option maxRecDepth 100000 in
/-- recordOf -/
theorem m_recordOf (l : Launch) (dC : Nat → ClassId) (dI : Nat → Nat → Nat) (cT : Nat → ClassId) (sz : Nat) (mo : Nat) (r : Nat → Nat) (cd : Int32) (tm : Int32) (sn : Nat) (tx : Nat) (lz : Nat) (az : Nat) (na : Nat) (nt : Nat) (nr : Nat) (mw : Int32) (ml : Int32) (mk : Int64) (dq : Int64) (f7 : Nat → Int32) (f34 : Nat → Int32) (f35 : Nat → Int32) (f36 : Nat → Int32) (x : Int32) (pa44 : Nat) (pn44 : Nat) (h20 : 20 ≤ sn) (hsn : sn ≤ 1000) (h7 : AB f7) (hnr : nr ≤ 50) (hh44 : HA f7 sn 44 (MFV f7 sn 44) pa44 pn44) : Met l y_Md_recordOf (Cond.code y_Md_recordOf b_Md_recordOf 7 (Option.some Jvm.ClassFile.FieldType.int) :: BIG) ({ frames := 3, cells := 0, slots := 0, locals := 72 }) (va_Pc [.ref mo, .int x] (fun U => U.heap.size = sz ∧ va_P (dC, dI) vcl [(mo, .inr (12, mdG r cd tm (nI sn) (nI tx) (nI lz) (nI az) (nI na) (nI nt) (nI nr) mw ml mk dq)), (r 7, .inl ((cT 0), 1000, .inl f7)), (r 34, .inl ((cT 0), 50, .inl f34)), (r 35, .inl ((cT 0), 50, .inl f35)), (r 36, .inl ((cT 0), 800, .inl f36))] U.heap ∧ va_K (dC, dI) vcl (tyL cT) U ∧ va_D (fun _ => True) [(mo, .inr (12, mdG r cd tm (nI sn) (nI tx) (nI lz) (nI az) (nI na) (nI nt) (nI nr) mw ml mk dq)), (r 7, .inl ((cT 0), 1000, .inl f7)), (r 34, .inl ((cT 0), 50, .inl f34)), (r 35, .inl ((cT 0), 50, .inl f35)), (r 36, .inl ((cT 0), 800, .inl f36))])) (va_Qi (S := Unit) (fun rv9 u => rv9 = -1 ∨ ∃ a : Nat, rv9 = nI a ∧ a < nr) (fun u t => va_P (dC, dI) vcl [(mo, .inr (12, mdG r cd tm (nI sn) (nI tx) (nI lz) (nI az) (nI na) (nI nt) (nI nr) mw ml mk dq)), (r 7, .inl ((cT 0), 1000, .inl f7)), (r 34, .inl ((cT 0), 50, .inl f34)), (r 35, .inl ((cT 0), 50, .inl f35)), (r 36, .inl ((cT 0), 800, .inl f36))] t.heap ∧ va_K (dC, dI) vcl (tyL cT) t ∧ va_D (va_A [(mo, .inr (12, mdG r cd tm (nI sn) (nI tx) (nI lz) (nI az) (nI na) (nI nt) (nI nr) mw ml mk dq)), (r 7, .inl ((cT 0), 1000, .inl f7)), (r 34, .inl ((cT 0), 50, .inl f34)), (r 35, .inl ((cT 0), 50, .inl f35)), (r 36, .inl ((cT 0), 800, .inl f36))] sz) [(mo, .inr (12, mdG r cd tm (nI sn) (nI tx) (nI lz) (nI az) (nI na) (nI nt) (nI nr) mw ml mk dq)), (r 7, .inl ((cT 0), 1000, .inl f7)), (r 34, .inl ((cT 0), 50, .inl f34)), (r 35, .inl ((cT 0), 50, .inl f35)), (r 36, .inl ((cT 0), 800, .inl f36))]) (va_A [(mo, .inr (12, mdG r cd tm (nI sn) (nI tx) (nI lz) (nI az) (nI na) (nI nt) (nI nr) mw ml mk dq)), (r 7, .inl ((cT 0), 1000, .inl f7)), (r 34, .inl ((cT 0), 50, .inl f34)), (r 35, .inl ((cT 0), 50, .inl f35)), (r 36, .inl ((cT 0), 800, .inl f36))] sz)) 0 0 (va_A [(mo, .inr (12, mdG r cd tm (nI sn) (nI tx) (nI lz) (nI az) (nI na) (nI nt) (nI nr) mw ml mk dq)), (r 7, .inl ((cT 0), 1000, .inl f7)), (r 34, .inl ((cT 0), 50, .inl f34)), (r 35, .inl ((cT 0), 50, .inl f35)), (r 36, .inl ((cT 0), 800, .inl f36))] sz) := by
  refine Met.ofW (cc := b_Md_recordOf) (maxL := 7) (ret := (Option.some Jvm.ClassFile.FieldType.int)) (by decide) rfl ?_
  intro p e s m args below meth c s₁ B hml hv
  obtain ⟨hargs, hsz, hP, hK, hD0⟩ := hv
  have hx := B.exec
  have hb := B.bytes
  have hr := B.returns
  have hts := atoms_spec (ws := (Cond.code y_Md_recordOf b_Md_recordOf 7 (Option.some Jvm.ClassFile.FieldType.int) :: BIG)) B.pre
  have hg : ∀ w ∈ BIG, w.before _ s = true := fun w h => hts w (List.mem_cons_of_mem _ h)
  have hown : s.vm.findClass "DoorServerModel" = some m.cls := findClass_of_methodNamed B.named
  have hlocks := B.notSynchronized
  subst hsz
  have hD := hD0.self (sz := s.heap.size)
  generalize hAe : va_A [(mo, .inr (12, mdG r cd tm (nI sn) (nI tx) (nI lz) (nI az) (nI na) (nI nt) (nI nr) mw ml mk dq)), (r 7, .inl ((cT 0), 1000, .inl f7)), (r 34, .inl ((cT 0), 50, .inl f34)), (r 35, .inl ((cT 0), 50, .inl f35)), (r 36, .inl ((cT 0), 800, .inl f36))] s.heap.size = A at hD ⊢
  have hA : ∀ q : Nat, s.heap.size ≤ q → A q := fun q h => by rw [← hAe]; exact Or.inr h
  have hS : va_S A s.heap s.heap [] := va_S.rf
  have hl := lv_entry ([.ref mo, .int x]) (n := 7) (Nat.le_of_ble_eq_true rfl)
  refine W.eq (g2 := entryFrame m (List.toArray [.ref mo, .int x]) 7) (by rw [hargs]) ?_
  rw [lg_entry_eq]
  generalize (lg_sl ([.ref mo, .int x]) ++ List.replicate (7 - (lg_sl ([.ref mo, .int x])).length) Slot.unset).toArray = ls at hl ⊢
  have hl : lv_has ls 7 [(0, .ref mo), (1, .int x)] := hl
  change W p l e ({ frames := 3, cells := 0, slots := 0, locals := 72 } : Room) s m args below meth c s.heap [] 0 0 _ _
  have hP : va_P (dC, dI) vcl [(mo, .inr (12, mdG r cd tm (nI sn) (nI tx) (nI lz) (nI az) (nI na) (nI nt) (nI nr) mw ml mk dq)), (r 7, .inl ((cT 0), 1000, .inl f7)), (r 34, .inl ((cT 0), 50, .inl f34)), (r 35, .inl ((cT 0), 50, .inl f35)), (r 36, .inl ((cT 0), 800, .inl f36))] s.heap := hP
  have hs44 := rsb_44 (by have := hh44.2.2.2.1; omega) hh44.2.2.2.2.2
  have hb44 := hh44.2.2.2.1; have hc44 := hh44.2.1
  refine lv_aload_n hx hb d_Md_recordOf_0 rfl (lv_at hl 0 rfl) ?_
  refine lv_bipush (v := 44) hx hb d_Md_recordOf_1 (by decide) ?_
  have hPc := hP.sub (ws' := [(mo, .inr (12, mdG r cd tm (nI sn) (nI tx) (nI lz) (nI az) (nI na) (nI nt) (nI nr) mw ml mk dq)), (r 7, .inl ((cT 0), 1000, .inl f7))]) [0, 1] rfl
  have hDc := hD.sub (ws' := [(mo, .inr (12, mdG r cd tm (nI sn) (nI tx) (nI lz) (nI az) (nI na) (nI nt) (nI nr) mw ml mk dq)), (r 7, .inl ((cT 0), 1000, .inl f7))]) [0, 1] (by decide) rfl
  have hFc := va_free (wc := [(mo, .inr (12, mdG r cd tm (nI sn) (nI tx) (nI lz) (nI az) (nI na) (nI nt) (nI nr) mw ml mk dq)), (r 7, .inl ((cT 0), 1000, .inl f7))]) hD hS hA [0, 1] rfl
  refine va_calli (va_runV (C := "DoorServerModel") (As := [.int 44]) (rest := []) ⟨hx, hb, hml, hown, hg⟩ (m_valueAt l dC dI cT s.heap.size mo r cd tm sn tx lz az na nt nr mw ml mk dq f7 44 pa44 pn44 (by first | assumption | omega) (by first | assumption | omega) (by first | assumption | omega) (by first | assumption | omega)) (cwV 1 hg (gI (List.forall_mem_append.mpr ⟨List.forall_mem_cons.mpr ⟨k_1309, List.forall_mem_cons.mpr ⟨k_1311, List.forall_mem_cons.mpr ⟨(big_sel (q := y_Md_valueAt) (n := 45) (by decide +kernel)), List.forall_mem_cons.mpr ⟨k_13, fun _ h => absurd h List.not_mem_nil⟩⟩⟩⟩, List.forall_mem_cons.mpr ⟨k_1312, fun _ h => h⟩⟩)) rfl rfl rfl (by decide +kernel) ⟨Nat.le_of_ble_eq_true rfl, Nat.le_of_ble_eq_true rfl⟩) ⟨fun a U g mk q => by obtain ⟨q0, q1, qP, qK, qD⟩ := q; exact ⟨q0, q1, qP, va_K.moved (u := U) (U := U.calling g mk a) (Vm.Alike.refl U.vm) qK, qD⟩, va_recv (q0 := 0) (ci := 12) hK hP rfl rfl, fun U hU hW => ⟨rfl, by rw [hU], by rw [hU]; exact hPc, va_K.moved hW.alike hK, hDc.weaken (fun _ _ _ _ => trivial)⟩⟩ rfl rfl hl.1 rfl (lv_room (Nat.le_of_ble_eq_true rfl)) d_Md_recordOf_3 ⟨Nat.le_of_ble_eq_true rfl, Nat.le_of_ble_eq_true rfl⟩) hS (fun q _ h => hFc q h) hFc (fun rv9 u t H1 locs ht hvm hw hB hz1 hk1 hS => ?_)
  try dsimp only at hw hB
  obtain ⟨hP1, hK1, hD1⟩ := hB
  rw [ht] at hP1
  obtain ⟨rfl, hw⟩ := hw
  obtain ⟨hP, hD⟩ := va_join (wr := [(r 34, .inl ((cT 0), 50, .inl f34)), (r 35, .inl ((cT 0), 50, .inl f35)), (r 36, .inl ((cT 0), 800, .inl f36))]) (w1 := [(mo, .inr (12, mdG r cd tm (nI sn) (nI tx) (nI lz) (nI az) (nI na) (nI nt) (nI nr) mw ml mk dq)), (r 7, .inl ((cT 0), 1000, .inl f7))]) hP hD [0, 1] [2, 3, 4] rfl rfl (by decide) (by decide) hk1 hFc hP1 hD1
  have hw1 := hw
  clear hPc hDc hFc hz1 hk1 hP1 hK1 hD1
  generalize H1 = H at hP hS ⊢
  have hP : va_P (dC, dI) vcl [(r 34, .inl ((cT 0), 50, .inl f34)), (r 35, .inl ((cT 0), 50, .inl f35)), (r 36, .inl ((cT 0), 800, .inl f36)), (mo, .inr (12, mdG r cd tm (nI sn) (nI tx) (nI lz) (nI az) (nI na) (nI nt) (nI nr) mw ml mk dq)), (r 7, .inl ((cT 0), 1000, .inl f7))] H := hP
  have hD : va_D A [(r 34, .inl ((cT 0), 50, .inl f34)), (r 35, .inl ((cT 0), 50, .inl f35)), (r 36, .inl ((cT 0), 800, .inl f36)), (mo, .inr (12, mdG r cd tm (nI sn) (nI tx) (nI lz) (nI az) (nI na) (nI nt) (nI nr) mw ml mk dq)), (r 7, .inl ((cT 0), 1000, .inl f7))] := hD
  refine lv_istore_n (lv' := [(2, .int (nI (pa44 + 2))), (0, .ref mo), (1, .int x)]) hx hb d_Md_recordOf_6 rfl hl (by decide) rfl (fun ls hl => ?_)
  refine lv_aload_n hx hb d_Md_recordOf_7 rfl (lv_at hl 1 rfl) ?_
  refine lv_bipush (v := 44) hx hb d_Md_recordOf_8 (by decide) ?_
  have hPc := hP.sub (ws' := [(mo, .inr (12, mdG r cd tm (nI sn) (nI tx) (nI lz) (nI az) (nI na) (nI nt) (nI nr) mw ml mk dq)), (r 7, .inl ((cT 0), 1000, .inl f7))]) [3, 4] rfl
  have hDc := hD.sub (ws' := [(mo, .inr (12, mdG r cd tm (nI sn) (nI tx) (nI lz) (nI az) (nI na) (nI nt) (nI nr) mw ml mk dq)), (r 7, .inl ((cT 0), 1000, .inl f7))]) [3, 4] (by decide) rfl
  have hFc := va_free (wc := [(mo, .inr (12, mdG r cd tm (nI sn) (nI tx) (nI lz) (nI az) (nI na) (nI nt) (nI nr) mw ml mk dq)), (r 7, .inl ((cT 0), 1000, .inl f7))]) hD hS hA [3, 4] rfl
  refine va_calli (va_runV (C := "DoorServerModel") (As := [.int 44]) (rest := []) ⟨hx, hb, hml, hown, hg⟩ (m_sizeOf l dC dI cT H.size mo r cd tm sn tx lz az na nt nr mw ml mk dq f7 44 pa44 pn44 (by first | assumption | omega) (by first | assumption | omega) (by first | assumption | omega) (by first | assumption | omega)) (cwV 1 hg (gI (List.forall_mem_append.mpr ⟨List.forall_mem_cons.mpr ⟨k_1329, List.forall_mem_cons.mpr ⟨k_1331, List.forall_mem_cons.mpr ⟨(big_sel (q := y_Md_sizeOf) (n := 45) (by decide +kernel)), List.forall_mem_cons.mpr ⟨k_13, fun _ h => absurd h List.not_mem_nil⟩⟩⟩⟩, List.forall_mem_cons.mpr ⟨k_1332, fun _ h => h⟩⟩)) rfl rfl rfl (by decide +kernel) ⟨Nat.le_of_ble_eq_true rfl, Nat.le_of_ble_eq_true rfl⟩) ⟨fun a U g mk q => by obtain ⟨q0, q1, qP, qK, qD⟩ := q; exact ⟨q0, q1, qP, va_K.moved (u := U) (U := U.calling g mk a) (Vm.Alike.refl U.vm) qK, qD⟩, va_recv (q0 := 3) (ci := 12) hK hP rfl rfl, fun U hU hW => ⟨rfl, by rw [hU], by rw [hU]; exact hPc, va_K.moved hW.alike hK, hDc.weaken (fun _ _ _ _ => trivial)⟩⟩ rfl rfl hl.1 rfl (lv_room (Nat.le_of_ble_eq_true rfl)) d_Md_recordOf_10 ⟨Nat.le_of_ble_eq_true rfl, Nat.le_of_ble_eq_true rfl⟩) hS (fun q _ h => hFc q h) hFc (fun rv9 u t H1 locs ht hvm hw hB hz1 hk1 hS => ?_)
  try dsimp only at hw hB
  obtain ⟨hP1, hK1, hD1⟩ := hB
  rw [ht] at hP1
  obtain ⟨rfl, hw⟩ := hw
  obtain ⟨hP, hD⟩ := va_join (wr := [(r 34, .inl ((cT 0), 50, .inl f34)), (r 35, .inl ((cT 0), 50, .inl f35)), (r 36, .inl ((cT 0), 800, .inl f36))]) (w1 := [(mo, .inr (12, mdG r cd tm (nI sn) (nI tx) (nI lz) (nI az) (nI na) (nI nt) (nI nr) mw ml mk dq)), (r 7, .inl ((cT 0), 1000, .inl f7))]) hP hD [3, 4] [0, 1, 2] rfl rfl (by decide) (by decide) hk1 hFc hP1 hD1
  have hw2 := hw
  clear hPc hDc hFc hz1 hk1 hP1 hK1 hD1
  generalize H1 = H at hP hS ⊢
  have hP : va_P (dC, dI) vcl [(r 34, .inl ((cT 0), 50, .inl f34)), (r 35, .inl ((cT 0), 50, .inl f35)), (r 36, .inl ((cT 0), 800, .inl f36)), (mo, .inr (12, mdG r cd tm (nI sn) (nI tx) (nI lz) (nI az) (nI na) (nI nt) (nI nr) mw ml mk dq)), (r 7, .inl ((cT 0), 1000, .inl f7))] H := hP
  have hD : va_D A [(r 34, .inl ((cT 0), 50, .inl f34)), (r 35, .inl ((cT 0), 50, .inl f35)), (r 36, .inl ((cT 0), 800, .inl f36)), (mo, .inr (12, mdG r cd tm (nI sn) (nI tx) (nI lz) (nI az) (nI na) (nI nt) (nI nr) mw ml mk dq)), (r 7, .inl ((cT 0), 1000, .inl f7))] := hD
  refine lv_istore_n (lv' := [(3, .int (nI pn44)), (2, .int (nI (pa44 + 2))), (0, .ref mo), (1, .int x)]) hx hb d_Md_recordOf_13 rfl hl (by decide) rfl (fun ls hl => ?_)
  refine lv_iconst (v := 0) hx hb d_Md_recordOf_14 (by decide) ?_
  refine lv_istore (lv' := [(4, .int 0), (3, .int (nI pn44)), (2, .int (nI (pa44 + 2))), (0, .ref mo), (1, .int x)]) hx hb d_Md_recordOf_15 hl (by decide) rfl (fun ls hl => ?_)
  have hl := lv_sub hl [0, 1, 2, 3, 4] (show _ = [(4, .int 0), (3, .int (nI pn44)), (2, .int (nI (pa44 + 2))), (0, .ref mo), (1, .int x)] from rfl)
  have L3 : ∀ (Q : State → Prop) (ex0 : ∀ (i : Nat) (H : Heap) (locs : List Loc) (ls : Array Slot), va_P (dC, dI) vcl [(r 34, .inl ((cT 0), 50, .inl f34)), (r 35, .inl ((cT 0), 50, .inl f35)), (r 36, .inl ((cT 0), 800, .inl f36)), (mo, .inr (12, mdG r cd tm (nI sn) (nI tx) (nI lz) (nI az) (nI na) (nI nt) (nI nr) mw ml mk dq)), (r 7, .inl ((cT 0), 1000, .inl f7))] H → va_D A [(r 34, .inl ((cT 0), 50, .inl f34)), (r 35, .inl ((cT 0), 50, .inl f35)), (r 36, .inl ((cT 0), 800, .inl f36)), (mo, .inr (12, mdG r cd tm (nI sn) (nI tx) (nI lz) (nI az) (nI na) (nI nt) (nI nr) mw ml mk dq)), (r 7, .inl ((cT 0), 1000, .inl f7))] → va_S A s.heap H locs → lv_has ls 7 [(0, .ref mo)] → W p l e ({ frames := 3, cells := 0, slots := 0, locals := 72 } : Room) s m args below meth c H locs 0 0 Q (F0 m 121 ls [])) (ex1 : ∀ (i : Nat) (H : Heap) (locs : List Loc) (ls : Array Slot), (i < nr) → va_P (dC, dI) vcl [(r 34, .inl ((cT 0), 50, .inl f34)), (r 35, .inl ((cT 0), 50, .inl f35)), (r 36, .inl ((cT 0), 800, .inl f36)), (mo, .inr (12, mdG r cd tm (nI sn) (nI tx) (nI lz) (nI az) (nI na) (nI nt) (nI nr) mw ml mk dq)), (r 7, .inl ((cT 0), 1000, .inl f7))] H → va_D A [(r 34, .inl ((cT 0), 50, .inl f34)), (r 35, .inl ((cT 0), 50, .inl f35)), (r 36, .inl ((cT 0), 800, .inl f36)), (mo, .inr (12, mdG r cd tm (nI sn) (nI tx) (nI lz) (nI az) (nI na) (nI nt) (nI nr) mw ml mk dq)), (r 7, .inl ((cT 0), 1000, .inl f7))] → va_S A s.heap H locs → lv_has ls 7 [(0, .ref mo)] → W p l e ({ frames := 3, cells := 0, slots := 0, locals := 72 } : Room) s m args below meth c H locs 0 0 Q (F0 m 114 ls [.int (nI i)])) (jj4 : Nat) (i : Nat) (H : Heap) (locs : List Loc) (ls : Array Slot), nr - i ≤ jj4 → (i ≤ nr) → va_P (dC, dI) vcl [(r 34, .inl ((cT 0), 50, .inl f34)), (r 35, .inl ((cT 0), 50, .inl f35)), (r 36, .inl ((cT 0), 800, .inl f36)), (mo, .inr (12, mdG r cd tm (nI sn) (nI tx) (nI lz) (nI az) (nI na) (nI nt) (nI nr) mw ml mk dq)), (r 7, .inl ((cT 0), 1000, .inl f7))] H → va_D A [(r 34, .inl ((cT 0), 50, .inl f34)), (r 35, .inl ((cT 0), 50, .inl f35)), (r 36, .inl ((cT 0), 800, .inl f36)), (mo, .inr (12, mdG r cd tm (nI sn) (nI tx) (nI lz) (nI az) (nI na) (nI nt) (nI nr) mw ml mk dq)), (r 7, .inl ((cT 0), 1000, .inl f7))] → va_S A s.heap H locs → lv_has ls 7 [(4, .int (nI i)), (3, .int (nI pn44)), (2, .int (nI (pa44 + 2))), (0, .ref mo), (1, .int x)] → W p l e ({ frames := 3, cells := 0, slots := 0, locals := 72 } : Room) s m args below meth c H locs 0 0 Q (F0 m 17 ls []) := by
    intro Q ex0 ex1 jj4
    induction jj4 with
    | zero => 
      intro i H locs ls hm9 hi hP hD hS hl
      refine lv_iload hx hb d_Md_recordOf_17 (lv_at hl 0 rfl) ?_
      refine lv_aload_n hx hb d_Md_recordOf_19 rfl (lv_at hl 3 rfl) ?_
      refine va_get (D := (dC, dI)) (ci := 12) (v := (.int (nI nr))) (C := R_Md) (T := F_Md) (N := 45) hx hb hg in_Md hown hK hP 3 rfl rfl 33 (by decide) (hg _ k_1053) (fun _ h9 => h9) rfl d_Md_recordOf_20 ?_
      refine lv_icmp_ge (tgt := 121) hx hb d_Md_recordOf_23 (by decide) (fun hc5 => ?_) (fun hc5 => ?_)
      · skip
        have n6 : nr ≤ i := (nI_leI (a := nr) (b := i) (by omega) (by omega)).mp hc5
        have hl := lv_sub hl [3] (show _ = [(0, .ref mo)] from rfl)
        exact ex0 i _ _ _  hP hD hS hl
      · skip
        have n7 : i < nr := Nat.not_le.mp (fun h7 => hc5 ((nI_leI (a := nr) (b := i) (by omega) (by omega)).mpr h7))
        refine lv_aload_n hx hb d_Md_recordOf_26 rfl (lv_at hl 3 rfl) ?_
        refine va_get (D := (dC, dI)) (ci := 12) (v := (.ref (r 34))) (C := R_Md) (T := F_Md) (N := 45) hx hb hg in_Md hown hK hP 3 rfl rfl 34 (by decide) (hg _ k_1054) (fun _ h9 => h9) rfl d_Md_recordOf_27 ?_
        refine lv_iload hx hb d_Md_recordOf_30 (lv_at hl 0 rfl) ?_
        refine va_iald hx hb hK hP 0 0 rfl rfl (i := (nI i)) (vp_in_nI (N := 50) (by omega) (by decide)) d_Md_recordOf_32 ?_
        refine lv_topi (fun x8 e_x8 => ?_)
        clear e_x8
        refine lv_iload_n hx hb d_Md_recordOf_33 rfl (lv_at hl 4 rfl) ?_
        refine lv_icmp_ne (tgt := 52) hx hb d_Md_recordOf_34 (by decide) (fun hc9 => ?_) (fun hc9 => ?_)
        · skip
          refine lv_iconst (v := 0) hx hb d_Md_recordOf_52 (by decide) ?_
          refine lv_istore (lv' := [(5, .int 0), (4, .int (nI i)), (3, .int (nI pn44)), (2, .int (nI (pa44 + 2))), (0, .ref mo), (1, .int x)]) hx hb d_Md_recordOf_53 hl (by decide) rfl (fun ls hl => ?_)
          refine lv_iconst (v := 0) hx hb d_Md_recordOf_55 (by decide) ?_
          refine lv_istore (lv' := [(6, .int 0), (5, .int 0), (4, .int (nI i)), (3, .int (nI pn44)), (2, .int (nI (pa44 + 2))), (0, .ref mo), (1, .int x)]) hx hb d_Md_recordOf_56 hl (by decide) rfl (fun ls hl => ?_)
          have hl := lv_sub hl [0, 1, 2, 3, 4, 5, 6] (show _ = [(6, .int 0), (5, .int 0), (4, .int (nI i)), (3, .int (nI pn44)), (2, .int (nI (pa44 + 2))), (0, .ref mo), (1, .int x)] from rfl)
          have L10 : ∀ (Q : State → Prop) (ex0 : ∀ (q9 : Nat) (sm : Int32) (H : Heap) (locs : List Loc) (ls : Array Slot), va_P (dC, dI) vcl [(r 34, .inl ((cT 0), 50, .inl f34)), (r 35, .inl ((cT 0), 50, .inl f35)), (r 36, .inl ((cT 0), 800, .inl f36)), (mo, .inr (12, mdG r cd tm (nI sn) (nI tx) (nI lz) (nI az) (nI na) (nI nt) (nI nr) mw ml mk dq)), (r 7, .inl ((cT 0), 1000, .inl f7))] H → va_D A [(r 34, .inl ((cT 0), 50, .inl f34)), (r 35, .inl ((cT 0), 50, .inl f35)), (r 36, .inl ((cT 0), 800, .inl f36)), (mo, .inr (12, mdG r cd tm (nI sn) (nI tx) (nI lz) (nI az) (nI na) (nI nt) (nI nr) mw ml mk dq)), (r 7, .inl ((cT 0), 1000, .inl f7))] → va_S A s.heap H locs → lv_has ls 7 [(6, .int (nI q9)), (5, .int sm), (4, .int (nI i)), (3, .int (nI pn44)), (2, .int (nI (pa44 + 2))), (0, .ref mo), (1, .int x)] → W p l e ({ frames := 3, cells := 0, slots := 0, locals := 72 } : Room) s m args below meth c H locs 0 0 Q (F0 m 107 ls [])) (jj11 : Nat) (q9 : Nat) (sm : Int32) (H : Heap) (locs : List Loc) (ls : Array Slot), pn44 - q9 ≤ jj11 → (q9 ≤ pn44) → va_P (dC, dI) vcl [(r 34, .inl ((cT 0), 50, .inl f34)), (r 35, .inl ((cT 0), 50, .inl f35)), (r 36, .inl ((cT 0), 800, .inl f36)), (mo, .inr (12, mdG r cd tm (nI sn) (nI tx) (nI lz) (nI az) (nI na) (nI nt) (nI nr) mw ml mk dq)), (r 7, .inl ((cT 0), 1000, .inl f7))] H → va_D A [(r 34, .inl ((cT 0), 50, .inl f34)), (r 35, .inl ((cT 0), 50, .inl f35)), (r 36, .inl ((cT 0), 800, .inl f36)), (mo, .inr (12, mdG r cd tm (nI sn) (nI tx) (nI lz) (nI az) (nI na) (nI nt) (nI nr) mw ml mk dq)), (r 7, .inl ((cT 0), 1000, .inl f7))] → va_S A s.heap H locs → lv_has ls 7 [(6, .int (nI q9)), (5, .int sm), (4, .int (nI i)), (3, .int (nI pn44)), (2, .int (nI (pa44 + 2))), (0, .ref mo), (1, .int x)] → W p l e ({ frames := 3, cells := 0, slots := 0, locals := 72 } : Room) s m args below meth c H locs 0 0 Q (F0 m 58 ls []) := by
            intro Q ex0 jj11
            induction jj11 with
            | zero => 
              intro q9 sm H locs ls hm9 hq9 hP hD hS hl
              refine lv_iload hx hb d_Md_recordOf_58 (lv_at hl 0 rfl) ?_
              refine lv_iload_n hx hb d_Md_recordOf_60 rfl (lv_at hl 3 rfl) ?_
              refine lv_icmp_ge (tgt := 107) hx hb d_Md_recordOf_61 (by decide) (fun hc12 => ?_) (fun hc12 => ?_)
              · skip
                have n13 : pn44 ≤ q9 := (nI_leI (a := pn44) (b := q9) (by omega) (by omega)).mp hc12
                have hl := lv_sub hl [0, 1, 2, 3, 4, 5, 6] (show _ = [(6, .int (nI q9)), (5, .int sm), (4, .int (nI i)), (3, .int (nI pn44)), (2, .int (nI (pa44 + 2))), (0, .ref mo), (1, .int x)] from rfl)
                exact ex0 q9 sm _ _ _  hP hD hS hl
              · skip
                have n14 : q9 < pn44 := Nat.not_le.mp (fun h7 => hc12 ((nI_leI (a := pn44) (b := q9) (by omega) (by omega)).mpr h7))
                refine lv_iload hx hb d_Md_recordOf_64 (lv_at hl 1 rfl) ?_
                refine lv_if_eq (tgt := 107) hx hb d_Md_recordOf_66 (by decide) (fun hc15 => ?_) (fun hc15 => ?_)
                · skip
                  have hl := lv_sub hl [0, 1, 2, 3, 4, 5, 6] (show _ = [(6, .int (nI q9)), (5, .int sm), (4, .int (nI i)), (3, .int (nI pn44)), (2, .int (nI (pa44 + 2))), (0, .ref mo), (1, .int x)] from rfl)
                  exact ex0 q9 sm _ _ _  hP hD hS hl
                · skip
                  refine lv_aload_n hx hb d_Md_recordOf_69 rfl (lv_at hl 5 rfl) ?_
                  refine va_get (D := (dC, dI)) (ci := 12) (v := (.ref (r 36))) (C := R_Md) (T := F_Md) (N := 45) hx hb hg in_Md hown hK hP 3 rfl rfl 36 (by decide) (hg _ k_1056) (fun _ h9 => h9) rfl d_Md_recordOf_70 ?_
                  refine lv_bipush (v := 16) hx hb d_Md_recordOf_73 (by decide) ?_
                  refine lv_iload hx hb d_Md_recordOf_75 (lv_at hl 2 rfl) ?_
                  refine lv_imul hx hb d_Md_recordOf_77 ?_
                  refine lv_topi (fun x17 e16 => ?_)
                  obtain rfl : x17 = nI (16 * i) := by rw [e16]; exact pk_mul 16 i
                  refine lv_iload hx hb d_Md_recordOf_78 (lv_at hl 0 rfl) ?_
                  refine lv_iadd hx hb d_Md_recordOf_80 ?_
                  refine lv_topi (fun x19 e18 => ?_)
                  obtain rfl : x19 = nI ((16 * i) + q9) := by rw [e18]; exact nI_add (16 * i) q9
                  refine va_iald hx hb hK hP 2 0 rfl rfl (i := (nI ((16 * i) + q9))) (vp_in_nI (N := 800) (by omega) (by decide)) d_Md_recordOf_81 ?_
                  refine lv_topi (fun x20 e_x20 => ?_)
                  clear e_x20
                  refine lv_aload_n hx hb d_Md_recordOf_82 rfl (lv_at hl 5 rfl) ?_
                  refine va_get (D := (dC, dI)) (ci := 12) (v := (.ref (r 7))) (C := R_Md) (T := F_Md) (N := 45) hx hb hg in_Md hown hK hP 3 rfl rfl 7 (by decide) (hg _ k_1027) (fun _ h9 => h9) rfl d_Md_recordOf_83 ?_
                  refine lv_iload_n hx hb d_Md_recordOf_86 rfl (lv_at hl 4 rfl) ?_
                  refine lv_iload hx hb d_Md_recordOf_87 (lv_at hl 0 rfl) ?_
                  refine lv_iadd hx hb d_Md_recordOf_89 ?_
                  refine lv_topi (fun x22 e21 => ?_)
                  obtain rfl : x22 = nI (pa44 + 2 + q9) := by rw [e21]; exact nI_add (pa44 + 2) q9
                  refine va_iald hx hb hK hP 4 0 rfl rfl (i := (nI (pa44 + 2 + q9))) (vp_in_nI (N := 1000) (by omega) (by decide)) d_Md_recordOf_90 ?_
                  refine lv_topi (fun x23 e_x23 => ?_)
                  clear e_x23
                  refine lv_icmp_ne (tgt := 98) hx hb d_Md_recordOf_91 (by decide) (fun hc24 => ?_) (fun hc24 => ?_)
                  · skip
                    refine lv_iconst (v := 0) hx hb d_Md_recordOf_98 (by decide) ?_
                    refine lv_istore (lv' := [(5, .int 0), (6, .int (nI q9)), (4, .int (nI i)), (3, .int (nI pn44)), (2, .int (nI (pa44 + 2))), (0, .ref mo), (1, .int x)]) hx hb d_Md_recordOf_99 hl (by decide) rfl (fun ls hl => ?_)
                    refine lv_iinc (k := 1) (v := nI (q9 + 1)) (lv' := [(6, .int (nI (q9 + 1))), (5, .int 0), (4, .int (nI i)), (3, .int (nI pn44)), (2, .int (nI (pa44 + 2))), (0, .ref mo), (1, .int x)]) hx hb d_Md_recordOf_101 hl rfl (nI_1 q9) (by decide) rfl (fun ls hl => ?_)
                    refine lv_goto (tgt := 58) hx hb d_Md_recordOf_104 (by decide) ?_
                    have hl := lv_sub hl [0, 1, 2, 3, 4, 5, 6] (show _ = [(6, .int (nI (q9 + 1))), (5, .int 0), (4, .int (nI i)), (3, .int (nI pn44)), (2, .int (nI (pa44 + 2))), (0, .ref mo), (1, .int x)] from rfl)
                    exfalso; omega
                  · skip
                    refine lv_iconst (v := 1) hx hb d_Md_recordOf_94 (by decide) ?_
                    refine lv_goto (tgt := 99) hx hb d_Md_recordOf_95 (by decide) ?_
                    refine lv_istore (lv' := [(5, .int 1), (6, .int (nI q9)), (4, .int (nI i)), (3, .int (nI pn44)), (2, .int (nI (pa44 + 2))), (0, .ref mo), (1, .int x)]) hx hb d_Md_recordOf_99 hl (by decide) rfl (fun ls hl => ?_)
                    refine lv_iinc (k := 1) (v := nI (q9 + 1)) (lv' := [(6, .int (nI (q9 + 1))), (5, .int 1), (4, .int (nI i)), (3, .int (nI pn44)), (2, .int (nI (pa44 + 2))), (0, .ref mo), (1, .int x)]) hx hb d_Md_recordOf_101 hl rfl (nI_1 q9) (by decide) rfl (fun ls hl => ?_)
                    refine lv_goto (tgt := 58) hx hb d_Md_recordOf_104 (by decide) ?_
                    have hl := lv_sub hl [0, 1, 2, 3, 4, 5, 6] (show _ = [(6, .int (nI (q9 + 1))), (5, .int 1), (4, .int (nI i)), (3, .int (nI pn44)), (2, .int (nI (pa44 + 2))), (0, .ref mo), (1, .int x)] from rfl)
                    exfalso; omega
            | succ jj11 ih => 
              intro q9 sm H locs ls hm9 hq9 hP hD hS hl
              refine lv_iload hx hb d_Md_recordOf_58 (lv_at hl 0 rfl) ?_
              refine lv_iload_n hx hb d_Md_recordOf_60 rfl (lv_at hl 3 rfl) ?_
              refine lv_icmp_ge (tgt := 107) hx hb d_Md_recordOf_61 (by decide) (fun hc25 => ?_) (fun hc25 => ?_)
              · skip
                have n26 : pn44 ≤ q9 := (nI_leI (a := pn44) (b := q9) (by omega) (by omega)).mp hc25
                have hl := lv_sub hl [0, 1, 2, 3, 4, 5, 6] (show _ = [(6, .int (nI q9)), (5, .int sm), (4, .int (nI i)), (3, .int (nI pn44)), (2, .int (nI (pa44 + 2))), (0, .ref mo), (1, .int x)] from rfl)
                exact ex0 q9 sm _ _ _  hP hD hS hl
              · skip
                have n27 : q9 < pn44 := Nat.not_le.mp (fun h7 => hc25 ((nI_leI (a := pn44) (b := q9) (by omega) (by omega)).mpr h7))
                refine lv_iload hx hb d_Md_recordOf_64 (lv_at hl 1 rfl) ?_
                refine lv_if_eq (tgt := 107) hx hb d_Md_recordOf_66 (by decide) (fun hc28 => ?_) (fun hc28 => ?_)
                · skip
                  have hl := lv_sub hl [0, 1, 2, 3, 4, 5, 6] (show _ = [(6, .int (nI q9)), (5, .int sm), (4, .int (nI i)), (3, .int (nI pn44)), (2, .int (nI (pa44 + 2))), (0, .ref mo), (1, .int x)] from rfl)
                  exact ex0 q9 sm _ _ _  hP hD hS hl
                · skip
                  refine lv_aload_n hx hb d_Md_recordOf_69 rfl (lv_at hl 5 rfl) ?_
                  refine va_get (D := (dC, dI)) (ci := 12) (v := (.ref (r 36))) (C := R_Md) (T := F_Md) (N := 45) hx hb hg in_Md hown hK hP 3 rfl rfl 36 (by decide) (hg _ k_1056) (fun _ h9 => h9) rfl d_Md_recordOf_70 ?_
                  refine lv_bipush (v := 16) hx hb d_Md_recordOf_73 (by decide) ?_
                  refine lv_iload hx hb d_Md_recordOf_75 (lv_at hl 2 rfl) ?_
                  refine lv_imul hx hb d_Md_recordOf_77 ?_
                  refine lv_topi (fun x30 e29 => ?_)
                  obtain rfl : x30 = nI (16 * i) := by rw [e29]; exact pk_mul 16 i
                  refine lv_iload hx hb d_Md_recordOf_78 (lv_at hl 0 rfl) ?_
                  refine lv_iadd hx hb d_Md_recordOf_80 ?_
                  refine lv_topi (fun x32 e31 => ?_)
                  obtain rfl : x32 = nI ((16 * i) + q9) := by rw [e31]; exact nI_add (16 * i) q9
                  refine va_iald hx hb hK hP 2 0 rfl rfl (i := (nI ((16 * i) + q9))) (vp_in_nI (N := 800) (by omega) (by decide)) d_Md_recordOf_81 ?_
                  refine lv_topi (fun x33 e_x33 => ?_)
                  clear e_x33
                  refine lv_aload_n hx hb d_Md_recordOf_82 rfl (lv_at hl 5 rfl) ?_
                  refine va_get (D := (dC, dI)) (ci := 12) (v := (.ref (r 7))) (C := R_Md) (T := F_Md) (N := 45) hx hb hg in_Md hown hK hP 3 rfl rfl 7 (by decide) (hg _ k_1027) (fun _ h9 => h9) rfl d_Md_recordOf_83 ?_
                  refine lv_iload_n hx hb d_Md_recordOf_86 rfl (lv_at hl 4 rfl) ?_
                  refine lv_iload hx hb d_Md_recordOf_87 (lv_at hl 0 rfl) ?_
                  refine lv_iadd hx hb d_Md_recordOf_89 ?_
                  refine lv_topi (fun x35 e34 => ?_)
                  obtain rfl : x35 = nI (pa44 + 2 + q9) := by rw [e34]; exact nI_add (pa44 + 2) q9
                  refine va_iald hx hb hK hP 4 0 rfl rfl (i := (nI (pa44 + 2 + q9))) (vp_in_nI (N := 1000) (by omega) (by decide)) d_Md_recordOf_90 ?_
                  refine lv_topi (fun x36 e_x36 => ?_)
                  clear e_x36
                  refine lv_icmp_ne (tgt := 98) hx hb d_Md_recordOf_91 (by decide) (fun hc37 => ?_) (fun hc37 => ?_)
                  · skip
                    refine lv_iconst (v := 0) hx hb d_Md_recordOf_98 (by decide) ?_
                    refine lv_istore (lv' := [(5, .int 0), (6, .int (nI q9)), (4, .int (nI i)), (3, .int (nI pn44)), (2, .int (nI (pa44 + 2))), (0, .ref mo), (1, .int x)]) hx hb d_Md_recordOf_99 hl (by decide) rfl (fun ls hl => ?_)
                    refine lv_iinc (k := 1) (v := nI (q9 + 1)) (lv' := [(6, .int (nI (q9 + 1))), (5, .int 0), (4, .int (nI i)), (3, .int (nI pn44)), (2, .int (nI (pa44 + 2))), (0, .ref mo), (1, .int x)]) hx hb d_Md_recordOf_101 hl rfl (nI_1 q9) (by decide) rfl (fun ls hl => ?_)
                    refine lv_goto (tgt := 58) hx hb d_Md_recordOf_104 (by decide) ?_
                    have hl := lv_sub hl [0, 1, 2, 3, 4, 5, 6] (show _ = [(6, .int (nI (q9 + 1))), (5, .int 0), (4, .int (nI i)), (3, .int (nI pn44)), (2, .int (nI (pa44 + 2))), (0, .ref mo), (1, .int x)] from rfl)
                    exact ih (q9 + 1) 0 _ _ _ (by omega) (by omega) hP hD hS hl
                  · skip
                    refine lv_iconst (v := 1) hx hb d_Md_recordOf_94 (by decide) ?_
                    refine lv_goto (tgt := 99) hx hb d_Md_recordOf_95 (by decide) ?_
                    refine lv_istore (lv' := [(5, .int 1), (6, .int (nI q9)), (4, .int (nI i)), (3, .int (nI pn44)), (2, .int (nI (pa44 + 2))), (0, .ref mo), (1, .int x)]) hx hb d_Md_recordOf_99 hl (by decide) rfl (fun ls hl => ?_)
                    refine lv_iinc (k := 1) (v := nI (q9 + 1)) (lv' := [(6, .int (nI (q9 + 1))), (5, .int 1), (4, .int (nI i)), (3, .int (nI pn44)), (2, .int (nI (pa44 + 2))), (0, .ref mo), (1, .int x)]) hx hb d_Md_recordOf_101 hl rfl (nI_1 q9) (by decide) rfl (fun ls hl => ?_)
                    refine lv_goto (tgt := 58) hx hb d_Md_recordOf_104 (by decide) ?_
                    have hl := lv_sub hl [0, 1, 2, 3, 4, 5, 6] (show _ = [(6, .int (nI (q9 + 1))), (5, .int 1), (4, .int (nI i)), (3, .int (nI pn44)), (2, .int (nI (pa44 + 2))), (0, .ref mo), (1, .int x)] from rfl)
                    exact ih (q9 + 1) 1 _ _ _ (by omega) (by omega) hP hD hS hl
          refine L10 _ (fun q9 sm H locs ls  hP hD hS hl => ?_) (pn44 - 0) 0 0 H _ ls (Nat.le_refl _) (by omega) hP hD hS hl
          · skip
            refine lv_iload hx hb d_Md_recordOf_107 (lv_at hl 1 rfl) ?_
            refine lv_if_eq (tgt := 115) hx hb d_Md_recordOf_109 (by decide) (fun hc38 => ?_) (fun hc38 => ?_)
            · skip
              refine lv_iinc (k := 2) (v := nI (i + 1)) (lv' := [(4, .int (nI (i + 1))), (6, .int (nI q9)), (5, .int sm), (3, .int (nI pn44)), (2, .int (nI (pa44 + 2))), (0, .ref mo), (1, .int x)]) hx hb d_Md_recordOf_115 hl rfl (nI_1 i) (by decide) rfl (fun ls hl => ?_)
              refine lv_goto (tgt := 17) hx hb d_Md_recordOf_118 (by decide) ?_
              have hl := lv_sub hl [0, 3, 4, 5, 6] (show _ = [(4, .int (nI (i + 1))), (3, .int (nI pn44)), (2, .int (nI (pa44 + 2))), (0, .ref mo), (1, .int x)] from rfl)
              exfalso; omega
            · skip
              refine lv_iload hx hb d_Md_recordOf_112 (lv_at hl 2 rfl) ?_
              have hl := lv_sub hl [5] (show _ = [(0, .ref mo)] from rfl)
              exact ex1 i _ _ _ (by omega) hP hD hS hl
        · skip
          refine lv_aload_n hx hb d_Md_recordOf_37 rfl (lv_at hl 3 rfl) ?_
          refine va_get (D := (dC, dI)) (ci := 12) (v := (.ref (r 35))) (C := R_Md) (T := F_Md) (N := 45) hx hb hg in_Md hown hK hP 3 rfl rfl 35 (by decide) (hg _ k_1055) (fun _ h9 => h9) rfl d_Md_recordOf_38 ?_
          refine lv_iload hx hb d_Md_recordOf_41 (lv_at hl 0 rfl) ?_
          refine va_iald hx hb hK hP 1 0 rfl rfl (i := (nI i)) (vp_in_nI (N := 50) (by omega) (by decide)) d_Md_recordOf_43 ?_
          refine lv_topi (fun x39 e_x39 => ?_)
          clear e_x39
          refine lv_iload_n hx hb d_Md_recordOf_44 rfl (lv_at hl 1 rfl) ?_
          refine lv_icmp_ne (tgt := 52) hx hb d_Md_recordOf_45 (by decide) (fun hc40 => ?_) (fun hc40 => ?_)
          · skip
            refine lv_iconst (v := 0) hx hb d_Md_recordOf_52 (by decide) ?_
            refine lv_istore (lv' := [(5, .int 0), (4, .int (nI i)), (3, .int (nI pn44)), (2, .int (nI (pa44 + 2))), (0, .ref mo), (1, .int x)]) hx hb d_Md_recordOf_53 hl (by decide) rfl (fun ls hl => ?_)
            refine lv_iconst (v := 0) hx hb d_Md_recordOf_55 (by decide) ?_
            refine lv_istore (lv' := [(6, .int 0), (5, .int 0), (4, .int (nI i)), (3, .int (nI pn44)), (2, .int (nI (pa44 + 2))), (0, .ref mo), (1, .int x)]) hx hb d_Md_recordOf_56 hl (by decide) rfl (fun ls hl => ?_)
            have hl := lv_sub hl [0, 1, 2, 3, 4, 5, 6] (show _ = [(6, .int 0), (5, .int 0), (4, .int (nI i)), (3, .int (nI pn44)), (2, .int (nI (pa44 + 2))), (0, .ref mo), (1, .int x)] from rfl)
            have L41 : ∀ (Q : State → Prop) (ex0 : ∀ (q9 : Nat) (sm : Int32) (H : Heap) (locs : List Loc) (ls : Array Slot), va_P (dC, dI) vcl [(r 34, .inl ((cT 0), 50, .inl f34)), (r 35, .inl ((cT 0), 50, .inl f35)), (r 36, .inl ((cT 0), 800, .inl f36)), (mo, .inr (12, mdG r cd tm (nI sn) (nI tx) (nI lz) (nI az) (nI na) (nI nt) (nI nr) mw ml mk dq)), (r 7, .inl ((cT 0), 1000, .inl f7))] H → va_D A [(r 34, .inl ((cT 0), 50, .inl f34)), (r 35, .inl ((cT 0), 50, .inl f35)), (r 36, .inl ((cT 0), 800, .inl f36)), (mo, .inr (12, mdG r cd tm (nI sn) (nI tx) (nI lz) (nI az) (nI na) (nI nt) (nI nr) mw ml mk dq)), (r 7, .inl ((cT 0), 1000, .inl f7))] → va_S A s.heap H locs → lv_has ls 7 [(6, .int (nI q9)), (5, .int sm), (4, .int (nI i)), (3, .int (nI pn44)), (2, .int (nI (pa44 + 2))), (0, .ref mo), (1, .int x)] → W p l e ({ frames := 3, cells := 0, slots := 0, locals := 72 } : Room) s m args below meth c H locs 0 0 Q (F0 m 107 ls [])) (jj42 : Nat) (q9 : Nat) (sm : Int32) (H : Heap) (locs : List Loc) (ls : Array Slot), pn44 - q9 ≤ jj42 → (q9 ≤ pn44) → va_P (dC, dI) vcl [(r 34, .inl ((cT 0), 50, .inl f34)), (r 35, .inl ((cT 0), 50, .inl f35)), (r 36, .inl ((cT 0), 800, .inl f36)), (mo, .inr (12, mdG r cd tm (nI sn) (nI tx) (nI lz) (nI az) (nI na) (nI nt) (nI nr) mw ml mk dq)), (r 7, .inl ((cT 0), 1000, .inl f7))] H → va_D A [(r 34, .inl ((cT 0), 50, .inl f34)), (r 35, .inl ((cT 0), 50, .inl f35)), (r 36, .inl ((cT 0), 800, .inl f36)), (mo, .inr (12, mdG r cd tm (nI sn) (nI tx) (nI lz) (nI az) (nI na) (nI nt) (nI nr) mw ml mk dq)), (r 7, .inl ((cT 0), 1000, .inl f7))] → va_S A s.heap H locs → lv_has ls 7 [(6, .int (nI q9)), (5, .int sm), (4, .int (nI i)), (3, .int (nI pn44)), (2, .int (nI (pa44 + 2))), (0, .ref mo), (1, .int x)] → W p l e ({ frames := 3, cells := 0, slots := 0, locals := 72 } : Room) s m args below meth c H locs 0 0 Q (F0 m 58 ls []) := by
              intro Q ex0 jj42
              induction jj42 with
              | zero => 
                intro q9 sm H locs ls hm9 hq9 hP hD hS hl
                refine lv_iload hx hb d_Md_recordOf_58 (lv_at hl 0 rfl) ?_
                refine lv_iload_n hx hb d_Md_recordOf_60 rfl (lv_at hl 3 rfl) ?_
                refine lv_icmp_ge (tgt := 107) hx hb d_Md_recordOf_61 (by decide) (fun hc43 => ?_) (fun hc43 => ?_)
                · skip
                  have n44 : pn44 ≤ q9 := (nI_leI (a := pn44) (b := q9) (by omega) (by omega)).mp hc43
                  have hl := lv_sub hl [0, 1, 2, 3, 4, 5, 6] (show _ = [(6, .int (nI q9)), (5, .int sm), (4, .int (nI i)), (3, .int (nI pn44)), (2, .int (nI (pa44 + 2))), (0, .ref mo), (1, .int x)] from rfl)
                  exact ex0 q9 sm _ _ _  hP hD hS hl
                · skip
                  have n45 : q9 < pn44 := Nat.not_le.mp (fun h7 => hc43 ((nI_leI (a := pn44) (b := q9) (by omega) (by omega)).mpr h7))
                  refine lv_iload hx hb d_Md_recordOf_64 (lv_at hl 1 rfl) ?_
                  refine lv_if_eq (tgt := 107) hx hb d_Md_recordOf_66 (by decide) (fun hc46 => ?_) (fun hc46 => ?_)
                  · skip
                    have hl := lv_sub hl [0, 1, 2, 3, 4, 5, 6] (show _ = [(6, .int (nI q9)), (5, .int sm), (4, .int (nI i)), (3, .int (nI pn44)), (2, .int (nI (pa44 + 2))), (0, .ref mo), (1, .int x)] from rfl)
                    exact ex0 q9 sm _ _ _  hP hD hS hl
                  · skip
                    refine lv_aload_n hx hb d_Md_recordOf_69 rfl (lv_at hl 5 rfl) ?_
                    refine va_get (D := (dC, dI)) (ci := 12) (v := (.ref (r 36))) (C := R_Md) (T := F_Md) (N := 45) hx hb hg in_Md hown hK hP 3 rfl rfl 36 (by decide) (hg _ k_1056) (fun _ h9 => h9) rfl d_Md_recordOf_70 ?_
                    refine lv_bipush (v := 16) hx hb d_Md_recordOf_73 (by decide) ?_
                    refine lv_iload hx hb d_Md_recordOf_75 (lv_at hl 2 rfl) ?_
                    refine lv_imul hx hb d_Md_recordOf_77 ?_
                    refine lv_topi (fun x48 e47 => ?_)
                    obtain rfl : x48 = nI (16 * i) := by rw [e47]; exact pk_mul 16 i
                    refine lv_iload hx hb d_Md_recordOf_78 (lv_at hl 0 rfl) ?_
                    refine lv_iadd hx hb d_Md_recordOf_80 ?_
                    refine lv_topi (fun x50 e49 => ?_)
                    obtain rfl : x50 = nI ((16 * i) + q9) := by rw [e49]; exact nI_add (16 * i) q9
                    refine va_iald hx hb hK hP 2 0 rfl rfl (i := (nI ((16 * i) + q9))) (vp_in_nI (N := 800) (by omega) (by decide)) d_Md_recordOf_81 ?_
                    refine lv_topi (fun x51 e_x51 => ?_)
                    clear e_x51
                    refine lv_aload_n hx hb d_Md_recordOf_82 rfl (lv_at hl 5 rfl) ?_
                    refine va_get (D := (dC, dI)) (ci := 12) (v := (.ref (r 7))) (C := R_Md) (T := F_Md) (N := 45) hx hb hg in_Md hown hK hP 3 rfl rfl 7 (by decide) (hg _ k_1027) (fun _ h9 => h9) rfl d_Md_recordOf_83 ?_
                    refine lv_iload_n hx hb d_Md_recordOf_86 rfl (lv_at hl 4 rfl) ?_
                    refine lv_iload hx hb d_Md_recordOf_87 (lv_at hl 0 rfl) ?_
                    refine lv_iadd hx hb d_Md_recordOf_89 ?_
                    refine lv_topi (fun x53 e52 => ?_)
                    obtain rfl : x53 = nI (pa44 + 2 + q9) := by rw [e52]; exact nI_add (pa44 + 2) q9
                    refine va_iald hx hb hK hP 4 0 rfl rfl (i := (nI (pa44 + 2 + q9))) (vp_in_nI (N := 1000) (by omega) (by decide)) d_Md_recordOf_90 ?_
                    refine lv_topi (fun x54 e_x54 => ?_)
                    clear e_x54
                    refine lv_icmp_ne (tgt := 98) hx hb d_Md_recordOf_91 (by decide) (fun hc55 => ?_) (fun hc55 => ?_)
                    · skip
                      refine lv_iconst (v := 0) hx hb d_Md_recordOf_98 (by decide) ?_
                      refine lv_istore (lv' := [(5, .int 0), (6, .int (nI q9)), (4, .int (nI i)), (3, .int (nI pn44)), (2, .int (nI (pa44 + 2))), (0, .ref mo), (1, .int x)]) hx hb d_Md_recordOf_99 hl (by decide) rfl (fun ls hl => ?_)
                      refine lv_iinc (k := 1) (v := nI (q9 + 1)) (lv' := [(6, .int (nI (q9 + 1))), (5, .int 0), (4, .int (nI i)), (3, .int (nI pn44)), (2, .int (nI (pa44 + 2))), (0, .ref mo), (1, .int x)]) hx hb d_Md_recordOf_101 hl rfl (nI_1 q9) (by decide) rfl (fun ls hl => ?_)
                      refine lv_goto (tgt := 58) hx hb d_Md_recordOf_104 (by decide) ?_
                      have hl := lv_sub hl [0, 1, 2, 3, 4, 5, 6] (show _ = [(6, .int (nI (q9 + 1))), (5, .int 0), (4, .int (nI i)), (3, .int (nI pn44)), (2, .int (nI (pa44 + 2))), (0, .ref mo), (1, .int x)] from rfl)
                      exfalso; omega
                    · skip
                      refine lv_iconst (v := 1) hx hb d_Md_recordOf_94 (by decide) ?_
                      refine lv_goto (tgt := 99) hx hb d_Md_recordOf_95 (by decide) ?_
                      refine lv_istore (lv' := [(5, .int 1), (6, .int (nI q9)), (4, .int (nI i)), (3, .int (nI pn44)), (2, .int (nI (pa44 + 2))), (0, .ref mo), (1, .int x)]) hx hb d_Md_recordOf_99 hl (by decide) rfl (fun ls hl => ?_)
                      refine lv_iinc (k := 1) (v := nI (q9 + 1)) (lv' := [(6, .int (nI (q9 + 1))), (5, .int 1), (4, .int (nI i)), (3, .int (nI pn44)), (2, .int (nI (pa44 + 2))), (0, .ref mo), (1, .int x)]) hx hb d_Md_recordOf_101 hl rfl (nI_1 q9) (by decide) rfl (fun ls hl => ?_)
                      refine lv_goto (tgt := 58) hx hb d_Md_recordOf_104 (by decide) ?_
                      have hl := lv_sub hl [0, 1, 2, 3, 4, 5, 6] (show _ = [(6, .int (nI (q9 + 1))), (5, .int 1), (4, .int (nI i)), (3, .int (nI pn44)), (2, .int (nI (pa44 + 2))), (0, .ref mo), (1, .int x)] from rfl)
                      exfalso; omega
              | succ jj42 ih => 
                intro q9 sm H locs ls hm9 hq9 hP hD hS hl
                refine lv_iload hx hb d_Md_recordOf_58 (lv_at hl 0 rfl) ?_
                refine lv_iload_n hx hb d_Md_recordOf_60 rfl (lv_at hl 3 rfl) ?_
                refine lv_icmp_ge (tgt := 107) hx hb d_Md_recordOf_61 (by decide) (fun hc56 => ?_) (fun hc56 => ?_)
                · skip
                  have n57 : pn44 ≤ q9 := (nI_leI (a := pn44) (b := q9) (by omega) (by omega)).mp hc56
                  have hl := lv_sub hl [0, 1, 2, 3, 4, 5, 6] (show _ = [(6, .int (nI q9)), (5, .int sm), (4, .int (nI i)), (3, .int (nI pn44)), (2, .int (nI (pa44 + 2))), (0, .ref mo), (1, .int x)] from rfl)
                  exact ex0 q9 sm _ _ _  hP hD hS hl
                · skip
                  have n58 : q9 < pn44 := Nat.not_le.mp (fun h7 => hc56 ((nI_leI (a := pn44) (b := q9) (by omega) (by omega)).mpr h7))
                  refine lv_iload hx hb d_Md_recordOf_64 (lv_at hl 1 rfl) ?_
                  refine lv_if_eq (tgt := 107) hx hb d_Md_recordOf_66 (by decide) (fun hc59 => ?_) (fun hc59 => ?_)
                  · skip
                    have hl := lv_sub hl [0, 1, 2, 3, 4, 5, 6] (show _ = [(6, .int (nI q9)), (5, .int sm), (4, .int (nI i)), (3, .int (nI pn44)), (2, .int (nI (pa44 + 2))), (0, .ref mo), (1, .int x)] from rfl)
                    exact ex0 q9 sm _ _ _  hP hD hS hl
                  · skip
                    refine lv_aload_n hx hb d_Md_recordOf_69 rfl (lv_at hl 5 rfl) ?_
                    refine va_get (D := (dC, dI)) (ci := 12) (v := (.ref (r 36))) (C := R_Md) (T := F_Md) (N := 45) hx hb hg in_Md hown hK hP 3 rfl rfl 36 (by decide) (hg _ k_1056) (fun _ h9 => h9) rfl d_Md_recordOf_70 ?_
                    refine lv_bipush (v := 16) hx hb d_Md_recordOf_73 (by decide) ?_
                    refine lv_iload hx hb d_Md_recordOf_75 (lv_at hl 2 rfl) ?_
                    refine lv_imul hx hb d_Md_recordOf_77 ?_
                    refine lv_topi (fun x61 e60 => ?_)
                    obtain rfl : x61 = nI (16 * i) := by rw [e60]; exact pk_mul 16 i
                    refine lv_iload hx hb d_Md_recordOf_78 (lv_at hl 0 rfl) ?_
                    refine lv_iadd hx hb d_Md_recordOf_80 ?_
                    refine lv_topi (fun x63 e62 => ?_)
                    obtain rfl : x63 = nI ((16 * i) + q9) := by rw [e62]; exact nI_add (16 * i) q9
                    refine va_iald hx hb hK hP 2 0 rfl rfl (i := (nI ((16 * i) + q9))) (vp_in_nI (N := 800) (by omega) (by decide)) d_Md_recordOf_81 ?_
                    refine lv_topi (fun x64 e_x64 => ?_)
                    clear e_x64
                    refine lv_aload_n hx hb d_Md_recordOf_82 rfl (lv_at hl 5 rfl) ?_
                    refine va_get (D := (dC, dI)) (ci := 12) (v := (.ref (r 7))) (C := R_Md) (T := F_Md) (N := 45) hx hb hg in_Md hown hK hP 3 rfl rfl 7 (by decide) (hg _ k_1027) (fun _ h9 => h9) rfl d_Md_recordOf_83 ?_
                    refine lv_iload_n hx hb d_Md_recordOf_86 rfl (lv_at hl 4 rfl) ?_
                    refine lv_iload hx hb d_Md_recordOf_87 (lv_at hl 0 rfl) ?_
                    refine lv_iadd hx hb d_Md_recordOf_89 ?_
                    refine lv_topi (fun x66 e65 => ?_)
                    obtain rfl : x66 = nI (pa44 + 2 + q9) := by rw [e65]; exact nI_add (pa44 + 2) q9
                    refine va_iald hx hb hK hP 4 0 rfl rfl (i := (nI (pa44 + 2 + q9))) (vp_in_nI (N := 1000) (by omega) (by decide)) d_Md_recordOf_90 ?_
                    refine lv_topi (fun x67 e_x67 => ?_)
                    clear e_x67
                    refine lv_icmp_ne (tgt := 98) hx hb d_Md_recordOf_91 (by decide) (fun hc68 => ?_) (fun hc68 => ?_)
                    · skip
                      refine lv_iconst (v := 0) hx hb d_Md_recordOf_98 (by decide) ?_
                      refine lv_istore (lv' := [(5, .int 0), (6, .int (nI q9)), (4, .int (nI i)), (3, .int (nI pn44)), (2, .int (nI (pa44 + 2))), (0, .ref mo), (1, .int x)]) hx hb d_Md_recordOf_99 hl (by decide) rfl (fun ls hl => ?_)
                      refine lv_iinc (k := 1) (v := nI (q9 + 1)) (lv' := [(6, .int (nI (q9 + 1))), (5, .int 0), (4, .int (nI i)), (3, .int (nI pn44)), (2, .int (nI (pa44 + 2))), (0, .ref mo), (1, .int x)]) hx hb d_Md_recordOf_101 hl rfl (nI_1 q9) (by decide) rfl (fun ls hl => ?_)
                      refine lv_goto (tgt := 58) hx hb d_Md_recordOf_104 (by decide) ?_
                      have hl := lv_sub hl [0, 1, 2, 3, 4, 5, 6] (show _ = [(6, .int (nI (q9 + 1))), (5, .int 0), (4, .int (nI i)), (3, .int (nI pn44)), (2, .int (nI (pa44 + 2))), (0, .ref mo), (1, .int x)] from rfl)
                      exact ih (q9 + 1) 0 _ _ _ (by omega) (by omega) hP hD hS hl
                    · skip
                      refine lv_iconst (v := 1) hx hb d_Md_recordOf_94 (by decide) ?_
                      refine lv_goto (tgt := 99) hx hb d_Md_recordOf_95 (by decide) ?_
                      refine lv_istore (lv' := [(5, .int 1), (6, .int (nI q9)), (4, .int (nI i)), (3, .int (nI pn44)), (2, .int (nI (pa44 + 2))), (0, .ref mo), (1, .int x)]) hx hb d_Md_recordOf_99 hl (by decide) rfl (fun ls hl => ?_)
                      refine lv_iinc (k := 1) (v := nI (q9 + 1)) (lv' := [(6, .int (nI (q9 + 1))), (5, .int 1), (4, .int (nI i)), (3, .int (nI pn44)), (2, .int (nI (pa44 + 2))), (0, .ref mo), (1, .int x)]) hx hb d_Md_recordOf_101 hl rfl (nI_1 q9) (by decide) rfl (fun ls hl => ?_)
                      refine lv_goto (tgt := 58) hx hb d_Md_recordOf_104 (by decide) ?_
                      have hl := lv_sub hl [0, 1, 2, 3, 4, 5, 6] (show _ = [(6, .int (nI (q9 + 1))), (5, .int 1), (4, .int (nI i)), (3, .int (nI pn44)), (2, .int (nI (pa44 + 2))), (0, .ref mo), (1, .int x)] from rfl)
                      exact ih (q9 + 1) 1 _ _ _ (by omega) (by omega) hP hD hS hl
            refine L41 _ (fun q9 sm H locs ls  hP hD hS hl => ?_) (pn44 - 0) 0 0 H _ ls (Nat.le_refl _) (by omega) hP hD hS hl
            · skip
              refine lv_iload hx hb d_Md_recordOf_107 (lv_at hl 1 rfl) ?_
              refine lv_if_eq (tgt := 115) hx hb d_Md_recordOf_109 (by decide) (fun hc69 => ?_) (fun hc69 => ?_)
              · skip
                refine lv_iinc (k := 2) (v := nI (i + 1)) (lv' := [(4, .int (nI (i + 1))), (6, .int (nI q9)), (5, .int sm), (3, .int (nI pn44)), (2, .int (nI (pa44 + 2))), (0, .ref mo), (1, .int x)]) hx hb d_Md_recordOf_115 hl rfl (nI_1 i) (by decide) rfl (fun ls hl => ?_)
                refine lv_goto (tgt := 17) hx hb d_Md_recordOf_118 (by decide) ?_
                have hl := lv_sub hl [0, 3, 4, 5, 6] (show _ = [(4, .int (nI (i + 1))), (3, .int (nI pn44)), (2, .int (nI (pa44 + 2))), (0, .ref mo), (1, .int x)] from rfl)
                exfalso; omega
              · skip
                refine lv_iload hx hb d_Md_recordOf_112 (lv_at hl 2 rfl) ?_
                have hl := lv_sub hl [5] (show _ = [(0, .ref mo)] from rfl)
                exact ex1 i _ _ _ (by omega) hP hD hS hl
          · skip
            refine lv_iconst (v := 1) hx hb d_Md_recordOf_48 (by decide) ?_
            refine lv_goto (tgt := 53) hx hb d_Md_recordOf_49 (by decide) ?_
            refine lv_istore (lv' := [(5, .int 1), (4, .int (nI i)), (3, .int (nI pn44)), (2, .int (nI (pa44 + 2))), (0, .ref mo), (1, .int x)]) hx hb d_Md_recordOf_53 hl (by decide) rfl (fun ls hl => ?_)
            refine lv_iconst (v := 0) hx hb d_Md_recordOf_55 (by decide) ?_
            refine lv_istore (lv' := [(6, .int 0), (5, .int 1), (4, .int (nI i)), (3, .int (nI pn44)), (2, .int (nI (pa44 + 2))), (0, .ref mo), (1, .int x)]) hx hb d_Md_recordOf_56 hl (by decide) rfl (fun ls hl => ?_)
            have hl := lv_sub hl [0, 1, 2, 3, 4, 5, 6] (show _ = [(6, .int 0), (5, .int 1), (4, .int (nI i)), (3, .int (nI pn44)), (2, .int (nI (pa44 + 2))), (0, .ref mo), (1, .int x)] from rfl)
            have L70 : ∀ (Q : State → Prop) (ex0 : ∀ (q9 : Nat) (sm : Int32) (H : Heap) (locs : List Loc) (ls : Array Slot), va_P (dC, dI) vcl [(r 34, .inl ((cT 0), 50, .inl f34)), (r 35, .inl ((cT 0), 50, .inl f35)), (r 36, .inl ((cT 0), 800, .inl f36)), (mo, .inr (12, mdG r cd tm (nI sn) (nI tx) (nI lz) (nI az) (nI na) (nI nt) (nI nr) mw ml mk dq)), (r 7, .inl ((cT 0), 1000, .inl f7))] H → va_D A [(r 34, .inl ((cT 0), 50, .inl f34)), (r 35, .inl ((cT 0), 50, .inl f35)), (r 36, .inl ((cT 0), 800, .inl f36)), (mo, .inr (12, mdG r cd tm (nI sn) (nI tx) (nI lz) (nI az) (nI na) (nI nt) (nI nr) mw ml mk dq)), (r 7, .inl ((cT 0), 1000, .inl f7))] → va_S A s.heap H locs → lv_has ls 7 [(6, .int (nI q9)), (5, .int sm), (4, .int (nI i)), (3, .int (nI pn44)), (2, .int (nI (pa44 + 2))), (0, .ref mo), (1, .int x)] → W p l e ({ frames := 3, cells := 0, slots := 0, locals := 72 } : Room) s m args below meth c H locs 0 0 Q (F0 m 107 ls [])) (jj71 : Nat) (q9 : Nat) (sm : Int32) (H : Heap) (locs : List Loc) (ls : Array Slot), pn44 - q9 ≤ jj71 → (q9 ≤ pn44) → va_P (dC, dI) vcl [(r 34, .inl ((cT 0), 50, .inl f34)), (r 35, .inl ((cT 0), 50, .inl f35)), (r 36, .inl ((cT 0), 800, .inl f36)), (mo, .inr (12, mdG r cd tm (nI sn) (nI tx) (nI lz) (nI az) (nI na) (nI nt) (nI nr) mw ml mk dq)), (r 7, .inl ((cT 0), 1000, .inl f7))] H → va_D A [(r 34, .inl ((cT 0), 50, .inl f34)), (r 35, .inl ((cT 0), 50, .inl f35)), (r 36, .inl ((cT 0), 800, .inl f36)), (mo, .inr (12, mdG r cd tm (nI sn) (nI tx) (nI lz) (nI az) (nI na) (nI nt) (nI nr) mw ml mk dq)), (r 7, .inl ((cT 0), 1000, .inl f7))] → va_S A s.heap H locs → lv_has ls 7 [(6, .int (nI q9)), (5, .int sm), (4, .int (nI i)), (3, .int (nI pn44)), (2, .int (nI (pa44 + 2))), (0, .ref mo), (1, .int x)] → W p l e ({ frames := 3, cells := 0, slots := 0, locals := 72 } : Room) s m args below meth c H locs 0 0 Q (F0 m 58 ls []) := by
              intro Q ex0 jj71
              induction jj71 with
              | zero => 
                intro q9 sm H locs ls hm9 hq9 hP hD hS hl
                refine lv_iload hx hb d_Md_recordOf_58 (lv_at hl 0 rfl) ?_
                refine lv_iload_n hx hb d_Md_recordOf_60 rfl (lv_at hl 3 rfl) ?_
                refine lv_icmp_ge (tgt := 107) hx hb d_Md_recordOf_61 (by decide) (fun hc72 => ?_) (fun hc72 => ?_)
                · skip
                  have n73 : pn44 ≤ q9 := (nI_leI (a := pn44) (b := q9) (by omega) (by omega)).mp hc72
                  have hl := lv_sub hl [0, 1, 2, 3, 4, 5, 6] (show _ = [(6, .int (nI q9)), (5, .int sm), (4, .int (nI i)), (3, .int (nI pn44)), (2, .int (nI (pa44 + 2))), (0, .ref mo), (1, .int x)] from rfl)
                  exact ex0 q9 sm _ _ _  hP hD hS hl
                · skip
                  have n74 : q9 < pn44 := Nat.not_le.mp (fun h7 => hc72 ((nI_leI (a := pn44) (b := q9) (by omega) (by omega)).mpr h7))
                  refine lv_iload hx hb d_Md_recordOf_64 (lv_at hl 1 rfl) ?_
                  refine lv_if_eq (tgt := 107) hx hb d_Md_recordOf_66 (by decide) (fun hc75 => ?_) (fun hc75 => ?_)
                  · skip
                    have hl := lv_sub hl [0, 1, 2, 3, 4, 5, 6] (show _ = [(6, .int (nI q9)), (5, .int sm), (4, .int (nI i)), (3, .int (nI pn44)), (2, .int (nI (pa44 + 2))), (0, .ref mo), (1, .int x)] from rfl)
                    exact ex0 q9 sm _ _ _  hP hD hS hl
                  · skip
                    refine lv_aload_n hx hb d_Md_recordOf_69 rfl (lv_at hl 5 rfl) ?_
                    refine va_get (D := (dC, dI)) (ci := 12) (v := (.ref (r 36))) (C := R_Md) (T := F_Md) (N := 45) hx hb hg in_Md hown hK hP 3 rfl rfl 36 (by decide) (hg _ k_1056) (fun _ h9 => h9) rfl d_Md_recordOf_70 ?_
                    refine lv_bipush (v := 16) hx hb d_Md_recordOf_73 (by decide) ?_
                    refine lv_iload hx hb d_Md_recordOf_75 (lv_at hl 2 rfl) ?_
                    refine lv_imul hx hb d_Md_recordOf_77 ?_
                    refine lv_topi (fun x77 e76 => ?_)
                    obtain rfl : x77 = nI (16 * i) := by rw [e76]; exact pk_mul 16 i
                    refine lv_iload hx hb d_Md_recordOf_78 (lv_at hl 0 rfl) ?_
                    refine lv_iadd hx hb d_Md_recordOf_80 ?_
                    refine lv_topi (fun x79 e78 => ?_)
                    obtain rfl : x79 = nI ((16 * i) + q9) := by rw [e78]; exact nI_add (16 * i) q9
                    refine va_iald hx hb hK hP 2 0 rfl rfl (i := (nI ((16 * i) + q9))) (vp_in_nI (N := 800) (by omega) (by decide)) d_Md_recordOf_81 ?_
                    refine lv_topi (fun x80 e_x80 => ?_)
                    clear e_x80
                    refine lv_aload_n hx hb d_Md_recordOf_82 rfl (lv_at hl 5 rfl) ?_
                    refine va_get (D := (dC, dI)) (ci := 12) (v := (.ref (r 7))) (C := R_Md) (T := F_Md) (N := 45) hx hb hg in_Md hown hK hP 3 rfl rfl 7 (by decide) (hg _ k_1027) (fun _ h9 => h9) rfl d_Md_recordOf_83 ?_
                    refine lv_iload_n hx hb d_Md_recordOf_86 rfl (lv_at hl 4 rfl) ?_
                    refine lv_iload hx hb d_Md_recordOf_87 (lv_at hl 0 rfl) ?_
                    refine lv_iadd hx hb d_Md_recordOf_89 ?_
                    refine lv_topi (fun x82 e81 => ?_)
                    obtain rfl : x82 = nI (pa44 + 2 + q9) := by rw [e81]; exact nI_add (pa44 + 2) q9
                    refine va_iald hx hb hK hP 4 0 rfl rfl (i := (nI (pa44 + 2 + q9))) (vp_in_nI (N := 1000) (by omega) (by decide)) d_Md_recordOf_90 ?_
                    refine lv_topi (fun x83 e_x83 => ?_)
                    clear e_x83
                    refine lv_icmp_ne (tgt := 98) hx hb d_Md_recordOf_91 (by decide) (fun hc84 => ?_) (fun hc84 => ?_)
                    · skip
                      refine lv_iconst (v := 0) hx hb d_Md_recordOf_98 (by decide) ?_
                      refine lv_istore (lv' := [(5, .int 0), (6, .int (nI q9)), (4, .int (nI i)), (3, .int (nI pn44)), (2, .int (nI (pa44 + 2))), (0, .ref mo), (1, .int x)]) hx hb d_Md_recordOf_99 hl (by decide) rfl (fun ls hl => ?_)
                      refine lv_iinc (k := 1) (v := nI (q9 + 1)) (lv' := [(6, .int (nI (q9 + 1))), (5, .int 0), (4, .int (nI i)), (3, .int (nI pn44)), (2, .int (nI (pa44 + 2))), (0, .ref mo), (1, .int x)]) hx hb d_Md_recordOf_101 hl rfl (nI_1 q9) (by decide) rfl (fun ls hl => ?_)
                      refine lv_goto (tgt := 58) hx hb d_Md_recordOf_104 (by decide) ?_
                      have hl := lv_sub hl [0, 1, 2, 3, 4, 5, 6] (show _ = [(6, .int (nI (q9 + 1))), (5, .int 0), (4, .int (nI i)), (3, .int (nI pn44)), (2, .int (nI (pa44 + 2))), (0, .ref mo), (1, .int x)] from rfl)
                      exfalso; omega
                    · skip
                      refine lv_iconst (v := 1) hx hb d_Md_recordOf_94 (by decide) ?_
                      refine lv_goto (tgt := 99) hx hb d_Md_recordOf_95 (by decide) ?_
                      refine lv_istore (lv' := [(5, .int 1), (6, .int (nI q9)), (4, .int (nI i)), (3, .int (nI pn44)), (2, .int (nI (pa44 + 2))), (0, .ref mo), (1, .int x)]) hx hb d_Md_recordOf_99 hl (by decide) rfl (fun ls hl => ?_)
                      refine lv_iinc (k := 1) (v := nI (q9 + 1)) (lv' := [(6, .int (nI (q9 + 1))), (5, .int 1), (4, .int (nI i)), (3, .int (nI pn44)), (2, .int (nI (pa44 + 2))), (0, .ref mo), (1, .int x)]) hx hb d_Md_recordOf_101 hl rfl (nI_1 q9) (by decide) rfl (fun ls hl => ?_)
                      refine lv_goto (tgt := 58) hx hb d_Md_recordOf_104 (by decide) ?_
                      have hl := lv_sub hl [0, 1, 2, 3, 4, 5, 6] (show _ = [(6, .int (nI (q9 + 1))), (5, .int 1), (4, .int (nI i)), (3, .int (nI pn44)), (2, .int (nI (pa44 + 2))), (0, .ref mo), (1, .int x)] from rfl)
                      exfalso; omega
              | succ jj71 ih => 
                intro q9 sm H locs ls hm9 hq9 hP hD hS hl
                refine lv_iload hx hb d_Md_recordOf_58 (lv_at hl 0 rfl) ?_
                refine lv_iload_n hx hb d_Md_recordOf_60 rfl (lv_at hl 3 rfl) ?_
                refine lv_icmp_ge (tgt := 107) hx hb d_Md_recordOf_61 (by decide) (fun hc85 => ?_) (fun hc85 => ?_)
                · skip
                  have n86 : pn44 ≤ q9 := (nI_leI (a := pn44) (b := q9) (by omega) (by omega)).mp hc85
                  have hl := lv_sub hl [0, 1, 2, 3, 4, 5, 6] (show _ = [(6, .int (nI q9)), (5, .int sm), (4, .int (nI i)), (3, .int (nI pn44)), (2, .int (nI (pa44 + 2))), (0, .ref mo), (1, .int x)] from rfl)
                  exact ex0 q9 sm _ _ _  hP hD hS hl
                · skip
                  have n87 : q9 < pn44 := Nat.not_le.mp (fun h7 => hc85 ((nI_leI (a := pn44) (b := q9) (by omega) (by omega)).mpr h7))
                  refine lv_iload hx hb d_Md_recordOf_64 (lv_at hl 1 rfl) ?_
                  refine lv_if_eq (tgt := 107) hx hb d_Md_recordOf_66 (by decide) (fun hc88 => ?_) (fun hc88 => ?_)
                  · skip
                    have hl := lv_sub hl [0, 1, 2, 3, 4, 5, 6] (show _ = [(6, .int (nI q9)), (5, .int sm), (4, .int (nI i)), (3, .int (nI pn44)), (2, .int (nI (pa44 + 2))), (0, .ref mo), (1, .int x)] from rfl)
                    exact ex0 q9 sm _ _ _  hP hD hS hl
                  · skip
                    refine lv_aload_n hx hb d_Md_recordOf_69 rfl (lv_at hl 5 rfl) ?_
                    refine va_get (D := (dC, dI)) (ci := 12) (v := (.ref (r 36))) (C := R_Md) (T := F_Md) (N := 45) hx hb hg in_Md hown hK hP 3 rfl rfl 36 (by decide) (hg _ k_1056) (fun _ h9 => h9) rfl d_Md_recordOf_70 ?_
                    refine lv_bipush (v := 16) hx hb d_Md_recordOf_73 (by decide) ?_
                    refine lv_iload hx hb d_Md_recordOf_75 (lv_at hl 2 rfl) ?_
                    refine lv_imul hx hb d_Md_recordOf_77 ?_
                    refine lv_topi (fun x90 e89 => ?_)
                    obtain rfl : x90 = nI (16 * i) := by rw [e89]; exact pk_mul 16 i
                    refine lv_iload hx hb d_Md_recordOf_78 (lv_at hl 0 rfl) ?_
                    refine lv_iadd hx hb d_Md_recordOf_80 ?_
                    refine lv_topi (fun x92 e91 => ?_)
                    obtain rfl : x92 = nI ((16 * i) + q9) := by rw [e91]; exact nI_add (16 * i) q9
                    refine va_iald hx hb hK hP 2 0 rfl rfl (i := (nI ((16 * i) + q9))) (vp_in_nI (N := 800) (by omega) (by decide)) d_Md_recordOf_81 ?_
                    refine lv_topi (fun x93 e_x93 => ?_)
                    clear e_x93
                    refine lv_aload_n hx hb d_Md_recordOf_82 rfl (lv_at hl 5 rfl) ?_
                    refine va_get (D := (dC, dI)) (ci := 12) (v := (.ref (r 7))) (C := R_Md) (T := F_Md) (N := 45) hx hb hg in_Md hown hK hP 3 rfl rfl 7 (by decide) (hg _ k_1027) (fun _ h9 => h9) rfl d_Md_recordOf_83 ?_
                    refine lv_iload_n hx hb d_Md_recordOf_86 rfl (lv_at hl 4 rfl) ?_
                    refine lv_iload hx hb d_Md_recordOf_87 (lv_at hl 0 rfl) ?_
                    refine lv_iadd hx hb d_Md_recordOf_89 ?_
                    refine lv_topi (fun x95 e94 => ?_)
                    obtain rfl : x95 = nI (pa44 + 2 + q9) := by rw [e94]; exact nI_add (pa44 + 2) q9
                    refine va_iald hx hb hK hP 4 0 rfl rfl (i := (nI (pa44 + 2 + q9))) (vp_in_nI (N := 1000) (by omega) (by decide)) d_Md_recordOf_90 ?_
                    refine lv_topi (fun x96 e_x96 => ?_)
                    clear e_x96
                    refine lv_icmp_ne (tgt := 98) hx hb d_Md_recordOf_91 (by decide) (fun hc97 => ?_) (fun hc97 => ?_)
                    · skip
                      refine lv_iconst (v := 0) hx hb d_Md_recordOf_98 (by decide) ?_
                      refine lv_istore (lv' := [(5, .int 0), (6, .int (nI q9)), (4, .int (nI i)), (3, .int (nI pn44)), (2, .int (nI (pa44 + 2))), (0, .ref mo), (1, .int x)]) hx hb d_Md_recordOf_99 hl (by decide) rfl (fun ls hl => ?_)
                      refine lv_iinc (k := 1) (v := nI (q9 + 1)) (lv' := [(6, .int (nI (q9 + 1))), (5, .int 0), (4, .int (nI i)), (3, .int (nI pn44)), (2, .int (nI (pa44 + 2))), (0, .ref mo), (1, .int x)]) hx hb d_Md_recordOf_101 hl rfl (nI_1 q9) (by decide) rfl (fun ls hl => ?_)
                      refine lv_goto (tgt := 58) hx hb d_Md_recordOf_104 (by decide) ?_
                      have hl := lv_sub hl [0, 1, 2, 3, 4, 5, 6] (show _ = [(6, .int (nI (q9 + 1))), (5, .int 0), (4, .int (nI i)), (3, .int (nI pn44)), (2, .int (nI (pa44 + 2))), (0, .ref mo), (1, .int x)] from rfl)
                      exact ih (q9 + 1) 0 _ _ _ (by omega) (by omega) hP hD hS hl
                    · skip
                      refine lv_iconst (v := 1) hx hb d_Md_recordOf_94 (by decide) ?_
                      refine lv_goto (tgt := 99) hx hb d_Md_recordOf_95 (by decide) ?_
                      refine lv_istore (lv' := [(5, .int 1), (6, .int (nI q9)), (4, .int (nI i)), (3, .int (nI pn44)), (2, .int (nI (pa44 + 2))), (0, .ref mo), (1, .int x)]) hx hb d_Md_recordOf_99 hl (by decide) rfl (fun ls hl => ?_)
                      refine lv_iinc (k := 1) (v := nI (q9 + 1)) (lv' := [(6, .int (nI (q9 + 1))), (5, .int 1), (4, .int (nI i)), (3, .int (nI pn44)), (2, .int (nI (pa44 + 2))), (0, .ref mo), (1, .int x)]) hx hb d_Md_recordOf_101 hl rfl (nI_1 q9) (by decide) rfl (fun ls hl => ?_)
                      refine lv_goto (tgt := 58) hx hb d_Md_recordOf_104 (by decide) ?_
                      have hl := lv_sub hl [0, 1, 2, 3, 4, 5, 6] (show _ = [(6, .int (nI (q9 + 1))), (5, .int 1), (4, .int (nI i)), (3, .int (nI pn44)), (2, .int (nI (pa44 + 2))), (0, .ref mo), (1, .int x)] from rfl)
                      exact ih (q9 + 1) 1 _ _ _ (by omega) (by omega) hP hD hS hl
            refine L70 _ (fun q9 sm H locs ls  hP hD hS hl => ?_) (pn44 - 0) 0 1 H _ ls (Nat.le_refl _) (by omega) hP hD hS hl
            · skip
              refine lv_iload hx hb d_Md_recordOf_107 (lv_at hl 1 rfl) ?_
              refine lv_if_eq (tgt := 115) hx hb d_Md_recordOf_109 (by decide) (fun hc98 => ?_) (fun hc98 => ?_)
              · skip
                refine lv_iinc (k := 2) (v := nI (i + 1)) (lv' := [(4, .int (nI (i + 1))), (6, .int (nI q9)), (5, .int sm), (3, .int (nI pn44)), (2, .int (nI (pa44 + 2))), (0, .ref mo), (1, .int x)]) hx hb d_Md_recordOf_115 hl rfl (nI_1 i) (by decide) rfl (fun ls hl => ?_)
                refine lv_goto (tgt := 17) hx hb d_Md_recordOf_118 (by decide) ?_
                have hl := lv_sub hl [0, 3, 4, 5, 6] (show _ = [(4, .int (nI (i + 1))), (3, .int (nI pn44)), (2, .int (nI (pa44 + 2))), (0, .ref mo), (1, .int x)] from rfl)
                exfalso; omega
              · skip
                refine lv_iload hx hb d_Md_recordOf_112 (lv_at hl 2 rfl) ?_
                have hl := lv_sub hl [5] (show _ = [(0, .ref mo)] from rfl)
                exact ex1 i _ _ _ (by omega) hP hD hS hl
    | succ jj4 ih => 
      intro i H locs ls hm9 hi hP hD hS hl
      refine lv_iload hx hb d_Md_recordOf_17 (lv_at hl 0 rfl) ?_
      refine lv_aload_n hx hb d_Md_recordOf_19 rfl (lv_at hl 3 rfl) ?_
      refine va_get (D := (dC, dI)) (ci := 12) (v := (.int (nI nr))) (C := R_Md) (T := F_Md) (N := 45) hx hb hg in_Md hown hK hP 3 rfl rfl 33 (by decide) (hg _ k_1053) (fun _ h9 => h9) rfl d_Md_recordOf_20 ?_
      refine lv_icmp_ge (tgt := 121) hx hb d_Md_recordOf_23 (by decide) (fun hc99 => ?_) (fun hc99 => ?_)
      · skip
        have n100 : nr ≤ i := (nI_leI (a := nr) (b := i) (by omega) (by omega)).mp hc99
        have hl := lv_sub hl [3] (show _ = [(0, .ref mo)] from rfl)
        exact ex0 i _ _ _  hP hD hS hl
      · skip
        have n101 : i < nr := Nat.not_le.mp (fun h7 => hc99 ((nI_leI (a := nr) (b := i) (by omega) (by omega)).mpr h7))
        refine lv_aload_n hx hb d_Md_recordOf_26 rfl (lv_at hl 3 rfl) ?_
        refine va_get (D := (dC, dI)) (ci := 12) (v := (.ref (r 34))) (C := R_Md) (T := F_Md) (N := 45) hx hb hg in_Md hown hK hP 3 rfl rfl 34 (by decide) (hg _ k_1054) (fun _ h9 => h9) rfl d_Md_recordOf_27 ?_
        refine lv_iload hx hb d_Md_recordOf_30 (lv_at hl 0 rfl) ?_
        refine va_iald hx hb hK hP 0 0 rfl rfl (i := (nI i)) (vp_in_nI (N := 50) (by omega) (by decide)) d_Md_recordOf_32 ?_
        refine lv_topi (fun x102 e_x102 => ?_)
        clear e_x102
        refine lv_iload_n hx hb d_Md_recordOf_33 rfl (lv_at hl 4 rfl) ?_
        refine lv_icmp_ne (tgt := 52) hx hb d_Md_recordOf_34 (by decide) (fun hc103 => ?_) (fun hc103 => ?_)
        · skip
          refine lv_iconst (v := 0) hx hb d_Md_recordOf_52 (by decide) ?_
          refine lv_istore (lv' := [(5, .int 0), (4, .int (nI i)), (3, .int (nI pn44)), (2, .int (nI (pa44 + 2))), (0, .ref mo), (1, .int x)]) hx hb d_Md_recordOf_53 hl (by decide) rfl (fun ls hl => ?_)
          refine lv_iconst (v := 0) hx hb d_Md_recordOf_55 (by decide) ?_
          refine lv_istore (lv' := [(6, .int 0), (5, .int 0), (4, .int (nI i)), (3, .int (nI pn44)), (2, .int (nI (pa44 + 2))), (0, .ref mo), (1, .int x)]) hx hb d_Md_recordOf_56 hl (by decide) rfl (fun ls hl => ?_)
          have hl := lv_sub hl [0, 1, 2, 3, 4, 5, 6] (show _ = [(6, .int 0), (5, .int 0), (4, .int (nI i)), (3, .int (nI pn44)), (2, .int (nI (pa44 + 2))), (0, .ref mo), (1, .int x)] from rfl)
          have L104 : ∀ (Q : State → Prop) (ex0 : ∀ (q9 : Nat) (sm : Int32) (H : Heap) (locs : List Loc) (ls : Array Slot), va_P (dC, dI) vcl [(r 34, .inl ((cT 0), 50, .inl f34)), (r 35, .inl ((cT 0), 50, .inl f35)), (r 36, .inl ((cT 0), 800, .inl f36)), (mo, .inr (12, mdG r cd tm (nI sn) (nI tx) (nI lz) (nI az) (nI na) (nI nt) (nI nr) mw ml mk dq)), (r 7, .inl ((cT 0), 1000, .inl f7))] H → va_D A [(r 34, .inl ((cT 0), 50, .inl f34)), (r 35, .inl ((cT 0), 50, .inl f35)), (r 36, .inl ((cT 0), 800, .inl f36)), (mo, .inr (12, mdG r cd tm (nI sn) (nI tx) (nI lz) (nI az) (nI na) (nI nt) (nI nr) mw ml mk dq)), (r 7, .inl ((cT 0), 1000, .inl f7))] → va_S A s.heap H locs → lv_has ls 7 [(6, .int (nI q9)), (5, .int sm), (4, .int (nI i)), (3, .int (nI pn44)), (2, .int (nI (pa44 + 2))), (0, .ref mo), (1, .int x)] → W p l e ({ frames := 3, cells := 0, slots := 0, locals := 72 } : Room) s m args below meth c H locs 0 0 Q (F0 m 107 ls [])) (jj105 : Nat) (q9 : Nat) (sm : Int32) (H : Heap) (locs : List Loc) (ls : Array Slot), pn44 - q9 ≤ jj105 → (q9 ≤ pn44) → va_P (dC, dI) vcl [(r 34, .inl ((cT 0), 50, .inl f34)), (r 35, .inl ((cT 0), 50, .inl f35)), (r 36, .inl ((cT 0), 800, .inl f36)), (mo, .inr (12, mdG r cd tm (nI sn) (nI tx) (nI lz) (nI az) (nI na) (nI nt) (nI nr) mw ml mk dq)), (r 7, .inl ((cT 0), 1000, .inl f7))] H → va_D A [(r 34, .inl ((cT 0), 50, .inl f34)), (r 35, .inl ((cT 0), 50, .inl f35)), (r 36, .inl ((cT 0), 800, .inl f36)), (mo, .inr (12, mdG r cd tm (nI sn) (nI tx) (nI lz) (nI az) (nI na) (nI nt) (nI nr) mw ml mk dq)), (r 7, .inl ((cT 0), 1000, .inl f7))] → va_S A s.heap H locs → lv_has ls 7 [(6, .int (nI q9)), (5, .int sm), (4, .int (nI i)), (3, .int (nI pn44)), (2, .int (nI (pa44 + 2))), (0, .ref mo), (1, .int x)] → W p l e ({ frames := 3, cells := 0, slots := 0, locals := 72 } : Room) s m args below meth c H locs 0 0 Q (F0 m 58 ls []) := by
            intro Q ex0 jj105
            induction jj105 with
            | zero => 
              intro q9 sm H locs ls hm9 hq9 hP hD hS hl
              refine lv_iload hx hb d_Md_recordOf_58 (lv_at hl 0 rfl) ?_
              refine lv_iload_n hx hb d_Md_recordOf_60 rfl (lv_at hl 3 rfl) ?_
              refine lv_icmp_ge (tgt := 107) hx hb d_Md_recordOf_61 (by decide) (fun hc106 => ?_) (fun hc106 => ?_)
              · skip
                have n107 : pn44 ≤ q9 := (nI_leI (a := pn44) (b := q9) (by omega) (by omega)).mp hc106
                have hl := lv_sub hl [0, 1, 2, 3, 4, 5, 6] (show _ = [(6, .int (nI q9)), (5, .int sm), (4, .int (nI i)), (3, .int (nI pn44)), (2, .int (nI (pa44 + 2))), (0, .ref mo), (1, .int x)] from rfl)
                exact ex0 q9 sm _ _ _  hP hD hS hl
              · skip
                have n108 : q9 < pn44 := Nat.not_le.mp (fun h7 => hc106 ((nI_leI (a := pn44) (b := q9) (by omega) (by omega)).mpr h7))
                refine lv_iload hx hb d_Md_recordOf_64 (lv_at hl 1 rfl) ?_
                refine lv_if_eq (tgt := 107) hx hb d_Md_recordOf_66 (by decide) (fun hc109 => ?_) (fun hc109 => ?_)
                · skip
                  have hl := lv_sub hl [0, 1, 2, 3, 4, 5, 6] (show _ = [(6, .int (nI q9)), (5, .int sm), (4, .int (nI i)), (3, .int (nI pn44)), (2, .int (nI (pa44 + 2))), (0, .ref mo), (1, .int x)] from rfl)
                  exact ex0 q9 sm _ _ _  hP hD hS hl
                · skip
                  refine lv_aload_n hx hb d_Md_recordOf_69 rfl (lv_at hl 5 rfl) ?_
                  refine va_get (D := (dC, dI)) (ci := 12) (v := (.ref (r 36))) (C := R_Md) (T := F_Md) (N := 45) hx hb hg in_Md hown hK hP 3 rfl rfl 36 (by decide) (hg _ k_1056) (fun _ h9 => h9) rfl d_Md_recordOf_70 ?_
                  refine lv_bipush (v := 16) hx hb d_Md_recordOf_73 (by decide) ?_
                  refine lv_iload hx hb d_Md_recordOf_75 (lv_at hl 2 rfl) ?_
                  refine lv_imul hx hb d_Md_recordOf_77 ?_
                  refine lv_topi (fun x111 e110 => ?_)
                  obtain rfl : x111 = nI (16 * i) := by rw [e110]; exact pk_mul 16 i
                  refine lv_iload hx hb d_Md_recordOf_78 (lv_at hl 0 rfl) ?_
                  refine lv_iadd hx hb d_Md_recordOf_80 ?_
                  refine lv_topi (fun x113 e112 => ?_)
                  obtain rfl : x113 = nI ((16 * i) + q9) := by rw [e112]; exact nI_add (16 * i) q9
                  refine va_iald hx hb hK hP 2 0 rfl rfl (i := (nI ((16 * i) + q9))) (vp_in_nI (N := 800) (by omega) (by decide)) d_Md_recordOf_81 ?_
                  refine lv_topi (fun x114 e_x114 => ?_)
                  clear e_x114
                  refine lv_aload_n hx hb d_Md_recordOf_82 rfl (lv_at hl 5 rfl) ?_
                  refine va_get (D := (dC, dI)) (ci := 12) (v := (.ref (r 7))) (C := R_Md) (T := F_Md) (N := 45) hx hb hg in_Md hown hK hP 3 rfl rfl 7 (by decide) (hg _ k_1027) (fun _ h9 => h9) rfl d_Md_recordOf_83 ?_
                  refine lv_iload_n hx hb d_Md_recordOf_86 rfl (lv_at hl 4 rfl) ?_
                  refine lv_iload hx hb d_Md_recordOf_87 (lv_at hl 0 rfl) ?_
                  refine lv_iadd hx hb d_Md_recordOf_89 ?_
                  refine lv_topi (fun x116 e115 => ?_)
                  obtain rfl : x116 = nI (pa44 + 2 + q9) := by rw [e115]; exact nI_add (pa44 + 2) q9
                  refine va_iald hx hb hK hP 4 0 rfl rfl (i := (nI (pa44 + 2 + q9))) (vp_in_nI (N := 1000) (by omega) (by decide)) d_Md_recordOf_90 ?_
                  refine lv_topi (fun x117 e_x117 => ?_)
                  clear e_x117
                  refine lv_icmp_ne (tgt := 98) hx hb d_Md_recordOf_91 (by decide) (fun hc118 => ?_) (fun hc118 => ?_)
                  · skip
                    refine lv_iconst (v := 0) hx hb d_Md_recordOf_98 (by decide) ?_
                    refine lv_istore (lv' := [(5, .int 0), (6, .int (nI q9)), (4, .int (nI i)), (3, .int (nI pn44)), (2, .int (nI (pa44 + 2))), (0, .ref mo), (1, .int x)]) hx hb d_Md_recordOf_99 hl (by decide) rfl (fun ls hl => ?_)
                    refine lv_iinc (k := 1) (v := nI (q9 + 1)) (lv' := [(6, .int (nI (q9 + 1))), (5, .int 0), (4, .int (nI i)), (3, .int (nI pn44)), (2, .int (nI (pa44 + 2))), (0, .ref mo), (1, .int x)]) hx hb d_Md_recordOf_101 hl rfl (nI_1 q9) (by decide) rfl (fun ls hl => ?_)
                    refine lv_goto (tgt := 58) hx hb d_Md_recordOf_104 (by decide) ?_
                    have hl := lv_sub hl [0, 1, 2, 3, 4, 5, 6] (show _ = [(6, .int (nI (q9 + 1))), (5, .int 0), (4, .int (nI i)), (3, .int (nI pn44)), (2, .int (nI (pa44 + 2))), (0, .ref mo), (1, .int x)] from rfl)
                    exfalso; omega
                  · skip
                    refine lv_iconst (v := 1) hx hb d_Md_recordOf_94 (by decide) ?_
                    refine lv_goto (tgt := 99) hx hb d_Md_recordOf_95 (by decide) ?_
                    refine lv_istore (lv' := [(5, .int 1), (6, .int (nI q9)), (4, .int (nI i)), (3, .int (nI pn44)), (2, .int (nI (pa44 + 2))), (0, .ref mo), (1, .int x)]) hx hb d_Md_recordOf_99 hl (by decide) rfl (fun ls hl => ?_)
                    refine lv_iinc (k := 1) (v := nI (q9 + 1)) (lv' := [(6, .int (nI (q9 + 1))), (5, .int 1), (4, .int (nI i)), (3, .int (nI pn44)), (2, .int (nI (pa44 + 2))), (0, .ref mo), (1, .int x)]) hx hb d_Md_recordOf_101 hl rfl (nI_1 q9) (by decide) rfl (fun ls hl => ?_)
                    refine lv_goto (tgt := 58) hx hb d_Md_recordOf_104 (by decide) ?_
                    have hl := lv_sub hl [0, 1, 2, 3, 4, 5, 6] (show _ = [(6, .int (nI (q9 + 1))), (5, .int 1), (4, .int (nI i)), (3, .int (nI pn44)), (2, .int (nI (pa44 + 2))), (0, .ref mo), (1, .int x)] from rfl)
                    exfalso; omega
            | succ jj105 ih => 
              intro q9 sm H locs ls hm9 hq9 hP hD hS hl
              refine lv_iload hx hb d_Md_recordOf_58 (lv_at hl 0 rfl) ?_
              refine lv_iload_n hx hb d_Md_recordOf_60 rfl (lv_at hl 3 rfl) ?_
              refine lv_icmp_ge (tgt := 107) hx hb d_Md_recordOf_61 (by decide) (fun hc119 => ?_) (fun hc119 => ?_)
              · skip
                have n120 : pn44 ≤ q9 := (nI_leI (a := pn44) (b := q9) (by omega) (by omega)).mp hc119
                have hl := lv_sub hl [0, 1, 2, 3, 4, 5, 6] (show _ = [(6, .int (nI q9)), (5, .int sm), (4, .int (nI i)), (3, .int (nI pn44)), (2, .int (nI (pa44 + 2))), (0, .ref mo), (1, .int x)] from rfl)
                exact ex0 q9 sm _ _ _  hP hD hS hl
              · skip
                have n121 : q9 < pn44 := Nat.not_le.mp (fun h7 => hc119 ((nI_leI (a := pn44) (b := q9) (by omega) (by omega)).mpr h7))
                refine lv_iload hx hb d_Md_recordOf_64 (lv_at hl 1 rfl) ?_
                refine lv_if_eq (tgt := 107) hx hb d_Md_recordOf_66 (by decide) (fun hc122 => ?_) (fun hc122 => ?_)
                · skip
                  have hl := lv_sub hl [0, 1, 2, 3, 4, 5, 6] (show _ = [(6, .int (nI q9)), (5, .int sm), (4, .int (nI i)), (3, .int (nI pn44)), (2, .int (nI (pa44 + 2))), (0, .ref mo), (1, .int x)] from rfl)
                  exact ex0 q9 sm _ _ _  hP hD hS hl
                · skip
                  refine lv_aload_n hx hb d_Md_recordOf_69 rfl (lv_at hl 5 rfl) ?_
                  refine va_get (D := (dC, dI)) (ci := 12) (v := (.ref (r 36))) (C := R_Md) (T := F_Md) (N := 45) hx hb hg in_Md hown hK hP 3 rfl rfl 36 (by decide) (hg _ k_1056) (fun _ h9 => h9) rfl d_Md_recordOf_70 ?_
                  refine lv_bipush (v := 16) hx hb d_Md_recordOf_73 (by decide) ?_
                  refine lv_iload hx hb d_Md_recordOf_75 (lv_at hl 2 rfl) ?_
                  refine lv_imul hx hb d_Md_recordOf_77 ?_
                  refine lv_topi (fun x124 e123 => ?_)
                  obtain rfl : x124 = nI (16 * i) := by rw [e123]; exact pk_mul 16 i
                  refine lv_iload hx hb d_Md_recordOf_78 (lv_at hl 0 rfl) ?_
                  refine lv_iadd hx hb d_Md_recordOf_80 ?_
                  refine lv_topi (fun x126 e125 => ?_)
                  obtain rfl : x126 = nI ((16 * i) + q9) := by rw [e125]; exact nI_add (16 * i) q9
                  refine va_iald hx hb hK hP 2 0 rfl rfl (i := (nI ((16 * i) + q9))) (vp_in_nI (N := 800) (by omega) (by decide)) d_Md_recordOf_81 ?_
                  refine lv_topi (fun x127 e_x127 => ?_)
                  clear e_x127
                  refine lv_aload_n hx hb d_Md_recordOf_82 rfl (lv_at hl 5 rfl) ?_
                  refine va_get (D := (dC, dI)) (ci := 12) (v := (.ref (r 7))) (C := R_Md) (T := F_Md) (N := 45) hx hb hg in_Md hown hK hP 3 rfl rfl 7 (by decide) (hg _ k_1027) (fun _ h9 => h9) rfl d_Md_recordOf_83 ?_
                  refine lv_iload_n hx hb d_Md_recordOf_86 rfl (lv_at hl 4 rfl) ?_
                  refine lv_iload hx hb d_Md_recordOf_87 (lv_at hl 0 rfl) ?_
                  refine lv_iadd hx hb d_Md_recordOf_89 ?_
                  refine lv_topi (fun x129 e128 => ?_)
                  obtain rfl : x129 = nI (pa44 + 2 + q9) := by rw [e128]; exact nI_add (pa44 + 2) q9
                  refine va_iald hx hb hK hP 4 0 rfl rfl (i := (nI (pa44 + 2 + q9))) (vp_in_nI (N := 1000) (by omega) (by decide)) d_Md_recordOf_90 ?_
                  refine lv_topi (fun x130 e_x130 => ?_)
                  clear e_x130
                  refine lv_icmp_ne (tgt := 98) hx hb d_Md_recordOf_91 (by decide) (fun hc131 => ?_) (fun hc131 => ?_)
                  · skip
                    refine lv_iconst (v := 0) hx hb d_Md_recordOf_98 (by decide) ?_
                    refine lv_istore (lv' := [(5, .int 0), (6, .int (nI q9)), (4, .int (nI i)), (3, .int (nI pn44)), (2, .int (nI (pa44 + 2))), (0, .ref mo), (1, .int x)]) hx hb d_Md_recordOf_99 hl (by decide) rfl (fun ls hl => ?_)
                    refine lv_iinc (k := 1) (v := nI (q9 + 1)) (lv' := [(6, .int (nI (q9 + 1))), (5, .int 0), (4, .int (nI i)), (3, .int (nI pn44)), (2, .int (nI (pa44 + 2))), (0, .ref mo), (1, .int x)]) hx hb d_Md_recordOf_101 hl rfl (nI_1 q9) (by decide) rfl (fun ls hl => ?_)
                    refine lv_goto (tgt := 58) hx hb d_Md_recordOf_104 (by decide) ?_
                    have hl := lv_sub hl [0, 1, 2, 3, 4, 5, 6] (show _ = [(6, .int (nI (q9 + 1))), (5, .int 0), (4, .int (nI i)), (3, .int (nI pn44)), (2, .int (nI (pa44 + 2))), (0, .ref mo), (1, .int x)] from rfl)
                    exact ih (q9 + 1) 0 _ _ _ (by omega) (by omega) hP hD hS hl
                  · skip
                    refine lv_iconst (v := 1) hx hb d_Md_recordOf_94 (by decide) ?_
                    refine lv_goto (tgt := 99) hx hb d_Md_recordOf_95 (by decide) ?_
                    refine lv_istore (lv' := [(5, .int 1), (6, .int (nI q9)), (4, .int (nI i)), (3, .int (nI pn44)), (2, .int (nI (pa44 + 2))), (0, .ref mo), (1, .int x)]) hx hb d_Md_recordOf_99 hl (by decide) rfl (fun ls hl => ?_)
                    refine lv_iinc (k := 1) (v := nI (q9 + 1)) (lv' := [(6, .int (nI (q9 + 1))), (5, .int 1), (4, .int (nI i)), (3, .int (nI pn44)), (2, .int (nI (pa44 + 2))), (0, .ref mo), (1, .int x)]) hx hb d_Md_recordOf_101 hl rfl (nI_1 q9) (by decide) rfl (fun ls hl => ?_)
                    refine lv_goto (tgt := 58) hx hb d_Md_recordOf_104 (by decide) ?_
                    have hl := lv_sub hl [0, 1, 2, 3, 4, 5, 6] (show _ = [(6, .int (nI (q9 + 1))), (5, .int 1), (4, .int (nI i)), (3, .int (nI pn44)), (2, .int (nI (pa44 + 2))), (0, .ref mo), (1, .int x)] from rfl)
                    exact ih (q9 + 1) 1 _ _ _ (by omega) (by omega) hP hD hS hl
          refine L104 _ (fun q9 sm H locs ls  hP hD hS hl => ?_) (pn44 - 0) 0 0 H _ ls (Nat.le_refl _) (by omega) hP hD hS hl
          · skip
            refine lv_iload hx hb d_Md_recordOf_107 (lv_at hl 1 rfl) ?_
            refine lv_if_eq (tgt := 115) hx hb d_Md_recordOf_109 (by decide) (fun hc132 => ?_) (fun hc132 => ?_)
            · skip
              refine lv_iinc (k := 2) (v := nI (i + 1)) (lv' := [(4, .int (nI (i + 1))), (6, .int (nI q9)), (5, .int sm), (3, .int (nI pn44)), (2, .int (nI (pa44 + 2))), (0, .ref mo), (1, .int x)]) hx hb d_Md_recordOf_115 hl rfl (nI_1 i) (by decide) rfl (fun ls hl => ?_)
              refine lv_goto (tgt := 17) hx hb d_Md_recordOf_118 (by decide) ?_
              have hl := lv_sub hl [0, 3, 4, 5, 6] (show _ = [(4, .int (nI (i + 1))), (3, .int (nI pn44)), (2, .int (nI (pa44 + 2))), (0, .ref mo), (1, .int x)] from rfl)
              exact ih (i + 1) _ _ _ (by omega) (by omega) hP hD hS hl
            · skip
              refine lv_iload hx hb d_Md_recordOf_112 (lv_at hl 2 rfl) ?_
              have hl := lv_sub hl [5] (show _ = [(0, .ref mo)] from rfl)
              exact ex1 i _ _ _ (by omega) hP hD hS hl
        · skip
          refine lv_aload_n hx hb d_Md_recordOf_37 rfl (lv_at hl 3 rfl) ?_
          refine va_get (D := (dC, dI)) (ci := 12) (v := (.ref (r 35))) (C := R_Md) (T := F_Md) (N := 45) hx hb hg in_Md hown hK hP 3 rfl rfl 35 (by decide) (hg _ k_1055) (fun _ h9 => h9) rfl d_Md_recordOf_38 ?_
          refine lv_iload hx hb d_Md_recordOf_41 (lv_at hl 0 rfl) ?_
          refine va_iald hx hb hK hP 1 0 rfl rfl (i := (nI i)) (vp_in_nI (N := 50) (by omega) (by decide)) d_Md_recordOf_43 ?_
          refine lv_topi (fun x133 e_x133 => ?_)
          clear e_x133
          refine lv_iload_n hx hb d_Md_recordOf_44 rfl (lv_at hl 1 rfl) ?_
          refine lv_icmp_ne (tgt := 52) hx hb d_Md_recordOf_45 (by decide) (fun hc134 => ?_) (fun hc134 => ?_)
          · skip
            refine lv_iconst (v := 0) hx hb d_Md_recordOf_52 (by decide) ?_
            refine lv_istore (lv' := [(5, .int 0), (4, .int (nI i)), (3, .int (nI pn44)), (2, .int (nI (pa44 + 2))), (0, .ref mo), (1, .int x)]) hx hb d_Md_recordOf_53 hl (by decide) rfl (fun ls hl => ?_)
            refine lv_iconst (v := 0) hx hb d_Md_recordOf_55 (by decide) ?_
            refine lv_istore (lv' := [(6, .int 0), (5, .int 0), (4, .int (nI i)), (3, .int (nI pn44)), (2, .int (nI (pa44 + 2))), (0, .ref mo), (1, .int x)]) hx hb d_Md_recordOf_56 hl (by decide) rfl (fun ls hl => ?_)
            have hl := lv_sub hl [0, 1, 2, 3, 4, 5, 6] (show _ = [(6, .int 0), (5, .int 0), (4, .int (nI i)), (3, .int (nI pn44)), (2, .int (nI (pa44 + 2))), (0, .ref mo), (1, .int x)] from rfl)
            have L135 : ∀ (Q : State → Prop) (ex0 : ∀ (q9 : Nat) (sm : Int32) (H : Heap) (locs : List Loc) (ls : Array Slot), va_P (dC, dI) vcl [(r 34, .inl ((cT 0), 50, .inl f34)), (r 35, .inl ((cT 0), 50, .inl f35)), (r 36, .inl ((cT 0), 800, .inl f36)), (mo, .inr (12, mdG r cd tm (nI sn) (nI tx) (nI lz) (nI az) (nI na) (nI nt) (nI nr) mw ml mk dq)), (r 7, .inl ((cT 0), 1000, .inl f7))] H → va_D A [(r 34, .inl ((cT 0), 50, .inl f34)), (r 35, .inl ((cT 0), 50, .inl f35)), (r 36, .inl ((cT 0), 800, .inl f36)), (mo, .inr (12, mdG r cd tm (nI sn) (nI tx) (nI lz) (nI az) (nI na) (nI nt) (nI nr) mw ml mk dq)), (r 7, .inl ((cT 0), 1000, .inl f7))] → va_S A s.heap H locs → lv_has ls 7 [(6, .int (nI q9)), (5, .int sm), (4, .int (nI i)), (3, .int (nI pn44)), (2, .int (nI (pa44 + 2))), (0, .ref mo), (1, .int x)] → W p l e ({ frames := 3, cells := 0, slots := 0, locals := 72 } : Room) s m args below meth c H locs 0 0 Q (F0 m 107 ls [])) (jj136 : Nat) (q9 : Nat) (sm : Int32) (H : Heap) (locs : List Loc) (ls : Array Slot), pn44 - q9 ≤ jj136 → (q9 ≤ pn44) → va_P (dC, dI) vcl [(r 34, .inl ((cT 0), 50, .inl f34)), (r 35, .inl ((cT 0), 50, .inl f35)), (r 36, .inl ((cT 0), 800, .inl f36)), (mo, .inr (12, mdG r cd tm (nI sn) (nI tx) (nI lz) (nI az) (nI na) (nI nt) (nI nr) mw ml mk dq)), (r 7, .inl ((cT 0), 1000, .inl f7))] H → va_D A [(r 34, .inl ((cT 0), 50, .inl f34)), (r 35, .inl ((cT 0), 50, .inl f35)), (r 36, .inl ((cT 0), 800, .inl f36)), (mo, .inr (12, mdG r cd tm (nI sn) (nI tx) (nI lz) (nI az) (nI na) (nI nt) (nI nr) mw ml mk dq)), (r 7, .inl ((cT 0), 1000, .inl f7))] → va_S A s.heap H locs → lv_has ls 7 [(6, .int (nI q9)), (5, .int sm), (4, .int (nI i)), (3, .int (nI pn44)), (2, .int (nI (pa44 + 2))), (0, .ref mo), (1, .int x)] → W p l e ({ frames := 3, cells := 0, slots := 0, locals := 72 } : Room) s m args below meth c H locs 0 0 Q (F0 m 58 ls []) := by
              intro Q ex0 jj136
              induction jj136 with
              | zero => 
                intro q9 sm H locs ls hm9 hq9 hP hD hS hl
                refine lv_iload hx hb d_Md_recordOf_58 (lv_at hl 0 rfl) ?_
                refine lv_iload_n hx hb d_Md_recordOf_60 rfl (lv_at hl 3 rfl) ?_
                refine lv_icmp_ge (tgt := 107) hx hb d_Md_recordOf_61 (by decide) (fun hc137 => ?_) (fun hc137 => ?_)
                · skip
                  have n138 : pn44 ≤ q9 := (nI_leI (a := pn44) (b := q9) (by omega) (by omega)).mp hc137
                  have hl := lv_sub hl [0, 1, 2, 3, 4, 5, 6] (show _ = [(6, .int (nI q9)), (5, .int sm), (4, .int (nI i)), (3, .int (nI pn44)), (2, .int (nI (pa44 + 2))), (0, .ref mo), (1, .int x)] from rfl)
                  exact ex0 q9 sm _ _ _  hP hD hS hl
                · skip
                  have n139 : q9 < pn44 := Nat.not_le.mp (fun h7 => hc137 ((nI_leI (a := pn44) (b := q9) (by omega) (by omega)).mpr h7))
                  refine lv_iload hx hb d_Md_recordOf_64 (lv_at hl 1 rfl) ?_
                  refine lv_if_eq (tgt := 107) hx hb d_Md_recordOf_66 (by decide) (fun hc140 => ?_) (fun hc140 => ?_)
                  · skip
                    have hl := lv_sub hl [0, 1, 2, 3, 4, 5, 6] (show _ = [(6, .int (nI q9)), (5, .int sm), (4, .int (nI i)), (3, .int (nI pn44)), (2, .int (nI (pa44 + 2))), (0, .ref mo), (1, .int x)] from rfl)
                    exact ex0 q9 sm _ _ _  hP hD hS hl
                  · skip
                    refine lv_aload_n hx hb d_Md_recordOf_69 rfl (lv_at hl 5 rfl) ?_
                    refine va_get (D := (dC, dI)) (ci := 12) (v := (.ref (r 36))) (C := R_Md) (T := F_Md) (N := 45) hx hb hg in_Md hown hK hP 3 rfl rfl 36 (by decide) (hg _ k_1056) (fun _ h9 => h9) rfl d_Md_recordOf_70 ?_
                    refine lv_bipush (v := 16) hx hb d_Md_recordOf_73 (by decide) ?_
                    refine lv_iload hx hb d_Md_recordOf_75 (lv_at hl 2 rfl) ?_
                    refine lv_imul hx hb d_Md_recordOf_77 ?_
                    refine lv_topi (fun x142 e141 => ?_)
                    obtain rfl : x142 = nI (16 * i) := by rw [e141]; exact pk_mul 16 i
                    refine lv_iload hx hb d_Md_recordOf_78 (lv_at hl 0 rfl) ?_
                    refine lv_iadd hx hb d_Md_recordOf_80 ?_
                    refine lv_topi (fun x144 e143 => ?_)
                    obtain rfl : x144 = nI ((16 * i) + q9) := by rw [e143]; exact nI_add (16 * i) q9
                    refine va_iald hx hb hK hP 2 0 rfl rfl (i := (nI ((16 * i) + q9))) (vp_in_nI (N := 800) (by omega) (by decide)) d_Md_recordOf_81 ?_
                    refine lv_topi (fun x145 e_x145 => ?_)
                    clear e_x145
                    refine lv_aload_n hx hb d_Md_recordOf_82 rfl (lv_at hl 5 rfl) ?_
                    refine va_get (D := (dC, dI)) (ci := 12) (v := (.ref (r 7))) (C := R_Md) (T := F_Md) (N := 45) hx hb hg in_Md hown hK hP 3 rfl rfl 7 (by decide) (hg _ k_1027) (fun _ h9 => h9) rfl d_Md_recordOf_83 ?_
                    refine lv_iload_n hx hb d_Md_recordOf_86 rfl (lv_at hl 4 rfl) ?_
                    refine lv_iload hx hb d_Md_recordOf_87 (lv_at hl 0 rfl) ?_
                    refine lv_iadd hx hb d_Md_recordOf_89 ?_
                    refine lv_topi (fun x147 e146 => ?_)
                    obtain rfl : x147 = nI (pa44 + 2 + q9) := by rw [e146]; exact nI_add (pa44 + 2) q9
                    refine va_iald hx hb hK hP 4 0 rfl rfl (i := (nI (pa44 + 2 + q9))) (vp_in_nI (N := 1000) (by omega) (by decide)) d_Md_recordOf_90 ?_
                    refine lv_topi (fun x148 e_x148 => ?_)
                    clear e_x148
                    refine lv_icmp_ne (tgt := 98) hx hb d_Md_recordOf_91 (by decide) (fun hc149 => ?_) (fun hc149 => ?_)
                    · skip
                      refine lv_iconst (v := 0) hx hb d_Md_recordOf_98 (by decide) ?_
                      refine lv_istore (lv' := [(5, .int 0), (6, .int (nI q9)), (4, .int (nI i)), (3, .int (nI pn44)), (2, .int (nI (pa44 + 2))), (0, .ref mo), (1, .int x)]) hx hb d_Md_recordOf_99 hl (by decide) rfl (fun ls hl => ?_)
                      refine lv_iinc (k := 1) (v := nI (q9 + 1)) (lv' := [(6, .int (nI (q9 + 1))), (5, .int 0), (4, .int (nI i)), (3, .int (nI pn44)), (2, .int (nI (pa44 + 2))), (0, .ref mo), (1, .int x)]) hx hb d_Md_recordOf_101 hl rfl (nI_1 q9) (by decide) rfl (fun ls hl => ?_)
                      refine lv_goto (tgt := 58) hx hb d_Md_recordOf_104 (by decide) ?_
                      have hl := lv_sub hl [0, 1, 2, 3, 4, 5, 6] (show _ = [(6, .int (nI (q9 + 1))), (5, .int 0), (4, .int (nI i)), (3, .int (nI pn44)), (2, .int (nI (pa44 + 2))), (0, .ref mo), (1, .int x)] from rfl)
                      exfalso; omega
                    · skip
                      refine lv_iconst (v := 1) hx hb d_Md_recordOf_94 (by decide) ?_
                      refine lv_goto (tgt := 99) hx hb d_Md_recordOf_95 (by decide) ?_
                      refine lv_istore (lv' := [(5, .int 1), (6, .int (nI q9)), (4, .int (nI i)), (3, .int (nI pn44)), (2, .int (nI (pa44 + 2))), (0, .ref mo), (1, .int x)]) hx hb d_Md_recordOf_99 hl (by decide) rfl (fun ls hl => ?_)
                      refine lv_iinc (k := 1) (v := nI (q9 + 1)) (lv' := [(6, .int (nI (q9 + 1))), (5, .int 1), (4, .int (nI i)), (3, .int (nI pn44)), (2, .int (nI (pa44 + 2))), (0, .ref mo), (1, .int x)]) hx hb d_Md_recordOf_101 hl rfl (nI_1 q9) (by decide) rfl (fun ls hl => ?_)
                      refine lv_goto (tgt := 58) hx hb d_Md_recordOf_104 (by decide) ?_
                      have hl := lv_sub hl [0, 1, 2, 3, 4, 5, 6] (show _ = [(6, .int (nI (q9 + 1))), (5, .int 1), (4, .int (nI i)), (3, .int (nI pn44)), (2, .int (nI (pa44 + 2))), (0, .ref mo), (1, .int x)] from rfl)
                      exfalso; omega
              | succ jj136 ih => 
                intro q9 sm H locs ls hm9 hq9 hP hD hS hl
                refine lv_iload hx hb d_Md_recordOf_58 (lv_at hl 0 rfl) ?_
                refine lv_iload_n hx hb d_Md_recordOf_60 rfl (lv_at hl 3 rfl) ?_
                refine lv_icmp_ge (tgt := 107) hx hb d_Md_recordOf_61 (by decide) (fun hc150 => ?_) (fun hc150 => ?_)
                · skip
                  have n151 : pn44 ≤ q9 := (nI_leI (a := pn44) (b := q9) (by omega) (by omega)).mp hc150
                  have hl := lv_sub hl [0, 1, 2, 3, 4, 5, 6] (show _ = [(6, .int (nI q9)), (5, .int sm), (4, .int (nI i)), (3, .int (nI pn44)), (2, .int (nI (pa44 + 2))), (0, .ref mo), (1, .int x)] from rfl)
                  exact ex0 q9 sm _ _ _  hP hD hS hl
                · skip
                  have n152 : q9 < pn44 := Nat.not_le.mp (fun h7 => hc150 ((nI_leI (a := pn44) (b := q9) (by omega) (by omega)).mpr h7))
                  refine lv_iload hx hb d_Md_recordOf_64 (lv_at hl 1 rfl) ?_
                  refine lv_if_eq (tgt := 107) hx hb d_Md_recordOf_66 (by decide) (fun hc153 => ?_) (fun hc153 => ?_)
                  · skip
                    have hl := lv_sub hl [0, 1, 2, 3, 4, 5, 6] (show _ = [(6, .int (nI q9)), (5, .int sm), (4, .int (nI i)), (3, .int (nI pn44)), (2, .int (nI (pa44 + 2))), (0, .ref mo), (1, .int x)] from rfl)
                    exact ex0 q9 sm _ _ _  hP hD hS hl
                  · skip
                    refine lv_aload_n hx hb d_Md_recordOf_69 rfl (lv_at hl 5 rfl) ?_
                    refine va_get (D := (dC, dI)) (ci := 12) (v := (.ref (r 36))) (C := R_Md) (T := F_Md) (N := 45) hx hb hg in_Md hown hK hP 3 rfl rfl 36 (by decide) (hg _ k_1056) (fun _ h9 => h9) rfl d_Md_recordOf_70 ?_
                    refine lv_bipush (v := 16) hx hb d_Md_recordOf_73 (by decide) ?_
                    refine lv_iload hx hb d_Md_recordOf_75 (lv_at hl 2 rfl) ?_
                    refine lv_imul hx hb d_Md_recordOf_77 ?_
                    refine lv_topi (fun x155 e154 => ?_)
                    obtain rfl : x155 = nI (16 * i) := by rw [e154]; exact pk_mul 16 i
                    refine lv_iload hx hb d_Md_recordOf_78 (lv_at hl 0 rfl) ?_
                    refine lv_iadd hx hb d_Md_recordOf_80 ?_
                    refine lv_topi (fun x157 e156 => ?_)
                    obtain rfl : x157 = nI ((16 * i) + q9) := by rw [e156]; exact nI_add (16 * i) q9
                    refine va_iald hx hb hK hP 2 0 rfl rfl (i := (nI ((16 * i) + q9))) (vp_in_nI (N := 800) (by omega) (by decide)) d_Md_recordOf_81 ?_
                    refine lv_topi (fun x158 e_x158 => ?_)
                    clear e_x158
                    refine lv_aload_n hx hb d_Md_recordOf_82 rfl (lv_at hl 5 rfl) ?_
                    refine va_get (D := (dC, dI)) (ci := 12) (v := (.ref (r 7))) (C := R_Md) (T := F_Md) (N := 45) hx hb hg in_Md hown hK hP 3 rfl rfl 7 (by decide) (hg _ k_1027) (fun _ h9 => h9) rfl d_Md_recordOf_83 ?_
                    refine lv_iload_n hx hb d_Md_recordOf_86 rfl (lv_at hl 4 rfl) ?_
                    refine lv_iload hx hb d_Md_recordOf_87 (lv_at hl 0 rfl) ?_
                    refine lv_iadd hx hb d_Md_recordOf_89 ?_
                    refine lv_topi (fun x160 e159 => ?_)
                    obtain rfl : x160 = nI (pa44 + 2 + q9) := by rw [e159]; exact nI_add (pa44 + 2) q9
                    refine va_iald hx hb hK hP 4 0 rfl rfl (i := (nI (pa44 + 2 + q9))) (vp_in_nI (N := 1000) (by omega) (by decide)) d_Md_recordOf_90 ?_
                    refine lv_topi (fun x161 e_x161 => ?_)
                    clear e_x161
                    refine lv_icmp_ne (tgt := 98) hx hb d_Md_recordOf_91 (by decide) (fun hc162 => ?_) (fun hc162 => ?_)
                    · skip
                      refine lv_iconst (v := 0) hx hb d_Md_recordOf_98 (by decide) ?_
                      refine lv_istore (lv' := [(5, .int 0), (6, .int (nI q9)), (4, .int (nI i)), (3, .int (nI pn44)), (2, .int (nI (pa44 + 2))), (0, .ref mo), (1, .int x)]) hx hb d_Md_recordOf_99 hl (by decide) rfl (fun ls hl => ?_)
                      refine lv_iinc (k := 1) (v := nI (q9 + 1)) (lv' := [(6, .int (nI (q9 + 1))), (5, .int 0), (4, .int (nI i)), (3, .int (nI pn44)), (2, .int (nI (pa44 + 2))), (0, .ref mo), (1, .int x)]) hx hb d_Md_recordOf_101 hl rfl (nI_1 q9) (by decide) rfl (fun ls hl => ?_)
                      refine lv_goto (tgt := 58) hx hb d_Md_recordOf_104 (by decide) ?_
                      have hl := lv_sub hl [0, 1, 2, 3, 4, 5, 6] (show _ = [(6, .int (nI (q9 + 1))), (5, .int 0), (4, .int (nI i)), (3, .int (nI pn44)), (2, .int (nI (pa44 + 2))), (0, .ref mo), (1, .int x)] from rfl)
                      exact ih (q9 + 1) 0 _ _ _ (by omega) (by omega) hP hD hS hl
                    · skip
                      refine lv_iconst (v := 1) hx hb d_Md_recordOf_94 (by decide) ?_
                      refine lv_goto (tgt := 99) hx hb d_Md_recordOf_95 (by decide) ?_
                      refine lv_istore (lv' := [(5, .int 1), (6, .int (nI q9)), (4, .int (nI i)), (3, .int (nI pn44)), (2, .int (nI (pa44 + 2))), (0, .ref mo), (1, .int x)]) hx hb d_Md_recordOf_99 hl (by decide) rfl (fun ls hl => ?_)
                      refine lv_iinc (k := 1) (v := nI (q9 + 1)) (lv' := [(6, .int (nI (q9 + 1))), (5, .int 1), (4, .int (nI i)), (3, .int (nI pn44)), (2, .int (nI (pa44 + 2))), (0, .ref mo), (1, .int x)]) hx hb d_Md_recordOf_101 hl rfl (nI_1 q9) (by decide) rfl (fun ls hl => ?_)
                      refine lv_goto (tgt := 58) hx hb d_Md_recordOf_104 (by decide) ?_
                      have hl := lv_sub hl [0, 1, 2, 3, 4, 5, 6] (show _ = [(6, .int (nI (q9 + 1))), (5, .int 1), (4, .int (nI i)), (3, .int (nI pn44)), (2, .int (nI (pa44 + 2))), (0, .ref mo), (1, .int x)] from rfl)
                      exact ih (q9 + 1) 1 _ _ _ (by omega) (by omega) hP hD hS hl
            refine L135 _ (fun q9 sm H locs ls  hP hD hS hl => ?_) (pn44 - 0) 0 0 H _ ls (Nat.le_refl _) (by omega) hP hD hS hl
            · skip
              refine lv_iload hx hb d_Md_recordOf_107 (lv_at hl 1 rfl) ?_
              refine lv_if_eq (tgt := 115) hx hb d_Md_recordOf_109 (by decide) (fun hc163 => ?_) (fun hc163 => ?_)
              · skip
                refine lv_iinc (k := 2) (v := nI (i + 1)) (lv' := [(4, .int (nI (i + 1))), (6, .int (nI q9)), (5, .int sm), (3, .int (nI pn44)), (2, .int (nI (pa44 + 2))), (0, .ref mo), (1, .int x)]) hx hb d_Md_recordOf_115 hl rfl (nI_1 i) (by decide) rfl (fun ls hl => ?_)
                refine lv_goto (tgt := 17) hx hb d_Md_recordOf_118 (by decide) ?_
                have hl := lv_sub hl [0, 3, 4, 5, 6] (show _ = [(4, .int (nI (i + 1))), (3, .int (nI pn44)), (2, .int (nI (pa44 + 2))), (0, .ref mo), (1, .int x)] from rfl)
                exact ih (i + 1) _ _ _ (by omega) (by omega) hP hD hS hl
              · skip
                refine lv_iload hx hb d_Md_recordOf_112 (lv_at hl 2 rfl) ?_
                have hl := lv_sub hl [5] (show _ = [(0, .ref mo)] from rfl)
                exact ex1 i _ _ _ (by omega) hP hD hS hl
          · skip
            refine lv_iconst (v := 1) hx hb d_Md_recordOf_48 (by decide) ?_
            refine lv_goto (tgt := 53) hx hb d_Md_recordOf_49 (by decide) ?_
            refine lv_istore (lv' := [(5, .int 1), (4, .int (nI i)), (3, .int (nI pn44)), (2, .int (nI (pa44 + 2))), (0, .ref mo), (1, .int x)]) hx hb d_Md_recordOf_53 hl (by decide) rfl (fun ls hl => ?_)
            refine lv_iconst (v := 0) hx hb d_Md_recordOf_55 (by decide) ?_
            refine lv_istore (lv' := [(6, .int 0), (5, .int 1), (4, .int (nI i)), (3, .int (nI pn44)), (2, .int (nI (pa44 + 2))), (0, .ref mo), (1, .int x)]) hx hb d_Md_recordOf_56 hl (by decide) rfl (fun ls hl => ?_)
            have hl := lv_sub hl [0, 1, 2, 3, 4, 5, 6] (show _ = [(6, .int 0), (5, .int 1), (4, .int (nI i)), (3, .int (nI pn44)), (2, .int (nI (pa44 + 2))), (0, .ref mo), (1, .int x)] from rfl)
            have L164 : ∀ (Q : State → Prop) (ex0 : ∀ (q9 : Nat) (sm : Int32) (H : Heap) (locs : List Loc) (ls : Array Slot), va_P (dC, dI) vcl [(r 34, .inl ((cT 0), 50, .inl f34)), (r 35, .inl ((cT 0), 50, .inl f35)), (r 36, .inl ((cT 0), 800, .inl f36)), (mo, .inr (12, mdG r cd tm (nI sn) (nI tx) (nI lz) (nI az) (nI na) (nI nt) (nI nr) mw ml mk dq)), (r 7, .inl ((cT 0), 1000, .inl f7))] H → va_D A [(r 34, .inl ((cT 0), 50, .inl f34)), (r 35, .inl ((cT 0), 50, .inl f35)), (r 36, .inl ((cT 0), 800, .inl f36)), (mo, .inr (12, mdG r cd tm (nI sn) (nI tx) (nI lz) (nI az) (nI na) (nI nt) (nI nr) mw ml mk dq)), (r 7, .inl ((cT 0), 1000, .inl f7))] → va_S A s.heap H locs → lv_has ls 7 [(6, .int (nI q9)), (5, .int sm), (4, .int (nI i)), (3, .int (nI pn44)), (2, .int (nI (pa44 + 2))), (0, .ref mo), (1, .int x)] → W p l e ({ frames := 3, cells := 0, slots := 0, locals := 72 } : Room) s m args below meth c H locs 0 0 Q (F0 m 107 ls [])) (jj165 : Nat) (q9 : Nat) (sm : Int32) (H : Heap) (locs : List Loc) (ls : Array Slot), pn44 - q9 ≤ jj165 → (q9 ≤ pn44) → va_P (dC, dI) vcl [(r 34, .inl ((cT 0), 50, .inl f34)), (r 35, .inl ((cT 0), 50, .inl f35)), (r 36, .inl ((cT 0), 800, .inl f36)), (mo, .inr (12, mdG r cd tm (nI sn) (nI tx) (nI lz) (nI az) (nI na) (nI nt) (nI nr) mw ml mk dq)), (r 7, .inl ((cT 0), 1000, .inl f7))] H → va_D A [(r 34, .inl ((cT 0), 50, .inl f34)), (r 35, .inl ((cT 0), 50, .inl f35)), (r 36, .inl ((cT 0), 800, .inl f36)), (mo, .inr (12, mdG r cd tm (nI sn) (nI tx) (nI lz) (nI az) (nI na) (nI nt) (nI nr) mw ml mk dq)), (r 7, .inl ((cT 0), 1000, .inl f7))] → va_S A s.heap H locs → lv_has ls 7 [(6, .int (nI q9)), (5, .int sm), (4, .int (nI i)), (3, .int (nI pn44)), (2, .int (nI (pa44 + 2))), (0, .ref mo), (1, .int x)] → W p l e ({ frames := 3, cells := 0, slots := 0, locals := 72 } : Room) s m args below meth c H locs 0 0 Q (F0 m 58 ls []) := by
              intro Q ex0 jj165
              induction jj165 with
              | zero => 
                intro q9 sm H locs ls hm9 hq9 hP hD hS hl
                refine lv_iload hx hb d_Md_recordOf_58 (lv_at hl 0 rfl) ?_
                refine lv_iload_n hx hb d_Md_recordOf_60 rfl (lv_at hl 3 rfl) ?_
                refine lv_icmp_ge (tgt := 107) hx hb d_Md_recordOf_61 (by decide) (fun hc166 => ?_) (fun hc166 => ?_)
                · skip
                  have n167 : pn44 ≤ q9 := (nI_leI (a := pn44) (b := q9) (by omega) (by omega)).mp hc166
                  have hl := lv_sub hl [0, 1, 2, 3, 4, 5, 6] (show _ = [(6, .int (nI q9)), (5, .int sm), (4, .int (nI i)), (3, .int (nI pn44)), (2, .int (nI (pa44 + 2))), (0, .ref mo), (1, .int x)] from rfl)
                  exact ex0 q9 sm _ _ _  hP hD hS hl
                · skip
                  have n168 : q9 < pn44 := Nat.not_le.mp (fun h7 => hc166 ((nI_leI (a := pn44) (b := q9) (by omega) (by omega)).mpr h7))
                  refine lv_iload hx hb d_Md_recordOf_64 (lv_at hl 1 rfl) ?_
                  refine lv_if_eq (tgt := 107) hx hb d_Md_recordOf_66 (by decide) (fun hc169 => ?_) (fun hc169 => ?_)
                  · skip
                    have hl := lv_sub hl [0, 1, 2, 3, 4, 5, 6] (show _ = [(6, .int (nI q9)), (5, .int sm), (4, .int (nI i)), (3, .int (nI pn44)), (2, .int (nI (pa44 + 2))), (0, .ref mo), (1, .int x)] from rfl)
                    exact ex0 q9 sm _ _ _  hP hD hS hl
                  · skip
                    refine lv_aload_n hx hb d_Md_recordOf_69 rfl (lv_at hl 5 rfl) ?_
                    refine va_get (D := (dC, dI)) (ci := 12) (v := (.ref (r 36))) (C := R_Md) (T := F_Md) (N := 45) hx hb hg in_Md hown hK hP 3 rfl rfl 36 (by decide) (hg _ k_1056) (fun _ h9 => h9) rfl d_Md_recordOf_70 ?_
                    refine lv_bipush (v := 16) hx hb d_Md_recordOf_73 (by decide) ?_
                    refine lv_iload hx hb d_Md_recordOf_75 (lv_at hl 2 rfl) ?_
                    refine lv_imul hx hb d_Md_recordOf_77 ?_
                    refine lv_topi (fun x171 e170 => ?_)
                    obtain rfl : x171 = nI (16 * i) := by rw [e170]; exact pk_mul 16 i
                    refine lv_iload hx hb d_Md_recordOf_78 (lv_at hl 0 rfl) ?_
                    refine lv_iadd hx hb d_Md_recordOf_80 ?_
                    refine lv_topi (fun x173 e172 => ?_)
                    obtain rfl : x173 = nI ((16 * i) + q9) := by rw [e172]; exact nI_add (16 * i) q9
                    refine va_iald hx hb hK hP 2 0 rfl rfl (i := (nI ((16 * i) + q9))) (vp_in_nI (N := 800) (by omega) (by decide)) d_Md_recordOf_81 ?_
                    refine lv_topi (fun x174 e_x174 => ?_)
                    clear e_x174
                    refine lv_aload_n hx hb d_Md_recordOf_82 rfl (lv_at hl 5 rfl) ?_
                    refine va_get (D := (dC, dI)) (ci := 12) (v := (.ref (r 7))) (C := R_Md) (T := F_Md) (N := 45) hx hb hg in_Md hown hK hP 3 rfl rfl 7 (by decide) (hg _ k_1027) (fun _ h9 => h9) rfl d_Md_recordOf_83 ?_
                    refine lv_iload_n hx hb d_Md_recordOf_86 rfl (lv_at hl 4 rfl) ?_
                    refine lv_iload hx hb d_Md_recordOf_87 (lv_at hl 0 rfl) ?_
                    refine lv_iadd hx hb d_Md_recordOf_89 ?_
                    refine lv_topi (fun x176 e175 => ?_)
                    obtain rfl : x176 = nI (pa44 + 2 + q9) := by rw [e175]; exact nI_add (pa44 + 2) q9
                    refine va_iald hx hb hK hP 4 0 rfl rfl (i := (nI (pa44 + 2 + q9))) (vp_in_nI (N := 1000) (by omega) (by decide)) d_Md_recordOf_90 ?_
                    refine lv_topi (fun x177 e_x177 => ?_)
                    clear e_x177
                    refine lv_icmp_ne (tgt := 98) hx hb d_Md_recordOf_91 (by decide) (fun hc178 => ?_) (fun hc178 => ?_)
                    · skip
                      refine lv_iconst (v := 0) hx hb d_Md_recordOf_98 (by decide) ?_
                      refine lv_istore (lv' := [(5, .int 0), (6, .int (nI q9)), (4, .int (nI i)), (3, .int (nI pn44)), (2, .int (nI (pa44 + 2))), (0, .ref mo), (1, .int x)]) hx hb d_Md_recordOf_99 hl (by decide) rfl (fun ls hl => ?_)
                      refine lv_iinc (k := 1) (v := nI (q9 + 1)) (lv' := [(6, .int (nI (q9 + 1))), (5, .int 0), (4, .int (nI i)), (3, .int (nI pn44)), (2, .int (nI (pa44 + 2))), (0, .ref mo), (1, .int x)]) hx hb d_Md_recordOf_101 hl rfl (nI_1 q9) (by decide) rfl (fun ls hl => ?_)
                      refine lv_goto (tgt := 58) hx hb d_Md_recordOf_104 (by decide) ?_
                      have hl := lv_sub hl [0, 1, 2, 3, 4, 5, 6] (show _ = [(6, .int (nI (q9 + 1))), (5, .int 0), (4, .int (nI i)), (3, .int (nI pn44)), (2, .int (nI (pa44 + 2))), (0, .ref mo), (1, .int x)] from rfl)
                      exfalso; omega
                    · skip
                      refine lv_iconst (v := 1) hx hb d_Md_recordOf_94 (by decide) ?_
                      refine lv_goto (tgt := 99) hx hb d_Md_recordOf_95 (by decide) ?_
                      refine lv_istore (lv' := [(5, .int 1), (6, .int (nI q9)), (4, .int (nI i)), (3, .int (nI pn44)), (2, .int (nI (pa44 + 2))), (0, .ref mo), (1, .int x)]) hx hb d_Md_recordOf_99 hl (by decide) rfl (fun ls hl => ?_)
                      refine lv_iinc (k := 1) (v := nI (q9 + 1)) (lv' := [(6, .int (nI (q9 + 1))), (5, .int 1), (4, .int (nI i)), (3, .int (nI pn44)), (2, .int (nI (pa44 + 2))), (0, .ref mo), (1, .int x)]) hx hb d_Md_recordOf_101 hl rfl (nI_1 q9) (by decide) rfl (fun ls hl => ?_)
                      refine lv_goto (tgt := 58) hx hb d_Md_recordOf_104 (by decide) ?_
                      have hl := lv_sub hl [0, 1, 2, 3, 4, 5, 6] (show _ = [(6, .int (nI (q9 + 1))), (5, .int 1), (4, .int (nI i)), (3, .int (nI pn44)), (2, .int (nI (pa44 + 2))), (0, .ref mo), (1, .int x)] from rfl)
                      exfalso; omega
              | succ jj165 ih => 
                intro q9 sm H locs ls hm9 hq9 hP hD hS hl
                refine lv_iload hx hb d_Md_recordOf_58 (lv_at hl 0 rfl) ?_
                refine lv_iload_n hx hb d_Md_recordOf_60 rfl (lv_at hl 3 rfl) ?_
                refine lv_icmp_ge (tgt := 107) hx hb d_Md_recordOf_61 (by decide) (fun hc179 => ?_) (fun hc179 => ?_)
                · skip
                  have n180 : pn44 ≤ q9 := (nI_leI (a := pn44) (b := q9) (by omega) (by omega)).mp hc179
                  have hl := lv_sub hl [0, 1, 2, 3, 4, 5, 6] (show _ = [(6, .int (nI q9)), (5, .int sm), (4, .int (nI i)), (3, .int (nI pn44)), (2, .int (nI (pa44 + 2))), (0, .ref mo), (1, .int x)] from rfl)
                  exact ex0 q9 sm _ _ _  hP hD hS hl
                · skip
                  have n181 : q9 < pn44 := Nat.not_le.mp (fun h7 => hc179 ((nI_leI (a := pn44) (b := q9) (by omega) (by omega)).mpr h7))
                  refine lv_iload hx hb d_Md_recordOf_64 (lv_at hl 1 rfl) ?_
                  refine lv_if_eq (tgt := 107) hx hb d_Md_recordOf_66 (by decide) (fun hc182 => ?_) (fun hc182 => ?_)
                  · skip
                    have hl := lv_sub hl [0, 1, 2, 3, 4, 5, 6] (show _ = [(6, .int (nI q9)), (5, .int sm), (4, .int (nI i)), (3, .int (nI pn44)), (2, .int (nI (pa44 + 2))), (0, .ref mo), (1, .int x)] from rfl)
                    exact ex0 q9 sm _ _ _  hP hD hS hl
                  · skip
                    refine lv_aload_n hx hb d_Md_recordOf_69 rfl (lv_at hl 5 rfl) ?_
                    refine va_get (D := (dC, dI)) (ci := 12) (v := (.ref (r 36))) (C := R_Md) (T := F_Md) (N := 45) hx hb hg in_Md hown hK hP 3 rfl rfl 36 (by decide) (hg _ k_1056) (fun _ h9 => h9) rfl d_Md_recordOf_70 ?_
                    refine lv_bipush (v := 16) hx hb d_Md_recordOf_73 (by decide) ?_
                    refine lv_iload hx hb d_Md_recordOf_75 (lv_at hl 2 rfl) ?_
                    refine lv_imul hx hb d_Md_recordOf_77 ?_
                    refine lv_topi (fun x184 e183 => ?_)
                    obtain rfl : x184 = nI (16 * i) := by rw [e183]; exact pk_mul 16 i
                    refine lv_iload hx hb d_Md_recordOf_78 (lv_at hl 0 rfl) ?_
                    refine lv_iadd hx hb d_Md_recordOf_80 ?_
                    refine lv_topi (fun x186 e185 => ?_)
                    obtain rfl : x186 = nI ((16 * i) + q9) := by rw [e185]; exact nI_add (16 * i) q9
                    refine va_iald hx hb hK hP 2 0 rfl rfl (i := (nI ((16 * i) + q9))) (vp_in_nI (N := 800) (by omega) (by decide)) d_Md_recordOf_81 ?_
                    refine lv_topi (fun x187 e_x187 => ?_)
                    clear e_x187
                    refine lv_aload_n hx hb d_Md_recordOf_82 rfl (lv_at hl 5 rfl) ?_
                    refine va_get (D := (dC, dI)) (ci := 12) (v := (.ref (r 7))) (C := R_Md) (T := F_Md) (N := 45) hx hb hg in_Md hown hK hP 3 rfl rfl 7 (by decide) (hg _ k_1027) (fun _ h9 => h9) rfl d_Md_recordOf_83 ?_
                    refine lv_iload_n hx hb d_Md_recordOf_86 rfl (lv_at hl 4 rfl) ?_
                    refine lv_iload hx hb d_Md_recordOf_87 (lv_at hl 0 rfl) ?_
                    refine lv_iadd hx hb d_Md_recordOf_89 ?_
                    refine lv_topi (fun x189 e188 => ?_)
                    obtain rfl : x189 = nI (pa44 + 2 + q9) := by rw [e188]; exact nI_add (pa44 + 2) q9
                    refine va_iald hx hb hK hP 4 0 rfl rfl (i := (nI (pa44 + 2 + q9))) (vp_in_nI (N := 1000) (by omega) (by decide)) d_Md_recordOf_90 ?_
                    refine lv_topi (fun x190 e_x190 => ?_)
                    clear e_x190
                    refine lv_icmp_ne (tgt := 98) hx hb d_Md_recordOf_91 (by decide) (fun hc191 => ?_) (fun hc191 => ?_)
                    · skip
                      refine lv_iconst (v := 0) hx hb d_Md_recordOf_98 (by decide) ?_
                      refine lv_istore (lv' := [(5, .int 0), (6, .int (nI q9)), (4, .int (nI i)), (3, .int (nI pn44)), (2, .int (nI (pa44 + 2))), (0, .ref mo), (1, .int x)]) hx hb d_Md_recordOf_99 hl (by decide) rfl (fun ls hl => ?_)
                      refine lv_iinc (k := 1) (v := nI (q9 + 1)) (lv' := [(6, .int (nI (q9 + 1))), (5, .int 0), (4, .int (nI i)), (3, .int (nI pn44)), (2, .int (nI (pa44 + 2))), (0, .ref mo), (1, .int x)]) hx hb d_Md_recordOf_101 hl rfl (nI_1 q9) (by decide) rfl (fun ls hl => ?_)
                      refine lv_goto (tgt := 58) hx hb d_Md_recordOf_104 (by decide) ?_
                      have hl := lv_sub hl [0, 1, 2, 3, 4, 5, 6] (show _ = [(6, .int (nI (q9 + 1))), (5, .int 0), (4, .int (nI i)), (3, .int (nI pn44)), (2, .int (nI (pa44 + 2))), (0, .ref mo), (1, .int x)] from rfl)
                      exact ih (q9 + 1) 0 _ _ _ (by omega) (by omega) hP hD hS hl
                    · skip
                      refine lv_iconst (v := 1) hx hb d_Md_recordOf_94 (by decide) ?_
                      refine lv_goto (tgt := 99) hx hb d_Md_recordOf_95 (by decide) ?_
                      refine lv_istore (lv' := [(5, .int 1), (6, .int (nI q9)), (4, .int (nI i)), (3, .int (nI pn44)), (2, .int (nI (pa44 + 2))), (0, .ref mo), (1, .int x)]) hx hb d_Md_recordOf_99 hl (by decide) rfl (fun ls hl => ?_)
                      refine lv_iinc (k := 1) (v := nI (q9 + 1)) (lv' := [(6, .int (nI (q9 + 1))), (5, .int 1), (4, .int (nI i)), (3, .int (nI pn44)), (2, .int (nI (pa44 + 2))), (0, .ref mo), (1, .int x)]) hx hb d_Md_recordOf_101 hl rfl (nI_1 q9) (by decide) rfl (fun ls hl => ?_)
                      refine lv_goto (tgt := 58) hx hb d_Md_recordOf_104 (by decide) ?_
                      have hl := lv_sub hl [0, 1, 2, 3, 4, 5, 6] (show _ = [(6, .int (nI (q9 + 1))), (5, .int 1), (4, .int (nI i)), (3, .int (nI pn44)), (2, .int (nI (pa44 + 2))), (0, .ref mo), (1, .int x)] from rfl)
                      exact ih (q9 + 1) 1 _ _ _ (by omega) (by omega) hP hD hS hl
            refine L164 _ (fun q9 sm H locs ls  hP hD hS hl => ?_) (pn44 - 0) 0 1 H _ ls (Nat.le_refl _) (by omega) hP hD hS hl
            · skip
              refine lv_iload hx hb d_Md_recordOf_107 (lv_at hl 1 rfl) ?_
              refine lv_if_eq (tgt := 115) hx hb d_Md_recordOf_109 (by decide) (fun hc192 => ?_) (fun hc192 => ?_)
              · skip
                refine lv_iinc (k := 2) (v := nI (i + 1)) (lv' := [(4, .int (nI (i + 1))), (6, .int (nI q9)), (5, .int sm), (3, .int (nI pn44)), (2, .int (nI (pa44 + 2))), (0, .ref mo), (1, .int x)]) hx hb d_Md_recordOf_115 hl rfl (nI_1 i) (by decide) rfl (fun ls hl => ?_)
                refine lv_goto (tgt := 17) hx hb d_Md_recordOf_118 (by decide) ?_
                have hl := lv_sub hl [0, 3, 4, 5, 6] (show _ = [(4, .int (nI (i + 1))), (3, .int (nI pn44)), (2, .int (nI (pa44 + 2))), (0, .ref mo), (1, .int x)] from rfl)
                exact ih (i + 1) _ _ _ (by omega) (by omega) hP hD hS hl
              · skip
                refine lv_iload hx hb d_Md_recordOf_112 (lv_at hl 2 rfl) ?_
                have hl := lv_sub hl [5] (show _ = [(0, .ref mo)] from rfl)
                exact ex1 i _ _ _ (by omega) hP hD hS hl
  refine L3 _ (fun i H locs ls  hP hD hS hl => ?_) (fun i H locs ls hxa hP hD hS hl => ?_) (nr - 0) 0 H _ ls (Nat.le_refl _) (by omega) hP hD hS hl
  · skip
    refine lv_iconst (v := (-1)) hx hb d_Md_recordOf_121 (by decide) ?_
    have hP9 := hP.sub (ws' := [(mo, .inr (12, mdG r cd tm (nI sn) (nI tx) (nI lz) (nI az) (nI na) (nI nt) (nI nr) mw ml mk dq)), (r 7, .inl ((cT 0), 1000, .inl f7)), (r 34, .inl ((cT 0), 50, .inl f34)), (r 35, .inl ((cT 0), 50, .inl f35)), (r 36, .inl ((cT 0), 800, .inl f36))]) [3, 4, 0, 1, 2] rfl
    have hD9 := hD.sub (ws' := [(mo, .inr (12, mdG r cd tm (nI sn) (nI tx) (nI lz) (nI az) (nI na) (nI nt) (nI nr) mw ml mk dq)), (r 7, .inl ((cT 0), 1000, .inl f7)), (r 34, .inl ((cT 0), 50, .inl f34)), (r 35, .inl ((cT 0), 50, .inl f35)), (r 36, .inl ((cT 0), 800, .inl f36))]) [3, 4, 0, 1, 2] (by decide) rfl
    exact W.iret (v := (-1)) hx hb hr (fun t ht hW => ⟨⟨_, (), rfl, Or.inl rfl, by rw [ht]; exact hP9, va_K.moved hW.alike hK, hD9⟩, hS.F ht⟩) hS.2.2 d_Md_recordOf_122
  · skip
    have hP9 := hP.sub (ws' := [(mo, .inr (12, mdG r cd tm (nI sn) (nI tx) (nI lz) (nI az) (nI na) (nI nt) (nI nr) mw ml mk dq)), (r 7, .inl ((cT 0), 1000, .inl f7)), (r 34, .inl ((cT 0), 50, .inl f34)), (r 35, .inl ((cT 0), 50, .inl f35)), (r 36, .inl ((cT 0), 800, .inl f36))]) [3, 4, 0, 1, 2] rfl
    have hD9 := hD.sub (ws' := [(mo, .inr (12, mdG r cd tm (nI sn) (nI tx) (nI lz) (nI az) (nI na) (nI nt) (nI nr) mw ml mk dq)), (r 7, .inl ((cT 0), 1000, .inl f7)), (r 34, .inl ((cT 0), 50, .inl f34)), (r 35, .inl ((cT 0), 50, .inl f35)), (r 36, .inl ((cT 0), 800, .inl f36))]) [3, 4, 0, 1, 2] (by decide) rfl
    exact W.iret (v := nI i) hx hb hr (fun t ht hW => ⟨⟨_, (), rfl, Or.inr ⟨i, rfl, hxa⟩, by rw [ht]; exact hP9, va_K.moved hW.alike hK, hD9⟩, hS.F ht⟩) hS.2.2 d_Md_recordOf_114
set_option maxHeartbeats 4000000 in
set_option maxRecDepth 100000 in
/-- write -/
theorem m_write (l : Launch) (dC : Nat → ClassId) (dI : Nat → Nat → Nat) (cT : Nat → ClassId) (sz : Nat) (mo : Nat) (r : Nat → Nat) (cd : Int32) (tm : Int32) (sn : Nat) (tx : Nat) (lz : Nat) (az : Nat) (na : Nat) (nt : Nat) (nr : Nat) (mw : Int32) (ml : Int32) (mk : Int64) (dq : Int64) (f15 : Nat → Int32) (f9 : Nat → Int32) (f12 : Nat → Int32) (f3 : Nat → Int32) (f4 : Nat → Int32) (f0 : Nat → Int64) (f11 : Nat → Int32) (f13 : Nat → Int32) (f7 : Nat → Int32) (f18 : Nat → Int32) (f19 : Nat → Int32) (f20 : Nat → Int32) (f21 : Nat → Int32) (f22 : Nat → Int32) (f23 : Nat → Int32) (f34 : Nat → Int32) (f35 : Nat → Int32) (f36 : Nat → Int32) (f37 : Nat → Int32) (f38 : Nat → Int32) (f39 : Nat → Int32) (f40 : Nat → Int32) (f41 : Nat → Int64) (f42 : Nat → Int64) (st : Nat) (sl : Nat) (hst : st < 4) (hfz : f4 st = nI sl) (hsl : sl ≤ 40) (h11 : AB f11) (h21 : BD 200 41 f21) (h35 : BD 16 50 f35) (hna : na ≤ 40) (hnr : nr ≤ 50) (haz : az ≤ 200) (hlz : lz ≤ 200) (h20 : 20 ≤ sn) (hsn : sn ≤ 1000) (h7 : AB f7) : Met l y_Md_write (Cond.code y_Md_write b_Md_write 7 (Option.some Jvm.ClassFile.FieldType.int) :: BIG) ({ frames := 4, cells := 0, slots := 0, locals := 120 }) (va_Pc [.ref mo, .int (nI st)] (fun U => U.heap.size = sz ∧ va_P (dC, dI) vcl [(mo, .inr (12, mdG r cd tm (nI sn) (nI 0) (nI lz) (nI az) (nI na) (nI nt) (nI nr) mw ml mk dq)), (r 15, .inl ((cT 0), 200, .inl f15)), (r 9, .inl ((cT 0), 1400, .inl f9)), (r 12, .inl ((cT 0), 1200, .inl f12)), (r 3, .inl ((cT 0), 160, .inl f3)), (r 4, .inl ((cT 0), 4, .inl f4)), (r 0, .inl ((cT 1), 64, .inr (.inl f0))), (r 11, .inl ((cT 0), 16, .inl f11)), (r 13, .inl ((cT 0), 200, .inl f13)), (r 7, .inl ((cT 0), 1000, .inl f7)), (r 18, .inl ((cT 0), 41, .inl f18)), (r 19, .inl ((cT 0), 41, .inl f19)), (r 20, .inl ((cT 0), 41, .inl f20)), (r 21, .inl ((cT 0), 41, .inl f21)), (r 22, .inl ((cT 0), 8200, .inl f22)), (r 23, .inl ((cT 0), 656, .inl f23)), (r 34, .inl ((cT 0), 50, .inl f34)), (r 35, .inl ((cT 0), 50, .inl f35)), (r 36, .inl ((cT 0), 800, .inl f36)), (r 37, .inl ((cT 0), 50, .inl f37)), (r 38, .inl ((cT 0), 50, .inl f38)), (r 39, .inl ((cT 0), 50, .inl f39)), (r 40, .inl ((cT 0), 50, .inl f40)), (r 41, .inl ((cT 1), 50, .inr (.inl f41))), (r 42, .inl ((cT 1), 50, .inr (.inl f42)))] U.heap ∧ va_K (dC, dI) vcl (tyL cT) U ∧ va_D (fun _ => True) [(mo, .inr (12, mdG r cd tm (nI sn) (nI 0) (nI lz) (nI az) (nI na) (nI nt) (nI nr) mw ml mk dq)), (r 15, .inl ((cT 0), 200, .inl f15)), (r 9, .inl ((cT 0), 1400, .inl f9)), (r 12, .inl ((cT 0), 1200, .inl f12)), (r 3, .inl ((cT 0), 160, .inl f3)), (r 4, .inl ((cT 0), 4, .inl f4)), (r 0, .inl ((cT 1), 64, .inr (.inl f0))), (r 11, .inl ((cT 0), 16, .inl f11)), (r 13, .inl ((cT 0), 200, .inl f13)), (r 7, .inl ((cT 0), 1000, .inl f7)), (r 18, .inl ((cT 0), 41, .inl f18)), (r 19, .inl ((cT 0), 41, .inl f19)), (r 20, .inl ((cT 0), 41, .inl f20)), (r 21, .inl ((cT 0), 41, .inl f21)), (r 22, .inl ((cT 0), 8200, .inl f22)), (r 23, .inl ((cT 0), 656, .inl f23)), (r 34, .inl ((cT 0), 50, .inl f34)), (r 35, .inl ((cT 0), 50, .inl f35)), (r 36, .inl ((cT 0), 800, .inl f36)), (r 37, .inl ((cT 0), 50, .inl f37)), (r 38, .inl ((cT 0), 50, .inl f38)), (r 39, .inl ((cT 0), 50, .inl f39)), (r 40, .inl ((cT 0), 50, .inl f40)), (r 41, .inl ((cT 1), 50, .inr (.inl f41))), (r 42, .inl ((cT 1), 50, .inr (.inl f42)))])) (va_Qi (S := (Nat → Int32) × (Nat → Int32) × (Nat → Int32) × (Nat → Int32) × (Nat → Int32) × (Nat → Int32) × (Nat → Int32) × (Nat → Int32) × (Nat → Int32) × (Nat → Int32) × (Nat → Int32) × (Nat → Int32) × (Nat → Int32) × (Nat → Int32) × (Nat → Int32) × (Nat → Int32) × (Nat → Int32) × (Nat → Int32) × (Nat → Int64) × (Nat → Int64) × Nat × Nat × Nat × Int32 × Nat) (fun rv9 u => match u with | (g15, g9, g12, g11, g13, g18, g19, g20, g21, g22, g23, g34, g35, g36, g37, g38, g39, g40, g41, g42, az2, lz2, na2, mw2, nr2) => (az2 ≤ 200) ∧ (lz2 ≤ 200) ∧ (na2 ≤ 40) ∧ (AB g11) ∧ (BD 200 41 g21) ∧ (nr2 ≤ 50) ∧ (BD 16 50 g35)) (fun u t => match u with | (g15, g9, g12, g11, g13, g18, g19, g20, g21, g22, g23, g34, g35, g36, g37, g38, g39, g40, g41, g42, az2, lz2, na2, mw2, nr2) => va_P (dC, dI) vcl [(mo, .inr (12, mdG r cd tm (nI sn) (nI 0) (nI lz2) (nI az2) (nI na2) (nI nt) (nI nr2) mw2 ml mk dq)), (r 15, .inl ((cT 0), 200, .inl g15)), (r 9, .inl ((cT 0), 1400, .inl g9)), (r 12, .inl ((cT 0), 1200, .inl g12)), (r 3, .inl ((cT 0), 160, .inl f3)), (r 4, .inl ((cT 0), 4, .inl f4)), (r 0, .inl ((cT 1), 64, .inr (.inl f0))), (r 11, .inl ((cT 0), 16, .inl g11)), (r 13, .inl ((cT 0), 200, .inl g13)), (r 7, .inl ((cT 0), 1000, .inl f7)), (r 18, .inl ((cT 0), 41, .inl g18)), (r 19, .inl ((cT 0), 41, .inl g19)), (r 20, .inl ((cT 0), 41, .inl g20)), (r 21, .inl ((cT 0), 41, .inl g21)), (r 22, .inl ((cT 0), 8200, .inl g22)), (r 23, .inl ((cT 0), 656, .inl g23)), (r 34, .inl ((cT 0), 50, .inl g34)), (r 35, .inl ((cT 0), 50, .inl g35)), (r 36, .inl ((cT 0), 800, .inl g36)), (r 37, .inl ((cT 0), 50, .inl g37)), (r 38, .inl ((cT 0), 50, .inl g38)), (r 39, .inl ((cT 0), 50, .inl g39)), (r 40, .inl ((cT 0), 50, .inl g40)), (r 41, .inl ((cT 1), 50, .inr (.inl g41))), (r 42, .inl ((cT 1), 50, .inr (.inl g42)))] t.heap ∧ va_K (dC, dI) vcl (tyL cT) t ∧ va_D (va_A [(mo, .inr (12, mdG r cd tm (nI sn) (nI 0) (nI lz) (nI az) (nI na) (nI nt) (nI nr) mw ml mk dq)), (r 15, .inl ((cT 0), 200, .inl f15)), (r 9, .inl ((cT 0), 1400, .inl f9)), (r 12, .inl ((cT 0), 1200, .inl f12)), (r 3, .inl ((cT 0), 160, .inl f3)), (r 4, .inl ((cT 0), 4, .inl f4)), (r 0, .inl ((cT 1), 64, .inr (.inl f0))), (r 11, .inl ((cT 0), 16, .inl f11)), (r 13, .inl ((cT 0), 200, .inl f13)), (r 7, .inl ((cT 0), 1000, .inl f7)), (r 18, .inl ((cT 0), 41, .inl f18)), (r 19, .inl ((cT 0), 41, .inl f19)), (r 20, .inl ((cT 0), 41, .inl f20)), (r 21, .inl ((cT 0), 41, .inl f21)), (r 22, .inl ((cT 0), 8200, .inl f22)), (r 23, .inl ((cT 0), 656, .inl f23)), (r 34, .inl ((cT 0), 50, .inl f34)), (r 35, .inl ((cT 0), 50, .inl f35)), (r 36, .inl ((cT 0), 800, .inl f36)), (r 37, .inl ((cT 0), 50, .inl f37)), (r 38, .inl ((cT 0), 50, .inl f38)), (r 39, .inl ((cT 0), 50, .inl f39)), (r 40, .inl ((cT 0), 50, .inl f40)), (r 41, .inl ((cT 1), 50, .inr (.inl f41))), (r 42, .inl ((cT 1), 50, .inr (.inl f42)))] sz) [(mo, .inr (12, mdG r cd tm (nI sn) (nI 0) (nI lz2) (nI az2) (nI na2) (nI nt) (nI nr2) mw2 ml mk dq)), (r 15, .inl ((cT 0), 200, .inl g15)), (r 9, .inl ((cT 0), 1400, .inl g9)), (r 12, .inl ((cT 0), 1200, .inl g12)), (r 3, .inl ((cT 0), 160, .inl f3)), (r 4, .inl ((cT 0), 4, .inl f4)), (r 0, .inl ((cT 1), 64, .inr (.inl f0))), (r 11, .inl ((cT 0), 16, .inl g11)), (r 13, .inl ((cT 0), 200, .inl g13)), (r 7, .inl ((cT 0), 1000, .inl f7)), (r 18, .inl ((cT 0), 41, .inl g18)), (r 19, .inl ((cT 0), 41, .inl g19)), (r 20, .inl ((cT 0), 41, .inl g20)), (r 21, .inl ((cT 0), 41, .inl g21)), (r 22, .inl ((cT 0), 8200, .inl g22)), (r 23, .inl ((cT 0), 656, .inl g23)), (r 34, .inl ((cT 0), 50, .inl g34)), (r 35, .inl ((cT 0), 50, .inl g35)), (r 36, .inl ((cT 0), 800, .inl g36)), (r 37, .inl ((cT 0), 50, .inl g37)), (r 38, .inl ((cT 0), 50, .inl g38)), (r 39, .inl ((cT 0), 50, .inl g39)), (r 40, .inl ((cT 0), 50, .inl g40)), (r 41, .inl ((cT 1), 50, .inr (.inl g41))), (r 42, .inl ((cT 1), 50, .inr (.inl g42)))]) (va_A [(mo, .inr (12, mdG r cd tm (nI sn) (nI 0) (nI lz) (nI az) (nI na) (nI nt) (nI nr) mw ml mk dq)), (r 15, .inl ((cT 0), 200, .inl f15)), (r 9, .inl ((cT 0), 1400, .inl f9)), (r 12, .inl ((cT 0), 1200, .inl f12)), (r 3, .inl ((cT 0), 160, .inl f3)), (r 4, .inl ((cT 0), 4, .inl f4)), (r 0, .inl ((cT 1), 64, .inr (.inl f0))), (r 11, .inl ((cT 0), 16, .inl f11)), (r 13, .inl ((cT 0), 200, .inl f13)), (r 7, .inl ((cT 0), 1000, .inl f7)), (r 18, .inl ((cT 0), 41, .inl f18)), (r 19, .inl ((cT 0), 41, .inl f19)), (r 20, .inl ((cT 0), 41, .inl f20)), (r 21, .inl ((cT 0), 41, .inl f21)), (r 22, .inl ((cT 0), 8200, .inl f22)), (r 23, .inl ((cT 0), 656, .inl f23)), (r 34, .inl ((cT 0), 50, .inl f34)), (r 35, .inl ((cT 0), 50, .inl f35)), (r 36, .inl ((cT 0), 800, .inl f36)), (r 37, .inl ((cT 0), 50, .inl f37)), (r 38, .inl ((cT 0), 50, .inl f38)), (r 39, .inl ((cT 0), 50, .inl f39)), (r 40, .inl ((cT 0), 50, .inl f40)), (r 41, .inl ((cT 1), 50, .inr (.inl f41))), (r 42, .inl ((cT 1), 50, .inr (.inl f42)))] sz)) 0 0 (va_A [(mo, .inr (12, mdG r cd tm (nI sn) (nI 0) (nI lz) (nI az) (nI na) (nI nt) (nI nr) mw ml mk dq)), (r 15, .inl ((cT 0), 200, .inl f15)), (r 9, .inl ((cT 0), 1400, .inl f9)), (r 12, .inl ((cT 0), 1200, .inl f12)), (r 3, .inl ((cT 0), 160, .inl f3)), (r 4, .inl ((cT 0), 4, .inl f4)), (r 0, .inl ((cT 1), 64, .inr (.inl f0))), (r 11, .inl ((cT 0), 16, .inl f11)), (r 13, .inl ((cT 0), 200, .inl f13)), (r 7, .inl ((cT 0), 1000, .inl f7)), (r 18, .inl ((cT 0), 41, .inl f18)), (r 19, .inl ((cT 0), 41, .inl f19)), (r 20, .inl ((cT 0), 41, .inl f20)), (r 21, .inl ((cT 0), 41, .inl f21)), (r 22, .inl ((cT 0), 8200, .inl f22)), (r 23, .inl ((cT 0), 656, .inl f23)), (r 34, .inl ((cT 0), 50, .inl f34)), (r 35, .inl ((cT 0), 50, .inl f35)), (r 36, .inl ((cT 0), 800, .inl f36)), (r 37, .inl ((cT 0), 50, .inl f37)), (r 38, .inl ((cT 0), 50, .inl f38)), (r 39, .inl ((cT 0), 50, .inl f39)), (r 40, .inl ((cT 0), 50, .inl f40)), (r 41, .inl ((cT 1), 50, .inr (.inl f41))), (r 42, .inl ((cT 1), 50, .inr (.inl f42)))] sz) := by
  refine Met.ofW (cc := b_Md_write) (maxL := 7) (ret := (Option.some Jvm.ClassFile.FieldType.int)) (by decide) rfl ?_
  intro p e s m args below meth c s₁ B hml hv
  obtain ⟨hargs, hsz, hP, hK, hD0⟩ := hv
  have hx := B.exec
  have hb := B.bytes
  have hr := B.returns
  have hts := atoms_spec (ws := (Cond.code y_Md_write b_Md_write 7 (Option.some Jvm.ClassFile.FieldType.int) :: BIG)) B.pre
  have hg : ∀ w ∈ BIG, w.before _ s = true := fun w h => hts w (List.mem_cons_of_mem _ h)
  have hown : s.vm.findClass "DoorServerModel" = some m.cls := findClass_of_methodNamed B.named
  have hlocks := B.notSynchronized
  subst hsz
  have hD := hD0.self (sz := s.heap.size)
  generalize hAe : va_A [(mo, .inr (12, mdG r cd tm (nI sn) (nI 0) (nI lz) (nI az) (nI na) (nI nt) (nI nr) mw ml mk dq)), (r 15, .inl ((cT 0), 200, .inl f15)), (r 9, .inl ((cT 0), 1400, .inl f9)), (r 12, .inl ((cT 0), 1200, .inl f12)), (r 3, .inl ((cT 0), 160, .inl f3)), (r 4, .inl ((cT 0), 4, .inl f4)), (r 0, .inl ((cT 1), 64, .inr (.inl f0))), (r 11, .inl ((cT 0), 16, .inl f11)), (r 13, .inl ((cT 0), 200, .inl f13)), (r 7, .inl ((cT 0), 1000, .inl f7)), (r 18, .inl ((cT 0), 41, .inl f18)), (r 19, .inl ((cT 0), 41, .inl f19)), (r 20, .inl ((cT 0), 41, .inl f20)), (r 21, .inl ((cT 0), 41, .inl f21)), (r 22, .inl ((cT 0), 8200, .inl f22)), (r 23, .inl ((cT 0), 656, .inl f23)), (r 34, .inl ((cT 0), 50, .inl f34)), (r 35, .inl ((cT 0), 50, .inl f35)), (r 36, .inl ((cT 0), 800, .inl f36)), (r 37, .inl ((cT 0), 50, .inl f37)), (r 38, .inl ((cT 0), 50, .inl f38)), (r 39, .inl ((cT 0), 50, .inl f39)), (r 40, .inl ((cT 0), 50, .inl f40)), (r 41, .inl ((cT 1), 50, .inr (.inl f41))), (r 42, .inl ((cT 1), 50, .inr (.inl f42)))] s.heap.size = A at hD ⊢
  have hA : ∀ q : Nat, s.heap.size ≤ q → A q := fun q h => by rw [← hAe]; exact Or.inr h
  have hS : va_S A s.heap s.heap [] := va_S.rf
  have hl := lv_entry ([.ref mo, .int (nI st)]) (n := 7) (Nat.le_of_ble_eq_true rfl)
  refine W.eq (g2 := entryFrame m (List.toArray [.ref mo, .int (nI st)]) 7) (by rw [hargs]) ?_
  rw [lg_entry_eq]
  generalize (lg_sl ([.ref mo, .int (nI st)]) ++ List.replicate (7 - (lg_sl ([.ref mo, .int (nI st)])).length) Slot.unset).toArray = ls at hl ⊢
  have hl : lv_has ls 7 [(0, .ref mo), (1, .int (nI st))] := hl
  change W p l e ({ frames := 4, cells := 0, slots := 0, locals := 120 } : Room) s m args below meth c s.heap [] 0 0 _ _
  have hP : va_P (dC, dI) vcl [(mo, .inr (12, mdG r cd tm (nI sn) (nI 0) (nI lz) (nI az) (nI na) (nI nt) (nI nr) mw ml mk dq)), (r 15, .inl ((cT 0), 200, .inl f15)), (r 9, .inl ((cT 0), 1400, .inl f9)), (r 12, .inl ((cT 0), 1200, .inl f12)), (r 3, .inl ((cT 0), 160, .inl f3)), (r 4, .inl ((cT 0), 4, .inl f4)), (r 0, .inl ((cT 1), 64, .inr (.inl f0))), (r 11, .inl ((cT 0), 16, .inl f11)), (r 13, .inl ((cT 0), 200, .inl f13)), (r 7, .inl ((cT 0), 1000, .inl f7)), (r 18, .inl ((cT 0), 41, .inl f18)), (r 19, .inl ((cT 0), 41, .inl f19)), (r 20, .inl ((cT 0), 41, .inl f20)), (r 21, .inl ((cT 0), 41, .inl f21)), (r 22, .inl ((cT 0), 8200, .inl f22)), (r 23, .inl ((cT 0), 656, .inl f23)), (r 34, .inl ((cT 0), 50, .inl f34)), (r 35, .inl ((cT 0), 50, .inl f35)), (r 36, .inl ((cT 0), 800, .inl f36)), (r 37, .inl ((cT 0), 50, .inl f37)), (r 38, .inl ((cT 0), 50, .inl f38)), (r 39, .inl ((cT 0), 50, .inl f39)), (r 40, .inl ((cT 0), 50, .inl f40)), (r 41, .inl ((cT 1), 50, .inr (.inl f41))), (r 42, .inl ((cT 1), 50, .inr (.inl f42)))] s.heap := hP
  refine lv_aload_n hx hb d_Md_write_0 rfl (lv_at hl 0 rfl) ?_
  refine lv_bipush (v := 40) hx hb d_Md_write_1 (by decide) ?_
  have hPc := hP.sub (ws' := [(mo, .inr (12, mdG r cd tm (nI sn) (nI 0) (nI lz) (nI az) (nI na) (nI nt) (nI nr) mw ml mk dq)), (r 7, .inl ((cT 0), 1000, .inl f7))]) [0, 9] rfl
  have hDc := hD.sub (ws' := [(mo, .inr (12, mdG r cd tm (nI sn) (nI 0) (nI lz) (nI az) (nI na) (nI nt) (nI nr) mw ml mk dq)), (r 7, .inl ((cT 0), 1000, .inl f7))]) [0, 9] (by decide) rfl
  have hFc := va_free (wc := [(mo, .inr (12, mdG r cd tm (nI sn) (nI 0) (nI lz) (nI az) (nI na) (nI nt) (nI nr) mw ml mk dq)), (r 7, .inl ((cT 0), 1000, .inl f7))]) hD hS hA [0, 9] rfl
  refine va_calll (va_runV (C := "DoorServerModel") (As := [.int 40]) (rest := []) ⟨hx, hb, hml, hown, hg⟩ (m_four40 l dC dI cT s.heap.size mo r cd tm sn 0 lz az na nt nr mw ml mk dq f7 (by first | assumption | omega) (by first | assumption | omega) (by first | assumption | omega)) (cwV 1 hg (gI (List.forall_mem_append.mpr ⟨List.forall_mem_cons.mpr ⟨k_1383, List.forall_mem_cons.mpr ⟨k_1385, List.forall_mem_cons.mpr ⟨(big_sel (q := y_Md_fourOf) (n := 45) (by decide +kernel)), List.forall_mem_cons.mpr ⟨k_13, fun _ h => absurd h List.not_mem_nil⟩⟩⟩⟩, List.forall_mem_cons.mpr ⟨k_1386, fun _ h => h⟩⟩)) rfl rfl rfl (by decide +kernel) ⟨Nat.le_of_ble_eq_true rfl, Nat.le_of_ble_eq_true rfl⟩) ⟨fun a U g mk q => by obtain ⟨q0, q1, qP, qK, qD⟩ := q; exact ⟨q0, q1, qP, va_K.moved (u := U) (U := U.calling g mk a) (Vm.Alike.refl U.vm) qK, qD⟩, va_recv (q0 := 0) (ci := 12) hK hP rfl rfl, fun U hU hW => ⟨rfl, by rw [hU], by rw [hU]; exact hPc, va_K.moved hW.alike hK, hDc.weaken (fun _ _ _ _ => trivial)⟩⟩ rfl rfl hl.1 rfl (lv_room (Nat.le_of_ble_eq_true rfl)) d_Md_write_3 ⟨Nat.le_of_ble_eq_true rfl, Nat.le_of_ble_eq_true rfl⟩) hS (fun q _ h => hFc q h) hFc (fun rv9 u t H1 locs ht hvm hw hB hz1 hk1 hS => ?_)
  try dsimp only at hw hB
  obtain ⟨hP1, hK1, hD1⟩ := hB
  rw [ht] at hP1
  generalize rv9 = r193 at hw ⊢
  obtain ⟨hP, hD⟩ := va_join (wr := [(r 15, .inl ((cT 0), 200, .inl f15)), (r 9, .inl ((cT 0), 1400, .inl f9)), (r 12, .inl ((cT 0), 1200, .inl f12)), (r 3, .inl ((cT 0), 160, .inl f3)), (r 4, .inl ((cT 0), 4, .inl f4)), (r 0, .inl ((cT 1), 64, .inr (.inl f0))), (r 11, .inl ((cT 0), 16, .inl f11)), (r 13, .inl ((cT 0), 200, .inl f13)), (r 18, .inl ((cT 0), 41, .inl f18)), (r 19, .inl ((cT 0), 41, .inl f19)), (r 20, .inl ((cT 0), 41, .inl f20)), (r 21, .inl ((cT 0), 41, .inl f21)), (r 22, .inl ((cT 0), 8200, .inl f22)), (r 23, .inl ((cT 0), 656, .inl f23)), (r 34, .inl ((cT 0), 50, .inl f34)), (r 35, .inl ((cT 0), 50, .inl f35)), (r 36, .inl ((cT 0), 800, .inl f36)), (r 37, .inl ((cT 0), 50, .inl f37)), (r 38, .inl ((cT 0), 50, .inl f38)), (r 39, .inl ((cT 0), 50, .inl f39)), (r 40, .inl ((cT 0), 50, .inl f40)), (r 41, .inl ((cT 1), 50, .inr (.inl f41))), (r 42, .inl ((cT 1), 50, .inr (.inl f42)))]) (w1 := [(mo, .inr (12, mdG r cd tm (nI sn) (nI 0) (nI lz) (nI az) (nI na) (nI nt) (nI nr) mw ml mk dq)), (r 7, .inl ((cT 0), 1000, .inl f7))]) hP hD [0, 9] [1, 2, 3, 4, 5, 6, 7, 8, 10, 11, 12, 13, 14, 15, 16, 17, 18, 19, 20, 21, 22, 23, 24] rfl rfl (by decide) (by decide) hk1 hFc hP1 hD1
  have hw194 := hw
  clear hPc hDc hFc hz1 hk1 hP1 hK1 hD1
  generalize H1 = H at hP hS ⊢
  have hP : va_P (dC, dI) vcl [(r 15, .inl ((cT 0), 200, .inl f15)), (r 9, .inl ((cT 0), 1400, .inl f9)), (r 12, .inl ((cT 0), 1200, .inl f12)), (r 3, .inl ((cT 0), 160, .inl f3)), (r 4, .inl ((cT 0), 4, .inl f4)), (r 0, .inl ((cT 1), 64, .inr (.inl f0))), (r 11, .inl ((cT 0), 16, .inl f11)), (r 13, .inl ((cT 0), 200, .inl f13)), (r 18, .inl ((cT 0), 41, .inl f18)), (r 19, .inl ((cT 0), 41, .inl f19)), (r 20, .inl ((cT 0), 41, .inl f20)), (r 21, .inl ((cT 0), 41, .inl f21)), (r 22, .inl ((cT 0), 8200, .inl f22)), (r 23, .inl ((cT 0), 656, .inl f23)), (r 34, .inl ((cT 0), 50, .inl f34)), (r 35, .inl ((cT 0), 50, .inl f35)), (r 36, .inl ((cT 0), 800, .inl f36)), (r 37, .inl ((cT 0), 50, .inl f37)), (r 38, .inl ((cT 0), 50, .inl f38)), (r 39, .inl ((cT 0), 50, .inl f39)), (r 40, .inl ((cT 0), 50, .inl f40)), (r 41, .inl ((cT 1), 50, .inr (.inl f41))), (r 42, .inl ((cT 1), 50, .inr (.inl f42))), (mo, .inr (12, mdG r cd tm (nI sn) (nI 0) (nI lz) (nI az) (nI na) (nI nt) (nI nr) mw ml mk dq)), (r 7, .inl ((cT 0), 1000, .inl f7))] H := hP
  have hD : va_D A [(r 15, .inl ((cT 0), 200, .inl f15)), (r 9, .inl ((cT 0), 1400, .inl f9)), (r 12, .inl ((cT 0), 1200, .inl f12)), (r 3, .inl ((cT 0), 160, .inl f3)), (r 4, .inl ((cT 0), 4, .inl f4)), (r 0, .inl ((cT 1), 64, .inr (.inl f0))), (r 11, .inl ((cT 0), 16, .inl f11)), (r 13, .inl ((cT 0), 200, .inl f13)), (r 18, .inl ((cT 0), 41, .inl f18)), (r 19, .inl ((cT 0), 41, .inl f19)), (r 20, .inl ((cT 0), 41, .inl f20)), (r 21, .inl ((cT 0), 41, .inl f21)), (r 22, .inl ((cT 0), 8200, .inl f22)), (r 23, .inl ((cT 0), 656, .inl f23)), (r 34, .inl ((cT 0), 50, .inl f34)), (r 35, .inl ((cT 0), 50, .inl f35)), (r 36, .inl ((cT 0), 800, .inl f36)), (r 37, .inl ((cT 0), 50, .inl f37)), (r 38, .inl ((cT 0), 50, .inl f38)), (r 39, .inl ((cT 0), 50, .inl f39)), (r 40, .inl ((cT 0), 50, .inl f40)), (r 41, .inl ((cT 1), 50, .inr (.inl f41))), (r 42, .inl ((cT 1), 50, .inr (.inl f42))), (mo, .inr (12, mdG r cd tm (nI sn) (nI 0) (nI lz) (nI az) (nI na) (nI nt) (nI nr) mw ml mk dq)), (r 7, .inl ((cT 0), 1000, .inl f7))] := hD
  refine lv_lstore_n (lv' := [(2, .long r193), (0, .ref mo), (1, .int (nI st))]) hx hb d_Md_write_6 rfl hl (by decide) rfl (fun ls hl => ?_)
  refine lv_aload_n hx hb d_Md_write_7 rfl (lv_at hl 1 rfl) ?_
  refine lv_iconst (v := 1) hx hb d_Md_write_8 (by decide) ?_
  have hPc := hP.sub (ws' := [(mo, .inr (12, mdG r cd tm (nI sn) (nI 0) (nI lz) (nI az) (nI na) (nI nt) (nI nr) mw ml mk dq)), (r 7, .inl ((cT 0), 1000, .inl f7))]) [23, 24] rfl
  have hDc := hD.sub (ws' := [(mo, .inr (12, mdG r cd tm (nI sn) (nI 0) (nI lz) (nI az) (nI na) (nI nt) (nI nr) mw ml mk dq)), (r 7, .inl ((cT 0), 1000, .inl f7))]) [23, 24] (by decide) rfl
  have hFc := va_free (wc := [(mo, .inr (12, mdG r cd tm (nI sn) (nI 0) (nI lz) (nI az) (nI na) (nI nt) (nI nr) mw ml mk dq)), (r 7, .inl ((cT 0), 1000, .inl f7))]) hD hS hA [23, 24] rfl
  refine va_calli (va_runV (C := "DoorServerModel") (As := [.int 1]) (rest := []) ⟨hx, hb, hml, hown, hg⟩ (m_has l dC dI cT H.size mo r cd tm sn 0 lz az na nt nr mw ml mk dq f7 1 (by first | assumption | omega) (by first | assumption | omega) (by first | assumption | omega)) (cwV 1 hg (gI (List.forall_mem_append.mpr ⟨List.forall_mem_cons.mpr ⟨k_1305, List.forall_mem_cons.mpr ⟨k_1307, List.forall_mem_cons.mpr ⟨(big_sel (q := y_Md_has) (n := 45) (by decide +kernel)), List.forall_mem_cons.mpr ⟨k_13, fun _ h => absurd h List.not_mem_nil⟩⟩⟩⟩, List.forall_mem_cons.mpr ⟨k_1308, fun _ h => h⟩⟩)) rfl rfl rfl (by decide +kernel) ⟨Nat.le_of_ble_eq_true rfl, Nat.le_of_ble_eq_true rfl⟩) ⟨fun a U g mk q => by obtain ⟨q0, q1, qP, qK, qD⟩ := q; exact ⟨q0, q1, qP, va_K.moved (u := U) (U := U.calling g mk a) (Vm.Alike.refl U.vm) qK, qD⟩, va_recv (q0 := 23) (ci := 12) hK hP rfl rfl, fun U hU hW => ⟨rfl, by rw [hU], by rw [hU]; exact hPc, va_K.moved hW.alike hK, hDc.weaken (fun _ _ _ _ => trivial)⟩⟩ rfl rfl hl.1 rfl (lv_room (Nat.le_of_ble_eq_true rfl)) d_Md_write_9 ⟨Nat.le_of_ble_eq_true rfl, Nat.le_of_ble_eq_true rfl⟩) hS (fun q _ h => hFc q h) hFc (fun rv9 u t H1 locs ht hvm hw hB hz1 hk1 hS => ?_)
  try dsimp only at hw hB
  obtain ⟨hP1, hK1, hD1⟩ := hB
  rw [ht] at hP1
  generalize rv9 = r195 at hw ⊢
  obtain ⟨hP, hD⟩ := va_join (wr := [(r 15, .inl ((cT 0), 200, .inl f15)), (r 9, .inl ((cT 0), 1400, .inl f9)), (r 12, .inl ((cT 0), 1200, .inl f12)), (r 3, .inl ((cT 0), 160, .inl f3)), (r 4, .inl ((cT 0), 4, .inl f4)), (r 0, .inl ((cT 1), 64, .inr (.inl f0))), (r 11, .inl ((cT 0), 16, .inl f11)), (r 13, .inl ((cT 0), 200, .inl f13)), (r 18, .inl ((cT 0), 41, .inl f18)), (r 19, .inl ((cT 0), 41, .inl f19)), (r 20, .inl ((cT 0), 41, .inl f20)), (r 21, .inl ((cT 0), 41, .inl f21)), (r 22, .inl ((cT 0), 8200, .inl f22)), (r 23, .inl ((cT 0), 656, .inl f23)), (r 34, .inl ((cT 0), 50, .inl f34)), (r 35, .inl ((cT 0), 50, .inl f35)), (r 36, .inl ((cT 0), 800, .inl f36)), (r 37, .inl ((cT 0), 50, .inl f37)), (r 38, .inl ((cT 0), 50, .inl f38)), (r 39, .inl ((cT 0), 50, .inl f39)), (r 40, .inl ((cT 0), 50, .inl f40)), (r 41, .inl ((cT 1), 50, .inr (.inl f41))), (r 42, .inl ((cT 1), 50, .inr (.inl f42)))]) (w1 := [(mo, .inr (12, mdG r cd tm (nI sn) (nI 0) (nI lz) (nI az) (nI na) (nI nt) (nI nr) mw ml mk dq)), (r 7, .inl ((cT 0), 1000, .inl f7))]) hP hD [23, 24] [0, 1, 2, 3, 4, 5, 6, 7, 8, 9, 10, 11, 12, 13, 14, 15, 16, 17, 18, 19, 20, 21, 22] rfl rfl (by decide) (by decide) hk1 hFc hP1 hD1
  have hw196 := hw
  clear hPc hDc hFc hz1 hk1 hP1 hK1 hD1
  generalize H1 = H at hP hS ⊢
  have hP : va_P (dC, dI) vcl [(r 15, .inl ((cT 0), 200, .inl f15)), (r 9, .inl ((cT 0), 1400, .inl f9)), (r 12, .inl ((cT 0), 1200, .inl f12)), (r 3, .inl ((cT 0), 160, .inl f3)), (r 4, .inl ((cT 0), 4, .inl f4)), (r 0, .inl ((cT 1), 64, .inr (.inl f0))), (r 11, .inl ((cT 0), 16, .inl f11)), (r 13, .inl ((cT 0), 200, .inl f13)), (r 18, .inl ((cT 0), 41, .inl f18)), (r 19, .inl ((cT 0), 41, .inl f19)), (r 20, .inl ((cT 0), 41, .inl f20)), (r 21, .inl ((cT 0), 41, .inl f21)), (r 22, .inl ((cT 0), 8200, .inl f22)), (r 23, .inl ((cT 0), 656, .inl f23)), (r 34, .inl ((cT 0), 50, .inl f34)), (r 35, .inl ((cT 0), 50, .inl f35)), (r 36, .inl ((cT 0), 800, .inl f36)), (r 37, .inl ((cT 0), 50, .inl f37)), (r 38, .inl ((cT 0), 50, .inl f38)), (r 39, .inl ((cT 0), 50, .inl f39)), (r 40, .inl ((cT 0), 50, .inl f40)), (r 41, .inl ((cT 1), 50, .inr (.inl f41))), (r 42, .inl ((cT 1), 50, .inr (.inl f42))), (mo, .inr (12, mdG r cd tm (nI sn) (nI 0) (nI lz) (nI az) (nI na) (nI nt) (nI nr) mw ml mk dq)), (r 7, .inl ((cT 0), 1000, .inl f7))] H := hP
  have hD : va_D A [(r 15, .inl ((cT 0), 200, .inl f15)), (r 9, .inl ((cT 0), 1400, .inl f9)), (r 12, .inl ((cT 0), 1200, .inl f12)), (r 3, .inl ((cT 0), 160, .inl f3)), (r 4, .inl ((cT 0), 4, .inl f4)), (r 0, .inl ((cT 1), 64, .inr (.inl f0))), (r 11, .inl ((cT 0), 16, .inl f11)), (r 13, .inl ((cT 0), 200, .inl f13)), (r 18, .inl ((cT 0), 41, .inl f18)), (r 19, .inl ((cT 0), 41, .inl f19)), (r 20, .inl ((cT 0), 41, .inl f20)), (r 21, .inl ((cT 0), 41, .inl f21)), (r 22, .inl ((cT 0), 8200, .inl f22)), (r 23, .inl ((cT 0), 656, .inl f23)), (r 34, .inl ((cT 0), 50, .inl f34)), (r 35, .inl ((cT 0), 50, .inl f35)), (r 36, .inl ((cT 0), 800, .inl f36)), (r 37, .inl ((cT 0), 50, .inl f37)), (r 38, .inl ((cT 0), 50, .inl f38)), (r 39, .inl ((cT 0), 50, .inl f39)), (r 40, .inl ((cT 0), 50, .inl f40)), (r 41, .inl ((cT 1), 50, .inr (.inl f41))), (r 42, .inl ((cT 1), 50, .inr (.inl f42))), (mo, .inr (12, mdG r cd tm (nI sn) (nI 0) (nI lz) (nI az) (nI na) (nI nt) (nI nr) mw ml mk dq)), (r 7, .inl ((cT 0), 1000, .inl f7))] := hD
  have k197 := hw196
  rcases k197 with ⟨h8z, hno1⟩ | ⟨h8z, pa1, pn1, hh1⟩
  · skip
    refine lv_topi (fun x199 e198 => ?_)
    obtain rfl : x199 = 0 := by rw [e198]; exact h8z
    refine lv_if_eq (tgt := 46) hx hb d_Md_write_12 (by decide) (fun hc200 => ?_) (fun hn9 => absurd (by decide) hn9)
    refine lv_bipush (v := (-5)) hx hb d_Md_write_46 (by decide) ?_
    have hP9 := hP.sub (ws' := [(mo, .inr (12, mdG r cd tm (nI sn) (nI 0) (nI lz) (nI az) (nI na) (nI nt) (nI nr) mw ml mk dq)), (r 15, .inl ((cT 0), 200, .inl f15)), (r 9, .inl ((cT 0), 1400, .inl f9)), (r 12, .inl ((cT 0), 1200, .inl f12)), (r 3, .inl ((cT 0), 160, .inl f3)), (r 4, .inl ((cT 0), 4, .inl f4)), (r 0, .inl ((cT 1), 64, .inr (.inl f0))), (r 11, .inl ((cT 0), 16, .inl f11)), (r 13, .inl ((cT 0), 200, .inl f13)), (r 7, .inl ((cT 0), 1000, .inl f7)), (r 18, .inl ((cT 0), 41, .inl f18)), (r 19, .inl ((cT 0), 41, .inl f19)), (r 20, .inl ((cT 0), 41, .inl f20)), (r 21, .inl ((cT 0), 41, .inl f21)), (r 22, .inl ((cT 0), 8200, .inl f22)), (r 23, .inl ((cT 0), 656, .inl f23)), (r 34, .inl ((cT 0), 50, .inl f34)), (r 35, .inl ((cT 0), 50, .inl f35)), (r 36, .inl ((cT 0), 800, .inl f36)), (r 37, .inl ((cT 0), 50, .inl f37)), (r 38, .inl ((cT 0), 50, .inl f38)), (r 39, .inl ((cT 0), 50, .inl f39)), (r 40, .inl ((cT 0), 50, .inl f40)), (r 41, .inl ((cT 1), 50, .inr (.inl f41))), (r 42, .inl ((cT 1), 50, .inr (.inl f42)))]) [23, 0, 1, 2, 3, 4, 5, 6, 7, 24, 8, 9, 10, 11, 12, 13, 14, 15, 16, 17, 18, 19, 20, 21, 22] rfl
    have hD9 := hD.sub (ws' := [(mo, .inr (12, mdG r cd tm (nI sn) (nI 0) (nI lz) (nI az) (nI na) (nI nt) (nI nr) mw ml mk dq)), (r 15, .inl ((cT 0), 200, .inl f15)), (r 9, .inl ((cT 0), 1400, .inl f9)), (r 12, .inl ((cT 0), 1200, .inl f12)), (r 3, .inl ((cT 0), 160, .inl f3)), (r 4, .inl ((cT 0), 4, .inl f4)), (r 0, .inl ((cT 1), 64, .inr (.inl f0))), (r 11, .inl ((cT 0), 16, .inl f11)), (r 13, .inl ((cT 0), 200, .inl f13)), (r 7, .inl ((cT 0), 1000, .inl f7)), (r 18, .inl ((cT 0), 41, .inl f18)), (r 19, .inl ((cT 0), 41, .inl f19)), (r 20, .inl ((cT 0), 41, .inl f20)), (r 21, .inl ((cT 0), 41, .inl f21)), (r 22, .inl ((cT 0), 8200, .inl f22)), (r 23, .inl ((cT 0), 656, .inl f23)), (r 34, .inl ((cT 0), 50, .inl f34)), (r 35, .inl ((cT 0), 50, .inl f35)), (r 36, .inl ((cT 0), 800, .inl f36)), (r 37, .inl ((cT 0), 50, .inl f37)), (r 38, .inl ((cT 0), 50, .inl f38)), (r 39, .inl ((cT 0), 50, .inl f39)), (r 40, .inl ((cT 0), 50, .inl f40)), (r 41, .inl ((cT 1), 50, .inr (.inl f41))), (r 42, .inl ((cT 1), 50, .inr (.inl f42)))]) [23, 0, 1, 2, 3, 4, 5, 6, 7, 24, 8, 9, 10, 11, 12, 13, 14, 15, 16, 17, 18, 19, 20, 21, 22] (by decide) rfl
    exact W.iret (v := (-5)) hx hb hr (fun t ht hW => ⟨⟨_, ⟨f15, f9, f12, f11, f13, f18, f19, f20, f21, f22, f23, f34, f35, f36, f37, f38, f39, f40, f41, f42, az, lz, na, mw, nr⟩, rfl, ⟨by first | assumption | omega, by first | assumption | omega, by first | assumption | omega, by first | assumption | omega, by first | assumption | omega, by first | assumption | omega, by first | assumption | omega⟩, by rw [ht]; exact hP9, va_K.moved hW.alike hK, hD9⟩, hS.F ht⟩) hS.2.2 d_Md_write_48
  · skip
    refine lv_topi (fun x202 e201 => ?_)
    obtain rfl : x202 = 1 := by rw [e201]; exact h8z
    have hs1 := rsb_1 (by have := hh1.2.2.2.1; omega) hh1.2.2.2.2.2
    have hb1 := hh1.2.2.2.1; have hc1 := hh1.2.1
    refine lv_if_eq (tgt := 46) hx hb d_Md_write_12 (by decide) (fun hn9 => absurd hn9 (by decide)) (fun hc203 => ?_)
    refine lv_aload_n hx hb d_Md_write_15 rfl (lv_at hl 1 rfl) ?_
    refine lv_bipush (v := 44) hx hb d_Md_write_16 (by decide) ?_
    have hPc := hP.sub (ws' := [(mo, .inr (12, mdG r cd tm (nI sn) (nI 0) (nI lz) (nI az) (nI na) (nI nt) (nI nr) mw ml mk dq)), (r 7, .inl ((cT 0), 1000, .inl f7))]) [23, 24] rfl
    have hDc := hD.sub (ws' := [(mo, .inr (12, mdG r cd tm (nI sn) (nI 0) (nI lz) (nI az) (nI na) (nI nt) (nI nr) mw ml mk dq)), (r 7, .inl ((cT 0), 1000, .inl f7))]) [23, 24] (by decide) rfl
    have hFc := va_free (wc := [(mo, .inr (12, mdG r cd tm (nI sn) (nI 0) (nI lz) (nI az) (nI na) (nI nt) (nI nr) mw ml mk dq)), (r 7, .inl ((cT 0), 1000, .inl f7))]) hD hS hA [23, 24] rfl
    refine va_calli (va_runV (C := "DoorServerModel") (As := [.int 44]) (rest := []) ⟨hx, hb, hml, hown, hg⟩ (m_has l dC dI cT H.size mo r cd tm sn 0 lz az na nt nr mw ml mk dq f7 44 (by first | assumption | omega) (by first | assumption | omega) (by first | assumption | omega)) (cwV 1 hg (gI (List.forall_mem_append.mpr ⟨List.forall_mem_cons.mpr ⟨k_1305, List.forall_mem_cons.mpr ⟨k_1307, List.forall_mem_cons.mpr ⟨(big_sel (q := y_Md_has) (n := 45) (by decide +kernel)), List.forall_mem_cons.mpr ⟨k_13, fun _ h => absurd h List.not_mem_nil⟩⟩⟩⟩, List.forall_mem_cons.mpr ⟨k_1308, fun _ h => h⟩⟩)) rfl rfl rfl (by decide +kernel) ⟨Nat.le_of_ble_eq_true rfl, Nat.le_of_ble_eq_true rfl⟩) ⟨fun a U g mk q => by obtain ⟨q0, q1, qP, qK, qD⟩ := q; exact ⟨q0, q1, qP, va_K.moved (u := U) (U := U.calling g mk a) (Vm.Alike.refl U.vm) qK, qD⟩, va_recv (q0 := 23) (ci := 12) hK hP rfl rfl, fun U hU hW => ⟨rfl, by rw [hU], by rw [hU]; exact hPc, va_K.moved hW.alike hK, hDc.weaken (fun _ _ _ _ => trivial)⟩⟩ rfl rfl hl.1 rfl (lv_room (Nat.le_of_ble_eq_true rfl)) d_Md_write_18 ⟨Nat.le_of_ble_eq_true rfl, Nat.le_of_ble_eq_true rfl⟩) hS (fun q _ h => hFc q h) hFc (fun rv9 u t H1 locs ht hvm hw hB hz1 hk1 hS => ?_)
    try dsimp only at hw hB
    obtain ⟨hP1, hK1, hD1⟩ := hB
    rw [ht] at hP1
    generalize rv9 = r204 at hw ⊢
    obtain ⟨hP, hD⟩ := va_join (wr := [(r 15, .inl ((cT 0), 200, .inl f15)), (r 9, .inl ((cT 0), 1400, .inl f9)), (r 12, .inl ((cT 0), 1200, .inl f12)), (r 3, .inl ((cT 0), 160, .inl f3)), (r 4, .inl ((cT 0), 4, .inl f4)), (r 0, .inl ((cT 1), 64, .inr (.inl f0))), (r 11, .inl ((cT 0), 16, .inl f11)), (r 13, .inl ((cT 0), 200, .inl f13)), (r 18, .inl ((cT 0), 41, .inl f18)), (r 19, .inl ((cT 0), 41, .inl f19)), (r 20, .inl ((cT 0), 41, .inl f20)), (r 21, .inl ((cT 0), 41, .inl f21)), (r 22, .inl ((cT 0), 8200, .inl f22)), (r 23, .inl ((cT 0), 656, .inl f23)), (r 34, .inl ((cT 0), 50, .inl f34)), (r 35, .inl ((cT 0), 50, .inl f35)), (r 36, .inl ((cT 0), 800, .inl f36)), (r 37, .inl ((cT 0), 50, .inl f37)), (r 38, .inl ((cT 0), 50, .inl f38)), (r 39, .inl ((cT 0), 50, .inl f39)), (r 40, .inl ((cT 0), 50, .inl f40)), (r 41, .inl ((cT 1), 50, .inr (.inl f41))), (r 42, .inl ((cT 1), 50, .inr (.inl f42)))]) (w1 := [(mo, .inr (12, mdG r cd tm (nI sn) (nI 0) (nI lz) (nI az) (nI na) (nI nt) (nI nr) mw ml mk dq)), (r 7, .inl ((cT 0), 1000, .inl f7))]) hP hD [23, 24] [0, 1, 2, 3, 4, 5, 6, 7, 8, 9, 10, 11, 12, 13, 14, 15, 16, 17, 18, 19, 20, 21, 22] rfl rfl (by decide) (by decide) hk1 hFc hP1 hD1
    have hw205 := hw
    clear hPc hDc hFc hz1 hk1 hP1 hK1 hD1
    generalize H1 = H at hP hS ⊢
    have hP : va_P (dC, dI) vcl [(r 15, .inl ((cT 0), 200, .inl f15)), (r 9, .inl ((cT 0), 1400, .inl f9)), (r 12, .inl ((cT 0), 1200, .inl f12)), (r 3, .inl ((cT 0), 160, .inl f3)), (r 4, .inl ((cT 0), 4, .inl f4)), (r 0, .inl ((cT 1), 64, .inr (.inl f0))), (r 11, .inl ((cT 0), 16, .inl f11)), (r 13, .inl ((cT 0), 200, .inl f13)), (r 18, .inl ((cT 0), 41, .inl f18)), (r 19, .inl ((cT 0), 41, .inl f19)), (r 20, .inl ((cT 0), 41, .inl f20)), (r 21, .inl ((cT 0), 41, .inl f21)), (r 22, .inl ((cT 0), 8200, .inl f22)), (r 23, .inl ((cT 0), 656, .inl f23)), (r 34, .inl ((cT 0), 50, .inl f34)), (r 35, .inl ((cT 0), 50, .inl f35)), (r 36, .inl ((cT 0), 800, .inl f36)), (r 37, .inl ((cT 0), 50, .inl f37)), (r 38, .inl ((cT 0), 50, .inl f38)), (r 39, .inl ((cT 0), 50, .inl f39)), (r 40, .inl ((cT 0), 50, .inl f40)), (r 41, .inl ((cT 1), 50, .inr (.inl f41))), (r 42, .inl ((cT 1), 50, .inr (.inl f42))), (mo, .inr (12, mdG r cd tm (nI sn) (nI 0) (nI lz) (nI az) (nI na) (nI nt) (nI nr) mw ml mk dq)), (r 7, .inl ((cT 0), 1000, .inl f7))] H := hP
    have hD : va_D A [(r 15, .inl ((cT 0), 200, .inl f15)), (r 9, .inl ((cT 0), 1400, .inl f9)), (r 12, .inl ((cT 0), 1200, .inl f12)), (r 3, .inl ((cT 0), 160, .inl f3)), (r 4, .inl ((cT 0), 4, .inl f4)), (r 0, .inl ((cT 1), 64, .inr (.inl f0))), (r 11, .inl ((cT 0), 16, .inl f11)), (r 13, .inl ((cT 0), 200, .inl f13)), (r 18, .inl ((cT 0), 41, .inl f18)), (r 19, .inl ((cT 0), 41, .inl f19)), (r 20, .inl ((cT 0), 41, .inl f20)), (r 21, .inl ((cT 0), 41, .inl f21)), (r 22, .inl ((cT 0), 8200, .inl f22)), (r 23, .inl ((cT 0), 656, .inl f23)), (r 34, .inl ((cT 0), 50, .inl f34)), (r 35, .inl ((cT 0), 50, .inl f35)), (r 36, .inl ((cT 0), 800, .inl f36)), (r 37, .inl ((cT 0), 50, .inl f37)), (r 38, .inl ((cT 0), 50, .inl f38)), (r 39, .inl ((cT 0), 50, .inl f39)), (r 40, .inl ((cT 0), 50, .inl f40)), (r 41, .inl ((cT 1), 50, .inr (.inl f41))), (r 42, .inl ((cT 1), 50, .inr (.inl f42))), (mo, .inr (12, mdG r cd tm (nI sn) (nI 0) (nI lz) (nI az) (nI na) (nI nt) (nI nr) mw ml mk dq)), (r 7, .inl ((cT 0), 1000, .inl f7))] := hD
    have k206 := hw205
    rcases k206 with ⟨h8z, hno44⟩ | ⟨h8z, pa44, pn44, hh44⟩
    · skip
      refine lv_topi (fun x208 e207 => ?_)
      obtain rfl : x208 = 0 := by rw [e207]; exact h8z
      refine lv_if_eq (tgt := 46) hx hb d_Md_write_21 (by decide) (fun hc209 => ?_) (fun hn9 => absurd (by decide) hn9)
      refine lv_bipush (v := (-5)) hx hb d_Md_write_46 (by decide) ?_
      have hP9 := hP.sub (ws' := [(mo, .inr (12, mdG r cd tm (nI sn) (nI 0) (nI lz) (nI az) (nI na) (nI nt) (nI nr) mw ml mk dq)), (r 15, .inl ((cT 0), 200, .inl f15)), (r 9, .inl ((cT 0), 1400, .inl f9)), (r 12, .inl ((cT 0), 1200, .inl f12)), (r 3, .inl ((cT 0), 160, .inl f3)), (r 4, .inl ((cT 0), 4, .inl f4)), (r 0, .inl ((cT 1), 64, .inr (.inl f0))), (r 11, .inl ((cT 0), 16, .inl f11)), (r 13, .inl ((cT 0), 200, .inl f13)), (r 7, .inl ((cT 0), 1000, .inl f7)), (r 18, .inl ((cT 0), 41, .inl f18)), (r 19, .inl ((cT 0), 41, .inl f19)), (r 20, .inl ((cT 0), 41, .inl f20)), (r 21, .inl ((cT 0), 41, .inl f21)), (r 22, .inl ((cT 0), 8200, .inl f22)), (r 23, .inl ((cT 0), 656, .inl f23)), (r 34, .inl ((cT 0), 50, .inl f34)), (r 35, .inl ((cT 0), 50, .inl f35)), (r 36, .inl ((cT 0), 800, .inl f36)), (r 37, .inl ((cT 0), 50, .inl f37)), (r 38, .inl ((cT 0), 50, .inl f38)), (r 39, .inl ((cT 0), 50, .inl f39)), (r 40, .inl ((cT 0), 50, .inl f40)), (r 41, .inl ((cT 1), 50, .inr (.inl f41))), (r 42, .inl ((cT 1), 50, .inr (.inl f42)))]) [23, 0, 1, 2, 3, 4, 5, 6, 7, 24, 8, 9, 10, 11, 12, 13, 14, 15, 16, 17, 18, 19, 20, 21, 22] rfl
      have hD9 := hD.sub (ws' := [(mo, .inr (12, mdG r cd tm (nI sn) (nI 0) (nI lz) (nI az) (nI na) (nI nt) (nI nr) mw ml mk dq)), (r 15, .inl ((cT 0), 200, .inl f15)), (r 9, .inl ((cT 0), 1400, .inl f9)), (r 12, .inl ((cT 0), 1200, .inl f12)), (r 3, .inl ((cT 0), 160, .inl f3)), (r 4, .inl ((cT 0), 4, .inl f4)), (r 0, .inl ((cT 1), 64, .inr (.inl f0))), (r 11, .inl ((cT 0), 16, .inl f11)), (r 13, .inl ((cT 0), 200, .inl f13)), (r 7, .inl ((cT 0), 1000, .inl f7)), (r 18, .inl ((cT 0), 41, .inl f18)), (r 19, .inl ((cT 0), 41, .inl f19)), (r 20, .inl ((cT 0), 41, .inl f20)), (r 21, .inl ((cT 0), 41, .inl f21)), (r 22, .inl ((cT 0), 8200, .inl f22)), (r 23, .inl ((cT 0), 656, .inl f23)), (r 34, .inl ((cT 0), 50, .inl f34)), (r 35, .inl ((cT 0), 50, .inl f35)), (r 36, .inl ((cT 0), 800, .inl f36)), (r 37, .inl ((cT 0), 50, .inl f37)), (r 38, .inl ((cT 0), 50, .inl f38)), (r 39, .inl ((cT 0), 50, .inl f39)), (r 40, .inl ((cT 0), 50, .inl f40)), (r 41, .inl ((cT 1), 50, .inr (.inl f41))), (r 42, .inl ((cT 1), 50, .inr (.inl f42)))]) [23, 0, 1, 2, 3, 4, 5, 6, 7, 24, 8, 9, 10, 11, 12, 13, 14, 15, 16, 17, 18, 19, 20, 21, 22] (by decide) rfl
      exact W.iret (v := (-5)) hx hb hr (fun t ht hW => ⟨⟨_, ⟨f15, f9, f12, f11, f13, f18, f19, f20, f21, f22, f23, f34, f35, f36, f37, f38, f39, f40, f41, f42, az, lz, na, mw, nr⟩, rfl, ⟨by first | assumption | omega, by first | assumption | omega, by first | assumption | omega, by first | assumption | omega, by first | assumption | omega, by first | assumption | omega, by first | assumption | omega⟩, by rw [ht]; exact hP9, va_K.moved hW.alike hK, hD9⟩, hS.F ht⟩) hS.2.2 d_Md_write_48
    · skip
      refine lv_topi (fun x211 e210 => ?_)
      obtain rfl : x211 = 1 := by rw [e210]; exact h8z
      have hs44 := rsb_44 (by have := hh44.2.2.2.1; omega) hh44.2.2.2.2.2
      have hb44 := hh44.2.2.2.1; have hc44 := hh44.2.1
      refine lv_if_eq (tgt := 46) hx hb d_Md_write_21 (by decide) (fun hn9 => absurd hn9 (by decide)) (fun hc212 => ?_)
      have K213 : ∀  (H : Heap) (locs : List Loc) (ls : Array Slot), va_P (dC, dI) vcl [(r 15, .inl ((cT 0), 200, .inl f15)), (r 9, .inl ((cT 0), 1400, .inl f9)), (r 12, .inl ((cT 0), 1200, .inl f12)), (r 3, .inl ((cT 0), 160, .inl f3)), (r 4, .inl ((cT 0), 4, .inl f4)), (r 0, .inl ((cT 1), 64, .inr (.inl f0))), (r 11, .inl ((cT 0), 16, .inl f11)), (r 13, .inl ((cT 0), 200, .inl f13)), (r 18, .inl ((cT 0), 41, .inl f18)), (r 19, .inl ((cT 0), 41, .inl f19)), (r 20, .inl ((cT 0), 41, .inl f20)), (r 21, .inl ((cT 0), 41, .inl f21)), (r 22, .inl ((cT 0), 8200, .inl f22)), (r 23, .inl ((cT 0), 656, .inl f23)), (r 34, .inl ((cT 0), 50, .inl f34)), (r 35, .inl ((cT 0), 50, .inl f35)), (r 36, .inl ((cT 0), 800, .inl f36)), (r 37, .inl ((cT 0), 50, .inl f37)), (r 38, .inl ((cT 0), 50, .inl f38)), (r 39, .inl ((cT 0), 50, .inl f39)), (r 40, .inl ((cT 0), 50, .inl f40)), (r 41, .inl ((cT 1), 50, .inr (.inl f41))), (r 42, .inl ((cT 1), 50, .inr (.inl f42))), (mo, .inr (12, mdG r cd tm (nI sn) (nI 0) (nI lz) (nI az) (nI na) (nI nt) (nI nr) mw ml mk dq)), (r 7, .inl ((cT 0), 1000, .inl f7))] H → va_D A [(r 15, .inl ((cT 0), 200, .inl f15)), (r 9, .inl ((cT 0), 1400, .inl f9)), (r 12, .inl ((cT 0), 1200, .inl f12)), (r 3, .inl ((cT 0), 160, .inl f3)), (r 4, .inl ((cT 0), 4, .inl f4)), (r 0, .inl ((cT 1), 64, .inr (.inl f0))), (r 11, .inl ((cT 0), 16, .inl f11)), (r 13, .inl ((cT 0), 200, .inl f13)), (r 18, .inl ((cT 0), 41, .inl f18)), (r 19, .inl ((cT 0), 41, .inl f19)), (r 20, .inl ((cT 0), 41, .inl f20)), (r 21, .inl ((cT 0), 41, .inl f21)), (r 22, .inl ((cT 0), 8200, .inl f22)), (r 23, .inl ((cT 0), 656, .inl f23)), (r 34, .inl ((cT 0), 50, .inl f34)), (r 35, .inl ((cT 0), 50, .inl f35)), (r 36, .inl ((cT 0), 800, .inl f36)), (r 37, .inl ((cT 0), 50, .inl f37)), (r 38, .inl ((cT 0), 50, .inl f38)), (r 39, .inl ((cT 0), 50, .inl f39)), (r 40, .inl ((cT 0), 50, .inl f40)), (r 41, .inl ((cT 1), 50, .inr (.inl f41))), (r 42, .inl ((cT 1), 50, .inr (.inl f42))), (mo, .inr (12, mdG r cd tm (nI sn) (nI 0) (nI lz) (nI az) (nI na) (nI nt) (nI nr) mw ml mk dq)), (r 7, .inl ((cT 0), 1000, .inl f7))] → va_S A s.heap H locs → lv_has ls 7 [(0, .ref mo), (1, .int (nI st)), (2, .long r193)] → W p l e ({ frames := 4, cells := 0, slots := 0, locals := 120 } : Room) s m args below meth c H locs 0 0 (MQ below (va_Qi (S := (Nat → Int32) × (Nat → Int32) × (Nat → Int32) × (Nat → Int32) × (Nat → Int32) × (Nat → Int32) × (Nat → Int32) × (Nat → Int32) × (Nat → Int32) × (Nat → Int32) × (Nat → Int32) × (Nat → Int32) × (Nat → Int32) × (Nat → Int32) × (Nat → Int32) × (Nat → Int32) × (Nat → Int32) × (Nat → Int32) × (Nat → Int64) × (Nat → Int64) × Nat × Nat × Nat × Int32 × Nat) (fun rv9 u => match u with | (g15, g9, g12, g11, g13, g18, g19, g20, g21, g22, g23, g34, g35, g36, g37, g38, g39, g40, g41, g42, az2, lz2, na2, mw2, nr2) => (az2 ≤ 200) ∧ (lz2 ≤ 200) ∧ (na2 ≤ 40) ∧ (AB g11) ∧ (BD 200 41 g21) ∧ (nr2 ≤ 50) ∧ (BD 16 50 g35)) (fun u t => match u with | (g15, g9, g12, g11, g13, g18, g19, g20, g21, g22, g23, g34, g35, g36, g37, g38, g39, g40, g41, g42, az2, lz2, na2, mw2, nr2) => va_P (dC, dI) vcl [(mo, .inr (12, mdG r cd tm (nI sn) (nI 0) (nI lz2) (nI az2) (nI na2) (nI nt) (nI nr2) mw2 ml mk dq)), (r 15, .inl ((cT 0), 200, .inl g15)), (r 9, .inl ((cT 0), 1400, .inl g9)), (r 12, .inl ((cT 0), 1200, .inl g12)), (r 3, .inl ((cT 0), 160, .inl f3)), (r 4, .inl ((cT 0), 4, .inl f4)), (r 0, .inl ((cT 1), 64, .inr (.inl f0))), (r 11, .inl ((cT 0), 16, .inl g11)), (r 13, .inl ((cT 0), 200, .inl g13)), (r 7, .inl ((cT 0), 1000, .inl f7)), (r 18, .inl ((cT 0), 41, .inl g18)), (r 19, .inl ((cT 0), 41, .inl g19)), (r 20, .inl ((cT 0), 41, .inl g20)), (r 21, .inl ((cT 0), 41, .inl g21)), (r 22, .inl ((cT 0), 8200, .inl g22)), (r 23, .inl ((cT 0), 656, .inl g23)), (r 34, .inl ((cT 0), 50, .inl g34)), (r 35, .inl ((cT 0), 50, .inl g35)), (r 36, .inl ((cT 0), 800, .inl g36)), (r 37, .inl ((cT 0), 50, .inl g37)), (r 38, .inl ((cT 0), 50, .inl g38)), (r 39, .inl ((cT 0), 50, .inl g39)), (r 40, .inl ((cT 0), 50, .inl g40)), (r 41, .inl ((cT 1), 50, .inr (.inl g41))), (r 42, .inl ((cT 1), 50, .inr (.inl g42)))] t.heap ∧ va_K (dC, dI) vcl (tyL cT) t ∧ va_D A [(mo, .inr (12, mdG r cd tm (nI sn) (nI 0) (nI lz2) (nI az2) (nI na2) (nI nt) (nI nr2) mw2 ml mk dq)), (r 15, .inl ((cT 0), 200, .inl g15)), (r 9, .inl ((cT 0), 1400, .inl g9)), (r 12, .inl ((cT 0), 1200, .inl g12)), (r 3, .inl ((cT 0), 160, .inl f3)), (r 4, .inl ((cT 0), 4, .inl f4)), (r 0, .inl ((cT 1), 64, .inr (.inl f0))), (r 11, .inl ((cT 0), 16, .inl g11)), (r 13, .inl ((cT 0), 200, .inl g13)), (r 7, .inl ((cT 0), 1000, .inl f7)), (r 18, .inl ((cT 0), 41, .inl g18)), (r 19, .inl ((cT 0), 41, .inl g19)), (r 20, .inl ((cT 0), 41, .inl g20)), (r 21, .inl ((cT 0), 41, .inl g21)), (r 22, .inl ((cT 0), 8200, .inl g22)), (r 23, .inl ((cT 0), 656, .inl g23)), (r 34, .inl ((cT 0), 50, .inl g34)), (r 35, .inl ((cT 0), 50, .inl g35)), (r 36, .inl ((cT 0), 800, .inl g36)), (r 37, .inl ((cT 0), 50, .inl g37)), (r 38, .inl ((cT 0), 50, .inl g38)), (r 39, .inl ((cT 0), 50, .inl g39)), (r 40, .inl ((cT 0), 50, .inl g40)), (r 41, .inl ((cT 1), 50, .inr (.inl g41))), (r 42, .inl ((cT 1), 50, .inr (.inl g42)))]) A) args s 0 0 A) (F0 m 49 ls []) := by
        intro  H locs ls  hP hD hS hl
        have K214 : ∀ (g34_215 : Nat → Int32) (g35_216 : Nat → Int32) (g36_217 : Nat → Int32) (g37_218 : Nat → Int32) (g38_219 : Nat → Int32) (g39_220 : Nat → Int32) (g40_221 : Nat → Int32) (g41_222 : Nat → Int64) (g42_223 : Nat → Int64) (nv : Nat) (rx : Int32) (H : Heap) (locs : List Loc) (ls : Array Slot), (nv ≤ 50) → (rx = -1 ∨ ∃ a : Nat, rx = nI a ∧ a < 50) → (BD 16 50 g35_216) → va_P (dC, dI) vcl [(r 15, .inl ((cT 0), 200, .inl f15)), (r 9, .inl ((cT 0), 1400, .inl f9)), (r 12, .inl ((cT 0), 1200, .inl f12)), (r 3, .inl ((cT 0), 160, .inl f3)), (r 4, .inl ((cT 0), 4, .inl f4)), (r 0, .inl ((cT 1), 64, .inr (.inl f0))), (r 11, .inl ((cT 0), 16, .inl f11)), (r 13, .inl ((cT 0), 200, .inl f13)), (r 18, .inl ((cT 0), 41, .inl f18)), (r 19, .inl ((cT 0), 41, .inl f19)), (r 20, .inl ((cT 0), 41, .inl f20)), (r 21, .inl ((cT 0), 41, .inl f21)), (r 22, .inl ((cT 0), 8200, .inl f22)), (r 23, .inl ((cT 0), 656, .inl f23)), (r 34, .inl ((cT 0), 50, .inl g34_215)), (r 35, .inl ((cT 0), 50, .inl g35_216)), (r 36, .inl ((cT 0), 800, .inl g36_217)), (r 37, .inl ((cT 0), 50, .inl g37_218)), (r 38, .inl ((cT 0), 50, .inl g38_219)), (r 39, .inl ((cT 0), 50, .inl g39_220)), (r 40, .inl ((cT 0), 50, .inl g40_221)), (r 41, .inl ((cT 1), 50, .inr (.inl g41_222))), (r 42, .inl ((cT 1), 50, .inr (.inl g42_223))), (mo, .inr (12, mdG r cd tm (nI sn) (nI 0) (nI lz) (nI az) (nI na) (nI nt) (nI (nv)) mw ml mk dq)), (r 7, .inl ((cT 0), 1000, .inl f7))] H → va_D A [(r 15, .inl ((cT 0), 200, .inl f15)), (r 9, .inl ((cT 0), 1400, .inl f9)), (r 12, .inl ((cT 0), 1200, .inl f12)), (r 3, .inl ((cT 0), 160, .inl f3)), (r 4, .inl ((cT 0), 4, .inl f4)), (r 0, .inl ((cT 1), 64, .inr (.inl f0))), (r 11, .inl ((cT 0), 16, .inl f11)), (r 13, .inl ((cT 0), 200, .inl f13)), (r 18, .inl ((cT 0), 41, .inl f18)), (r 19, .inl ((cT 0), 41, .inl f19)), (r 20, .inl ((cT 0), 41, .inl f20)), (r 21, .inl ((cT 0), 41, .inl f21)), (r 22, .inl ((cT 0), 8200, .inl f22)), (r 23, .inl ((cT 0), 656, .inl f23)), (r 34, .inl ((cT 0), 50, .inl g34_215)), (r 35, .inl ((cT 0), 50, .inl g35_216)), (r 36, .inl ((cT 0), 800, .inl g36_217)), (r 37, .inl ((cT 0), 50, .inl g37_218)), (r 38, .inl ((cT 0), 50, .inl g38_219)), (r 39, .inl ((cT 0), 50, .inl g39_220)), (r 40, .inl ((cT 0), 50, .inl g40_221)), (r 41, .inl ((cT 1), 50, .inr (.inl g41_222))), (r 42, .inl ((cT 1), 50, .inr (.inl g42_223))), (mo, .inr (12, mdG r cd tm (nI sn) (nI 0) (nI lz) (nI az) (nI na) (nI nt) (nI (nv)) mw ml mk dq)), (r 7, .inl ((cT 0), 1000, .inl f7))] → va_S A s.heap H locs → lv_has ls 7 [(4, .int rx), (0, .ref mo), (1, .int (nI st)), (2, .long r193)] → W p l e ({ frames := 4, cells := 0, slots := 0, locals := 120 } : Room) s m args below meth c H locs 0 0 (MQ below (va_Qi (S := (Nat → Int32) × (Nat → Int32) × (Nat → Int32) × (Nat → Int32) × (Nat → Int32) × (Nat → Int32) × (Nat → Int32) × (Nat → Int32) × (Nat → Int32) × (Nat → Int32) × (Nat → Int32) × (Nat → Int32) × (Nat → Int32) × (Nat → Int32) × (Nat → Int32) × (Nat → Int32) × (Nat → Int32) × (Nat → Int32) × (Nat → Int64) × (Nat → Int64) × Nat × Nat × Nat × Int32 × Nat) (fun rv9 u => match u with | (g15, g9, g12, g11, g13, g18, g19, g20, g21, g22, g23, g34, g35, g36, g37, g38, g39, g40, g41, g42, az2, lz2, na2, mw2, nr2) => (az2 ≤ 200) ∧ (lz2 ≤ 200) ∧ (na2 ≤ 40) ∧ (AB g11) ∧ (BD 200 41 g21) ∧ (nr2 ≤ 50) ∧ (BD 16 50 g35)) (fun u t => match u with | (g15, g9, g12, g11, g13, g18, g19, g20, g21, g22, g23, g34, g35, g36, g37, g38, g39, g40, g41, g42, az2, lz2, na2, mw2, nr2) => va_P (dC, dI) vcl [(mo, .inr (12, mdG r cd tm (nI sn) (nI 0) (nI lz2) (nI az2) (nI na2) (nI nt) (nI nr2) mw2 ml mk dq)), (r 15, .inl ((cT 0), 200, .inl g15)), (r 9, .inl ((cT 0), 1400, .inl g9)), (r 12, .inl ((cT 0), 1200, .inl g12)), (r 3, .inl ((cT 0), 160, .inl f3)), (r 4, .inl ((cT 0), 4, .inl f4)), (r 0, .inl ((cT 1), 64, .inr (.inl f0))), (r 11, .inl ((cT 0), 16, .inl g11)), (r 13, .inl ((cT 0), 200, .inl g13)), (r 7, .inl ((cT 0), 1000, .inl f7)), (r 18, .inl ((cT 0), 41, .inl g18)), (r 19, .inl ((cT 0), 41, .inl g19)), (r 20, .inl ((cT 0), 41, .inl g20)), (r 21, .inl ((cT 0), 41, .inl g21)), (r 22, .inl ((cT 0), 8200, .inl g22)), (r 23, .inl ((cT 0), 656, .inl g23)), (r 34, .inl ((cT 0), 50, .inl g34)), (r 35, .inl ((cT 0), 50, .inl g35)), (r 36, .inl ((cT 0), 800, .inl g36)), (r 37, .inl ((cT 0), 50, .inl g37)), (r 38, .inl ((cT 0), 50, .inl g38)), (r 39, .inl ((cT 0), 50, .inl g39)), (r 40, .inl ((cT 0), 50, .inl g40)), (r 41, .inl ((cT 1), 50, .inr (.inl g41))), (r 42, .inl ((cT 1), 50, .inr (.inl g42)))] t.heap ∧ va_K (dC, dI) vcl (tyL cT) t ∧ va_D A [(mo, .inr (12, mdG r cd tm (nI sn) (nI 0) (nI lz2) (nI az2) (nI na2) (nI nt) (nI nr2) mw2 ml mk dq)), (r 15, .inl ((cT 0), 200, .inl g15)), (r 9, .inl ((cT 0), 1400, .inl g9)), (r 12, .inl ((cT 0), 1200, .inl g12)), (r 3, .inl ((cT 0), 160, .inl f3)), (r 4, .inl ((cT 0), 4, .inl f4)), (r 0, .inl ((cT 1), 64, .inr (.inl f0))), (r 11, .inl ((cT 0), 16, .inl g11)), (r 13, .inl ((cT 0), 200, .inl g13)), (r 7, .inl ((cT 0), 1000, .inl f7)), (r 18, .inl ((cT 0), 41, .inl g18)), (r 19, .inl ((cT 0), 41, .inl g19)), (r 20, .inl ((cT 0), 41, .inl g20)), (r 21, .inl ((cT 0), 41, .inl g21)), (r 22, .inl ((cT 0), 8200, .inl g22)), (r 23, .inl ((cT 0), 656, .inl g23)), (r 34, .inl ((cT 0), 50, .inl g34)), (r 35, .inl ((cT 0), 50, .inl g35)), (r 36, .inl ((cT 0), 800, .inl g36)), (r 37, .inl ((cT 0), 50, .inl g37)), (r 38, .inl ((cT 0), 50, .inl g38)), (r 39, .inl ((cT 0), 50, .inl g39)), (r 40, .inl ((cT 0), 50, .inl g40)), (r 41, .inl ((cT 1), 50, .inr (.inl g41))), (r 42, .inl ((cT 1), 50, .inr (.inl g42)))]) A) args s 0 0 A) (F0 m 238 ls []) := by
          intro g34_215 g35_216 g36_217 g37_218 g38_219 g39_220 g40_221 g41_222 g42_223 nv rx H locs ls hnv hrx hbd35 hP hD hS hl
          have K224 : ∀ (g38_225 : Nat → Int32) (g40_226 : Nat → Int32) (g41_227 : Nat → Int64) (g42_228 : Nat → Int64) (H : Heap) (locs : List Loc) (ls : Array Slot), va_P (dC, dI) vcl [(r 15, .inl ((cT 0), 200, .inl f15)), (r 9, .inl ((cT 0), 1400, .inl f9)), (r 12, .inl ((cT 0), 1200, .inl f12)), (r 3, .inl ((cT 0), 160, .inl f3)), (r 4, .inl ((cT 0), 4, .inl f4)), (r 0, .inl ((cT 1), 64, .inr (.inl f0))), (r 11, .inl ((cT 0), 16, .inl f11)), (r 13, .inl ((cT 0), 200, .inl f13)), (r 18, .inl ((cT 0), 41, .inl f18)), (r 19, .inl ((cT 0), 41, .inl f19)), (r 20, .inl ((cT 0), 41, .inl f20)), (r 21, .inl ((cT 0), 41, .inl f21)), (r 22, .inl ((cT 0), 8200, .inl f22)), (r 23, .inl ((cT 0), 656, .inl f23)), (r 34, .inl ((cT 0), 50, .inl g34_215)), (r 35, .inl ((cT 0), 50, .inl g35_216)), (r 36, .inl ((cT 0), 800, .inl g36_217)), (r 37, .inl ((cT 0), 50, .inl g37_218)), (r 38, .inl ((cT 0), 50, .inl g38_225)), (r 39, .inl ((cT 0), 50, .inl g39_220)), (r 40, .inl ((cT 0), 50, .inl g40_226)), (r 41, .inl ((cT 1), 50, .inr (.inl g41_227))), (r 42, .inl ((cT 1), 50, .inr (.inl g42_228))), (mo, .inr (12, mdG r cd tm (nI sn) (nI 0) (nI lz) (nI az) (nI na) (nI nt) (nI (nv)) mw ml mk dq)), (r 7, .inl ((cT 0), 1000, .inl f7))] H → va_D A [(r 15, .inl ((cT 0), 200, .inl f15)), (r 9, .inl ((cT 0), 1400, .inl f9)), (r 12, .inl ((cT 0), 1200, .inl f12)), (r 3, .inl ((cT 0), 160, .inl f3)), (r 4, .inl ((cT 0), 4, .inl f4)), (r 0, .inl ((cT 1), 64, .inr (.inl f0))), (r 11, .inl ((cT 0), 16, .inl f11)), (r 13, .inl ((cT 0), 200, .inl f13)), (r 18, .inl ((cT 0), 41, .inl f18)), (r 19, .inl ((cT 0), 41, .inl f19)), (r 20, .inl ((cT 0), 41, .inl f20)), (r 21, .inl ((cT 0), 41, .inl f21)), (r 22, .inl ((cT 0), 8200, .inl f22)), (r 23, .inl ((cT 0), 656, .inl f23)), (r 34, .inl ((cT 0), 50, .inl g34_215)), (r 35, .inl ((cT 0), 50, .inl g35_216)), (r 36, .inl ((cT 0), 800, .inl g36_217)), (r 37, .inl ((cT 0), 50, .inl g37_218)), (r 38, .inl ((cT 0), 50, .inl g38_225)), (r 39, .inl ((cT 0), 50, .inl g39_220)), (r 40, .inl ((cT 0), 50, .inl g40_226)), (r 41, .inl ((cT 1), 50, .inr (.inl g41_227))), (r 42, .inl ((cT 1), 50, .inr (.inl g42_228))), (mo, .inr (12, mdG r cd tm (nI sn) (nI 0) (nI lz) (nI az) (nI na) (nI nt) (nI (nv)) mw ml mk dq)), (r 7, .inl ((cT 0), 1000, .inl f7))] → va_S A s.heap H locs → lv_has ls 7 [(0, .ref mo), (1, .int (nI st))] → W p l e ({ frames := 4, cells := 0, slots := 0, locals := 120 } : Room) s m args below meth c H locs 0 0 (MQ below (va_Qi (S := (Nat → Int32) × (Nat → Int32) × (Nat → Int32) × (Nat → Int32) × (Nat → Int32) × (Nat → Int32) × (Nat → Int32) × (Nat → Int32) × (Nat → Int32) × (Nat → Int32) × (Nat → Int32) × (Nat → Int32) × (Nat → Int32) × (Nat → Int32) × (Nat → Int32) × (Nat → Int32) × (Nat → Int32) × (Nat → Int32) × (Nat → Int64) × (Nat → Int64) × Nat × Nat × Nat × Int32 × Nat) (fun rv9 u => match u with | (g15, g9, g12, g11, g13, g18, g19, g20, g21, g22, g23, g34, g35, g36, g37, g38, g39, g40, g41, g42, az2, lz2, na2, mw2, nr2) => (az2 ≤ 200) ∧ (lz2 ≤ 200) ∧ (na2 ≤ 40) ∧ (AB g11) ∧ (BD 200 41 g21) ∧ (nr2 ≤ 50) ∧ (BD 16 50 g35)) (fun u t => match u with | (g15, g9, g12, g11, g13, g18, g19, g20, g21, g22, g23, g34, g35, g36, g37, g38, g39, g40, g41, g42, az2, lz2, na2, mw2, nr2) => va_P (dC, dI) vcl [(mo, .inr (12, mdG r cd tm (nI sn) (nI 0) (nI lz2) (nI az2) (nI na2) (nI nt) (nI nr2) mw2 ml mk dq)), (r 15, .inl ((cT 0), 200, .inl g15)), (r 9, .inl ((cT 0), 1400, .inl g9)), (r 12, .inl ((cT 0), 1200, .inl g12)), (r 3, .inl ((cT 0), 160, .inl f3)), (r 4, .inl ((cT 0), 4, .inl f4)), (r 0, .inl ((cT 1), 64, .inr (.inl f0))), (r 11, .inl ((cT 0), 16, .inl g11)), (r 13, .inl ((cT 0), 200, .inl g13)), (r 7, .inl ((cT 0), 1000, .inl f7)), (r 18, .inl ((cT 0), 41, .inl g18)), (r 19, .inl ((cT 0), 41, .inl g19)), (r 20, .inl ((cT 0), 41, .inl g20)), (r 21, .inl ((cT 0), 41, .inl g21)), (r 22, .inl ((cT 0), 8200, .inl g22)), (r 23, .inl ((cT 0), 656, .inl g23)), (r 34, .inl ((cT 0), 50, .inl g34)), (r 35, .inl ((cT 0), 50, .inl g35)), (r 36, .inl ((cT 0), 800, .inl g36)), (r 37, .inl ((cT 0), 50, .inl g37)), (r 38, .inl ((cT 0), 50, .inl g38)), (r 39, .inl ((cT 0), 50, .inl g39)), (r 40, .inl ((cT 0), 50, .inl g40)), (r 41, .inl ((cT 1), 50, .inr (.inl g41))), (r 42, .inl ((cT 1), 50, .inr (.inl g42)))] t.heap ∧ va_K (dC, dI) vcl (tyL cT) t ∧ va_D A [(mo, .inr (12, mdG r cd tm (nI sn) (nI 0) (nI lz2) (nI az2) (nI na2) (nI nt) (nI nr2) mw2 ml mk dq)), (r 15, .inl ((cT 0), 200, .inl g15)), (r 9, .inl ((cT 0), 1400, .inl g9)), (r 12, .inl ((cT 0), 1200, .inl g12)), (r 3, .inl ((cT 0), 160, .inl f3)), (r 4, .inl ((cT 0), 4, .inl f4)), (r 0, .inl ((cT 1), 64, .inr (.inl f0))), (r 11, .inl ((cT 0), 16, .inl g11)), (r 13, .inl ((cT 0), 200, .inl g13)), (r 7, .inl ((cT 0), 1000, .inl f7)), (r 18, .inl ((cT 0), 41, .inl g18)), (r 19, .inl ((cT 0), 41, .inl g19)), (r 20, .inl ((cT 0), 41, .inl g20)), (r 21, .inl ((cT 0), 41, .inl g21)), (r 22, .inl ((cT 0), 8200, .inl g22)), (r 23, .inl ((cT 0), 656, .inl g23)), (r 34, .inl ((cT 0), 50, .inl g34)), (r 35, .inl ((cT 0), 50, .inl g35)), (r 36, .inl ((cT 0), 800, .inl g36)), (r 37, .inl ((cT 0), 50, .inl g37)), (r 38, .inl ((cT 0), 50, .inl g38)), (r 39, .inl ((cT 0), 50, .inl g39)), (r 40, .inl ((cT 0), 50, .inl g40)), (r 41, .inl ((cT 1), 50, .inr (.inl g41))), (r 42, .inl ((cT 1), 50, .inr (.inl g42)))]) A) args s 0 0 A) (F0 m 370 ls []) := by
            intro g38_225 g40_226 g41_227 g42_228 H locs ls  hP hD hS hl
            refine lv_aload_n hx hb d_Md_write_370 rfl (lv_at hl 0 rfl) ?_
            refine lv_iconst (v := 5) hx hb d_Md_write_371 (by decide) ?_
            have hPc := hP.sub (ws' := [(mo, .inr (12, mdG r cd tm (nI sn) (nI 0) (nI lz) (nI az) (nI na) (nI nt) (nI nv) mw ml mk dq)), (r 7, .inl ((cT 0), 1000, .inl f7)), (r 15, .inl ((cT 0), 200, .inl f15))]) [23, 24, 0] rfl
            have hDc := hD.sub (ws' := [(mo, .inr (12, mdG r cd tm (nI sn) (nI 0) (nI lz) (nI az) (nI na) (nI nt) (nI nv) mw ml mk dq)), (r 7, .inl ((cT 0), 1000, .inl f7)), (r 15, .inl ((cT 0), 200, .inl f15))]) [23, 24, 0] (by decide) rfl
            have hFc := va_free (wc := [(mo, .inr (12, mdG r cd tm (nI sn) (nI 0) (nI lz) (nI az) (nI na) (nI nt) (nI nv) mw ml mk dq)), (r 7, .inl ((cT 0), 1000, .inl f7)), (r 15, .inl ((cT 0), 200, .inl f15))]) hD hS hA [23, 24, 0] rfl
            refine va_callv (va_runV (C := "DoorServerModel") (As := [.int 5]) (rest := []) ⟨hx, hb, hml, hown, hg⟩ (m_open l dC dI cT H.size mo r cd tm sn 0 lz az na nt nv mw ml mk dq f7 f15 5 ) (cwV 1 hg (gI (List.forall_mem_append.mpr ⟨List.forall_mem_cons.mpr ⟨k_1333, List.forall_mem_cons.mpr ⟨k_1335, List.forall_mem_cons.mpr ⟨(big_sel (q := y_Md_open) (n := 45) (by decide +kernel)), List.forall_mem_cons.mpr ⟨k_13, fun _ h => absurd h List.not_mem_nil⟩⟩⟩⟩, List.forall_mem_cons.mpr ⟨k_1336, fun _ h => h⟩⟩)) rfl rfl rfl (by decide +kernel) ⟨Nat.le_of_ble_eq_true rfl, Nat.le_of_ble_eq_true rfl⟩) ⟨fun a U g mk q => by obtain ⟨q0, q1, qP, qK, qD⟩ := q; exact ⟨q0, q1, qP, va_K.moved (u := U) (U := U.calling g mk a) (Vm.Alike.refl U.vm) qK, qD⟩, va_recv (q0 := 23) (ci := 12) hK hP rfl rfl, fun U hU hW => ⟨rfl, by rw [hU], by rw [hU]; exact hPc, va_K.moved hW.alike hK, hDc.weaken (fun _ _ _ _ => trivial)⟩⟩ rfl rfl hl.1 rfl (lv_room (Nat.le_of_ble_eq_true rfl)) d_Md_write_372 ⟨Nat.le_of_ble_eq_true rfl, Nat.le_of_ble_eq_true rfl⟩) hS (fun q _ h => hFc q h) hFc (fun u t H1 locs ht hvm hw hB hz1 hk1 hS => ?_)
            obtain ⟨g15_229, rfl⟩ : ∃ z, z = u := ⟨_, rfl⟩
            try dsimp only at hw hB
            obtain ⟨hP1, hK1, hD1⟩ := hB
            rw [ht] at hP1
            obtain ⟨hP, hD⟩ := va_join (wr := [(r 9, .inl ((cT 0), 1400, .inl f9)), (r 12, .inl ((cT 0), 1200, .inl f12)), (r 3, .inl ((cT 0), 160, .inl f3)), (r 4, .inl ((cT 0), 4, .inl f4)), (r 0, .inl ((cT 1), 64, .inr (.inl f0))), (r 11, .inl ((cT 0), 16, .inl f11)), (r 13, .inl ((cT 0), 200, .inl f13)), (r 18, .inl ((cT 0), 41, .inl f18)), (r 19, .inl ((cT 0), 41, .inl f19)), (r 20, .inl ((cT 0), 41, .inl f20)), (r 21, .inl ((cT 0), 41, .inl f21)), (r 22, .inl ((cT 0), 8200, .inl f22)), (r 23, .inl ((cT 0), 656, .inl f23)), (r 34, .inl ((cT 0), 50, .inl g34_215)), (r 35, .inl ((cT 0), 50, .inl g35_216)), (r 36, .inl ((cT 0), 800, .inl g36_217)), (r 37, .inl ((cT 0), 50, .inl g37_218)), (r 38, .inl ((cT 0), 50, .inl g38_225)), (r 39, .inl ((cT 0), 50, .inl g39_220)), (r 40, .inl ((cT 0), 50, .inl g40_226)), (r 41, .inl ((cT 1), 50, .inr (.inl g41_227))), (r 42, .inl ((cT 1), 50, .inr (.inl g42_228)))]) (w1 := [(mo, .inr (12, mdG r cd tm (nI sn) (nI 0) (nI lz) (nI 20) (nI na) (nI nt) (nI nv) mw ml mk dq)), (r 7, .inl ((cT 0), 1000, .inl f7)), (r 15, .inl ((cT 0), 200, .inl g15_229))]) hP hD [23, 24, 0] [1, 2, 3, 4, 5, 6, 7, 8, 9, 10, 11, 12, 13, 14, 15, 16, 17, 18, 19, 20, 21, 22] rfl rfl (by decide) (by decide) hk1 hFc hP1 hD1
            have hw230 := hw
            clear hPc hDc hFc hz1 hk1 hP1 hK1 hD1
            generalize H1 = H at hP hS ⊢
            have hP : va_P (dC, dI) vcl [(r 9, .inl ((cT 0), 1400, .inl f9)), (r 12, .inl ((cT 0), 1200, .inl f12)), (r 3, .inl ((cT 0), 160, .inl f3)), (r 4, .inl ((cT 0), 4, .inl f4)), (r 0, .inl ((cT 1), 64, .inr (.inl f0))), (r 11, .inl ((cT 0), 16, .inl f11)), (r 13, .inl ((cT 0), 200, .inl f13)), (r 18, .inl ((cT 0), 41, .inl f18)), (r 19, .inl ((cT 0), 41, .inl f19)), (r 20, .inl ((cT 0), 41, .inl f20)), (r 21, .inl ((cT 0), 41, .inl f21)), (r 22, .inl ((cT 0), 8200, .inl f22)), (r 23, .inl ((cT 0), 656, .inl f23)), (r 34, .inl ((cT 0), 50, .inl g34_215)), (r 35, .inl ((cT 0), 50, .inl g35_216)), (r 36, .inl ((cT 0), 800, .inl g36_217)), (r 37, .inl ((cT 0), 50, .inl g37_218)), (r 38, .inl ((cT 0), 50, .inl g38_225)), (r 39, .inl ((cT 0), 50, .inl g39_220)), (r 40, .inl ((cT 0), 50, .inl g40_226)), (r 41, .inl ((cT 1), 50, .inr (.inl g41_227))), (r 42, .inl ((cT 1), 50, .inr (.inl g42_228))), (mo, .inr (12, mdG r cd tm (nI sn) (nI 0) (nI lz) (nI 20) (nI na) (nI nt) (nI nv) mw ml mk dq)), (r 7, .inl ((cT 0), 1000, .inl f7)), (r 15, .inl ((cT 0), 200, .inl g15_229))] H := hP
            have hD : va_D A [(r 9, .inl ((cT 0), 1400, .inl f9)), (r 12, .inl ((cT 0), 1200, .inl f12)), (r 3, .inl ((cT 0), 160, .inl f3)), (r 4, .inl ((cT 0), 4, .inl f4)), (r 0, .inl ((cT 1), 64, .inr (.inl f0))), (r 11, .inl ((cT 0), 16, .inl f11)), (r 13, .inl ((cT 0), 200, .inl f13)), (r 18, .inl ((cT 0), 41, .inl f18)), (r 19, .inl ((cT 0), 41, .inl f19)), (r 20, .inl ((cT 0), 41, .inl f20)), (r 21, .inl ((cT 0), 41, .inl f21)), (r 22, .inl ((cT 0), 8200, .inl f22)), (r 23, .inl ((cT 0), 656, .inl f23)), (r 34, .inl ((cT 0), 50, .inl g34_215)), (r 35, .inl ((cT 0), 50, .inl g35_216)), (r 36, .inl ((cT 0), 800, .inl g36_217)), (r 37, .inl ((cT 0), 50, .inl g37_218)), (r 38, .inl ((cT 0), 50, .inl g38_225)), (r 39, .inl ((cT 0), 50, .inl g39_220)), (r 40, .inl ((cT 0), 50, .inl g40_226)), (r 41, .inl ((cT 1), 50, .inr (.inl g41_227))), (r 42, .inl ((cT 1), 50, .inr (.inl g42_228))), (mo, .inr (12, mdG r cd tm (nI sn) (nI 0) (nI lz) (nI 20) (nI na) (nI nt) (nI nv) mw ml mk dq)), (r 7, .inl ((cT 0), 1000, .inl f7)), (r 15, .inl ((cT 0), 200, .inl g15_229))] := hD
            refine lv_aload_n hx hb d_Md_write_375 rfl (lv_at hl 0 rfl) ?_
            refine lv_iload_n hx hb d_Md_write_376 rfl (lv_at hl 1 rfl) ?_
            have hPc := hP.sub (ws' := [(mo, .inr (12, mdG r cd tm (nI sn) (nI 0) (nI lz) (nI 20) (nI na) (nI nt) (nI nv) mw ml mk dq)), (r 15, .inl ((cT 0), 200, .inl g15_229)), (r 9, .inl ((cT 0), 1400, .inl f9)), (r 12, .inl ((cT 0), 1200, .inl f12)), (r 3, .inl ((cT 0), 160, .inl f3)), (r 4, .inl ((cT 0), 4, .inl f4)), (r 0, .inl ((cT 1), 64, .inr (.inl f0))), (r 11, .inl ((cT 0), 16, .inl f11)), (r 13, .inl ((cT 0), 200, .inl f13)), (r 7, .inl ((cT 0), 1000, .inl f7)), (r 18, .inl ((cT 0), 41, .inl f18)), (r 19, .inl ((cT 0), 41, .inl f19)), (r 20, .inl ((cT 0), 41, .inl f20)), (r 21, .inl ((cT 0), 41, .inl f21)), (r 22, .inl ((cT 0), 8200, .inl f22)), (r 23, .inl ((cT 0), 656, .inl f23))]) [22, 24, 0, 1, 2, 3, 4, 5, 6, 23, 7, 8, 9, 10, 11, 12] rfl
            have hDc := hD.sub (ws' := [(mo, .inr (12, mdG r cd tm (nI sn) (nI 0) (nI lz) (nI 20) (nI na) (nI nt) (nI nv) mw ml mk dq)), (r 15, .inl ((cT 0), 200, .inl g15_229)), (r 9, .inl ((cT 0), 1400, .inl f9)), (r 12, .inl ((cT 0), 1200, .inl f12)), (r 3, .inl ((cT 0), 160, .inl f3)), (r 4, .inl ((cT 0), 4, .inl f4)), (r 0, .inl ((cT 1), 64, .inr (.inl f0))), (r 11, .inl ((cT 0), 16, .inl f11)), (r 13, .inl ((cT 0), 200, .inl f13)), (r 7, .inl ((cT 0), 1000, .inl f7)), (r 18, .inl ((cT 0), 41, .inl f18)), (r 19, .inl ((cT 0), 41, .inl f19)), (r 20, .inl ((cT 0), 41, .inl f20)), (r 21, .inl ((cT 0), 41, .inl f21)), (r 22, .inl ((cT 0), 8200, .inl f22)), (r 23, .inl ((cT 0), 656, .inl f23))]) [22, 24, 0, 1, 2, 3, 4, 5, 6, 23, 7, 8, 9, 10, 11, 12] (by decide) rfl
            have hFc := va_free (wc := [(mo, .inr (12, mdG r cd tm (nI sn) (nI 0) (nI lz) (nI 20) (nI na) (nI nt) (nI nv) mw ml mk dq)), (r 15, .inl ((cT 0), 200, .inl g15_229)), (r 9, .inl ((cT 0), 1400, .inl f9)), (r 12, .inl ((cT 0), 1200, .inl f12)), (r 3, .inl ((cT 0), 160, .inl f3)), (r 4, .inl ((cT 0), 4, .inl f4)), (r 0, .inl ((cT 1), 64, .inr (.inl f0))), (r 11, .inl ((cT 0), 16, .inl f11)), (r 13, .inl ((cT 0), 200, .inl f13)), (r 7, .inl ((cT 0), 1000, .inl f7)), (r 18, .inl ((cT 0), 41, .inl f18)), (r 19, .inl ((cT 0), 41, .inl f19)), (r 20, .inl ((cT 0), 41, .inl f20)), (r 21, .inl ((cT 0), 41, .inl f21)), (r 22, .inl ((cT 0), 8200, .inl f22)), (r 23, .inl ((cT 0), 656, .inl f23))]) hD hS hA [22, 24, 0, 1, 2, 3, 4, 5, 6, 23, 7, 8, 9, 10, 11, 12] rfl
            refine va_calli (va_runV (C := "DoorServerModel") (As := [.int (nI st)]) (rest := []) ⟨hx, hb, hml, hown, hg⟩ (m_close l dC dI cT H.size mo r cd tm sn 0 lz 20 na nt nv mw ml mk dq g15_229 f9 f12 f3 f4 f0 f11 f13 f7 f18 f19 f20 f21 f22 f23 st sl (by first | assumption | omega) (by first | assumption | omega) (by first | assumption | omega) (by first | assumption | omega) (by first | assumption | omega) (by first | assumption | omega) (by first | assumption | omega)) (cwV 1 hg (gI (List.forall_mem_append.mpr ⟨List.forall_mem_cons.mpr ⟨k_1363, List.forall_mem_cons.mpr ⟨k_1365, List.forall_mem_cons.mpr ⟨(big_sel (q := y_Md_close) (n := 45) (by decide +kernel)), List.forall_mem_cons.mpr ⟨k_13, fun _ h => absurd h List.not_mem_nil⟩⟩⟩⟩, List.forall_mem_cons.mpr ⟨k_1366, fun _ h => h⟩⟩)) rfl rfl rfl (by decide +kernel) ⟨Nat.le_of_ble_eq_true rfl, Nat.le_of_ble_eq_true rfl⟩) ⟨fun a U g mk q => by obtain ⟨q0, q1, qP, qK, qD⟩ := q; exact ⟨q0, q1, qP, va_K.moved (u := U) (U := U.calling g mk a) (Vm.Alike.refl U.vm) qK, qD⟩, va_recv (q0 := 22) (ci := 12) hK hP rfl rfl, fun U hU hW => ⟨rfl, by rw [hU], by rw [hU]; exact hPc, va_K.moved hW.alike hK, hDc.weaken (fun _ _ _ _ => trivial)⟩⟩ rfl rfl hl.1 rfl (lv_room (Nat.le_of_ble_eq_true rfl)) d_Md_write_377 ⟨Nat.le_of_ble_eq_true rfl, Nat.le_of_ble_eq_true rfl⟩) hS (fun q _ h => hFc q h) hFc (fun rv9 u t H1 locs ht hvm hw hB hz1 hk1 hS => ?_)
            obtain ⟨g15_231, g9_232, g12_233, g11_234, g13_235, g18_236, g19_237, g20_238, g21_239, g22_240, g23_241, az2_242, lz2_243, na2_244, mw2_245⟩ := u
            try dsimp only at hw hB
            obtain ⟨hP1, hK1, hD1⟩ := hB
            rw [ht] at hP1
            generalize rv9 = r246 at hw ⊢
            obtain ⟨hP, hD⟩ := va_join (wr := [(r 34, .inl ((cT 0), 50, .inl g34_215)), (r 35, .inl ((cT 0), 50, .inl g35_216)), (r 36, .inl ((cT 0), 800, .inl g36_217)), (r 37, .inl ((cT 0), 50, .inl g37_218)), (r 38, .inl ((cT 0), 50, .inl g38_225)), (r 39, .inl ((cT 0), 50, .inl g39_220)), (r 40, .inl ((cT 0), 50, .inl g40_226)), (r 41, .inl ((cT 1), 50, .inr (.inl g41_227))), (r 42, .inl ((cT 1), 50, .inr (.inl g42_228)))]) (w1 := [(mo, .inr (12, mdG r cd tm (nI sn) (nI 0) (nI lz2_243) (nI az2_242) (nI na2_244) (nI nt) (nI nv) mw2_245 ml mk dq)), (r 15, .inl ((cT 0), 200, .inl g15_231)), (r 9, .inl ((cT 0), 1400, .inl g9_232)), (r 12, .inl ((cT 0), 1200, .inl g12_233)), (r 3, .inl ((cT 0), 160, .inl f3)), (r 4, .inl ((cT 0), 4, .inl f4)), (r 0, .inl ((cT 1), 64, .inr (.inl f0))), (r 11, .inl ((cT 0), 16, .inl g11_234)), (r 13, .inl ((cT 0), 200, .inl g13_235)), (r 7, .inl ((cT 0), 1000, .inl f7)), (r 18, .inl ((cT 0), 41, .inl g18_236)), (r 19, .inl ((cT 0), 41, .inl g19_237)), (r 20, .inl ((cT 0), 41, .inl g20_238)), (r 21, .inl ((cT 0), 41, .inl g21_239)), (r 22, .inl ((cT 0), 8200, .inl g22_240)), (r 23, .inl ((cT 0), 656, .inl g23_241))]) hP hD [22, 24, 0, 1, 2, 3, 4, 5, 6, 23, 7, 8, 9, 10, 11, 12] [13, 14, 15, 16, 17, 18, 19, 20, 21] rfl rfl (by decide) (by decide) hk1 hFc hP1 hD1
            have hw247 := hw
            clear hPc hDc hFc hz1 hk1 hP1 hK1 hD1
            generalize H1 = H at hP hS ⊢
            have hP : va_P (dC, dI) vcl [(r 34, .inl ((cT 0), 50, .inl g34_215)), (r 35, .inl ((cT 0), 50, .inl g35_216)), (r 36, .inl ((cT 0), 800, .inl g36_217)), (r 37, .inl ((cT 0), 50, .inl g37_218)), (r 38, .inl ((cT 0), 50, .inl g38_225)), (r 39, .inl ((cT 0), 50, .inl g39_220)), (r 40, .inl ((cT 0), 50, .inl g40_226)), (r 41, .inl ((cT 1), 50, .inr (.inl g41_227))), (r 42, .inl ((cT 1), 50, .inr (.inl g42_228))), (mo, .inr (12, mdG r cd tm (nI sn) (nI 0) (nI lz2_243) (nI az2_242) (nI na2_244) (nI nt) (nI nv) mw2_245 ml mk dq)), (r 15, .inl ((cT 0), 200, .inl g15_231)), (r 9, .inl ((cT 0), 1400, .inl g9_232)), (r 12, .inl ((cT 0), 1200, .inl g12_233)), (r 3, .inl ((cT 0), 160, .inl f3)), (r 4, .inl ((cT 0), 4, .inl f4)), (r 0, .inl ((cT 1), 64, .inr (.inl f0))), (r 11, .inl ((cT 0), 16, .inl g11_234)), (r 13, .inl ((cT 0), 200, .inl g13_235)), (r 7, .inl ((cT 0), 1000, .inl f7)), (r 18, .inl ((cT 0), 41, .inl g18_236)), (r 19, .inl ((cT 0), 41, .inl g19_237)), (r 20, .inl ((cT 0), 41, .inl g20_238)), (r 21, .inl ((cT 0), 41, .inl g21_239)), (r 22, .inl ((cT 0), 8200, .inl g22_240)), (r 23, .inl ((cT 0), 656, .inl g23_241))] H := hP
            have hD : va_D A [(r 34, .inl ((cT 0), 50, .inl g34_215)), (r 35, .inl ((cT 0), 50, .inl g35_216)), (r 36, .inl ((cT 0), 800, .inl g36_217)), (r 37, .inl ((cT 0), 50, .inl g37_218)), (r 38, .inl ((cT 0), 50, .inl g38_225)), (r 39, .inl ((cT 0), 50, .inl g39_220)), (r 40, .inl ((cT 0), 50, .inl g40_226)), (r 41, .inl ((cT 1), 50, .inr (.inl g41_227))), (r 42, .inl ((cT 1), 50, .inr (.inl g42_228))), (mo, .inr (12, mdG r cd tm (nI sn) (nI 0) (nI lz2_243) (nI az2_242) (nI na2_244) (nI nt) (nI nv) mw2_245 ml mk dq)), (r 15, .inl ((cT 0), 200, .inl g15_231)), (r 9, .inl ((cT 0), 1400, .inl g9_232)), (r 12, .inl ((cT 0), 1200, .inl g12_233)), (r 3, .inl ((cT 0), 160, .inl f3)), (r 4, .inl ((cT 0), 4, .inl f4)), (r 0, .inl ((cT 1), 64, .inr (.inl f0))), (r 11, .inl ((cT 0), 16, .inl g11_234)), (r 13, .inl ((cT 0), 200, .inl g13_235)), (r 7, .inl ((cT 0), 1000, .inl f7)), (r 18, .inl ((cT 0), 41, .inl g18_236)), (r 19, .inl ((cT 0), 41, .inl g19_237)), (r 20, .inl ((cT 0), 41, .inl g20_238)), (r 21, .inl ((cT 0), 41, .inl g21_239)), (r 22, .inl ((cT 0), 8200, .inl g22_240)), (r 23, .inl ((cT 0), 656, .inl g23_241))] := hD
            obtain ⟨k248, k249, k250, k251, k252⟩ := hw247
            have hP9 := hP.sub (ws' := [(mo, .inr (12, mdG r cd tm (nI sn) (nI 0) (nI lz2_243) (nI az2_242) (nI na2_244) (nI nt) (nI nv) mw2_245 ml mk dq)), (r 15, .inl ((cT 0), 200, .inl g15_231)), (r 9, .inl ((cT 0), 1400, .inl g9_232)), (r 12, .inl ((cT 0), 1200, .inl g12_233)), (r 3, .inl ((cT 0), 160, .inl f3)), (r 4, .inl ((cT 0), 4, .inl f4)), (r 0, .inl ((cT 1), 64, .inr (.inl f0))), (r 11, .inl ((cT 0), 16, .inl g11_234)), (r 13, .inl ((cT 0), 200, .inl g13_235)), (r 7, .inl ((cT 0), 1000, .inl f7)), (r 18, .inl ((cT 0), 41, .inl g18_236)), (r 19, .inl ((cT 0), 41, .inl g19_237)), (r 20, .inl ((cT 0), 41, .inl g20_238)), (r 21, .inl ((cT 0), 41, .inl g21_239)), (r 22, .inl ((cT 0), 8200, .inl g22_240)), (r 23, .inl ((cT 0), 656, .inl g23_241)), (r 34, .inl ((cT 0), 50, .inl g34_215)), (r 35, .inl ((cT 0), 50, .inl g35_216)), (r 36, .inl ((cT 0), 800, .inl g36_217)), (r 37, .inl ((cT 0), 50, .inl g37_218)), (r 38, .inl ((cT 0), 50, .inl g38_225)), (r 39, .inl ((cT 0), 50, .inl g39_220)), (r 40, .inl ((cT 0), 50, .inl g40_226)), (r 41, .inl ((cT 1), 50, .inr (.inl g41_227))), (r 42, .inl ((cT 1), 50, .inr (.inl g42_228)))]) [9, 10, 11, 12, 13, 14, 15, 16, 17, 18, 19, 20, 21, 22, 23, 24, 0, 1, 2, 3, 4, 5, 6, 7, 8] rfl
            have hD9 := hD.sub (ws' := [(mo, .inr (12, mdG r cd tm (nI sn) (nI 0) (nI lz2_243) (nI az2_242) (nI na2_244) (nI nt) (nI nv) mw2_245 ml mk dq)), (r 15, .inl ((cT 0), 200, .inl g15_231)), (r 9, .inl ((cT 0), 1400, .inl g9_232)), (r 12, .inl ((cT 0), 1200, .inl g12_233)), (r 3, .inl ((cT 0), 160, .inl f3)), (r 4, .inl ((cT 0), 4, .inl f4)), (r 0, .inl ((cT 1), 64, .inr (.inl f0))), (r 11, .inl ((cT 0), 16, .inl g11_234)), (r 13, .inl ((cT 0), 200, .inl g13_235)), (r 7, .inl ((cT 0), 1000, .inl f7)), (r 18, .inl ((cT 0), 41, .inl g18_236)), (r 19, .inl ((cT 0), 41, .inl g19_237)), (r 20, .inl ((cT 0), 41, .inl g20_238)), (r 21, .inl ((cT 0), 41, .inl g21_239)), (r 22, .inl ((cT 0), 8200, .inl g22_240)), (r 23, .inl ((cT 0), 656, .inl g23_241)), (r 34, .inl ((cT 0), 50, .inl g34_215)), (r 35, .inl ((cT 0), 50, .inl g35_216)), (r 36, .inl ((cT 0), 800, .inl g36_217)), (r 37, .inl ((cT 0), 50, .inl g37_218)), (r 38, .inl ((cT 0), 50, .inl g38_225)), (r 39, .inl ((cT 0), 50, .inl g39_220)), (r 40, .inl ((cT 0), 50, .inl g40_226)), (r 41, .inl ((cT 1), 50, .inr (.inl g41_227))), (r 42, .inl ((cT 1), 50, .inr (.inl g42_228)))]) [9, 10, 11, 12, 13, 14, 15, 16, 17, 18, 19, 20, 21, 22, 23, 24, 0, 1, 2, 3, 4, 5, 6, 7, 8] (by decide) rfl
            exact W.iret (v := r246) hx hb hr (fun t ht hW => ⟨⟨_, ⟨g15_231, g9_232, g12_233, g11_234, g13_235, g18_236, g19_237, g20_238, g21_239, g22_240, g23_241, g34_215, g35_216, g36_217, g37_218, g38_225, g39_220, g40_226, g41_227, g42_228, az2_242, lz2_243, na2_244, mw2_245, nv⟩, rfl, ⟨by first | assumption | omega, by first | assumption | omega, by first | assumption | omega, by first | assumption | omega, by first | assumption | omega, by first | assumption | omega, by first | assumption | omega⟩, by rw [ht]; exact hP9, va_K.moved hW.alike hK, hD9⟩, hS.F ht⟩) hS.2.2 d_Md_write_380
          refine lv_iload hx hb d_Md_write_238 (lv_at hl 0 rfl) ?_
          rcases hrx with h7r | ⟨ra, h7r, hra⟩
          · skip
            refine lv_topi (fun x254 e253 => ?_)
            obtain rfl : x254 = (-1) := by rw [e253]; exact h7r
            refine lv_if_lt (tgt := 370) hx hb d_Md_write_240 (by decide) (fun hc255 => ?_) (fun hn9 => absurd (by decide) hn9)
            have hl := lv_sub hl [1, 2] (show _ = [(0, .ref mo), (1, .int (nI st))] from rfl)
            exact K224 _ _ _ _ _ _ _  hP hD hS hl
          · skip
            subst h7r
            refine lv_if_lt (tgt := 370) hx hb d_Md_write_240 (by decide) (fun hn9 => absurd hn9 (nI_pos (by omega))) (fun hc256 => ?_)
            refine lv_lload_n hx hb d_Md_write_243 rfl (lv_at hl 3 rfl) ?_
            refine lv_lconst (v := 1) hx hb d_Md_write_244 (by decide) ?_
            refine W.lcmp hx hb d_Md_write_245 ?_
            refine lv_if_le (tgt := 370) hx hb d_Md_write_246 (by decide) (fun hc257 => ?_) (fun hc257 => ?_)
            · skip
              have hl := lv_sub hl [1, 2] (show _ = [(0, .ref mo), (1, .int (nI st))] from rfl)
              exact K224 _ _ _ _ _ _ _  hP hD hS hl
            · skip
              refine lv_aload_n hx hb d_Md_write_249 rfl (lv_at hl 1 rfl) ?_
              refine va_get (D := (dC, dI)) (ci := 12) (v := (.ref (r 38))) (C := R_Md) (T := F_Md) (N := 45) hx hb hg in_Md hown hK hP 23 rfl rfl 38 (by decide) (hg _ k_1058) (fun _ h9 => h9) rfl d_Md_write_250 ?_
              refine lv_iload hx hb d_Md_write_253 (lv_at hl 0 rfl) ?_
              refine va_iald hx hb hK hP 18 0 rfl rfl (i := (nI ra)) (vp_in_nI (N := 50) (by omega) (by decide)) d_Md_write_255 ?_
              refine lv_topi (fun x258 e_x258 => ?_)
              clear e_x258
              refine lv_if_ne (tgt := 370) hx hb d_Md_write_256 (by decide) (fun hc259 => ?_) (fun hc259 => ?_)
              · skip
                have hl := lv_sub hl [1, 2] (show _ = [(0, .ref mo), (1, .int (nI st))] from rfl)
                exact K224 _ _ _ _ _ _ _  hP hD hS hl
              · skip
                refine lv_aload_n hx hb d_Md_write_259 rfl (lv_at hl 1 rfl) ?_
                refine va_get (D := (dC, dI)) (ci := 12) (v := (.ref (r 41))) (C := R_Md) (T := F_Md) (N := 45) hx hb hg in_Md hown hK hP 23 rfl rfl 41 (by decide) (hg _ k_1061) (fun _ h9 => h9) rfl d_Md_write_260 ?_
                refine lv_iload hx hb d_Md_write_263 (lv_at hl 0 rfl) ?_
                refine lv_aload_n hx hb d_Md_write_265 rfl (lv_at hl 1 rfl) ?_
                refine lv_bipush (v := 42) hx hb d_Md_write_266 (by decide) ?_
                have hPc := hP.sub (ws' := [(mo, .inr (12, mdG r cd tm (nI sn) (nI 0) (nI lz) (nI az) (nI na) (nI nt) (nI nv) mw ml mk dq)), (r 7, .inl ((cT 0), 1000, .inl f7))]) [23, 24] rfl
                have hDc := hD.sub (ws' := [(mo, .inr (12, mdG r cd tm (nI sn) (nI 0) (nI lz) (nI az) (nI na) (nI nt) (nI nv) mw ml mk dq)), (r 7, .inl ((cT 0), 1000, .inl f7))]) [23, 24] (by decide) rfl
                have hFc := va_free (wc := [(mo, .inr (12, mdG r cd tm (nI sn) (nI 0) (nI lz) (nI az) (nI na) (nI nt) (nI nv) mw ml mk dq)), (r 7, .inl ((cT 0), 1000, .inl f7))]) hD hS hA [23, 24] rfl
                refine va_calll (va_runV (C := "DoorServerModel") (As := [.int 42]) (rest := [.int (nI ra), .ref (r 41)]) ⟨hx, hb, hml, hown, hg⟩ (m_four42 l dC dI cT H.size mo r cd tm sn 0 lz az na nt nv mw ml mk dq f7 (by first | assumption | omega) (by first | assumption | omega) (by first | assumption | omega)) (cwV 1 hg (gI (List.forall_mem_append.mpr ⟨List.forall_mem_cons.mpr ⟨k_1383, List.forall_mem_cons.mpr ⟨k_1385, List.forall_mem_cons.mpr ⟨(big_sel (q := y_Md_fourOf) (n := 45) (by decide +kernel)), List.forall_mem_cons.mpr ⟨k_13, fun _ h => absurd h List.not_mem_nil⟩⟩⟩⟩, List.forall_mem_cons.mpr ⟨k_1386, fun _ h => h⟩⟩)) rfl rfl rfl (by decide +kernel) ⟨Nat.le_of_ble_eq_true rfl, Nat.le_of_ble_eq_true rfl⟩) ⟨fun a U g mk q => by obtain ⟨q0, q1, qP, qK, qD⟩ := q; exact ⟨q0, q1, qP, va_K.moved (u := U) (U := U.calling g mk a) (Vm.Alike.refl U.vm) qK, qD⟩, va_recv (q0 := 23) (ci := 12) hK hP rfl rfl, fun U hU hW => ⟨rfl, by rw [hU], by rw [hU]; exact hPc, va_K.moved hW.alike hK, hDc.weaken (fun _ _ _ _ => trivial)⟩⟩ rfl rfl hl.1 rfl (lv_room (Nat.le_of_ble_eq_true rfl)) d_Md_write_268 ⟨Nat.le_of_ble_eq_true rfl, Nat.le_of_ble_eq_true rfl⟩) hS (fun q _ h => hFc q h) hFc (fun rv9 u t H1 locs ht hvm hw hB hz1 hk1 hS => ?_)
                try dsimp only at hw hB
                obtain ⟨hP1, hK1, hD1⟩ := hB
                rw [ht] at hP1
                generalize rv9 = r260 at hw ⊢
                obtain ⟨hP, hD⟩ := va_join (wr := [(r 15, .inl ((cT 0), 200, .inl f15)), (r 9, .inl ((cT 0), 1400, .inl f9)), (r 12, .inl ((cT 0), 1200, .inl f12)), (r 3, .inl ((cT 0), 160, .inl f3)), (r 4, .inl ((cT 0), 4, .inl f4)), (r 0, .inl ((cT 1), 64, .inr (.inl f0))), (r 11, .inl ((cT 0), 16, .inl f11)), (r 13, .inl ((cT 0), 200, .inl f13)), (r 18, .inl ((cT 0), 41, .inl f18)), (r 19, .inl ((cT 0), 41, .inl f19)), (r 20, .inl ((cT 0), 41, .inl f20)), (r 21, .inl ((cT 0), 41, .inl f21)), (r 22, .inl ((cT 0), 8200, .inl f22)), (r 23, .inl ((cT 0), 656, .inl f23)), (r 34, .inl ((cT 0), 50, .inl g34_215)), (r 35, .inl ((cT 0), 50, .inl g35_216)), (r 36, .inl ((cT 0), 800, .inl g36_217)), (r 37, .inl ((cT 0), 50, .inl g37_218)), (r 38, .inl ((cT 0), 50, .inl g38_219)), (r 39, .inl ((cT 0), 50, .inl g39_220)), (r 40, .inl ((cT 0), 50, .inl g40_221)), (r 41, .inl ((cT 1), 50, .inr (.inl g41_222))), (r 42, .inl ((cT 1), 50, .inr (.inl g42_223)))]) (w1 := [(mo, .inr (12, mdG r cd tm (nI sn) (nI 0) (nI lz) (nI az) (nI na) (nI nt) (nI nv) mw ml mk dq)), (r 7, .inl ((cT 0), 1000, .inl f7))]) hP hD [23, 24] [0, 1, 2, 3, 4, 5, 6, 7, 8, 9, 10, 11, 12, 13, 14, 15, 16, 17, 18, 19, 20, 21, 22] rfl rfl (by decide) (by decide) hk1 hFc hP1 hD1
                have hw261 := hw
                clear hPc hDc hFc hz1 hk1 hP1 hK1 hD1
                generalize H1 = H at hP hS ⊢
                have hP : va_P (dC, dI) vcl [(r 15, .inl ((cT 0), 200, .inl f15)), (r 9, .inl ((cT 0), 1400, .inl f9)), (r 12, .inl ((cT 0), 1200, .inl f12)), (r 3, .inl ((cT 0), 160, .inl f3)), (r 4, .inl ((cT 0), 4, .inl f4)), (r 0, .inl ((cT 1), 64, .inr (.inl f0))), (r 11, .inl ((cT 0), 16, .inl f11)), (r 13, .inl ((cT 0), 200, .inl f13)), (r 18, .inl ((cT 0), 41, .inl f18)), (r 19, .inl ((cT 0), 41, .inl f19)), (r 20, .inl ((cT 0), 41, .inl f20)), (r 21, .inl ((cT 0), 41, .inl f21)), (r 22, .inl ((cT 0), 8200, .inl f22)), (r 23, .inl ((cT 0), 656, .inl f23)), (r 34, .inl ((cT 0), 50, .inl g34_215)), (r 35, .inl ((cT 0), 50, .inl g35_216)), (r 36, .inl ((cT 0), 800, .inl g36_217)), (r 37, .inl ((cT 0), 50, .inl g37_218)), (r 38, .inl ((cT 0), 50, .inl g38_219)), (r 39, .inl ((cT 0), 50, .inl g39_220)), (r 40, .inl ((cT 0), 50, .inl g40_221)), (r 41, .inl ((cT 1), 50, .inr (.inl g41_222))), (r 42, .inl ((cT 1), 50, .inr (.inl g42_223))), (mo, .inr (12, mdG r cd tm (nI sn) (nI 0) (nI lz) (nI az) (nI na) (nI nt) (nI nv) mw ml mk dq)), (r 7, .inl ((cT 0), 1000, .inl f7))] H := hP
                have hD : va_D A [(r 15, .inl ((cT 0), 200, .inl f15)), (r 9, .inl ((cT 0), 1400, .inl f9)), (r 12, .inl ((cT 0), 1200, .inl f12)), (r 3, .inl ((cT 0), 160, .inl f3)), (r 4, .inl ((cT 0), 4, .inl f4)), (r 0, .inl ((cT 1), 64, .inr (.inl f0))), (r 11, .inl ((cT 0), 16, .inl f11)), (r 13, .inl ((cT 0), 200, .inl f13)), (r 18, .inl ((cT 0), 41, .inl f18)), (r 19, .inl ((cT 0), 41, .inl f19)), (r 20, .inl ((cT 0), 41, .inl f20)), (r 21, .inl ((cT 0), 41, .inl f21)), (r 22, .inl ((cT 0), 8200, .inl f22)), (r 23, .inl ((cT 0), 656, .inl f23)), (r 34, .inl ((cT 0), 50, .inl g34_215)), (r 35, .inl ((cT 0), 50, .inl g35_216)), (r 36, .inl ((cT 0), 800, .inl g36_217)), (r 37, .inl ((cT 0), 50, .inl g37_218)), (r 38, .inl ((cT 0), 50, .inl g38_219)), (r 39, .inl ((cT 0), 50, .inl g39_220)), (r 40, .inl ((cT 0), 50, .inl g40_221)), (r 41, .inl ((cT 1), 50, .inr (.inl g41_222))), (r 42, .inl ((cT 1), 50, .inr (.inl g42_223))), (mo, .inr (12, mdG r cd tm (nI sn) (nI 0) (nI lz) (nI az) (nI na) (nI nt) (nI nv) mw ml mk dq)), (r 7, .inl ((cT 0), 1000, .inl f7))] := hD
                refine lv_aload_n hx hb d_Md_write_271 rfl (lv_at hl 1 rfl) ?_
                refine va_get (D := (dC, dI)) (ci := 12) (v := (.ref (r 41))) (C := R_Md) (T := F_Md) (N := 45) hx hb hg in_Md hown hK hP 23 rfl rfl 41 (by decide) (hg _ k_1061) (fun _ h9 => h9) rfl d_Md_write_272 ?_
                refine lv_iload hx hb d_Md_write_275 (lv_at hl 0 rfl) ?_
                refine va_lald hx hb hK hP 21 1 rfl rfl (i := (nI ra)) (vp_in_nI (N := 50) (by omega) (by decide)) d_Md_write_277 ?_
                refine lv_topl (fun x262 e_x262 => ?_)
                clear e_x262
                refine W.lcmp hx hb d_Md_write_278 ?_
                refine lv_if_le (tgt := 291) hx hb d_Md_write_279 (by decide) (fun hc263 => ?_) (fun hc263 => ?_)
                · skip
                  refine lv_aload_n hx hb d_Md_write_291 rfl (lv_at hl 1 rfl) ?_
                  refine va_get (D := (dC, dI)) (ci := 12) (v := (.ref (r 41))) (C := R_Md) (T := F_Md) (N := 45) hx hb hg in_Md hown hK hP 23 rfl rfl 41 (by decide) (hg _ k_1061) (fun _ h9 => h9) rfl d_Md_write_292 ?_
                  refine lv_iload hx hb d_Md_write_295 (lv_at hl 0 rfl) ?_
                  refine va_lald hx hb hK hP 21 1 rfl rfl (i := (nI ra)) (vp_in_nI (N := 50) (by omega) (by decide)) d_Md_write_297 ?_
                  refine lv_topl (fun x264 e_x264 => ?_)
                  clear e_x264
                  refine va_last hx hb hK hP hD hS 21 1 rfl rfl (i := (nI ra)) (vp_in_nI (n := ra) (N := 50) (by omega) (by decide)) d_Md_write_298 (fun H locs hP hD hS => ?_)
                  have hP : va_P (dC, dI) vcl [(r 15, .inl ((cT 0), 200, .inl f15)), (r 9, .inl ((cT 0), 1400, .inl f9)), (r 12, .inl ((cT 0), 1200, .inl f12)), (r 3, .inl ((cT 0), 160, .inl f3)), (r 4, .inl ((cT 0), 4, .inl f4)), (r 0, .inl ((cT 1), 64, .inr (.inl f0))), (r 11, .inl ((cT 0), 16, .inl f11)), (r 13, .inl ((cT 0), 200, .inl f13)), (r 18, .inl ((cT 0), 41, .inl f18)), (r 19, .inl ((cT 0), 41, .inl f19)), (r 20, .inl ((cT 0), 41, .inl f20)), (r 21, .inl ((cT 0), 41, .inl f21)), (r 22, .inl ((cT 0), 8200, .inl f22)), (r 23, .inl ((cT 0), 656, .inl f23)), (r 34, .inl ((cT 0), 50, .inl g34_215)), (r 35, .inl ((cT 0), 50, .inl g35_216)), (r 36, .inl ((cT 0), 800, .inl g36_217)), (r 37, .inl ((cT 0), 50, .inl g37_218)), (r 38, .inl ((cT 0), 50, .inl g38_219)), (r 39, .inl ((cT 0), 50, .inl g39_220)), (r 40, .inl ((cT 0), 50, .inl g40_221)), (r 41, .inl ((cT 1), 50, .inr (.inl (vp_updL g41_222 (nI ra).toNatClampNeg x264)))), (r 42, .inl ((cT 1), 50, .inr (.inl g42_223))), (mo, .inr (12, mdG r cd tm (nI sn) (nI 0) (nI lz) (nI az) (nI na) (nI nt) (nI nv) mw ml mk dq)), (r 7, .inl ((cT 0), 1000, .inl f7))] H := hP
                  have hD : va_D A [(r 15, .inl ((cT 0), 200, .inl f15)), (r 9, .inl ((cT 0), 1400, .inl f9)), (r 12, .inl ((cT 0), 1200, .inl f12)), (r 3, .inl ((cT 0), 160, .inl f3)), (r 4, .inl ((cT 0), 4, .inl f4)), (r 0, .inl ((cT 1), 64, .inr (.inl f0))), (r 11, .inl ((cT 0), 16, .inl f11)), (r 13, .inl ((cT 0), 200, .inl f13)), (r 18, .inl ((cT 0), 41, .inl f18)), (r 19, .inl ((cT 0), 41, .inl f19)), (r 20, .inl ((cT 0), 41, .inl f20)), (r 21, .inl ((cT 0), 41, .inl f21)), (r 22, .inl ((cT 0), 8200, .inl f22)), (r 23, .inl ((cT 0), 656, .inl f23)), (r 34, .inl ((cT 0), 50, .inl g34_215)), (r 35, .inl ((cT 0), 50, .inl g35_216)), (r 36, .inl ((cT 0), 800, .inl g36_217)), (r 37, .inl ((cT 0), 50, .inl g37_218)), (r 38, .inl ((cT 0), 50, .inl g38_219)), (r 39, .inl ((cT 0), 50, .inl g39_220)), (r 40, .inl ((cT 0), 50, .inl g40_221)), (r 41, .inl ((cT 1), 50, .inr (.inl (vp_updL g41_222 (nI ra).toNatClampNeg x264)))), (r 42, .inl ((cT 1), 50, .inr (.inl g42_223))), (mo, .inr (12, mdG r cd tm (nI sn) (nI 0) (nI lz) (nI az) (nI na) (nI nt) (nI nv) mw ml mk dq)), (r 7, .inl ((cT 0), 1000, .inl f7))] := hD
                  refine lv_aload_n hx hb d_Md_write_299 rfl (lv_at hl 1 rfl) ?_
                  refine va_get (D := (dC, dI)) (ci := 12) (v := (.ref (r 42))) (C := R_Md) (T := F_Md) (N := 45) hx hb hg in_Md hown hK hP 23 rfl rfl 42 (by decide) (hg _ k_1062) (fun _ h9 => h9) rfl d_Md_write_300 ?_
                  refine lv_iload hx hb d_Md_write_303 (lv_at hl 0 rfl) ?_
                  refine lv_aload_n hx hb d_Md_write_305 rfl (lv_at hl 1 rfl) ?_
                  refine lv_bipush (v := 43) hx hb d_Md_write_306 (by decide) ?_
                  have hPc := hP.sub (ws' := [(mo, .inr (12, mdG r cd tm (nI sn) (nI 0) (nI lz) (nI az) (nI na) (nI nt) (nI nv) mw ml mk dq)), (r 7, .inl ((cT 0), 1000, .inl f7))]) [23, 24] rfl
                  have hDc := hD.sub (ws' := [(mo, .inr (12, mdG r cd tm (nI sn) (nI 0) (nI lz) (nI az) (nI na) (nI nt) (nI nv) mw ml mk dq)), (r 7, .inl ((cT 0), 1000, .inl f7))]) [23, 24] (by decide) rfl
                  have hFc := va_free (wc := [(mo, .inr (12, mdG r cd tm (nI sn) (nI 0) (nI lz) (nI az) (nI na) (nI nt) (nI nv) mw ml mk dq)), (r 7, .inl ((cT 0), 1000, .inl f7))]) hD hS hA [23, 24] rfl
                  refine va_calll (va_runV (C := "DoorServerModel") (As := [.int 43]) (rest := [.int (nI ra), .ref (r 42)]) ⟨hx, hb, hml, hown, hg⟩ (m_four43 l dC dI cT H.size mo r cd tm sn 0 lz az na nt nv mw ml mk dq f7 (by first | assumption | omega) (by first | assumption | omega) (by first | assumption | omega)) (cwV 1 hg (gI (List.forall_mem_append.mpr ⟨List.forall_mem_cons.mpr ⟨k_1383, List.forall_mem_cons.mpr ⟨k_1385, List.forall_mem_cons.mpr ⟨(big_sel (q := y_Md_fourOf) (n := 45) (by decide +kernel)), List.forall_mem_cons.mpr ⟨k_13, fun _ h => absurd h List.not_mem_nil⟩⟩⟩⟩, List.forall_mem_cons.mpr ⟨k_1386, fun _ h => h⟩⟩)) rfl rfl rfl (by decide +kernel) ⟨Nat.le_of_ble_eq_true rfl, Nat.le_of_ble_eq_true rfl⟩) ⟨fun a U g mk q => by obtain ⟨q0, q1, qP, qK, qD⟩ := q; exact ⟨q0, q1, qP, va_K.moved (u := U) (U := U.calling g mk a) (Vm.Alike.refl U.vm) qK, qD⟩, va_recv (q0 := 23) (ci := 12) hK hP rfl rfl, fun U hU hW => ⟨rfl, by rw [hU], by rw [hU]; exact hPc, va_K.moved hW.alike hK, hDc.weaken (fun _ _ _ _ => trivial)⟩⟩ rfl rfl hl.1 rfl (lv_room (Nat.le_of_ble_eq_true rfl)) d_Md_write_308 ⟨Nat.le_of_ble_eq_true rfl, Nat.le_of_ble_eq_true rfl⟩) hS (fun q _ h => hFc q h) hFc (fun rv9 u t H1 locs ht hvm hw hB hz1 hk1 hS => ?_)
                  try dsimp only at hw hB
                  obtain ⟨hP1, hK1, hD1⟩ := hB
                  rw [ht] at hP1
                  generalize rv9 = r265 at hw ⊢
                  obtain ⟨hP, hD⟩ := va_join (wr := [(r 15, .inl ((cT 0), 200, .inl f15)), (r 9, .inl ((cT 0), 1400, .inl f9)), (r 12, .inl ((cT 0), 1200, .inl f12)), (r 3, .inl ((cT 0), 160, .inl f3)), (r 4, .inl ((cT 0), 4, .inl f4)), (r 0, .inl ((cT 1), 64, .inr (.inl f0))), (r 11, .inl ((cT 0), 16, .inl f11)), (r 13, .inl ((cT 0), 200, .inl f13)), (r 18, .inl ((cT 0), 41, .inl f18)), (r 19, .inl ((cT 0), 41, .inl f19)), (r 20, .inl ((cT 0), 41, .inl f20)), (r 21, .inl ((cT 0), 41, .inl f21)), (r 22, .inl ((cT 0), 8200, .inl f22)), (r 23, .inl ((cT 0), 656, .inl f23)), (r 34, .inl ((cT 0), 50, .inl g34_215)), (r 35, .inl ((cT 0), 50, .inl g35_216)), (r 36, .inl ((cT 0), 800, .inl g36_217)), (r 37, .inl ((cT 0), 50, .inl g37_218)), (r 38, .inl ((cT 0), 50, .inl g38_219)), (r 39, .inl ((cT 0), 50, .inl g39_220)), (r 40, .inl ((cT 0), 50, .inl g40_221)), (r 41, .inl ((cT 1), 50, .inr (.inl (vp_updL g41_222 (nI ra).toNatClampNeg x264)))), (r 42, .inl ((cT 1), 50, .inr (.inl g42_223)))]) (w1 := [(mo, .inr (12, mdG r cd tm (nI sn) (nI 0) (nI lz) (nI az) (nI na) (nI nt) (nI nv) mw ml mk dq)), (r 7, .inl ((cT 0), 1000, .inl f7))]) hP hD [23, 24] [0, 1, 2, 3, 4, 5, 6, 7, 8, 9, 10, 11, 12, 13, 14, 15, 16, 17, 18, 19, 20, 21, 22] rfl rfl (by decide) (by decide) hk1 hFc hP1 hD1
                  have hw266 := hw
                  clear hPc hDc hFc hz1 hk1 hP1 hK1 hD1
                  generalize H1 = H at hP hS ⊢
                  have hP : va_P (dC, dI) vcl [(r 15, .inl ((cT 0), 200, .inl f15)), (r 9, .inl ((cT 0), 1400, .inl f9)), (r 12, .inl ((cT 0), 1200, .inl f12)), (r 3, .inl ((cT 0), 160, .inl f3)), (r 4, .inl ((cT 0), 4, .inl f4)), (r 0, .inl ((cT 1), 64, .inr (.inl f0))), (r 11, .inl ((cT 0), 16, .inl f11)), (r 13, .inl ((cT 0), 200, .inl f13)), (r 18, .inl ((cT 0), 41, .inl f18)), (r 19, .inl ((cT 0), 41, .inl f19)), (r 20, .inl ((cT 0), 41, .inl f20)), (r 21, .inl ((cT 0), 41, .inl f21)), (r 22, .inl ((cT 0), 8200, .inl f22)), (r 23, .inl ((cT 0), 656, .inl f23)), (r 34, .inl ((cT 0), 50, .inl g34_215)), (r 35, .inl ((cT 0), 50, .inl g35_216)), (r 36, .inl ((cT 0), 800, .inl g36_217)), (r 37, .inl ((cT 0), 50, .inl g37_218)), (r 38, .inl ((cT 0), 50, .inl g38_219)), (r 39, .inl ((cT 0), 50, .inl g39_220)), (r 40, .inl ((cT 0), 50, .inl g40_221)), (r 41, .inl ((cT 1), 50, .inr (.inl (vp_updL g41_222 (nI ra).toNatClampNeg x264)))), (r 42, .inl ((cT 1), 50, .inr (.inl g42_223))), (mo, .inr (12, mdG r cd tm (nI sn) (nI 0) (nI lz) (nI az) (nI na) (nI nt) (nI nv) mw ml mk dq)), (r 7, .inl ((cT 0), 1000, .inl f7))] H := hP
                  have hD : va_D A [(r 15, .inl ((cT 0), 200, .inl f15)), (r 9, .inl ((cT 0), 1400, .inl f9)), (r 12, .inl ((cT 0), 1200, .inl f12)), (r 3, .inl ((cT 0), 160, .inl f3)), (r 4, .inl ((cT 0), 4, .inl f4)), (r 0, .inl ((cT 1), 64, .inr (.inl f0))), (r 11, .inl ((cT 0), 16, .inl f11)), (r 13, .inl ((cT 0), 200, .inl f13)), (r 18, .inl ((cT 0), 41, .inl f18)), (r 19, .inl ((cT 0), 41, .inl f19)), (r 20, .inl ((cT 0), 41, .inl f20)), (r 21, .inl ((cT 0), 41, .inl f21)), (r 22, .inl ((cT 0), 8200, .inl f22)), (r 23, .inl ((cT 0), 656, .inl f23)), (r 34, .inl ((cT 0), 50, .inl g34_215)), (r 35, .inl ((cT 0), 50, .inl g35_216)), (r 36, .inl ((cT 0), 800, .inl g36_217)), (r 37, .inl ((cT 0), 50, .inl g37_218)), (r 38, .inl ((cT 0), 50, .inl g38_219)), (r 39, .inl ((cT 0), 50, .inl g39_220)), (r 40, .inl ((cT 0), 50, .inl g40_221)), (r 41, .inl ((cT 1), 50, .inr (.inl (vp_updL g41_222 (nI ra).toNatClampNeg x264)))), (r 42, .inl ((cT 1), 50, .inr (.inl g42_223))), (mo, .inr (12, mdG r cd tm (nI sn) (nI 0) (nI lz) (nI az) (nI na) (nI nt) (nI nv) mw ml mk dq)), (r 7, .inl ((cT 0), 1000, .inl f7))] := hD
                  refine lv_aload_n hx hb d_Md_write_311 rfl (lv_at hl 1 rfl) ?_
                  refine va_get (D := (dC, dI)) (ci := 12) (v := (.ref (r 42))) (C := R_Md) (T := F_Md) (N := 45) hx hb hg in_Md hown hK hP 23 rfl rfl 42 (by decide) (hg _ k_1062) (fun _ h9 => h9) rfl d_Md_write_312 ?_
                  refine lv_iload hx hb d_Md_write_315 (lv_at hl 0 rfl) ?_
                  refine va_lald hx hb hK hP 22 1 rfl rfl (i := (nI ra)) (vp_in_nI (N := 50) (by omega) (by decide)) d_Md_write_317 ?_
                  refine lv_topl (fun x267 e_x267 => ?_)
                  clear e_x267
                  refine W.lcmp hx hb d_Md_write_318 ?_
                  refine lv_if_le (tgt := 331) hx hb d_Md_write_319 (by decide) (fun hc268 => ?_) (fun hc268 => ?_)
                  · skip
                    refine lv_aload_n hx hb d_Md_write_331 rfl (lv_at hl 1 rfl) ?_
                    refine va_get (D := (dC, dI)) (ci := 12) (v := (.ref (r 42))) (C := R_Md) (T := F_Md) (N := 45) hx hb hg in_Md hown hK hP 23 rfl rfl 42 (by decide) (hg _ k_1062) (fun _ h9 => h9) rfl d_Md_write_332 ?_
                    refine lv_iload hx hb d_Md_write_335 (lv_at hl 0 rfl) ?_
                    refine va_lald hx hb hK hP 22 1 rfl rfl (i := (nI ra)) (vp_in_nI (N := 50) (by omega) (by decide)) d_Md_write_337 ?_
                    refine lv_topl (fun x269 e_x269 => ?_)
                    clear e_x269
                    refine va_last hx hb hK hP hD hS 22 1 rfl rfl (i := (nI ra)) (vp_in_nI (n := ra) (N := 50) (by omega) (by decide)) d_Md_write_338 (fun H locs hP hD hS => ?_)
                    have hP : va_P (dC, dI) vcl [(r 15, .inl ((cT 0), 200, .inl f15)), (r 9, .inl ((cT 0), 1400, .inl f9)), (r 12, .inl ((cT 0), 1200, .inl f12)), (r 3, .inl ((cT 0), 160, .inl f3)), (r 4, .inl ((cT 0), 4, .inl f4)), (r 0, .inl ((cT 1), 64, .inr (.inl f0))), (r 11, .inl ((cT 0), 16, .inl f11)), (r 13, .inl ((cT 0), 200, .inl f13)), (r 18, .inl ((cT 0), 41, .inl f18)), (r 19, .inl ((cT 0), 41, .inl f19)), (r 20, .inl ((cT 0), 41, .inl f20)), (r 21, .inl ((cT 0), 41, .inl f21)), (r 22, .inl ((cT 0), 8200, .inl f22)), (r 23, .inl ((cT 0), 656, .inl f23)), (r 34, .inl ((cT 0), 50, .inl g34_215)), (r 35, .inl ((cT 0), 50, .inl g35_216)), (r 36, .inl ((cT 0), 800, .inl g36_217)), (r 37, .inl ((cT 0), 50, .inl g37_218)), (r 38, .inl ((cT 0), 50, .inl g38_219)), (r 39, .inl ((cT 0), 50, .inl g39_220)), (r 40, .inl ((cT 0), 50, .inl g40_221)), (r 41, .inl ((cT 1), 50, .inr (.inl (vp_updL g41_222 (nI ra).toNatClampNeg x264)))), (r 42, .inl ((cT 1), 50, .inr (.inl (vp_updL g42_223 (nI ra).toNatClampNeg x269)))), (mo, .inr (12, mdG r cd tm (nI sn) (nI 0) (nI lz) (nI az) (nI na) (nI nt) (nI nv) mw ml mk dq)), (r 7, .inl ((cT 0), 1000, .inl f7))] H := hP
                    have hD : va_D A [(r 15, .inl ((cT 0), 200, .inl f15)), (r 9, .inl ((cT 0), 1400, .inl f9)), (r 12, .inl ((cT 0), 1200, .inl f12)), (r 3, .inl ((cT 0), 160, .inl f3)), (r 4, .inl ((cT 0), 4, .inl f4)), (r 0, .inl ((cT 1), 64, .inr (.inl f0))), (r 11, .inl ((cT 0), 16, .inl f11)), (r 13, .inl ((cT 0), 200, .inl f13)), (r 18, .inl ((cT 0), 41, .inl f18)), (r 19, .inl ((cT 0), 41, .inl f19)), (r 20, .inl ((cT 0), 41, .inl f20)), (r 21, .inl ((cT 0), 41, .inl f21)), (r 22, .inl ((cT 0), 8200, .inl f22)), (r 23, .inl ((cT 0), 656, .inl f23)), (r 34, .inl ((cT 0), 50, .inl g34_215)), (r 35, .inl ((cT 0), 50, .inl g35_216)), (r 36, .inl ((cT 0), 800, .inl g36_217)), (r 37, .inl ((cT 0), 50, .inl g37_218)), (r 38, .inl ((cT 0), 50, .inl g38_219)), (r 39, .inl ((cT 0), 50, .inl g39_220)), (r 40, .inl ((cT 0), 50, .inl g40_221)), (r 41, .inl ((cT 1), 50, .inr (.inl (vp_updL g41_222 (nI ra).toNatClampNeg x264)))), (r 42, .inl ((cT 1), 50, .inr (.inl (vp_updL g42_223 (nI ra).toNatClampNeg x269)))), (mo, .inr (12, mdG r cd tm (nI sn) (nI 0) (nI lz) (nI az) (nI na) (nI nt) (nI nv) mw ml mk dq)), (r 7, .inl ((cT 0), 1000, .inl f7))] := hD
                    refine lv_aload_n hx hb d_Md_write_339 rfl (lv_at hl 1 rfl) ?_
                    refine va_get (D := (dC, dI)) (ci := 12) (v := (.ref (r 38))) (C := R_Md) (T := F_Md) (N := 45) hx hb hg in_Md hown hK hP 23 rfl rfl 38 (by decide) (hg _ k_1058) (fun _ h9 => h9) rfl d_Md_write_340 ?_
                    refine lv_iload hx hb d_Md_write_343 (lv_at hl 0 rfl) ?_
                    refine lv_lload_n hx hb d_Md_write_345 rfl (lv_at hl 3 rfl) ?_
                    refine lv_ldc2 (v := 2) hx hb hown (hg _ k_1387) d_Md_write_346 ?_
                    refine W.lcmp hx hb d_Md_write_349 ?_
                    refine lv_if_ne (tgt := 357) hx hb d_Md_write_350 (by decide) (fun hc270 => ?_) (fun hc270 => ?_)
                    · skip
                      refine lv_iconst (v := 0) hx hb d_Md_write_357 (by decide) ?_
                      refine va_iast hx hb hK hP hD hS 18 0 rfl rfl (i := (nI ra)) (vp_in_nI (n := ra) (N := 50) (by omega) (by decide)) d_Md_write_358 (fun H locs hP hD hS => ?_)
                      have ef271 : upd g38_219 (nI ra).toNatClampNeg 0 = upd g38_219 ra 0 := by rw [show (nI ra).toNatClampNeg = ra from nI_clamp (by omega)]
                      rw [ef271] at hP hD
                      have hP : va_P (dC, dI) vcl [(r 15, .inl ((cT 0), 200, .inl f15)), (r 9, .inl ((cT 0), 1400, .inl f9)), (r 12, .inl ((cT 0), 1200, .inl f12)), (r 3, .inl ((cT 0), 160, .inl f3)), (r 4, .inl ((cT 0), 4, .inl f4)), (r 0, .inl ((cT 1), 64, .inr (.inl f0))), (r 11, .inl ((cT 0), 16, .inl f11)), (r 13, .inl ((cT 0), 200, .inl f13)), (r 18, .inl ((cT 0), 41, .inl f18)), (r 19, .inl ((cT 0), 41, .inl f19)), (r 20, .inl ((cT 0), 41, .inl f20)), (r 21, .inl ((cT 0), 41, .inl f21)), (r 22, .inl ((cT 0), 8200, .inl f22)), (r 23, .inl ((cT 0), 656, .inl f23)), (r 34, .inl ((cT 0), 50, .inl g34_215)), (r 35, .inl ((cT 0), 50, .inl g35_216)), (r 36, .inl ((cT 0), 800, .inl g36_217)), (r 37, .inl ((cT 0), 50, .inl g37_218)), (r 38, .inl ((cT 0), 50, .inl (upd g38_219 ra 0))), (r 39, .inl ((cT 0), 50, .inl g39_220)), (r 40, .inl ((cT 0), 50, .inl g40_221)), (r 41, .inl ((cT 1), 50, .inr (.inl (vp_updL g41_222 (nI ra).toNatClampNeg x264)))), (r 42, .inl ((cT 1), 50, .inr (.inl (vp_updL g42_223 (nI ra).toNatClampNeg x269)))), (mo, .inr (12, mdG r cd tm (nI sn) (nI 0) (nI lz) (nI az) (nI na) (nI nt) (nI nv) mw ml mk dq)), (r 7, .inl ((cT 0), 1000, .inl f7))] H := hP
                      have hD : va_D A [(r 15, .inl ((cT 0), 200, .inl f15)), (r 9, .inl ((cT 0), 1400, .inl f9)), (r 12, .inl ((cT 0), 1200, .inl f12)), (r 3, .inl ((cT 0), 160, .inl f3)), (r 4, .inl ((cT 0), 4, .inl f4)), (r 0, .inl ((cT 1), 64, .inr (.inl f0))), (r 11, .inl ((cT 0), 16, .inl f11)), (r 13, .inl ((cT 0), 200, .inl f13)), (r 18, .inl ((cT 0), 41, .inl f18)), (r 19, .inl ((cT 0), 41, .inl f19)), (r 20, .inl ((cT 0), 41, .inl f20)), (r 21, .inl ((cT 0), 41, .inl f21)), (r 22, .inl ((cT 0), 8200, .inl f22)), (r 23, .inl ((cT 0), 656, .inl f23)), (r 34, .inl ((cT 0), 50, .inl g34_215)), (r 35, .inl ((cT 0), 50, .inl g35_216)), (r 36, .inl ((cT 0), 800, .inl g36_217)), (r 37, .inl ((cT 0), 50, .inl g37_218)), (r 38, .inl ((cT 0), 50, .inl (upd g38_219 ra 0))), (r 39, .inl ((cT 0), 50, .inl g39_220)), (r 40, .inl ((cT 0), 50, .inl g40_221)), (r 41, .inl ((cT 1), 50, .inr (.inl (vp_updL g41_222 (nI ra).toNatClampNeg x264)))), (r 42, .inl ((cT 1), 50, .inr (.inl (vp_updL g42_223 (nI ra).toNatClampNeg x269)))), (mo, .inr (12, mdG r cd tm (nI sn) (nI 0) (nI lz) (nI az) (nI na) (nI nt) (nI nv) mw ml mk dq)), (r 7, .inl ((cT 0), 1000, .inl f7))] := hD
                      refine lv_aload_n hx hb d_Md_write_359 rfl (lv_at hl 1 rfl) ?_
                      refine va_get (D := (dC, dI)) (ci := 12) (v := (.ref (r 40))) (C := R_Md) (T := F_Md) (N := 45) hx hb hg in_Md hown hK hP 23 rfl rfl 40 (by decide) (hg _ k_1060) (fun _ h9 => h9) rfl d_Md_write_360 ?_
                      refine lv_iload hx hb d_Md_write_363 (lv_at hl 0 rfl) ?_
                      refine lv_aload_n hx hb d_Md_write_365 rfl (lv_at hl 1 rfl) ?_
                      refine va_get (D := (dC, dI)) (ci := 12) (v := (.int tm)) (C := R_Md) (T := F_Md) (N := 45) hx hb hg in_Md hown hK hP 23 rfl rfl 2 (by decide) (hg _ k_1022) (fun _ h9 => h9) rfl d_Md_write_366 ?_
                      refine va_iast hx hb hK hP hD hS 20 0 rfl rfl (i := (nI ra)) (vp_in_nI (n := ra) (N := 50) (by omega) (by decide)) d_Md_write_369 (fun H locs hP hD hS => ?_)
                      have ef272 : upd g40_221 (nI ra).toNatClampNeg tm = upd g40_221 ra tm := by rw [show (nI ra).toNatClampNeg = ra from nI_clamp (by omega)]
                      rw [ef272] at hP hD
                      have hP : va_P (dC, dI) vcl [(r 15, .inl ((cT 0), 200, .inl f15)), (r 9, .inl ((cT 0), 1400, .inl f9)), (r 12, .inl ((cT 0), 1200, .inl f12)), (r 3, .inl ((cT 0), 160, .inl f3)), (r 4, .inl ((cT 0), 4, .inl f4)), (r 0, .inl ((cT 1), 64, .inr (.inl f0))), (r 11, .inl ((cT 0), 16, .inl f11)), (r 13, .inl ((cT 0), 200, .inl f13)), (r 18, .inl ((cT 0), 41, .inl f18)), (r 19, .inl ((cT 0), 41, .inl f19)), (r 20, .inl ((cT 0), 41, .inl f20)), (r 21, .inl ((cT 0), 41, .inl f21)), (r 22, .inl ((cT 0), 8200, .inl f22)), (r 23, .inl ((cT 0), 656, .inl f23)), (r 34, .inl ((cT 0), 50, .inl g34_215)), (r 35, .inl ((cT 0), 50, .inl g35_216)), (r 36, .inl ((cT 0), 800, .inl g36_217)), (r 37, .inl ((cT 0), 50, .inl g37_218)), (r 38, .inl ((cT 0), 50, .inl (upd g38_219 ra 0))), (r 39, .inl ((cT 0), 50, .inl g39_220)), (r 40, .inl ((cT 0), 50, .inl (upd g40_221 ra tm))), (r 41, .inl ((cT 1), 50, .inr (.inl (vp_updL g41_222 (nI ra).toNatClampNeg x264)))), (r 42, .inl ((cT 1), 50, .inr (.inl (vp_updL g42_223 (nI ra).toNatClampNeg x269)))), (mo, .inr (12, mdG r cd tm (nI sn) (nI 0) (nI lz) (nI az) (nI na) (nI nt) (nI nv) mw ml mk dq)), (r 7, .inl ((cT 0), 1000, .inl f7))] H := hP
                      have hD : va_D A [(r 15, .inl ((cT 0), 200, .inl f15)), (r 9, .inl ((cT 0), 1400, .inl f9)), (r 12, .inl ((cT 0), 1200, .inl f12)), (r 3, .inl ((cT 0), 160, .inl f3)), (r 4, .inl ((cT 0), 4, .inl f4)), (r 0, .inl ((cT 1), 64, .inr (.inl f0))), (r 11, .inl ((cT 0), 16, .inl f11)), (r 13, .inl ((cT 0), 200, .inl f13)), (r 18, .inl ((cT 0), 41, .inl f18)), (r 19, .inl ((cT 0), 41, .inl f19)), (r 20, .inl ((cT 0), 41, .inl f20)), (r 21, .inl ((cT 0), 41, .inl f21)), (r 22, .inl ((cT 0), 8200, .inl f22)), (r 23, .inl ((cT 0), 656, .inl f23)), (r 34, .inl ((cT 0), 50, .inl g34_215)), (r 35, .inl ((cT 0), 50, .inl g35_216)), (r 36, .inl ((cT 0), 800, .inl g36_217)), (r 37, .inl ((cT 0), 50, .inl g37_218)), (r 38, .inl ((cT 0), 50, .inl (upd g38_219 ra 0))), (r 39, .inl ((cT 0), 50, .inl g39_220)), (r 40, .inl ((cT 0), 50, .inl (upd g40_221 ra tm))), (r 41, .inl ((cT 1), 50, .inr (.inl (vp_updL g41_222 (nI ra).toNatClampNeg x264)))), (r 42, .inl ((cT 1), 50, .inr (.inl (vp_updL g42_223 (nI ra).toNatClampNeg x269)))), (mo, .inr (12, mdG r cd tm (nI sn) (nI 0) (nI lz) (nI az) (nI na) (nI nt) (nI nv) mw ml mk dq)), (r 7, .inl ((cT 0), 1000, .inl f7))] := hD
                      have hl := lv_sub hl [1, 2] (show _ = [(0, .ref mo), (1, .int (nI st))] from rfl)
                      exact K224 _ _ _ _ _ _ _  hP hD hS hl
                    · skip
                      refine lv_iconst (v := 1) hx hb d_Md_write_353 (by decide) ?_
                      refine lv_goto (tgt := 358) hx hb d_Md_write_354 (by decide) ?_
                      refine va_iast hx hb hK hP hD hS 18 0 rfl rfl (i := (nI ra)) (vp_in_nI (n := ra) (N := 50) (by omega) (by decide)) d_Md_write_358 (fun H locs hP hD hS => ?_)
                      have ef273 : upd g38_219 (nI ra).toNatClampNeg 1 = upd g38_219 ra 1 := by rw [show (nI ra).toNatClampNeg = ra from nI_clamp (by omega)]
                      rw [ef273] at hP hD
                      have hP : va_P (dC, dI) vcl [(r 15, .inl ((cT 0), 200, .inl f15)), (r 9, .inl ((cT 0), 1400, .inl f9)), (r 12, .inl ((cT 0), 1200, .inl f12)), (r 3, .inl ((cT 0), 160, .inl f3)), (r 4, .inl ((cT 0), 4, .inl f4)), (r 0, .inl ((cT 1), 64, .inr (.inl f0))), (r 11, .inl ((cT 0), 16, .inl f11)), (r 13, .inl ((cT 0), 200, .inl f13)), (r 18, .inl ((cT 0), 41, .inl f18)), (r 19, .inl ((cT 0), 41, .inl f19)), (r 20, .inl ((cT 0), 41, .inl f20)), (r 21, .inl ((cT 0), 41, .inl f21)), (r 22, .inl ((cT 0), 8200, .inl f22)), (r 23, .inl ((cT 0), 656, .inl f23)), (r 34, .inl ((cT 0), 50, .inl g34_215)), (r 35, .inl ((cT 0), 50, .inl g35_216)), (r 36, .inl ((cT 0), 800, .inl g36_217)), (r 37, .inl ((cT 0), 50, .inl g37_218)), (r 38, .inl ((cT 0), 50, .inl (upd g38_219 ra 1))), (r 39, .inl ((cT 0), 50, .inl g39_220)), (r 40, .inl ((cT 0), 50, .inl g40_221)), (r 41, .inl ((cT 1), 50, .inr (.inl (vp_updL g41_222 (nI ra).toNatClampNeg x264)))), (r 42, .inl ((cT 1), 50, .inr (.inl (vp_updL g42_223 (nI ra).toNatClampNeg x269)))), (mo, .inr (12, mdG r cd tm (nI sn) (nI 0) (nI lz) (nI az) (nI na) (nI nt) (nI nv) mw ml mk dq)), (r 7, .inl ((cT 0), 1000, .inl f7))] H := hP
                      have hD : va_D A [(r 15, .inl ((cT 0), 200, .inl f15)), (r 9, .inl ((cT 0), 1400, .inl f9)), (r 12, .inl ((cT 0), 1200, .inl f12)), (r 3, .inl ((cT 0), 160, .inl f3)), (r 4, .inl ((cT 0), 4, .inl f4)), (r 0, .inl ((cT 1), 64, .inr (.inl f0))), (r 11, .inl ((cT 0), 16, .inl f11)), (r 13, .inl ((cT 0), 200, .inl f13)), (r 18, .inl ((cT 0), 41, .inl f18)), (r 19, .inl ((cT 0), 41, .inl f19)), (r 20, .inl ((cT 0), 41, .inl f20)), (r 21, .inl ((cT 0), 41, .inl f21)), (r 22, .inl ((cT 0), 8200, .inl f22)), (r 23, .inl ((cT 0), 656, .inl f23)), (r 34, .inl ((cT 0), 50, .inl g34_215)), (r 35, .inl ((cT 0), 50, .inl g35_216)), (r 36, .inl ((cT 0), 800, .inl g36_217)), (r 37, .inl ((cT 0), 50, .inl g37_218)), (r 38, .inl ((cT 0), 50, .inl (upd g38_219 ra 1))), (r 39, .inl ((cT 0), 50, .inl g39_220)), (r 40, .inl ((cT 0), 50, .inl g40_221)), (r 41, .inl ((cT 1), 50, .inr (.inl (vp_updL g41_222 (nI ra).toNatClampNeg x264)))), (r 42, .inl ((cT 1), 50, .inr (.inl (vp_updL g42_223 (nI ra).toNatClampNeg x269)))), (mo, .inr (12, mdG r cd tm (nI sn) (nI 0) (nI lz) (nI az) (nI na) (nI nt) (nI nv) mw ml mk dq)), (r 7, .inl ((cT 0), 1000, .inl f7))] := hD
                      refine lv_aload_n hx hb d_Md_write_359 rfl (lv_at hl 1 rfl) ?_
                      refine va_get (D := (dC, dI)) (ci := 12) (v := (.ref (r 40))) (C := R_Md) (T := F_Md) (N := 45) hx hb hg in_Md hown hK hP 23 rfl rfl 40 (by decide) (hg _ k_1060) (fun _ h9 => h9) rfl d_Md_write_360 ?_
                      refine lv_iload hx hb d_Md_write_363 (lv_at hl 0 rfl) ?_
                      refine lv_aload_n hx hb d_Md_write_365 rfl (lv_at hl 1 rfl) ?_
                      refine va_get (D := (dC, dI)) (ci := 12) (v := (.int tm)) (C := R_Md) (T := F_Md) (N := 45) hx hb hg in_Md hown hK hP 23 rfl rfl 2 (by decide) (hg _ k_1022) (fun _ h9 => h9) rfl d_Md_write_366 ?_
                      refine va_iast hx hb hK hP hD hS 20 0 rfl rfl (i := (nI ra)) (vp_in_nI (n := ra) (N := 50) (by omega) (by decide)) d_Md_write_369 (fun H locs hP hD hS => ?_)
                      have ef274 : upd g40_221 (nI ra).toNatClampNeg tm = upd g40_221 ra tm := by rw [show (nI ra).toNatClampNeg = ra from nI_clamp (by omega)]
                      rw [ef274] at hP hD
                      have hP : va_P (dC, dI) vcl [(r 15, .inl ((cT 0), 200, .inl f15)), (r 9, .inl ((cT 0), 1400, .inl f9)), (r 12, .inl ((cT 0), 1200, .inl f12)), (r 3, .inl ((cT 0), 160, .inl f3)), (r 4, .inl ((cT 0), 4, .inl f4)), (r 0, .inl ((cT 1), 64, .inr (.inl f0))), (r 11, .inl ((cT 0), 16, .inl f11)), (r 13, .inl ((cT 0), 200, .inl f13)), (r 18, .inl ((cT 0), 41, .inl f18)), (r 19, .inl ((cT 0), 41, .inl f19)), (r 20, .inl ((cT 0), 41, .inl f20)), (r 21, .inl ((cT 0), 41, .inl f21)), (r 22, .inl ((cT 0), 8200, .inl f22)), (r 23, .inl ((cT 0), 656, .inl f23)), (r 34, .inl ((cT 0), 50, .inl g34_215)), (r 35, .inl ((cT 0), 50, .inl g35_216)), (r 36, .inl ((cT 0), 800, .inl g36_217)), (r 37, .inl ((cT 0), 50, .inl g37_218)), (r 38, .inl ((cT 0), 50, .inl (upd g38_219 ra 1))), (r 39, .inl ((cT 0), 50, .inl g39_220)), (r 40, .inl ((cT 0), 50, .inl (upd g40_221 ra tm))), (r 41, .inl ((cT 1), 50, .inr (.inl (vp_updL g41_222 (nI ra).toNatClampNeg x264)))), (r 42, .inl ((cT 1), 50, .inr (.inl (vp_updL g42_223 (nI ra).toNatClampNeg x269)))), (mo, .inr (12, mdG r cd tm (nI sn) (nI 0) (nI lz) (nI az) (nI na) (nI nt) (nI nv) mw ml mk dq)), (r 7, .inl ((cT 0), 1000, .inl f7))] H := hP
                      have hD : va_D A [(r 15, .inl ((cT 0), 200, .inl f15)), (r 9, .inl ((cT 0), 1400, .inl f9)), (r 12, .inl ((cT 0), 1200, .inl f12)), (r 3, .inl ((cT 0), 160, .inl f3)), (r 4, .inl ((cT 0), 4, .inl f4)), (r 0, .inl ((cT 1), 64, .inr (.inl f0))), (r 11, .inl ((cT 0), 16, .inl f11)), (r 13, .inl ((cT 0), 200, .inl f13)), (r 18, .inl ((cT 0), 41, .inl f18)), (r 19, .inl ((cT 0), 41, .inl f19)), (r 20, .inl ((cT 0), 41, .inl f20)), (r 21, .inl ((cT 0), 41, .inl f21)), (r 22, .inl ((cT 0), 8200, .inl f22)), (r 23, .inl ((cT 0), 656, .inl f23)), (r 34, .inl ((cT 0), 50, .inl g34_215)), (r 35, .inl ((cT 0), 50, .inl g35_216)), (r 36, .inl ((cT 0), 800, .inl g36_217)), (r 37, .inl ((cT 0), 50, .inl g37_218)), (r 38, .inl ((cT 0), 50, .inl (upd g38_219 ra 1))), (r 39, .inl ((cT 0), 50, .inl g39_220)), (r 40, .inl ((cT 0), 50, .inl (upd g40_221 ra tm))), (r 41, .inl ((cT 1), 50, .inr (.inl (vp_updL g41_222 (nI ra).toNatClampNeg x264)))), (r 42, .inl ((cT 1), 50, .inr (.inl (vp_updL g42_223 (nI ra).toNatClampNeg x269)))), (mo, .inr (12, mdG r cd tm (nI sn) (nI 0) (nI lz) (nI az) (nI na) (nI nt) (nI nv) mw ml mk dq)), (r 7, .inl ((cT 0), 1000, .inl f7))] := hD
                      have hl := lv_sub hl [1, 2] (show _ = [(0, .ref mo), (1, .int (nI st))] from rfl)
                      exact K224 _ _ _ _ _ _ _  hP hD hS hl
                  · skip
                    refine lv_aload_n hx hb d_Md_write_322 rfl (lv_at hl 1 rfl) ?_
                    refine lv_bipush (v := 43) hx hb d_Md_write_323 (by decide) ?_
                    have hPc := hP.sub (ws' := [(mo, .inr (12, mdG r cd tm (nI sn) (nI 0) (nI lz) (nI az) (nI na) (nI nt) (nI nv) mw ml mk dq)), (r 7, .inl ((cT 0), 1000, .inl f7))]) [23, 24] rfl
                    have hDc := hD.sub (ws' := [(mo, .inr (12, mdG r cd tm (nI sn) (nI 0) (nI lz) (nI az) (nI na) (nI nt) (nI nv) mw ml mk dq)), (r 7, .inl ((cT 0), 1000, .inl f7))]) [23, 24] (by decide) rfl
                    have hFc := va_free (wc := [(mo, .inr (12, mdG r cd tm (nI sn) (nI 0) (nI lz) (nI az) (nI na) (nI nt) (nI nv) mw ml mk dq)), (r 7, .inl ((cT 0), 1000, .inl f7))]) hD hS hA [23, 24] rfl
                    refine va_calll (va_runV (C := "DoorServerModel") (As := [.int 43]) (rest := [.int (nI ra), .ref (r 42)]) ⟨hx, hb, hml, hown, hg⟩ (m_four43 l dC dI cT H.size mo r cd tm sn 0 lz az na nt nv mw ml mk dq f7 (by first | assumption | omega) (by first | assumption | omega) (by first | assumption | omega)) (cwV 1 hg (gI (List.forall_mem_append.mpr ⟨List.forall_mem_cons.mpr ⟨k_1383, List.forall_mem_cons.mpr ⟨k_1385, List.forall_mem_cons.mpr ⟨(big_sel (q := y_Md_fourOf) (n := 45) (by decide +kernel)), List.forall_mem_cons.mpr ⟨k_13, fun _ h => absurd h List.not_mem_nil⟩⟩⟩⟩, List.forall_mem_cons.mpr ⟨k_1386, fun _ h => h⟩⟩)) rfl rfl rfl (by decide +kernel) ⟨Nat.le_of_ble_eq_true rfl, Nat.le_of_ble_eq_true rfl⟩) ⟨fun a U g mk q => by obtain ⟨q0, q1, qP, qK, qD⟩ := q; exact ⟨q0, q1, qP, va_K.moved (u := U) (U := U.calling g mk a) (Vm.Alike.refl U.vm) qK, qD⟩, va_recv (q0 := 23) (ci := 12) hK hP rfl rfl, fun U hU hW => ⟨rfl, by rw [hU], by rw [hU]; exact hPc, va_K.moved hW.alike hK, hDc.weaken (fun _ _ _ _ => trivial)⟩⟩ rfl rfl hl.1 rfl (lv_room (Nat.le_of_ble_eq_true rfl)) d_Md_write_325 ⟨Nat.le_of_ble_eq_true rfl, Nat.le_of_ble_eq_true rfl⟩) hS (fun q _ h => hFc q h) hFc (fun rv9 u t H1 locs ht hvm hw hB hz1 hk1 hS => ?_)
                    try dsimp only at hw hB
                    obtain ⟨hP1, hK1, hD1⟩ := hB
                    rw [ht] at hP1
                    generalize rv9 = r275 at hw ⊢
                    obtain ⟨hP, hD⟩ := va_join (wr := [(r 15, .inl ((cT 0), 200, .inl f15)), (r 9, .inl ((cT 0), 1400, .inl f9)), (r 12, .inl ((cT 0), 1200, .inl f12)), (r 3, .inl ((cT 0), 160, .inl f3)), (r 4, .inl ((cT 0), 4, .inl f4)), (r 0, .inl ((cT 1), 64, .inr (.inl f0))), (r 11, .inl ((cT 0), 16, .inl f11)), (r 13, .inl ((cT 0), 200, .inl f13)), (r 18, .inl ((cT 0), 41, .inl f18)), (r 19, .inl ((cT 0), 41, .inl f19)), (r 20, .inl ((cT 0), 41, .inl f20)), (r 21, .inl ((cT 0), 41, .inl f21)), (r 22, .inl ((cT 0), 8200, .inl f22)), (r 23, .inl ((cT 0), 656, .inl f23)), (r 34, .inl ((cT 0), 50, .inl g34_215)), (r 35, .inl ((cT 0), 50, .inl g35_216)), (r 36, .inl ((cT 0), 800, .inl g36_217)), (r 37, .inl ((cT 0), 50, .inl g37_218)), (r 38, .inl ((cT 0), 50, .inl g38_219)), (r 39, .inl ((cT 0), 50, .inl g39_220)), (r 40, .inl ((cT 0), 50, .inl g40_221)), (r 41, .inl ((cT 1), 50, .inr (.inl (vp_updL g41_222 (nI ra).toNatClampNeg x264)))), (r 42, .inl ((cT 1), 50, .inr (.inl g42_223)))]) (w1 := [(mo, .inr (12, mdG r cd tm (nI sn) (nI 0) (nI lz) (nI az) (nI na) (nI nt) (nI nv) mw ml mk dq)), (r 7, .inl ((cT 0), 1000, .inl f7))]) hP hD [23, 24] [0, 1, 2, 3, 4, 5, 6, 7, 8, 9, 10, 11, 12, 13, 14, 15, 16, 17, 18, 19, 20, 21, 22] rfl rfl (by decide) (by decide) hk1 hFc hP1 hD1
                    have hw276 := hw
                    clear hPc hDc hFc hz1 hk1 hP1 hK1 hD1
                    generalize H1 = H at hP hS ⊢
                    have hP : va_P (dC, dI) vcl [(r 15, .inl ((cT 0), 200, .inl f15)), (r 9, .inl ((cT 0), 1400, .inl f9)), (r 12, .inl ((cT 0), 1200, .inl f12)), (r 3, .inl ((cT 0), 160, .inl f3)), (r 4, .inl ((cT 0), 4, .inl f4)), (r 0, .inl ((cT 1), 64, .inr (.inl f0))), (r 11, .inl ((cT 0), 16, .inl f11)), (r 13, .inl ((cT 0), 200, .inl f13)), (r 18, .inl ((cT 0), 41, .inl f18)), (r 19, .inl ((cT 0), 41, .inl f19)), (r 20, .inl ((cT 0), 41, .inl f20)), (r 21, .inl ((cT 0), 41, .inl f21)), (r 22, .inl ((cT 0), 8200, .inl f22)), (r 23, .inl ((cT 0), 656, .inl f23)), (r 34, .inl ((cT 0), 50, .inl g34_215)), (r 35, .inl ((cT 0), 50, .inl g35_216)), (r 36, .inl ((cT 0), 800, .inl g36_217)), (r 37, .inl ((cT 0), 50, .inl g37_218)), (r 38, .inl ((cT 0), 50, .inl g38_219)), (r 39, .inl ((cT 0), 50, .inl g39_220)), (r 40, .inl ((cT 0), 50, .inl g40_221)), (r 41, .inl ((cT 1), 50, .inr (.inl (vp_updL g41_222 (nI ra).toNatClampNeg x264)))), (r 42, .inl ((cT 1), 50, .inr (.inl g42_223))), (mo, .inr (12, mdG r cd tm (nI sn) (nI 0) (nI lz) (nI az) (nI na) (nI nt) (nI nv) mw ml mk dq)), (r 7, .inl ((cT 0), 1000, .inl f7))] H := hP
                    have hD : va_D A [(r 15, .inl ((cT 0), 200, .inl f15)), (r 9, .inl ((cT 0), 1400, .inl f9)), (r 12, .inl ((cT 0), 1200, .inl f12)), (r 3, .inl ((cT 0), 160, .inl f3)), (r 4, .inl ((cT 0), 4, .inl f4)), (r 0, .inl ((cT 1), 64, .inr (.inl f0))), (r 11, .inl ((cT 0), 16, .inl f11)), (r 13, .inl ((cT 0), 200, .inl f13)), (r 18, .inl ((cT 0), 41, .inl f18)), (r 19, .inl ((cT 0), 41, .inl f19)), (r 20, .inl ((cT 0), 41, .inl f20)), (r 21, .inl ((cT 0), 41, .inl f21)), (r 22, .inl ((cT 0), 8200, .inl f22)), (r 23, .inl ((cT 0), 656, .inl f23)), (r 34, .inl ((cT 0), 50, .inl g34_215)), (r 35, .inl ((cT 0), 50, .inl g35_216)), (r 36, .inl ((cT 0), 800, .inl g36_217)), (r 37, .inl ((cT 0), 50, .inl g37_218)), (r 38, .inl ((cT 0), 50, .inl g38_219)), (r 39, .inl ((cT 0), 50, .inl g39_220)), (r 40, .inl ((cT 0), 50, .inl g40_221)), (r 41, .inl ((cT 1), 50, .inr (.inl (vp_updL g41_222 (nI ra).toNatClampNeg x264)))), (r 42, .inl ((cT 1), 50, .inr (.inl g42_223))), (mo, .inr (12, mdG r cd tm (nI sn) (nI 0) (nI lz) (nI az) (nI na) (nI nt) (nI nv) mw ml mk dq)), (r 7, .inl ((cT 0), 1000, .inl f7))] := hD
                    refine lv_goto (tgt := 338) hx hb d_Md_write_328 (by decide) ?_
                    refine va_last hx hb hK hP hD hS 22 1 rfl rfl (i := (nI ra)) (vp_in_nI (n := ra) (N := 50) (by omega) (by decide)) d_Md_write_338 (fun H locs hP hD hS => ?_)
                    have hP : va_P (dC, dI) vcl [(r 15, .inl ((cT 0), 200, .inl f15)), (r 9, .inl ((cT 0), 1400, .inl f9)), (r 12, .inl ((cT 0), 1200, .inl f12)), (r 3, .inl ((cT 0), 160, .inl f3)), (r 4, .inl ((cT 0), 4, .inl f4)), (r 0, .inl ((cT 1), 64, .inr (.inl f0))), (r 11, .inl ((cT 0), 16, .inl f11)), (r 13, .inl ((cT 0), 200, .inl f13)), (r 18, .inl ((cT 0), 41, .inl f18)), (r 19, .inl ((cT 0), 41, .inl f19)), (r 20, .inl ((cT 0), 41, .inl f20)), (r 21, .inl ((cT 0), 41, .inl f21)), (r 22, .inl ((cT 0), 8200, .inl f22)), (r 23, .inl ((cT 0), 656, .inl f23)), (r 34, .inl ((cT 0), 50, .inl g34_215)), (r 35, .inl ((cT 0), 50, .inl g35_216)), (r 36, .inl ((cT 0), 800, .inl g36_217)), (r 37, .inl ((cT 0), 50, .inl g37_218)), (r 38, .inl ((cT 0), 50, .inl g38_219)), (r 39, .inl ((cT 0), 50, .inl g39_220)), (r 40, .inl ((cT 0), 50, .inl g40_221)), (r 41, .inl ((cT 1), 50, .inr (.inl (vp_updL g41_222 (nI ra).toNatClampNeg x264)))), (r 42, .inl ((cT 1), 50, .inr (.inl (vp_updL g42_223 (nI ra).toNatClampNeg r275)))), (mo, .inr (12, mdG r cd tm (nI sn) (nI 0) (nI lz) (nI az) (nI na) (nI nt) (nI nv) mw ml mk dq)), (r 7, .inl ((cT 0), 1000, .inl f7))] H := hP
                    have hD : va_D A [(r 15, .inl ((cT 0), 200, .inl f15)), (r 9, .inl ((cT 0), 1400, .inl f9)), (r 12, .inl ((cT 0), 1200, .inl f12)), (r 3, .inl ((cT 0), 160, .inl f3)), (r 4, .inl ((cT 0), 4, .inl f4)), (r 0, .inl ((cT 1), 64, .inr (.inl f0))), (r 11, .inl ((cT 0), 16, .inl f11)), (r 13, .inl ((cT 0), 200, .inl f13)), (r 18, .inl ((cT 0), 41, .inl f18)), (r 19, .inl ((cT 0), 41, .inl f19)), (r 20, .inl ((cT 0), 41, .inl f20)), (r 21, .inl ((cT 0), 41, .inl f21)), (r 22, .inl ((cT 0), 8200, .inl f22)), (r 23, .inl ((cT 0), 656, .inl f23)), (r 34, .inl ((cT 0), 50, .inl g34_215)), (r 35, .inl ((cT 0), 50, .inl g35_216)), (r 36, .inl ((cT 0), 800, .inl g36_217)), (r 37, .inl ((cT 0), 50, .inl g37_218)), (r 38, .inl ((cT 0), 50, .inl g38_219)), (r 39, .inl ((cT 0), 50, .inl g39_220)), (r 40, .inl ((cT 0), 50, .inl g40_221)), (r 41, .inl ((cT 1), 50, .inr (.inl (vp_updL g41_222 (nI ra).toNatClampNeg x264)))), (r 42, .inl ((cT 1), 50, .inr (.inl (vp_updL g42_223 (nI ra).toNatClampNeg r275)))), (mo, .inr (12, mdG r cd tm (nI sn) (nI 0) (nI lz) (nI az) (nI na) (nI nt) (nI nv) mw ml mk dq)), (r 7, .inl ((cT 0), 1000, .inl f7))] := hD
                    refine lv_aload_n hx hb d_Md_write_339 rfl (lv_at hl 1 rfl) ?_
                    refine va_get (D := (dC, dI)) (ci := 12) (v := (.ref (r 38))) (C := R_Md) (T := F_Md) (N := 45) hx hb hg in_Md hown hK hP 23 rfl rfl 38 (by decide) (hg _ k_1058) (fun _ h9 => h9) rfl d_Md_write_340 ?_
                    refine lv_iload hx hb d_Md_write_343 (lv_at hl 0 rfl) ?_
                    refine lv_lload_n hx hb d_Md_write_345 rfl (lv_at hl 3 rfl) ?_
                    refine lv_ldc2 (v := 2) hx hb hown (hg _ k_1387) d_Md_write_346 ?_
                    refine W.lcmp hx hb d_Md_write_349 ?_
                    refine lv_if_ne (tgt := 357) hx hb d_Md_write_350 (by decide) (fun hc277 => ?_) (fun hc277 => ?_)
                    · skip
                      refine lv_iconst (v := 0) hx hb d_Md_write_357 (by decide) ?_
                      refine va_iast hx hb hK hP hD hS 18 0 rfl rfl (i := (nI ra)) (vp_in_nI (n := ra) (N := 50) (by omega) (by decide)) d_Md_write_358 (fun H locs hP hD hS => ?_)
                      have ef278 : upd g38_219 (nI ra).toNatClampNeg 0 = upd g38_219 ra 0 := by rw [show (nI ra).toNatClampNeg = ra from nI_clamp (by omega)]
                      rw [ef278] at hP hD
                      have hP : va_P (dC, dI) vcl [(r 15, .inl ((cT 0), 200, .inl f15)), (r 9, .inl ((cT 0), 1400, .inl f9)), (r 12, .inl ((cT 0), 1200, .inl f12)), (r 3, .inl ((cT 0), 160, .inl f3)), (r 4, .inl ((cT 0), 4, .inl f4)), (r 0, .inl ((cT 1), 64, .inr (.inl f0))), (r 11, .inl ((cT 0), 16, .inl f11)), (r 13, .inl ((cT 0), 200, .inl f13)), (r 18, .inl ((cT 0), 41, .inl f18)), (r 19, .inl ((cT 0), 41, .inl f19)), (r 20, .inl ((cT 0), 41, .inl f20)), (r 21, .inl ((cT 0), 41, .inl f21)), (r 22, .inl ((cT 0), 8200, .inl f22)), (r 23, .inl ((cT 0), 656, .inl f23)), (r 34, .inl ((cT 0), 50, .inl g34_215)), (r 35, .inl ((cT 0), 50, .inl g35_216)), (r 36, .inl ((cT 0), 800, .inl g36_217)), (r 37, .inl ((cT 0), 50, .inl g37_218)), (r 38, .inl ((cT 0), 50, .inl (upd g38_219 ra 0))), (r 39, .inl ((cT 0), 50, .inl g39_220)), (r 40, .inl ((cT 0), 50, .inl g40_221)), (r 41, .inl ((cT 1), 50, .inr (.inl (vp_updL g41_222 (nI ra).toNatClampNeg x264)))), (r 42, .inl ((cT 1), 50, .inr (.inl (vp_updL g42_223 (nI ra).toNatClampNeg r275)))), (mo, .inr (12, mdG r cd tm (nI sn) (nI 0) (nI lz) (nI az) (nI na) (nI nt) (nI nv) mw ml mk dq)), (r 7, .inl ((cT 0), 1000, .inl f7))] H := hP
                      have hD : va_D A [(r 15, .inl ((cT 0), 200, .inl f15)), (r 9, .inl ((cT 0), 1400, .inl f9)), (r 12, .inl ((cT 0), 1200, .inl f12)), (r 3, .inl ((cT 0), 160, .inl f3)), (r 4, .inl ((cT 0), 4, .inl f4)), (r 0, .inl ((cT 1), 64, .inr (.inl f0))), (r 11, .inl ((cT 0), 16, .inl f11)), (r 13, .inl ((cT 0), 200, .inl f13)), (r 18, .inl ((cT 0), 41, .inl f18)), (r 19, .inl ((cT 0), 41, .inl f19)), (r 20, .inl ((cT 0), 41, .inl f20)), (r 21, .inl ((cT 0), 41, .inl f21)), (r 22, .inl ((cT 0), 8200, .inl f22)), (r 23, .inl ((cT 0), 656, .inl f23)), (r 34, .inl ((cT 0), 50, .inl g34_215)), (r 35, .inl ((cT 0), 50, .inl g35_216)), (r 36, .inl ((cT 0), 800, .inl g36_217)), (r 37, .inl ((cT 0), 50, .inl g37_218)), (r 38, .inl ((cT 0), 50, .inl (upd g38_219 ra 0))), (r 39, .inl ((cT 0), 50, .inl g39_220)), (r 40, .inl ((cT 0), 50, .inl g40_221)), (r 41, .inl ((cT 1), 50, .inr (.inl (vp_updL g41_222 (nI ra).toNatClampNeg x264)))), (r 42, .inl ((cT 1), 50, .inr (.inl (vp_updL g42_223 (nI ra).toNatClampNeg r275)))), (mo, .inr (12, mdG r cd tm (nI sn) (nI 0) (nI lz) (nI az) (nI na) (nI nt) (nI nv) mw ml mk dq)), (r 7, .inl ((cT 0), 1000, .inl f7))] := hD
                      refine lv_aload_n hx hb d_Md_write_359 rfl (lv_at hl 1 rfl) ?_
                      refine va_get (D := (dC, dI)) (ci := 12) (v := (.ref (r 40))) (C := R_Md) (T := F_Md) (N := 45) hx hb hg in_Md hown hK hP 23 rfl rfl 40 (by decide) (hg _ k_1060) (fun _ h9 => h9) rfl d_Md_write_360 ?_
                      refine lv_iload hx hb d_Md_write_363 (lv_at hl 0 rfl) ?_
                      refine lv_aload_n hx hb d_Md_write_365 rfl (lv_at hl 1 rfl) ?_
                      refine va_get (D := (dC, dI)) (ci := 12) (v := (.int tm)) (C := R_Md) (T := F_Md) (N := 45) hx hb hg in_Md hown hK hP 23 rfl rfl 2 (by decide) (hg _ k_1022) (fun _ h9 => h9) rfl d_Md_write_366 ?_
                      refine va_iast hx hb hK hP hD hS 20 0 rfl rfl (i := (nI ra)) (vp_in_nI (n := ra) (N := 50) (by omega) (by decide)) d_Md_write_369 (fun H locs hP hD hS => ?_)
                      have ef279 : upd g40_221 (nI ra).toNatClampNeg tm = upd g40_221 ra tm := by rw [show (nI ra).toNatClampNeg = ra from nI_clamp (by omega)]
                      rw [ef279] at hP hD
                      have hP : va_P (dC, dI) vcl [(r 15, .inl ((cT 0), 200, .inl f15)), (r 9, .inl ((cT 0), 1400, .inl f9)), (r 12, .inl ((cT 0), 1200, .inl f12)), (r 3, .inl ((cT 0), 160, .inl f3)), (r 4, .inl ((cT 0), 4, .inl f4)), (r 0, .inl ((cT 1), 64, .inr (.inl f0))), (r 11, .inl ((cT 0), 16, .inl f11)), (r 13, .inl ((cT 0), 200, .inl f13)), (r 18, .inl ((cT 0), 41, .inl f18)), (r 19, .inl ((cT 0), 41, .inl f19)), (r 20, .inl ((cT 0), 41, .inl f20)), (r 21, .inl ((cT 0), 41, .inl f21)), (r 22, .inl ((cT 0), 8200, .inl f22)), (r 23, .inl ((cT 0), 656, .inl f23)), (r 34, .inl ((cT 0), 50, .inl g34_215)), (r 35, .inl ((cT 0), 50, .inl g35_216)), (r 36, .inl ((cT 0), 800, .inl g36_217)), (r 37, .inl ((cT 0), 50, .inl g37_218)), (r 38, .inl ((cT 0), 50, .inl (upd g38_219 ra 0))), (r 39, .inl ((cT 0), 50, .inl g39_220)), (r 40, .inl ((cT 0), 50, .inl (upd g40_221 ra tm))), (r 41, .inl ((cT 1), 50, .inr (.inl (vp_updL g41_222 (nI ra).toNatClampNeg x264)))), (r 42, .inl ((cT 1), 50, .inr (.inl (vp_updL g42_223 (nI ra).toNatClampNeg r275)))), (mo, .inr (12, mdG r cd tm (nI sn) (nI 0) (nI lz) (nI az) (nI na) (nI nt) (nI nv) mw ml mk dq)), (r 7, .inl ((cT 0), 1000, .inl f7))] H := hP
                      have hD : va_D A [(r 15, .inl ((cT 0), 200, .inl f15)), (r 9, .inl ((cT 0), 1400, .inl f9)), (r 12, .inl ((cT 0), 1200, .inl f12)), (r 3, .inl ((cT 0), 160, .inl f3)), (r 4, .inl ((cT 0), 4, .inl f4)), (r 0, .inl ((cT 1), 64, .inr (.inl f0))), (r 11, .inl ((cT 0), 16, .inl f11)), (r 13, .inl ((cT 0), 200, .inl f13)), (r 18, .inl ((cT 0), 41, .inl f18)), (r 19, .inl ((cT 0), 41, .inl f19)), (r 20, .inl ((cT 0), 41, .inl f20)), (r 21, .inl ((cT 0), 41, .inl f21)), (r 22, .inl ((cT 0), 8200, .inl f22)), (r 23, .inl ((cT 0), 656, .inl f23)), (r 34, .inl ((cT 0), 50, .inl g34_215)), (r 35, .inl ((cT 0), 50, .inl g35_216)), (r 36, .inl ((cT 0), 800, .inl g36_217)), (r 37, .inl ((cT 0), 50, .inl g37_218)), (r 38, .inl ((cT 0), 50, .inl (upd g38_219 ra 0))), (r 39, .inl ((cT 0), 50, .inl g39_220)), (r 40, .inl ((cT 0), 50, .inl (upd g40_221 ra tm))), (r 41, .inl ((cT 1), 50, .inr (.inl (vp_updL g41_222 (nI ra).toNatClampNeg x264)))), (r 42, .inl ((cT 1), 50, .inr (.inl (vp_updL g42_223 (nI ra).toNatClampNeg r275)))), (mo, .inr (12, mdG r cd tm (nI sn) (nI 0) (nI lz) (nI az) (nI na) (nI nt) (nI nv) mw ml mk dq)), (r 7, .inl ((cT 0), 1000, .inl f7))] := hD
                      have hl := lv_sub hl [1, 2] (show _ = [(0, .ref mo), (1, .int (nI st))] from rfl)
                      exact K224 _ _ _ _ _ _ _  hP hD hS hl
                    · skip
                      refine lv_iconst (v := 1) hx hb d_Md_write_353 (by decide) ?_
                      refine lv_goto (tgt := 358) hx hb d_Md_write_354 (by decide) ?_
                      refine va_iast hx hb hK hP hD hS 18 0 rfl rfl (i := (nI ra)) (vp_in_nI (n := ra) (N := 50) (by omega) (by decide)) d_Md_write_358 (fun H locs hP hD hS => ?_)
                      have ef280 : upd g38_219 (nI ra).toNatClampNeg 1 = upd g38_219 ra 1 := by rw [show (nI ra).toNatClampNeg = ra from nI_clamp (by omega)]
                      rw [ef280] at hP hD
                      have hP : va_P (dC, dI) vcl [(r 15, .inl ((cT 0), 200, .inl f15)), (r 9, .inl ((cT 0), 1400, .inl f9)), (r 12, .inl ((cT 0), 1200, .inl f12)), (r 3, .inl ((cT 0), 160, .inl f3)), (r 4, .inl ((cT 0), 4, .inl f4)), (r 0, .inl ((cT 1), 64, .inr (.inl f0))), (r 11, .inl ((cT 0), 16, .inl f11)), (r 13, .inl ((cT 0), 200, .inl f13)), (r 18, .inl ((cT 0), 41, .inl f18)), (r 19, .inl ((cT 0), 41, .inl f19)), (r 20, .inl ((cT 0), 41, .inl f20)), (r 21, .inl ((cT 0), 41, .inl f21)), (r 22, .inl ((cT 0), 8200, .inl f22)), (r 23, .inl ((cT 0), 656, .inl f23)), (r 34, .inl ((cT 0), 50, .inl g34_215)), (r 35, .inl ((cT 0), 50, .inl g35_216)), (r 36, .inl ((cT 0), 800, .inl g36_217)), (r 37, .inl ((cT 0), 50, .inl g37_218)), (r 38, .inl ((cT 0), 50, .inl (upd g38_219 ra 1))), (r 39, .inl ((cT 0), 50, .inl g39_220)), (r 40, .inl ((cT 0), 50, .inl g40_221)), (r 41, .inl ((cT 1), 50, .inr (.inl (vp_updL g41_222 (nI ra).toNatClampNeg x264)))), (r 42, .inl ((cT 1), 50, .inr (.inl (vp_updL g42_223 (nI ra).toNatClampNeg r275)))), (mo, .inr (12, mdG r cd tm (nI sn) (nI 0) (nI lz) (nI az) (nI na) (nI nt) (nI nv) mw ml mk dq)), (r 7, .inl ((cT 0), 1000, .inl f7))] H := hP
                      have hD : va_D A [(r 15, .inl ((cT 0), 200, .inl f15)), (r 9, .inl ((cT 0), 1400, .inl f9)), (r 12, .inl ((cT 0), 1200, .inl f12)), (r 3, .inl ((cT 0), 160, .inl f3)), (r 4, .inl ((cT 0), 4, .inl f4)), (r 0, .inl ((cT 1), 64, .inr (.inl f0))), (r 11, .inl ((cT 0), 16, .inl f11)), (r 13, .inl ((cT 0), 200, .inl f13)), (r 18, .inl ((cT 0), 41, .inl f18)), (r 19, .inl ((cT 0), 41, .inl f19)), (r 20, .inl ((cT 0), 41, .inl f20)), (r 21, .inl ((cT 0), 41, .inl f21)), (r 22, .inl ((cT 0), 8200, .inl f22)), (r 23, .inl ((cT 0), 656, .inl f23)), (r 34, .inl ((cT 0), 50, .inl g34_215)), (r 35, .inl ((cT 0), 50, .inl g35_216)), (r 36, .inl ((cT 0), 800, .inl g36_217)), (r 37, .inl ((cT 0), 50, .inl g37_218)), (r 38, .inl ((cT 0), 50, .inl (upd g38_219 ra 1))), (r 39, .inl ((cT 0), 50, .inl g39_220)), (r 40, .inl ((cT 0), 50, .inl g40_221)), (r 41, .inl ((cT 1), 50, .inr (.inl (vp_updL g41_222 (nI ra).toNatClampNeg x264)))), (r 42, .inl ((cT 1), 50, .inr (.inl (vp_updL g42_223 (nI ra).toNatClampNeg r275)))), (mo, .inr (12, mdG r cd tm (nI sn) (nI 0) (nI lz) (nI az) (nI na) (nI nt) (nI nv) mw ml mk dq)), (r 7, .inl ((cT 0), 1000, .inl f7))] := hD
                      refine lv_aload_n hx hb d_Md_write_359 rfl (lv_at hl 1 rfl) ?_
                      refine va_get (D := (dC, dI)) (ci := 12) (v := (.ref (r 40))) (C := R_Md) (T := F_Md) (N := 45) hx hb hg in_Md hown hK hP 23 rfl rfl 40 (by decide) (hg _ k_1060) (fun _ h9 => h9) rfl d_Md_write_360 ?_
                      refine lv_iload hx hb d_Md_write_363 (lv_at hl 0 rfl) ?_
                      refine lv_aload_n hx hb d_Md_write_365 rfl (lv_at hl 1 rfl) ?_
                      refine va_get (D := (dC, dI)) (ci := 12) (v := (.int tm)) (C := R_Md) (T := F_Md) (N := 45) hx hb hg in_Md hown hK hP 23 rfl rfl 2 (by decide) (hg _ k_1022) (fun _ h9 => h9) rfl d_Md_write_366 ?_
                      refine va_iast hx hb hK hP hD hS 20 0 rfl rfl (i := (nI ra)) (vp_in_nI (n := ra) (N := 50) (by omega) (by decide)) d_Md_write_369 (fun H locs hP hD hS => ?_)
                      have ef281 : upd g40_221 (nI ra).toNatClampNeg tm = upd g40_221 ra tm := by rw [show (nI ra).toNatClampNeg = ra from nI_clamp (by omega)]
                      rw [ef281] at hP hD
                      have hP : va_P (dC, dI) vcl [(r 15, .inl ((cT 0), 200, .inl f15)), (r 9, .inl ((cT 0), 1400, .inl f9)), (r 12, .inl ((cT 0), 1200, .inl f12)), (r 3, .inl ((cT 0), 160, .inl f3)), (r 4, .inl ((cT 0), 4, .inl f4)), (r 0, .inl ((cT 1), 64, .inr (.inl f0))), (r 11, .inl ((cT 0), 16, .inl f11)), (r 13, .inl ((cT 0), 200, .inl f13)), (r 18, .inl ((cT 0), 41, .inl f18)), (r 19, .inl ((cT 0), 41, .inl f19)), (r 20, .inl ((cT 0), 41, .inl f20)), (r 21, .inl ((cT 0), 41, .inl f21)), (r 22, .inl ((cT 0), 8200, .inl f22)), (r 23, .inl ((cT 0), 656, .inl f23)), (r 34, .inl ((cT 0), 50, .inl g34_215)), (r 35, .inl ((cT 0), 50, .inl g35_216)), (r 36, .inl ((cT 0), 800, .inl g36_217)), (r 37, .inl ((cT 0), 50, .inl g37_218)), (r 38, .inl ((cT 0), 50, .inl (upd g38_219 ra 1))), (r 39, .inl ((cT 0), 50, .inl g39_220)), (r 40, .inl ((cT 0), 50, .inl (upd g40_221 ra tm))), (r 41, .inl ((cT 1), 50, .inr (.inl (vp_updL g41_222 (nI ra).toNatClampNeg x264)))), (r 42, .inl ((cT 1), 50, .inr (.inl (vp_updL g42_223 (nI ra).toNatClampNeg r275)))), (mo, .inr (12, mdG r cd tm (nI sn) (nI 0) (nI lz) (nI az) (nI na) (nI nt) (nI nv) mw ml mk dq)), (r 7, .inl ((cT 0), 1000, .inl f7))] H := hP
                      have hD : va_D A [(r 15, .inl ((cT 0), 200, .inl f15)), (r 9, .inl ((cT 0), 1400, .inl f9)), (r 12, .inl ((cT 0), 1200, .inl f12)), (r 3, .inl ((cT 0), 160, .inl f3)), (r 4, .inl ((cT 0), 4, .inl f4)), (r 0, .inl ((cT 1), 64, .inr (.inl f0))), (r 11, .inl ((cT 0), 16, .inl f11)), (r 13, .inl ((cT 0), 200, .inl f13)), (r 18, .inl ((cT 0), 41, .inl f18)), (r 19, .inl ((cT 0), 41, .inl f19)), (r 20, .inl ((cT 0), 41, .inl f20)), (r 21, .inl ((cT 0), 41, .inl f21)), (r 22, .inl ((cT 0), 8200, .inl f22)), (r 23, .inl ((cT 0), 656, .inl f23)), (r 34, .inl ((cT 0), 50, .inl g34_215)), (r 35, .inl ((cT 0), 50, .inl g35_216)), (r 36, .inl ((cT 0), 800, .inl g36_217)), (r 37, .inl ((cT 0), 50, .inl g37_218)), (r 38, .inl ((cT 0), 50, .inl (upd g38_219 ra 1))), (r 39, .inl ((cT 0), 50, .inl g39_220)), (r 40, .inl ((cT 0), 50, .inl (upd g40_221 ra tm))), (r 41, .inl ((cT 1), 50, .inr (.inl (vp_updL g41_222 (nI ra).toNatClampNeg x264)))), (r 42, .inl ((cT 1), 50, .inr (.inl (vp_updL g42_223 (nI ra).toNatClampNeg r275)))), (mo, .inr (12, mdG r cd tm (nI sn) (nI 0) (nI lz) (nI az) (nI na) (nI nt) (nI nv) mw ml mk dq)), (r 7, .inl ((cT 0), 1000, .inl f7))] := hD
                      have hl := lv_sub hl [1, 2] (show _ = [(0, .ref mo), (1, .int (nI st))] from rfl)
                      exact K224 _ _ _ _ _ _ _  hP hD hS hl
                · skip
                  refine lv_aload_n hx hb d_Md_write_282 rfl (lv_at hl 1 rfl) ?_
                  refine lv_bipush (v := 42) hx hb d_Md_write_283 (by decide) ?_
                  have hPc := hP.sub (ws' := [(mo, .inr (12, mdG r cd tm (nI sn) (nI 0) (nI lz) (nI az) (nI na) (nI nt) (nI nv) mw ml mk dq)), (r 7, .inl ((cT 0), 1000, .inl f7))]) [23, 24] rfl
                  have hDc := hD.sub (ws' := [(mo, .inr (12, mdG r cd tm (nI sn) (nI 0) (nI lz) (nI az) (nI na) (nI nt) (nI nv) mw ml mk dq)), (r 7, .inl ((cT 0), 1000, .inl f7))]) [23, 24] (by decide) rfl
                  have hFc := va_free (wc := [(mo, .inr (12, mdG r cd tm (nI sn) (nI 0) (nI lz) (nI az) (nI na) (nI nt) (nI nv) mw ml mk dq)), (r 7, .inl ((cT 0), 1000, .inl f7))]) hD hS hA [23, 24] rfl
                  refine va_calll (va_runV (C := "DoorServerModel") (As := [.int 42]) (rest := [.int (nI ra), .ref (r 41)]) ⟨hx, hb, hml, hown, hg⟩ (m_four42 l dC dI cT H.size mo r cd tm sn 0 lz az na nt nv mw ml mk dq f7 (by first | assumption | omega) (by first | assumption | omega) (by first | assumption | omega)) (cwV 1 hg (gI (List.forall_mem_append.mpr ⟨List.forall_mem_cons.mpr ⟨k_1383, List.forall_mem_cons.mpr ⟨k_1385, List.forall_mem_cons.mpr ⟨(big_sel (q := y_Md_fourOf) (n := 45) (by decide +kernel)), List.forall_mem_cons.mpr ⟨k_13, fun _ h => absurd h List.not_mem_nil⟩⟩⟩⟩, List.forall_mem_cons.mpr ⟨k_1386, fun _ h => h⟩⟩)) rfl rfl rfl (by decide +kernel) ⟨Nat.le_of_ble_eq_true rfl, Nat.le_of_ble_eq_true rfl⟩) ⟨fun a U g mk q => by obtain ⟨q0, q1, qP, qK, qD⟩ := q; exact ⟨q0, q1, qP, va_K.moved (u := U) (U := U.calling g mk a) (Vm.Alike.refl U.vm) qK, qD⟩, va_recv (q0 := 23) (ci := 12) hK hP rfl rfl, fun U hU hW => ⟨rfl, by rw [hU], by rw [hU]; exact hPc, va_K.moved hW.alike hK, hDc.weaken (fun _ _ _ _ => trivial)⟩⟩ rfl rfl hl.1 rfl (lv_room (Nat.le_of_ble_eq_true rfl)) d_Md_write_285 ⟨Nat.le_of_ble_eq_true rfl, Nat.le_of_ble_eq_true rfl⟩) hS (fun q _ h => hFc q h) hFc (fun rv9 u t H1 locs ht hvm hw hB hz1 hk1 hS => ?_)
                  try dsimp only at hw hB
                  obtain ⟨hP1, hK1, hD1⟩ := hB
                  rw [ht] at hP1
                  generalize rv9 = r282 at hw ⊢
                  obtain ⟨hP, hD⟩ := va_join (wr := [(r 15, .inl ((cT 0), 200, .inl f15)), (r 9, .inl ((cT 0), 1400, .inl f9)), (r 12, .inl ((cT 0), 1200, .inl f12)), (r 3, .inl ((cT 0), 160, .inl f3)), (r 4, .inl ((cT 0), 4, .inl f4)), (r 0, .inl ((cT 1), 64, .inr (.inl f0))), (r 11, .inl ((cT 0), 16, .inl f11)), (r 13, .inl ((cT 0), 200, .inl f13)), (r 18, .inl ((cT 0), 41, .inl f18)), (r 19, .inl ((cT 0), 41, .inl f19)), (r 20, .inl ((cT 0), 41, .inl f20)), (r 21, .inl ((cT 0), 41, .inl f21)), (r 22, .inl ((cT 0), 8200, .inl f22)), (r 23, .inl ((cT 0), 656, .inl f23)), (r 34, .inl ((cT 0), 50, .inl g34_215)), (r 35, .inl ((cT 0), 50, .inl g35_216)), (r 36, .inl ((cT 0), 800, .inl g36_217)), (r 37, .inl ((cT 0), 50, .inl g37_218)), (r 38, .inl ((cT 0), 50, .inl g38_219)), (r 39, .inl ((cT 0), 50, .inl g39_220)), (r 40, .inl ((cT 0), 50, .inl g40_221)), (r 41, .inl ((cT 1), 50, .inr (.inl g41_222))), (r 42, .inl ((cT 1), 50, .inr (.inl g42_223)))]) (w1 := [(mo, .inr (12, mdG r cd tm (nI sn) (nI 0) (nI lz) (nI az) (nI na) (nI nt) (nI nv) mw ml mk dq)), (r 7, .inl ((cT 0), 1000, .inl f7))]) hP hD [23, 24] [0, 1, 2, 3, 4, 5, 6, 7, 8, 9, 10, 11, 12, 13, 14, 15, 16, 17, 18, 19, 20, 21, 22] rfl rfl (by decide) (by decide) hk1 hFc hP1 hD1
                  have hw283 := hw
                  clear hPc hDc hFc hz1 hk1 hP1 hK1 hD1
                  generalize H1 = H at hP hS ⊢
                  have hP : va_P (dC, dI) vcl [(r 15, .inl ((cT 0), 200, .inl f15)), (r 9, .inl ((cT 0), 1400, .inl f9)), (r 12, .inl ((cT 0), 1200, .inl f12)), (r 3, .inl ((cT 0), 160, .inl f3)), (r 4, .inl ((cT 0), 4, .inl f4)), (r 0, .inl ((cT 1), 64, .inr (.inl f0))), (r 11, .inl ((cT 0), 16, .inl f11)), (r 13, .inl ((cT 0), 200, .inl f13)), (r 18, .inl ((cT 0), 41, .inl f18)), (r 19, .inl ((cT 0), 41, .inl f19)), (r 20, .inl ((cT 0), 41, .inl f20)), (r 21, .inl ((cT 0), 41, .inl f21)), (r 22, .inl ((cT 0), 8200, .inl f22)), (r 23, .inl ((cT 0), 656, .inl f23)), (r 34, .inl ((cT 0), 50, .inl g34_215)), (r 35, .inl ((cT 0), 50, .inl g35_216)), (r 36, .inl ((cT 0), 800, .inl g36_217)), (r 37, .inl ((cT 0), 50, .inl g37_218)), (r 38, .inl ((cT 0), 50, .inl g38_219)), (r 39, .inl ((cT 0), 50, .inl g39_220)), (r 40, .inl ((cT 0), 50, .inl g40_221)), (r 41, .inl ((cT 1), 50, .inr (.inl g41_222))), (r 42, .inl ((cT 1), 50, .inr (.inl g42_223))), (mo, .inr (12, mdG r cd tm (nI sn) (nI 0) (nI lz) (nI az) (nI na) (nI nt) (nI nv) mw ml mk dq)), (r 7, .inl ((cT 0), 1000, .inl f7))] H := hP
                  have hD : va_D A [(r 15, .inl ((cT 0), 200, .inl f15)), (r 9, .inl ((cT 0), 1400, .inl f9)), (r 12, .inl ((cT 0), 1200, .inl f12)), (r 3, .inl ((cT 0), 160, .inl f3)), (r 4, .inl ((cT 0), 4, .inl f4)), (r 0, .inl ((cT 1), 64, .inr (.inl f0))), (r 11, .inl ((cT 0), 16, .inl f11)), (r 13, .inl ((cT 0), 200, .inl f13)), (r 18, .inl ((cT 0), 41, .inl f18)), (r 19, .inl ((cT 0), 41, .inl f19)), (r 20, .inl ((cT 0), 41, .inl f20)), (r 21, .inl ((cT 0), 41, .inl f21)), (r 22, .inl ((cT 0), 8200, .inl f22)), (r 23, .inl ((cT 0), 656, .inl f23)), (r 34, .inl ((cT 0), 50, .inl g34_215)), (r 35, .inl ((cT 0), 50, .inl g35_216)), (r 36, .inl ((cT 0), 800, .inl g36_217)), (r 37, .inl ((cT 0), 50, .inl g37_218)), (r 38, .inl ((cT 0), 50, .inl g38_219)), (r 39, .inl ((cT 0), 50, .inl g39_220)), (r 40, .inl ((cT 0), 50, .inl g40_221)), (r 41, .inl ((cT 1), 50, .inr (.inl g41_222))), (r 42, .inl ((cT 1), 50, .inr (.inl g42_223))), (mo, .inr (12, mdG r cd tm (nI sn) (nI 0) (nI lz) (nI az) (nI na) (nI nt) (nI nv) mw ml mk dq)), (r 7, .inl ((cT 0), 1000, .inl f7))] := hD
                  refine lv_goto (tgt := 298) hx hb d_Md_write_288 (by decide) ?_
                  refine va_last hx hb hK hP hD hS 21 1 rfl rfl (i := (nI ra)) (vp_in_nI (n := ra) (N := 50) (by omega) (by decide)) d_Md_write_298 (fun H locs hP hD hS => ?_)
                  have hP : va_P (dC, dI) vcl [(r 15, .inl ((cT 0), 200, .inl f15)), (r 9, .inl ((cT 0), 1400, .inl f9)), (r 12, .inl ((cT 0), 1200, .inl f12)), (r 3, .inl ((cT 0), 160, .inl f3)), (r 4, .inl ((cT 0), 4, .inl f4)), (r 0, .inl ((cT 1), 64, .inr (.inl f0))), (r 11, .inl ((cT 0), 16, .inl f11)), (r 13, .inl ((cT 0), 200, .inl f13)), (r 18, .inl ((cT 0), 41, .inl f18)), (r 19, .inl ((cT 0), 41, .inl f19)), (r 20, .inl ((cT 0), 41, .inl f20)), (r 21, .inl ((cT 0), 41, .inl f21)), (r 22, .inl ((cT 0), 8200, .inl f22)), (r 23, .inl ((cT 0), 656, .inl f23)), (r 34, .inl ((cT 0), 50, .inl g34_215)), (r 35, .inl ((cT 0), 50, .inl g35_216)), (r 36, .inl ((cT 0), 800, .inl g36_217)), (r 37, .inl ((cT 0), 50, .inl g37_218)), (r 38, .inl ((cT 0), 50, .inl g38_219)), (r 39, .inl ((cT 0), 50, .inl g39_220)), (r 40, .inl ((cT 0), 50, .inl g40_221)), (r 41, .inl ((cT 1), 50, .inr (.inl (vp_updL g41_222 (nI ra).toNatClampNeg r282)))), (r 42, .inl ((cT 1), 50, .inr (.inl g42_223))), (mo, .inr (12, mdG r cd tm (nI sn) (nI 0) (nI lz) (nI az) (nI na) (nI nt) (nI nv) mw ml mk dq)), (r 7, .inl ((cT 0), 1000, .inl f7))] H := hP
                  have hD : va_D A [(r 15, .inl ((cT 0), 200, .inl f15)), (r 9, .inl ((cT 0), 1400, .inl f9)), (r 12, .inl ((cT 0), 1200, .inl f12)), (r 3, .inl ((cT 0), 160, .inl f3)), (r 4, .inl ((cT 0), 4, .inl f4)), (r 0, .inl ((cT 1), 64, .inr (.inl f0))), (r 11, .inl ((cT 0), 16, .inl f11)), (r 13, .inl ((cT 0), 200, .inl f13)), (r 18, .inl ((cT 0), 41, .inl f18)), (r 19, .inl ((cT 0), 41, .inl f19)), (r 20, .inl ((cT 0), 41, .inl f20)), (r 21, .inl ((cT 0), 41, .inl f21)), (r 22, .inl ((cT 0), 8200, .inl f22)), (r 23, .inl ((cT 0), 656, .inl f23)), (r 34, .inl ((cT 0), 50, .inl g34_215)), (r 35, .inl ((cT 0), 50, .inl g35_216)), (r 36, .inl ((cT 0), 800, .inl g36_217)), (r 37, .inl ((cT 0), 50, .inl g37_218)), (r 38, .inl ((cT 0), 50, .inl g38_219)), (r 39, .inl ((cT 0), 50, .inl g39_220)), (r 40, .inl ((cT 0), 50, .inl g40_221)), (r 41, .inl ((cT 1), 50, .inr (.inl (vp_updL g41_222 (nI ra).toNatClampNeg r282)))), (r 42, .inl ((cT 1), 50, .inr (.inl g42_223))), (mo, .inr (12, mdG r cd tm (nI sn) (nI 0) (nI lz) (nI az) (nI na) (nI nt) (nI nv) mw ml mk dq)), (r 7, .inl ((cT 0), 1000, .inl f7))] := hD
                  refine lv_aload_n hx hb d_Md_write_299 rfl (lv_at hl 1 rfl) ?_
                  refine va_get (D := (dC, dI)) (ci := 12) (v := (.ref (r 42))) (C := R_Md) (T := F_Md) (N := 45) hx hb hg in_Md hown hK hP 23 rfl rfl 42 (by decide) (hg _ k_1062) (fun _ h9 => h9) rfl d_Md_write_300 ?_
                  refine lv_iload hx hb d_Md_write_303 (lv_at hl 0 rfl) ?_
                  refine lv_aload_n hx hb d_Md_write_305 rfl (lv_at hl 1 rfl) ?_
                  refine lv_bipush (v := 43) hx hb d_Md_write_306 (by decide) ?_
                  have hPc := hP.sub (ws' := [(mo, .inr (12, mdG r cd tm (nI sn) (nI 0) (nI lz) (nI az) (nI na) (nI nt) (nI nv) mw ml mk dq)), (r 7, .inl ((cT 0), 1000, .inl f7))]) [23, 24] rfl
                  have hDc := hD.sub (ws' := [(mo, .inr (12, mdG r cd tm (nI sn) (nI 0) (nI lz) (nI az) (nI na) (nI nt) (nI nv) mw ml mk dq)), (r 7, .inl ((cT 0), 1000, .inl f7))]) [23, 24] (by decide) rfl
                  have hFc := va_free (wc := [(mo, .inr (12, mdG r cd tm (nI sn) (nI 0) (nI lz) (nI az) (nI na) (nI nt) (nI nv) mw ml mk dq)), (r 7, .inl ((cT 0), 1000, .inl f7))]) hD hS hA [23, 24] rfl
                  refine va_calll (va_runV (C := "DoorServerModel") (As := [.int 43]) (rest := [.int (nI ra), .ref (r 42)]) ⟨hx, hb, hml, hown, hg⟩ (m_four43 l dC dI cT H.size mo r cd tm sn 0 lz az na nt nv mw ml mk dq f7 (by first | assumption | omega) (by first | assumption | omega) (by first | assumption | omega)) (cwV 1 hg (gI (List.forall_mem_append.mpr ⟨List.forall_mem_cons.mpr ⟨k_1383, List.forall_mem_cons.mpr ⟨k_1385, List.forall_mem_cons.mpr ⟨(big_sel (q := y_Md_fourOf) (n := 45) (by decide +kernel)), List.forall_mem_cons.mpr ⟨k_13, fun _ h => absurd h List.not_mem_nil⟩⟩⟩⟩, List.forall_mem_cons.mpr ⟨k_1386, fun _ h => h⟩⟩)) rfl rfl rfl (by decide +kernel) ⟨Nat.le_of_ble_eq_true rfl, Nat.le_of_ble_eq_true rfl⟩) ⟨fun a U g mk q => by obtain ⟨q0, q1, qP, qK, qD⟩ := q; exact ⟨q0, q1, qP, va_K.moved (u := U) (U := U.calling g mk a) (Vm.Alike.refl U.vm) qK, qD⟩, va_recv (q0 := 23) (ci := 12) hK hP rfl rfl, fun U hU hW => ⟨rfl, by rw [hU], by rw [hU]; exact hPc, va_K.moved hW.alike hK, hDc.weaken (fun _ _ _ _ => trivial)⟩⟩ rfl rfl hl.1 rfl (lv_room (Nat.le_of_ble_eq_true rfl)) d_Md_write_308 ⟨Nat.le_of_ble_eq_true rfl, Nat.le_of_ble_eq_true rfl⟩) hS (fun q _ h => hFc q h) hFc (fun rv9 u t H1 locs ht hvm hw hB hz1 hk1 hS => ?_)
                  try dsimp only at hw hB
                  obtain ⟨hP1, hK1, hD1⟩ := hB
                  rw [ht] at hP1
                  generalize rv9 = r284 at hw ⊢
                  obtain ⟨hP, hD⟩ := va_join (wr := [(r 15, .inl ((cT 0), 200, .inl f15)), (r 9, .inl ((cT 0), 1400, .inl f9)), (r 12, .inl ((cT 0), 1200, .inl f12)), (r 3, .inl ((cT 0), 160, .inl f3)), (r 4, .inl ((cT 0), 4, .inl f4)), (r 0, .inl ((cT 1), 64, .inr (.inl f0))), (r 11, .inl ((cT 0), 16, .inl f11)), (r 13, .inl ((cT 0), 200, .inl f13)), (r 18, .inl ((cT 0), 41, .inl f18)), (r 19, .inl ((cT 0), 41, .inl f19)), (r 20, .inl ((cT 0), 41, .inl f20)), (r 21, .inl ((cT 0), 41, .inl f21)), (r 22, .inl ((cT 0), 8200, .inl f22)), (r 23, .inl ((cT 0), 656, .inl f23)), (r 34, .inl ((cT 0), 50, .inl g34_215)), (r 35, .inl ((cT 0), 50, .inl g35_216)), (r 36, .inl ((cT 0), 800, .inl g36_217)), (r 37, .inl ((cT 0), 50, .inl g37_218)), (r 38, .inl ((cT 0), 50, .inl g38_219)), (r 39, .inl ((cT 0), 50, .inl g39_220)), (r 40, .inl ((cT 0), 50, .inl g40_221)), (r 41, .inl ((cT 1), 50, .inr (.inl (vp_updL g41_222 (nI ra).toNatClampNeg r282)))), (r 42, .inl ((cT 1), 50, .inr (.inl g42_223)))]) (w1 := [(mo, .inr (12, mdG r cd tm (nI sn) (nI 0) (nI lz) (nI az) (nI na) (nI nt) (nI nv) mw ml mk dq)), (r 7, .inl ((cT 0), 1000, .inl f7))]) hP hD [23, 24] [0, 1, 2, 3, 4, 5, 6, 7, 8, 9, 10, 11, 12, 13, 14, 15, 16, 17, 18, 19, 20, 21, 22] rfl rfl (by decide) (by decide) hk1 hFc hP1 hD1
                  have hw285 := hw
                  clear hPc hDc hFc hz1 hk1 hP1 hK1 hD1
                  generalize H1 = H at hP hS ⊢
                  have hP : va_P (dC, dI) vcl [(r 15, .inl ((cT 0), 200, .inl f15)), (r 9, .inl ((cT 0), 1400, .inl f9)), (r 12, .inl ((cT 0), 1200, .inl f12)), (r 3, .inl ((cT 0), 160, .inl f3)), (r 4, .inl ((cT 0), 4, .inl f4)), (r 0, .inl ((cT 1), 64, .inr (.inl f0))), (r 11, .inl ((cT 0), 16, .inl f11)), (r 13, .inl ((cT 0), 200, .inl f13)), (r 18, .inl ((cT 0), 41, .inl f18)), (r 19, .inl ((cT 0), 41, .inl f19)), (r 20, .inl ((cT 0), 41, .inl f20)), (r 21, .inl ((cT 0), 41, .inl f21)), (r 22, .inl ((cT 0), 8200, .inl f22)), (r 23, .inl ((cT 0), 656, .inl f23)), (r 34, .inl ((cT 0), 50, .inl g34_215)), (r 35, .inl ((cT 0), 50, .inl g35_216)), (r 36, .inl ((cT 0), 800, .inl g36_217)), (r 37, .inl ((cT 0), 50, .inl g37_218)), (r 38, .inl ((cT 0), 50, .inl g38_219)), (r 39, .inl ((cT 0), 50, .inl g39_220)), (r 40, .inl ((cT 0), 50, .inl g40_221)), (r 41, .inl ((cT 1), 50, .inr (.inl (vp_updL g41_222 (nI ra).toNatClampNeg r282)))), (r 42, .inl ((cT 1), 50, .inr (.inl g42_223))), (mo, .inr (12, mdG r cd tm (nI sn) (nI 0) (nI lz) (nI az) (nI na) (nI nt) (nI nv) mw ml mk dq)), (r 7, .inl ((cT 0), 1000, .inl f7))] H := hP
                  have hD : va_D A [(r 15, .inl ((cT 0), 200, .inl f15)), (r 9, .inl ((cT 0), 1400, .inl f9)), (r 12, .inl ((cT 0), 1200, .inl f12)), (r 3, .inl ((cT 0), 160, .inl f3)), (r 4, .inl ((cT 0), 4, .inl f4)), (r 0, .inl ((cT 1), 64, .inr (.inl f0))), (r 11, .inl ((cT 0), 16, .inl f11)), (r 13, .inl ((cT 0), 200, .inl f13)), (r 18, .inl ((cT 0), 41, .inl f18)), (r 19, .inl ((cT 0), 41, .inl f19)), (r 20, .inl ((cT 0), 41, .inl f20)), (r 21, .inl ((cT 0), 41, .inl f21)), (r 22, .inl ((cT 0), 8200, .inl f22)), (r 23, .inl ((cT 0), 656, .inl f23)), (r 34, .inl ((cT 0), 50, .inl g34_215)), (r 35, .inl ((cT 0), 50, .inl g35_216)), (r 36, .inl ((cT 0), 800, .inl g36_217)), (r 37, .inl ((cT 0), 50, .inl g37_218)), (r 38, .inl ((cT 0), 50, .inl g38_219)), (r 39, .inl ((cT 0), 50, .inl g39_220)), (r 40, .inl ((cT 0), 50, .inl g40_221)), (r 41, .inl ((cT 1), 50, .inr (.inl (vp_updL g41_222 (nI ra).toNatClampNeg r282)))), (r 42, .inl ((cT 1), 50, .inr (.inl g42_223))), (mo, .inr (12, mdG r cd tm (nI sn) (nI 0) (nI lz) (nI az) (nI na) (nI nt) (nI nv) mw ml mk dq)), (r 7, .inl ((cT 0), 1000, .inl f7))] := hD
                  refine lv_aload_n hx hb d_Md_write_311 rfl (lv_at hl 1 rfl) ?_
                  refine va_get (D := (dC, dI)) (ci := 12) (v := (.ref (r 42))) (C := R_Md) (T := F_Md) (N := 45) hx hb hg in_Md hown hK hP 23 rfl rfl 42 (by decide) (hg _ k_1062) (fun _ h9 => h9) rfl d_Md_write_312 ?_
                  refine lv_iload hx hb d_Md_write_315 (lv_at hl 0 rfl) ?_
                  refine va_lald hx hb hK hP 22 1 rfl rfl (i := (nI ra)) (vp_in_nI (N := 50) (by omega) (by decide)) d_Md_write_317 ?_
                  refine lv_topl (fun x286 e_x286 => ?_)
                  clear e_x286
                  refine W.lcmp hx hb d_Md_write_318 ?_
                  refine lv_if_le (tgt := 331) hx hb d_Md_write_319 (by decide) (fun hc287 => ?_) (fun hc287 => ?_)
                  · skip
                    refine lv_aload_n hx hb d_Md_write_331 rfl (lv_at hl 1 rfl) ?_
                    refine va_get (D := (dC, dI)) (ci := 12) (v := (.ref (r 42))) (C := R_Md) (T := F_Md) (N := 45) hx hb hg in_Md hown hK hP 23 rfl rfl 42 (by decide) (hg _ k_1062) (fun _ h9 => h9) rfl d_Md_write_332 ?_
                    refine lv_iload hx hb d_Md_write_335 (lv_at hl 0 rfl) ?_
                    refine va_lald hx hb hK hP 22 1 rfl rfl (i := (nI ra)) (vp_in_nI (N := 50) (by omega) (by decide)) d_Md_write_337 ?_
                    refine lv_topl (fun x288 e_x288 => ?_)
                    clear e_x288
                    refine va_last hx hb hK hP hD hS 22 1 rfl rfl (i := (nI ra)) (vp_in_nI (n := ra) (N := 50) (by omega) (by decide)) d_Md_write_338 (fun H locs hP hD hS => ?_)
                    have hP : va_P (dC, dI) vcl [(r 15, .inl ((cT 0), 200, .inl f15)), (r 9, .inl ((cT 0), 1400, .inl f9)), (r 12, .inl ((cT 0), 1200, .inl f12)), (r 3, .inl ((cT 0), 160, .inl f3)), (r 4, .inl ((cT 0), 4, .inl f4)), (r 0, .inl ((cT 1), 64, .inr (.inl f0))), (r 11, .inl ((cT 0), 16, .inl f11)), (r 13, .inl ((cT 0), 200, .inl f13)), (r 18, .inl ((cT 0), 41, .inl f18)), (r 19, .inl ((cT 0), 41, .inl f19)), (r 20, .inl ((cT 0), 41, .inl f20)), (r 21, .inl ((cT 0), 41, .inl f21)), (r 22, .inl ((cT 0), 8200, .inl f22)), (r 23, .inl ((cT 0), 656, .inl f23)), (r 34, .inl ((cT 0), 50, .inl g34_215)), (r 35, .inl ((cT 0), 50, .inl g35_216)), (r 36, .inl ((cT 0), 800, .inl g36_217)), (r 37, .inl ((cT 0), 50, .inl g37_218)), (r 38, .inl ((cT 0), 50, .inl g38_219)), (r 39, .inl ((cT 0), 50, .inl g39_220)), (r 40, .inl ((cT 0), 50, .inl g40_221)), (r 41, .inl ((cT 1), 50, .inr (.inl (vp_updL g41_222 (nI ra).toNatClampNeg r282)))), (r 42, .inl ((cT 1), 50, .inr (.inl (vp_updL g42_223 (nI ra).toNatClampNeg x288)))), (mo, .inr (12, mdG r cd tm (nI sn) (nI 0) (nI lz) (nI az) (nI na) (nI nt) (nI nv) mw ml mk dq)), (r 7, .inl ((cT 0), 1000, .inl f7))] H := hP
                    have hD : va_D A [(r 15, .inl ((cT 0), 200, .inl f15)), (r 9, .inl ((cT 0), 1400, .inl f9)), (r 12, .inl ((cT 0), 1200, .inl f12)), (r 3, .inl ((cT 0), 160, .inl f3)), (r 4, .inl ((cT 0), 4, .inl f4)), (r 0, .inl ((cT 1), 64, .inr (.inl f0))), (r 11, .inl ((cT 0), 16, .inl f11)), (r 13, .inl ((cT 0), 200, .inl f13)), (r 18, .inl ((cT 0), 41, .inl f18)), (r 19, .inl ((cT 0), 41, .inl f19)), (r 20, .inl ((cT 0), 41, .inl f20)), (r 21, .inl ((cT 0), 41, .inl f21)), (r 22, .inl ((cT 0), 8200, .inl f22)), (r 23, .inl ((cT 0), 656, .inl f23)), (r 34, .inl ((cT 0), 50, .inl g34_215)), (r 35, .inl ((cT 0), 50, .inl g35_216)), (r 36, .inl ((cT 0), 800, .inl g36_217)), (r 37, .inl ((cT 0), 50, .inl g37_218)), (r 38, .inl ((cT 0), 50, .inl g38_219)), (r 39, .inl ((cT 0), 50, .inl g39_220)), (r 40, .inl ((cT 0), 50, .inl g40_221)), (r 41, .inl ((cT 1), 50, .inr (.inl (vp_updL g41_222 (nI ra).toNatClampNeg r282)))), (r 42, .inl ((cT 1), 50, .inr (.inl (vp_updL g42_223 (nI ra).toNatClampNeg x288)))), (mo, .inr (12, mdG r cd tm (nI sn) (nI 0) (nI lz) (nI az) (nI na) (nI nt) (nI nv) mw ml mk dq)), (r 7, .inl ((cT 0), 1000, .inl f7))] := hD
                    refine lv_aload_n hx hb d_Md_write_339 rfl (lv_at hl 1 rfl) ?_
                    refine va_get (D := (dC, dI)) (ci := 12) (v := (.ref (r 38))) (C := R_Md) (T := F_Md) (N := 45) hx hb hg in_Md hown hK hP 23 rfl rfl 38 (by decide) (hg _ k_1058) (fun _ h9 => h9) rfl d_Md_write_340 ?_
                    refine lv_iload hx hb d_Md_write_343 (lv_at hl 0 rfl) ?_
                    refine lv_lload_n hx hb d_Md_write_345 rfl (lv_at hl 3 rfl) ?_
                    refine lv_ldc2 (v := 2) hx hb hown (hg _ k_1387) d_Md_write_346 ?_
                    refine W.lcmp hx hb d_Md_write_349 ?_
                    refine lv_if_ne (tgt := 357) hx hb d_Md_write_350 (by decide) (fun hc289 => ?_) (fun hc289 => ?_)
                    · skip
                      refine lv_iconst (v := 0) hx hb d_Md_write_357 (by decide) ?_
                      refine va_iast hx hb hK hP hD hS 18 0 rfl rfl (i := (nI ra)) (vp_in_nI (n := ra) (N := 50) (by omega) (by decide)) d_Md_write_358 (fun H locs hP hD hS => ?_)
                      have ef290 : upd g38_219 (nI ra).toNatClampNeg 0 = upd g38_219 ra 0 := by rw [show (nI ra).toNatClampNeg = ra from nI_clamp (by omega)]
                      rw [ef290] at hP hD
                      have hP : va_P (dC, dI) vcl [(r 15, .inl ((cT 0), 200, .inl f15)), (r 9, .inl ((cT 0), 1400, .inl f9)), (r 12, .inl ((cT 0), 1200, .inl f12)), (r 3, .inl ((cT 0), 160, .inl f3)), (r 4, .inl ((cT 0), 4, .inl f4)), (r 0, .inl ((cT 1), 64, .inr (.inl f0))), (r 11, .inl ((cT 0), 16, .inl f11)), (r 13, .inl ((cT 0), 200, .inl f13)), (r 18, .inl ((cT 0), 41, .inl f18)), (r 19, .inl ((cT 0), 41, .inl f19)), (r 20, .inl ((cT 0), 41, .inl f20)), (r 21, .inl ((cT 0), 41, .inl f21)), (r 22, .inl ((cT 0), 8200, .inl f22)), (r 23, .inl ((cT 0), 656, .inl f23)), (r 34, .inl ((cT 0), 50, .inl g34_215)), (r 35, .inl ((cT 0), 50, .inl g35_216)), (r 36, .inl ((cT 0), 800, .inl g36_217)), (r 37, .inl ((cT 0), 50, .inl g37_218)), (r 38, .inl ((cT 0), 50, .inl (upd g38_219 ra 0))), (r 39, .inl ((cT 0), 50, .inl g39_220)), (r 40, .inl ((cT 0), 50, .inl g40_221)), (r 41, .inl ((cT 1), 50, .inr (.inl (vp_updL g41_222 (nI ra).toNatClampNeg r282)))), (r 42, .inl ((cT 1), 50, .inr (.inl (vp_updL g42_223 (nI ra).toNatClampNeg x288)))), (mo, .inr (12, mdG r cd tm (nI sn) (nI 0) (nI lz) (nI az) (nI na) (nI nt) (nI nv) mw ml mk dq)), (r 7, .inl ((cT 0), 1000, .inl f7))] H := hP
                      have hD : va_D A [(r 15, .inl ((cT 0), 200, .inl f15)), (r 9, .inl ((cT 0), 1400, .inl f9)), (r 12, .inl ((cT 0), 1200, .inl f12)), (r 3, .inl ((cT 0), 160, .inl f3)), (r 4, .inl ((cT 0), 4, .inl f4)), (r 0, .inl ((cT 1), 64, .inr (.inl f0))), (r 11, .inl ((cT 0), 16, .inl f11)), (r 13, .inl ((cT 0), 200, .inl f13)), (r 18, .inl ((cT 0), 41, .inl f18)), (r 19, .inl ((cT 0), 41, .inl f19)), (r 20, .inl ((cT 0), 41, .inl f20)), (r 21, .inl ((cT 0), 41, .inl f21)), (r 22, .inl ((cT 0), 8200, .inl f22)), (r 23, .inl ((cT 0), 656, .inl f23)), (r 34, .inl ((cT 0), 50, .inl g34_215)), (r 35, .inl ((cT 0), 50, .inl g35_216)), (r 36, .inl ((cT 0), 800, .inl g36_217)), (r 37, .inl ((cT 0), 50, .inl g37_218)), (r 38, .inl ((cT 0), 50, .inl (upd g38_219 ra 0))), (r 39, .inl ((cT 0), 50, .inl g39_220)), (r 40, .inl ((cT 0), 50, .inl g40_221)), (r 41, .inl ((cT 1), 50, .inr (.inl (vp_updL g41_222 (nI ra).toNatClampNeg r282)))), (r 42, .inl ((cT 1), 50, .inr (.inl (vp_updL g42_223 (nI ra).toNatClampNeg x288)))), (mo, .inr (12, mdG r cd tm (nI sn) (nI 0) (nI lz) (nI az) (nI na) (nI nt) (nI nv) mw ml mk dq)), (r 7, .inl ((cT 0), 1000, .inl f7))] := hD
                      refine lv_aload_n hx hb d_Md_write_359 rfl (lv_at hl 1 rfl) ?_
                      refine va_get (D := (dC, dI)) (ci := 12) (v := (.ref (r 40))) (C := R_Md) (T := F_Md) (N := 45) hx hb hg in_Md hown hK hP 23 rfl rfl 40 (by decide) (hg _ k_1060) (fun _ h9 => h9) rfl d_Md_write_360 ?_
                      refine lv_iload hx hb d_Md_write_363 (lv_at hl 0 rfl) ?_
                      refine lv_aload_n hx hb d_Md_write_365 rfl (lv_at hl 1 rfl) ?_
                      refine va_get (D := (dC, dI)) (ci := 12) (v := (.int tm)) (C := R_Md) (T := F_Md) (N := 45) hx hb hg in_Md hown hK hP 23 rfl rfl 2 (by decide) (hg _ k_1022) (fun _ h9 => h9) rfl d_Md_write_366 ?_
                      refine va_iast hx hb hK hP hD hS 20 0 rfl rfl (i := (nI ra)) (vp_in_nI (n := ra) (N := 50) (by omega) (by decide)) d_Md_write_369 (fun H locs hP hD hS => ?_)
                      have ef291 : upd g40_221 (nI ra).toNatClampNeg tm = upd g40_221 ra tm := by rw [show (nI ra).toNatClampNeg = ra from nI_clamp (by omega)]
                      rw [ef291] at hP hD
                      have hP : va_P (dC, dI) vcl [(r 15, .inl ((cT 0), 200, .inl f15)), (r 9, .inl ((cT 0), 1400, .inl f9)), (r 12, .inl ((cT 0), 1200, .inl f12)), (r 3, .inl ((cT 0), 160, .inl f3)), (r 4, .inl ((cT 0), 4, .inl f4)), (r 0, .inl ((cT 1), 64, .inr (.inl f0))), (r 11, .inl ((cT 0), 16, .inl f11)), (r 13, .inl ((cT 0), 200, .inl f13)), (r 18, .inl ((cT 0), 41, .inl f18)), (r 19, .inl ((cT 0), 41, .inl f19)), (r 20, .inl ((cT 0), 41, .inl f20)), (r 21, .inl ((cT 0), 41, .inl f21)), (r 22, .inl ((cT 0), 8200, .inl f22)), (r 23, .inl ((cT 0), 656, .inl f23)), (r 34, .inl ((cT 0), 50, .inl g34_215)), (r 35, .inl ((cT 0), 50, .inl g35_216)), (r 36, .inl ((cT 0), 800, .inl g36_217)), (r 37, .inl ((cT 0), 50, .inl g37_218)), (r 38, .inl ((cT 0), 50, .inl (upd g38_219 ra 0))), (r 39, .inl ((cT 0), 50, .inl g39_220)), (r 40, .inl ((cT 0), 50, .inl (upd g40_221 ra tm))), (r 41, .inl ((cT 1), 50, .inr (.inl (vp_updL g41_222 (nI ra).toNatClampNeg r282)))), (r 42, .inl ((cT 1), 50, .inr (.inl (vp_updL g42_223 (nI ra).toNatClampNeg x288)))), (mo, .inr (12, mdG r cd tm (nI sn) (nI 0) (nI lz) (nI az) (nI na) (nI nt) (nI nv) mw ml mk dq)), (r 7, .inl ((cT 0), 1000, .inl f7))] H := hP
                      have hD : va_D A [(r 15, .inl ((cT 0), 200, .inl f15)), (r 9, .inl ((cT 0), 1400, .inl f9)), (r 12, .inl ((cT 0), 1200, .inl f12)), (r 3, .inl ((cT 0), 160, .inl f3)), (r 4, .inl ((cT 0), 4, .inl f4)), (r 0, .inl ((cT 1), 64, .inr (.inl f0))), (r 11, .inl ((cT 0), 16, .inl f11)), (r 13, .inl ((cT 0), 200, .inl f13)), (r 18, .inl ((cT 0), 41, .inl f18)), (r 19, .inl ((cT 0), 41, .inl f19)), (r 20, .inl ((cT 0), 41, .inl f20)), (r 21, .inl ((cT 0), 41, .inl f21)), (r 22, .inl ((cT 0), 8200, .inl f22)), (r 23, .inl ((cT 0), 656, .inl f23)), (r 34, .inl ((cT 0), 50, .inl g34_215)), (r 35, .inl ((cT 0), 50, .inl g35_216)), (r 36, .inl ((cT 0), 800, .inl g36_217)), (r 37, .inl ((cT 0), 50, .inl g37_218)), (r 38, .inl ((cT 0), 50, .inl (upd g38_219 ra 0))), (r 39, .inl ((cT 0), 50, .inl g39_220)), (r 40, .inl ((cT 0), 50, .inl (upd g40_221 ra tm))), (r 41, .inl ((cT 1), 50, .inr (.inl (vp_updL g41_222 (nI ra).toNatClampNeg r282)))), (r 42, .inl ((cT 1), 50, .inr (.inl (vp_updL g42_223 (nI ra).toNatClampNeg x288)))), (mo, .inr (12, mdG r cd tm (nI sn) (nI 0) (nI lz) (nI az) (nI na) (nI nt) (nI nv) mw ml mk dq)), (r 7, .inl ((cT 0), 1000, .inl f7))] := hD
                      have hl := lv_sub hl [1, 2] (show _ = [(0, .ref mo), (1, .int (nI st))] from rfl)
                      exact K224 _ _ _ _ _ _ _  hP hD hS hl
                    · skip
                      refine lv_iconst (v := 1) hx hb d_Md_write_353 (by decide) ?_
                      refine lv_goto (tgt := 358) hx hb d_Md_write_354 (by decide) ?_
                      refine va_iast hx hb hK hP hD hS 18 0 rfl rfl (i := (nI ra)) (vp_in_nI (n := ra) (N := 50) (by omega) (by decide)) d_Md_write_358 (fun H locs hP hD hS => ?_)
                      have ef292 : upd g38_219 (nI ra).toNatClampNeg 1 = upd g38_219 ra 1 := by rw [show (nI ra).toNatClampNeg = ra from nI_clamp (by omega)]
                      rw [ef292] at hP hD
                      have hP : va_P (dC, dI) vcl [(r 15, .inl ((cT 0), 200, .inl f15)), (r 9, .inl ((cT 0), 1400, .inl f9)), (r 12, .inl ((cT 0), 1200, .inl f12)), (r 3, .inl ((cT 0), 160, .inl f3)), (r 4, .inl ((cT 0), 4, .inl f4)), (r 0, .inl ((cT 1), 64, .inr (.inl f0))), (r 11, .inl ((cT 0), 16, .inl f11)), (r 13, .inl ((cT 0), 200, .inl f13)), (r 18, .inl ((cT 0), 41, .inl f18)), (r 19, .inl ((cT 0), 41, .inl f19)), (r 20, .inl ((cT 0), 41, .inl f20)), (r 21, .inl ((cT 0), 41, .inl f21)), (r 22, .inl ((cT 0), 8200, .inl f22)), (r 23, .inl ((cT 0), 656, .inl f23)), (r 34, .inl ((cT 0), 50, .inl g34_215)), (r 35, .inl ((cT 0), 50, .inl g35_216)), (r 36, .inl ((cT 0), 800, .inl g36_217)), (r 37, .inl ((cT 0), 50, .inl g37_218)), (r 38, .inl ((cT 0), 50, .inl (upd g38_219 ra 1))), (r 39, .inl ((cT 0), 50, .inl g39_220)), (r 40, .inl ((cT 0), 50, .inl g40_221)), (r 41, .inl ((cT 1), 50, .inr (.inl (vp_updL g41_222 (nI ra).toNatClampNeg r282)))), (r 42, .inl ((cT 1), 50, .inr (.inl (vp_updL g42_223 (nI ra).toNatClampNeg x288)))), (mo, .inr (12, mdG r cd tm (nI sn) (nI 0) (nI lz) (nI az) (nI na) (nI nt) (nI nv) mw ml mk dq)), (r 7, .inl ((cT 0), 1000, .inl f7))] H := hP
                      have hD : va_D A [(r 15, .inl ((cT 0), 200, .inl f15)), (r 9, .inl ((cT 0), 1400, .inl f9)), (r 12, .inl ((cT 0), 1200, .inl f12)), (r 3, .inl ((cT 0), 160, .inl f3)), (r 4, .inl ((cT 0), 4, .inl f4)), (r 0, .inl ((cT 1), 64, .inr (.inl f0))), (r 11, .inl ((cT 0), 16, .inl f11)), (r 13, .inl ((cT 0), 200, .inl f13)), (r 18, .inl ((cT 0), 41, .inl f18)), (r 19, .inl ((cT 0), 41, .inl f19)), (r 20, .inl ((cT 0), 41, .inl f20)), (r 21, .inl ((cT 0), 41, .inl f21)), (r 22, .inl ((cT 0), 8200, .inl f22)), (r 23, .inl ((cT 0), 656, .inl f23)), (r 34, .inl ((cT 0), 50, .inl g34_215)), (r 35, .inl ((cT 0), 50, .inl g35_216)), (r 36, .inl ((cT 0), 800, .inl g36_217)), (r 37, .inl ((cT 0), 50, .inl g37_218)), (r 38, .inl ((cT 0), 50, .inl (upd g38_219 ra 1))), (r 39, .inl ((cT 0), 50, .inl g39_220)), (r 40, .inl ((cT 0), 50, .inl g40_221)), (r 41, .inl ((cT 1), 50, .inr (.inl (vp_updL g41_222 (nI ra).toNatClampNeg r282)))), (r 42, .inl ((cT 1), 50, .inr (.inl (vp_updL g42_223 (nI ra).toNatClampNeg x288)))), (mo, .inr (12, mdG r cd tm (nI sn) (nI 0) (nI lz) (nI az) (nI na) (nI nt) (nI nv) mw ml mk dq)), (r 7, .inl ((cT 0), 1000, .inl f7))] := hD
                      refine lv_aload_n hx hb d_Md_write_359 rfl (lv_at hl 1 rfl) ?_
                      refine va_get (D := (dC, dI)) (ci := 12) (v := (.ref (r 40))) (C := R_Md) (T := F_Md) (N := 45) hx hb hg in_Md hown hK hP 23 rfl rfl 40 (by decide) (hg _ k_1060) (fun _ h9 => h9) rfl d_Md_write_360 ?_
                      refine lv_iload hx hb d_Md_write_363 (lv_at hl 0 rfl) ?_
                      refine lv_aload_n hx hb d_Md_write_365 rfl (lv_at hl 1 rfl) ?_
                      refine va_get (D := (dC, dI)) (ci := 12) (v := (.int tm)) (C := R_Md) (T := F_Md) (N := 45) hx hb hg in_Md hown hK hP 23 rfl rfl 2 (by decide) (hg _ k_1022) (fun _ h9 => h9) rfl d_Md_write_366 ?_
                      refine va_iast hx hb hK hP hD hS 20 0 rfl rfl (i := (nI ra)) (vp_in_nI (n := ra) (N := 50) (by omega) (by decide)) d_Md_write_369 (fun H locs hP hD hS => ?_)
                      have ef293 : upd g40_221 (nI ra).toNatClampNeg tm = upd g40_221 ra tm := by rw [show (nI ra).toNatClampNeg = ra from nI_clamp (by omega)]
                      rw [ef293] at hP hD
                      have hP : va_P (dC, dI) vcl [(r 15, .inl ((cT 0), 200, .inl f15)), (r 9, .inl ((cT 0), 1400, .inl f9)), (r 12, .inl ((cT 0), 1200, .inl f12)), (r 3, .inl ((cT 0), 160, .inl f3)), (r 4, .inl ((cT 0), 4, .inl f4)), (r 0, .inl ((cT 1), 64, .inr (.inl f0))), (r 11, .inl ((cT 0), 16, .inl f11)), (r 13, .inl ((cT 0), 200, .inl f13)), (r 18, .inl ((cT 0), 41, .inl f18)), (r 19, .inl ((cT 0), 41, .inl f19)), (r 20, .inl ((cT 0), 41, .inl f20)), (r 21, .inl ((cT 0), 41, .inl f21)), (r 22, .inl ((cT 0), 8200, .inl f22)), (r 23, .inl ((cT 0), 656, .inl f23)), (r 34, .inl ((cT 0), 50, .inl g34_215)), (r 35, .inl ((cT 0), 50, .inl g35_216)), (r 36, .inl ((cT 0), 800, .inl g36_217)), (r 37, .inl ((cT 0), 50, .inl g37_218)), (r 38, .inl ((cT 0), 50, .inl (upd g38_219 ra 1))), (r 39, .inl ((cT 0), 50, .inl g39_220)), (r 40, .inl ((cT 0), 50, .inl (upd g40_221 ra tm))), (r 41, .inl ((cT 1), 50, .inr (.inl (vp_updL g41_222 (nI ra).toNatClampNeg r282)))), (r 42, .inl ((cT 1), 50, .inr (.inl (vp_updL g42_223 (nI ra).toNatClampNeg x288)))), (mo, .inr (12, mdG r cd tm (nI sn) (nI 0) (nI lz) (nI az) (nI na) (nI nt) (nI nv) mw ml mk dq)), (r 7, .inl ((cT 0), 1000, .inl f7))] H := hP
                      have hD : va_D A [(r 15, .inl ((cT 0), 200, .inl f15)), (r 9, .inl ((cT 0), 1400, .inl f9)), (r 12, .inl ((cT 0), 1200, .inl f12)), (r 3, .inl ((cT 0), 160, .inl f3)), (r 4, .inl ((cT 0), 4, .inl f4)), (r 0, .inl ((cT 1), 64, .inr (.inl f0))), (r 11, .inl ((cT 0), 16, .inl f11)), (r 13, .inl ((cT 0), 200, .inl f13)), (r 18, .inl ((cT 0), 41, .inl f18)), (r 19, .inl ((cT 0), 41, .inl f19)), (r 20, .inl ((cT 0), 41, .inl f20)), (r 21, .inl ((cT 0), 41, .inl f21)), (r 22, .inl ((cT 0), 8200, .inl f22)), (r 23, .inl ((cT 0), 656, .inl f23)), (r 34, .inl ((cT 0), 50, .inl g34_215)), (r 35, .inl ((cT 0), 50, .inl g35_216)), (r 36, .inl ((cT 0), 800, .inl g36_217)), (r 37, .inl ((cT 0), 50, .inl g37_218)), (r 38, .inl ((cT 0), 50, .inl (upd g38_219 ra 1))), (r 39, .inl ((cT 0), 50, .inl g39_220)), (r 40, .inl ((cT 0), 50, .inl (upd g40_221 ra tm))), (r 41, .inl ((cT 1), 50, .inr (.inl (vp_updL g41_222 (nI ra).toNatClampNeg r282)))), (r 42, .inl ((cT 1), 50, .inr (.inl (vp_updL g42_223 (nI ra).toNatClampNeg x288)))), (mo, .inr (12, mdG r cd tm (nI sn) (nI 0) (nI lz) (nI az) (nI na) (nI nt) (nI nv) mw ml mk dq)), (r 7, .inl ((cT 0), 1000, .inl f7))] := hD
                      have hl := lv_sub hl [1, 2] (show _ = [(0, .ref mo), (1, .int (nI st))] from rfl)
                      exact K224 _ _ _ _ _ _ _  hP hD hS hl
                  · skip
                    refine lv_aload_n hx hb d_Md_write_322 rfl (lv_at hl 1 rfl) ?_
                    refine lv_bipush (v := 43) hx hb d_Md_write_323 (by decide) ?_
                    have hPc := hP.sub (ws' := [(mo, .inr (12, mdG r cd tm (nI sn) (nI 0) (nI lz) (nI az) (nI na) (nI nt) (nI nv) mw ml mk dq)), (r 7, .inl ((cT 0), 1000, .inl f7))]) [23, 24] rfl
                    have hDc := hD.sub (ws' := [(mo, .inr (12, mdG r cd tm (nI sn) (nI 0) (nI lz) (nI az) (nI na) (nI nt) (nI nv) mw ml mk dq)), (r 7, .inl ((cT 0), 1000, .inl f7))]) [23, 24] (by decide) rfl
                    have hFc := va_free (wc := [(mo, .inr (12, mdG r cd tm (nI sn) (nI 0) (nI lz) (nI az) (nI na) (nI nt) (nI nv) mw ml mk dq)), (r 7, .inl ((cT 0), 1000, .inl f7))]) hD hS hA [23, 24] rfl
                    refine va_calll (va_runV (C := "DoorServerModel") (As := [.int 43]) (rest := [.int (nI ra), .ref (r 42)]) ⟨hx, hb, hml, hown, hg⟩ (m_four43 l dC dI cT H.size mo r cd tm sn 0 lz az na nt nv mw ml mk dq f7 (by first | assumption | omega) (by first | assumption | omega) (by first | assumption | omega)) (cwV 1 hg (gI (List.forall_mem_append.mpr ⟨List.forall_mem_cons.mpr ⟨k_1383, List.forall_mem_cons.mpr ⟨k_1385, List.forall_mem_cons.mpr ⟨(big_sel (q := y_Md_fourOf) (n := 45) (by decide +kernel)), List.forall_mem_cons.mpr ⟨k_13, fun _ h => absurd h List.not_mem_nil⟩⟩⟩⟩, List.forall_mem_cons.mpr ⟨k_1386, fun _ h => h⟩⟩)) rfl rfl rfl (by decide +kernel) ⟨Nat.le_of_ble_eq_true rfl, Nat.le_of_ble_eq_true rfl⟩) ⟨fun a U g mk q => by obtain ⟨q0, q1, qP, qK, qD⟩ := q; exact ⟨q0, q1, qP, va_K.moved (u := U) (U := U.calling g mk a) (Vm.Alike.refl U.vm) qK, qD⟩, va_recv (q0 := 23) (ci := 12) hK hP rfl rfl, fun U hU hW => ⟨rfl, by rw [hU], by rw [hU]; exact hPc, va_K.moved hW.alike hK, hDc.weaken (fun _ _ _ _ => trivial)⟩⟩ rfl rfl hl.1 rfl (lv_room (Nat.le_of_ble_eq_true rfl)) d_Md_write_325 ⟨Nat.le_of_ble_eq_true rfl, Nat.le_of_ble_eq_true rfl⟩) hS (fun q _ h => hFc q h) hFc (fun rv9 u t H1 locs ht hvm hw hB hz1 hk1 hS => ?_)
                    try dsimp only at hw hB
                    obtain ⟨hP1, hK1, hD1⟩ := hB
                    rw [ht] at hP1
                    generalize rv9 = r294 at hw ⊢
                    obtain ⟨hP, hD⟩ := va_join (wr := [(r 15, .inl ((cT 0), 200, .inl f15)), (r 9, .inl ((cT 0), 1400, .inl f9)), (r 12, .inl ((cT 0), 1200, .inl f12)), (r 3, .inl ((cT 0), 160, .inl f3)), (r 4, .inl ((cT 0), 4, .inl f4)), (r 0, .inl ((cT 1), 64, .inr (.inl f0))), (r 11, .inl ((cT 0), 16, .inl f11)), (r 13, .inl ((cT 0), 200, .inl f13)), (r 18, .inl ((cT 0), 41, .inl f18)), (r 19, .inl ((cT 0), 41, .inl f19)), (r 20, .inl ((cT 0), 41, .inl f20)), (r 21, .inl ((cT 0), 41, .inl f21)), (r 22, .inl ((cT 0), 8200, .inl f22)), (r 23, .inl ((cT 0), 656, .inl f23)), (r 34, .inl ((cT 0), 50, .inl g34_215)), (r 35, .inl ((cT 0), 50, .inl g35_216)), (r 36, .inl ((cT 0), 800, .inl g36_217)), (r 37, .inl ((cT 0), 50, .inl g37_218)), (r 38, .inl ((cT 0), 50, .inl g38_219)), (r 39, .inl ((cT 0), 50, .inl g39_220)), (r 40, .inl ((cT 0), 50, .inl g40_221)), (r 41, .inl ((cT 1), 50, .inr (.inl (vp_updL g41_222 (nI ra).toNatClampNeg r282)))), (r 42, .inl ((cT 1), 50, .inr (.inl g42_223)))]) (w1 := [(mo, .inr (12, mdG r cd tm (nI sn) (nI 0) (nI lz) (nI az) (nI na) (nI nt) (nI nv) mw ml mk dq)), (r 7, .inl ((cT 0), 1000, .inl f7))]) hP hD [23, 24] [0, 1, 2, 3, 4, 5, 6, 7, 8, 9, 10, 11, 12, 13, 14, 15, 16, 17, 18, 19, 20, 21, 22] rfl rfl (by decide) (by decide) hk1 hFc hP1 hD1
                    have hw295 := hw
                    clear hPc hDc hFc hz1 hk1 hP1 hK1 hD1
                    generalize H1 = H at hP hS ⊢
                    have hP : va_P (dC, dI) vcl [(r 15, .inl ((cT 0), 200, .inl f15)), (r 9, .inl ((cT 0), 1400, .inl f9)), (r 12, .inl ((cT 0), 1200, .inl f12)), (r 3, .inl ((cT 0), 160, .inl f3)), (r 4, .inl ((cT 0), 4, .inl f4)), (r 0, .inl ((cT 1), 64, .inr (.inl f0))), (r 11, .inl ((cT 0), 16, .inl f11)), (r 13, .inl ((cT 0), 200, .inl f13)), (r 18, .inl ((cT 0), 41, .inl f18)), (r 19, .inl ((cT 0), 41, .inl f19)), (r 20, .inl ((cT 0), 41, .inl f20)), (r 21, .inl ((cT 0), 41, .inl f21)), (r 22, .inl ((cT 0), 8200, .inl f22)), (r 23, .inl ((cT 0), 656, .inl f23)), (r 34, .inl ((cT 0), 50, .inl g34_215)), (r 35, .inl ((cT 0), 50, .inl g35_216)), (r 36, .inl ((cT 0), 800, .inl g36_217)), (r 37, .inl ((cT 0), 50, .inl g37_218)), (r 38, .inl ((cT 0), 50, .inl g38_219)), (r 39, .inl ((cT 0), 50, .inl g39_220)), (r 40, .inl ((cT 0), 50, .inl g40_221)), (r 41, .inl ((cT 1), 50, .inr (.inl (vp_updL g41_222 (nI ra).toNatClampNeg r282)))), (r 42, .inl ((cT 1), 50, .inr (.inl g42_223))), (mo, .inr (12, mdG r cd tm (nI sn) (nI 0) (nI lz) (nI az) (nI na) (nI nt) (nI nv) mw ml mk dq)), (r 7, .inl ((cT 0), 1000, .inl f7))] H := hP
                    have hD : va_D A [(r 15, .inl ((cT 0), 200, .inl f15)), (r 9, .inl ((cT 0), 1400, .inl f9)), (r 12, .inl ((cT 0), 1200, .inl f12)), (r 3, .inl ((cT 0), 160, .inl f3)), (r 4, .inl ((cT 0), 4, .inl f4)), (r 0, .inl ((cT 1), 64, .inr (.inl f0))), (r 11, .inl ((cT 0), 16, .inl f11)), (r 13, .inl ((cT 0), 200, .inl f13)), (r 18, .inl ((cT 0), 41, .inl f18)), (r 19, .inl ((cT 0), 41, .inl f19)), (r 20, .inl ((cT 0), 41, .inl f20)), (r 21, .inl ((cT 0), 41, .inl f21)), (r 22, .inl ((cT 0), 8200, .inl f22)), (r 23, .inl ((cT 0), 656, .inl f23)), (r 34, .inl ((cT 0), 50, .inl g34_215)), (r 35, .inl ((cT 0), 50, .inl g35_216)), (r 36, .inl ((cT 0), 800, .inl g36_217)), (r 37, .inl ((cT 0), 50, .inl g37_218)), (r 38, .inl ((cT 0), 50, .inl g38_219)), (r 39, .inl ((cT 0), 50, .inl g39_220)), (r 40, .inl ((cT 0), 50, .inl g40_221)), (r 41, .inl ((cT 1), 50, .inr (.inl (vp_updL g41_222 (nI ra).toNatClampNeg r282)))), (r 42, .inl ((cT 1), 50, .inr (.inl g42_223))), (mo, .inr (12, mdG r cd tm (nI sn) (nI 0) (nI lz) (nI az) (nI na) (nI nt) (nI nv) mw ml mk dq)), (r 7, .inl ((cT 0), 1000, .inl f7))] := hD
                    refine lv_goto (tgt := 338) hx hb d_Md_write_328 (by decide) ?_
                    refine va_last hx hb hK hP hD hS 22 1 rfl rfl (i := (nI ra)) (vp_in_nI (n := ra) (N := 50) (by omega) (by decide)) d_Md_write_338 (fun H locs hP hD hS => ?_)
                    have hP : va_P (dC, dI) vcl [(r 15, .inl ((cT 0), 200, .inl f15)), (r 9, .inl ((cT 0), 1400, .inl f9)), (r 12, .inl ((cT 0), 1200, .inl f12)), (r 3, .inl ((cT 0), 160, .inl f3)), (r 4, .inl ((cT 0), 4, .inl f4)), (r 0, .inl ((cT 1), 64, .inr (.inl f0))), (r 11, .inl ((cT 0), 16, .inl f11)), (r 13, .inl ((cT 0), 200, .inl f13)), (r 18, .inl ((cT 0), 41, .inl f18)), (r 19, .inl ((cT 0), 41, .inl f19)), (r 20, .inl ((cT 0), 41, .inl f20)), (r 21, .inl ((cT 0), 41, .inl f21)), (r 22, .inl ((cT 0), 8200, .inl f22)), (r 23, .inl ((cT 0), 656, .inl f23)), (r 34, .inl ((cT 0), 50, .inl g34_215)), (r 35, .inl ((cT 0), 50, .inl g35_216)), (r 36, .inl ((cT 0), 800, .inl g36_217)), (r 37, .inl ((cT 0), 50, .inl g37_218)), (r 38, .inl ((cT 0), 50, .inl g38_219)), (r 39, .inl ((cT 0), 50, .inl g39_220)), (r 40, .inl ((cT 0), 50, .inl g40_221)), (r 41, .inl ((cT 1), 50, .inr (.inl (vp_updL g41_222 (nI ra).toNatClampNeg r282)))), (r 42, .inl ((cT 1), 50, .inr (.inl (vp_updL g42_223 (nI ra).toNatClampNeg r294)))), (mo, .inr (12, mdG r cd tm (nI sn) (nI 0) (nI lz) (nI az) (nI na) (nI nt) (nI nv) mw ml mk dq)), (r 7, .inl ((cT 0), 1000, .inl f7))] H := hP
                    have hD : va_D A [(r 15, .inl ((cT 0), 200, .inl f15)), (r 9, .inl ((cT 0), 1400, .inl f9)), (r 12, .inl ((cT 0), 1200, .inl f12)), (r 3, .inl ((cT 0), 160, .inl f3)), (r 4, .inl ((cT 0), 4, .inl f4)), (r 0, .inl ((cT 1), 64, .inr (.inl f0))), (r 11, .inl ((cT 0), 16, .inl f11)), (r 13, .inl ((cT 0), 200, .inl f13)), (r 18, .inl ((cT 0), 41, .inl f18)), (r 19, .inl ((cT 0), 41, .inl f19)), (r 20, .inl ((cT 0), 41, .inl f20)), (r 21, .inl ((cT 0), 41, .inl f21)), (r 22, .inl ((cT 0), 8200, .inl f22)), (r 23, .inl ((cT 0), 656, .inl f23)), (r 34, .inl ((cT 0), 50, .inl g34_215)), (r 35, .inl ((cT 0), 50, .inl g35_216)), (r 36, .inl ((cT 0), 800, .inl g36_217)), (r 37, .inl ((cT 0), 50, .inl g37_218)), (r 38, .inl ((cT 0), 50, .inl g38_219)), (r 39, .inl ((cT 0), 50, .inl g39_220)), (r 40, .inl ((cT 0), 50, .inl g40_221)), (r 41, .inl ((cT 1), 50, .inr (.inl (vp_updL g41_222 (nI ra).toNatClampNeg r282)))), (r 42, .inl ((cT 1), 50, .inr (.inl (vp_updL g42_223 (nI ra).toNatClampNeg r294)))), (mo, .inr (12, mdG r cd tm (nI sn) (nI 0) (nI lz) (nI az) (nI na) (nI nt) (nI nv) mw ml mk dq)), (r 7, .inl ((cT 0), 1000, .inl f7))] := hD
                    refine lv_aload_n hx hb d_Md_write_339 rfl (lv_at hl 1 rfl) ?_
                    refine va_get (D := (dC, dI)) (ci := 12) (v := (.ref (r 38))) (C := R_Md) (T := F_Md) (N := 45) hx hb hg in_Md hown hK hP 23 rfl rfl 38 (by decide) (hg _ k_1058) (fun _ h9 => h9) rfl d_Md_write_340 ?_
                    refine lv_iload hx hb d_Md_write_343 (lv_at hl 0 rfl) ?_
                    refine lv_lload_n hx hb d_Md_write_345 rfl (lv_at hl 3 rfl) ?_
                    refine lv_ldc2 (v := 2) hx hb hown (hg _ k_1387) d_Md_write_346 ?_
                    refine W.lcmp hx hb d_Md_write_349 ?_
                    refine lv_if_ne (tgt := 357) hx hb d_Md_write_350 (by decide) (fun hc296 => ?_) (fun hc296 => ?_)
                    · skip
                      refine lv_iconst (v := 0) hx hb d_Md_write_357 (by decide) ?_
                      refine va_iast hx hb hK hP hD hS 18 0 rfl rfl (i := (nI ra)) (vp_in_nI (n := ra) (N := 50) (by omega) (by decide)) d_Md_write_358 (fun H locs hP hD hS => ?_)
                      have ef297 : upd g38_219 (nI ra).toNatClampNeg 0 = upd g38_219 ra 0 := by rw [show (nI ra).toNatClampNeg = ra from nI_clamp (by omega)]
                      rw [ef297] at hP hD
                      have hP : va_P (dC, dI) vcl [(r 15, .inl ((cT 0), 200, .inl f15)), (r 9, .inl ((cT 0), 1400, .inl f9)), (r 12, .inl ((cT 0), 1200, .inl f12)), (r 3, .inl ((cT 0), 160, .inl f3)), (r 4, .inl ((cT 0), 4, .inl f4)), (r 0, .inl ((cT 1), 64, .inr (.inl f0))), (r 11, .inl ((cT 0), 16, .inl f11)), (r 13, .inl ((cT 0), 200, .inl f13)), (r 18, .inl ((cT 0), 41, .inl f18)), (r 19, .inl ((cT 0), 41, .inl f19)), (r 20, .inl ((cT 0), 41, .inl f20)), (r 21, .inl ((cT 0), 41, .inl f21)), (r 22, .inl ((cT 0), 8200, .inl f22)), (r 23, .inl ((cT 0), 656, .inl f23)), (r 34, .inl ((cT 0), 50, .inl g34_215)), (r 35, .inl ((cT 0), 50, .inl g35_216)), (r 36, .inl ((cT 0), 800, .inl g36_217)), (r 37, .inl ((cT 0), 50, .inl g37_218)), (r 38, .inl ((cT 0), 50, .inl (upd g38_219 ra 0))), (r 39, .inl ((cT 0), 50, .inl g39_220)), (r 40, .inl ((cT 0), 50, .inl g40_221)), (r 41, .inl ((cT 1), 50, .inr (.inl (vp_updL g41_222 (nI ra).toNatClampNeg r282)))), (r 42, .inl ((cT 1), 50, .inr (.inl (vp_updL g42_223 (nI ra).toNatClampNeg r294)))), (mo, .inr (12, mdG r cd tm (nI sn) (nI 0) (nI lz) (nI az) (nI na) (nI nt) (nI nv) mw ml mk dq)), (r 7, .inl ((cT 0), 1000, .inl f7))] H := hP
                      have hD : va_D A [(r 15, .inl ((cT 0), 200, .inl f15)), (r 9, .inl ((cT 0), 1400, .inl f9)), (r 12, .inl ((cT 0), 1200, .inl f12)), (r 3, .inl ((cT 0), 160, .inl f3)), (r 4, .inl ((cT 0), 4, .inl f4)), (r 0, .inl ((cT 1), 64, .inr (.inl f0))), (r 11, .inl ((cT 0), 16, .inl f11)), (r 13, .inl ((cT 0), 200, .inl f13)), (r 18, .inl ((cT 0), 41, .inl f18)), (r 19, .inl ((cT 0), 41, .inl f19)), (r 20, .inl ((cT 0), 41, .inl f20)), (r 21, .inl ((cT 0), 41, .inl f21)), (r 22, .inl ((cT 0), 8200, .inl f22)), (r 23, .inl ((cT 0), 656, .inl f23)), (r 34, .inl ((cT 0), 50, .inl g34_215)), (r 35, .inl ((cT 0), 50, .inl g35_216)), (r 36, .inl ((cT 0), 800, .inl g36_217)), (r 37, .inl ((cT 0), 50, .inl g37_218)), (r 38, .inl ((cT 0), 50, .inl (upd g38_219 ra 0))), (r 39, .inl ((cT 0), 50, .inl g39_220)), (r 40, .inl ((cT 0), 50, .inl g40_221)), (r 41, .inl ((cT 1), 50, .inr (.inl (vp_updL g41_222 (nI ra).toNatClampNeg r282)))), (r 42, .inl ((cT 1), 50, .inr (.inl (vp_updL g42_223 (nI ra).toNatClampNeg r294)))), (mo, .inr (12, mdG r cd tm (nI sn) (nI 0) (nI lz) (nI az) (nI na) (nI nt) (nI nv) mw ml mk dq)), (r 7, .inl ((cT 0), 1000, .inl f7))] := hD
                      refine lv_aload_n hx hb d_Md_write_359 rfl (lv_at hl 1 rfl) ?_
                      refine va_get (D := (dC, dI)) (ci := 12) (v := (.ref (r 40))) (C := R_Md) (T := F_Md) (N := 45) hx hb hg in_Md hown hK hP 23 rfl rfl 40 (by decide) (hg _ k_1060) (fun _ h9 => h9) rfl d_Md_write_360 ?_
                      refine lv_iload hx hb d_Md_write_363 (lv_at hl 0 rfl) ?_
                      refine lv_aload_n hx hb d_Md_write_365 rfl (lv_at hl 1 rfl) ?_
                      refine va_get (D := (dC, dI)) (ci := 12) (v := (.int tm)) (C := R_Md) (T := F_Md) (N := 45) hx hb hg in_Md hown hK hP 23 rfl rfl 2 (by decide) (hg _ k_1022) (fun _ h9 => h9) rfl d_Md_write_366 ?_
                      refine va_iast hx hb hK hP hD hS 20 0 rfl rfl (i := (nI ra)) (vp_in_nI (n := ra) (N := 50) (by omega) (by decide)) d_Md_write_369 (fun H locs hP hD hS => ?_)
                      have ef298 : upd g40_221 (nI ra).toNatClampNeg tm = upd g40_221 ra tm := by rw [show (nI ra).toNatClampNeg = ra from nI_clamp (by omega)]
                      rw [ef298] at hP hD
                      have hP : va_P (dC, dI) vcl [(r 15, .inl ((cT 0), 200, .inl f15)), (r 9, .inl ((cT 0), 1400, .inl f9)), (r 12, .inl ((cT 0), 1200, .inl f12)), (r 3, .inl ((cT 0), 160, .inl f3)), (r 4, .inl ((cT 0), 4, .inl f4)), (r 0, .inl ((cT 1), 64, .inr (.inl f0))), (r 11, .inl ((cT 0), 16, .inl f11)), (r 13, .inl ((cT 0), 200, .inl f13)), (r 18, .inl ((cT 0), 41, .inl f18)), (r 19, .inl ((cT 0), 41, .inl f19)), (r 20, .inl ((cT 0), 41, .inl f20)), (r 21, .inl ((cT 0), 41, .inl f21)), (r 22, .inl ((cT 0), 8200, .inl f22)), (r 23, .inl ((cT 0), 656, .inl f23)), (r 34, .inl ((cT 0), 50, .inl g34_215)), (r 35, .inl ((cT 0), 50, .inl g35_216)), (r 36, .inl ((cT 0), 800, .inl g36_217)), (r 37, .inl ((cT 0), 50, .inl g37_218)), (r 38, .inl ((cT 0), 50, .inl (upd g38_219 ra 0))), (r 39, .inl ((cT 0), 50, .inl g39_220)), (r 40, .inl ((cT 0), 50, .inl (upd g40_221 ra tm))), (r 41, .inl ((cT 1), 50, .inr (.inl (vp_updL g41_222 (nI ra).toNatClampNeg r282)))), (r 42, .inl ((cT 1), 50, .inr (.inl (vp_updL g42_223 (nI ra).toNatClampNeg r294)))), (mo, .inr (12, mdG r cd tm (nI sn) (nI 0) (nI lz) (nI az) (nI na) (nI nt) (nI nv) mw ml mk dq)), (r 7, .inl ((cT 0), 1000, .inl f7))] H := hP
                      have hD : va_D A [(r 15, .inl ((cT 0), 200, .inl f15)), (r 9, .inl ((cT 0), 1400, .inl f9)), (r 12, .inl ((cT 0), 1200, .inl f12)), (r 3, .inl ((cT 0), 160, .inl f3)), (r 4, .inl ((cT 0), 4, .inl f4)), (r 0, .inl ((cT 1), 64, .inr (.inl f0))), (r 11, .inl ((cT 0), 16, .inl f11)), (r 13, .inl ((cT 0), 200, .inl f13)), (r 18, .inl ((cT 0), 41, .inl f18)), (r 19, .inl ((cT 0), 41, .inl f19)), (r 20, .inl ((cT 0), 41, .inl f20)), (r 21, .inl ((cT 0), 41, .inl f21)), (r 22, .inl ((cT 0), 8200, .inl f22)), (r 23, .inl ((cT 0), 656, .inl f23)), (r 34, .inl ((cT 0), 50, .inl g34_215)), (r 35, .inl ((cT 0), 50, .inl g35_216)), (r 36, .inl ((cT 0), 800, .inl g36_217)), (r 37, .inl ((cT 0), 50, .inl g37_218)), (r 38, .inl ((cT 0), 50, .inl (upd g38_219 ra 0))), (r 39, .inl ((cT 0), 50, .inl g39_220)), (r 40, .inl ((cT 0), 50, .inl (upd g40_221 ra tm))), (r 41, .inl ((cT 1), 50, .inr (.inl (vp_updL g41_222 (nI ra).toNatClampNeg r282)))), (r 42, .inl ((cT 1), 50, .inr (.inl (vp_updL g42_223 (nI ra).toNatClampNeg r294)))), (mo, .inr (12, mdG r cd tm (nI sn) (nI 0) (nI lz) (nI az) (nI na) (nI nt) (nI nv) mw ml mk dq)), (r 7, .inl ((cT 0), 1000, .inl f7))] := hD
                      have hl := lv_sub hl [1, 2] (show _ = [(0, .ref mo), (1, .int (nI st))] from rfl)
                      exact K224 _ _ _ _ _ _ _  hP hD hS hl
                    · skip
                      refine lv_iconst (v := 1) hx hb d_Md_write_353 (by decide) ?_
                      refine lv_goto (tgt := 358) hx hb d_Md_write_354 (by decide) ?_
                      refine va_iast hx hb hK hP hD hS 18 0 rfl rfl (i := (nI ra)) (vp_in_nI (n := ra) (N := 50) (by omega) (by decide)) d_Md_write_358 (fun H locs hP hD hS => ?_)
                      have ef299 : upd g38_219 (nI ra).toNatClampNeg 1 = upd g38_219 ra 1 := by rw [show (nI ra).toNatClampNeg = ra from nI_clamp (by omega)]
                      rw [ef299] at hP hD
                      have hP : va_P (dC, dI) vcl [(r 15, .inl ((cT 0), 200, .inl f15)), (r 9, .inl ((cT 0), 1400, .inl f9)), (r 12, .inl ((cT 0), 1200, .inl f12)), (r 3, .inl ((cT 0), 160, .inl f3)), (r 4, .inl ((cT 0), 4, .inl f4)), (r 0, .inl ((cT 1), 64, .inr (.inl f0))), (r 11, .inl ((cT 0), 16, .inl f11)), (r 13, .inl ((cT 0), 200, .inl f13)), (r 18, .inl ((cT 0), 41, .inl f18)), (r 19, .inl ((cT 0), 41, .inl f19)), (r 20, .inl ((cT 0), 41, .inl f20)), (r 21, .inl ((cT 0), 41, .inl f21)), (r 22, .inl ((cT 0), 8200, .inl f22)), (r 23, .inl ((cT 0), 656, .inl f23)), (r 34, .inl ((cT 0), 50, .inl g34_215)), (r 35, .inl ((cT 0), 50, .inl g35_216)), (r 36, .inl ((cT 0), 800, .inl g36_217)), (r 37, .inl ((cT 0), 50, .inl g37_218)), (r 38, .inl ((cT 0), 50, .inl (upd g38_219 ra 1))), (r 39, .inl ((cT 0), 50, .inl g39_220)), (r 40, .inl ((cT 0), 50, .inl g40_221)), (r 41, .inl ((cT 1), 50, .inr (.inl (vp_updL g41_222 (nI ra).toNatClampNeg r282)))), (r 42, .inl ((cT 1), 50, .inr (.inl (vp_updL g42_223 (nI ra).toNatClampNeg r294)))), (mo, .inr (12, mdG r cd tm (nI sn) (nI 0) (nI lz) (nI az) (nI na) (nI nt) (nI nv) mw ml mk dq)), (r 7, .inl ((cT 0), 1000, .inl f7))] H := hP
                      have hD : va_D A [(r 15, .inl ((cT 0), 200, .inl f15)), (r 9, .inl ((cT 0), 1400, .inl f9)), (r 12, .inl ((cT 0), 1200, .inl f12)), (r 3, .inl ((cT 0), 160, .inl f3)), (r 4, .inl ((cT 0), 4, .inl f4)), (r 0, .inl ((cT 1), 64, .inr (.inl f0))), (r 11, .inl ((cT 0), 16, .inl f11)), (r 13, .inl ((cT 0), 200, .inl f13)), (r 18, .inl ((cT 0), 41, .inl f18)), (r 19, .inl ((cT 0), 41, .inl f19)), (r 20, .inl ((cT 0), 41, .inl f20)), (r 21, .inl ((cT 0), 41, .inl f21)), (r 22, .inl ((cT 0), 8200, .inl f22)), (r 23, .inl ((cT 0), 656, .inl f23)), (r 34, .inl ((cT 0), 50, .inl g34_215)), (r 35, .inl ((cT 0), 50, .inl g35_216)), (r 36, .inl ((cT 0), 800, .inl g36_217)), (r 37, .inl ((cT 0), 50, .inl g37_218)), (r 38, .inl ((cT 0), 50, .inl (upd g38_219 ra 1))), (r 39, .inl ((cT 0), 50, .inl g39_220)), (r 40, .inl ((cT 0), 50, .inl g40_221)), (r 41, .inl ((cT 1), 50, .inr (.inl (vp_updL g41_222 (nI ra).toNatClampNeg r282)))), (r 42, .inl ((cT 1), 50, .inr (.inl (vp_updL g42_223 (nI ra).toNatClampNeg r294)))), (mo, .inr (12, mdG r cd tm (nI sn) (nI 0) (nI lz) (nI az) (nI na) (nI nt) (nI nv) mw ml mk dq)), (r 7, .inl ((cT 0), 1000, .inl f7))] := hD
                      refine lv_aload_n hx hb d_Md_write_359 rfl (lv_at hl 1 rfl) ?_
                      refine va_get (D := (dC, dI)) (ci := 12) (v := (.ref (r 40))) (C := R_Md) (T := F_Md) (N := 45) hx hb hg in_Md hown hK hP 23 rfl rfl 40 (by decide) (hg _ k_1060) (fun _ h9 => h9) rfl d_Md_write_360 ?_
                      refine lv_iload hx hb d_Md_write_363 (lv_at hl 0 rfl) ?_
                      refine lv_aload_n hx hb d_Md_write_365 rfl (lv_at hl 1 rfl) ?_
                      refine va_get (D := (dC, dI)) (ci := 12) (v := (.int tm)) (C := R_Md) (T := F_Md) (N := 45) hx hb hg in_Md hown hK hP 23 rfl rfl 2 (by decide) (hg _ k_1022) (fun _ h9 => h9) rfl d_Md_write_366 ?_
                      refine va_iast hx hb hK hP hD hS 20 0 rfl rfl (i := (nI ra)) (vp_in_nI (n := ra) (N := 50) (by omega) (by decide)) d_Md_write_369 (fun H locs hP hD hS => ?_)
                      have ef300 : upd g40_221 (nI ra).toNatClampNeg tm = upd g40_221 ra tm := by rw [show (nI ra).toNatClampNeg = ra from nI_clamp (by omega)]
                      rw [ef300] at hP hD
                      have hP : va_P (dC, dI) vcl [(r 15, .inl ((cT 0), 200, .inl f15)), (r 9, .inl ((cT 0), 1400, .inl f9)), (r 12, .inl ((cT 0), 1200, .inl f12)), (r 3, .inl ((cT 0), 160, .inl f3)), (r 4, .inl ((cT 0), 4, .inl f4)), (r 0, .inl ((cT 1), 64, .inr (.inl f0))), (r 11, .inl ((cT 0), 16, .inl f11)), (r 13, .inl ((cT 0), 200, .inl f13)), (r 18, .inl ((cT 0), 41, .inl f18)), (r 19, .inl ((cT 0), 41, .inl f19)), (r 20, .inl ((cT 0), 41, .inl f20)), (r 21, .inl ((cT 0), 41, .inl f21)), (r 22, .inl ((cT 0), 8200, .inl f22)), (r 23, .inl ((cT 0), 656, .inl f23)), (r 34, .inl ((cT 0), 50, .inl g34_215)), (r 35, .inl ((cT 0), 50, .inl g35_216)), (r 36, .inl ((cT 0), 800, .inl g36_217)), (r 37, .inl ((cT 0), 50, .inl g37_218)), (r 38, .inl ((cT 0), 50, .inl (upd g38_219 ra 1))), (r 39, .inl ((cT 0), 50, .inl g39_220)), (r 40, .inl ((cT 0), 50, .inl (upd g40_221 ra tm))), (r 41, .inl ((cT 1), 50, .inr (.inl (vp_updL g41_222 (nI ra).toNatClampNeg r282)))), (r 42, .inl ((cT 1), 50, .inr (.inl (vp_updL g42_223 (nI ra).toNatClampNeg r294)))), (mo, .inr (12, mdG r cd tm (nI sn) (nI 0) (nI lz) (nI az) (nI na) (nI nt) (nI nv) mw ml mk dq)), (r 7, .inl ((cT 0), 1000, .inl f7))] H := hP
                      have hD : va_D A [(r 15, .inl ((cT 0), 200, .inl f15)), (r 9, .inl ((cT 0), 1400, .inl f9)), (r 12, .inl ((cT 0), 1200, .inl f12)), (r 3, .inl ((cT 0), 160, .inl f3)), (r 4, .inl ((cT 0), 4, .inl f4)), (r 0, .inl ((cT 1), 64, .inr (.inl f0))), (r 11, .inl ((cT 0), 16, .inl f11)), (r 13, .inl ((cT 0), 200, .inl f13)), (r 18, .inl ((cT 0), 41, .inl f18)), (r 19, .inl ((cT 0), 41, .inl f19)), (r 20, .inl ((cT 0), 41, .inl f20)), (r 21, .inl ((cT 0), 41, .inl f21)), (r 22, .inl ((cT 0), 8200, .inl f22)), (r 23, .inl ((cT 0), 656, .inl f23)), (r 34, .inl ((cT 0), 50, .inl g34_215)), (r 35, .inl ((cT 0), 50, .inl g35_216)), (r 36, .inl ((cT 0), 800, .inl g36_217)), (r 37, .inl ((cT 0), 50, .inl g37_218)), (r 38, .inl ((cT 0), 50, .inl (upd g38_219 ra 1))), (r 39, .inl ((cT 0), 50, .inl g39_220)), (r 40, .inl ((cT 0), 50, .inl (upd g40_221 ra tm))), (r 41, .inl ((cT 1), 50, .inr (.inl (vp_updL g41_222 (nI ra).toNatClampNeg r282)))), (r 42, .inl ((cT 1), 50, .inr (.inl (vp_updL g42_223 (nI ra).toNatClampNeg r294)))), (mo, .inr (12, mdG r cd tm (nI sn) (nI 0) (nI lz) (nI az) (nI na) (nI nt) (nI nv) mw ml mk dq)), (r 7, .inl ((cT 0), 1000, .inl f7))] := hD
                      have hl := lv_sub hl [1, 2] (show _ = [(0, .ref mo), (1, .int (nI st))] from rfl)
                      exact K224 _ _ _ _ _ _ _  hP hD hS hl
        refine lv_aload_n hx hb d_Md_write_49 rfl (lv_at hl 0 rfl) ?_
        refine lv_iload_n hx hb d_Md_write_50 rfl (lv_at hl 1 rfl) ?_
        have hPc := hP.sub (ws' := [(mo, .inr (12, mdG r cd tm (nI sn) (nI 0) (nI lz) (nI az) (nI na) (nI nt) (nI nr) mw ml mk dq)), (r 7, .inl ((cT 0), 1000, .inl f7)), (r 34, .inl ((cT 0), 50, .inl f34)), (r 35, .inl ((cT 0), 50, .inl f35)), (r 36, .inl ((cT 0), 800, .inl f36))]) [23, 24, 14, 15, 16] rfl
        have hDc := hD.sub (ws' := [(mo, .inr (12, mdG r cd tm (nI sn) (nI 0) (nI lz) (nI az) (nI na) (nI nt) (nI nr) mw ml mk dq)), (r 7, .inl ((cT 0), 1000, .inl f7)), (r 34, .inl ((cT 0), 50, .inl f34)), (r 35, .inl ((cT 0), 50, .inl f35)), (r 36, .inl ((cT 0), 800, .inl f36))]) [23, 24, 14, 15, 16] (by decide) rfl
        have hFc := va_free (wc := [(mo, .inr (12, mdG r cd tm (nI sn) (nI 0) (nI lz) (nI az) (nI na) (nI nt) (nI nr) mw ml mk dq)), (r 7, .inl ((cT 0), 1000, .inl f7)), (r 34, .inl ((cT 0), 50, .inl f34)), (r 35, .inl ((cT 0), 50, .inl f35)), (r 36, .inl ((cT 0), 800, .inl f36))]) hD hS hA [23, 24, 14, 15, 16] rfl
        refine va_calli (va_runV (C := "DoorServerModel") (As := [.int (nI st)]) (rest := []) ⟨hx, hb, hml, hown, hg⟩ (m_recordOf l dC dI cT H.size mo r cd tm sn 0 lz az na nt nr mw ml mk dq f7 f34 f35 f36 (nI st) pa44 pn44 (by first | assumption | omega) (by first | assumption | omega) (by first | assumption | omega) (by first | assumption | omega) (by first | assumption | omega)) (cwV 1 hg (gI (List.forall_mem_append.mpr ⟨List.forall_mem_cons.mpr ⟨k_1389, List.forall_mem_cons.mpr ⟨k_1391, List.forall_mem_cons.mpr ⟨(big_sel (q := y_Md_recordOf) (n := 45) (by decide +kernel)), List.forall_mem_cons.mpr ⟨k_13, fun _ h => absurd h List.not_mem_nil⟩⟩⟩⟩, List.forall_mem_cons.mpr ⟨k_1392, fun _ h => h⟩⟩)) rfl rfl rfl (by decide +kernel) ⟨Nat.le_of_ble_eq_true rfl, Nat.le_of_ble_eq_true rfl⟩) ⟨fun a U g mk q => by obtain ⟨q0, q1, qP, qK, qD⟩ := q; exact ⟨q0, q1, qP, va_K.moved (u := U) (U := U.calling g mk a) (Vm.Alike.refl U.vm) qK, qD⟩, va_recv (q0 := 23) (ci := 12) hK hP rfl rfl, fun U hU hW => ⟨rfl, by rw [hU], by rw [hU]; exact hPc, va_K.moved hW.alike hK, hDc.weaken (fun _ _ _ _ => trivial)⟩⟩ rfl rfl hl.1 rfl (lv_room (Nat.le_of_ble_eq_true rfl)) d_Md_write_51 ⟨Nat.le_of_ble_eq_true rfl, Nat.le_of_ble_eq_true rfl⟩) hS (fun q _ h => hFc q h) hFc (fun rv9 u t H1 locs ht hvm hw hB hz1 hk1 hS => ?_)
        try dsimp only at hw hB
        obtain ⟨hP1, hK1, hD1⟩ := hB
        rw [ht] at hP1
        generalize rv9 = r301 at hw ⊢
        obtain ⟨hP, hD⟩ := va_join (wr := [(r 15, .inl ((cT 0), 200, .inl f15)), (r 9, .inl ((cT 0), 1400, .inl f9)), (r 12, .inl ((cT 0), 1200, .inl f12)), (r 3, .inl ((cT 0), 160, .inl f3)), (r 4, .inl ((cT 0), 4, .inl f4)), (r 0, .inl ((cT 1), 64, .inr (.inl f0))), (r 11, .inl ((cT 0), 16, .inl f11)), (r 13, .inl ((cT 0), 200, .inl f13)), (r 18, .inl ((cT 0), 41, .inl f18)), (r 19, .inl ((cT 0), 41, .inl f19)), (r 20, .inl ((cT 0), 41, .inl f20)), (r 21, .inl ((cT 0), 41, .inl f21)), (r 22, .inl ((cT 0), 8200, .inl f22)), (r 23, .inl ((cT 0), 656, .inl f23)), (r 37, .inl ((cT 0), 50, .inl f37)), (r 38, .inl ((cT 0), 50, .inl f38)), (r 39, .inl ((cT 0), 50, .inl f39)), (r 40, .inl ((cT 0), 50, .inl f40)), (r 41, .inl ((cT 1), 50, .inr (.inl f41))), (r 42, .inl ((cT 1), 50, .inr (.inl f42)))]) (w1 := [(mo, .inr (12, mdG r cd tm (nI sn) (nI 0) (nI lz) (nI az) (nI na) (nI nt) (nI nr) mw ml mk dq)), (r 7, .inl ((cT 0), 1000, .inl f7)), (r 34, .inl ((cT 0), 50, .inl f34)), (r 35, .inl ((cT 0), 50, .inl f35)), (r 36, .inl ((cT 0), 800, .inl f36))]) hP hD [23, 24, 14, 15, 16] [0, 1, 2, 3, 4, 5, 6, 7, 8, 9, 10, 11, 12, 13, 17, 18, 19, 20, 21, 22] rfl rfl (by decide) (by decide) hk1 hFc hP1 hD1
        have hw302 := hw
        clear hPc hDc hFc hz1 hk1 hP1 hK1 hD1
        generalize H1 = H at hP hS ⊢
        have hP : va_P (dC, dI) vcl [(r 15, .inl ((cT 0), 200, .inl f15)), (r 9, .inl ((cT 0), 1400, .inl f9)), (r 12, .inl ((cT 0), 1200, .inl f12)), (r 3, .inl ((cT 0), 160, .inl f3)), (r 4, .inl ((cT 0), 4, .inl f4)), (r 0, .inl ((cT 1), 64, .inr (.inl f0))), (r 11, .inl ((cT 0), 16, .inl f11)), (r 13, .inl ((cT 0), 200, .inl f13)), (r 18, .inl ((cT 0), 41, .inl f18)), (r 19, .inl ((cT 0), 41, .inl f19)), (r 20, .inl ((cT 0), 41, .inl f20)), (r 21, .inl ((cT 0), 41, .inl f21)), (r 22, .inl ((cT 0), 8200, .inl f22)), (r 23, .inl ((cT 0), 656, .inl f23)), (r 37, .inl ((cT 0), 50, .inl f37)), (r 38, .inl ((cT 0), 50, .inl f38)), (r 39, .inl ((cT 0), 50, .inl f39)), (r 40, .inl ((cT 0), 50, .inl f40)), (r 41, .inl ((cT 1), 50, .inr (.inl f41))), (r 42, .inl ((cT 1), 50, .inr (.inl f42))), (mo, .inr (12, mdG r cd tm (nI sn) (nI 0) (nI lz) (nI az) (nI na) (nI nt) (nI nr) mw ml mk dq)), (r 7, .inl ((cT 0), 1000, .inl f7)), (r 34, .inl ((cT 0), 50, .inl f34)), (r 35, .inl ((cT 0), 50, .inl f35)), (r 36, .inl ((cT 0), 800, .inl f36))] H := hP
        have hD : va_D A [(r 15, .inl ((cT 0), 200, .inl f15)), (r 9, .inl ((cT 0), 1400, .inl f9)), (r 12, .inl ((cT 0), 1200, .inl f12)), (r 3, .inl ((cT 0), 160, .inl f3)), (r 4, .inl ((cT 0), 4, .inl f4)), (r 0, .inl ((cT 1), 64, .inr (.inl f0))), (r 11, .inl ((cT 0), 16, .inl f11)), (r 13, .inl ((cT 0), 200, .inl f13)), (r 18, .inl ((cT 0), 41, .inl f18)), (r 19, .inl ((cT 0), 41, .inl f19)), (r 20, .inl ((cT 0), 41, .inl f20)), (r 21, .inl ((cT 0), 41, .inl f21)), (r 22, .inl ((cT 0), 8200, .inl f22)), (r 23, .inl ((cT 0), 656, .inl f23)), (r 37, .inl ((cT 0), 50, .inl f37)), (r 38, .inl ((cT 0), 50, .inl f38)), (r 39, .inl ((cT 0), 50, .inl f39)), (r 40, .inl ((cT 0), 50, .inl f40)), (r 41, .inl ((cT 1), 50, .inr (.inl f41))), (r 42, .inl ((cT 1), 50, .inr (.inl f42))), (mo, .inr (12, mdG r cd tm (nI sn) (nI 0) (nI lz) (nI az) (nI na) (nI nt) (nI nr) mw ml mk dq)), (r 7, .inl ((cT 0), 1000, .inl f7)), (r 34, .inl ((cT 0), 50, .inl f34)), (r 35, .inl ((cT 0), 50, .inl f35)), (r 36, .inl ((cT 0), 800, .inl f36))] := hD
        have k303 := hw302
        rcases k303 with h8p | ⟨ri, h8p, hri⟩
        · skip
          refine lv_topi (fun x305 e304 => ?_)
          obtain rfl : x305 = (-1) := by rw [e304]; exact h8p
          refine lv_istore (lv' := [(4, .int (-1)), (0, .ref mo), (1, .int (nI st)), (2, .long r193)]) hx hb d_Md_write_54 hl (by decide) rfl (fun ls hl => ?_)
          refine lv_iload hx hb d_Md_write_56 (lv_at hl 0 rfl) ?_
          refine lv_if_ge (tgt := 74) hx hb d_Md_write_58 (by decide) (fun hn9 => absurd hn9 (by decide)) (fun hc306 => ?_)
          refine lv_aload_n hx hb d_Md_write_61 rfl (lv_at hl 1 rfl) ?_
          refine va_get (D := (dC, dI)) (ci := 12) (v := (.int (nI nr))) (C := R_Md) (T := F_Md) (N := 45) hx hb hg in_Md hown hK hP 20 rfl rfl 33 (by decide) (hg _ k_1053) (fun _ h9 => h9) rfl d_Md_write_62 ?_
          refine lv_bipush (v := 50) hx hb d_Md_write_65 (by decide) ?_
          refine lv_icmp_ge (tgt := 74) hx hb d_Md_write_67 (by decide) (fun hc307 => ?_) (fun hc307 => ?_)
          · skip
            have n308 : 50 ≤ nr := (nI_leI (a := 50) (b := nr) (by omega) (by omega)).mp hc307
            refine lv_iconst (v := 0) hx hb d_Md_write_74 (by decide) ?_
            refine lv_istore (lv' := [(5, .int 0), (4, .int (-1)), (0, .ref mo), (1, .int (nI st)), (2, .long r193)]) hx hb d_Md_write_75 hl (by decide) rfl (fun ls hl => ?_)
            refine lv_iload hx hb d_Md_write_77 (lv_at hl 0 rfl) ?_
            refine lv_if_eq (tgt := 238) hx hb d_Md_write_79 (by decide) (fun hc310 => ?_) (fun hn9 => absurd (by decide) hn9)
            have hr9x : (-1 : Int32) = -1 ∨ ∃ a : Nat, (-1 : Int32) = nI a ∧ a < 50 := Or.inl rfl
            have hl := lv_sub hl [1, 2, 3, 4] (show _ = [(4, .int (-1)), (0, .ref mo), (1, .int (nI st)), (2, .long r193)] from rfl)
            have hP := hP.sub (ws' := [(r 15, .inl ((cT 0), 200, .inl f15)), (r 9, .inl ((cT 0), 1400, .inl f9)), (r 12, .inl ((cT 0), 1200, .inl f12)), (r 3, .inl ((cT 0), 160, .inl f3)), (r 4, .inl ((cT 0), 4, .inl f4)), (r 0, .inl ((cT 1), 64, .inr (.inl f0))), (r 11, .inl ((cT 0), 16, .inl f11)), (r 13, .inl ((cT 0), 200, .inl f13)), (r 18, .inl ((cT 0), 41, .inl f18)), (r 19, .inl ((cT 0), 41, .inl f19)), (r 20, .inl ((cT 0), 41, .inl f20)), (r 21, .inl ((cT 0), 41, .inl f21)), (r 22, .inl ((cT 0), 8200, .inl f22)), (r 23, .inl ((cT 0), 656, .inl f23)), (r 34, .inl ((cT 0), 50, .inl f34)), (r 35, .inl ((cT 0), 50, .inl f35)), (r 36, .inl ((cT 0), 800, .inl f36)), (r 37, .inl ((cT 0), 50, .inl f37)), (r 38, .inl ((cT 0), 50, .inl f38)), (r 39, .inl ((cT 0), 50, .inl f39)), (r 40, .inl ((cT 0), 50, .inl f40)), (r 41, .inl ((cT 1), 50, .inr (.inl f41))), (r 42, .inl ((cT 1), 50, .inr (.inl f42))), (mo, .inr (12, mdG r cd tm (nI sn) (nI 0) (nI lz) (nI az) (nI na) (nI nt) (nI nr) mw ml mk dq)), (r 7, .inl ((cT 0), 1000, .inl f7))]) [0, 1, 2, 3, 4, 5, 6, 7, 8, 9, 10, 11, 12, 13, 22, 23, 24, 14, 15, 16, 17, 18, 19, 20, 21] rfl
            have hD := hD.sub (ws' := [(r 15, .inl ((cT 0), 200, .inl f15)), (r 9, .inl ((cT 0), 1400, .inl f9)), (r 12, .inl ((cT 0), 1200, .inl f12)), (r 3, .inl ((cT 0), 160, .inl f3)), (r 4, .inl ((cT 0), 4, .inl f4)), (r 0, .inl ((cT 1), 64, .inr (.inl f0))), (r 11, .inl ((cT 0), 16, .inl f11)), (r 13, .inl ((cT 0), 200, .inl f13)), (r 18, .inl ((cT 0), 41, .inl f18)), (r 19, .inl ((cT 0), 41, .inl f19)), (r 20, .inl ((cT 0), 41, .inl f20)), (r 21, .inl ((cT 0), 41, .inl f21)), (r 22, .inl ((cT 0), 8200, .inl f22)), (r 23, .inl ((cT 0), 656, .inl f23)), (r 34, .inl ((cT 0), 50, .inl f34)), (r 35, .inl ((cT 0), 50, .inl f35)), (r 36, .inl ((cT 0), 800, .inl f36)), (r 37, .inl ((cT 0), 50, .inl f37)), (r 38, .inl ((cT 0), 50, .inl f38)), (r 39, .inl ((cT 0), 50, .inl f39)), (r 40, .inl ((cT 0), 50, .inl f40)), (r 41, .inl ((cT 1), 50, .inr (.inl f41))), (r 42, .inl ((cT 1), 50, .inr (.inl f42))), (mo, .inr (12, mdG r cd tm (nI sn) (nI 0) (nI lz) (nI az) (nI na) (nI nt) (nI nr) mw ml mk dq)), (r 7, .inl ((cT 0), 1000, .inl f7))]) [0, 1, 2, 3, 4, 5, 6, 7, 8, 9, 10, 11, 12, 13, 22, 23, 24, 14, 15, 16, 17, 18, 19, 20, 21] (by decide) rfl
            exact K214 _ _ _ _ _ _ _ _ _ _ _ _ _ _ (by first | assumption | omega) (by first | assumption | omega) (by first | assumption | omega) hP hD hS hl
          · skip
            have n309 : nr < 50 := Nat.not_le.mp (fun h7 => hc307 ((nI_leI (a := 50) (b := nr) (by omega) (by omega)).mpr h7))
            refine lv_iconst (v := 1) hx hb d_Md_write_70 (by decide) ?_
            refine lv_goto (tgt := 75) hx hb d_Md_write_71 (by decide) ?_
            refine lv_istore (lv' := [(5, .int 1), (4, .int (-1)), (0, .ref mo), (1, .int (nI st)), (2, .long r193)]) hx hb d_Md_write_75 hl (by decide) rfl (fun ls hl => ?_)
            refine lv_iload hx hb d_Md_write_77 (lv_at hl 0 rfl) ?_
            refine lv_if_eq (tgt := 238) hx hb d_Md_write_79 (by decide) (fun hn9 => absurd hn9 (by decide)) (fun hc311 => ?_)
            refine lv_aload_n hx hb d_Md_write_82 rfl (lv_at hl 2 rfl) ?_
            refine va_get (D := (dC, dI)) (ci := 12) (v := (.int (nI nr))) (C := R_Md) (T := F_Md) (N := 45) hx hb hg in_Md hown hK hP 20 rfl rfl 33 (by decide) (hg _ k_1053) (fun _ h9 => h9) rfl d_Md_write_83 ?_
            refine lv_istore (lv' := [(4, .int (nI nr)), (5, .int 1), (0, .ref mo), (1, .int (nI st)), (2, .long r193)]) hx hb d_Md_write_86 hl (by decide) rfl (fun ls hl => ?_)
            refine lv_aload_n hx hb d_Md_write_88 rfl (lv_at hl 2 rfl) ?_
            refine va_get (D := (dC, dI)) (ci := 12) (v := (.ref (r 34))) (C := R_Md) (T := F_Md) (N := 45) hx hb hg in_Md hown hK hP 20 rfl rfl 34 (by decide) (hg _ k_1054) (fun _ h9 => h9) rfl d_Md_write_89 ?_
            refine lv_iload hx hb d_Md_write_92 (lv_at hl 0 rfl) ?_
            refine lv_iload_n hx hb d_Md_write_94 rfl (lv_at hl 3 rfl) ?_
            refine va_iast hx hb hK hP hD hS 22 0 rfl rfl (i := (nI nr)) (vp_in_nI (n := nr) (N := 50) (by omega) (by decide)) d_Md_write_95 (fun H locs hP hD hS => ?_)
            have ef312 : upd f34 (nI nr).toNatClampNeg (nI st) = upd f34 nr (nI st) := by rw [show (nI nr).toNatClampNeg = nr from nI_clamp (by omega)]
            rw [ef312] at hP hD
            have hP : va_P (dC, dI) vcl [(r 15, .inl ((cT 0), 200, .inl f15)), (r 9, .inl ((cT 0), 1400, .inl f9)), (r 12, .inl ((cT 0), 1200, .inl f12)), (r 3, .inl ((cT 0), 160, .inl f3)), (r 4, .inl ((cT 0), 4, .inl f4)), (r 0, .inl ((cT 1), 64, .inr (.inl f0))), (r 11, .inl ((cT 0), 16, .inl f11)), (r 13, .inl ((cT 0), 200, .inl f13)), (r 18, .inl ((cT 0), 41, .inl f18)), (r 19, .inl ((cT 0), 41, .inl f19)), (r 20, .inl ((cT 0), 41, .inl f20)), (r 21, .inl ((cT 0), 41, .inl f21)), (r 22, .inl ((cT 0), 8200, .inl f22)), (r 23, .inl ((cT 0), 656, .inl f23)), (r 37, .inl ((cT 0), 50, .inl f37)), (r 38, .inl ((cT 0), 50, .inl f38)), (r 39, .inl ((cT 0), 50, .inl f39)), (r 40, .inl ((cT 0), 50, .inl f40)), (r 41, .inl ((cT 1), 50, .inr (.inl f41))), (r 42, .inl ((cT 1), 50, .inr (.inl f42))), (mo, .inr (12, mdG r cd tm (nI sn) (nI 0) (nI lz) (nI az) (nI na) (nI nt) (nI nr) mw ml mk dq)), (r 7, .inl ((cT 0), 1000, .inl f7)), (r 34, .inl ((cT 0), 50, .inl (upd f34 nr (nI st)))), (r 35, .inl ((cT 0), 50, .inl f35)), (r 36, .inl ((cT 0), 800, .inl f36))] H := hP
            have hD : va_D A [(r 15, .inl ((cT 0), 200, .inl f15)), (r 9, .inl ((cT 0), 1400, .inl f9)), (r 12, .inl ((cT 0), 1200, .inl f12)), (r 3, .inl ((cT 0), 160, .inl f3)), (r 4, .inl ((cT 0), 4, .inl f4)), (r 0, .inl ((cT 1), 64, .inr (.inl f0))), (r 11, .inl ((cT 0), 16, .inl f11)), (r 13, .inl ((cT 0), 200, .inl f13)), (r 18, .inl ((cT 0), 41, .inl f18)), (r 19, .inl ((cT 0), 41, .inl f19)), (r 20, .inl ((cT 0), 41, .inl f20)), (r 21, .inl ((cT 0), 41, .inl f21)), (r 22, .inl ((cT 0), 8200, .inl f22)), (r 23, .inl ((cT 0), 656, .inl f23)), (r 37, .inl ((cT 0), 50, .inl f37)), (r 38, .inl ((cT 0), 50, .inl f38)), (r 39, .inl ((cT 0), 50, .inl f39)), (r 40, .inl ((cT 0), 50, .inl f40)), (r 41, .inl ((cT 1), 50, .inr (.inl f41))), (r 42, .inl ((cT 1), 50, .inr (.inl f42))), (mo, .inr (12, mdG r cd tm (nI sn) (nI 0) (nI lz) (nI az) (nI na) (nI nt) (nI nr) mw ml mk dq)), (r 7, .inl ((cT 0), 1000, .inl f7)), (r 34, .inl ((cT 0), 50, .inl (upd f34 nr (nI st)))), (r 35, .inl ((cT 0), 50, .inl f35)), (r 36, .inl ((cT 0), 800, .inl f36))] := hD
            refine lv_aload_n hx hb d_Md_write_96 rfl (lv_at hl 2 rfl) ?_
            refine va_get (D := (dC, dI)) (ci := 12) (v := (.ref (r 35))) (C := R_Md) (T := F_Md) (N := 45) hx hb hg in_Md hown hK hP 20 rfl rfl 35 (by decide) (hg _ k_1055) (fun _ h9 => h9) rfl d_Md_write_97 ?_
            refine lv_iload hx hb d_Md_write_100 (lv_at hl 0 rfl) ?_
            refine lv_aload_n hx hb d_Md_write_102 rfl (lv_at hl 2 rfl) ?_
            refine lv_bipush (v := 44) hx hb d_Md_write_103 (by decide) ?_
            have hPc := hP.sub (ws' := [(mo, .inr (12, mdG r cd tm (nI sn) (nI 0) (nI lz) (nI az) (nI na) (nI nt) (nI nr) mw ml mk dq)), (r 7, .inl ((cT 0), 1000, .inl f7))]) [20, 21] rfl
            have hDc := hD.sub (ws' := [(mo, .inr (12, mdG r cd tm (nI sn) (nI 0) (nI lz) (nI az) (nI na) (nI nt) (nI nr) mw ml mk dq)), (r 7, .inl ((cT 0), 1000, .inl f7))]) [20, 21] (by decide) rfl
            have hFc := va_free (wc := [(mo, .inr (12, mdG r cd tm (nI sn) (nI 0) (nI lz) (nI az) (nI na) (nI nt) (nI nr) mw ml mk dq)), (r 7, .inl ((cT 0), 1000, .inl f7))]) hD hS hA [20, 21] rfl
            refine va_calli (va_runV (C := "DoorServerModel") (As := [.int 44]) (rest := [.int (nI nr), .ref (r 35)]) ⟨hx, hb, hml, hown, hg⟩ (m_sizeOf l dC dI cT H.size mo r cd tm sn 0 lz az na nt nr mw ml mk dq f7 44 pa44 pn44 (by first | assumption | omega) (by first | assumption | omega) (by first | assumption | omega) (by first | assumption | omega)) (cwV 1 hg (gI (List.forall_mem_append.mpr ⟨List.forall_mem_cons.mpr ⟨k_1329, List.forall_mem_cons.mpr ⟨k_1331, List.forall_mem_cons.mpr ⟨(big_sel (q := y_Md_sizeOf) (n := 45) (by decide +kernel)), List.forall_mem_cons.mpr ⟨k_13, fun _ h => absurd h List.not_mem_nil⟩⟩⟩⟩, List.forall_mem_cons.mpr ⟨k_1332, fun _ h => h⟩⟩)) rfl rfl rfl (by decide +kernel) ⟨Nat.le_of_ble_eq_true rfl, Nat.le_of_ble_eq_true rfl⟩) ⟨fun a U g mk q => by obtain ⟨q0, q1, qP, qK, qD⟩ := q; exact ⟨q0, q1, qP, va_K.moved (u := U) (U := U.calling g mk a) (Vm.Alike.refl U.vm) qK, qD⟩, va_recv (q0 := 20) (ci := 12) hK hP rfl rfl, fun U hU hW => ⟨rfl, by rw [hU], by rw [hU]; exact hPc, va_K.moved hW.alike hK, hDc.weaken (fun _ _ _ _ => trivial)⟩⟩ rfl rfl hl.1 rfl (lv_room (Nat.le_of_ble_eq_true rfl)) d_Md_write_105 ⟨Nat.le_of_ble_eq_true rfl, Nat.le_of_ble_eq_true rfl⟩) hS (fun q _ h => hFc q h) hFc (fun rv9 u t H1 locs ht hvm hw hB hz1 hk1 hS => ?_)
            try dsimp only at hw hB
            obtain ⟨hP1, hK1, hD1⟩ := hB
            rw [ht] at hP1
            obtain ⟨rfl, hw⟩ := hw
            obtain ⟨hP, hD⟩ := va_join (wr := [(r 15, .inl ((cT 0), 200, .inl f15)), (r 9, .inl ((cT 0), 1400, .inl f9)), (r 12, .inl ((cT 0), 1200, .inl f12)), (r 3, .inl ((cT 0), 160, .inl f3)), (r 4, .inl ((cT 0), 4, .inl f4)), (r 0, .inl ((cT 1), 64, .inr (.inl f0))), (r 11, .inl ((cT 0), 16, .inl f11)), (r 13, .inl ((cT 0), 200, .inl f13)), (r 18, .inl ((cT 0), 41, .inl f18)), (r 19, .inl ((cT 0), 41, .inl f19)), (r 20, .inl ((cT 0), 41, .inl f20)), (r 21, .inl ((cT 0), 41, .inl f21)), (r 22, .inl ((cT 0), 8200, .inl f22)), (r 23, .inl ((cT 0), 656, .inl f23)), (r 37, .inl ((cT 0), 50, .inl f37)), (r 38, .inl ((cT 0), 50, .inl f38)), (r 39, .inl ((cT 0), 50, .inl f39)), (r 40, .inl ((cT 0), 50, .inl f40)), (r 41, .inl ((cT 1), 50, .inr (.inl f41))), (r 42, .inl ((cT 1), 50, .inr (.inl f42))), (r 34, .inl ((cT 0), 50, .inl (upd f34 nr (nI st)))), (r 35, .inl ((cT 0), 50, .inl f35)), (r 36, .inl ((cT 0), 800, .inl f36))]) (w1 := [(mo, .inr (12, mdG r cd tm (nI sn) (nI 0) (nI lz) (nI az) (nI na) (nI nt) (nI nr) mw ml mk dq)), (r 7, .inl ((cT 0), 1000, .inl f7))]) hP hD [20, 21] [0, 1, 2, 3, 4, 5, 6, 7, 8, 9, 10, 11, 12, 13, 14, 15, 16, 17, 18, 19, 22, 23, 24] rfl rfl (by decide) (by decide) hk1 hFc hP1 hD1
            have hw313 := hw
            clear hPc hDc hFc hz1 hk1 hP1 hK1 hD1
            generalize H1 = H at hP hS ⊢
            have hP : va_P (dC, dI) vcl [(r 15, .inl ((cT 0), 200, .inl f15)), (r 9, .inl ((cT 0), 1400, .inl f9)), (r 12, .inl ((cT 0), 1200, .inl f12)), (r 3, .inl ((cT 0), 160, .inl f3)), (r 4, .inl ((cT 0), 4, .inl f4)), (r 0, .inl ((cT 1), 64, .inr (.inl f0))), (r 11, .inl ((cT 0), 16, .inl f11)), (r 13, .inl ((cT 0), 200, .inl f13)), (r 18, .inl ((cT 0), 41, .inl f18)), (r 19, .inl ((cT 0), 41, .inl f19)), (r 20, .inl ((cT 0), 41, .inl f20)), (r 21, .inl ((cT 0), 41, .inl f21)), (r 22, .inl ((cT 0), 8200, .inl f22)), (r 23, .inl ((cT 0), 656, .inl f23)), (r 37, .inl ((cT 0), 50, .inl f37)), (r 38, .inl ((cT 0), 50, .inl f38)), (r 39, .inl ((cT 0), 50, .inl f39)), (r 40, .inl ((cT 0), 50, .inl f40)), (r 41, .inl ((cT 1), 50, .inr (.inl f41))), (r 42, .inl ((cT 1), 50, .inr (.inl f42))), (r 34, .inl ((cT 0), 50, .inl (upd f34 nr (nI st)))), (r 35, .inl ((cT 0), 50, .inl f35)), (r 36, .inl ((cT 0), 800, .inl f36)), (mo, .inr (12, mdG r cd tm (nI sn) (nI 0) (nI lz) (nI az) (nI na) (nI nt) (nI nr) mw ml mk dq)), (r 7, .inl ((cT 0), 1000, .inl f7))] H := hP
            have hD : va_D A [(r 15, .inl ((cT 0), 200, .inl f15)), (r 9, .inl ((cT 0), 1400, .inl f9)), (r 12, .inl ((cT 0), 1200, .inl f12)), (r 3, .inl ((cT 0), 160, .inl f3)), (r 4, .inl ((cT 0), 4, .inl f4)), (r 0, .inl ((cT 1), 64, .inr (.inl f0))), (r 11, .inl ((cT 0), 16, .inl f11)), (r 13, .inl ((cT 0), 200, .inl f13)), (r 18, .inl ((cT 0), 41, .inl f18)), (r 19, .inl ((cT 0), 41, .inl f19)), (r 20, .inl ((cT 0), 41, .inl f20)), (r 21, .inl ((cT 0), 41, .inl f21)), (r 22, .inl ((cT 0), 8200, .inl f22)), (r 23, .inl ((cT 0), 656, .inl f23)), (r 37, .inl ((cT 0), 50, .inl f37)), (r 38, .inl ((cT 0), 50, .inl f38)), (r 39, .inl ((cT 0), 50, .inl f39)), (r 40, .inl ((cT 0), 50, .inl f40)), (r 41, .inl ((cT 1), 50, .inr (.inl f41))), (r 42, .inl ((cT 1), 50, .inr (.inl f42))), (r 34, .inl ((cT 0), 50, .inl (upd f34 nr (nI st)))), (r 35, .inl ((cT 0), 50, .inl f35)), (r 36, .inl ((cT 0), 800, .inl f36)), (mo, .inr (12, mdG r cd tm (nI sn) (nI 0) (nI lz) (nI az) (nI na) (nI nt) (nI nr) mw ml mk dq)), (r 7, .inl ((cT 0), 1000, .inl f7))] := hD
            refine va_iast hx hb hK hP hD hS 21 0 rfl rfl (i := (nI nr)) (vp_in_nI (n := nr) (N := 50) (by omega) (by decide)) d_Md_write_108 (fun H locs hP hD hS => ?_)
            have ef314 : upd f35 (nI nr).toNatClampNeg (nI pn44) = upd f35 nr (nI pn44) := by rw [show (nI nr).toNatClampNeg = nr from nI_clamp (by omega)]
            rw [ef314] at hP hD
            have hP : va_P (dC, dI) vcl [(r 15, .inl ((cT 0), 200, .inl f15)), (r 9, .inl ((cT 0), 1400, .inl f9)), (r 12, .inl ((cT 0), 1200, .inl f12)), (r 3, .inl ((cT 0), 160, .inl f3)), (r 4, .inl ((cT 0), 4, .inl f4)), (r 0, .inl ((cT 1), 64, .inr (.inl f0))), (r 11, .inl ((cT 0), 16, .inl f11)), (r 13, .inl ((cT 0), 200, .inl f13)), (r 18, .inl ((cT 0), 41, .inl f18)), (r 19, .inl ((cT 0), 41, .inl f19)), (r 20, .inl ((cT 0), 41, .inl f20)), (r 21, .inl ((cT 0), 41, .inl f21)), (r 22, .inl ((cT 0), 8200, .inl f22)), (r 23, .inl ((cT 0), 656, .inl f23)), (r 37, .inl ((cT 0), 50, .inl f37)), (r 38, .inl ((cT 0), 50, .inl f38)), (r 39, .inl ((cT 0), 50, .inl f39)), (r 40, .inl ((cT 0), 50, .inl f40)), (r 41, .inl ((cT 1), 50, .inr (.inl f41))), (r 42, .inl ((cT 1), 50, .inr (.inl f42))), (r 34, .inl ((cT 0), 50, .inl (upd f34 nr (nI st)))), (r 35, .inl ((cT 0), 50, .inl (upd f35 nr (nI pn44)))), (r 36, .inl ((cT 0), 800, .inl f36)), (mo, .inr (12, mdG r cd tm (nI sn) (nI 0) (nI lz) (nI az) (nI na) (nI nt) (nI nr) mw ml mk dq)), (r 7, .inl ((cT 0), 1000, .inl f7))] H := hP
            have hD : va_D A [(r 15, .inl ((cT 0), 200, .inl f15)), (r 9, .inl ((cT 0), 1400, .inl f9)), (r 12, .inl ((cT 0), 1200, .inl f12)), (r 3, .inl ((cT 0), 160, .inl f3)), (r 4, .inl ((cT 0), 4, .inl f4)), (r 0, .inl ((cT 1), 64, .inr (.inl f0))), (r 11, .inl ((cT 0), 16, .inl f11)), (r 13, .inl ((cT 0), 200, .inl f13)), (r 18, .inl ((cT 0), 41, .inl f18)), (r 19, .inl ((cT 0), 41, .inl f19)), (r 20, .inl ((cT 0), 41, .inl f20)), (r 21, .inl ((cT 0), 41, .inl f21)), (r 22, .inl ((cT 0), 8200, .inl f22)), (r 23, .inl ((cT 0), 656, .inl f23)), (r 37, .inl ((cT 0), 50, .inl f37)), (r 38, .inl ((cT 0), 50, .inl f38)), (r 39, .inl ((cT 0), 50, .inl f39)), (r 40, .inl ((cT 0), 50, .inl f40)), (r 41, .inl ((cT 1), 50, .inr (.inl f41))), (r 42, .inl ((cT 1), 50, .inr (.inl f42))), (r 34, .inl ((cT 0), 50, .inl (upd f34 nr (nI st)))), (r 35, .inl ((cT 0), 50, .inl (upd f35 nr (nI pn44)))), (r 36, .inl ((cT 0), 800, .inl f36)), (mo, .inr (12, mdG r cd tm (nI sn) (nI 0) (nI lz) (nI az) (nI na) (nI nt) (nI nr) mw ml mk dq)), (r 7, .inl ((cT 0), 1000, .inl f7))] := hD
            refine lv_iconst (v := 0) hx hb d_Md_write_109 (by decide) ?_
            refine lv_istore (lv' := [(6, .int 0), (4, .int (nI nr)), (5, .int 1), (0, .ref mo), (1, .int (nI st)), (2, .long r193)]) hx hb d_Md_write_110 hl (by decide) rfl (fun ls hl => ?_)
            have hl := lv_sub hl [0, 1, 2, 3, 4, 5] (show _ = [(6, .int 0), (4, .int (nI nr)), (5, .int 1), (0, .ref mo), (1, .int (nI st)), (2, .long r193)] from rfl)
            have L316 : ∀ (Q : State → Prop) (exit : ∀ (g36_315 : Nat → Int32) (H : Heap) (locs : List Loc) (ls : Array Slot), va_P (dC, dI) vcl [(r 15, .inl ((cT 0), 200, .inl f15)), (r 9, .inl ((cT 0), 1400, .inl f9)), (r 12, .inl ((cT 0), 1200, .inl f12)), (r 3, .inl ((cT 0), 160, .inl f3)), (r 4, .inl ((cT 0), 4, .inl f4)), (r 0, .inl ((cT 1), 64, .inr (.inl f0))), (r 11, .inl ((cT 0), 16, .inl f11)), (r 13, .inl ((cT 0), 200, .inl f13)), (r 18, .inl ((cT 0), 41, .inl f18)), (r 19, .inl ((cT 0), 41, .inl f19)), (r 20, .inl ((cT 0), 41, .inl f20)), (r 21, .inl ((cT 0), 41, .inl f21)), (r 22, .inl ((cT 0), 8200, .inl f22)), (r 23, .inl ((cT 0), 656, .inl f23)), (r 37, .inl ((cT 0), 50, .inl f37)), (r 38, .inl ((cT 0), 50, .inl f38)), (r 39, .inl ((cT 0), 50, .inl f39)), (r 40, .inl ((cT 0), 50, .inl f40)), (r 41, .inl ((cT 1), 50, .inr (.inl f41))), (r 42, .inl ((cT 1), 50, .inr (.inl f42))), (r 34, .inl ((cT 0), 50, .inl (upd f34 nr (nI st)))), (r 35, .inl ((cT 0), 50, .inl (upd f35 nr (nI pn44)))), (r 36, .inl ((cT 0), 800, .inl g36_315)), (mo, .inr (12, mdG r cd tm (nI sn) (nI 0) (nI lz) (nI az) (nI na) (nI nt) (nI nr) mw ml mk dq)), (r 7, .inl ((cT 0), 1000, .inl f7))] H → va_D A [(r 15, .inl ((cT 0), 200, .inl f15)), (r 9, .inl ((cT 0), 1400, .inl f9)), (r 12, .inl ((cT 0), 1200, .inl f12)), (r 3, .inl ((cT 0), 160, .inl f3)), (r 4, .inl ((cT 0), 4, .inl f4)), (r 0, .inl ((cT 1), 64, .inr (.inl f0))), (r 11, .inl ((cT 0), 16, .inl f11)), (r 13, .inl ((cT 0), 200, .inl f13)), (r 18, .inl ((cT 0), 41, .inl f18)), (r 19, .inl ((cT 0), 41, .inl f19)), (r 20, .inl ((cT 0), 41, .inl f20)), (r 21, .inl ((cT 0), 41, .inl f21)), (r 22, .inl ((cT 0), 8200, .inl f22)), (r 23, .inl ((cT 0), 656, .inl f23)), (r 37, .inl ((cT 0), 50, .inl f37)), (r 38, .inl ((cT 0), 50, .inl f38)), (r 39, .inl ((cT 0), 50, .inl f39)), (r 40, .inl ((cT 0), 50, .inl f40)), (r 41, .inl ((cT 1), 50, .inr (.inl f41))), (r 42, .inl ((cT 1), 50, .inr (.inl f42))), (r 34, .inl ((cT 0), 50, .inl (upd f34 nr (nI st)))), (r 35, .inl ((cT 0), 50, .inl (upd f35 nr (nI pn44)))), (r 36, .inl ((cT 0), 800, .inl g36_315)), (mo, .inr (12, mdG r cd tm (nI sn) (nI 0) (nI lz) (nI az) (nI na) (nI nt) (nI nr) mw ml mk dq)), (r 7, .inl ((cT 0), 1000, .inl f7))] → va_S A s.heap H locs → lv_has ls 7 [(6, .int (nI pn44)), (4, .int (nI nr)), (5, .int 1), (0, .ref mo), (1, .int (nI st)), (2, .long r193)] → W p l e ({ frames := 4, cells := 0, slots := 0, locals := 120 } : Room) s m args below meth c H locs 0 0 Q (F0 m 157 ls [])) (j8 i : Nat) (g36_315 : Nat → Int32) (H : Heap) (locs : List Loc) (ls : Array Slot), i + j8 = pn44 → va_P (dC, dI) vcl [(r 15, .inl ((cT 0), 200, .inl f15)), (r 9, .inl ((cT 0), 1400, .inl f9)), (r 12, .inl ((cT 0), 1200, .inl f12)), (r 3, .inl ((cT 0), 160, .inl f3)), (r 4, .inl ((cT 0), 4, .inl f4)), (r 0, .inl ((cT 1), 64, .inr (.inl f0))), (r 11, .inl ((cT 0), 16, .inl f11)), (r 13, .inl ((cT 0), 200, .inl f13)), (r 18, .inl ((cT 0), 41, .inl f18)), (r 19, .inl ((cT 0), 41, .inl f19)), (r 20, .inl ((cT 0), 41, .inl f20)), (r 21, .inl ((cT 0), 41, .inl f21)), (r 22, .inl ((cT 0), 8200, .inl f22)), (r 23, .inl ((cT 0), 656, .inl f23)), (r 37, .inl ((cT 0), 50, .inl f37)), (r 38, .inl ((cT 0), 50, .inl f38)), (r 39, .inl ((cT 0), 50, .inl f39)), (r 40, .inl ((cT 0), 50, .inl f40)), (r 41, .inl ((cT 1), 50, .inr (.inl f41))), (r 42, .inl ((cT 1), 50, .inr (.inl f42))), (r 34, .inl ((cT 0), 50, .inl (upd f34 nr (nI st)))), (r 35, .inl ((cT 0), 50, .inl (upd f35 nr (nI pn44)))), (r 36, .inl ((cT 0), 800, .inl g36_315)), (mo, .inr (12, mdG r cd tm (nI sn) (nI 0) (nI lz) (nI az) (nI na) (nI nt) (nI nr) mw ml mk dq)), (r 7, .inl ((cT 0), 1000, .inl f7))] H → va_D A [(r 15, .inl ((cT 0), 200, .inl f15)), (r 9, .inl ((cT 0), 1400, .inl f9)), (r 12, .inl ((cT 0), 1200, .inl f12)), (r 3, .inl ((cT 0), 160, .inl f3)), (r 4, .inl ((cT 0), 4, .inl f4)), (r 0, .inl ((cT 1), 64, .inr (.inl f0))), (r 11, .inl ((cT 0), 16, .inl f11)), (r 13, .inl ((cT 0), 200, .inl f13)), (r 18, .inl ((cT 0), 41, .inl f18)), (r 19, .inl ((cT 0), 41, .inl f19)), (r 20, .inl ((cT 0), 41, .inl f20)), (r 21, .inl ((cT 0), 41, .inl f21)), (r 22, .inl ((cT 0), 8200, .inl f22)), (r 23, .inl ((cT 0), 656, .inl f23)), (r 37, .inl ((cT 0), 50, .inl f37)), (r 38, .inl ((cT 0), 50, .inl f38)), (r 39, .inl ((cT 0), 50, .inl f39)), (r 40, .inl ((cT 0), 50, .inl f40)), (r 41, .inl ((cT 1), 50, .inr (.inl f41))), (r 42, .inl ((cT 1), 50, .inr (.inl f42))), (r 34, .inl ((cT 0), 50, .inl (upd f34 nr (nI st)))), (r 35, .inl ((cT 0), 50, .inl (upd f35 nr (nI pn44)))), (r 36, .inl ((cT 0), 800, .inl g36_315)), (mo, .inr (12, mdG r cd tm (nI sn) (nI 0) (nI lz) (nI az) (nI na) (nI nt) (nI nr) mw ml mk dq)), (r 7, .inl ((cT 0), 1000, .inl f7))] → va_S A s.heap H locs → lv_has ls 7 [(6, .int (nI i)), (4, .int (nI nr)), (5, .int 1), (0, .ref mo), (1, .int (nI st)), (2, .long r193)] → W p l e ({ frames := 4, cells := 0, slots := 0, locals := 120 } : Room) s m args below meth c H locs 0 0 Q (F0 m 112 ls []) := by
              intro Q exit j8
              induction j8 with
              | zero => 
                intro i g36_315 H locs ls hij  hP hD hS hl
                have hij : pn44 = i := by omega
                refine lv_iload hx hb d_Md_write_112 (lv_at hl 0 rfl) ?_
                refine lv_aload_n hx hb d_Md_write_114 rfl (lv_at hl 3 rfl) ?_
                refine va_get (D := (dC, dI)) (ci := 12) (v := (.ref (r 35))) (C := R_Md) (T := F_Md) (N := 45) hx hb hg in_Md hown hK hP 23 rfl rfl 35 (by decide) (hg _ k_1055) (fun _ h9 => h9) rfl d_Md_write_115 ?_
                refine lv_iload hx hb d_Md_write_118 (lv_at hl 1 rfl) ?_
                refine va_iald hx hb hK hP 21 0 rfl rfl (i := (nI nr)) (vp_in_nI (N := 50) (by omega) (by decide)) d_Md_write_120 ?_
                refine lv_topi (fun x318 e317 => ?_)
                obtain rfl : x318 = nI pn44 := by rw [e317]; rw [nI_clamp (by omega)]; exact pk_us
                refine lv_icmp_ge (tgt := 157) hx hb d_Md_write_121 (by decide) (fun hc319 => ?_) (fun hn9 => absurd (nI_le (by omega) (by omega)) hn9)
                subst hij
                exact exit g36_315 _ _ _  hP hD hS hl
              | succ j8 ih => 
                intro i g36_315 H locs ls hij  hP hD hS hl
                have hlt : i < pn44 := by omega
                have hlti := hlt
                refine lv_iload hx hb d_Md_write_112 (lv_at hl 0 rfl) ?_
                refine lv_aload_n hx hb d_Md_write_114 rfl (lv_at hl 3 rfl) ?_
                refine va_get (D := (dC, dI)) (ci := 12) (v := (.ref (r 35))) (C := R_Md) (T := F_Md) (N := 45) hx hb hg in_Md hown hK hP 23 rfl rfl 35 (by decide) (hg _ k_1055) (fun _ h9 => h9) rfl d_Md_write_115 ?_
                refine lv_iload hx hb d_Md_write_118 (lv_at hl 1 rfl) ?_
                refine va_iald hx hb hK hP 21 0 rfl rfl (i := (nI nr)) (vp_in_nI (N := 50) (by omega) (by decide)) d_Md_write_120 ?_
                refine lv_topi (fun x321 e320 => ?_)
                obtain rfl : x321 = nI pn44 := by rw [e320]; rw [nI_clamp (by omega)]; exact pk_us
                refine lv_icmp_ge (tgt := 157) hx hb d_Md_write_121 (by decide) (fun hn9 => absurd hn9 (nI_ge (by omega) (by omega))) (fun hc322 => ?_)
                refine lv_aload_n hx hb d_Md_write_124 rfl (lv_at hl 3 rfl) ?_
                refine va_get (D := (dC, dI)) (ci := 12) (v := (.ref (r 36))) (C := R_Md) (T := F_Md) (N := 45) hx hb hg in_Md hown hK hP 23 rfl rfl 36 (by decide) (hg _ k_1056) (fun _ h9 => h9) rfl d_Md_write_125 ?_
                refine lv_bipush (v := 16) hx hb d_Md_write_128 (by decide) ?_
                refine lv_iload hx hb d_Md_write_130 (lv_at hl 1 rfl) ?_
                refine lv_imul hx hb d_Md_write_132 ?_
                refine lv_topi (fun x324 e323 => ?_)
                obtain rfl : x324 = nI (16 * nr) := by rw [e323]; exact pk_mul 16 nr
                refine lv_iload hx hb d_Md_write_133 (lv_at hl 0 rfl) ?_
                refine lv_iadd hx hb d_Md_write_135 ?_
                refine lv_topi (fun x326 e325 => ?_)
                obtain rfl : x326 = nI ((16 * nr) + i) := by rw [e325]; exact nI_add (16 * nr) i
                refine lv_aload_n hx hb d_Md_write_136 rfl (lv_at hl 3 rfl) ?_
                refine va_get (D := (dC, dI)) (ci := 12) (v := (.ref (r 7))) (C := R_Md) (T := F_Md) (N := 45) hx hb hg in_Md hown hK hP 23 rfl rfl 7 (by decide) (hg _ k_1027) (fun _ h9 => h9) rfl d_Md_write_137 ?_
                refine lv_aload_n hx hb d_Md_write_140 rfl (lv_at hl 3 rfl) ?_
                refine lv_bipush (v := 44) hx hb d_Md_write_141 (by decide) ?_
                have hPc := hP.sub (ws' := [(mo, .inr (12, mdG r cd tm (nI sn) (nI 0) (nI lz) (nI az) (nI na) (nI nt) (nI nr) mw ml mk dq)), (r 7, .inl ((cT 0), 1000, .inl f7))]) [23, 24] rfl
                have hDc := hD.sub (ws' := [(mo, .inr (12, mdG r cd tm (nI sn) (nI 0) (nI lz) (nI az) (nI na) (nI nt) (nI nr) mw ml mk dq)), (r 7, .inl ((cT 0), 1000, .inl f7))]) [23, 24] (by decide) rfl
                have hFc := va_free (wc := [(mo, .inr (12, mdG r cd tm (nI sn) (nI 0) (nI lz) (nI az) (nI na) (nI nt) (nI nr) mw ml mk dq)), (r 7, .inl ((cT 0), 1000, .inl f7))]) hD hS hA [23, 24] rfl
                refine va_calli (va_runV (C := "DoorServerModel") (As := [.int 44]) (rest := [.ref (r 7), .int (nI ((16 * nr) + i)), .ref (r 36)]) ⟨hx, hb, hml, hown, hg⟩ (m_valueAt l dC dI cT H.size mo r cd tm sn 0 lz az na nt nr mw ml mk dq f7 44 pa44 pn44 (by first | assumption | omega) (by first | assumption | omega) (by first | assumption | omega) (by first | assumption | omega)) (cwV 1 hg (gI (List.forall_mem_append.mpr ⟨List.forall_mem_cons.mpr ⟨k_1309, List.forall_mem_cons.mpr ⟨k_1311, List.forall_mem_cons.mpr ⟨(big_sel (q := y_Md_valueAt) (n := 45) (by decide +kernel)), List.forall_mem_cons.mpr ⟨k_13, fun _ h => absurd h List.not_mem_nil⟩⟩⟩⟩, List.forall_mem_cons.mpr ⟨k_1312, fun _ h => h⟩⟩)) rfl rfl rfl (by decide +kernel) ⟨Nat.le_of_ble_eq_true rfl, Nat.le_of_ble_eq_true rfl⟩) ⟨fun a U g mk q => by obtain ⟨q0, q1, qP, qK, qD⟩ := q; exact ⟨q0, q1, qP, va_K.moved (u := U) (U := U.calling g mk a) (Vm.Alike.refl U.vm) qK, qD⟩, va_recv (q0 := 23) (ci := 12) hK hP rfl rfl, fun U hU hW => ⟨rfl, by rw [hU], by rw [hU]; exact hPc, va_K.moved hW.alike hK, hDc.weaken (fun _ _ _ _ => trivial)⟩⟩ rfl rfl hl.1 rfl (lv_room (Nat.le_of_ble_eq_true rfl)) d_Md_write_143 ⟨Nat.le_of_ble_eq_true rfl, Nat.le_of_ble_eq_true rfl⟩) hS (fun q _ h => hFc q h) hFc (fun rv9 u t H1 locs ht hvm hw hB hz1 hk1 hS => ?_)
                try dsimp only at hw hB
                obtain ⟨hP1, hK1, hD1⟩ := hB
                rw [ht] at hP1
                obtain ⟨rfl, hw⟩ := hw
                obtain ⟨hP, hD⟩ := va_join (wr := [(r 15, .inl ((cT 0), 200, .inl f15)), (r 9, .inl ((cT 0), 1400, .inl f9)), (r 12, .inl ((cT 0), 1200, .inl f12)), (r 3, .inl ((cT 0), 160, .inl f3)), (r 4, .inl ((cT 0), 4, .inl f4)), (r 0, .inl ((cT 1), 64, .inr (.inl f0))), (r 11, .inl ((cT 0), 16, .inl f11)), (r 13, .inl ((cT 0), 200, .inl f13)), (r 18, .inl ((cT 0), 41, .inl f18)), (r 19, .inl ((cT 0), 41, .inl f19)), (r 20, .inl ((cT 0), 41, .inl f20)), (r 21, .inl ((cT 0), 41, .inl f21)), (r 22, .inl ((cT 0), 8200, .inl f22)), (r 23, .inl ((cT 0), 656, .inl f23)), (r 37, .inl ((cT 0), 50, .inl f37)), (r 38, .inl ((cT 0), 50, .inl f38)), (r 39, .inl ((cT 0), 50, .inl f39)), (r 40, .inl ((cT 0), 50, .inl f40)), (r 41, .inl ((cT 1), 50, .inr (.inl f41))), (r 42, .inl ((cT 1), 50, .inr (.inl f42))), (r 34, .inl ((cT 0), 50, .inl (upd f34 nr (nI st)))), (r 35, .inl ((cT 0), 50, .inl (upd f35 nr (nI pn44)))), (r 36, .inl ((cT 0), 800, .inl g36_315))]) (w1 := [(mo, .inr (12, mdG r cd tm (nI sn) (nI 0) (nI lz) (nI az) (nI na) (nI nt) (nI nr) mw ml mk dq)), (r 7, .inl ((cT 0), 1000, .inl f7))]) hP hD [23, 24] [0, 1, 2, 3, 4, 5, 6, 7, 8, 9, 10, 11, 12, 13, 14, 15, 16, 17, 18, 19, 20, 21, 22] rfl rfl (by decide) (by decide) hk1 hFc hP1 hD1
                have hw327 := hw
                clear hPc hDc hFc hz1 hk1 hP1 hK1 hD1
                generalize H1 = H at hP hS ⊢
                have hP : va_P (dC, dI) vcl [(r 15, .inl ((cT 0), 200, .inl f15)), (r 9, .inl ((cT 0), 1400, .inl f9)), (r 12, .inl ((cT 0), 1200, .inl f12)), (r 3, .inl ((cT 0), 160, .inl f3)), (r 4, .inl ((cT 0), 4, .inl f4)), (r 0, .inl ((cT 1), 64, .inr (.inl f0))), (r 11, .inl ((cT 0), 16, .inl f11)), (r 13, .inl ((cT 0), 200, .inl f13)), (r 18, .inl ((cT 0), 41, .inl f18)), (r 19, .inl ((cT 0), 41, .inl f19)), (r 20, .inl ((cT 0), 41, .inl f20)), (r 21, .inl ((cT 0), 41, .inl f21)), (r 22, .inl ((cT 0), 8200, .inl f22)), (r 23, .inl ((cT 0), 656, .inl f23)), (r 37, .inl ((cT 0), 50, .inl f37)), (r 38, .inl ((cT 0), 50, .inl f38)), (r 39, .inl ((cT 0), 50, .inl f39)), (r 40, .inl ((cT 0), 50, .inl f40)), (r 41, .inl ((cT 1), 50, .inr (.inl f41))), (r 42, .inl ((cT 1), 50, .inr (.inl f42))), (r 34, .inl ((cT 0), 50, .inl (upd f34 nr (nI st)))), (r 35, .inl ((cT 0), 50, .inl (upd f35 nr (nI pn44)))), (r 36, .inl ((cT 0), 800, .inl g36_315)), (mo, .inr (12, mdG r cd tm (nI sn) (nI 0) (nI lz) (nI az) (nI na) (nI nt) (nI nr) mw ml mk dq)), (r 7, .inl ((cT 0), 1000, .inl f7))] H := hP
                have hD : va_D A [(r 15, .inl ((cT 0), 200, .inl f15)), (r 9, .inl ((cT 0), 1400, .inl f9)), (r 12, .inl ((cT 0), 1200, .inl f12)), (r 3, .inl ((cT 0), 160, .inl f3)), (r 4, .inl ((cT 0), 4, .inl f4)), (r 0, .inl ((cT 1), 64, .inr (.inl f0))), (r 11, .inl ((cT 0), 16, .inl f11)), (r 13, .inl ((cT 0), 200, .inl f13)), (r 18, .inl ((cT 0), 41, .inl f18)), (r 19, .inl ((cT 0), 41, .inl f19)), (r 20, .inl ((cT 0), 41, .inl f20)), (r 21, .inl ((cT 0), 41, .inl f21)), (r 22, .inl ((cT 0), 8200, .inl f22)), (r 23, .inl ((cT 0), 656, .inl f23)), (r 37, .inl ((cT 0), 50, .inl f37)), (r 38, .inl ((cT 0), 50, .inl f38)), (r 39, .inl ((cT 0), 50, .inl f39)), (r 40, .inl ((cT 0), 50, .inl f40)), (r 41, .inl ((cT 1), 50, .inr (.inl f41))), (r 42, .inl ((cT 1), 50, .inr (.inl f42))), (r 34, .inl ((cT 0), 50, .inl (upd f34 nr (nI st)))), (r 35, .inl ((cT 0), 50, .inl (upd f35 nr (nI pn44)))), (r 36, .inl ((cT 0), 800, .inl g36_315)), (mo, .inr (12, mdG r cd tm (nI sn) (nI 0) (nI lz) (nI az) (nI na) (nI nt) (nI nr) mw ml mk dq)), (r 7, .inl ((cT 0), 1000, .inl f7))] := hD
                refine lv_iload hx hb d_Md_write_146 (lv_at hl 0 rfl) ?_
                refine lv_iadd hx hb d_Md_write_148 ?_
                refine lv_topi (fun x329 e328 => ?_)
                obtain rfl : x329 = nI (pa44 + 2 + i) := by rw [e328]; exact nI_add (pa44 + 2) i
                refine va_iald hx hb hK hP 24 0 rfl rfl (i := (nI (pa44 + 2 + i))) (vp_in_nI (N := 1000) (by omega) (by decide)) d_Md_write_149 ?_
                refine lv_topi (fun x330 e_x330 => ?_)
                clear e_x330
                refine va_iast hx hb hK hP hD hS 22 0 rfl rfl (i := (nI ((16 * nr) + i))) (vp_in_nI (n := (16 * nr) + i) (N := 800) (by omega) (by decide)) d_Md_write_150 (fun H locs hP hD hS => ?_)
                have ef331 : upd g36_315 (nI ((16 * nr) + i)).toNatClampNeg x330 = upd g36_315 ((16 * nr) + i) x330 := by rw [show (nI ((16 * nr) + i)).toNatClampNeg = (16 * nr) + i from nI_clamp (by omega)]
                rw [ef331] at hP hD
                have hP : va_P (dC, dI) vcl [(r 15, .inl ((cT 0), 200, .inl f15)), (r 9, .inl ((cT 0), 1400, .inl f9)), (r 12, .inl ((cT 0), 1200, .inl f12)), (r 3, .inl ((cT 0), 160, .inl f3)), (r 4, .inl ((cT 0), 4, .inl f4)), (r 0, .inl ((cT 1), 64, .inr (.inl f0))), (r 11, .inl ((cT 0), 16, .inl f11)), (r 13, .inl ((cT 0), 200, .inl f13)), (r 18, .inl ((cT 0), 41, .inl f18)), (r 19, .inl ((cT 0), 41, .inl f19)), (r 20, .inl ((cT 0), 41, .inl f20)), (r 21, .inl ((cT 0), 41, .inl f21)), (r 22, .inl ((cT 0), 8200, .inl f22)), (r 23, .inl ((cT 0), 656, .inl f23)), (r 37, .inl ((cT 0), 50, .inl f37)), (r 38, .inl ((cT 0), 50, .inl f38)), (r 39, .inl ((cT 0), 50, .inl f39)), (r 40, .inl ((cT 0), 50, .inl f40)), (r 41, .inl ((cT 1), 50, .inr (.inl f41))), (r 42, .inl ((cT 1), 50, .inr (.inl f42))), (r 34, .inl ((cT 0), 50, .inl (upd f34 nr (nI st)))), (r 35, .inl ((cT 0), 50, .inl (upd f35 nr (nI pn44)))), (r 36, .inl ((cT 0), 800, .inl (upd g36_315 ((16 * nr) + i) x330))), (mo, .inr (12, mdG r cd tm (nI sn) (nI 0) (nI lz) (nI az) (nI na) (nI nt) (nI nr) mw ml mk dq)), (r 7, .inl ((cT 0), 1000, .inl f7))] H := hP
                have hD : va_D A [(r 15, .inl ((cT 0), 200, .inl f15)), (r 9, .inl ((cT 0), 1400, .inl f9)), (r 12, .inl ((cT 0), 1200, .inl f12)), (r 3, .inl ((cT 0), 160, .inl f3)), (r 4, .inl ((cT 0), 4, .inl f4)), (r 0, .inl ((cT 1), 64, .inr (.inl f0))), (r 11, .inl ((cT 0), 16, .inl f11)), (r 13, .inl ((cT 0), 200, .inl f13)), (r 18, .inl ((cT 0), 41, .inl f18)), (r 19, .inl ((cT 0), 41, .inl f19)), (r 20, .inl ((cT 0), 41, .inl f20)), (r 21, .inl ((cT 0), 41, .inl f21)), (r 22, .inl ((cT 0), 8200, .inl f22)), (r 23, .inl ((cT 0), 656, .inl f23)), (r 37, .inl ((cT 0), 50, .inl f37)), (r 38, .inl ((cT 0), 50, .inl f38)), (r 39, .inl ((cT 0), 50, .inl f39)), (r 40, .inl ((cT 0), 50, .inl f40)), (r 41, .inl ((cT 1), 50, .inr (.inl f41))), (r 42, .inl ((cT 1), 50, .inr (.inl f42))), (r 34, .inl ((cT 0), 50, .inl (upd f34 nr (nI st)))), (r 35, .inl ((cT 0), 50, .inl (upd f35 nr (nI pn44)))), (r 36, .inl ((cT 0), 800, .inl (upd g36_315 ((16 * nr) + i) x330))), (mo, .inr (12, mdG r cd tm (nI sn) (nI 0) (nI lz) (nI az) (nI na) (nI nt) (nI nr) mw ml mk dq)), (r 7, .inl ((cT 0), 1000, .inl f7))] := hD
                refine lv_iinc (k := 0) (v := nI (i + 1)) (lv' := [(6, .int (nI (i + 1))), (4, .int (nI nr)), (5, .int 1), (0, .ref mo), (1, .int (nI st)), (2, .long r193)]) hx hb d_Md_write_151 hl rfl (nI_1 i) (by decide) rfl (fun ls hl => ?_)
                refine lv_goto (tgt := 112) hx hb d_Md_write_154 (by decide) ?_
                have hl := lv_sub hl [0, 1, 2, 3, 4, 5] (show _ = [(6, .int (nI (i + 1))), (4, .int (nI nr)), (5, .int 1), (0, .ref mo), (1, .int (nI st)), (2, .long r193)] from rfl)
                exact ih (i + 1) _ _ _ _ (by omega)  hP hD hS hl
            refine L316 _ (fun g36_315 H locs ls  hP hD hS hl => ?_) (pn44 - 0) 0 f36 H _ ls (by omega)  hP hD hS hl
            refine lv_aload_n hx hb d_Md_write_157 rfl (lv_at hl 3 rfl) ?_
            refine va_get (D := (dC, dI)) (ci := 12) (v := (.ref (r 37))) (C := R_Md) (T := F_Md) (N := 45) hx hb hg in_Md hown hK hP 23 rfl rfl 37 (by decide) (hg _ k_1057) (fun _ h9 => h9) rfl d_Md_write_158 ?_
            refine lv_iload hx hb d_Md_write_161 (lv_at hl 1 rfl) ?_
            refine lv_aload_n hx hb d_Md_write_163 rfl (lv_at hl 3 rfl) ?_
            refine va_get (D := (dC, dI)) (ci := 12) (v := (.ref (r 7))) (C := R_Md) (T := F_Md) (N := 45) hx hb hg in_Md hown hK hP 23 rfl rfl 7 (by decide) (hg _ k_1027) (fun _ h9 => h9) rfl d_Md_write_164 ?_
            refine lv_aload_n hx hb d_Md_write_167 rfl (lv_at hl 3 rfl) ?_
            refine lv_iconst (v := 1) hx hb d_Md_write_168 (by decide) ?_
            have hPc := hP.sub (ws' := [(mo, .inr (12, mdG r cd tm (nI sn) (nI 0) (nI lz) (nI az) (nI na) (nI nt) (nI nr) mw ml mk dq)), (r 7, .inl ((cT 0), 1000, .inl f7))]) [23, 24] rfl
            have hDc := hD.sub (ws' := [(mo, .inr (12, mdG r cd tm (nI sn) (nI 0) (nI lz) (nI az) (nI na) (nI nt) (nI nr) mw ml mk dq)), (r 7, .inl ((cT 0), 1000, .inl f7))]) [23, 24] (by decide) rfl
            have hFc := va_free (wc := [(mo, .inr (12, mdG r cd tm (nI sn) (nI 0) (nI lz) (nI az) (nI na) (nI nt) (nI nr) mw ml mk dq)), (r 7, .inl ((cT 0), 1000, .inl f7))]) hD hS hA [23, 24] rfl
            refine va_calli (va_runV (C := "DoorServerModel") (As := [.int 1]) (rest := [.ref (r 7), .int (nI nr), .ref (r 37)]) ⟨hx, hb, hml, hown, hg⟩ (m_valueAt l dC dI cT H.size mo r cd tm sn 0 lz az na nt nr mw ml mk dq f7 1 pa1 pn1 (by first | assumption | omega) (by first | assumption | omega) (by first | assumption | omega) (by first | assumption | omega)) (cwV 1 hg (gI (List.forall_mem_append.mpr ⟨List.forall_mem_cons.mpr ⟨k_1309, List.forall_mem_cons.mpr ⟨k_1311, List.forall_mem_cons.mpr ⟨(big_sel (q := y_Md_valueAt) (n := 45) (by decide +kernel)), List.forall_mem_cons.mpr ⟨k_13, fun _ h => absurd h List.not_mem_nil⟩⟩⟩⟩, List.forall_mem_cons.mpr ⟨k_1312, fun _ h => h⟩⟩)) rfl rfl rfl (by decide +kernel) ⟨Nat.le_of_ble_eq_true rfl, Nat.le_of_ble_eq_true rfl⟩) ⟨fun a U g mk q => by obtain ⟨q0, q1, qP, qK, qD⟩ := q; exact ⟨q0, q1, qP, va_K.moved (u := U) (U := U.calling g mk a) (Vm.Alike.refl U.vm) qK, qD⟩, va_recv (q0 := 23) (ci := 12) hK hP rfl rfl, fun U hU hW => ⟨rfl, by rw [hU], by rw [hU]; exact hPc, va_K.moved hW.alike hK, hDc.weaken (fun _ _ _ _ => trivial)⟩⟩ rfl rfl hl.1 rfl (lv_room (Nat.le_of_ble_eq_true rfl)) d_Md_write_169 ⟨Nat.le_of_ble_eq_true rfl, Nat.le_of_ble_eq_true rfl⟩) hS (fun q _ h => hFc q h) hFc (fun rv9 u t H1 locs ht hvm hw hB hz1 hk1 hS => ?_)
            try dsimp only at hw hB
            obtain ⟨hP1, hK1, hD1⟩ := hB
            rw [ht] at hP1
            obtain ⟨rfl, hw⟩ := hw
            obtain ⟨hP, hD⟩ := va_join (wr := [(r 15, .inl ((cT 0), 200, .inl f15)), (r 9, .inl ((cT 0), 1400, .inl f9)), (r 12, .inl ((cT 0), 1200, .inl f12)), (r 3, .inl ((cT 0), 160, .inl f3)), (r 4, .inl ((cT 0), 4, .inl f4)), (r 0, .inl ((cT 1), 64, .inr (.inl f0))), (r 11, .inl ((cT 0), 16, .inl f11)), (r 13, .inl ((cT 0), 200, .inl f13)), (r 18, .inl ((cT 0), 41, .inl f18)), (r 19, .inl ((cT 0), 41, .inl f19)), (r 20, .inl ((cT 0), 41, .inl f20)), (r 21, .inl ((cT 0), 41, .inl f21)), (r 22, .inl ((cT 0), 8200, .inl f22)), (r 23, .inl ((cT 0), 656, .inl f23)), (r 37, .inl ((cT 0), 50, .inl f37)), (r 38, .inl ((cT 0), 50, .inl f38)), (r 39, .inl ((cT 0), 50, .inl f39)), (r 40, .inl ((cT 0), 50, .inl f40)), (r 41, .inl ((cT 1), 50, .inr (.inl f41))), (r 42, .inl ((cT 1), 50, .inr (.inl f42))), (r 34, .inl ((cT 0), 50, .inl (upd f34 nr (nI st)))), (r 35, .inl ((cT 0), 50, .inl (upd f35 nr (nI pn44)))), (r 36, .inl ((cT 0), 800, .inl g36_315))]) (w1 := [(mo, .inr (12, mdG r cd tm (nI sn) (nI 0) (nI lz) (nI az) (nI na) (nI nt) (nI nr) mw ml mk dq)), (r 7, .inl ((cT 0), 1000, .inl f7))]) hP hD [23, 24] [0, 1, 2, 3, 4, 5, 6, 7, 8, 9, 10, 11, 12, 13, 14, 15, 16, 17, 18, 19, 20, 21, 22] rfl rfl (by decide) (by decide) hk1 hFc hP1 hD1
            have hw332 := hw
            clear hPc hDc hFc hz1 hk1 hP1 hK1 hD1
            generalize H1 = H at hP hS ⊢
            have hP : va_P (dC, dI) vcl [(r 15, .inl ((cT 0), 200, .inl f15)), (r 9, .inl ((cT 0), 1400, .inl f9)), (r 12, .inl ((cT 0), 1200, .inl f12)), (r 3, .inl ((cT 0), 160, .inl f3)), (r 4, .inl ((cT 0), 4, .inl f4)), (r 0, .inl ((cT 1), 64, .inr (.inl f0))), (r 11, .inl ((cT 0), 16, .inl f11)), (r 13, .inl ((cT 0), 200, .inl f13)), (r 18, .inl ((cT 0), 41, .inl f18)), (r 19, .inl ((cT 0), 41, .inl f19)), (r 20, .inl ((cT 0), 41, .inl f20)), (r 21, .inl ((cT 0), 41, .inl f21)), (r 22, .inl ((cT 0), 8200, .inl f22)), (r 23, .inl ((cT 0), 656, .inl f23)), (r 37, .inl ((cT 0), 50, .inl f37)), (r 38, .inl ((cT 0), 50, .inl f38)), (r 39, .inl ((cT 0), 50, .inl f39)), (r 40, .inl ((cT 0), 50, .inl f40)), (r 41, .inl ((cT 1), 50, .inr (.inl f41))), (r 42, .inl ((cT 1), 50, .inr (.inl f42))), (r 34, .inl ((cT 0), 50, .inl (upd f34 nr (nI st)))), (r 35, .inl ((cT 0), 50, .inl (upd f35 nr (nI pn44)))), (r 36, .inl ((cT 0), 800, .inl g36_315)), (mo, .inr (12, mdG r cd tm (nI sn) (nI 0) (nI lz) (nI az) (nI na) (nI nt) (nI nr) mw ml mk dq)), (r 7, .inl ((cT 0), 1000, .inl f7))] H := hP
            have hD : va_D A [(r 15, .inl ((cT 0), 200, .inl f15)), (r 9, .inl ((cT 0), 1400, .inl f9)), (r 12, .inl ((cT 0), 1200, .inl f12)), (r 3, .inl ((cT 0), 160, .inl f3)), (r 4, .inl ((cT 0), 4, .inl f4)), (r 0, .inl ((cT 1), 64, .inr (.inl f0))), (r 11, .inl ((cT 0), 16, .inl f11)), (r 13, .inl ((cT 0), 200, .inl f13)), (r 18, .inl ((cT 0), 41, .inl f18)), (r 19, .inl ((cT 0), 41, .inl f19)), (r 20, .inl ((cT 0), 41, .inl f20)), (r 21, .inl ((cT 0), 41, .inl f21)), (r 22, .inl ((cT 0), 8200, .inl f22)), (r 23, .inl ((cT 0), 656, .inl f23)), (r 37, .inl ((cT 0), 50, .inl f37)), (r 38, .inl ((cT 0), 50, .inl f38)), (r 39, .inl ((cT 0), 50, .inl f39)), (r 40, .inl ((cT 0), 50, .inl f40)), (r 41, .inl ((cT 1), 50, .inr (.inl f41))), (r 42, .inl ((cT 1), 50, .inr (.inl f42))), (r 34, .inl ((cT 0), 50, .inl (upd f34 nr (nI st)))), (r 35, .inl ((cT 0), 50, .inl (upd f35 nr (nI pn44)))), (r 36, .inl ((cT 0), 800, .inl g36_315)), (mo, .inr (12, mdG r cd tm (nI sn) (nI 0) (nI lz) (nI az) (nI na) (nI nt) (nI nr) mw ml mk dq)), (r 7, .inl ((cT 0), 1000, .inl f7))] := hD
            refine lv_aload_n hx hb d_Md_write_172 rfl (lv_at hl 3 rfl) ?_
            refine lv_iconst (v := 1) hx hb d_Md_write_173 (by decide) ?_
            have hPc := hP.sub (ws' := [(mo, .inr (12, mdG r cd tm (nI sn) (nI 0) (nI lz) (nI az) (nI na) (nI nt) (nI nr) mw ml mk dq)), (r 7, .inl ((cT 0), 1000, .inl f7))]) [23, 24] rfl
            have hDc := hD.sub (ws' := [(mo, .inr (12, mdG r cd tm (nI sn) (nI 0) (nI lz) (nI az) (nI na) (nI nt) (nI nr) mw ml mk dq)), (r 7, .inl ((cT 0), 1000, .inl f7))]) [23, 24] (by decide) rfl
            have hFc := va_free (wc := [(mo, .inr (12, mdG r cd tm (nI sn) (nI 0) (nI lz) (nI az) (nI na) (nI nt) (nI nr) mw ml mk dq)), (r 7, .inl ((cT 0), 1000, .inl f7))]) hD hS hA [23, 24] rfl
            refine va_calli (va_runV (C := "DoorServerModel") (As := [.int 1]) (rest := [.int (nI (pa1 + 2)), .ref (r 7), .int (nI nr), .ref (r 37)]) ⟨hx, hb, hml, hown, hg⟩ (m_sizeOf l dC dI cT H.size mo r cd tm sn 0 lz az na nt nr mw ml mk dq f7 1 pa1 pn1 (by first | assumption | omega) (by first | assumption | omega) (by first | assumption | omega) (by first | assumption | omega)) (cwV 1 hg (gI (List.forall_mem_append.mpr ⟨List.forall_mem_cons.mpr ⟨k_1329, List.forall_mem_cons.mpr ⟨k_1331, List.forall_mem_cons.mpr ⟨(big_sel (q := y_Md_sizeOf) (n := 45) (by decide +kernel)), List.forall_mem_cons.mpr ⟨k_13, fun _ h => absurd h List.not_mem_nil⟩⟩⟩⟩, List.forall_mem_cons.mpr ⟨k_1332, fun _ h => h⟩⟩)) rfl rfl rfl (by decide +kernel) ⟨Nat.le_of_ble_eq_true rfl, Nat.le_of_ble_eq_true rfl⟩) ⟨fun a U g mk q => by obtain ⟨q0, q1, qP, qK, qD⟩ := q; exact ⟨q0, q1, qP, va_K.moved (u := U) (U := U.calling g mk a) (Vm.Alike.refl U.vm) qK, qD⟩, va_recv (q0 := 23) (ci := 12) hK hP rfl rfl, fun U hU hW => ⟨rfl, by rw [hU], by rw [hU]; exact hPc, va_K.moved hW.alike hK, hDc.weaken (fun _ _ _ _ => trivial)⟩⟩ rfl rfl hl.1 rfl (lv_room (Nat.le_of_ble_eq_true rfl)) d_Md_write_174 ⟨Nat.le_of_ble_eq_true rfl, Nat.le_of_ble_eq_true rfl⟩) hS (fun q _ h => hFc q h) hFc (fun rv9 u t H1 locs ht hvm hw hB hz1 hk1 hS => ?_)
            try dsimp only at hw hB
            obtain ⟨hP1, hK1, hD1⟩ := hB
            rw [ht] at hP1
            obtain ⟨rfl, hw⟩ := hw
            obtain ⟨hP, hD⟩ := va_join (wr := [(r 15, .inl ((cT 0), 200, .inl f15)), (r 9, .inl ((cT 0), 1400, .inl f9)), (r 12, .inl ((cT 0), 1200, .inl f12)), (r 3, .inl ((cT 0), 160, .inl f3)), (r 4, .inl ((cT 0), 4, .inl f4)), (r 0, .inl ((cT 1), 64, .inr (.inl f0))), (r 11, .inl ((cT 0), 16, .inl f11)), (r 13, .inl ((cT 0), 200, .inl f13)), (r 18, .inl ((cT 0), 41, .inl f18)), (r 19, .inl ((cT 0), 41, .inl f19)), (r 20, .inl ((cT 0), 41, .inl f20)), (r 21, .inl ((cT 0), 41, .inl f21)), (r 22, .inl ((cT 0), 8200, .inl f22)), (r 23, .inl ((cT 0), 656, .inl f23)), (r 37, .inl ((cT 0), 50, .inl f37)), (r 38, .inl ((cT 0), 50, .inl f38)), (r 39, .inl ((cT 0), 50, .inl f39)), (r 40, .inl ((cT 0), 50, .inl f40)), (r 41, .inl ((cT 1), 50, .inr (.inl f41))), (r 42, .inl ((cT 1), 50, .inr (.inl f42))), (r 34, .inl ((cT 0), 50, .inl (upd f34 nr (nI st)))), (r 35, .inl ((cT 0), 50, .inl (upd f35 nr (nI pn44)))), (r 36, .inl ((cT 0), 800, .inl g36_315))]) (w1 := [(mo, .inr (12, mdG r cd tm (nI sn) (nI 0) (nI lz) (nI az) (nI na) (nI nt) (nI nr) mw ml mk dq)), (r 7, .inl ((cT 0), 1000, .inl f7))]) hP hD [23, 24] [0, 1, 2, 3, 4, 5, 6, 7, 8, 9, 10, 11, 12, 13, 14, 15, 16, 17, 18, 19, 20, 21, 22] rfl rfl (by decide) (by decide) hk1 hFc hP1 hD1
            have hw333 := hw
            clear hPc hDc hFc hz1 hk1 hP1 hK1 hD1
            generalize H1 = H at hP hS ⊢
            have hP : va_P (dC, dI) vcl [(r 15, .inl ((cT 0), 200, .inl f15)), (r 9, .inl ((cT 0), 1400, .inl f9)), (r 12, .inl ((cT 0), 1200, .inl f12)), (r 3, .inl ((cT 0), 160, .inl f3)), (r 4, .inl ((cT 0), 4, .inl f4)), (r 0, .inl ((cT 1), 64, .inr (.inl f0))), (r 11, .inl ((cT 0), 16, .inl f11)), (r 13, .inl ((cT 0), 200, .inl f13)), (r 18, .inl ((cT 0), 41, .inl f18)), (r 19, .inl ((cT 0), 41, .inl f19)), (r 20, .inl ((cT 0), 41, .inl f20)), (r 21, .inl ((cT 0), 41, .inl f21)), (r 22, .inl ((cT 0), 8200, .inl f22)), (r 23, .inl ((cT 0), 656, .inl f23)), (r 37, .inl ((cT 0), 50, .inl f37)), (r 38, .inl ((cT 0), 50, .inl f38)), (r 39, .inl ((cT 0), 50, .inl f39)), (r 40, .inl ((cT 0), 50, .inl f40)), (r 41, .inl ((cT 1), 50, .inr (.inl f41))), (r 42, .inl ((cT 1), 50, .inr (.inl f42))), (r 34, .inl ((cT 0), 50, .inl (upd f34 nr (nI st)))), (r 35, .inl ((cT 0), 50, .inl (upd f35 nr (nI pn44)))), (r 36, .inl ((cT 0), 800, .inl g36_315)), (mo, .inr (12, mdG r cd tm (nI sn) (nI 0) (nI lz) (nI az) (nI na) (nI nt) (nI nr) mw ml mk dq)), (r 7, .inl ((cT 0), 1000, .inl f7))] H := hP
            have hD : va_D A [(r 15, .inl ((cT 0), 200, .inl f15)), (r 9, .inl ((cT 0), 1400, .inl f9)), (r 12, .inl ((cT 0), 1200, .inl f12)), (r 3, .inl ((cT 0), 160, .inl f3)), (r 4, .inl ((cT 0), 4, .inl f4)), (r 0, .inl ((cT 1), 64, .inr (.inl f0))), (r 11, .inl ((cT 0), 16, .inl f11)), (r 13, .inl ((cT 0), 200, .inl f13)), (r 18, .inl ((cT 0), 41, .inl f18)), (r 19, .inl ((cT 0), 41, .inl f19)), (r 20, .inl ((cT 0), 41, .inl f20)), (r 21, .inl ((cT 0), 41, .inl f21)), (r 22, .inl ((cT 0), 8200, .inl f22)), (r 23, .inl ((cT 0), 656, .inl f23)), (r 37, .inl ((cT 0), 50, .inl f37)), (r 38, .inl ((cT 0), 50, .inl f38)), (r 39, .inl ((cT 0), 50, .inl f39)), (r 40, .inl ((cT 0), 50, .inl f40)), (r 41, .inl ((cT 1), 50, .inr (.inl f41))), (r 42, .inl ((cT 1), 50, .inr (.inl f42))), (r 34, .inl ((cT 0), 50, .inl (upd f34 nr (nI st)))), (r 35, .inl ((cT 0), 50, .inl (upd f35 nr (nI pn44)))), (r 36, .inl ((cT 0), 800, .inl g36_315)), (mo, .inr (12, mdG r cd tm (nI sn) (nI 0) (nI lz) (nI az) (nI na) (nI nt) (nI nr) mw ml mk dq)), (r 7, .inl ((cT 0), 1000, .inl f7))] := hD
            refine lv_iadd hx hb d_Md_write_177 ?_
            refine lv_topi (fun x335 e334 => ?_)
            obtain rfl : x335 = nI (pa1 + 2 + pn1) := by rw [e334]; exact nI_add (pa1 + 2) pn1
            refine lv_iconst (v := 1) hx hb d_Md_write_178 (by decide) ?_
            refine lv_isub hx hb d_Md_write_179 ?_
            refine lv_topi (fun x337 e336 => ?_)
            obtain rfl : x337 = nI ((pa1 + 2 + pn1) - 1) := by rw [e336]; exact pk_sub (a := pa1 + 2 + pn1) (b := 1) (by omega)
            refine va_iald hx hb hK hP 24 0 rfl rfl (i := (nI ((pa1 + 2 + pn1) - 1))) (vp_in_nI (N := 1000) (by omega) (by decide)) d_Md_write_180 ?_
            refine lv_topi (fun x338 e_x338 => ?_)
            clear e_x338
            refine va_iast hx hb hK hP hD hS 14 0 rfl rfl (i := (nI nr)) (vp_in_nI (n := nr) (N := 50) (by omega) (by decide)) d_Md_write_181 (fun H locs hP hD hS => ?_)
            have ef339 : upd f37 (nI nr).toNatClampNeg x338 = upd f37 nr x338 := by rw [show (nI nr).toNatClampNeg = nr from nI_clamp (by omega)]
            rw [ef339] at hP hD
            have hP : va_P (dC, dI) vcl [(r 15, .inl ((cT 0), 200, .inl f15)), (r 9, .inl ((cT 0), 1400, .inl f9)), (r 12, .inl ((cT 0), 1200, .inl f12)), (r 3, .inl ((cT 0), 160, .inl f3)), (r 4, .inl ((cT 0), 4, .inl f4)), (r 0, .inl ((cT 1), 64, .inr (.inl f0))), (r 11, .inl ((cT 0), 16, .inl f11)), (r 13, .inl ((cT 0), 200, .inl f13)), (r 18, .inl ((cT 0), 41, .inl f18)), (r 19, .inl ((cT 0), 41, .inl f19)), (r 20, .inl ((cT 0), 41, .inl f20)), (r 21, .inl ((cT 0), 41, .inl f21)), (r 22, .inl ((cT 0), 8200, .inl f22)), (r 23, .inl ((cT 0), 656, .inl f23)), (r 37, .inl ((cT 0), 50, .inl (upd f37 nr x338))), (r 38, .inl ((cT 0), 50, .inl f38)), (r 39, .inl ((cT 0), 50, .inl f39)), (r 40, .inl ((cT 0), 50, .inl f40)), (r 41, .inl ((cT 1), 50, .inr (.inl f41))), (r 42, .inl ((cT 1), 50, .inr (.inl f42))), (r 34, .inl ((cT 0), 50, .inl (upd f34 nr (nI st)))), (r 35, .inl ((cT 0), 50, .inl (upd f35 nr (nI pn44)))), (r 36, .inl ((cT 0), 800, .inl g36_315)), (mo, .inr (12, mdG r cd tm (nI sn) (nI 0) (nI lz) (nI az) (nI na) (nI nt) (nI nr) mw ml mk dq)), (r 7, .inl ((cT 0), 1000, .inl f7))] H := hP
            have hD : va_D A [(r 15, .inl ((cT 0), 200, .inl f15)), (r 9, .inl ((cT 0), 1400, .inl f9)), (r 12, .inl ((cT 0), 1200, .inl f12)), (r 3, .inl ((cT 0), 160, .inl f3)), (r 4, .inl ((cT 0), 4, .inl f4)), (r 0, .inl ((cT 1), 64, .inr (.inl f0))), (r 11, .inl ((cT 0), 16, .inl f11)), (r 13, .inl ((cT 0), 200, .inl f13)), (r 18, .inl ((cT 0), 41, .inl f18)), (r 19, .inl ((cT 0), 41, .inl f19)), (r 20, .inl ((cT 0), 41, .inl f20)), (r 21, .inl ((cT 0), 41, .inl f21)), (r 22, .inl ((cT 0), 8200, .inl f22)), (r 23, .inl ((cT 0), 656, .inl f23)), (r 37, .inl ((cT 0), 50, .inl (upd f37 nr x338))), (r 38, .inl ((cT 0), 50, .inl f38)), (r 39, .inl ((cT 0), 50, .inl f39)), (r 40, .inl ((cT 0), 50, .inl f40)), (r 41, .inl ((cT 1), 50, .inr (.inl f41))), (r 42, .inl ((cT 1), 50, .inr (.inl f42))), (r 34, .inl ((cT 0), 50, .inl (upd f34 nr (nI st)))), (r 35, .inl ((cT 0), 50, .inl (upd f35 nr (nI pn44)))), (r 36, .inl ((cT 0), 800, .inl g36_315)), (mo, .inr (12, mdG r cd tm (nI sn) (nI 0) (nI lz) (nI az) (nI na) (nI nt) (nI nr) mw ml mk dq)), (r 7, .inl ((cT 0), 1000, .inl f7))] := hD
            refine lv_aload_n hx hb d_Md_write_182 rfl (lv_at hl 3 rfl) ?_
            refine va_get (D := (dC, dI)) (ci := 12) (v := (.ref (r 38))) (C := R_Md) (T := F_Md) (N := 45) hx hb hg in_Md hown hK hP 23 rfl rfl 38 (by decide) (hg _ k_1058) (fun _ h9 => h9) rfl d_Md_write_183 ?_
            refine lv_iload hx hb d_Md_write_186 (lv_at hl 1 rfl) ?_
            refine lv_iconst (v := 0) hx hb d_Md_write_188 (by decide) ?_
            refine va_iast hx hb hK hP hD hS 15 0 rfl rfl (i := (nI nr)) (vp_in_nI (n := nr) (N := 50) (by omega) (by decide)) d_Md_write_189 (fun H locs hP hD hS => ?_)
            have ef340 : upd f38 (nI nr).toNatClampNeg 0 = upd f38 nr 0 := by rw [show (nI nr).toNatClampNeg = nr from nI_clamp (by omega)]
            rw [ef340] at hP hD
            have hP : va_P (dC, dI) vcl [(r 15, .inl ((cT 0), 200, .inl f15)), (r 9, .inl ((cT 0), 1400, .inl f9)), (r 12, .inl ((cT 0), 1200, .inl f12)), (r 3, .inl ((cT 0), 160, .inl f3)), (r 4, .inl ((cT 0), 4, .inl f4)), (r 0, .inl ((cT 1), 64, .inr (.inl f0))), (r 11, .inl ((cT 0), 16, .inl f11)), (r 13, .inl ((cT 0), 200, .inl f13)), (r 18, .inl ((cT 0), 41, .inl f18)), (r 19, .inl ((cT 0), 41, .inl f19)), (r 20, .inl ((cT 0), 41, .inl f20)), (r 21, .inl ((cT 0), 41, .inl f21)), (r 22, .inl ((cT 0), 8200, .inl f22)), (r 23, .inl ((cT 0), 656, .inl f23)), (r 37, .inl ((cT 0), 50, .inl (upd f37 nr x338))), (r 38, .inl ((cT 0), 50, .inl (upd f38 nr 0))), (r 39, .inl ((cT 0), 50, .inl f39)), (r 40, .inl ((cT 0), 50, .inl f40)), (r 41, .inl ((cT 1), 50, .inr (.inl f41))), (r 42, .inl ((cT 1), 50, .inr (.inl f42))), (r 34, .inl ((cT 0), 50, .inl (upd f34 nr (nI st)))), (r 35, .inl ((cT 0), 50, .inl (upd f35 nr (nI pn44)))), (r 36, .inl ((cT 0), 800, .inl g36_315)), (mo, .inr (12, mdG r cd tm (nI sn) (nI 0) (nI lz) (nI az) (nI na) (nI nt) (nI nr) mw ml mk dq)), (r 7, .inl ((cT 0), 1000, .inl f7))] H := hP
            have hD : va_D A [(r 15, .inl ((cT 0), 200, .inl f15)), (r 9, .inl ((cT 0), 1400, .inl f9)), (r 12, .inl ((cT 0), 1200, .inl f12)), (r 3, .inl ((cT 0), 160, .inl f3)), (r 4, .inl ((cT 0), 4, .inl f4)), (r 0, .inl ((cT 1), 64, .inr (.inl f0))), (r 11, .inl ((cT 0), 16, .inl f11)), (r 13, .inl ((cT 0), 200, .inl f13)), (r 18, .inl ((cT 0), 41, .inl f18)), (r 19, .inl ((cT 0), 41, .inl f19)), (r 20, .inl ((cT 0), 41, .inl f20)), (r 21, .inl ((cT 0), 41, .inl f21)), (r 22, .inl ((cT 0), 8200, .inl f22)), (r 23, .inl ((cT 0), 656, .inl f23)), (r 37, .inl ((cT 0), 50, .inl (upd f37 nr x338))), (r 38, .inl ((cT 0), 50, .inl (upd f38 nr 0))), (r 39, .inl ((cT 0), 50, .inl f39)), (r 40, .inl ((cT 0), 50, .inl f40)), (r 41, .inl ((cT 1), 50, .inr (.inl f41))), (r 42, .inl ((cT 1), 50, .inr (.inl f42))), (r 34, .inl ((cT 0), 50, .inl (upd f34 nr (nI st)))), (r 35, .inl ((cT 0), 50, .inl (upd f35 nr (nI pn44)))), (r 36, .inl ((cT 0), 800, .inl g36_315)), (mo, .inr (12, mdG r cd tm (nI sn) (nI 0) (nI lz) (nI az) (nI na) (nI nt) (nI nr) mw ml mk dq)), (r 7, .inl ((cT 0), 1000, .inl f7))] := hD
            refine lv_aload_n hx hb d_Md_write_190 rfl (lv_at hl 3 rfl) ?_
            refine va_get (D := (dC, dI)) (ci := 12) (v := (.ref (r 39))) (C := R_Md) (T := F_Md) (N := 45) hx hb hg in_Md hown hK hP 23 rfl rfl 39 (by decide) (hg _ k_1059) (fun _ h9 => h9) rfl d_Md_write_191 ?_
            refine lv_iload hx hb d_Md_write_194 (lv_at hl 1 rfl) ?_
            refine lv_aload_n hx hb d_Md_write_196 rfl (lv_at hl 3 rfl) ?_
            refine va_get (D := (dC, dI)) (ci := 12) (v := (.int tm)) (C := R_Md) (T := F_Md) (N := 45) hx hb hg in_Md hown hK hP 23 rfl rfl 2 (by decide) (hg _ k_1022) (fun _ h9 => h9) rfl d_Md_write_197 ?_
            refine va_iast hx hb hK hP hD hS 16 0 rfl rfl (i := (nI nr)) (vp_in_nI (n := nr) (N := 50) (by omega) (by decide)) d_Md_write_200 (fun H locs hP hD hS => ?_)
            have ef341 : upd f39 (nI nr).toNatClampNeg tm = upd f39 nr tm := by rw [show (nI nr).toNatClampNeg = nr from nI_clamp (by omega)]
            rw [ef341] at hP hD
            have hP : va_P (dC, dI) vcl [(r 15, .inl ((cT 0), 200, .inl f15)), (r 9, .inl ((cT 0), 1400, .inl f9)), (r 12, .inl ((cT 0), 1200, .inl f12)), (r 3, .inl ((cT 0), 160, .inl f3)), (r 4, .inl ((cT 0), 4, .inl f4)), (r 0, .inl ((cT 1), 64, .inr (.inl f0))), (r 11, .inl ((cT 0), 16, .inl f11)), (r 13, .inl ((cT 0), 200, .inl f13)), (r 18, .inl ((cT 0), 41, .inl f18)), (r 19, .inl ((cT 0), 41, .inl f19)), (r 20, .inl ((cT 0), 41, .inl f20)), (r 21, .inl ((cT 0), 41, .inl f21)), (r 22, .inl ((cT 0), 8200, .inl f22)), (r 23, .inl ((cT 0), 656, .inl f23)), (r 37, .inl ((cT 0), 50, .inl (upd f37 nr x338))), (r 38, .inl ((cT 0), 50, .inl (upd f38 nr 0))), (r 39, .inl ((cT 0), 50, .inl (upd f39 nr tm))), (r 40, .inl ((cT 0), 50, .inl f40)), (r 41, .inl ((cT 1), 50, .inr (.inl f41))), (r 42, .inl ((cT 1), 50, .inr (.inl f42))), (r 34, .inl ((cT 0), 50, .inl (upd f34 nr (nI st)))), (r 35, .inl ((cT 0), 50, .inl (upd f35 nr (nI pn44)))), (r 36, .inl ((cT 0), 800, .inl g36_315)), (mo, .inr (12, mdG r cd tm (nI sn) (nI 0) (nI lz) (nI az) (nI na) (nI nt) (nI nr) mw ml mk dq)), (r 7, .inl ((cT 0), 1000, .inl f7))] H := hP
            have hD : va_D A [(r 15, .inl ((cT 0), 200, .inl f15)), (r 9, .inl ((cT 0), 1400, .inl f9)), (r 12, .inl ((cT 0), 1200, .inl f12)), (r 3, .inl ((cT 0), 160, .inl f3)), (r 4, .inl ((cT 0), 4, .inl f4)), (r 0, .inl ((cT 1), 64, .inr (.inl f0))), (r 11, .inl ((cT 0), 16, .inl f11)), (r 13, .inl ((cT 0), 200, .inl f13)), (r 18, .inl ((cT 0), 41, .inl f18)), (r 19, .inl ((cT 0), 41, .inl f19)), (r 20, .inl ((cT 0), 41, .inl f20)), (r 21, .inl ((cT 0), 41, .inl f21)), (r 22, .inl ((cT 0), 8200, .inl f22)), (r 23, .inl ((cT 0), 656, .inl f23)), (r 37, .inl ((cT 0), 50, .inl (upd f37 nr x338))), (r 38, .inl ((cT 0), 50, .inl (upd f38 nr 0))), (r 39, .inl ((cT 0), 50, .inl (upd f39 nr tm))), (r 40, .inl ((cT 0), 50, .inl f40)), (r 41, .inl ((cT 1), 50, .inr (.inl f41))), (r 42, .inl ((cT 1), 50, .inr (.inl f42))), (r 34, .inl ((cT 0), 50, .inl (upd f34 nr (nI st)))), (r 35, .inl ((cT 0), 50, .inl (upd f35 nr (nI pn44)))), (r 36, .inl ((cT 0), 800, .inl g36_315)), (mo, .inr (12, mdG r cd tm (nI sn) (nI 0) (nI lz) (nI az) (nI na) (nI nt) (nI nr) mw ml mk dq)), (r 7, .inl ((cT 0), 1000, .inl f7))] := hD
            refine lv_aload_n hx hb d_Md_write_201 rfl (lv_at hl 3 rfl) ?_
            refine va_get (D := (dC, dI)) (ci := 12) (v := (.ref (r 40))) (C := R_Md) (T := F_Md) (N := 45) hx hb hg in_Md hown hK hP 23 rfl rfl 40 (by decide) (hg _ k_1060) (fun _ h9 => h9) rfl d_Md_write_202 ?_
            refine lv_iload hx hb d_Md_write_205 (lv_at hl 1 rfl) ?_
            refine lv_aload_n hx hb d_Md_write_207 rfl (lv_at hl 3 rfl) ?_
            refine va_get (D := (dC, dI)) (ci := 12) (v := (.int tm)) (C := R_Md) (T := F_Md) (N := 45) hx hb hg in_Md hown hK hP 23 rfl rfl 2 (by decide) (hg _ k_1022) (fun _ h9 => h9) rfl d_Md_write_208 ?_
            refine va_iast hx hb hK hP hD hS 17 0 rfl rfl (i := (nI nr)) (vp_in_nI (n := nr) (N := 50) (by omega) (by decide)) d_Md_write_211 (fun H locs hP hD hS => ?_)
            have ef342 : upd f40 (nI nr).toNatClampNeg tm = upd f40 nr tm := by rw [show (nI nr).toNatClampNeg = nr from nI_clamp (by omega)]
            rw [ef342] at hP hD
            have hP : va_P (dC, dI) vcl [(r 15, .inl ((cT 0), 200, .inl f15)), (r 9, .inl ((cT 0), 1400, .inl f9)), (r 12, .inl ((cT 0), 1200, .inl f12)), (r 3, .inl ((cT 0), 160, .inl f3)), (r 4, .inl ((cT 0), 4, .inl f4)), (r 0, .inl ((cT 1), 64, .inr (.inl f0))), (r 11, .inl ((cT 0), 16, .inl f11)), (r 13, .inl ((cT 0), 200, .inl f13)), (r 18, .inl ((cT 0), 41, .inl f18)), (r 19, .inl ((cT 0), 41, .inl f19)), (r 20, .inl ((cT 0), 41, .inl f20)), (r 21, .inl ((cT 0), 41, .inl f21)), (r 22, .inl ((cT 0), 8200, .inl f22)), (r 23, .inl ((cT 0), 656, .inl f23)), (r 37, .inl ((cT 0), 50, .inl (upd f37 nr x338))), (r 38, .inl ((cT 0), 50, .inl (upd f38 nr 0))), (r 39, .inl ((cT 0), 50, .inl (upd f39 nr tm))), (r 40, .inl ((cT 0), 50, .inl (upd f40 nr tm))), (r 41, .inl ((cT 1), 50, .inr (.inl f41))), (r 42, .inl ((cT 1), 50, .inr (.inl f42))), (r 34, .inl ((cT 0), 50, .inl (upd f34 nr (nI st)))), (r 35, .inl ((cT 0), 50, .inl (upd f35 nr (nI pn44)))), (r 36, .inl ((cT 0), 800, .inl g36_315)), (mo, .inr (12, mdG r cd tm (nI sn) (nI 0) (nI lz) (nI az) (nI na) (nI nt) (nI nr) mw ml mk dq)), (r 7, .inl ((cT 0), 1000, .inl f7))] H := hP
            have hD : va_D A [(r 15, .inl ((cT 0), 200, .inl f15)), (r 9, .inl ((cT 0), 1400, .inl f9)), (r 12, .inl ((cT 0), 1200, .inl f12)), (r 3, .inl ((cT 0), 160, .inl f3)), (r 4, .inl ((cT 0), 4, .inl f4)), (r 0, .inl ((cT 1), 64, .inr (.inl f0))), (r 11, .inl ((cT 0), 16, .inl f11)), (r 13, .inl ((cT 0), 200, .inl f13)), (r 18, .inl ((cT 0), 41, .inl f18)), (r 19, .inl ((cT 0), 41, .inl f19)), (r 20, .inl ((cT 0), 41, .inl f20)), (r 21, .inl ((cT 0), 41, .inl f21)), (r 22, .inl ((cT 0), 8200, .inl f22)), (r 23, .inl ((cT 0), 656, .inl f23)), (r 37, .inl ((cT 0), 50, .inl (upd f37 nr x338))), (r 38, .inl ((cT 0), 50, .inl (upd f38 nr 0))), (r 39, .inl ((cT 0), 50, .inl (upd f39 nr tm))), (r 40, .inl ((cT 0), 50, .inl (upd f40 nr tm))), (r 41, .inl ((cT 1), 50, .inr (.inl f41))), (r 42, .inl ((cT 1), 50, .inr (.inl f42))), (r 34, .inl ((cT 0), 50, .inl (upd f34 nr (nI st)))), (r 35, .inl ((cT 0), 50, .inl (upd f35 nr (nI pn44)))), (r 36, .inl ((cT 0), 800, .inl g36_315)), (mo, .inr (12, mdG r cd tm (nI sn) (nI 0) (nI lz) (nI az) (nI na) (nI nt) (nI nr) mw ml mk dq)), (r 7, .inl ((cT 0), 1000, .inl f7))] := hD
            refine lv_aload_n hx hb d_Md_write_212 rfl (lv_at hl 3 rfl) ?_
            refine va_get (D := (dC, dI)) (ci := 12) (v := (.ref (r 41))) (C := R_Md) (T := F_Md) (N := 45) hx hb hg in_Md hown hK hP 23 rfl rfl 41 (by decide) (hg _ k_1061) (fun _ h9 => h9) rfl d_Md_write_213 ?_
            refine lv_iload hx hb d_Md_write_216 (lv_at hl 1 rfl) ?_
            refine lv_lconst (v := 0) hx hb d_Md_write_218 (by decide) ?_
            refine va_last hx hb hK hP hD hS 18 1 rfl rfl (i := (nI nr)) (vp_in_nI (n := nr) (N := 50) (by omega) (by decide)) d_Md_write_219 (fun H locs hP hD hS => ?_)
            have hP : va_P (dC, dI) vcl [(r 15, .inl ((cT 0), 200, .inl f15)), (r 9, .inl ((cT 0), 1400, .inl f9)), (r 12, .inl ((cT 0), 1200, .inl f12)), (r 3, .inl ((cT 0), 160, .inl f3)), (r 4, .inl ((cT 0), 4, .inl f4)), (r 0, .inl ((cT 1), 64, .inr (.inl f0))), (r 11, .inl ((cT 0), 16, .inl f11)), (r 13, .inl ((cT 0), 200, .inl f13)), (r 18, .inl ((cT 0), 41, .inl f18)), (r 19, .inl ((cT 0), 41, .inl f19)), (r 20, .inl ((cT 0), 41, .inl f20)), (r 21, .inl ((cT 0), 41, .inl f21)), (r 22, .inl ((cT 0), 8200, .inl f22)), (r 23, .inl ((cT 0), 656, .inl f23)), (r 37, .inl ((cT 0), 50, .inl (upd f37 nr x338))), (r 38, .inl ((cT 0), 50, .inl (upd f38 nr 0))), (r 39, .inl ((cT 0), 50, .inl (upd f39 nr tm))), (r 40, .inl ((cT 0), 50, .inl (upd f40 nr tm))), (r 41, .inl ((cT 1), 50, .inr (.inl (vp_updL f41 (nI nr).toNatClampNeg 0)))), (r 42, .inl ((cT 1), 50, .inr (.inl f42))), (r 34, .inl ((cT 0), 50, .inl (upd f34 nr (nI st)))), (r 35, .inl ((cT 0), 50, .inl (upd f35 nr (nI pn44)))), (r 36, .inl ((cT 0), 800, .inl g36_315)), (mo, .inr (12, mdG r cd tm (nI sn) (nI 0) (nI lz) (nI az) (nI na) (nI nt) (nI nr) mw ml mk dq)), (r 7, .inl ((cT 0), 1000, .inl f7))] H := hP
            have hD : va_D A [(r 15, .inl ((cT 0), 200, .inl f15)), (r 9, .inl ((cT 0), 1400, .inl f9)), (r 12, .inl ((cT 0), 1200, .inl f12)), (r 3, .inl ((cT 0), 160, .inl f3)), (r 4, .inl ((cT 0), 4, .inl f4)), (r 0, .inl ((cT 1), 64, .inr (.inl f0))), (r 11, .inl ((cT 0), 16, .inl f11)), (r 13, .inl ((cT 0), 200, .inl f13)), (r 18, .inl ((cT 0), 41, .inl f18)), (r 19, .inl ((cT 0), 41, .inl f19)), (r 20, .inl ((cT 0), 41, .inl f20)), (r 21, .inl ((cT 0), 41, .inl f21)), (r 22, .inl ((cT 0), 8200, .inl f22)), (r 23, .inl ((cT 0), 656, .inl f23)), (r 37, .inl ((cT 0), 50, .inl (upd f37 nr x338))), (r 38, .inl ((cT 0), 50, .inl (upd f38 nr 0))), (r 39, .inl ((cT 0), 50, .inl (upd f39 nr tm))), (r 40, .inl ((cT 0), 50, .inl (upd f40 nr tm))), (r 41, .inl ((cT 1), 50, .inr (.inl (vp_updL f41 (nI nr).toNatClampNeg 0)))), (r 42, .inl ((cT 1), 50, .inr (.inl f42))), (r 34, .inl ((cT 0), 50, .inl (upd f34 nr (nI st)))), (r 35, .inl ((cT 0), 50, .inl (upd f35 nr (nI pn44)))), (r 36, .inl ((cT 0), 800, .inl g36_315)), (mo, .inr (12, mdG r cd tm (nI sn) (nI 0) (nI lz) (nI az) (nI na) (nI nt) (nI nr) mw ml mk dq)), (r 7, .inl ((cT 0), 1000, .inl f7))] := hD
            refine lv_aload_n hx hb d_Md_write_220 rfl (lv_at hl 3 rfl) ?_
            refine va_get (D := (dC, dI)) (ci := 12) (v := (.ref (r 42))) (C := R_Md) (T := F_Md) (N := 45) hx hb hg in_Md hown hK hP 23 rfl rfl 42 (by decide) (hg _ k_1062) (fun _ h9 => h9) rfl d_Md_write_221 ?_
            refine lv_iload hx hb d_Md_write_224 (lv_at hl 1 rfl) ?_
            refine lv_lconst (v := 0) hx hb d_Md_write_226 (by decide) ?_
            refine va_last hx hb hK hP hD hS 19 1 rfl rfl (i := (nI nr)) (vp_in_nI (n := nr) (N := 50) (by omega) (by decide)) d_Md_write_227 (fun H locs hP hD hS => ?_)
            have hP : va_P (dC, dI) vcl [(r 15, .inl ((cT 0), 200, .inl f15)), (r 9, .inl ((cT 0), 1400, .inl f9)), (r 12, .inl ((cT 0), 1200, .inl f12)), (r 3, .inl ((cT 0), 160, .inl f3)), (r 4, .inl ((cT 0), 4, .inl f4)), (r 0, .inl ((cT 1), 64, .inr (.inl f0))), (r 11, .inl ((cT 0), 16, .inl f11)), (r 13, .inl ((cT 0), 200, .inl f13)), (r 18, .inl ((cT 0), 41, .inl f18)), (r 19, .inl ((cT 0), 41, .inl f19)), (r 20, .inl ((cT 0), 41, .inl f20)), (r 21, .inl ((cT 0), 41, .inl f21)), (r 22, .inl ((cT 0), 8200, .inl f22)), (r 23, .inl ((cT 0), 656, .inl f23)), (r 37, .inl ((cT 0), 50, .inl (upd f37 nr x338))), (r 38, .inl ((cT 0), 50, .inl (upd f38 nr 0))), (r 39, .inl ((cT 0), 50, .inl (upd f39 nr tm))), (r 40, .inl ((cT 0), 50, .inl (upd f40 nr tm))), (r 41, .inl ((cT 1), 50, .inr (.inl (vp_updL f41 (nI nr).toNatClampNeg 0)))), (r 42, .inl ((cT 1), 50, .inr (.inl (vp_updL f42 (nI nr).toNatClampNeg 0)))), (r 34, .inl ((cT 0), 50, .inl (upd f34 nr (nI st)))), (r 35, .inl ((cT 0), 50, .inl (upd f35 nr (nI pn44)))), (r 36, .inl ((cT 0), 800, .inl g36_315)), (mo, .inr (12, mdG r cd tm (nI sn) (nI 0) (nI lz) (nI az) (nI na) (nI nt) (nI nr) mw ml mk dq)), (r 7, .inl ((cT 0), 1000, .inl f7))] H := hP
            have hD : va_D A [(r 15, .inl ((cT 0), 200, .inl f15)), (r 9, .inl ((cT 0), 1400, .inl f9)), (r 12, .inl ((cT 0), 1200, .inl f12)), (r 3, .inl ((cT 0), 160, .inl f3)), (r 4, .inl ((cT 0), 4, .inl f4)), (r 0, .inl ((cT 1), 64, .inr (.inl f0))), (r 11, .inl ((cT 0), 16, .inl f11)), (r 13, .inl ((cT 0), 200, .inl f13)), (r 18, .inl ((cT 0), 41, .inl f18)), (r 19, .inl ((cT 0), 41, .inl f19)), (r 20, .inl ((cT 0), 41, .inl f20)), (r 21, .inl ((cT 0), 41, .inl f21)), (r 22, .inl ((cT 0), 8200, .inl f22)), (r 23, .inl ((cT 0), 656, .inl f23)), (r 37, .inl ((cT 0), 50, .inl (upd f37 nr x338))), (r 38, .inl ((cT 0), 50, .inl (upd f38 nr 0))), (r 39, .inl ((cT 0), 50, .inl (upd f39 nr tm))), (r 40, .inl ((cT 0), 50, .inl (upd f40 nr tm))), (r 41, .inl ((cT 1), 50, .inr (.inl (vp_updL f41 (nI nr).toNatClampNeg 0)))), (r 42, .inl ((cT 1), 50, .inr (.inl (vp_updL f42 (nI nr).toNatClampNeg 0)))), (r 34, .inl ((cT 0), 50, .inl (upd f34 nr (nI st)))), (r 35, .inl ((cT 0), 50, .inl (upd f35 nr (nI pn44)))), (r 36, .inl ((cT 0), 800, .inl g36_315)), (mo, .inr (12, mdG r cd tm (nI sn) (nI 0) (nI lz) (nI az) (nI na) (nI nt) (nI nr) mw ml mk dq)), (r 7, .inl ((cT 0), 1000, .inl f7))] := hD
            refine lv_aload_n hx hb d_Md_write_228 rfl (lv_at hl 3 rfl) ?_
            refine lv_dup hx hb d_Md_write_229 rfl ?_
            refine va_get (D := (dC, dI)) (ci := 12) (v := (.int (nI nr))) (C := R_Md) (T := F_Md) (N := 45) hx hb hg in_Md hown hK hP 23 rfl rfl 33 (by decide) (hg _ k_1053) (fun _ h9 => h9) rfl d_Md_write_230 ?_
            refine lv_iconst (v := 1) hx hb d_Md_write_233 (by decide) ?_
            refine lv_iadd hx hb d_Md_write_234 ?_
            refine lv_topi (fun x344 e343 => ?_)
            obtain rfl : x344 = nI (nr + 1) := by rw [e343]; exact nI_add nr 1
            refine va_put (D := (dC, dI)) (ci := 12) (v := (.int (nI (nr + 1)))) (ty := .int) (C := R_Md) (T := F_Md) (N := 45) hx hb hg in_Md t_Md tok_Md nm_Md hown hK hP hD hS 23 rfl rfl 33 (by decide) (hg _ k_1053) (fun _ h9 => h9) rfl (by decide +kernel) rfl rfl (Nat.le_of_ble_eq_true rfl) d_Md_write_235 (fun H locs hP hD hS => ?_)
            have hP : va_P (dC, dI) vcl [(r 15, .inl ((cT 0), 200, .inl f15)), (r 9, .inl ((cT 0), 1400, .inl f9)), (r 12, .inl ((cT 0), 1200, .inl f12)), (r 3, .inl ((cT 0), 160, .inl f3)), (r 4, .inl ((cT 0), 4, .inl f4)), (r 0, .inl ((cT 1), 64, .inr (.inl f0))), (r 11, .inl ((cT 0), 16, .inl f11)), (r 13, .inl ((cT 0), 200, .inl f13)), (r 18, .inl ((cT 0), 41, .inl f18)), (r 19, .inl ((cT 0), 41, .inl f19)), (r 20, .inl ((cT 0), 41, .inl f20)), (r 21, .inl ((cT 0), 41, .inl f21)), (r 22, .inl ((cT 0), 8200, .inl f22)), (r 23, .inl ((cT 0), 656, .inl f23)), (r 37, .inl ((cT 0), 50, .inl (upd f37 nr x338))), (r 38, .inl ((cT 0), 50, .inl (upd f38 nr 0))), (r 39, .inl ((cT 0), 50, .inl (upd f39 nr tm))), (r 40, .inl ((cT 0), 50, .inl (upd f40 nr tm))), (r 41, .inl ((cT 1), 50, .inr (.inl (vp_updL f41 (nI nr).toNatClampNeg 0)))), (r 42, .inl ((cT 1), 50, .inr (.inl (vp_updL f42 (nI nr).toNatClampNeg 0)))), (r 34, .inl ((cT 0), 50, .inl (upd f34 nr (nI st)))), (r 35, .inl ((cT 0), 50, .inl (upd f35 nr (nI pn44)))), (r 36, .inl ((cT 0), 800, .inl g36_315)), (mo, .inr (12, mdG r cd tm (nI sn) (nI 0) (nI lz) (nI az) (nI na) (nI nt) (nI (nr + 1)) mw ml mk dq)), (r 7, .inl ((cT 0), 1000, .inl f7))] H := hP
            have hD : va_D A [(r 15, .inl ((cT 0), 200, .inl f15)), (r 9, .inl ((cT 0), 1400, .inl f9)), (r 12, .inl ((cT 0), 1200, .inl f12)), (r 3, .inl ((cT 0), 160, .inl f3)), (r 4, .inl ((cT 0), 4, .inl f4)), (r 0, .inl ((cT 1), 64, .inr (.inl f0))), (r 11, .inl ((cT 0), 16, .inl f11)), (r 13, .inl ((cT 0), 200, .inl f13)), (r 18, .inl ((cT 0), 41, .inl f18)), (r 19, .inl ((cT 0), 41, .inl f19)), (r 20, .inl ((cT 0), 41, .inl f20)), (r 21, .inl ((cT 0), 41, .inl f21)), (r 22, .inl ((cT 0), 8200, .inl f22)), (r 23, .inl ((cT 0), 656, .inl f23)), (r 37, .inl ((cT 0), 50, .inl (upd f37 nr x338))), (r 38, .inl ((cT 0), 50, .inl (upd f38 nr 0))), (r 39, .inl ((cT 0), 50, .inl (upd f39 nr tm))), (r 40, .inl ((cT 0), 50, .inl (upd f40 nr tm))), (r 41, .inl ((cT 1), 50, .inr (.inl (vp_updL f41 (nI nr).toNatClampNeg 0)))), (r 42, .inl ((cT 1), 50, .inr (.inl (vp_updL f42 (nI nr).toNatClampNeg 0)))), (r 34, .inl ((cT 0), 50, .inl (upd f34 nr (nI st)))), (r 35, .inl ((cT 0), 50, .inl (upd f35 nr (nI pn44)))), (r 36, .inl ((cT 0), 800, .inl g36_315)), (mo, .inr (12, mdG r cd tm (nI sn) (nI 0) (nI lz) (nI az) (nI na) (nI nt) (nI (nr + 1)) mw ml mk dq)), (r 7, .inl ((cT 0), 1000, .inl f7))] := hD
            have hr9x : (nI nr) = -1 ∨ ∃ a : Nat, (nI nr) = nI a ∧ a < 50 := Or.inr ⟨nr, rfl, by omega⟩
            have hb35x : BD 16 50 (upd f35 nr (nI pn44)) := BD_upd h35 (by omega)
            have hl := lv_sub hl [1, 3, 4, 5] (show _ = [(4, .int (nI nr)), (0, .ref mo), (1, .int (nI st)), (2, .long r193)] from rfl)
            have hP := hP.sub (ws' := [(r 15, .inl ((cT 0), 200, .inl f15)), (r 9, .inl ((cT 0), 1400, .inl f9)), (r 12, .inl ((cT 0), 1200, .inl f12)), (r 3, .inl ((cT 0), 160, .inl f3)), (r 4, .inl ((cT 0), 4, .inl f4)), (r 0, .inl ((cT 1), 64, .inr (.inl f0))), (r 11, .inl ((cT 0), 16, .inl f11)), (r 13, .inl ((cT 0), 200, .inl f13)), (r 18, .inl ((cT 0), 41, .inl f18)), (r 19, .inl ((cT 0), 41, .inl f19)), (r 20, .inl ((cT 0), 41, .inl f20)), (r 21, .inl ((cT 0), 41, .inl f21)), (r 22, .inl ((cT 0), 8200, .inl f22)), (r 23, .inl ((cT 0), 656, .inl f23)), (r 34, .inl ((cT 0), 50, .inl (upd f34 nr (nI st)))), (r 35, .inl ((cT 0), 50, .inl (upd f35 nr (nI pn44)))), (r 36, .inl ((cT 0), 800, .inl g36_315)), (r 37, .inl ((cT 0), 50, .inl (upd f37 nr x338))), (r 38, .inl ((cT 0), 50, .inl (upd f38 nr 0))), (r 39, .inl ((cT 0), 50, .inl (upd f39 nr tm))), (r 40, .inl ((cT 0), 50, .inl (upd f40 nr tm))), (r 41, .inl ((cT 1), 50, .inr (.inl (vp_updL f41 (nI nr).toNatClampNeg 0)))), (r 42, .inl ((cT 1), 50, .inr (.inl (vp_updL f42 (nI nr).toNatClampNeg 0)))), (mo, .inr (12, mdG r cd tm (nI sn) (nI 0) (nI lz) (nI az) (nI na) (nI nt) (nI (nr + 1)) mw ml mk dq)), (r 7, .inl ((cT 0), 1000, .inl f7))]) [0, 1, 2, 3, 4, 5, 6, 7, 8, 9, 10, 11, 12, 13, 20, 21, 22, 14, 15, 16, 17, 18, 19, 23, 24] rfl
            have hD := hD.sub (ws' := [(r 15, .inl ((cT 0), 200, .inl f15)), (r 9, .inl ((cT 0), 1400, .inl f9)), (r 12, .inl ((cT 0), 1200, .inl f12)), (r 3, .inl ((cT 0), 160, .inl f3)), (r 4, .inl ((cT 0), 4, .inl f4)), (r 0, .inl ((cT 1), 64, .inr (.inl f0))), (r 11, .inl ((cT 0), 16, .inl f11)), (r 13, .inl ((cT 0), 200, .inl f13)), (r 18, .inl ((cT 0), 41, .inl f18)), (r 19, .inl ((cT 0), 41, .inl f19)), (r 20, .inl ((cT 0), 41, .inl f20)), (r 21, .inl ((cT 0), 41, .inl f21)), (r 22, .inl ((cT 0), 8200, .inl f22)), (r 23, .inl ((cT 0), 656, .inl f23)), (r 34, .inl ((cT 0), 50, .inl (upd f34 nr (nI st)))), (r 35, .inl ((cT 0), 50, .inl (upd f35 nr (nI pn44)))), (r 36, .inl ((cT 0), 800, .inl g36_315)), (r 37, .inl ((cT 0), 50, .inl (upd f37 nr x338))), (r 38, .inl ((cT 0), 50, .inl (upd f38 nr 0))), (r 39, .inl ((cT 0), 50, .inl (upd f39 nr tm))), (r 40, .inl ((cT 0), 50, .inl (upd f40 nr tm))), (r 41, .inl ((cT 1), 50, .inr (.inl (vp_updL f41 (nI nr).toNatClampNeg 0)))), (r 42, .inl ((cT 1), 50, .inr (.inl (vp_updL f42 (nI nr).toNatClampNeg 0)))), (mo, .inr (12, mdG r cd tm (nI sn) (nI 0) (nI lz) (nI az) (nI na) (nI nt) (nI (nr + 1)) mw ml mk dq)), (r 7, .inl ((cT 0), 1000, .inl f7))]) [0, 1, 2, 3, 4, 5, 6, 7, 8, 9, 10, 11, 12, 13, 20, 21, 22, 14, 15, 16, 17, 18, 19, 23, 24] (by decide) rfl
            exact K214 _ _ _ _ _ _ _ _ _ _ _ _ _ _ (by first | assumption | omega) (by first | assumption | omega) (by first | assumption | omega) hP hD hS hl
        · skip
          refine lv_topi (fun x346 e345 => ?_)
          obtain rfl : x346 = nI ri := by rw [e345]; exact h8p
          refine lv_istore (lv' := [(4, .int (nI ri)), (0, .ref mo), (1, .int (nI st)), (2, .long r193)]) hx hb d_Md_write_54 hl (by decide) rfl (fun ls hl => ?_)
          refine lv_iload hx hb d_Md_write_56 (lv_at hl 0 rfl) ?_
          refine lv_if_ge (tgt := 74) hx hb d_Md_write_58 (by decide) (fun hc347 => ?_) (fun hn9 => absurd (nI_pos' (by omega)) hn9)
          refine lv_iconst (v := 0) hx hb d_Md_write_74 (by decide) ?_
          refine lv_istore (lv' := [(5, .int 0), (4, .int (nI ri)), (0, .ref mo), (1, .int (nI st)), (2, .long r193)]) hx hb d_Md_write_75 hl (by decide) rfl (fun ls hl => ?_)
          refine lv_iload hx hb d_Md_write_77 (lv_at hl 0 rfl) ?_
          refine lv_if_eq (tgt := 238) hx hb d_Md_write_79 (by decide) (fun hc348 => ?_) (fun hn9 => absurd (by decide) hn9)
          have hr9x : (nI ri) = -1 ∨ ∃ a : Nat, (nI ri) = nI a ∧ a < 50 := Or.inr ⟨ri, rfl, by omega⟩
          have hl := lv_sub hl [1, 2, 3, 4] (show _ = [(4, .int (nI ri)), (0, .ref mo), (1, .int (nI st)), (2, .long r193)] from rfl)
          have hP := hP.sub (ws' := [(r 15, .inl ((cT 0), 200, .inl f15)), (r 9, .inl ((cT 0), 1400, .inl f9)), (r 12, .inl ((cT 0), 1200, .inl f12)), (r 3, .inl ((cT 0), 160, .inl f3)), (r 4, .inl ((cT 0), 4, .inl f4)), (r 0, .inl ((cT 1), 64, .inr (.inl f0))), (r 11, .inl ((cT 0), 16, .inl f11)), (r 13, .inl ((cT 0), 200, .inl f13)), (r 18, .inl ((cT 0), 41, .inl f18)), (r 19, .inl ((cT 0), 41, .inl f19)), (r 20, .inl ((cT 0), 41, .inl f20)), (r 21, .inl ((cT 0), 41, .inl f21)), (r 22, .inl ((cT 0), 8200, .inl f22)), (r 23, .inl ((cT 0), 656, .inl f23)), (r 34, .inl ((cT 0), 50, .inl f34)), (r 35, .inl ((cT 0), 50, .inl f35)), (r 36, .inl ((cT 0), 800, .inl f36)), (r 37, .inl ((cT 0), 50, .inl f37)), (r 38, .inl ((cT 0), 50, .inl f38)), (r 39, .inl ((cT 0), 50, .inl f39)), (r 40, .inl ((cT 0), 50, .inl f40)), (r 41, .inl ((cT 1), 50, .inr (.inl f41))), (r 42, .inl ((cT 1), 50, .inr (.inl f42))), (mo, .inr (12, mdG r cd tm (nI sn) (nI 0) (nI lz) (nI az) (nI na) (nI nt) (nI nr) mw ml mk dq)), (r 7, .inl ((cT 0), 1000, .inl f7))]) [0, 1, 2, 3, 4, 5, 6, 7, 8, 9, 10, 11, 12, 13, 22, 23, 24, 14, 15, 16, 17, 18, 19, 20, 21] rfl
          have hD := hD.sub (ws' := [(r 15, .inl ((cT 0), 200, .inl f15)), (r 9, .inl ((cT 0), 1400, .inl f9)), (r 12, .inl ((cT 0), 1200, .inl f12)), (r 3, .inl ((cT 0), 160, .inl f3)), (r 4, .inl ((cT 0), 4, .inl f4)), (r 0, .inl ((cT 1), 64, .inr (.inl f0))), (r 11, .inl ((cT 0), 16, .inl f11)), (r 13, .inl ((cT 0), 200, .inl f13)), (r 18, .inl ((cT 0), 41, .inl f18)), (r 19, .inl ((cT 0), 41, .inl f19)), (r 20, .inl ((cT 0), 41, .inl f20)), (r 21, .inl ((cT 0), 41, .inl f21)), (r 22, .inl ((cT 0), 8200, .inl f22)), (r 23, .inl ((cT 0), 656, .inl f23)), (r 34, .inl ((cT 0), 50, .inl f34)), (r 35, .inl ((cT 0), 50, .inl f35)), (r 36, .inl ((cT 0), 800, .inl f36)), (r 37, .inl ((cT 0), 50, .inl f37)), (r 38, .inl ((cT 0), 50, .inl f38)), (r 39, .inl ((cT 0), 50, .inl f39)), (r 40, .inl ((cT 0), 50, .inl f40)), (r 41, .inl ((cT 1), 50, .inr (.inl f41))), (r 42, .inl ((cT 1), 50, .inr (.inl f42))), (mo, .inr (12, mdG r cd tm (nI sn) (nI 0) (nI lz) (nI az) (nI na) (nI nt) (nI nr) mw ml mk dq)), (r 7, .inl ((cT 0), 1000, .inl f7))]) [0, 1, 2, 3, 4, 5, 6, 7, 8, 9, 10, 11, 12, 13, 22, 23, 24, 14, 15, 16, 17, 18, 19, 20, 21] (by decide) rfl
          exact K214 _ _ _ _ _ _ _ _ _ _ _ _ _ _ (by first | assumption | omega) (by first | assumption | omega) (by first | assumption | omega) hP hD hS hl
      refine lv_lload_n hx hb d_Md_write_24 rfl (lv_at hl 0 rfl) ?_
      refine lv_lconst (v := 1) hx hb d_Md_write_25 (by decide) ?_
      refine W.lcmp hx hb d_Md_write_26 ?_
      refine lv_if_eq (tgt := 49) hx hb d_Md_write_27 (by decide) (fun hc349 => ?_) (fun hc349 => ?_)
      · skip
        have hl := lv_sub hl [1, 2, 0] (show _ = [(0, .ref mo), (1, .int (nI st)), (2, .long r193)] from rfl)
        exact K213  _ _ _  hP hD hS hl
      · skip
        refine lv_lload_n hx hb d_Md_write_30 rfl (lv_at hl 0 rfl) ?_
        refine lv_ldc2 (v := 2) hx hb hown (hg _ k_1387) d_Md_write_31 ?_
        refine W.lcmp hx hb d_Md_write_34 ?_
        refine lv_if_eq (tgt := 49) hx hb d_Md_write_35 (by decide) (fun hc350 => ?_) (fun hc350 => ?_)
        · skip
          have hl := lv_sub hl [1, 2, 0] (show _ = [(0, .ref mo), (1, .int (nI st)), (2, .long r193)] from rfl)
          exact K213  _ _ _  hP hD hS hl
        · skip
          refine lv_lload_n hx hb d_Md_write_38 rfl (lv_at hl 0 rfl) ?_
          refine lv_ldc2 (v := 3) hx hb hown (hg _ k_1388) d_Md_write_39 ?_
          refine W.lcmp hx hb d_Md_write_42 ?_
          refine lv_if_eq (tgt := 49) hx hb d_Md_write_43 (by decide) (fun hc351 => ?_) (fun hc351 => ?_)
          · skip
            have hl := lv_sub hl [1, 2, 0] (show _ = [(0, .ref mo), (1, .int (nI st)), (2, .long r193)] from rfl)
            exact K213  _ _ _  hP hD hS hl
          · skip
            refine lv_bipush (v := (-5)) hx hb d_Md_write_46 (by decide) ?_
            have hP9 := hP.sub (ws' := [(mo, .inr (12, mdG r cd tm (nI sn) (nI 0) (nI lz) (nI az) (nI na) (nI nt) (nI nr) mw ml mk dq)), (r 15, .inl ((cT 0), 200, .inl f15)), (r 9, .inl ((cT 0), 1400, .inl f9)), (r 12, .inl ((cT 0), 1200, .inl f12)), (r 3, .inl ((cT 0), 160, .inl f3)), (r 4, .inl ((cT 0), 4, .inl f4)), (r 0, .inl ((cT 1), 64, .inr (.inl f0))), (r 11, .inl ((cT 0), 16, .inl f11)), (r 13, .inl ((cT 0), 200, .inl f13)), (r 7, .inl ((cT 0), 1000, .inl f7)), (r 18, .inl ((cT 0), 41, .inl f18)), (r 19, .inl ((cT 0), 41, .inl f19)), (r 20, .inl ((cT 0), 41, .inl f20)), (r 21, .inl ((cT 0), 41, .inl f21)), (r 22, .inl ((cT 0), 8200, .inl f22)), (r 23, .inl ((cT 0), 656, .inl f23)), (r 34, .inl ((cT 0), 50, .inl f34)), (r 35, .inl ((cT 0), 50, .inl f35)), (r 36, .inl ((cT 0), 800, .inl f36)), (r 37, .inl ((cT 0), 50, .inl f37)), (r 38, .inl ((cT 0), 50, .inl f38)), (r 39, .inl ((cT 0), 50, .inl f39)), (r 40, .inl ((cT 0), 50, .inl f40)), (r 41, .inl ((cT 1), 50, .inr (.inl f41))), (r 42, .inl ((cT 1), 50, .inr (.inl f42)))]) [23, 0, 1, 2, 3, 4, 5, 6, 7, 24, 8, 9, 10, 11, 12, 13, 14, 15, 16, 17, 18, 19, 20, 21, 22] rfl
            have hD9 := hD.sub (ws' := [(mo, .inr (12, mdG r cd tm (nI sn) (nI 0) (nI lz) (nI az) (nI na) (nI nt) (nI nr) mw ml mk dq)), (r 15, .inl ((cT 0), 200, .inl f15)), (r 9, .inl ((cT 0), 1400, .inl f9)), (r 12, .inl ((cT 0), 1200, .inl f12)), (r 3, .inl ((cT 0), 160, .inl f3)), (r 4, .inl ((cT 0), 4, .inl f4)), (r 0, .inl ((cT 1), 64, .inr (.inl f0))), (r 11, .inl ((cT 0), 16, .inl f11)), (r 13, .inl ((cT 0), 200, .inl f13)), (r 7, .inl ((cT 0), 1000, .inl f7)), (r 18, .inl ((cT 0), 41, .inl f18)), (r 19, .inl ((cT 0), 41, .inl f19)), (r 20, .inl ((cT 0), 41, .inl f20)), (r 21, .inl ((cT 0), 41, .inl f21)), (r 22, .inl ((cT 0), 8200, .inl f22)), (r 23, .inl ((cT 0), 656, .inl f23)), (r 34, .inl ((cT 0), 50, .inl f34)), (r 35, .inl ((cT 0), 50, .inl f35)), (r 36, .inl ((cT 0), 800, .inl f36)), (r 37, .inl ((cT 0), 50, .inl f37)), (r 38, .inl ((cT 0), 50, .inl f38)), (r 39, .inl ((cT 0), 50, .inl f39)), (r 40, .inl ((cT 0), 50, .inl f40)), (r 41, .inl ((cT 1), 50, .inr (.inl f41))), (r 42, .inl ((cT 1), 50, .inr (.inl f42)))]) [23, 0, 1, 2, 3, 4, 5, 6, 7, 24, 8, 9, 10, 11, 12, 13, 14, 15, 16, 17, 18, 19, 20, 21, 22] (by decide) rfl
            exact W.iret (v := (-5)) hx hb hr (fun t ht hW => ⟨⟨_, ⟨f15, f9, f12, f11, f13, f18, f19, f20, f21, f22, f23, f34, f35, f36, f37, f38, f39, f40, f41, f42, az, lz, na, mw, nr⟩, rfl, ⟨by first | assumption | omega, by first | assumption | omega, by first | assumption | omega, by first | assumption | omega, by first | assumption | omega, by first | assumption | omega, by first | assumption | omega⟩, by rw [ht]; exact hP9, va_K.moved hW.alike hK, hD9⟩, hS.F ht⟩) hS.2.2 d_Md_write_48
