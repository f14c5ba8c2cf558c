theorem d_Md_mixed_0 : decode b_Md_mixed 0 = .ok (.iload_n 0, 1) := by decide +kernel
theorem d_Md_mixed_1 : decode b_Md_mixed 1 = .ok (.bipush 16, 2) := by decide +kernel
theorem d_Md_mixed_3 : decode b_Md_mixed 3 = .ok (.if_icmp .ge 16, 3) := by decide +kernel
theorem d_Md_mixed_19 : decode b_Md_mixed 19 = .ok (.iload_n 0, 1) := by decide +kernel
theorem d_Md_mixed_20 : decode b_Md_mixed 20 = .ok (.bipush 32, 2) := by decide +kernel
theorem d_Md_mixed_22 : decode b_Md_mixed 22 = .ok (.if_icmp .ge 17, 3) := by decide +kernel
theorem d_Md_mixed_39 : decode b_Md_mixed 39 = .ok (.iload_n 0, 1) := by decide +kernel
theorem d_Md_mixed_40 : decode b_Md_mixed 40 = .ok (.bipush 48, 2) := by decide +kernel
theorem d_Md_mixed_42 : decode b_Md_mixed 42 = .ok (.if_icmp .ge 12, 3) := by decide +kernel
theorem d_Md_mixed_54 : decode b_Md_mixed 54 = .ok (.lload_n 3, 1) := by decide +kernel
theorem d_Md_mixed_55 : decode b_Md_mixed 55 = .ok (.lload_n 1, 1) := by decide +kernel
theorem d_Md_mixed_56 : decode b_Md_mixed 56 = .ok (.ldc2_w 254, 3) := by decide +kernel
theorem d_Md_mixed_59 : decode b_Md_mixed 59 = .ok (.lload 5, 2) := by decide +kernel
theorem d_Md_mixed_61 : decode b_Md_mixed 61 = .ok (.lsub, 1) := by decide +kernel
theorem d_Md_mixed_62 : decode b_Md_mixed 62 = .ok (.lor, 1) := by decide +kernel
theorem d_Md_mixed_63 : decode b_Md_mixed 63 = .ok (.lxor, 1) := by decide +kernel
theorem d_Md_mixed_64 : decode b_Md_mixed 64 = .ok (.lreturn, 1) := by decide +kernel
theorem d_Md_mixed_45 : decode b_Md_mixed 45 = .ok (.lload_n 1, 1) := by decide +kernel
theorem d_Md_mixed_46 : decode b_Md_mixed 46 = .ok (.lload_n 3, 1) := by decide +kernel
theorem d_Md_mixed_47 : decode b_Md_mixed 47 = .ok (.lxor, 1) := by decide +kernel
theorem d_Md_mixed_48 : decode b_Md_mixed 48 = .ok (.lload 5, 2) := by decide +kernel
theorem d_Md_mixed_50 : decode b_Md_mixed 50 = .ok (.lxor, 1) := by decide +kernel
theorem d_Md_mixed_51 : decode b_Md_mixed 51 = .ok (.goto 13, 3) := by decide +kernel
theorem d_Md_mixed_25 : decode b_Md_mixed 25 = .ok (.lload 5, 2) := by decide +kernel
theorem d_Md_mixed_27 : decode b_Md_mixed 27 = .ok (.lload_n 1, 1) := by decide +kernel
theorem d_Md_mixed_28 : decode b_Md_mixed 28 = .ok (.land, 1) := by decide +kernel
theorem d_Md_mixed_29 : decode b_Md_mixed 29 = .ok (.ldc2_w 254, 3) := by decide +kernel
theorem d_Md_mixed_32 : decode b_Md_mixed 32 = .ok (.lload 5, 2) := by decide +kernel
theorem d_Md_mixed_34 : decode b_Md_mixed 34 = .ok (.lsub, 1) := by decide +kernel
theorem d_Md_mixed_35 : decode b_Md_mixed 35 = .ok (.lload_n 3, 1) := by decide +kernel
theorem d_Md_mixed_36 : decode b_Md_mixed 36 = .ok (.land, 1) := by decide +kernel
theorem d_Md_mixed_37 : decode b_Md_mixed 37 = .ok (.lor, 1) := by decide +kernel
theorem d_Md_mixed_38 : decode b_Md_mixed 38 = .ok (.lreturn, 1) := by decide +kernel
theorem d_Md_mixed_6 : decode b_Md_mixed 6 = .ok (.lload_n 1, 1) := by decide +kernel
theorem d_Md_mixed_7 : decode b_Md_mixed 7 = .ok (.lload_n 3, 1) := by decide +kernel
theorem d_Md_mixed_8 : decode b_Md_mixed 8 = .ok (.land, 1) := by decide +kernel
theorem d_Md_mixed_9 : decode b_Md_mixed 9 = .ok (.ldc2_w 254, 3) := by decide +kernel
theorem d_Md_mixed_12 : decode b_Md_mixed 12 = .ok (.lload_n 1, 1) := by decide +kernel
theorem d_Md_mixed_13 : decode b_Md_mixed 13 = .ok (.lsub, 1) := by decide +kernel
theorem d_Md_mixed_14 : decode b_Md_mixed 14 = .ok (.lload 5, 2) := by decide +kernel
theorem d_Md_mixed_16 : decode b_Md_mixed 16 = .ok (.land, 1) := by decide +kernel
theorem d_Md_mixed_17 : decode b_Md_mixed 17 = .ok (.lor, 1) := by decide +kernel
theorem d_Md_mixed_18 : decode b_Md_mixed 18 = .ok (.lreturn, 1) := by decide +kernel
theorem d_Md_turn_0 : decode b_Md_turn 0 = .ok (.iload_n 0, 1) := by decide +kernel
theorem d_Md_turn_1 : decode b_Md_turn 1 = .ok (.iconst 4, 1) := by decide +kernel
theorem d_Md_turn_2 : decode b_Md_turn 2 = .ok (.irem, 1) := by decide +kernel
theorem d_Md_turn_3 : decode b_Md_turn 3 = .ok (.istore_n 1, 1) := by decide +kernel
theorem d_Md_turn_4 : decode b_Md_turn 4 = .ok (.iload_n 0, 1) := by decide +kernel
theorem d_Md_turn_5 : decode b_Md_turn 5 = .ok (.bipush 16, 2) := by decide +kernel
theorem d_Md_turn_7 : decode b_Md_turn 7 = .ok (.if_icmp .ge 10, 3) := by decide +kernel
theorem d_Md_turn_17 : decode b_Md_turn 17 = .ok (.iload_n 0, 1) := by decide +kernel
theorem d_Md_turn_18 : decode b_Md_turn 18 = .ok (.bipush 32, 2) := by decide +kernel
theorem d_Md_turn_20 : decode b_Md_turn 20 = .ok (.if_icmp .ge 34, 3) := by decide +kernel
theorem d_Md_turn_54 : decode b_Md_turn 54 = .ok (.iload_n 0, 1) := by decide +kernel
theorem d_Md_turn_55 : decode b_Md_turn 55 = .ok (.bipush 48, 2) := by decide +kernel
theorem d_Md_turn_57 : decode b_Md_turn 57 = .ok (.if_icmp .ge 36, 3) := by decide +kernel
theorem d_Md_turn_93 : decode b_Md_turn 93 = .ok (.iload_n 1, 1) := by decide +kernel
theorem d_Md_turn_94 : decode b_Md_turn 94 = .ok (.ifCond .ne 8, 3) := by decide +kernel
theorem d_Md_turn_102 : decode b_Md_turn 102 = .ok (.iload_n 1, 1) := by decide +kernel
theorem d_Md_turn_103 : decode b_Md_turn 103 = .ok (.iconst 1, 1) := by decide +kernel
theorem d_Md_turn_104 : decode b_Md_turn 104 = .ok (.if_icmp .ne 8, 3) := by decide +kernel
theorem d_Md_turn_112 : decode b_Md_turn 112 = .ok (.iload_n 1, 1) := by decide +kernel
theorem d_Md_turn_113 : decode b_Md_turn 113 = .ok (.iconst 2, 1) := by decide +kernel
theorem d_Md_turn_114 : decode b_Md_turn 114 = .ok (.if_icmp .ne 8, 3) := by decide +kernel
theorem d_Md_turn_122 : decode b_Md_turn 122 = .ok (.bipush 21, 2) := by decide +kernel
theorem d_Md_turn_124 : decode b_Md_turn 124 = .ok (.ireturn, 1) := by decide +kernel
theorem d_Md_turn_117 : decode b_Md_turn 117 = .ok (.bipush 15, 2) := by decide +kernel
theorem d_Md_turn_119 : decode b_Md_turn 119 = .ok (.goto 5, 3) := by decide +kernel
theorem d_Md_turn_107 : decode b_Md_turn 107 = .ok (.bipush 10, 2) := by decide +kernel
theorem d_Md_turn_109 : decode b_Md_turn 109 = .ok (.goto 15, 3) := by decide +kernel
theorem d_Md_turn_97 : decode b_Md_turn 97 = .ok (.bipush 6, 2) := by decide +kernel
theorem d_Md_turn_99 : decode b_Md_turn 99 = .ok (.goto 25, 3) := by decide +kernel
theorem d_Md_turn_60 : decode b_Md_turn 60 = .ok (.iload_n 1, 1) := by decide +kernel
theorem d_Md_turn_61 : decode b_Md_turn 61 = .ok (.ifCond .ne 7, 3) := by decide +kernel
theorem d_Md_turn_68 : decode b_Md_turn 68 = .ok (.iload_n 1, 1) := by decide +kernel
theorem d_Md_turn_69 : decode b_Md_turn 69 = .ok (.iconst 1, 1) := by decide +kernel
theorem d_Md_turn_70 : decode b_Md_turn 70 = .ok (.if_icmp .ne 8, 3) := by decide +kernel
theorem d_Md_turn_78 : decode b_Md_turn 78 = .ok (.iload_n 1, 1) := by decide +kernel
theorem d_Md_turn_79 : decode b_Md_turn 79 = .ok (.iconst 2, 1) := by decide +kernel
theorem d_Md_turn_80 : decode b_Md_turn 80 = .ok (.if_icmp .ne 8, 3) := by decide +kernel
theorem d_Md_turn_88 : decode b_Md_turn 88 = .ok (.bipush 23, 2) := by decide +kernel
theorem d_Md_turn_90 : decode b_Md_turn 90 = .ok (.goto 34, 3) := by decide +kernel
theorem d_Md_turn_83 : decode b_Md_turn 83 = .ok (.bipush 16, 2) := by decide +kernel
theorem d_Md_turn_85 : decode b_Md_turn 85 = .ok (.goto 39, 3) := by decide +kernel
theorem d_Md_turn_73 : decode b_Md_turn 73 = .ok (.bipush 11, 2) := by decide +kernel
theorem d_Md_turn_75 : decode b_Md_turn 75 = .ok (.goto 49, 3) := by decide +kernel
theorem d_Md_turn_64 : decode b_Md_turn 64 = .ok (.iconst 4, 1) := by decide +kernel
theorem d_Md_turn_65 : decode b_Md_turn 65 = .ok (.goto 59, 3) := by decide +kernel
theorem d_Md_turn_23 : decode b_Md_turn 23 = .ok (.iload_n 1, 1) := by decide +kernel
theorem d_Md_turn_24 : decode b_Md_turn 24 = .ok (.ifCond .ne 7, 3) := by decide +kernel
theorem d_Md_turn_31 : decode b_Md_turn 31 = .ok (.iload_n 1, 1) := by decide +kernel
theorem d_Md_turn_32 : decode b_Md_turn 32 = .ok (.iconst 1, 1) := by decide +kernel
theorem d_Md_turn_33 : decode b_Md_turn 33 = .ok (.if_icmp .ne 8, 3) := by decide +kernel
theorem d_Md_turn_41 : decode b_Md_turn 41 = .ok (.iload_n 1, 1) := by decide +kernel
theorem d_Md_turn_42 : decode b_Md_turn 42 = .ok (.iconst 2, 1) := by decide +kernel
theorem d_Md_turn_43 : decode b_Md_turn 43 = .ok (.if_icmp .ne 8, 3) := by decide +kernel
theorem d_Md_turn_51 : decode b_Md_turn 51 = .ok (.bipush 20, 2) := by decide +kernel
theorem d_Md_turn_53 : decode b_Md_turn 53 = .ok (.ireturn, 1) := by decide +kernel
theorem d_Md_turn_46 : decode b_Md_turn 46 = .ok (.bipush 14, 2) := by decide +kernel
theorem d_Md_turn_48 : decode b_Md_turn 48 = .ok (.goto 5, 3) := by decide +kernel
theorem d_Md_turn_36 : decode b_Md_turn 36 = .ok (.bipush 9, 2) := by decide +kernel
theorem d_Md_turn_38 : decode b_Md_turn 38 = .ok (.goto 15, 3) := by decide +kernel
theorem d_Md_turn_27 : decode b_Md_turn 27 = .ok (.iconst 5, 1) := by decide +kernel
theorem d_Md_turn_28 : decode b_Md_turn 28 = .ok (.goto 25, 3) := by decide +kernel
theorem d_Md_turn_10 : decode b_Md_turn 10 = .ok (.bipush 7, 2) := by decide +kernel
theorem d_Md_turn_12 : decode b_Md_turn 12 = .ok (.iconst 5, 1) := by decide +kernel
theorem d_Md_turn_13 : decode b_Md_turn 13 = .ok (.iload_n 1, 1) := by decide +kernel
theorem d_Md_turn_14 : decode b_Md_turn 14 = .ok (.imul, 1) := by decide +kernel
theorem d_Md_turn_15 : decode b_Md_turn 15 = .ok (.iadd, 1) := by decide +kernel
theorem d_Md_turn_16 : decode b_Md_turn 16 = .ok (.ireturn, 1) := by decide +kernel
theorem d_Md_turned_0 : decode b_Md_turned 0 = .ok (.lload_n 0, 1) := by decide +kernel
theorem d_Md_turned_1 : decode b_Md_turned 1 = .ok (.ldc2_w 254, 3) := by decide +kernel
theorem d_Md_turned_4 : decode b_Md_turned 4 = .ok (.land, 1) := by decide +kernel
theorem d_Md_turned_5 : decode b_Md_turned 5 = .ok (.lstore_n 3, 1) := by decide +kernel
theorem d_Md_turned_6 : decode b_Md_turned 6 = .ok (.lload_n 3, 1) := by decide +kernel
theorem d_Md_turned_7 : decode b_Md_turned 7 = .ok (.iload_n 2, 1) := by decide +kernel
theorem d_Md_turned_8 : decode b_Md_turned 8 = .ok (.lshl, 1) := by decide +kernel
theorem d_Md_turned_9 : decode b_Md_turned 9 = .ok (.lload_n 3, 1) := by decide +kernel
theorem d_Md_turned_10 : decode b_Md_turned 10 = .ok (.bipush 32, 2) := by decide +kernel
theorem d_Md_turned_12 : decode b_Md_turned 12 = .ok (.iload_n 2, 1) := by decide +kernel
theorem d_Md_turned_13 : decode b_Md_turned 13 = .ok (.isub, 1) := by decide +kernel
theorem d_Md_turned_14 : decode b_Md_turned 14 = .ok (.lshr, 1) := by decide +kernel
theorem d_Md_turned_15 : decode b_Md_turned 15 = .ok (.lor, 1) := by decide +kernel
theorem d_Md_turned_16 : decode b_Md_turned 16 = .ok (.ldc2_w 254, 3) := by decide +kernel
theorem d_Md_turned_19 : decode b_Md_turned 19 = .ok (.land, 1) := by decide +kernel
theorem d_Md_turned_20 : decode b_Md_turned 20 = .ok (.lreturn, 1) := by decide +kernel
theorem d_Md_wordAt_51 : decode b_Md_wordAt 51 = .ok (.istore_n 3, 1) := by decide +kernel
theorem d_Md_wordAt_52 : decode b_Md_wordAt 52 = .ok (.lconst 0, 1) := by decide +kernel
theorem d_Md_wordAt_53 : decode b_Md_wordAt 53 = .ok (.lstore 4, 2) := by decide +kernel
theorem d_Md_wordAt_55 : decode b_Md_wordAt 55 = .ok (.iconst 3, 1) := by decide +kernel
theorem d_Md_wordAt_56 : decode b_Md_wordAt 56 = .ok (.istore 6, 2) := by decide +kernel
theorem d_Md_wordAt_58 : decode b_Md_wordAt 58 = .ok (.iload 6, 2) := by decide +kernel
theorem d_Md_wordAt_60 : decode b_Md_wordAt 60 = .ok (.ifCond .lt 32, 3) := by decide +kernel
theorem d_Md_wordAt_63 : decode b_Md_wordAt 63 = .ok (.ldc2_w 282, 3) := by decide +kernel
theorem d_Md_wordAt_66 : decode b_Md_wordAt 66 = .ok (.lload 4, 2) := by decide +kernel
theorem d_Md_wordAt_68 : decode b_Md_wordAt 68 = .ok (.lmul, 1) := by decide +kernel
theorem d_Md_wordAt_69 : decode b_Md_wordAt 69 = .ok (.aload_n 0, 1) := by decide +kernel
theorem d_Md_wordAt_70 : decode b_Md_wordAt 70 = .ok (.getfield 157, 3) := by decide +kernel
theorem d_Md_wordAt_73 : decode b_Md_wordAt 73 = .ok (.iload_n 1, 1) := by decide +kernel
theorem d_Md_wordAt_74 : decode b_Md_wordAt 74 = .ok (.iconst 4, 1) := by decide +kernel
theorem d_Md_wordAt_75 : decode b_Md_wordAt 75 = .ok (.iload_n 3, 1) := by decide +kernel
theorem d_Md_wordAt_76 : decode b_Md_wordAt 76 = .ok (.imul, 1) := by decide +kernel
theorem d_Md_wordAt_77 : decode b_Md_wordAt 77 = .ok (.iadd, 1) := by decide +kernel
theorem d_Md_wordAt_78 : decode b_Md_wordAt 78 = .ok (.iload 6, 2) := by decide +kernel
theorem d_Md_wordAt_80 : decode b_Md_wordAt 80 = .ok (.iadd, 1) := by decide +kernel
theorem d_Md_wordAt_81 : decode b_Md_wordAt 81 = .ok (.iaload, 1) := by decide +kernel
theorem d_Md_wordAt_82 : decode b_Md_wordAt 82 = .ok (.i2l, 1) := by decide +kernel
theorem d_Md_wordAt_83 : decode b_Md_wordAt 83 = .ok (.ladd, 1) := by decide +kernel
theorem d_Md_wordAt_84 : decode b_Md_wordAt 84 = .ok (.lstore 4, 2) := by decide +kernel
theorem d_Md_wordAt_86 : decode b_Md_wordAt 86 = .ok (.iinc 6 (-1), 3) := by decide +kernel
theorem d_Md_wordAt_89 : decode b_Md_wordAt 89 = .ok (.goto (-31), 3) := by decide +kernel
theorem d_Md_wordAt_92 : decode b_Md_wordAt 92 = .ok (.lload 4, 2) := by decide +kernel
theorem d_Md_wordAt_94 : decode b_Md_wordAt 94 = .ok (.lreturn, 1) := by decide +kernel
theorem d_Md_wordAt_0 : decode b_Md_wordAt 0 = .ok (.iload_n 2, 1) := by decide +kernel
theorem d_Md_wordAt_1 : decode b_Md_wordAt 1 = .ok (.bipush 16, 2) := by decide +kernel
theorem d_Md_wordAt_3 : decode b_Md_wordAt 3 = .ok (.if_icmp .ge 7, 3) := by decide +kernel
theorem d_Md_wordAt_6 : decode b_Md_wordAt 6 = .ok (.iload_n 2, 1) := by decide +kernel
theorem d_Md_wordAt_7 : decode b_Md_wordAt 7 = .ok (.goto 44, 3) := by decide +kernel
theorem d_Md_wordAt_10 : decode b_Md_wordAt 10 = .ok (.iload_n 2, 1) := by decide +kernel
theorem d_Md_wordAt_11 : decode b_Md_wordAt 11 = .ok (.bipush 32, 2) := by decide +kernel
theorem d_Md_wordAt_13 : decode b_Md_wordAt 13 = .ok (.if_icmp .ge 14, 3) := by decide +kernel
theorem d_Md_wordAt_16 : decode b_Md_wordAt 16 = .ok (.iconst 5, 1) := by decide +kernel
theorem d_Md_wordAt_17 : decode b_Md_wordAt 17 = .ok (.iload_n 2, 1) := by decide +kernel
theorem d_Md_wordAt_18 : decode b_Md_wordAt 18 = .ok (.imul, 1) := by decide +kernel
theorem d_Md_wordAt_19 : decode b_Md_wordAt 19 = .ok (.iconst 1, 1) := by decide +kernel
theorem d_Md_wordAt_20 : decode b_Md_wordAt 20 = .ok (.iadd, 1) := by decide +kernel
theorem d_Md_wordAt_21 : decode b_Md_wordAt 21 = .ok (.bipush 16, 2) := by decide +kernel
theorem d_Md_wordAt_23 : decode b_Md_wordAt 23 = .ok (.irem, 1) := by decide +kernel
theorem d_Md_wordAt_24 : decode b_Md_wordAt 24 = .ok (.goto 27, 3) := by decide +kernel
theorem d_Md_wordAt_27 : decode b_Md_wordAt 27 = .ok (.iload_n 2, 1) := by decide +kernel
theorem d_Md_wordAt_28 : decode b_Md_wordAt 28 = .ok (.bipush 48, 2) := by decide +kernel
theorem d_Md_wordAt_30 : decode b_Md_wordAt 30 = .ok (.if_icmp .ge 14, 3) := by decide +kernel
theorem d_Md_wordAt_33 : decode b_Md_wordAt 33 = .ok (.iconst 3, 1) := by decide +kernel
theorem d_Md_wordAt_34 : decode b_Md_wordAt 34 = .ok (.iload_n 2, 1) := by decide +kernel
theorem d_Md_wordAt_35 : decode b_Md_wordAt 35 = .ok (.imul, 1) := by decide +kernel
theorem d_Md_wordAt_36 : decode b_Md_wordAt 36 = .ok (.iconst 5, 1) := by decide +kernel
theorem d_Md_wordAt_37 : decode b_Md_wordAt 37 = .ok (.iadd, 1) := by decide +kernel
theorem d_Md_wordAt_38 : decode b_Md_wordAt 38 = .ok (.bipush 16, 2) := by decide +kernel
theorem d_Md_wordAt_40 : decode b_Md_wordAt 40 = .ok (.irem, 1) := by decide +kernel
theorem d_Md_wordAt_41 : decode b_Md_wordAt 41 = .ok (.goto 10, 3) := by decide +kernel
theorem d_Md_wordAt_44 : decode b_Md_wordAt 44 = .ok (.bipush 7, 2) := by decide +kernel
theorem d_Md_wordAt_46 : decode b_Md_wordAt 46 = .ok (.iload_n 2, 1) := by decide +kernel
theorem d_Md_wordAt_47 : decode b_Md_wordAt 47 = .ok (.imul, 1) := by decide +kernel
theorem d_Md_wordAt_48 : decode b_Md_wordAt 48 = .ok (.bipush 16, 2) := by decide +kernel
theorem d_Md_wordAt_50 : decode b_Md_wordAt 50 = .ok (.irem, 1) := by decide +kernel
theorem d_Md_md5_0 : decode b_Md_md5 0 = .ok (.aload_n 0, 1) := by decide +kernel
theorem d_Md_md5_1 : decode b_Md_md5 1 = .ok (.getfield 247, 3) := by decide +kernel
theorem d_Md_md5_4 : decode b_Md_md5 4 = .ok (.istore_n 1, 1) := by decide +kernel
theorem d_Md_md5_5 : decode b_Md_md5 5 = .ok (.aload_n 0, 1) := by decide +kernel
theorem d_Md_md5_6 : decode b_Md_md5 6 = .ok (.sipush 128, 3) := by decide +kernel
theorem d_Md_md5_9 : decode b_Md_md5 9 = .ok (.invokevirtual 250, 3) := by decide +kernel
theorem d_Md_md5_12 : decode b_Md_md5 12 = .ok (.aload_n 0, 1) := by decide +kernel
theorem d_Md_md5_13 : decode b_Md_md5 13 = .ok (.getfield 247, 3) := by decide +kernel
theorem d_Md_md5_16 : decode b_Md_md5 16 = .ok (.bipush 64, 2) := by decide +kernel
theorem d_Md_md5_18 : decode b_Md_md5 18 = .ok (.irem, 1) := by decide +kernel
theorem d_Md_md5_19 : decode b_Md_md5 19 = .ok (.bipush 56, 2) := by decide +kernel
theorem d_Md_md5_21 : decode b_Md_md5 21 = .ok (.if_icmp .eq 11, 3) := by decide +kernel
theorem d_Md_md5_24 : decode b_Md_md5 24 = .ok (.aload_n 0, 1) := by decide +kernel
theorem d_Md_md5_25 : decode b_Md_md5 25 = .ok (.iconst 0, 1) := by decide +kernel
theorem d_Md_md5_26 : decode b_Md_md5 26 = .ok (.invokevirtual 250, 3) := by decide +kernel
theorem d_Md_md5_29 : decode b_Md_md5 29 = .ok (.goto (-17), 3) := by decide +kernel
theorem d_Md_md5_32 : decode b_Md_md5 32 = .ok (.iconst 0, 1) := by decide +kernel
theorem d_Md_md5_33 : decode b_Md_md5 33 = .ok (.istore_n 2, 1) := by decide +kernel
theorem d_Md_md5_34 : decode b_Md_md5 34 = .ok (.iload_n 2, 1) := by decide +kernel
theorem d_Md_md5_35 : decode b_Md_md5 35 = .ok (.bipush 8, 2) := by decide +kernel
theorem d_Md_md5_37 : decode b_Md_md5 37 = .ok (.if_icmp .ge 35, 3) := by decide +kernel
theorem d_Md_md5_40 : decode b_Md_md5 40 = .ok (.aload_n 0, 1) := by decide +kernel
theorem d_Md_md5_41 : decode b_Md_md5 41 = .ok (.iload_n 2, 1) := by decide +kernel
theorem d_Md_md5_42 : decode b_Md_md5 42 = .ok (.iconst 4, 1) := by decide +kernel
theorem d_Md_md5_43 : decode b_Md_md5 43 = .ok (.if_icmp .ge 19, 3) := by decide +kernel
theorem d_Md_md5_62 : decode b_Md_md5 62 = .ok (.iconst 0, 1) := by decide +kernel
theorem d_Md_md5_63 : decode b_Md_md5 63 = .ok (.invokevirtual 250, 3) := by decide +kernel
theorem d_Md_md5_66 : decode b_Md_md5 66 = .ok (.iinc 2 1, 3) := by decide +kernel
theorem d_Md_md5_69 : decode b_Md_md5 69 = .ok (.goto (-35), 3) := by decide +kernel
theorem d_Md_md5_46 : decode b_Md_md5 46 = .ok (.bipush 8, 2) := by decide +kernel
theorem d_Md_md5_48 : decode b_Md_md5 48 = .ok (.iload_n 1, 1) := by decide +kernel
theorem d_Md_md5_49 : decode b_Md_md5 49 = .ok (.imul, 1) := by decide +kernel
theorem d_Md_md5_50 : decode b_Md_md5 50 = .ok (.bipush 8, 2) := by decide +kernel
theorem d_Md_md5_52 : decode b_Md_md5 52 = .ok (.iload_n 2, 1) := by decide +kernel
theorem d_Md_md5_53 : decode b_Md_md5 53 = .ok (.imul, 1) := by decide +kernel
theorem d_Md_md5_54 : decode b_Md_md5 54 = .ok (.ishr, 1) := by decide +kernel
theorem d_Md_md5_55 : decode b_Md_md5 55 = .ok (.sipush 255, 3) := by decide +kernel
theorem d_Md_md5_58 : decode b_Md_md5 58 = .ok (.iand, 1) := by decide +kernel
theorem d_Md_md5_59 : decode b_Md_md5 59 = .ok (.goto 4, 3) := by decide +kernel
theorem d_Md_md5_72 : decode b_Md_md5 72 = .ok (.ldc2_w 256, 3) := by decide +kernel
theorem d_Md_md5_75 : decode b_Md_md5 75 = .ok (.lstore_n 2, 1) := by decide +kernel
theorem d_Md_md5_76 : decode b_Md_md5 76 = .ok (.ldc2_w 258, 3) := by decide +kernel
theorem d_Md_md5_79 : decode b_Md_md5 79 = .ok (.lstore 4, 2) := by decide +kernel
theorem d_Md_md5_81 : decode b_Md_md5 81 = .ok (.ldc2_w 260, 3) := by decide +kernel
theorem d_Md_md5_84 : decode b_Md_md5 84 = .ok (.lstore 6, 2) := by decide +kernel
theorem d_Md_md5_86 : decode b_Md_md5 86 = .ok (.ldc2_w 262, 3) := by decide +kernel
theorem d_Md_md5_89 : decode b_Md_md5 89 = .ok (.lstore 8, 2) := by decide +kernel
theorem d_Md_md5_91 : decode b_Md_md5 91 = .ok (.iconst 0, 1) := by decide +kernel
theorem d_Md_md5_92 : decode b_Md_md5 92 = .ok (.istore 10, 2) := by decide +kernel
theorem d_Md_md5_94 : decode b_Md_md5 94 = .ok (.iload 10, 2) := by decide +kernel
theorem d_Md_md5_96 : decode b_Md_md5 96 = .ok (.aload_n 0, 1) := by decide +kernel
theorem d_Md_md5_97 : decode b_Md_md5 97 = .ok (.getfield 247, 3) := by decide +kernel
theorem d_Md_md5_100 : decode b_Md_md5 100 = .ok (.if_icmp .ge 148, 3) := by decide +kernel
theorem d_Md_md5_103 : decode b_Md_md5 103 = .ok (.lload_n 2, 1) := by decide +kernel
theorem d_Md_md5_104 : decode b_Md_md5 104 = .ok (.lstore 11, 2) := by decide +kernel
theorem d_Md_md5_106 : decode b_Md_md5 106 = .ok (.lload 4, 2) := by decide +kernel
theorem d_Md_md5_108 : decode b_Md_md5 108 = .ok (.lstore 13, 2) := by decide +kernel
theorem d_Md_md5_110 : decode b_Md_md5 110 = .ok (.lload 6, 2) := by decide +kernel
theorem d_Md_md5_112 : decode b_Md_md5 112 = .ok (.lstore 15, 2) := by decide +kernel
theorem d_Md_md5_114 : decode b_Md_md5 114 = .ok (.lload 8, 2) := by decide +kernel
theorem d_Md_md5_116 : decode b_Md_md5 116 = .ok (.lstore 17, 2) := by decide +kernel
theorem d_Md_md5_118 : decode b_Md_md5 118 = .ok (.iconst 0, 1) := by decide +kernel
theorem d_Md_md5_119 : decode b_Md_md5 119 = .ok (.istore 19, 2) := by decide +kernel
theorem d_Md_md5_121 : decode b_Md_md5 121 = .ok (.iload 19, 2) := by decide +kernel
theorem d_Md_md5_123 : decode b_Md_md5 123 = .ok (.bipush 64, 2) := by decide +kernel
theorem d_Md_md5_125 : decode b_Md_md5 125 = .ok (.if_icmp .ge 75, 3) := by decide +kernel
theorem d_Md_md5_128 : decode b_Md_md5 128 = .ok (.iload 19, 2) := by decide +kernel
theorem d_Md_md5_130 : decode b_Md_md5 130 = .ok (.lload 4, 2) := by decide +kernel
theorem d_Md_md5_132 : decode b_Md_md5 132 = .ok (.lload 6, 2) := by decide +kernel
theorem d_Md_md5_134 : decode b_Md_md5 134 = .ok (.lload 8, 2) := by decide +kernel
theorem d_Md_md5_136 : decode b_Md_md5 136 = .ok (.invokestatic 264, 3) := by decide +kernel
theorem d_Md_md5_139 : decode b_Md_md5 139 = .ok (.lstore 20, 2) := by decide +kernel
theorem d_Md_md5_141 : decode b_Md_md5 141 = .ok (.lload_n 2, 1) := by decide +kernel
theorem d_Md_md5_142 : decode b_Md_md5 142 = .ok (.lload 20, 2) := by decide +kernel
theorem d_Md_md5_144 : decode b_Md_md5 144 = .ok (.ladd, 1) := by decide +kernel
theorem d_Md_md5_145 : decode b_Md_md5 145 = .ok (.aload_n 0, 1) := by decide +kernel
theorem d_Md_md5_146 : decode b_Md_md5 146 = .ok (.getfield 135, 3) := by decide +kernel
theorem d_Md_md5_149 : decode b_Md_md5 149 = .ok (.iload 19, 2) := by decide +kernel
theorem d_Md_md5_151 : decode b_Md_md5 151 = .ok (.laload, 1) := by decide +kernel
theorem d_Md_md5_152 : decode b_Md_md5 152 = .ok (.ladd, 1) := by decide +kernel
theorem d_Md_md5_153 : decode b_Md_md5 153 = .ok (.aload_n 0, 1) := by decide +kernel
theorem d_Md_md5_154 : decode b_Md_md5 154 = .ok (.iload 10, 2) := by decide +kernel
theorem d_Md_md5_156 : decode b_Md_md5 156 = .ok (.iload 19, 2) := by decide +kernel
theorem d_Md_md5_158 : decode b_Md_md5 158 = .ok (.invokevirtual 268, 3) := by decide +kernel
theorem d_Md_md5_161 : decode b_Md_md5 161 = .ok (.ladd, 1) := by decide +kernel
theorem d_Md_md5_162 : decode b_Md_md5 162 = .ok (.lstore 22, 2) := by decide +kernel
theorem d_Md_md5_164 : decode b_Md_md5 164 = .ok (.lload 8, 2) := by decide +kernel
theorem d_Md_md5_166 : decode b_Md_md5 166 = .ok (.lstore_n 2, 1) := by decide +kernel
theorem d_Md_md5_167 : decode b_Md_md5 167 = .ok (.lload 6, 2) := by decide +kernel
theorem d_Md_md5_169 : decode b_Md_md5 169 = .ok (.lstore 8, 2) := by decide +kernel
theorem d_Md_md5_171 : decode b_Md_md5 171 = .ok (.lload 4, 2) := by decide +kernel
theorem d_Md_md5_173 : decode b_Md_md5 173 = .ok (.lstore 6, 2) := by decide +kernel
theorem d_Md_md5_175 : decode b_Md_md5 175 = .ok (.lload 4, 2) := by decide +kernel
theorem d_Md_md5_177 : decode b_Md_md5 177 = .ok (.lload 22, 2) := by decide +kernel
theorem d_Md_md5_179 : decode b_Md_md5 179 = .ok (.iload 19, 2) := by decide +kernel
theorem d_Md_md5_181 : decode b_Md_md5 181 = .ok (.invokestatic 272, 3) := by decide +kernel
theorem d_Md_md5_184 : decode b_Md_md5 184 = .ok (.invokestatic 276, 3) := by decide +kernel
theorem d_Md_md5_187 : decode b_Md_md5 187 = .ok (.ladd, 1) := by decide +kernel
theorem d_Md_md5_188 : decode b_Md_md5 188 = .ok (.ldc2_w 254, 3) := by decide +kernel
theorem d_Md_md5_191 : decode b_Md_md5 191 = .ok (.land, 1) := by decide +kernel
theorem d_Md_md5_192 : decode b_Md_md5 192 = .ok (.lstore 4, 2) := by decide +kernel
theorem d_Md_md5_194 : decode b_Md_md5 194 = .ok (.iinc 19 1, 3) := by decide +kernel
theorem d_Md_md5_197 : decode b_Md_md5 197 = .ok (.goto (-76), 3) := by decide +kernel
theorem d_Md_md5_200 : decode b_Md_md5 200 = .ok (.lload_n 2, 1) := by decide +kernel
theorem d_Md_md5_201 : decode b_Md_md5 201 = .ok (.lload 11, 2) := by decide +kernel
theorem d_Md_md5_203 : decode b_Md_md5 203 = .ok (.ladd, 1) := by decide +kernel
theorem d_Md_md5_204 : decode b_Md_md5 204 = .ok (.ldc2_w 254, 3) := by decide +kernel
theorem d_Md_md5_207 : decode b_Md_md5 207 = .ok (.land, 1) := by decide +kernel
theorem d_Md_md5_208 : decode b_Md_md5 208 = .ok (.lstore_n 2, 1) := by decide +kernel
theorem d_Md_md5_209 : decode b_Md_md5 209 = .ok (.lload 4, 2) := by decide +kernel
theorem d_Md_md5_211 : decode b_Md_md5 211 = .ok (.lload 13, 2) := by decide +kernel
theorem d_Md_md5_213 : decode b_Md_md5 213 = .ok (.ladd, 1) := by decide +kernel
theorem d_Md_md5_214 : decode b_Md_md5 214 = .ok (.ldc2_w 254, 3) := by decide +kernel
theorem d_Md_md5_217 : decode b_Md_md5 217 = .ok (.land, 1) := by decide +kernel
theorem d_Md_md5_218 : decode b_Md_md5 218 = .ok (.lstore 4, 2) := by decide +kernel
theorem d_Md_md5_220 : decode b_Md_md5 220 = .ok (.lload 6, 2) := by decide +kernel
theorem d_Md_md5_222 : decode b_Md_md5 222 = .ok (.lload 15, 2) := by decide +kernel
theorem d_Md_md5_224 : decode b_Md_md5 224 = .ok (.ladd, 1) := by decide +kernel
theorem d_Md_md5_225 : decode b_Md_md5 225 = .ok (.ldc2_w 254, 3) := by decide +kernel
theorem d_Md_md5_228 : decode b_Md_md5 228 = .ok (.land, 1) := by decide +kernel
theorem d_Md_md5_229 : decode b_Md_md5 229 = .ok (.lstore 6, 2) := by decide +kernel
theorem d_Md_md5_231 : decode b_Md_md5 231 = .ok (.lload 8, 2) := by decide +kernel
theorem d_Md_md5_233 : decode b_Md_md5 233 = .ok (.lload 17, 2) := by decide +kernel
theorem d_Md_md5_235 : decode b_Md_md5 235 = .ok (.ladd, 1) := by decide +kernel
theorem d_Md_md5_236 : decode b_Md_md5 236 = .ok (.ldc2_w 254, 3) := by decide +kernel
theorem d_Md_md5_239 : decode b_Md_md5 239 = .ok (.land, 1) := by decide +kernel
theorem d_Md_md5_240 : decode b_Md_md5 240 = .ok (.lstore 8, 2) := by decide +kernel
theorem d_Md_md5_242 : decode b_Md_md5 242 = .ok (.iinc 10 64, 3) := by decide +kernel
theorem d_Md_md5_245 : decode b_Md_md5 245 = .ok (.goto (-151), 3) := by decide +kernel
theorem d_Md_md5_248 : decode b_Md_md5 248 = .ok (.iconst 0, 1) := by decide +kernel
theorem d_Md_md5_249 : decode b_Md_md5 249 = .ok (.istore 10, 2) := by decide +kernel
theorem d_Md_md5_251 : decode b_Md_md5 251 = .ok (.iload 10, 2) := by decide +kernel
theorem d_Md_md5_253 : decode b_Md_md5 253 = .ok (.iconst 4, 1) := by decide +kernel
theorem d_Md_md5_254 : decode b_Md_md5 254 = .ok (.if_icmp .ge 96, 3) := by decide +kernel
theorem d_Md_md5_257 : decode b_Md_md5 257 = .ok (.aload_n 0, 1) := by decide +kernel
theorem d_Md_md5_258 : decode b_Md_md5 258 = .ok (.getfield 160, 3) := by decide +kernel
theorem d_Md_md5_261 : decode b_Md_md5 261 = .ok (.iload 10, 2) := by decide +kernel
theorem d_Md_md5_263 : decode b_Md_md5 263 = .ok (.lload_n 2, 1) := by decide +kernel
theorem d_Md_md5_264 : decode b_Md_md5 264 = .ok (.bipush 8, 2) := by decide +kernel
theorem d_Md_md5_266 : decode b_Md_md5 266 = .ok (.iload 10, 2) := by decide +kernel
theorem d_Md_md5_268 : decode b_Md_md5 268 = .ok (.imul, 1) := by decide +kernel
theorem d_Md_md5_269 : decode b_Md_md5 269 = .ok (.lshr, 1) := by decide +kernel
theorem d_Md_md5_270 : decode b_Md_md5 270 = .ok (.ldc2_w 280, 3) := by decide +kernel
theorem d_Md_md5_273 : decode b_Md_md5 273 = .ok (.land, 1) := by decide +kernel
theorem d_Md_md5_274 : decode b_Md_md5 274 = .ok (.l2i, 1) := by decide +kernel
theorem d_Md_md5_275 : decode b_Md_md5 275 = .ok (.iastore, 1) := by decide +kernel
theorem d_Md_md5_276 : decode b_Md_md5 276 = .ok (.aload_n 0, 1) := by decide +kernel
theorem d_Md_md5_277 : decode b_Md_md5 277 = .ok (.getfield 160, 3) := by decide +kernel
theorem d_Md_md5_280 : decode b_Md_md5 280 = .ok (.iconst 4, 1) := by decide +kernel
theorem d_Md_md5_281 : decode b_Md_md5 281 = .ok (.iload 10, 2) := by decide +kernel
theorem d_Md_md5_283 : decode b_Md_md5 283 = .ok (.iadd, 1) := by decide +kernel
theorem d_Md_md5_284 : decode b_Md_md5 284 = .ok (.lload 4, 2) := by decide +kernel
theorem d_Md_md5_286 : decode b_Md_md5 286 = .ok (.bipush 8, 2) := by decide +kernel
theorem d_Md_md5_288 : decode b_Md_md5 288 = .ok (.iload 10, 2) := by decide +kernel
theorem d_Md_md5_290 : decode b_Md_md5 290 = .ok (.imul, 1) := by decide +kernel
theorem d_Md_md5_291 : decode b_Md_md5 291 = .ok (.lshr, 1) := by decide +kernel
theorem d_Md_md5_292 : decode b_Md_md5 292 = .ok (.ldc2_w 280, 3) := by decide +kernel
theorem d_Md_md5_295 : decode b_Md_md5 295 = .ok (.land, 1) := by decide +kernel
theorem d_Md_md5_296 : decode b_Md_md5 296 = .ok (.l2i, 1) := by decide +kernel
theorem d_Md_md5_297 : decode b_Md_md5 297 = .ok (.iastore, 1) := by decide +kernel
theorem d_Md_md5_298 : decode b_Md_md5 298 = .ok (.aload_n 0, 1) := by decide +kernel
theorem d_Md_md5_299 : decode b_Md_md5 299 = .ok (.getfield 160, 3) := by decide +kernel
theorem d_Md_md5_302 : decode b_Md_md5 302 = .ok (.bipush 8, 2) := by decide +kernel
theorem d_Md_md5_304 : decode b_Md_md5 304 = .ok (.iload 10, 2) := by decide +kernel
theorem d_Md_md5_306 : decode b_Md_md5 306 = .ok (.iadd, 1) := by decide +kernel
theorem d_Md_md5_307 : decode b_Md_md5 307 = .ok (.lload 6, 2) := by decide +kernel
theorem d_Md_md5_309 : decode b_Md_md5 309 = .ok (.bipush 8, 2) := by decide +kernel
theorem d_Md_md5_311 : decode b_Md_md5 311 = .ok (.iload 10, 2) := by decide +kernel
theorem d_Md_md5_313 : decode b_Md_md5 313 = .ok (.imul, 1) := by decide +kernel
theorem d_Md_md5_314 : decode b_Md_md5 314 = .ok (.lshr, 1) := by decide +kernel
theorem d_Md_md5_315 : decode b_Md_md5 315 = .ok (.ldc2_w 280, 3) := by decide +kernel
theorem d_Md_md5_318 : decode b_Md_md5 318 = .ok (.land, 1) := by decide +kernel
theorem d_Md_md5_319 : decode b_Md_md5 319 = .ok (.l2i, 1) := by decide +kernel
theorem d_Md_md5_320 : decode b_Md_md5 320 = .ok (.iastore, 1) := by decide +kernel
theorem d_Md_md5_321 : decode b_Md_md5 321 = .ok (.aload_n 0, 1) := by decide +kernel
theorem d_Md_md5_322 : decode b_Md_md5 322 = .ok (.getfield 160, 3) := by decide +kernel
theorem d_Md_md5_325 : decode b_Md_md5 325 = .ok (.bipush 12, 2) := by decide +kernel
theorem d_Md_md5_327 : decode b_Md_md5 327 = .ok (.iload 10, 2) := by decide +kernel
theorem d_Md_md5_329 : decode b_Md_md5 329 = .ok (.iadd, 1) := by decide +kernel
theorem d_Md_md5_330 : decode b_Md_md5 330 = .ok (.lload 8, 2) := by decide +kernel
theorem d_Md_md5_332 : decode b_Md_md5 332 = .ok (.bipush 8, 2) := by decide +kernel
theorem d_Md_md5_334 : decode b_Md_md5 334 = .ok (.iload 10, 2) := by decide +kernel
theorem d_Md_md5_336 : decode b_Md_md5 336 = .ok (.imul, 1) := by decide +kernel
theorem d_Md_md5_337 : decode b_Md_md5 337 = .ok (.lshr, 1) := by decide +kernel
theorem d_Md_md5_338 : decode b_Md_md5 338 = .ok (.ldc2_w 280, 3) := by decide +kernel
theorem d_Md_md5_341 : decode b_Md_md5 341 = .ok (.land, 1) := by decide +kernel
theorem d_Md_md5_342 : decode b_Md_md5 342 = .ok (.l2i, 1) := by decide +kernel
theorem d_Md_md5_343 : decode b_Md_md5 343 = .ok (.iastore, 1) := by decide +kernel
theorem d_Md_md5_344 : decode b_Md_md5 344 = .ok (.iinc 10 1, 3) := by decide +kernel
theorem d_Md_md5_347 : decode b_Md_md5 347 = .ok (.goto (-96), 3) := by decide +kernel
theorem d_Md_md5_350 : decode b_Md_md5 350 = .ok (.aload_n 0, 1) := by decide +kernel
theorem d_Md_md5_351 : decode b_Md_md5 351 = .ok (.iconst 0, 1) := by decide +kernel
theorem d_Md_md5_352 : decode b_Md_md5 352 = .ok (.putfield 247, 3) := by decide +kernel
theorem d_Md_md5_355 : decode b_Md_md5 355 = .ok (.return_, 1) := by decide +kernel
theorem BY_l255 (x : Int64) : BY ((x &&& 255).toInt32) := BY_of (by
  have h1 : (x &&& 255).toInt32.toBitVec = ((x &&& 255).toBitVec).signExtend 32 := rfl
  rw [h1, BitVec.signExtend_eq_setWidth_of_le _ (by decide), BitVec.toNat_setWidth]
  have h2 : (x &&& 255).toBitVec.toNat ≤ 255 := by
    show (x.toBitVec &&& (255 : Int64).toBitVec).toNat ≤ 255
    rw [BitVec.toNat_and]
    exact Nat.le_trans Nat.and_le_right (by decide)
  omega)
set_option maxHeartbeats 4000000 in
set_option maxRecDepth 100000 in
/-- mixed -/
theorem m_mixed (l : Launch) (dC : Nat → ClassId) (dI : Nat → Nat → Nat) (cT : Nat → ClassId) (sz : Nat) (j : Int32) (lb : Int64) (lc : Int64) (ld : Int64)  : Met l y_Md_mixed (Cond.code y_Md_mixed b_Md_mixed 7 (Option.some Jvm.ClassFile.FieldType.long) :: BIG) ({ frames := 0, cells := 0, slots := 0, locals := 0 }) (va_Pc [.int j, .long lb, .long lc, .long ld] (fun U => U.heap.size = sz ∧ va_P (dC, dI) vcl [] U.heap ∧ va_K (dC, dI) vcl (tyL cT) U ∧ va_D (fun _ => True) [])) (va_Ql (S := Unit) (fun rv9 u => True) (fun u t => va_P (dC, dI) vcl [] t.heap ∧ va_K (dC, dI) vcl (tyL cT) t ∧ va_D (va_A [] sz) []) (va_A [] sz)) 0 0 (va_A [] sz) := by
  refine Met.ofW (cc := b_Md_mixed) (maxL := 7) (ret := (Option.some Jvm.ClassFile.FieldType.long)) (by decide) rfl ?_
  intro p e s m args below meth c s₁ B hml hv
  obtain ⟨hargs, hsz, hP, hK, hD0⟩ := hv
  have hx := B.exec
  have hb := B.bytes
  have hr := B.returns
  have hts := atoms_spec (ws := (Cond.code y_Md_mixed b_Md_mixed 7 (Option.some Jvm.ClassFile.FieldType.long) :: BIG)) B.pre
  have hg : ∀ w ∈ BIG, w.before _ s = true := fun w h => hts w (List.mem_cons_of_mem _ h)
  have hown : s.vm.findClass "DoorServerModel" = some m.cls := findClass_of_methodNamed B.named
  have hlocks := B.notSynchronized
  subst hsz
  have hD := hD0.self (sz := s.heap.size)
  generalize hAe : va_A [] s.heap.size = A at hD ⊢
  have hA : ∀ q : Nat, s.heap.size ≤ q → A q := fun q h => by rw [← hAe]; exact Or.inr h
  have hS : va_S A s.heap s.heap [] := va_S.rf
  have hl := lv_entry ([.int j, .long lb, .long lc, .long ld]) (n := 7) (Nat.le_of_ble_eq_true rfl)
  refine W.eq (g2 := entryFrame m (List.toArray [.int j, .long lb, .long lc, .long ld]) 7) (by rw [hargs]) ?_
  rw [lg_entry_eq]
  generalize (lg_sl ([.int j, .long lb, .long lc, .long ld]) ++ List.replicate (7 - (lg_sl ([.int j, .long lb, .long lc, .long ld])).length) Slot.unset).toArray = ls at hl ⊢
  have hl : lv_has ls 7 [(0, .int j), (1, .long lb), (3, .long lc), (5, .long ld)] := hl
  change W p l e ({ frames := 0, cells := 0, slots := 0, locals := 0 } : Room) s m args below meth c s.heap [] 0 0 _ _
  have hP : va_P (dC, dI) vcl [] s.heap := hP
  refine lv_iload_n hx hb d_Md_mixed_0 rfl (lv_at hl 0 rfl) ?_
  refine lv_bipush (v := 16) hx hb d_Md_mixed_1 (by decide) ?_
  refine lv_icmp_ge (tgt := 19) hx hb d_Md_mixed_3 (by decide) (fun hc1 => ?_) (fun hc1 => ?_)
  · skip
    refine lv_iload_n hx hb d_Md_mixed_19 rfl (lv_at hl 0 rfl) ?_
    refine lv_bipush (v := 32) hx hb d_Md_mixed_20 (by decide) ?_
    refine lv_icmp_ge (tgt := 39) hx hb d_Md_mixed_22 (by decide) (fun hc2 => ?_) (fun hc2 => ?_)
    · skip
      refine lv_iload_n hx hb d_Md_mixed_39 rfl (lv_at hl 0 rfl) ?_
      refine lv_bipush (v := 48) hx hb d_Md_mixed_40 (by decide) ?_
      refine lv_icmp_ge (tgt := 54) hx hb d_Md_mixed_42 (by decide) (fun hc3 => ?_) (fun hc3 => ?_)
      · skip
        refine lv_lload_n hx hb d_Md_mixed_54 rfl (lv_at hl 2 rfl) ?_
        refine lv_lload_n hx hb d_Md_mixed_55 rfl (lv_at hl 1 rfl) ?_
        refine lv_ldc2 (v := 4294967295) hx hb hown (hg _ k_1235) d_Md_mixed_56 ?_
        refine lv_lload hx hb d_Md_mixed_59 (lv_at hl 3 rfl) ?_
        refine lv_lsub hx hb d_Md_mixed_61 ?_
        refine lv_lor hx hb d_Md_mixed_62 ?_
        refine lv_lxor hx hb d_Md_mixed_63 ?_
        have hP9 := hP.sub (ws' := []) [] rfl
        have hD9 := hD.sub (ws' := []) [] (by decide) rfl
        exact W.lret (v := lc ^^^ (lb ||| (4294967295 - ld))) hx hb hr (fun t ht hW => ⟨⟨_, (), rfl, trivial, by rw [ht]; exact hP9, va_K.moved hW.alike hK, hD9⟩, hS.F ht⟩) hS.2.2 d_Md_mixed_64
      · skip
        refine lv_lload_n hx hb d_Md_mixed_45 rfl (lv_at hl 1 rfl) ?_
        refine lv_lload_n hx hb d_Md_mixed_46 rfl (lv_at hl 2 rfl) ?_
        refine lv_lxor hx hb d_Md_mixed_47 ?_
        refine lv_lload hx hb d_Md_mixed_48 (lv_at hl 3 rfl) ?_
        refine lv_lxor hx hb d_Md_mixed_50 ?_
        refine lv_goto (tgt := 64) hx hb d_Md_mixed_51 (by decide) ?_
        have hP9 := hP.sub (ws' := []) [] rfl
        have hD9 := hD.sub (ws' := []) [] (by decide) rfl
        exact W.lret (v := (lb ^^^ lc) ^^^ ld) hx hb hr (fun t ht hW => ⟨⟨_, (), rfl, trivial, by rw [ht]; exact hP9, va_K.moved hW.alike hK, hD9⟩, hS.F ht⟩) hS.2.2 d_Md_mixed_64
    · skip
      refine lv_lload hx hb d_Md_mixed_25 (lv_at hl 3 rfl) ?_
      refine lv_lload_n hx hb d_Md_mixed_27 rfl (lv_at hl 1 rfl) ?_
      refine lv_land hx hb d_Md_mixed_28 ?_
      refine lv_ldc2 (v := 4294967295) hx hb hown (hg _ k_1235) d_Md_mixed_29 ?_
      refine lv_lload hx hb d_Md_mixed_32 (lv_at hl 3 rfl) ?_
      refine lv_lsub hx hb d_Md_mixed_34 ?_
      refine lv_lload_n hx hb d_Md_mixed_35 rfl (lv_at hl 2 rfl) ?_
      refine lv_land hx hb d_Md_mixed_36 ?_
      refine lv_lor hx hb d_Md_mixed_37 ?_
      have hP9 := hP.sub (ws' := []) [] rfl
      have hD9 := hD.sub (ws' := []) [] (by decide) rfl
      exact W.lret (v := (ld &&& lb) ||| ((4294967295 - ld) &&& lc)) hx hb hr (fun t ht hW => ⟨⟨_, (), rfl, trivial, by rw [ht]; exact hP9, va_K.moved hW.alike hK, hD9⟩, hS.F ht⟩) hS.2.2 d_Md_mixed_38
  · skip
    refine lv_lload_n hx hb d_Md_mixed_6 rfl (lv_at hl 1 rfl) ?_
    refine lv_lload_n hx hb d_Md_mixed_7 rfl (lv_at hl 2 rfl) ?_
    refine lv_land hx hb d_Md_mixed_8 ?_
    refine lv_ldc2 (v := 4294967295) hx hb hown (hg _ k_1235) d_Md_mixed_9 ?_
    refine lv_lload_n hx hb d_Md_mixed_12 rfl (lv_at hl 1 rfl) ?_
    refine lv_lsub hx hb d_Md_mixed_13 ?_
    refine lv_lload hx hb d_Md_mixed_14 (lv_at hl 3 rfl) ?_
    refine lv_land hx hb d_Md_mixed_16 ?_
    refine lv_lor hx hb d_Md_mixed_17 ?_
    have hP9 := hP.sub (ws' := []) [] rfl
    have hD9 := hD.sub (ws' := []) [] (by decide) rfl
    exact W.lret (v := (lb &&& lc) ||| ((4294967295 - lb) &&& ld)) hx hb hr (fun t ht hW => ⟨⟨_, (), rfl, trivial, by rw [ht]; exact hP9, va_K.moved hW.alike hK, hD9⟩, hS.F ht⟩) hS.2.2 d_Md_mixed_18
set_option maxHeartbeats 4000000 in
set_option maxRecDepth 100000 in
/-- turn -/
theorem m_turn (l : Launch) (dC : Nat → ClassId) (dI : Nat → Nat → Nat) (cT : Nat → ClassId) (sz : Nat) (j : Int32)  : Met l y_Md_turn (Cond.code y_Md_turn b_Md_turn 2 (Option.some Jvm.ClassFile.FieldType.int) :: BIG) ({ frames := 0, cells := 0, slots := 0, locals := 0 }) (va_Pc [.int j] (fun U => U.heap.size = sz ∧ va_P (dC, dI) vcl [] U.heap ∧ va_K (dC, dI) vcl (tyL cT) U ∧ va_D (fun _ => True) [])) (va_Qi (S := Unit) (fun rv9 u => True) (fun u t => va_P (dC, dI) vcl [] t.heap ∧ va_K (dC, dI) vcl (tyL cT) t ∧ va_D (va_A [] sz) []) (va_A [] sz)) 0 0 (va_A [] sz) := by
  refine Met.ofW (cc := b_Md_turn) (maxL := 2) (ret := (Option.some Jvm.ClassFile.FieldType.int)) (by decide) rfl ?_
  intro p e s m args below meth c s₁ B hml hv
  obtain ⟨hargs, hsz, hP, hK, hD0⟩ := hv
  have hx := B.exec
  have hb := B.bytes
  have hr := B.returns
  have hts := atoms_spec (ws := (Cond.code y_Md_turn b_Md_turn 2 (Option.some Jvm.ClassFile.FieldType.int) :: BIG)) B.pre
  have hg : ∀ w ∈ BIG, w.before _ s = true := fun w h => hts w (List.mem_cons_of_mem _ h)
  have hown : s.vm.findClass "DoorServerModel" = some m.cls := findClass_of_methodNamed B.named
  have hlocks := B.notSynchronized
  subst hsz
  have hD := hD0.self (sz := s.heap.size)
  generalize hAe : va_A [] s.heap.size = A at hD ⊢
  have hA : ∀ q : Nat, s.heap.size ≤ q → A q := fun q h => by rw [← hAe]; exact Or.inr h
  have hS : va_S A s.heap s.heap [] := va_S.rf
  have hl := lv_entry ([.int j]) (n := 2) (Nat.le_of_ble_eq_true rfl)
  refine W.eq (g2 := entryFrame m (List.toArray [.int j]) 2) (by rw [hargs]) ?_
  rw [lg_entry_eq]
  generalize (lg_sl ([.int j]) ++ List.replicate (2 - (lg_sl ([.int j])).length) Slot.unset).toArray = ls at hl ⊢
  have hl : lv_has ls 2 [(0, .int j)] := hl
  change W p l e ({ frames := 0, cells := 0, slots := 0, locals := 0 } : Room) s m args below meth c s.heap [] 0 0 _ _
  have hP : va_P (dC, dI) vcl [] s.heap := hP
  refine lv_iload_n hx hb d_Md_turn_0 rfl (lv_at hl 0 rfl) ?_
  refine lv_iconst (v := 4) hx hb d_Md_turn_1 (by decide) ?_
  refine lv_irem hx hb d_Md_turn_2 (by decide) ?_
  refine lv_istore_n (lv' := [(1, .int (j - j / 4 * 4)), (0, .int j)]) hx hb d_Md_turn_3 rfl hl (by decide) rfl (fun ls hl => ?_)
  refine lv_iload_n hx hb d_Md_turn_4 rfl (lv_at hl 1 rfl) ?_
  refine lv_bipush (v := 16) hx hb d_Md_turn_5 (by decide) ?_
  refine lv_icmp_ge (tgt := 17) hx hb d_Md_turn_7 (by decide) (fun hc4 => ?_) (fun hc4 => ?_)
  · skip
    refine lv_iload_n hx hb d_Md_turn_17 rfl (lv_at hl 1 rfl) ?_
    refine lv_bipush (v := 32) hx hb d_Md_turn_18 (by decide) ?_
    refine lv_icmp_ge (tgt := 54) hx hb d_Md_turn_20 (by decide) (fun hc5 => ?_) (fun hc5 => ?_)
    · skip
      refine lv_iload_n hx hb d_Md_turn_54 rfl (lv_at hl 1 rfl) ?_
      refine lv_bipush (v := 48) hx hb d_Md_turn_55 (by decide) ?_
      refine lv_icmp_ge (tgt := 93) hx hb d_Md_turn_57 (by decide) (fun hc6 => ?_) (fun hc6 => ?_)
      · skip
        refine lv_iload_n hx hb d_Md_turn_93 rfl (lv_at hl 0 rfl) ?_
        refine lv_if_ne (tgt := 102) hx hb d_Md_turn_94 (by decide) (fun hc7 => ?_) (fun hc7 => ?_)
        · skip
          refine lv_iload_n hx hb d_Md_turn_102 rfl (lv_at hl 0 rfl) ?_
          refine lv_iconst (v := 1) hx hb d_Md_turn_103 (by decide) ?_
          refine lv_icmp_ne (tgt := 112) hx hb d_Md_turn_104 (by decide) (fun hc8 => ?_) (fun hc8 => ?_)
          · skip
            refine lv_iload_n hx hb d_Md_turn_112 rfl (lv_at hl 0 rfl) ?_
            refine lv_iconst (v := 2) hx hb d_Md_turn_113 (by decide) ?_
            refine lv_icmp_ne (tgt := 122) hx hb d_Md_turn_114 (by decide) (fun hc9 => ?_) (fun hc9 => ?_)
            · skip
              refine lv_bipush (v := 21) hx hb d_Md_turn_122 (by decide) ?_
              have hP9 := hP.sub (ws' := []) [] rfl
              have hD9 := hD.sub (ws' := []) [] (by decide) rfl
              exact W.iret (v := 21) hx hb hr (fun t ht hW => ⟨⟨_, (), rfl, trivial, by rw [ht]; exact hP9, va_K.moved hW.alike hK, hD9⟩, hS.F ht⟩) hS.2.2 d_Md_turn_124
            · skip
              refine lv_bipush (v := 15) hx hb d_Md_turn_117 (by decide) ?_
              refine lv_goto (tgt := 124) hx hb d_Md_turn_119 (by decide) ?_
              have hP9 := hP.sub (ws' := []) [] rfl
              have hD9 := hD.sub (ws' := []) [] (by decide) rfl
              exact W.iret (v := 15) hx hb hr (fun t ht hW => ⟨⟨_, (), rfl, trivial, by rw [ht]; exact hP9, va_K.moved hW.alike hK, hD9⟩, hS.F ht⟩) hS.2.2 d_Md_turn_124
          · skip
            refine lv_bipush (v := 10) hx hb d_Md_turn_107 (by decide) ?_
            refine lv_goto (tgt := 124) hx hb d_Md_turn_109 (by decide) ?_
            have hP9 := hP.sub (ws' := []) [] rfl
            have hD9 := hD.sub (ws' := []) [] (by decide) rfl
            exact W.iret (v := 10) hx hb hr (fun t ht hW => ⟨⟨_, (), rfl, trivial, by rw [ht]; exact hP9, va_K.moved hW.alike hK, hD9⟩, hS.F ht⟩) hS.2.2 d_Md_turn_124
        · skip
          refine lv_bipush (v := 6) hx hb d_Md_turn_97 (by decide) ?_
          refine lv_goto (tgt := 124) hx hb d_Md_turn_99 (by decide) ?_
          have hP9 := hP.sub (ws' := []) [] rfl
          have hD9 := hD.sub (ws' := []) [] (by decide) rfl
          exact W.iret (v := 6) hx hb hr (fun t ht hW => ⟨⟨_, (), rfl, trivial, by rw [ht]; exact hP9, va_K.moved hW.alike hK, hD9⟩, hS.F ht⟩) hS.2.2 d_Md_turn_124
      · skip
        refine lv_iload_n hx hb d_Md_turn_60 rfl (lv_at hl 0 rfl) ?_
        refine lv_if_ne (tgt := 68) hx hb d_Md_turn_61 (by decide) (fun hc10 => ?_) (fun hc10 => ?_)
        · skip
          refine lv_iload_n hx hb d_Md_turn_68 rfl (lv_at hl 0 rfl) ?_
          refine lv_iconst (v := 1) hx hb d_Md_turn_69 (by decide) ?_
          refine lv_icmp_ne (tgt := 78) hx hb d_Md_turn_70 (by decide) (fun hc11 => ?_) (fun hc11 => ?_)
          · skip
            refine lv_iload_n hx hb d_Md_turn_78 rfl (lv_at hl 0 rfl) ?_
            refine lv_iconst (v := 2) hx hb d_Md_turn_79 (by decide) ?_
            refine lv_icmp_ne (tgt := 88) hx hb d_Md_turn_80 (by decide) (fun hc12 => ?_) (fun hc12 => ?_)
            · skip
              refine lv_bipush (v := 23) hx hb d_Md_turn_88 (by decide) ?_
              refine lv_goto (tgt := 124) hx hb d_Md_turn_90 (by decide) ?_
              have hP9 := hP.sub (ws' := []) [] rfl
              have hD9 := hD.sub (ws' := []) [] (by decide) rfl
              exact W.iret (v := 23) hx hb hr (fun t ht hW => ⟨⟨_, (), rfl, trivial, by rw [ht]; exact hP9, va_K.moved hW.alike hK, hD9⟩, hS.F ht⟩) hS.2.2 d_Md_turn_124
            · skip
              refine lv_bipush (v := 16) hx hb d_Md_turn_83 (by decide) ?_
              refine lv_goto (tgt := 124) hx hb d_Md_turn_85 (by decide) ?_
              have hP9 := hP.sub (ws' := []) [] rfl
              have hD9 := hD.sub (ws' := []) [] (by decide) rfl
              exact W.iret (v := 16) hx hb hr (fun t ht hW => ⟨⟨_, (), rfl, trivial, by rw [ht]; exact hP9, va_K.moved hW.alike hK, hD9⟩, hS.F ht⟩) hS.2.2 d_Md_turn_124
          · skip
            refine lv_bipush (v := 11) hx hb d_Md_turn_73 (by decide) ?_
            refine lv_goto (tgt := 124) hx hb d_Md_turn_75 (by decide) ?_
            have hP9 := hP.sub (ws' := []) [] rfl
            have hD9 := hD.sub (ws' := []) [] (by decide) rfl
            exact W.iret (v := 11) hx hb hr (fun t ht hW => ⟨⟨_, (), rfl, trivial, by rw [ht]; exact hP9, va_K.moved hW.alike hK, hD9⟩, hS.F ht⟩) hS.2.2 d_Md_turn_124
        · skip
          refine lv_iconst (v := 4) hx hb d_Md_turn_64 (by decide) ?_
          refine lv_goto (tgt := 124) hx hb d_Md_turn_65 (by decide) ?_
          have hP9 := hP.sub (ws' := []) [] rfl
          have hD9 := hD.sub (ws' := []) [] (by decide) rfl
          exact W.iret (v := 4) hx hb hr (fun t ht hW => ⟨⟨_, (), rfl, trivial, by rw [ht]; exact hP9, va_K.moved hW.alike hK, hD9⟩, hS.F ht⟩) hS.2.2 d_Md_turn_124
    · skip
      refine lv_iload_n hx hb d_Md_turn_23 rfl (lv_at hl 0 rfl) ?_
      refine lv_if_ne (tgt := 31) hx hb d_Md_turn_24 (by decide) (fun hc13 => ?_) (fun hc13 => ?_)
      · skip
        refine lv_iload_n hx hb d_Md_turn_31 rfl (lv_at hl 0 rfl) ?_
        refine lv_iconst (v := 1) hx hb d_Md_turn_32 (by decide) ?_
        refine lv_icmp_ne (tgt := 41) hx hb d_Md_turn_33 (by decide) (fun hc14 => ?_) (fun hc14 => ?_)
        · skip
          refine lv_iload_n hx hb d_Md_turn_41 rfl (lv_at hl 0 rfl) ?_
          refine lv_iconst (v := 2) hx hb d_Md_turn_42 (by decide) ?_
          refine lv_icmp_ne (tgt := 51) hx hb d_Md_turn_43 (by decide) (fun hc15 => ?_) (fun hc15 => ?_)
          · skip
            refine lv_bipush (v := 20) hx hb d_Md_turn_51 (by decide) ?_
            have hP9 := hP.sub (ws' := []) [] rfl
            have hD9 := hD.sub (ws' := []) [] (by decide) rfl
            exact W.iret (v := 20) hx hb hr (fun t ht hW => ⟨⟨_, (), rfl, trivial, by rw [ht]; exact hP9, va_K.moved hW.alike hK, hD9⟩, hS.F ht⟩) hS.2.2 d_Md_turn_53
          · skip
            refine lv_bipush (v := 14) hx hb d_Md_turn_46 (by decide) ?_
            refine lv_goto (tgt := 53) hx hb d_Md_turn_48 (by decide) ?_
            have hP9 := hP.sub (ws' := []) [] rfl
            have hD9 := hD.sub (ws' := []) [] (by decide) rfl
            exact W.iret (v := 14) hx hb hr (fun t ht hW => ⟨⟨_, (), rfl, trivial, by rw [ht]; exact hP9, va_K.moved hW.alike hK, hD9⟩, hS.F ht⟩) hS.2.2 d_Md_turn_53
        · skip
          refine lv_bipush (v := 9) hx hb d_Md_turn_36 (by decide) ?_
          refine lv_goto (tgt := 53) hx hb d_Md_turn_38 (by decide) ?_
          have hP9 := hP.sub (ws' := []) [] rfl
          have hD9 := hD.sub (ws' := []) [] (by decide) rfl
          exact W.iret (v := 9) hx hb hr (fun t ht hW => ⟨⟨_, (), rfl, trivial, by rw [ht]; exact hP9, va_K.moved hW.alike hK, hD9⟩, hS.F ht⟩) hS.2.2 d_Md_turn_53
      · skip
        refine lv_iconst (v := 5) hx hb d_Md_turn_27 (by decide) ?_
        refine lv_goto (tgt := 53) hx hb d_Md_turn_28 (by decide) ?_
        have hP9 := hP.sub (ws' := []) [] rfl
        have hD9 := hD.sub (ws' := []) [] (by decide) rfl
        exact W.iret (v := 5) hx hb hr (fun t ht hW => ⟨⟨_, (), rfl, trivial, by rw [ht]; exact hP9, va_K.moved hW.alike hK, hD9⟩, hS.F ht⟩) hS.2.2 d_Md_turn_53
  · skip
    refine lv_bipush (v := 7) hx hb d_Md_turn_10 (by decide) ?_
    refine lv_iconst (v := 5) hx hb d_Md_turn_12 (by decide) ?_
    refine lv_iload_n hx hb d_Md_turn_13 rfl (lv_at hl 0 rfl) ?_
    refine lv_imul hx hb d_Md_turn_14 ?_
    refine lv_iadd hx hb d_Md_turn_15 ?_
    have hP9 := hP.sub (ws' := []) [] rfl
    have hD9 := hD.sub (ws' := []) [] (by decide) rfl
    exact W.iret (v := 7 + (5 * (j - j / 4 * 4))) hx hb hr (fun t ht hW => ⟨⟨_, (), rfl, trivial, by rw [ht]; exact hP9, va_K.moved hW.alike hK, hD9⟩, hS.F ht⟩) hS.2.2 d_Md_turn_16
set_option maxHeartbeats 4000000 in
set_option maxRecDepth 100000 in
/-- turned -/
theorem m_turned (l : Launch) (dC : Nat → ClassId) (dI : Nat → Nat → Nat) (cT : Nat → ClassId) (sz : Nat) (v : Int64) (y : Int32)  : Met l y_Md_turned (Cond.code y_Md_turned b_Md_turned 5 (Option.some Jvm.ClassFile.FieldType.long) :: BIG) ({ frames := 0, cells := 0, slots := 0, locals := 0 }) (va_Pc [.long v, .int y] (fun U => U.heap.size = sz ∧ va_P (dC, dI) vcl [] U.heap ∧ va_K (dC, dI) vcl (tyL cT) U ∧ va_D (fun _ => True) [])) (va_Ql (S := Unit) (fun rv9 u => True) (fun u t => va_P (dC, dI) vcl [] t.heap ∧ va_K (dC, dI) vcl (tyL cT) t ∧ va_D (va_A [] sz) []) (va_A [] sz)) 0 0 (va_A [] sz) := by
  refine Met.ofW (cc := b_Md_turned) (maxL := 5) (ret := (Option.some Jvm.ClassFile.FieldType.long)) (by decide) rfl ?_
  intro p e s m args below meth c s₁ B hml hv
  obtain ⟨hargs, hsz, hP, hK, hD0⟩ := hv
  have hx := B.exec
  have hb := B.bytes
  have hr := B.returns
  have hts := atoms_spec (ws := (Cond.code y_Md_turned b_Md_turned 5 (Option.some Jvm.ClassFile.FieldType.long) :: BIG)) B.pre
  have hg : ∀ w ∈ BIG, w.before _ s = true := fun w h => hts w (List.mem_cons_of_mem _ h)
  have hown : s.vm.findClass "DoorServerModel" = some m.cls := findClass_of_methodNamed B.named
  have hlocks := B.notSynchronized
  subst hsz
  have hD := hD0.self (sz := s.heap.size)
  generalize hAe : va_A [] s.heap.size = A at hD ⊢
  have hA : ∀ q : Nat, s.heap.size ≤ q → A q := fun q h => by rw [← hAe]; exact Or.inr h
  have hS : va_S A s.heap s.heap [] := va_S.rf
  have hl := lv_entry ([.long v, .int y]) (n := 5) (Nat.le_of_ble_eq_true rfl)
  refine W.eq (g2 := entryFrame m (List.toArray [.long v, .int y]) 5) (by rw [hargs]) ?_
  rw [lg_entry_eq]
  generalize (lg_sl ([.long v, .int y]) ++ List.replicate (5 - (lg_sl ([.long v, .int y])).length) Slot.unset).toArray = ls at hl ⊢
  have hl : lv_has ls 5 [(0, .long v), (2, .int y)] := hl
  change W p l e ({ frames := 0, cells := 0, slots := 0, locals := 0 } : Room) s m args below meth c s.heap [] 0 0 _ _
  have hP : va_P (dC, dI) vcl [] s.heap := hP
  refine lv_lload_n hx hb d_Md_turned_0 rfl (lv_at hl 0 rfl) ?_
  refine lv_ldc2 (v := 4294967295) hx hb hown (hg _ k_1235) d_Md_turned_1 ?_
  refine lv_land hx hb d_Md_turned_4 ?_
  refine lv_lstore_n (lv' := [(3, .long (v &&& 4294967295)), (0, .long v), (2, .int y)]) hx hb d_Md_turned_5 rfl hl (by decide) rfl (fun ls hl => ?_)
  refine lv_lload_n hx hb d_Md_turned_6 rfl (lv_at hl 0 rfl) ?_
  refine lv_iload_n hx hb d_Md_turned_7 rfl (lv_at hl 2 rfl) ?_
  refine lv_lshl (v := (v &&& 4294967295) <<< (y.toInt64 &&& 63)) hx hb d_Md_turned_8 rfl ?_
  refine lv_lload_n hx hb d_Md_turned_9 rfl (lv_at hl 0 rfl) ?_
  refine lv_bipush (v := 32) hx hb d_Md_turned_10 (by decide) ?_
  refine lv_iload_n hx hb d_Md_turned_12 rfl (lv_at hl 2 rfl) ?_
  refine lv_isub hx hb d_Md_turned_13 ?_
  refine lv_lshr (v := (v &&& 4294967295) >>> ((32 - y).toInt64 &&& 63)) hx hb d_Md_turned_14 rfl ?_
  refine lv_lor hx hb d_Md_turned_15 ?_
  refine lv_ldc2 (v := 4294967295) hx hb hown (hg _ k_1235) d_Md_turned_16 ?_
  refine lv_land hx hb d_Md_turned_19 ?_
  have hP9 := hP.sub (ws' := []) [] rfl
  have hD9 := hD.sub (ws' := []) [] (by decide) rfl
  exact W.lret (v := (((v &&& 4294967295) <<< (y.toInt64 &&& 63)) ||| ((v &&& 4294967295) >>> ((32 - y).toInt64 &&& 63))) &&& 4294967295) hx hb hr (fun t ht hW => ⟨⟨_, (), rfl, trivial, by rw [ht]; exact hP9, va_K.moved hW.alike hK, hD9⟩, hS.F ht⟩) hS.2.2 d_Md_turned_20
set_option maxHeartbeats 4000000 in
set_option maxRecDepth 100000 in
/-- wordAt -/
theorem m_word (l : Launch) (dC : Nat → ClassId) (dI : Nat → Nat → Nat) (cT : Nat → ClassId) (sz : Nat) (mo : Nat) (r : Nat → Nat) (cd : Int32) (tm : Int32) (sn : Nat) (tx : Nat) (lz : Nat) (az : Nat) (na : Nat) (nt : Nat) (nr : Nat) (mw : Int32) (ml : Int32) (mk : Int64) (dq : Int64) (f9 : Nat → Int32) (fr : Nat) (j : Nat) (hj : j < 64) (hfr : fr + 64 ≤ 1400) : Met l y_Md_wordAt (Cond.code y_Md_wordAt b_Md_wordAt 7 (Option.some Jvm.ClassFile.FieldType.long) :: BIG) ({ frames := 0, cells := 0, slots := 0, locals := 0 }) (va_Pc [.ref mo, .int (nI fr), .int (nI j)] (fun U => U.heap.size = sz ∧ va_P (dC, dI) vcl [(mo, .inr (12, mdG r cd tm (nI sn) (nI tx) (nI lz) (nI az) (nI na) (nI nt) (nI nr) mw ml mk dq)), (r 9, .inl ((cT 0), 1400, .inl f9))] U.heap ∧ va_K (dC, dI) vcl (tyL cT) U ∧ va_D (fun _ => True) [(mo, .inr (12, mdG r cd tm (nI sn) (nI tx) (nI lz) (nI az) (nI na) (nI nt) (nI nr) mw ml mk dq)), (r 9, .inl ((cT 0), 1400, .inl f9))])) (va_Ql (S := Unit) (fun rv9 u => True) (fun u t => va_P (dC, dI) vcl [(mo, .inr (12, mdG r cd tm (nI sn) (nI tx) (nI lz) (nI az) (nI na) (nI nt) (nI nr) mw ml mk dq)), (r 9, .inl ((cT 0), 1400, .inl f9))] t.heap ∧ va_K (dC, dI) vcl (tyL cT) t ∧ va_D (va_A [(mo, .inr (12, mdG r cd tm (nI sn) (nI tx) (nI lz) (nI az) (nI na) (nI nt) (nI nr) mw ml mk dq)), (r 9, .inl ((cT 0), 1400, .inl f9))] sz) [(mo, .inr (12, mdG r cd tm (nI sn) (nI tx) (nI lz) (nI az) (nI na) (nI nt) (nI nr) mw ml mk dq)), (r 9, .inl ((cT 0), 1400, .inl f9))]) (va_A [(mo, .inr (12, mdG r cd tm (nI sn) (nI tx) (nI lz) (nI az) (nI na) (nI nt) (nI nr) mw ml mk dq)), (r 9, .inl ((cT 0), 1400, .inl f9))] sz)) 0 0 (va_A [(mo, .inr (12, mdG r cd tm (nI sn) (nI tx) (nI lz) (nI az) (nI na) (nI nt) (nI nr) mw ml mk dq)), (r 9, .inl ((cT 0), 1400, .inl f9))] sz) := by
  refine Met.ofW (cc := b_Md_wordAt) (maxL := 7) (ret := (Option.some Jvm.ClassFile.FieldType.long)) (by decide) rfl ?_
  intro p e s m args below meth c s₁ B hml hv
  obtain ⟨hargs, hsz, hP, hK, hD0⟩ := hv
  have hx := B.exec
  have hb := B.bytes
  have hr := B.returns
  have hts := atoms_spec (ws := (Cond.code y_Md_wordAt b_Md_wordAt 7 (Option.some Jvm.ClassFile.FieldType.long) :: BIG)) B.pre
  have hg : ∀ w ∈ BIG, w.before _ s = true := fun w h => hts w (List.mem_cons_of_mem _ h)
  have hown : s.vm.findClass "DoorServerModel" = some m.cls := findClass_of_methodNamed B.named
  have hlocks := B.notSynchronized
  subst hsz
  have hD := hD0.self (sz := s.heap.size)
  generalize hAe : va_A [(mo, .inr (12, mdG r cd tm (nI sn) (nI tx) (nI lz) (nI az) (nI na) (nI nt) (nI nr) mw ml mk dq)), (r 9, .inl ((cT 0), 1400, .inl f9))] s.heap.size = A at hD ⊢
  have hA : ∀ q : Nat, s.heap.size ≤ q → A q := fun q h => by rw [← hAe]; exact Or.inr h
  have hS : va_S A s.heap s.heap [] := va_S.rf
  have hl := lv_entry ([.ref mo, .int (nI fr), .int (nI j)]) (n := 7) (Nat.le_of_ble_eq_true rfl)
  refine W.eq (g2 := entryFrame m (List.toArray [.ref mo, .int (nI fr), .int (nI j)]) 7) (by rw [hargs]) ?_
  rw [lg_entry_eq]
  generalize (lg_sl ([.ref mo, .int (nI fr), .int (nI j)]) ++ List.replicate (7 - (lg_sl ([.ref mo, .int (nI fr), .int (nI j)])).length) Slot.unset).toArray = ls at hl ⊢
  have hl : lv_has ls 7 [(0, .ref mo), (1, .int (nI fr)), (2, .int (nI j))] := hl
  change W p l e ({ frames := 0, cells := 0, slots := 0, locals := 0 } : Room) s m args below meth c s.heap [] 0 0 _ _
  have hP : va_P (dC, dI) vcl [(mo, .inr (12, mdG r cd tm (nI sn) (nI tx) (nI lz) (nI az) (nI na) (nI nt) (nI nr) mw ml mk dq)), (r 9, .inl ((cT 0), 1400, .inl f9))] s.heap := hP
  have K16 : ∀ (g9 : Nat), g9 < 16 → W p l e ({ frames := 0, cells := 0, slots := 0, locals := 0 } : Room) s m args below meth c s.heap [] 0 0 (MQ below (va_Ql (S := Unit) (fun rv9 u => True) (fun u t => va_P (dC, dI) vcl [(mo, .inr (12, mdG r cd tm (nI sn) (nI tx) (nI lz) (nI az) (nI na) (nI nt) (nI nr) mw ml mk dq)), (r 9, .inl ((cT 0), 1400, .inl f9))] t.heap ∧ va_K (dC, dI) vcl (tyL cT) t ∧ va_D A [(mo, .inr (12, mdG r cd tm (nI sn) (nI tx) (nI lz) (nI az) (nI na) (nI nt) (nI nr) mw ml mk dq)), (r 9, .inl ((cT 0), 1400, .inl f9))]) A) args s 0 0 A) (F0 m 51 ls [.int (nI g9)]) := by
    intro g9 hg9
    refine lv_istore_n (lv' := [(3, .int (nI g9)), (0, .ref mo), (1, .int (nI fr)), (2, .int (nI j))]) hx hb d_Md_wordAt_51 rfl hl (by decide) rfl (fun ls hl => ?_)
    refine lv_lconst (v := 0) hx hb d_Md_wordAt_52 (by decide) ?_
    refine lv_lstore (lv' := [(4, .long 0), (3, .int (nI g9)), (0, .ref mo), (1, .int (nI fr)), (2, .int (nI j))]) hx hb d_Md_wordAt_53 hl (by decide) rfl (fun ls hl => ?_)
    refine lv_iconst (v := 3) hx hb d_Md_wordAt_55 (by decide) ?_
    refine lv_istore (lv' := [(6, .int 3), (4, .long 0), (3, .int (nI g9)), (0, .ref mo), (1, .int (nI fr)), (2, .int (nI j))]) hx hb d_Md_wordAt_56 hl (by decide) rfl (fun ls hl => ?_)
    have hl := lv_sub hl [0, 1, 2, 3, 4, 5] (show _ = [(6, .int 3), (4, .long 0), (3, .int (nI g9)), (0, .ref mo), (1, .int (nI fr)), (2, .int (nI j))] from rfl)
    have L17 : ∀ (Q : State → Prop) (exit : ∀ (lv9 : Int64) (H : Heap) (locs : List Loc) (ls : Array Slot), va_P (dC, dI) vcl [(mo, .inr (12, mdG r cd tm (nI sn) (nI tx) (nI lz) (nI az) (nI na) (nI nt) (nI nr) mw ml mk dq)), (r 9, .inl ((cT 0), 1400, .inl f9))] H → va_D A [(mo, .inr (12, mdG r cd tm (nI sn) (nI tx) (nI lz) (nI az) (nI na) (nI nt) (nI nr) mw ml mk dq)), (r 9, .inl ((cT 0), 1400, .inl f9))] → va_S A s.heap H locs → lv_has ls 7 [(6, .int (nI (4 - 4) - 1)), (4, .long lv9), (3, .int (nI g9)), (0, .ref mo), (1, .int (nI fr)), (2, .int (nI j))] → W p l e ({ frames := 0, cells := 0, slots := 0, locals := 0 } : Room) s m args below meth c H locs 0 0 Q (F0 m 92 ls [])) (j8 i : Nat) (lv9 : Int64) (H : Heap) (locs : List Loc) (ls : Array Slot), i + j8 = 4 → va_P (dC, dI) vcl [(mo, .inr (12, mdG r cd tm (nI sn) (nI tx) (nI lz) (nI az) (nI na) (nI nt) (nI nr) mw ml mk dq)), (r 9, .inl ((cT 0), 1400, .inl f9))] H → va_D A [(mo, .inr (12, mdG r cd tm (nI sn) (nI tx) (nI lz) (nI az) (nI na) (nI nt) (nI nr) mw ml mk dq)), (r 9, .inl ((cT 0), 1400, .inl f9))] → va_S A s.heap H locs → lv_has ls 7 [(6, .int (nI (4 - i) - 1)), (4, .long lv9), (3, .int (nI g9)), (0, .ref mo), (1, .int (nI fr)), (2, .int (nI j))] → W p l e ({ frames := 0, cells := 0, slots := 0, locals := 0 } : Room) s m args below meth c H locs 0 0 Q (F0 m 58 ls []) := by
      intro Q exit j8
      induction j8 with
      | zero => 
        intro i lv9 H locs ls hij  hP hD hS hl
        have hij : 4 = i := by omega
        refine lv_iload hx hb d_Md_wordAt_58 (lv_at hl 0 rfl) ?_
        refine lv_if_lt (tgt := 92) hx hb d_Md_wordAt_60 (by decide) (fun hc18 => ?_) (fun hn9 => absurd (by rw [show 4 - i = 0 by omega]; decide) hn9)
        subst hij
        exact exit lv9 _ _ _  hP hD hS hl
      | succ j8 ih => 
        intro i lv9 H locs ls hij  hP hD hS hl
        have hlt : i < 4 := by omega
        refine lv_iload hx hb d_Md_wordAt_58 (lv_at hl 0 rfl) ?_
        refine lv_if_lt (tgt := 92) hx hb d_Md_wordAt_60 (by decide) (fun hn9 => absurd hn9 (by rw [show 4 - i = (3 - i) + 1 by omega, nI_pred]; exact nI_pos (by omega))) (fun hc19 => ?_)
        refine lv_ldc2 (v := 256) hx hb hown (hg _ k_1240) d_Md_wordAt_63 ?_
        refine lv_lload hx hb d_Md_wordAt_66 (lv_at hl 1 rfl) ?_
        refine lv_lmul hx hb d_Md_wordAt_68 ?_
        refine lv_aload_n hx hb d_Md_wordAt_69 rfl (lv_at hl 3 rfl) ?_
        refine va_get (D := (dC, dI)) (ci := 12) (v := (.ref (r 9))) (C := R_Md) (T := F_Md) (N := 45) hx hb hg in_Md hown hK hP 0 rfl rfl 9 (by decide) (hg _ k_1029) (fun _ h9 => h9) rfl d_Md_wordAt_70 ?_
        refine lv_iload_n hx hb d_Md_wordAt_73 rfl (lv_at hl 4 rfl) ?_
        refine lv_iconst (v := 4) hx hb d_Md_wordAt_74 (by decide) ?_
        refine lv_iload_n hx hb d_Md_wordAt_75 rfl (lv_at hl 2 rfl) ?_
        refine lv_imul hx hb d_Md_wordAt_76 ?_
        refine lv_topi (fun x21 e20 => ?_)
        obtain rfl : x21 = nI (4 * g9) := by rw [e20]; exact pk_mul 4 g9
        refine lv_iadd hx hb d_Md_wordAt_77 ?_
        refine lv_topi (fun x23 e22 => ?_)
        obtain rfl : x23 = nI (fr + 4 * g9) := by rw [e22]; exact nI_add _ _
        refine lv_iload hx hb d_Md_wordAt_78 (lv_at hl 0 rfl) ?_
        refine lv_topi (fun x25 e24 => ?_)
        obtain rfl : x25 = nI (3 - i) := by rw [e24]; rw [show 4 - i = (3 - i) + 1 by omega, nI_pred]
        refine lv_iadd hx hb d_Md_wordAt_80 ?_
        refine lv_topi (fun x27 e26 => ?_)
        obtain rfl : x27 = nI (fr + 4 * g9 + (3 - i)) := by rw [e26]; exact nI_add _ _
        refine va_iald hx hb hK hP 1 0 rfl rfl (i := (nI (fr + 4 * g9 + (3 - i)))) (vp_in_nI (by omega) (by decide)) d_Md_wordAt_81 ?_
        refine lv_i2l (v := (f9 (nI (fr + 4 * g9 + (3 - i))).toNatClampNeg).toInt64) hx hb d_Md_wordAt_82 rfl ?_
        refine lv_ladd hx hb d_Md_wordAt_83 ?_
        refine lv_topl (fun x28 e_x28 => ?_)
        refine lv_lstore (lv' := [(4, .long x28), (6, .int (nI (4 - i) - 1)), (3, .int (nI g9)), (0, .ref mo), (1, .int (nI fr)), (2, .int (nI j))]) hx hb d_Md_wordAt_84 hl (by decide) rfl (fun ls hl => ?_)
        refine lv_iinc (k := 1) (v := nI (4 - (i + 1)) - 1) (lv' := [(6, .int (nI (4 - (i + 1)) - 1)), (4, .long x28), (3, .int (nI g9)), (0, .ref mo), (1, .int (nI fr)), (2, .int (nI j))]) hx hb d_Md_wordAt_86 hl rfl (by rw [show 4 - i = (4 - (i + 1)) + 1 by omega, nI_pred, Int32.sub_eq_add_neg]; rfl) (by decide) rfl (fun ls hl => ?_)
        refine lv_goto (tgt := 58) hx hb d_Md_wordAt_89 (by decide) ?_
        have hl := lv_sub hl [0, 1, 2, 3, 4, 5] (show _ = [(6, .int (nI (4 - (i + 1)) - 1)), (4, .long x28), (3, .int (nI g9)), (0, .ref mo), (1, .int (nI fr)), (2, .int (nI j))] from rfl)
        exact ih (i + 1) _ _ _ _ (by omega)  hP hD hS hl
    refine L17 _ (fun lv9 H locs ls  hP hD hS hl => ?_) (4 - 0) 0 0 s.heap _ ls (by omega)  hP hD hS hl
    refine lv_lload hx hb d_Md_wordAt_92 (lv_at hl 1 rfl) ?_
    have hP9 := hP.sub (ws' := [(mo, .inr (12, mdG r cd tm (nI sn) (nI tx) (nI lz) (nI az) (nI na) (nI nt) (nI nr) mw ml mk dq)), (r 9, .inl ((cT 0), 1400, .inl f9))]) [0, 1] rfl
    have hD9 := hD.sub (ws' := [(mo, .inr (12, mdG r cd tm (nI sn) (nI tx) (nI lz) (nI az) (nI na) (nI nt) (nI nr) mw ml mk dq)), (r 9, .inl ((cT 0), 1400, .inl f9))]) [0, 1] (by decide) rfl
    exact W.lret (v := lv9) hx hb hr (fun t ht hW => ⟨⟨_, (), rfl, trivial, by rw [ht]; exact hP9, va_K.moved hW.alike hK, hD9⟩, hS.F ht⟩) hS.2.2 d_Md_wordAt_94
  refine lv_iload_n hx hb d_Md_wordAt_0 rfl (lv_at hl 2 rfl) ?_
  refine lv_bipush (v := 16) hx hb d_Md_wordAt_1 (by decide) ?_
  refine lv_topi (fun x30 e29 => ?_)
  obtain rfl : x30 = nI 16 := by rw [e29]; rfl
  refine lv_icmp_ge (tgt := 10) hx hb d_Md_wordAt_3 (by decide) (fun hc31 => ?_) (fun hc31 => ?_)
  · refine lv_iload_n hx hb d_Md_wordAt_10 rfl (lv_at hl 2 rfl) ?_
    refine lv_bipush (v := 32) hx hb d_Md_wordAt_11 (by decide) ?_
    refine lv_icmp_ge (tgt := 27) hx hb d_Md_wordAt_13 (by decide) (fun hc32 => ?_) (fun hc32 => ?_)
    · refine lv_iload_n hx hb d_Md_wordAt_27 rfl (lv_at hl 2 rfl) ?_
      refine lv_bipush (v := 48) hx hb d_Md_wordAt_28 (by decide) ?_
      refine lv_icmp_ge (tgt := 44) hx hb d_Md_wordAt_30 (by decide) (fun hc39 => ?_) (fun hc39 => ?_)
      · refine lv_bipush (v := 7) hx hb d_Md_wordAt_44 (by decide) ?_
        refine lv_iload_n hx hb d_Md_wordAt_46 rfl (lv_at hl 2 rfl) ?_
        refine lv_imul hx hb d_Md_wordAt_47 ?_
        refine lv_topi (fun x47 e46 => ?_)
        obtain rfl : x47 = nI (7 * j) := by rw [e46]; exact pk_mul 7 j
        refine lv_bipush (v := 16) hx hb d_Md_wordAt_48 (by decide) ?_
        refine lv_irem hx hb d_Md_wordAt_50 (by decide) ?_
        refine lv_topi (fun x49 e48 => ?_)
        obtain rfl : x49 = nI (7 * j % 16) := by rw [e48]; exact pk_rem (d := 16) (by omega) (by decide) (by decide)
        exact K16 _ (by omega)
      · refine lv_iconst (v := 3) hx hb d_Md_wordAt_33 (by decide) ?_
        refine lv_iload_n hx hb d_Md_wordAt_34 rfl (lv_at hl 2 rfl) ?_
        refine lv_imul hx hb d_Md_wordAt_35 ?_
        refine lv_topi (fun x41 e40 => ?_)
        obtain rfl : x41 = nI (3 * j) := by rw [e40]; exact pk_mul 3 j
        refine lv_iconst (v := 5) hx hb d_Md_wordAt_36 (by decide) ?_
        refine lv_iadd hx hb d_Md_wordAt_37 ?_
        refine lv_topi (fun x43 e42 => ?_)
        obtain rfl : x43 = nI (3 * j + 5) := by rw [e42]; exact nI_add _ 5
        refine lv_bipush (v := 16) hx hb d_Md_wordAt_38 (by decide) ?_
        refine lv_irem hx hb d_Md_wordAt_40 (by decide) ?_
        refine lv_topi (fun x45 e44 => ?_)
        obtain rfl : x45 = nI ((3 * j + 5) % 16) := by rw [e44]; exact pk_rem (d := 16) (by omega) (by decide) (by decide)
        refine lv_goto (tgt := 51) hx hb d_Md_wordAt_41 (by decide) ?_
        exact K16 _ (by omega)
    · refine lv_iconst (v := 5) hx hb d_Md_wordAt_16 (by decide) ?_
      refine lv_iload_n hx hb d_Md_wordAt_17 rfl (lv_at hl 2 rfl) ?_
      refine lv_imul hx hb d_Md_wordAt_18 ?_
      refine lv_topi (fun x34 e33 => ?_)
      obtain rfl : x34 = nI (5 * j) := by rw [e33]; exact pk_mul 5 j
      refine lv_iconst (v := 1) hx hb d_Md_wordAt_19 (by decide) ?_
      refine lv_iadd hx hb d_Md_wordAt_20 ?_
      refine lv_topi (fun x36 e35 => ?_)
      obtain rfl : x36 = nI (5 * j + 1) := by rw [e35]; exact nI_1 _
      refine lv_bipush (v := 16) hx hb d_Md_wordAt_21 (by decide) ?_
      refine lv_irem hx hb d_Md_wordAt_23 (by decide) ?_
      refine lv_topi (fun x38 e37 => ?_)
      obtain rfl : x38 = nI ((5 * j + 1) % 16) := by rw [e37]; exact pk_rem (d := 16) (by omega) (by decide) (by decide)
      refine lv_goto (tgt := 51) hx hb d_Md_wordAt_24 (by decide) ?_
      exact K16 _ (by omega)
  · refine lv_iload_n hx hb d_Md_wordAt_6 rfl (lv_at hl 2 rfl) ?_
    refine lv_goto (tgt := 51) hx hb d_Md_wordAt_7 (by decide) ?_
    exact K16 j (Nat.lt_of_not_le fun h9 => hc31 (nI_le h9 (by omega)))
set_option maxHeartbeats 4000000 in
set_option maxRecDepth 100000 in
/-- md5 -/
theorem m_md5 (l : Launch) (dC : Nat → ClassId) (dI : Nat → Nat → Nat) (cT : Nat → ClassId) (sz : Nat) (mo : Nat) (r : Nat → Nat) (cd : Int32) (tm : Int32) (sn : Nat) (tx : Nat) (lz : Nat) (az : Nat) (na : Nat) (nt : Nat) (nr : Nat) (mw : Int32) (ml : Int32) (mk : Int64) (dq : Int64) (f9 : Nat → Int32) (f0 : Nat → Int64) (f11 : Nat → Int32) (ht9 : tx ≤ 1328) (h11 : AB f11) : Met l y_Md_md5 (Cond.code y_Md_md5 b_Md_md5 24 (Option.none : Option Jvm.ClassFile.FieldType) :: BIG) ({ frames := 1, cells := 0, slots := 0, locals := 26 }) (va_Pc [.ref mo] (fun U => U.heap.size = sz ∧ va_P (dC, dI) vcl [(mo, .inr (12, mdG r cd tm (nI sn) (nI tx) (nI lz) (nI az) (nI na) (nI nt) (nI nr) mw ml mk dq)), (r 9, .inl ((cT 0), 1400, .inl f9)), (r 0, .inl ((cT 1), 64, .inr (.inl f0))), (r 11, .inl ((cT 0), 16, .inl f11))] U.heap ∧ va_K (dC, dI) vcl (tyL cT) U ∧ va_D (fun _ => True) [(mo, .inr (12, mdG r cd tm (nI sn) (nI tx) (nI lz) (nI az) (nI na) (nI nt) (nI nr) mw ml mk dq)), (r 9, .inl ((cT 0), 1400, .inl f9)), (r 0, .inl ((cT 1), 64, .inr (.inl f0))), (r 11, .inl ((cT 0), 16, .inl f11))])) (va_Qv (S := (Nat → Int32) × (Nat → Int32)) (fun u => match u with | (g9, g11) => AB g11) (fun u t => match u with | (g9, g11) => va_P (dC, dI) vcl [(mo, .inr (12, mdG r cd tm (nI sn) (nI 0) (nI lz) (nI az) (nI na) (nI nt) (nI nr) mw ml mk dq)), (r 9, .inl ((cT 0), 1400, .inl g9)), (r 0, .inl ((cT 1), 64, .inr (.inl f0))), (r 11, .inl ((cT 0), 16, .inl g11))] t.heap ∧ va_K (dC, dI) vcl (tyL cT) t ∧ va_D (va_A [(mo, .inr (12, mdG r cd tm (nI sn) (nI tx) (nI lz) (nI az) (nI na) (nI nt) (nI nr) mw ml mk dq)), (r 9, .inl ((cT 0), 1400, .inl f9)), (r 0, .inl ((cT 1), 64, .inr (.inl f0))), (r 11, .inl ((cT 0), 16, .inl f11))] sz) [(mo, .inr (12, mdG r cd tm (nI sn) (nI 0) (nI lz) (nI az) (nI na) (nI nt) (nI nr) mw ml mk dq)), (r 9, .inl ((cT 0), 1400, .inl g9)), (r 0, .inl ((cT 1), 64, .inr (.inl f0))), (r 11, .inl ((cT 0), 16, .inl g11))]) (va_A [(mo, .inr (12, mdG r cd tm (nI sn) (nI tx) (nI lz) (nI az) (nI na) (nI nt) (nI nr) mw ml mk dq)), (r 9, .inl ((cT 0), 1400, .inl f9)), (r 0, .inl ((cT 1), 64, .inr (.inl f0))), (r 11, .inl ((cT 0), 16, .inl f11))] sz)) 0 0 (va_A [(mo, .inr (12, mdG r cd tm (nI sn) (nI tx) (nI lz) (nI az) (nI na) (nI nt) (nI nr) mw ml mk dq)), (r 9, .inl ((cT 0), 1400, .inl f9)), (r 0, .inl ((cT 1), 64, .inr (.inl f0))), (r 11, .inl ((cT 0), 16, .inl f11))] sz) := by
  refine Met.ofW (cc := b_Md_md5) (maxL := 24) (ret := (Option.none : Option Jvm.ClassFile.FieldType)) (by decide) rfl ?_
  intro p e s m args below meth c s₁ B hml hv
  obtain ⟨hargs, hsz, hP, hK, hD0⟩ := hv
  have hx := B.exec
  have hb := B.bytes
  have hr := B.returns
  have hts := atoms_spec (ws := (Cond.code y_Md_md5 b_Md_md5 24 (Option.none : Option Jvm.ClassFile.FieldType) :: BIG)) B.pre
  have hg : ∀ w ∈ BIG, w.before _ s = true := fun w h => hts w (List.mem_cons_of_mem _ h)
  have hown : s.vm.findClass "DoorServerModel" = some m.cls := findClass_of_methodNamed B.named
  have hlocks := B.notSynchronized
  subst hsz
  have hD := hD0.self (sz := s.heap.size)
  generalize hAe : va_A [(mo, .inr (12, mdG r cd tm (nI sn) (nI tx) (nI lz) (nI az) (nI na) (nI nt) (nI nr) mw ml mk dq)), (r 9, .inl ((cT 0), 1400, .inl f9)), (r 0, .inl ((cT 1), 64, .inr (.inl f0))), (r 11, .inl ((cT 0), 16, .inl f11))] s.heap.size = A at hD ⊢
  have hA : ∀ q : Nat, s.heap.size ≤ q → A q := fun q h => by rw [← hAe]; exact Or.inr h
  have hS : va_S A s.heap s.heap [] := va_S.rf
  have hl := lv_entry ([.ref mo]) (n := 24) (Nat.le_of_ble_eq_true rfl)
  refine W.eq (g2 := entryFrame m (List.toArray [.ref mo]) 24) (by rw [hargs]) ?_
  rw [lg_entry_eq]
  generalize (lg_sl ([.ref mo]) ++ List.replicate (24 - (lg_sl ([.ref mo])).length) Slot.unset).toArray = ls at hl ⊢
  have hl : lv_has ls 24 [(0, .ref mo)] := hl
  change W p l e ({ frames := 1, cells := 0, slots := 0, locals := 26 } : Room) s m args below meth c s.heap [] 0 0 _ _
  have hP : va_P (dC, dI) vcl [(mo, .inr (12, mdG r cd tm (nI sn) (nI tx) (nI lz) (nI az) (nI na) (nI nt) (nI nr) mw ml mk dq)), (r 9, .inl ((cT 0), 1400, .inl f9)), (r 0, .inl ((cT 1), 64, .inr (.inl f0))), (r 11, .inl ((cT 0), 16, .inl f11))] s.heap := hP
  refine lv_aload_n hx hb d_Md_md5_0 rfl (lv_at hl 0 rfl) ?_
  refine va_get (D := (dC, dI)) (ci := 12) (v := (.int (nI tx))) (C := R_Md) (T := F_Md) (N := 45) hx hb hg in_Md hown hK hP 0 rfl rfl 10 (by decide) (hg _ k_1030) (fun _ h9 => h9) rfl d_Md_md5_1 ?_
  refine lv_istore_n (lv' := [(1, .int (nI tx)), (0, .ref mo)]) hx hb d_Md_md5_4 rfl hl (by decide) rfl (fun ls hl => ?_)
  refine lv_aload_n hx hb d_Md_md5_5 rfl (lv_at hl 1 rfl) ?_
  refine lv_sipush (v := 128) hx hb d_Md_md5_6 (by decide) ?_
  have hPc := hP.sub (ws' := [(mo, .inr (12, mdG r cd tm (nI sn) (nI tx) (nI lz) (nI az) (nI na) (nI nt) (nI nr) mw ml mk dq)), (r 9, .inl ((cT 0), 1400, .inl f9))]) [0, 1] rfl
  have hDc := hD.sub (ws' := [(mo, .inr (12, mdG r cd tm (nI sn) (nI tx) (nI lz) (nI az) (nI na) (nI nt) (nI nr) mw ml mk dq)), (r 9, .inl ((cT 0), 1400, .inl f9))]) [0, 1] (by decide) rfl
  have hFc := va_free (wc := [(mo, .inr (12, mdG r cd tm (nI sn) (nI tx) (nI lz) (nI az) (nI na) (nI nt) (nI nr) mw ml mk dq)), (r 9, .inl ((cT 0), 1400, .inl f9))]) hD hS hA [0, 1] rfl
  refine va_callv (va_runV (C := "DoorServerModel") (As := [.int 128]) (rest := []) ⟨hx, hb, hml, hown, hg⟩ (m_say l dC dI cT s.heap.size mo r cd tm sn tx lz az na nt nr mw ml mk dq f9 128 (by first | assumption | omega)) (cwV 1 hg (gI (List.forall_mem_append.mpr ⟨List.forall_mem_cons.mpr ⟨k_1220, List.forall_mem_cons.mpr ⟨k_1222, List.forall_mem_cons.mpr ⟨(big_sel (q := y_Md_say) (n := 45) (by decide +kernel)), List.forall_mem_cons.mpr ⟨k_13, fun _ h => absurd h List.not_mem_nil⟩⟩⟩⟩, List.forall_mem_cons.mpr ⟨k_1223, fun _ h => h⟩⟩)) rfl rfl rfl (by decide +kernel) ⟨Nat.le_of_ble_eq_true rfl, Nat.le_of_ble_eq_true rfl⟩) ⟨fun a U g mk q => by obtain ⟨q0, q1, qP, qK, qD⟩ := q; exact ⟨q0, q1, qP, va_K.moved (u := U) (U := U.calling g mk a) (Vm.Alike.refl U.vm) qK, qD⟩, va_recv (q0 := 0) (ci := 12) hK hP rfl rfl, fun U hU hW => ⟨rfl, by rw [hU], by rw [hU]; exact hPc, va_K.moved hW.alike hK, hDc.weaken (fun _ _ _ _ => trivial)⟩⟩ rfl rfl hl.1 rfl (lv_room (Nat.le_of_ble_eq_true rfl)) d_Md_md5_9 ⟨Nat.le_of_ble_eq_true rfl, Nat.le_of_ble_eq_true rfl⟩) hS (fun q _ h => hFc q h) hFc (fun u t H1 locs ht hvm hw hB hz1 hk1 hS => ?_)
  obtain ⟨g9_50, rfl⟩ : ∃ z, z = u := ⟨_, rfl⟩
  try dsimp only at hw hB
  obtain ⟨hP1, hK1, hD1⟩ := hB
  rw [ht] at hP1
  obtain ⟨hP, hD⟩ := va_join (wr := [(r 0, .inl ((cT 1), 64, .inr (.inl f0))), (r 11, .inl ((cT 0), 16, .inl f11))]) (w1 := [(mo, .inr (12, mdG r cd tm (nI sn) (nI (tx + 1)) (nI lz) (nI az) (nI na) (nI nt) (nI nr) mw ml mk dq)), (r 9, .inl ((cT 0), 1400, .inl g9_50))]) hP hD [0, 1] [2, 3] rfl rfl (by decide) (by decide) hk1 hFc hP1 hD1
  have hw51 := hw
  clear hPc hDc hFc hz1 hk1 hP1 hK1 hD1
  generalize H1 = H at hP hS ⊢
  have hP : va_P (dC, dI) vcl [(r 0, .inl ((cT 1), 64, .inr (.inl f0))), (r 11, .inl ((cT 0), 16, .inl f11)), (mo, .inr (12, mdG r cd tm (nI sn) (nI (tx + 1)) (nI lz) (nI az) (nI na) (nI nt) (nI nr) mw ml mk dq)), (r 9, .inl ((cT 0), 1400, .inl g9_50))] H := hP
  have hD : va_D A [(r 0, .inl ((cT 1), 64, .inr (.inl f0))), (r 11, .inl ((cT 0), 16, .inl f11)), (mo, .inr (12, mdG r cd tm (nI sn) (nI (tx + 1)) (nI lz) (nI az) (nI na) (nI nt) (nI nr) mw ml mk dq)), (r 9, .inl ((cT 0), 1400, .inl g9_50))] := hD
  have hP := hP.sub (ws' := [(mo, .inr (12, mdG r cd tm (nI sn) (nI (tx + 1)) (nI lz) (nI az) (nI na) (nI nt) (nI nr) mw ml mk dq)), (r 9, .inl ((cT 0), 1400, .inl g9_50)), (r 0, .inl ((cT 1), 64, .inr (.inl f0))), (r 11, .inl ((cT 0), 16, .inl f11))]) [2, 3, 0, 1] rfl
  have hD := hD.sub (ws' := [(mo, .inr (12, mdG r cd tm (nI sn) (nI (tx + 1)) (nI lz) (nI az) (nI na) (nI nt) (nI nr) mw ml mk dq)), (r 9, .inl ((cT 0), 1400, .inl g9_50)), (r 0, .inl ((cT 1), 64, .inr (.inl f0))), (r 11, .inl ((cT 0), 16, .inl f11))]) [2, 3, 0, 1] (by decide) rfl
  obtain ⟨cn, hcn⟩ : ∃ cn, cn = (120 - (tx + 1) % 64) % 64 := ⟨_, rfl⟩
  have hl := lv_sub hl [1, 0] (show _ = [(0, .ref mo), (1, .int (nI tx))] from rfl)
  have L52 : ∀ (Q : State → Prop) (exit : ∀ (g : Nat → Int32) (H : Heap) (locs : List Loc) (ls : Array Slot), va_P (dC, dI) vcl [(mo, .inr (12, mdG r cd tm (nI sn) (nI (tx + 1 + cn)) (nI lz) (nI az) (nI na) (nI nt) (nI nr) mw ml mk dq)), (r 9, .inl ((cT 0), 1400, .inl g)), (r 0, .inl ((cT 1), 64, .inr (.inl f0))), (r 11, .inl ((cT 0), 16, .inl f11))] H → va_D A [(mo, .inr (12, mdG r cd tm (nI sn) (nI (tx + 1 + cn)) (nI lz) (nI az) (nI na) (nI nt) (nI nr) mw ml mk dq)), (r 9, .inl ((cT 0), 1400, .inl g)), (r 0, .inl ((cT 1), 64, .inr (.inl f0))), (r 11, .inl ((cT 0), 16, .inl f11))] → va_S A s.heap H locs → lv_has ls 24 [(0, .ref mo), (1, .int (nI tx))] → W p l e ({ frames := 1, cells := 0, slots := 0, locals := 26 } : Room) s m args below meth c H locs 0 0 Q (F0 m 32 ls [])) (j8 i : Nat) (g : Nat → Int32) (H : Heap) (locs : List Loc) (ls : Array Slot), i + j8 = cn → va_P (dC, dI) vcl [(mo, .inr (12, mdG r cd tm (nI sn) (nI (tx + 1 + i)) (nI lz) (nI az) (nI na) (nI nt) (nI nr) mw ml mk dq)), (r 9, .inl ((cT 0), 1400, .inl g)), (r 0, .inl ((cT 1), 64, .inr (.inl f0))), (r 11, .inl ((cT 0), 16, .inl f11))] H → va_D A [(mo, .inr (12, mdG r cd tm (nI sn) (nI (tx + 1 + i)) (nI lz) (nI az) (nI na) (nI nt) (nI nr) mw ml mk dq)), (r 9, .inl ((cT 0), 1400, .inl g)), (r 0, .inl ((cT 1), 64, .inr (.inl f0))), (r 11, .inl ((cT 0), 16, .inl f11))] → va_S A s.heap H locs → lv_has ls 24 [(0, .ref mo), (1, .int (nI tx))] → W p l e ({ frames := 1, cells := 0, slots := 0, locals := 26 } : Room) s m args below meth c H locs 0 0 Q (F0 m 12 ls []) := by
    intro Q exit j8
    induction j8 with
    | zero => 
      intro i g H locs ls hij  hP hD hS hl
      have hij : cn = i := by omega
      refine lv_aload_n hx hb d_Md_md5_12 rfl (lv_at hl 0 rfl) ?_
      refine va_get (D := (dC, dI)) (ci := 12) (v := (.int (nI (tx + 1 + i)))) (C := R_Md) (T := F_Md) (N := 45) hx hb hg in_Md hown hK hP 0 rfl rfl 10 (by decide) (hg _ k_1030) (fun _ h9 => h9) rfl d_Md_md5_13 ?_
      refine lv_bipush (v := 64) hx hb d_Md_md5_16 (by decide) ?_
      refine lv_irem hx hb d_Md_md5_18 (by decide) ?_
      refine lv_topi (fun x54 e53 => ?_)
      obtain rfl : x54 = nI ((tx + 1 + i) % 64) := by rw [e53]; exact pk_rem (d := 64) (by omega) (by decide) (by decide)
      refine lv_bipush (v := 56) hx hb d_Md_md5_19 (by decide) ?_
      refine lv_topi (fun x56 e55 => ?_)
      obtain rfl : x56 = nI 56 := by rw [e55]; rfl
      refine lv_icmp_eq (tgt := 32) hx hb d_Md_md5_21 (by decide) (fun hc57 => ?_) (fun hn9 => absurd (congrArg nI (by omega)) hn9)
      subst hij
      exact exit g _ _ _  hP hD hS hl
    | succ j8 ih => 
      intro i g H locs ls hij  hP hD hS hl
      have hlt : i < cn := by omega
      refine lv_aload_n hx hb d_Md_md5_12 rfl (lv_at hl 0 rfl) ?_
      refine va_get (D := (dC, dI)) (ci := 12) (v := (.int (nI (tx + 1 + i)))) (C := R_Md) (T := F_Md) (N := 45) hx hb hg in_Md hown hK hP 0 rfl rfl 10 (by decide) (hg _ k_1030) (fun _ h9 => h9) rfl d_Md_md5_13 ?_
      refine lv_bipush (v := 64) hx hb d_Md_md5_16 (by decide) ?_
      refine lv_irem hx hb d_Md_md5_18 (by decide) ?_
      refine lv_topi (fun x59 e58 => ?_)
      obtain rfl : x59 = nI ((tx + 1 + i) % 64) := by rw [e58]; exact pk_rem (d := 64) (by omega) (by decide) (by decide)
      refine lv_bipush (v := 56) hx hb d_Md_md5_19 (by decide) ?_
      refine lv_topi (fun x61 e60 => ?_)
      obtain rfl : x61 = nI 56 := by rw [e60]; rfl
      refine lv_icmp_eq (tgt := 32) hx hb d_Md_md5_21 (by decide) (fun hn9 => absurd hn9 (fun h9 => absurd ((nI_eq (by omega) (by decide)).mp h9) (by omega))) (fun hc62 => ?_)
      refine lv_aload_n hx hb d_Md_md5_24 rfl (lv_at hl 0 rfl) ?_
      refine lv_iconst (v := 0) hx hb d_Md_md5_25 (by decide) ?_
      have hPc := hP.sub (ws' := [(mo, .inr (12, mdG r cd tm (nI sn) (nI (tx + 1 + i)) (nI lz) (nI az) (nI na) (nI nt) (nI nr) mw ml mk dq)), (r 9, .inl ((cT 0), 1400, .inl g))]) [0, 1] rfl
      have hDc := hD.sub (ws' := [(mo, .inr (12, mdG r cd tm (nI sn) (nI (tx + 1 + i)) (nI lz) (nI az) (nI na) (nI nt) (nI nr) mw ml mk dq)), (r 9, .inl ((cT 0), 1400, .inl g))]) [0, 1] (by decide) rfl
      have hFc := va_free (wc := [(mo, .inr (12, mdG r cd tm (nI sn) (nI (tx + 1 + i)) (nI lz) (nI az) (nI na) (nI nt) (nI nr) mw ml mk dq)), (r 9, .inl ((cT 0), 1400, .inl g))]) hD hS hA [0, 1] rfl
      refine va_callv (va_runV (C := "DoorServerModel") (As := [.int 0]) (rest := []) ⟨hx, hb, hml, hown, hg⟩ (m_say l dC dI cT H.size mo r cd tm sn (tx + 1 + i) lz az na nt nr mw ml mk dq g 0 (by first | assumption | omega)) (cwV 1 hg (gI (List.forall_mem_append.mpr ⟨List.forall_mem_cons.mpr ⟨k_1220, List.forall_mem_cons.mpr ⟨k_1222, List.forall_mem_cons.mpr ⟨(big_sel (q := y_Md_say) (n := 45) (by decide +kernel)), List.forall_mem_cons.mpr ⟨k_13, fun _ h => absurd h List.not_mem_nil⟩⟩⟩⟩, List.forall_mem_cons.mpr ⟨k_1223, fun _ h => h⟩⟩)) rfl rfl rfl (by decide +kernel) ⟨Nat.le_of_ble_eq_true rfl, Nat.le_of_ble_eq_true rfl⟩) ⟨fun a U g mk q => by obtain ⟨q0, q1, qP, qK, qD⟩ := q; exact ⟨q0, q1, qP, va_K.moved (u := U) (U := U.calling g mk a) (Vm.Alike.refl U.vm) qK, qD⟩, va_recv (q0 := 0) (ci := 12) hK hP rfl rfl, fun U hU hW => ⟨rfl, by rw [hU], by rw [hU]; exact hPc, va_K.moved hW.alike hK, hDc.weaken (fun _ _ _ _ => trivial)⟩⟩ rfl rfl hl.1 rfl (lv_room (Nat.le_of_ble_eq_true rfl)) d_Md_md5_26 ⟨Nat.le_of_ble_eq_true rfl, Nat.le_of_ble_eq_true rfl⟩) hS (fun q _ h => hFc q h) hFc (fun u t H1 locs ht hvm hw hB hz1 hk1 hS => ?_)
      obtain ⟨g9_63, rfl⟩ : ∃ z, z = u := ⟨_, rfl⟩
      try dsimp only at hw hB
      obtain ⟨hP1, hK1, hD1⟩ := hB
      rw [ht] at hP1
      obtain ⟨hP, hD⟩ := va_join (wr := [(r 0, .inl ((cT 1), 64, .inr (.inl f0))), (r 11, .inl ((cT 0), 16, .inl f11))]) (w1 := [(mo, .inr (12, mdG r cd tm (nI sn) (nI ((tx + 1 + i) + 1)) (nI lz) (nI az) (nI na) (nI nt) (nI nr) mw ml mk dq)), (r 9, .inl ((cT 0), 1400, .inl g9_63))]) hP hD [0, 1] [2, 3] rfl rfl (by decide) (by decide) hk1 hFc hP1 hD1
      have hw64 := hw
      clear hPc hDc hFc hz1 hk1 hP1 hK1 hD1
      generalize H1 = H at hP hS ⊢
      have hP : va_P (dC, dI) vcl [(r 0, .inl ((cT 1), 64, .inr (.inl f0))), (r 11, .inl ((cT 0), 16, .inl f11)), (mo, .inr (12, mdG r cd tm (nI sn) (nI ((tx + 1 + i) + 1)) (nI lz) (nI az) (nI na) (nI nt) (nI nr) mw ml mk dq)), (r 9, .inl ((cT 0), 1400, .inl g9_63))] H := hP
      have hD : va_D A [(r 0, .inl ((cT 1), 64, .inr (.inl f0))), (r 11, .inl ((cT 0), 16, .inl f11)), (mo, .inr (12, mdG r cd tm (nI sn) (nI ((tx + 1 + i) + 1)) (nI lz) (nI az) (nI na) (nI nt) (nI nr) mw ml mk dq)), (r 9, .inl ((cT 0), 1400, .inl g9_63))] := hD
      refine lv_goto (tgt := 12) hx hb d_Md_md5_29 (by decide) ?_
      have hP := hP.sub (ws' := [(mo, .inr (12, mdG r cd tm (nI sn) (nI ((tx + 1 + i) + 1)) (nI lz) (nI az) (nI na) (nI nt) (nI nr) mw ml mk dq)), (r 9, .inl ((cT 0), 1400, .inl g9_63)), (r 0, .inl ((cT 1), 64, .inr (.inl f0))), (r 11, .inl ((cT 0), 16, .inl f11))]) [2, 3, 0, 1] rfl
      have hD := hD.sub (ws' := [(mo, .inr (12, mdG r cd tm (nI sn) (nI ((tx + 1 + i) + 1)) (nI lz) (nI az) (nI na) (nI nt) (nI nr) mw ml mk dq)), (r 9, .inl ((cT 0), 1400, .inl g9_63)), (r 0, .inl ((cT 1), 64, .inr (.inl f0))), (r 11, .inl ((cT 0), 16, .inl f11))]) [2, 3, 0, 1] (by decide) rfl
      exact ih (i + 1) _ _ _ _ (by omega)  hP hD hS hl
  refine L52 _ (fun g H locs ls  hP hD hS hl => ?_) (cn - 0) 0 g9_50 H _ ls (by omega)  hP hD hS hl
  refine lv_iconst (v := 0) hx hb d_Md_md5_32 (by decide) ?_
  refine lv_istore_n (lv' := [(2, .int 0), (0, .ref mo), (1, .int (nI tx))]) hx hb d_Md_md5_33 rfl hl (by decide) rfl (fun ls hl => ?_)
  have hl := lv_sub hl [0, 1, 2] (show _ = [(2, .int 0), (0, .ref mo), (1, .int (nI tx))] from rfl)
  have L66 : ∀ (Q : State → Prop) (exit : ∀ (g9_65 : Nat → Int32) (H : Heap) (locs : List Loc) (ls : Array Slot), va_P (dC, dI) vcl [(mo, .inr (12, mdG r cd tm (nI sn) (nI (tx + 1 + cn + 8)) (nI lz) (nI az) (nI na) (nI nt) (nI nr) mw ml mk dq)), (r 9, .inl ((cT 0), 1400, .inl g9_65)), (r 0, .inl ((cT 1), 64, .inr (.inl f0))), (r 11, .inl ((cT 0), 16, .inl f11))] H → va_D A [(mo, .inr (12, mdG r cd tm (nI sn) (nI (tx + 1 + cn + 8)) (nI lz) (nI az) (nI na) (nI nt) (nI nr) mw ml mk dq)), (r 9, .inl ((cT 0), 1400, .inl g9_65)), (r 0, .inl ((cT 1), 64, .inr (.inl f0))), (r 11, .inl ((cT 0), 16, .inl f11))] → va_S A s.heap H locs → lv_has ls 24 [(2, .int (nI 8)), (0, .ref mo), (1, .int (nI tx))] → W p l e ({ frames := 1, cells := 0, slots := 0, locals := 26 } : Room) s m args below meth c H locs 0 0 Q (F0 m 72 ls [])) (j8 i : Nat) (g9_65 : Nat → Int32) (H : Heap) (locs : List Loc) (ls : Array Slot), i + j8 = 8 → va_P (dC, dI) vcl [(mo, .inr (12, mdG r cd tm (nI sn) (nI (tx + 1 + cn + i)) (nI lz) (nI az) (nI na) (nI nt) (nI nr) mw ml mk dq)), (r 9, .inl ((cT 0), 1400, .inl g9_65)), (r 0, .inl ((cT 1), 64, .inr (.inl f0))), (r 11, .inl ((cT 0), 16, .inl f11))] H → va_D A [(mo, .inr (12, mdG r cd tm (nI sn) (nI (tx + 1 + cn + i)) (nI lz) (nI az) (nI na) (nI nt) (nI nr) mw ml mk dq)), (r 9, .inl ((cT 0), 1400, .inl g9_65)), (r 0, .inl ((cT 1), 64, .inr (.inl f0))), (r 11, .inl ((cT 0), 16, .inl f11))] → va_S A s.heap H locs → lv_has ls 24 [(2, .int (nI i)), (0, .ref mo), (1, .int (nI tx))] → W p l e ({ frames := 1, cells := 0, slots := 0, locals := 26 } : Room) s m args below meth c H locs 0 0 Q (F0 m 34 ls []) := by
    intro Q exit j8
    induction j8 with
    | zero => 
      intro i g9_65 H locs ls hij  hP hD hS hl
      have hij : 8 = i := by omega
      refine lv_iload_n hx hb d_Md_md5_34 rfl (lv_at hl 0 rfl) ?_
      refine lv_bipush (v := 8) hx hb d_Md_md5_35 (by decide) ?_
      refine lv_topi (fun x68 e67 => ?_)
      obtain rfl : x68 = nI 8 := by rw [e67]; rfl
      refine lv_icmp_ge (tgt := 72) hx hb d_Md_md5_37 (by decide) (fun hc69 => ?_) (fun hn9 => absurd (nI_le (by omega) (by omega)) hn9)
      subst hij
      exact exit g9_65 _ _ _  hP hD hS hl
    | succ j8 ih => 
      intro i g9_65 H locs ls hij  hP hD hS hl
      have hlt : i < 8 := by omega
      have hlti := hlt
      refine lv_iload_n hx hb d_Md_md5_34 rfl (lv_at hl 0 rfl) ?_
      refine lv_bipush (v := 8) hx hb d_Md_md5_35 (by decide) ?_
      refine lv_topi (fun x71 e70 => ?_)
      obtain rfl : x71 = nI 8 := by rw [e70]; rfl
      refine lv_icmp_ge (tgt := 72) hx hb d_Md_md5_37 (by decide) (fun hn9 => absurd hn9 (nI_ge (by omega) (by omega))) (fun hc72 => ?_)
      refine lv_aload_n hx hb d_Md_md5_40 rfl (lv_at hl 1 rfl) ?_
      refine lv_iload_n hx hb d_Md_md5_41 rfl (lv_at hl 0 rfl) ?_
      refine lv_iconst (v := 4) hx hb d_Md_md5_42 (by decide) ?_
      refine lv_icmp_ge (tgt := 62) hx hb d_Md_md5_43 (by decide) (fun hc73 => ?_) (fun hc73 => ?_)
      · skip
        have n74 : 4 ≤ i := (nI_leI (a := 4) (b := i) (by omega) (by omega)).mp hc73
        refine lv_iconst (v := 0) hx hb d_Md_md5_62 (by decide) ?_
        have hPc := hP.sub (ws' := [(mo, .inr (12, mdG r cd tm (nI sn) (nI (tx + 1 + cn + i)) (nI lz) (nI az) (nI na) (nI nt) (nI nr) mw ml mk dq)), (r 9, .inl ((cT 0), 1400, .inl g9_65))]) [0, 1] rfl
        have hDc := hD.sub (ws' := [(mo, .inr (12, mdG r cd tm (nI sn) (nI (tx + 1 + cn + i)) (nI lz) (nI az) (nI na) (nI nt) (nI nr) mw ml mk dq)), (r 9, .inl ((cT 0), 1400, .inl g9_65))]) [0, 1] (by decide) rfl
        have hFc := va_free (wc := [(mo, .inr (12, mdG r cd tm (nI sn) (nI (tx + 1 + cn + i)) (nI lz) (nI az) (nI na) (nI nt) (nI nr) mw ml mk dq)), (r 9, .inl ((cT 0), 1400, .inl g9_65))]) hD hS hA [0, 1] rfl
        refine va_callv (va_runV (C := "DoorServerModel") (As := [.int 0]) (rest := []) ⟨hx, hb, hml, hown, hg⟩ (m_say l dC dI cT H.size mo r cd tm sn (tx + 1 + cn + i) lz az na nt nr mw ml mk dq g9_65 0 (by first | assumption | omega)) (cwV 1 hg (gI (List.forall_mem_append.mpr ⟨List.forall_mem_cons.mpr ⟨k_1220, List.forall_mem_cons.mpr ⟨k_1222, List.forall_mem_cons.mpr ⟨(big_sel (q := y_Md_say) (n := 45) (by decide +kernel)), List.forall_mem_cons.mpr ⟨k_13, fun _ h => absurd h List.not_mem_nil⟩⟩⟩⟩, List.forall_mem_cons.mpr ⟨k_1223, fun _ h => h⟩⟩)) rfl rfl rfl (by decide +kernel) ⟨Nat.le_of_ble_eq_true rfl, Nat.le_of_ble_eq_true rfl⟩) ⟨fun a U g mk q => by obtain ⟨q0, q1, qP, qK, qD⟩ := q; exact ⟨q0, q1, qP, va_K.moved (u := U) (U := U.calling g mk a) (Vm.Alike.refl U.vm) qK, qD⟩, va_recv (q0 := 0) (ci := 12) hK hP rfl rfl, fun U hU hW => ⟨rfl, by rw [hU], by rw [hU]; exact hPc, va_K.moved hW.alike hK, hDc.weaken (fun _ _ _ _ => trivial)⟩⟩ rfl rfl hl.1 rfl (lv_room (Nat.le_of_ble_eq_true rfl)) d_Md_md5_63 ⟨Nat.le_of_ble_eq_true rfl, Nat.le_of_ble_eq_true rfl⟩) hS (fun q _ h => hFc q h) hFc (fun u t H1 locs ht hvm hw hB hz1 hk1 hS => ?_)
        obtain ⟨g9_76, rfl⟩ : ∃ z, z = u := ⟨_, rfl⟩
        try dsimp only at hw hB
        obtain ⟨hP1, hK1, hD1⟩ := hB
        rw [ht] at hP1
        obtain ⟨hP, hD⟩ := va_join (wr := [(r 0, .inl ((cT 1), 64, .inr (.inl f0))), (r 11, .inl ((cT 0), 16, .inl f11))]) (w1 := [(mo, .inr (12, mdG r cd tm (nI sn) (nI ((tx + 1 + cn + i) + 1)) (nI lz) (nI az) (nI na) (nI nt) (nI nr) mw ml mk dq)), (r 9, .inl ((cT 0), 1400, .inl g9_76))]) hP hD [0, 1] [2, 3] rfl rfl (by decide) (by decide) hk1 hFc hP1 hD1
        have hw77 := hw
        clear hPc hDc hFc hz1 hk1 hP1 hK1 hD1
        generalize H1 = H at hP hS ⊢
        have hP : va_P (dC, dI) vcl [(r 0, .inl ((cT 1), 64, .inr (.inl f0))), (r 11, .inl ((cT 0), 16, .inl f11)), (mo, .inr (12, mdG r cd tm (nI sn) (nI ((tx + 1 + cn + i) + 1)) (nI lz) (nI az) (nI na) (nI nt) (nI nr) mw ml mk dq)), (r 9, .inl ((cT 0), 1400, .inl g9_76))] H := hP
        have hD : va_D A [(r 0, .inl ((cT 1), 64, .inr (.inl f0))), (r 11, .inl ((cT 0), 16, .inl f11)), (mo, .inr (12, mdG r cd tm (nI sn) (nI ((tx + 1 + cn + i) + 1)) (nI lz) (nI az) (nI na) (nI nt) (nI nr) mw ml mk dq)), (r 9, .inl ((cT 0), 1400, .inl g9_76))] := hD
        refine lv_iinc (k := 0) (v := nI (i + 1)) (lv' := [(2, .int (nI (i + 1))), (0, .ref mo), (1, .int (nI tx))]) hx hb d_Md_md5_66 hl rfl (nI_1 i) (by decide) rfl (fun ls hl => ?_)
        refine lv_goto (tgt := 34) hx hb d_Md_md5_69 (by decide) ?_
        have hl := lv_sub hl [0, 1, 2] (show _ = [(2, .int (nI (i + 1))), (0, .ref mo), (1, .int (nI tx))] from rfl)
        have hP := hP.sub (ws' := [(mo, .inr (12, mdG r cd tm (nI sn) (nI ((tx + 1 + cn + i) + 1)) (nI lz) (nI az) (nI na) (nI nt) (nI nr) mw ml mk dq)), (r 9, .inl ((cT 0), 1400, .inl g9_76)), (r 0, .inl ((cT 1), 64, .inr (.inl f0))), (r 11, .inl ((cT 0), 16, .inl f11))]) [2, 3, 0, 1] rfl
        have hD := hD.sub (ws' := [(mo, .inr (12, mdG r cd tm (nI sn) (nI ((tx + 1 + cn + i) + 1)) (nI lz) (nI az) (nI na) (nI nt) (nI nr) mw ml mk dq)), (r 9, .inl ((cT 0), 1400, .inl g9_76)), (r 0, .inl ((cT 1), 64, .inr (.inl f0))), (r 11, .inl ((cT 0), 16, .inl f11))]) [2, 3, 0, 1] (by decide) rfl
        exact ih (i + 1) _ _ _ _ (by omega)  hP hD hS hl
      · skip
        have n75 : i < 4 := Nat.not_le.mp (fun h7 => hc73 ((nI_leI (a := 4) (b := i) (by omega) (by omega)).mpr h7))
        refine lv_bipush (v := 8) hx hb d_Md_md5_46 (by decide) ?_
        refine lv_iload_n hx hb d_Md_md5_48 rfl (lv_at hl 2 rfl) ?_
        refine lv_imul hx hb d_Md_md5_49 ?_
        refine lv_topi (fun x79 e78 => ?_)
        obtain rfl : x79 = nI (8 * tx) := by rw [e78]; exact pk_mul 8 tx
        refine lv_bipush (v := 8) hx hb d_Md_md5_50 (by decide) ?_
        refine lv_iload_n hx hb d_Md_md5_52 rfl (lv_at hl 0 rfl) ?_
        refine lv_imul hx hb d_Md_md5_53 ?_
        refine lv_topi (fun x81 e80 => ?_)
        obtain rfl : x81 = nI (8 * i) := by rw [e80]; exact pk_mul 8 i
        refine lv_ishr hx hb d_Md_md5_54 ?_
        refine lv_sipush (v := 255) hx hb d_Md_md5_55 (by decide) ?_
        refine lv_iand hx hb d_Md_md5_58 ?_
        refine lv_goto (tgt := 63) hx hb d_Md_md5_59 (by decide) ?_
        have hPc := hP.sub (ws' := [(mo, .inr (12, mdG r cd tm (nI sn) (nI (tx + 1 + cn + i)) (nI lz) (nI az) (nI na) (nI nt) (nI nr) mw ml mk dq)), (r 9, .inl ((cT 0), 1400, .inl g9_65))]) [0, 1] rfl
        have hDc := hD.sub (ws' := [(mo, .inr (12, mdG r cd tm (nI sn) (nI (tx + 1 + cn + i)) (nI lz) (nI az) (nI na) (nI nt) (nI nr) mw ml mk dq)), (r 9, .inl ((cT 0), 1400, .inl g9_65))]) [0, 1] (by decide) rfl
        have hFc := va_free (wc := [(mo, .inr (12, mdG r cd tm (nI sn) (nI (tx + 1 + cn + i)) (nI lz) (nI az) (nI na) (nI nt) (nI nr) mw ml mk dq)), (r 9, .inl ((cT 0), 1400, .inl g9_65))]) hD hS hA [0, 1] rfl
        refine va_callv (va_runV (C := "DoorServerModel") (As := [.int (((nI (8 * tx)) >>> ((nI (8 * i)) &&& 31)) &&& 255)]) (rest := []) ⟨hx, hb, hml, hown, hg⟩ (m_say l dC dI cT H.size mo r cd tm sn (tx + 1 + cn + i) lz az na nt nr mw ml mk dq g9_65 (((nI (8 * tx)) >>> ((nI (8 * i)) &&& 31)) &&& 255) (by first | assumption | omega)) (cwV 1 hg (gI (List.forall_mem_append.mpr ⟨List.forall_mem_cons.mpr ⟨k_1220, List.forall_mem_cons.mpr ⟨k_1222, List.forall_mem_cons.mpr ⟨(big_sel (q := y_Md_say) (n := 45) (by decide +kernel)), List.forall_mem_cons.mpr ⟨k_13, fun _ h => absurd h List.not_mem_nil⟩⟩⟩⟩, List.forall_mem_cons.mpr ⟨k_1223, fun _ h => h⟩⟩)) rfl rfl rfl (by decide +kernel) ⟨Nat.le_of_ble_eq_true rfl, Nat.le_of_ble_eq_true rfl⟩) ⟨fun a U g mk q => by obtain ⟨q0, q1, qP, qK, qD⟩ := q; exact ⟨q0, q1, qP, va_K.moved (u := U) (U := U.calling g mk a) (Vm.Alike.refl U.vm) qK, qD⟩, va_recv (q0 := 0) (ci := 12) hK hP rfl rfl, fun U hU hW => ⟨rfl, by rw [hU], by rw [hU]; exact hPc, va_K.moved hW.alike hK, hDc.weaken (fun _ _ _ _ => trivial)⟩⟩ rfl rfl hl.1 rfl (lv_room (Nat.le_of_ble_eq_true rfl)) d_Md_md5_63 ⟨Nat.le_of_ble_eq_true rfl, Nat.le_of_ble_eq_true rfl⟩) hS (fun q _ h => hFc q h) hFc (fun u t H1 locs ht hvm hw hB hz1 hk1 hS => ?_)
        obtain ⟨g9_82, rfl⟩ : ∃ z, z = u := ⟨_, rfl⟩
        try dsimp only at hw hB
        obtain ⟨hP1, hK1, hD1⟩ := hB
        rw [ht] at hP1
        obtain ⟨hP, hD⟩ := va_join (wr := [(r 0, .inl ((cT 1), 64, .inr (.inl f0))), (r 11, .inl ((cT 0), 16, .inl f11))]) (w1 := [(mo, .inr (12, mdG r cd tm (nI sn) (nI ((tx + 1 + cn + i) + 1)) (nI lz) (nI az) (nI na) (nI nt) (nI nr) mw ml mk dq)), (r 9, .inl ((cT 0), 1400, .inl g9_82))]) hP hD [0, 1] [2, 3] rfl rfl (by decide) (by decide) hk1 hFc hP1 hD1
        have hw83 := hw
        clear hPc hDc hFc hz1 hk1 hP1 hK1 hD1
        generalize H1 = H at hP hS ⊢
        have hP : va_P (dC, dI) vcl [(r 0, .inl ((cT 1), 64, .inr (.inl f0))), (r 11, .inl ((cT 0), 16, .inl f11)), (mo, .inr (12, mdG r cd tm (nI sn) (nI ((tx + 1 + cn + i) + 1)) (nI lz) (nI az) (nI na) (nI nt) (nI nr) mw ml mk dq)), (r 9, .inl ((cT 0), 1400, .inl g9_82))] H := hP
        have hD : va_D A [(r 0, .inl ((cT 1), 64, .inr (.inl f0))), (r 11, .inl ((cT 0), 16, .inl f11)), (mo, .inr (12, mdG r cd tm (nI sn) (nI ((tx + 1 + cn + i) + 1)) (nI lz) (nI az) (nI na) (nI nt) (nI nr) mw ml mk dq)), (r 9, .inl ((cT 0), 1400, .inl g9_82))] := hD
        refine lv_iinc (k := 0) (v := nI (i + 1)) (lv' := [(2, .int (nI (i + 1))), (0, .ref mo), (1, .int (nI tx))]) hx hb d_Md_md5_66 hl rfl (nI_1 i) (by decide) rfl (fun ls hl => ?_)
        refine lv_goto (tgt := 34) hx hb d_Md_md5_69 (by decide) ?_
        have hl := lv_sub hl [0, 1, 2] (show _ = [(2, .int (nI (i + 1))), (0, .ref mo), (1, .int (nI tx))] from rfl)
        have hP := hP.sub (ws' := [(mo, .inr (12, mdG r cd tm (nI sn) (nI ((tx + 1 + cn + i) + 1)) (nI lz) (nI az) (nI na) (nI nt) (nI nr) mw ml mk dq)), (r 9, .inl ((cT 0), 1400, .inl g9_82)), (r 0, .inl ((cT 1), 64, .inr (.inl f0))), (r 11, .inl ((cT 0), 16, .inl f11))]) [2, 3, 0, 1] rfl
        have hD := hD.sub (ws' := [(mo, .inr (12, mdG r cd tm (nI sn) (nI ((tx + 1 + cn + i) + 1)) (nI lz) (nI az) (nI na) (nI nt) (nI nr) mw ml mk dq)), (r 9, .inl ((cT 0), 1400, .inl g9_82)), (r 0, .inl ((cT 1), 64, .inr (.inl f0))), (r 11, .inl ((cT 0), 16, .inl f11))]) [2, 3, 0, 1] (by decide) rfl
        exact ih (i + 1) _ _ _ _ (by omega)  hP hD hS hl
  refine L66 _ (fun g9_65 H locs ls  hP hD hS hl => ?_) (8 - 0) 0 g H _ ls (by omega)  hP hD hS hl
  obtain ⟨nb, hnb⟩ : ∃ nb, tx + 1 + cn + 8 = nb * 64 := ⟨(tx + 1 + cn + 8) / 64, by omega⟩
  rw [hnb] at hP hD
  have hP : va_P (dC, dI) vcl [(mo, .inr (12, mdG r cd tm (nI sn) (nI (nb * 64)) (nI lz) (nI az) (nI na) (nI nt) (nI nr) mw ml mk dq)), (r 9, .inl ((cT 0), 1400, .inl g9_65)), (r 0, .inl ((cT 1), 64, .inr (.inl f0))), (r 11, .inl ((cT 0), 16, .inl f11))] H := hP
  have hD : va_D A [(mo, .inr (12, mdG r cd tm (nI sn) (nI (nb * 64)) (nI lz) (nI az) (nI na) (nI nt) (nI nr) mw ml mk dq)), (r 9, .inl ((cT 0), 1400, .inl g9_65)), (r 0, .inl ((cT 1), 64, .inr (.inl f0))), (r 11, .inl ((cT 0), 16, .inl f11))] := hD
  refine lv_ldc2 (v := 1732584193) hx hb hown (hg _ k_1228) d_Md_md5_72 ?_
  refine lv_lstore_n (lv' := [(2, .long 1732584193), (0, .ref mo), (1, .int (nI tx))]) hx hb d_Md_md5_75 rfl hl (by decide) rfl (fun ls hl => ?_)
  refine lv_ldc2 (v := 4023233417) hx hb hown (hg _ k_1229) d_Md_md5_76 ?_
  refine lv_lstore (lv' := [(4, .long 4023233417), (2, .long 1732584193), (0, .ref mo), (1, .int (nI tx))]) hx hb d_Md_md5_79 hl (by decide) rfl (fun ls hl => ?_)
  refine lv_ldc2 (v := 2562383102) hx hb hown (hg _ k_1230) d_Md_md5_81 ?_
  refine lv_lstore (lv' := [(6, .long 2562383102), (4, .long 4023233417), (2, .long 1732584193), (0, .ref mo), (1, .int (nI tx))]) hx hb d_Md_md5_84 hl (by decide) rfl (fun ls hl => ?_)
  refine lv_ldc2 (v := 271733878) hx hb hown (hg _ k_1231) d_Md_md5_86 ?_
  refine lv_lstore (lv' := [(8, .long 271733878), (6, .long 2562383102), (4, .long 4023233417), (2, .long 1732584193), (0, .ref mo), (1, .int (nI tx))]) hx hb d_Md_md5_89 hl (by decide) rfl (fun ls hl => ?_)
  refine lv_iconst (v := 0) hx hb d_Md_md5_91 (by decide) ?_
  refine lv_istore (lv' := [(10, .int 0), (8, .long 271733878), (6, .long 2562383102), (4, .long 4023233417), (2, .long 1732584193), (0, .ref mo), (1, .int (nI tx))]) hx hb d_Md_md5_92 hl (by decide) rfl (fun ls hl => ?_)
  have hl := lv_sub hl [0, 4, 3, 2, 1, 5, 6] (show _ = [(10, .int 0), (2, .long 1732584193), (4, .long 4023233417), (6, .long 2562383102), (8, .long 271733878), (0, .ref mo), (1, .int (nI tx))] from rfl)
  have L84 : ∀ (Q : State → Prop) (exit : ∀ (la : Int64) (lb : Int64) (lc : Int64) (ld : Int64) (H : Heap) (locs : List Loc) (ls : Array Slot), va_P (dC, dI) vcl [(mo, .inr (12, mdG r cd tm (nI sn) (nI (nb * 64)) (nI lz) (nI az) (nI na) (nI nt) (nI nr) mw ml mk dq)), (r 9, .inl ((cT 0), 1400, .inl g9_65)), (r 0, .inl ((cT 1), 64, .inr (.inl f0))), (r 11, .inl ((cT 0), 16, .inl f11))] H → va_D A [(mo, .inr (12, mdG r cd tm (nI sn) (nI (nb * 64)) (nI lz) (nI az) (nI na) (nI nt) (nI nr) mw ml mk dq)), (r 9, .inl ((cT 0), 1400, .inl g9_65)), (r 0, .inl ((cT 1), 64, .inr (.inl f0))), (r 11, .inl ((cT 0), 16, .inl f11))] → va_S A s.heap H locs → lv_has ls 24 [(10, .int (nI (nb * 64))), (2, .long la), (4, .long lb), (6, .long lc), (8, .long ld), (0, .ref mo), (1, .int (nI tx))] → W p l e ({ frames := 1, cells := 0, slots := 0, locals := 26 } : Room) s m args below meth c H locs 0 0 Q (F0 m 248 ls [])) (j8 i : Nat) (la : Int64) (lb : Int64) (lc : Int64) (ld : Int64) (H : Heap) (locs : List Loc) (ls : Array Slot), i + j8 = nb → va_P (dC, dI) vcl [(mo, .inr (12, mdG r cd tm (nI sn) (nI (nb * 64)) (nI lz) (nI az) (nI na) (nI nt) (nI nr) mw ml mk dq)), (r 9, .inl ((cT 0), 1400, .inl g9_65)), (r 0, .inl ((cT 1), 64, .inr (.inl f0))), (r 11, .inl ((cT 0), 16, .inl f11))] H → va_D A [(mo, .inr (12, mdG r cd tm (nI sn) (nI (nb * 64)) (nI lz) (nI az) (nI na) (nI nt) (nI nr) mw ml mk dq)), (r 9, .inl ((cT 0), 1400, .inl g9_65)), (r 0, .inl ((cT 1), 64, .inr (.inl f0))), (r 11, .inl ((cT 0), 16, .inl f11))] → va_S A s.heap H locs → lv_has ls 24 [(10, .int (nI (i * 64))), (2, .long la), (4, .long lb), (6, .long lc), (8, .long ld), (0, .ref mo), (1, .int (nI tx))] → W p l e ({ frames := 1, cells := 0, slots := 0, locals := 26 } : Room) s m args below meth c H locs 0 0 Q (F0 m 94 ls []) := by
    intro Q exit j8
    induction j8 with
    | zero => 
      intro i la lb lc ld H locs ls hij  hP hD hS hl
      have hij : nb = i := by omega
      refine lv_iload hx hb d_Md_md5_94 (lv_at hl 0 rfl) ?_
      refine lv_aload_n hx hb d_Md_md5_96 rfl (lv_at hl 5 rfl) ?_
      refine va_get (D := (dC, dI)) (ci := 12) (v := (.int (nI (nb * 64)))) (C := R_Md) (T := F_Md) (N := 45) hx hb hg in_Md hown hK hP 0 rfl rfl 10 (by decide) (hg _ k_1030) (fun _ h9 => h9) rfl d_Md_md5_97 ?_
      refine lv_icmp_ge (tgt := 248) hx hb d_Md_md5_100 (by decide) (fun hc85 => ?_) (fun hn9 => absurd (nI_le (by omega) (by omega)) hn9)
      subst hij
      exact exit la lb lc ld _ _ _  hP hD hS hl
    | succ j8 ih => 
      intro i la lb lc ld H locs ls hij  hP hD hS hl
      have hlt : i < nb := by omega
      refine lv_iload hx hb d_Md_md5_94 (lv_at hl 0 rfl) ?_
      refine lv_aload_n hx hb d_Md_md5_96 rfl (lv_at hl 5 rfl) ?_
      refine va_get (D := (dC, dI)) (ci := 12) (v := (.int (nI (nb * 64)))) (C := R_Md) (T := F_Md) (N := 45) hx hb hg in_Md hown hK hP 0 rfl rfl 10 (by decide) (hg _ k_1030) (fun _ h9 => h9) rfl d_Md_md5_97 ?_
      refine lv_icmp_ge (tgt := 248) hx hb d_Md_md5_100 (by decide) (fun hn9 => absurd hn9 (nI_ge (show i * 64 < nb * 64 by omega) (by omega))) (fun hc86 => ?_)
      refine lv_lload_n hx hb d_Md_md5_103 rfl (lv_at hl 1 rfl) ?_
      refine lv_lstore (lv' := [(11, .long la), (10, .int (nI (i * 64))), (2, .long la), (4, .long lb), (6, .long lc), (8, .long ld), (0, .ref mo), (1, .int (nI tx))]) hx hb d_Md_md5_104 hl (by decide) rfl (fun ls hl => ?_)
      refine lv_lload hx hb d_Md_md5_106 (lv_at hl 3 rfl) ?_
      refine lv_lstore (lv' := [(13, .long lb), (11, .long la), (10, .int (nI (i * 64))), (2, .long la), (4, .long lb), (6, .long lc), (8, .long ld), (0, .ref mo), (1, .int (nI tx))]) hx hb d_Md_md5_108 hl (by decide) rfl (fun ls hl => ?_)
      refine lv_lload hx hb d_Md_md5_110 (lv_at hl 5 rfl) ?_
      refine lv_lstore (lv' := [(15, .long lc), (13, .long lb), (11, .long la), (10, .int (nI (i * 64))), (2, .long la), (4, .long lb), (6, .long lc), (8, .long ld), (0, .ref mo), (1, .int (nI tx))]) hx hb d_Md_md5_112 hl (by decide) rfl (fun ls hl => ?_)
      refine lv_lload hx hb d_Md_md5_114 (lv_at hl 7 rfl) ?_
      refine lv_lstore (lv' := [(17, .long ld), (15, .long lc), (13, .long lb), (11, .long la), (10, .int (nI (i * 64))), (2, .long la), (4, .long lb), (6, .long lc), (8, .long ld), (0, .ref mo), (1, .int (nI tx))]) hx hb d_Md_md5_116 hl (by decide) rfl (fun ls hl => ?_)
      refine lv_iconst (v := 0) hx hb d_Md_md5_118 (by decide) ?_
      refine lv_istore (lv' := [(19, .int 0), (17, .long ld), (15, .long lc), (13, .long lb), (11, .long la), (10, .int (nI (i * 64))), (2, .long la), (4, .long lb), (6, .long lc), (8, .long ld), (0, .ref mo), (1, .int (nI tx))]) hx hb d_Md_md5_119 hl (by decide) rfl (fun ls hl => ?_)
      have hlo := hlt
      have hl := lv_sub hl [0, 1, 2, 3, 4, 5, 6, 7, 8, 9, 10, 11] (show _ = [(19, .int 0), (17, .long ld), (15, .long lc), (13, .long lb), (11, .long la), (10, .int (nI (i * 64))), (2, .long la), (4, .long lb), (6, .long lc), (8, .long ld), (0, .ref mo), (1, .int (nI tx))] from rfl)
      have L87 : ∀ (Q : State → Prop) (exit : ∀ (wa : Int64) (wb : Int64) (wc : Int64) (wd : Int64) (H : Heap) (locs : List Loc) (ls : Array Slot), va_P (dC, dI) vcl [(mo, .inr (12, mdG r cd tm (nI sn) (nI (nb * 64)) (nI lz) (nI az) (nI na) (nI nt) (nI nr) mw ml mk dq)), (r 9, .inl ((cT 0), 1400, .inl g9_65)), (r 0, .inl ((cT 1), 64, .inr (.inl f0))), (r 11, .inl ((cT 0), 16, .inl f11))] H → va_D A [(mo, .inr (12, mdG r cd tm (nI sn) (nI (nb * 64)) (nI lz) (nI az) (nI na) (nI nt) (nI nr) mw ml mk dq)), (r 9, .inl ((cT 0), 1400, .inl g9_65)), (r 0, .inl ((cT 1), 64, .inr (.inl f0))), (r 11, .inl ((cT 0), 16, .inl f11))] → va_S A s.heap H locs → lv_has ls 24 [(19, .int (nI 64)), (17, .long ld), (15, .long lc), (13, .long lb), (11, .long la), (10, .int (nI (i * 64))), (2, .long wa), (4, .long wb), (6, .long wc), (8, .long wd), (0, .ref mo), (1, .int (nI tx))] → W p l e ({ frames := 1, cells := 0, slots := 0, locals := 26 } : Room) s m args below meth c H locs 0 0 Q (F0 m 200 ls [])) (j8 q9 : Nat) (wa : Int64) (wb : Int64) (wc : Int64) (wd : Int64) (H : Heap) (locs : List Loc) (ls : Array Slot), q9 + j8 = 64 → va_P (dC, dI) vcl [(mo, .inr (12, mdG r cd tm (nI sn) (nI (nb * 64)) (nI lz) (nI az) (nI na) (nI nt) (nI nr) mw ml mk dq)), (r 9, .inl ((cT 0), 1400, .inl g9_65)), (r 0, .inl ((cT 1), 64, .inr (.inl f0))), (r 11, .inl ((cT 0), 16, .inl f11))] H → va_D A [(mo, .inr (12, mdG r cd tm (nI sn) (nI (nb * 64)) (nI lz) (nI az) (nI na) (nI nt) (nI nr) mw ml mk dq)), (r 9, .inl ((cT 0), 1400, .inl g9_65)), (r 0, .inl ((cT 1), 64, .inr (.inl f0))), (r 11, .inl ((cT 0), 16, .inl f11))] → va_S A s.heap H locs → lv_has ls 24 [(19, .int (nI q9)), (17, .long ld), (15, .long lc), (13, .long lb), (11, .long la), (10, .int (nI (i * 64))), (2, .long wa), (4, .long wb), (6, .long wc), (8, .long wd), (0, .ref mo), (1, .int (nI tx))] → W p l e ({ frames := 1, cells := 0, slots := 0, locals := 26 } : Room) s m args below meth c H locs 0 0 Q (F0 m 121 ls []) := by
        intro Q exit j8
        induction j8 with
        | zero => 
          intro q9 wa wb wc wd H locs ls hij  hP hD hS hl
          have hij : 64 = q9 := by omega
          refine lv_iload hx hb d_Md_md5_121 (lv_at hl 0 rfl) ?_
          refine lv_bipush (v := 64) hx hb d_Md_md5_123 (by decide) ?_
          refine lv_topi (fun x89 e88 => ?_)
          obtain rfl : x89 = nI 64 := by rw [e88]; rfl
          refine lv_icmp_ge (tgt := 200) hx hb d_Md_md5_125 (by decide) (fun hc90 => ?_) (fun hn9 => absurd (nI_le (by omega) (by omega)) hn9)
          subst hij
          exact exit wa wb wc wd _ _ _  hP hD hS hl
        | succ j8 ih => 
          intro q9 wa wb wc wd H locs ls hij  hP hD hS hl
          have hlt : q9 < 64 := by omega
          have hltq9 := hlt
          refine lv_iload hx hb d_Md_md5_121 (lv_at hl 0 rfl) ?_
          refine lv_bipush (v := 64) hx hb d_Md_md5_123 (by decide) ?_
          refine lv_topi (fun x92 e91 => ?_)
          obtain rfl : x92 = nI 64 := by rw [e91]; rfl
          refine lv_icmp_ge (tgt := 200) hx hb d_Md_md5_125 (by decide) (fun hn9 => absurd hn9 (nI_ge (by omega) (by omega))) (fun hc93 => ?_)
          refine lv_iload hx hb d_Md_md5_128 (lv_at hl 0 rfl) ?_
          refine lv_lload hx hb d_Md_md5_130 (lv_at hl 7 rfl) ?_
          refine lv_lload hx hb d_Md_md5_132 (lv_at hl 8 rfl) ?_
          refine lv_lload hx hb d_Md_md5_134 (lv_at hl 9 rfl) ?_
          have hPc := hP.sub (ws' := []) [] rfl
          have hDc := hD.sub (ws' := []) [] (by decide) rfl
          have hFc := va_free (wc := []) hD hS hA [] rfl
          refine va_calll (va_runS (As := [.int (nI q9), .long wb, .long wc, .long wd]) (rest := []) ⟨hx, hb, hml, hown, hg⟩ (m_mixed l dC dI cT H.size (nI q9) wb wc wd ) (va_cwS 4 hg (gI (List.forall_mem_append.mpr ⟨List.forall_mem_cons.mpr ⟨k_1232, List.forall_mem_cons.mpr ⟨k_1233, List.forall_mem_cons.mpr ⟨k_13, fun _ h => absurd h List.not_mem_nil⟩⟩⟩, List.forall_mem_cons.mpr ⟨k_1234, fun _ h => h⟩⟩)) rfl rfl rfl (by decide +kernel) ⟨Nat.le_of_ble_eq_true rfl, Nat.le_of_ble_eq_true rfl⟩) ⟨fun a U g mk q => by obtain ⟨q0, q1, qP, qK, qD⟩ := q; exact ⟨q0, q1, qP, va_K.moved (u := U) (U := U.calling g mk a) (Vm.Alike.refl U.vm) qK, qD⟩, fun U hU hW => ⟨rfl, by rw [hU], by rw [hU]; exact hPc, va_K.moved hW.alike hK, hDc.weaken (fun _ _ _ _ => trivial)⟩⟩ rfl rfl hl.1 rfl (lv_room (Nat.le_of_ble_eq_true rfl)) d_Md_md5_136 ⟨Nat.le_of_ble_eq_true rfl, Nat.le_of_ble_eq_true rfl⟩) hS (fun q _ h => hFc q h) hFc (fun rv9 u t H1 locs ht hvm hw hB hz1 hk1 hS => ?_)
          try dsimp only at hw hB
          obtain ⟨hP1, hK1, hD1⟩ := hB
          rw [ht] at hP1
          generalize rv9 = r94 at hw ⊢
          obtain ⟨hP, hD⟩ := va_join (wr := [(mo, .inr (12, mdG r cd tm (nI sn) (nI (nb * 64)) (nI lz) (nI az) (nI na) (nI nt) (nI nr) mw ml mk dq)), (r 9, .inl ((cT 0), 1400, .inl g9_65)), (r 0, .inl ((cT 1), 64, .inr (.inl f0))), (r 11, .inl ((cT 0), 16, .inl f11))]) (w1 := []) hP hD [] [0, 1, 2, 3] rfl rfl (by decide) (by decide) hk1 hFc hP1 hD1
          have hw95 := hw
          clear hPc hDc hFc hz1 hk1 hP1 hK1 hD1
          generalize H1 = H at hP hS ⊢
          have hP : va_P (dC, dI) vcl [(mo, .inr (12, mdG r cd tm (nI sn) (nI (nb * 64)) (nI lz) (nI az) (nI na) (nI nt) (nI nr) mw ml mk dq)), (r 9, .inl ((cT 0), 1400, .inl g9_65)), (r 0, .inl ((cT 1), 64, .inr (.inl f0))), (r 11, .inl ((cT 0), 16, .inl f11))] H := hP
          have hD : va_D A [(mo, .inr (12, mdG r cd tm (nI sn) (nI (nb * 64)) (nI lz) (nI az) (nI na) (nI nt) (nI nr) mw ml mk dq)), (r 9, .inl ((cT 0), 1400, .inl g9_65)), (r 0, .inl ((cT 1), 64, .inr (.inl f0))), (r 11, .inl ((cT 0), 16, .inl f11))] := hD
          refine lv_lstore (lv' := [(20, .long r94), (19, .int (nI q9)), (17, .long ld), (15, .long lc), (13, .long lb), (11, .long la), (10, .int (nI (i * 64))), (2, .long wa), (4, .long wb), (6, .long wc), (8, .long wd), (0, .ref mo), (1, .int (nI tx))]) hx hb d_Md_md5_139 hl (by decide) rfl (fun ls hl => ?_)
          refine lv_lload_n hx hb d_Md_md5_141 rfl (lv_at hl 7 rfl) ?_
          refine lv_lload hx hb d_Md_md5_142 (lv_at hl 0 rfl) ?_
          refine lv_ladd hx hb d_Md_md5_144 ?_
          refine lv_aload_n hx hb d_Md_md5_145 rfl (lv_at hl 11 rfl) ?_
          refine va_get (D := (dC, dI)) (ci := 12) (v := (.ref (r 0))) (C := R_Md) (T := F_Md) (N := 45) hx hb hg in_Md hown hK hP 0 rfl rfl 0 (by decide) (hg _ k_1020) (fun _ h9 => h9) rfl d_Md_md5_146 ?_
          refine lv_iload hx hb d_Md_md5_149 (lv_at hl 1 rfl) ?_
          refine va_lald hx hb hK hP 2 1 rfl rfl (i := (nI q9)) (vp_in_nI (N := 64) (by omega) (by decide)) d_Md_md5_151 ?_
          refine lv_topl (fun x96 e_x96 => ?_)
          clear e_x96
          refine lv_ladd hx hb d_Md_md5_152 ?_
          refine lv_topl (fun x97 e_x97 => ?_)
          refine lv_aload_n hx hb d_Md_md5_153 rfl (lv_at hl 11 rfl) ?_
          refine lv_iload hx hb d_Md_md5_154 (lv_at hl 6 rfl) ?_
          refine lv_iload hx hb d_Md_md5_156 (lv_at hl 1 rfl) ?_
          have hPc := hP.sub (ws' := [(mo, .inr (12, mdG r cd tm (nI sn) (nI (nb * 64)) (nI lz) (nI az) (nI na) (nI nt) (nI nr) mw ml mk dq)), (r 9, .inl ((cT 0), 1400, .inl g9_65))]) [0, 1] rfl
          have hDc := hD.sub (ws' := [(mo, .inr (12, mdG r cd tm (nI sn) (nI (nb * 64)) (nI lz) (nI az) (nI na) (nI nt) (nI nr) mw ml mk dq)), (r 9, .inl ((cT 0), 1400, .inl g9_65))]) [0, 1] (by decide) rfl
          have hFc := va_free (wc := [(mo, .inr (12, mdG r cd tm (nI sn) (nI (nb * 64)) (nI lz) (nI az) (nI na) (nI nt) (nI nr) mw ml mk dq)), (r 9, .inl ((cT 0), 1400, .inl g9_65))]) hD hS hA [0, 1] rfl
          refine va_calll (va_runV (C := "DoorServerModel") (As := [.int (nI (i * 64)), .int (nI q9)]) (rest := [.long x97]) ⟨hx, hb, hml, hown, hg⟩ (m_word l dC dI cT H.size mo r cd tm sn (nb * 64) lz az na nt nr mw ml mk dq g9_65 (i * 64) q9 (by first | assumption | omega) (by first | assumption | omega)) (cwV 2 hg (gI (List.forall_mem_append.mpr ⟨List.forall_mem_cons.mpr ⟨k_1236, List.forall_mem_cons.mpr ⟨k_1238, List.forall_mem_cons.mpr ⟨(big_sel (q := y_Md_wordAt) (n := 45) (by decide +kernel)), List.forall_mem_cons.mpr ⟨k_13, fun _ h => absurd h List.not_mem_nil⟩⟩⟩⟩, List.forall_mem_cons.mpr ⟨k_1239, fun _ h => h⟩⟩)) rfl rfl rfl (by decide +kernel) ⟨Nat.le_of_ble_eq_true rfl, Nat.le_of_ble_eq_true rfl⟩) ⟨fun a U g mk q => by obtain ⟨q0, q1, qP, qK, qD⟩ := q; exact ⟨q0, q1, qP, va_K.moved (u := U) (U := U.calling g mk a) (Vm.Alike.refl U.vm) qK, qD⟩, va_recv (q0 := 0) (ci := 12) hK hP rfl rfl, fun U hU hW => ⟨rfl, by rw [hU], by rw [hU]; exact hPc, va_K.moved hW.alike hK, hDc.weaken (fun _ _ _ _ => trivial)⟩⟩ rfl rfl hl.1 rfl (lv_room (Nat.le_of_ble_eq_true rfl)) d_Md_md5_158 ⟨Nat.le_of_ble_eq_true rfl, Nat.le_of_ble_eq_true rfl⟩) hS (fun q _ h => hFc q h) hFc (fun rv9 u t H1 locs ht hvm hw hB hz1 hk1 hS => ?_)
          try dsimp only at hw hB
          obtain ⟨hP1, hK1, hD1⟩ := hB
          rw [ht] at hP1
          generalize rv9 = r98 at hw ⊢
          obtain ⟨hP, hD⟩ := va_join (wr := [(r 0, .inl ((cT 1), 64, .inr (.inl f0))), (r 11, .inl ((cT 0), 16, .inl f11))]) (w1 := [(mo, .inr (12, mdG r cd tm (nI sn) (nI (nb * 64)) (nI lz) (nI az) (nI na) (nI nt) (nI nr) mw ml mk dq)), (r 9, .inl ((cT 0), 1400, .inl g9_65))]) hP hD [0, 1] [2, 3] rfl rfl (by decide) (by decide) hk1 hFc hP1 hD1
          have hw99 := hw
          clear hPc hDc hFc hz1 hk1 hP1 hK1 hD1
          generalize H1 = H at hP hS ⊢
          have hP : va_P (dC, dI) vcl [(r 0, .inl ((cT 1), 64, .inr (.inl f0))), (r 11, .inl ((cT 0), 16, .inl f11)), (mo, .inr (12, mdG r cd tm (nI sn) (nI (nb * 64)) (nI lz) (nI az) (nI na) (nI nt) (nI nr) mw ml mk dq)), (r 9, .inl ((cT 0), 1400, .inl g9_65))] H := hP
          have hD : va_D A [(r 0, .inl ((cT 1), 64, .inr (.inl f0))), (r 11, .inl ((cT 0), 16, .inl f11)), (mo, .inr (12, mdG r cd tm (nI sn) (nI (nb * 64)) (nI lz) (nI az) (nI na) (nI nt) (nI nr) mw ml mk dq)), (r 9, .inl ((cT 0), 1400, .inl g9_65))] := hD
          refine lv_ladd hx hb d_Md_md5_161 ?_
          refine lv_topl (fun x100 e_x100 => ?_)
          refine lv_lstore (lv' := [(22, .long x100), (20, .long r94), (19, .int (nI q9)), (17, .long ld), (15, .long lc), (13, .long lb), (11, .long la), (10, .int (nI (i * 64))), (2, .long wa), (4, .long wb), (6, .long wc), (8, .long wd), (0, .ref mo), (1, .int (nI tx))]) hx hb d_Md_md5_162 hl (by decide) rfl (fun ls hl => ?_)
          refine lv_lload hx hb d_Md_md5_164 (lv_at hl 11 rfl) ?_
          refine lv_lstore_n (lv' := [(2, .long wd), (22, .long x100), (20, .long r94), (19, .int (nI q9)), (17, .long ld), (15, .long lc), (13, .long lb), (11, .long la), (10, .int (nI (i * 64))), (4, .long wb), (6, .long wc), (8, .long wd), (0, .ref mo), (1, .int (nI tx))]) hx hb d_Md_md5_166 rfl hl (by decide) rfl (fun ls hl => ?_)
          refine lv_lload hx hb d_Md_md5_167 (lv_at hl 10 rfl) ?_
          refine lv_lstore (lv' := [(8, .long wc), (2, .long wd), (22, .long x100), (20, .long r94), (19, .int (nI q9)), (17, .long ld), (15, .long lc), (13, .long lb), (11, .long la), (10, .int (nI (i * 64))), (4, .long wb), (6, .long wc), (0, .ref mo), (1, .int (nI tx))]) hx hb d_Md_md5_169 hl (by decide) rfl (fun ls hl => ?_)
          refine lv_lload hx hb d_Md_md5_171 (lv_at hl 10 rfl) ?_
          refine lv_lstore (lv' := [(6, .long wb), (8, .long wc), (2, .long wd), (22, .long x100), (20, .long r94), (19, .int (nI q9)), (17, .long ld), (15, .long lc), (13, .long lb), (11, .long la), (10, .int (nI (i * 64))), (4, .long wb), (0, .ref mo), (1, .int (nI tx))]) hx hb d_Md_md5_173 hl (by decide) rfl (fun ls hl => ?_)
          refine lv_lload hx hb d_Md_md5_175 (lv_at hl 11 rfl) ?_
          refine lv_lload hx hb d_Md_md5_177 (lv_at hl 3 rfl) ?_
          refine lv_iload hx hb d_Md_md5_179 (lv_at hl 5 rfl) ?_
          have hPc := hP.sub (ws' := []) [] rfl
          have hDc := hD.sub (ws' := []) [] (by decide) rfl
          have hFc := va_free (wc := []) hD hS hA [] rfl
          refine va_calli (va_runS (As := [.int (nI q9)]) (rest := [.long x100, .long wb]) ⟨hx, hb, hml, hown, hg⟩ (m_turn l dC dI cT H.size (nI q9) ) (va_cwS 1 hg (gI (List.forall_mem_append.mpr ⟨List.forall_mem_cons.mpr ⟨k_1241, List.forall_mem_cons.mpr ⟨k_1242, List.forall_mem_cons.mpr ⟨k_13, fun _ h => absurd h List.not_mem_nil⟩⟩⟩, List.forall_mem_cons.mpr ⟨k_1243, fun _ h => h⟩⟩)) rfl rfl rfl (by decide +kernel) ⟨Nat.le_of_ble_eq_true rfl, Nat.le_of_ble_eq_true rfl⟩) ⟨fun a U g mk q => by obtain ⟨q0, q1, qP, qK, qD⟩ := q; exact ⟨q0, q1, qP, va_K.moved (u := U) (U := U.calling g mk a) (Vm.Alike.refl U.vm) qK, qD⟩, fun U hU hW => ⟨rfl, by rw [hU], by rw [hU]; exact hPc, va_K.moved hW.alike hK, hDc.weaken (fun _ _ _ _ => trivial)⟩⟩ rfl rfl hl.1 rfl (lv_room (Nat.le_of_ble_eq_true rfl)) d_Md_md5_181 ⟨Nat.le_of_ble_eq_true rfl, Nat.le_of_ble_eq_true rfl⟩) hS (fun q _ h => hFc q h) hFc (fun rv9 u t H1 locs ht hvm hw hB hz1 hk1 hS => ?_)
          try dsimp only at hw hB
          obtain ⟨hP1, hK1, hD1⟩ := hB
          rw [ht] at hP1
          generalize rv9 = r101 at hw ⊢
          obtain ⟨hP, hD⟩ := va_join (wr := [(r 0, .inl ((cT 1), 64, .inr (.inl f0))), (r 11, .inl ((cT 0), 16, .inl f11)), (mo, .inr (12, mdG r cd tm (nI sn) (nI (nb * 64)) (nI lz) (nI az) (nI na) (nI nt) (nI nr) mw ml mk dq)), (r 9, .inl ((cT 0), 1400, .inl g9_65))]) (w1 := []) hP hD [] [0, 1, 2, 3] rfl rfl (by decide) (by decide) hk1 hFc hP1 hD1
          have hw102 := hw
          clear hPc hDc hFc hz1 hk1 hP1 hK1 hD1
          generalize H1 = H at hP hS ⊢
          have hP : va_P (dC, dI) vcl [(r 0, .inl ((cT 1), 64, .inr (.inl f0))), (r 11, .inl ((cT 0), 16, .inl f11)), (mo, .inr (12, mdG r cd tm (nI sn) (nI (nb * 64)) (nI lz) (nI az) (nI na) (nI nt) (nI nr) mw ml mk dq)), (r 9, .inl ((cT 0), 1400, .inl g9_65))] H := hP
          have hD : va_D A [(r 0, .inl ((cT 1), 64, .inr (.inl f0))), (r 11, .inl ((cT 0), 16, .inl f11)), (mo, .inr (12, mdG r cd tm (nI sn) (nI (nb * 64)) (nI lz) (nI az) (nI na) (nI nt) (nI nr) mw ml mk dq)), (r 9, .inl ((cT 0), 1400, .inl g9_65))] := hD
          have hPc := hP.sub (ws' := []) [] rfl
          have hDc := hD.sub (ws' := []) [] (by decide) rfl
          have hFc := va_free (wc := []) hD hS hA [] rfl
          refine va_calll (va_runS (As := [.long x100, .int r101]) (rest := [.long wb]) ⟨hx, hb, hml, hown, hg⟩ (m_turned l dC dI cT H.size x100 r101 ) (va_cwS 2 hg (gI (List.forall_mem_append.mpr ⟨List.forall_mem_cons.mpr ⟨k_1244, List.forall_mem_cons.mpr ⟨k_1245, List.forall_mem_cons.mpr ⟨k_13, fun _ h => absurd h List.not_mem_nil⟩⟩⟩, List.forall_mem_cons.mpr ⟨k_1246, fun _ h => h⟩⟩)) rfl rfl rfl (by decide +kernel) ⟨Nat.le_of_ble_eq_true rfl, Nat.le_of_ble_eq_true rfl⟩) ⟨fun a U g mk q => by obtain ⟨q0, q1, qP, qK, qD⟩ := q; exact ⟨q0, q1, qP, va_K.moved (u := U) (U := U.calling g mk a) (Vm.Alike.refl U.vm) qK, qD⟩, fun U hU hW => ⟨rfl, by rw [hU], by rw [hU]; exact hPc, va_K.moved hW.alike hK, hDc.weaken (fun _ _ _ _ => trivial)⟩⟩ rfl rfl hl.1 rfl (lv_room (Nat.le_of_ble_eq_true rfl)) d_Md_md5_184 ⟨Nat.le_of_ble_eq_true rfl, Nat.le_of_ble_eq_true rfl⟩) hS (fun q _ h => hFc q h) hFc (fun rv9 u t H1 locs ht hvm hw hB hz1 hk1 hS => ?_)
          try dsimp only at hw hB
          obtain ⟨hP1, hK1, hD1⟩ := hB
          rw [ht] at hP1
          generalize rv9 = r103 at hw ⊢
          obtain ⟨hP, hD⟩ := va_join (wr := [(r 0, .inl ((cT 1), 64, .inr (.inl f0))), (r 11, .inl ((cT 0), 16, .inl f11)), (mo, .inr (12, mdG r cd tm (nI sn) (nI (nb * 64)) (nI lz) (nI az) (nI na) (nI nt) (nI nr) mw ml mk dq)), (r 9, .inl ((cT 0), 1400, .inl g9_65))]) (w1 := []) hP hD [] [0, 1, 2, 3] rfl rfl (by decide) (by decide) hk1 hFc hP1 hD1
          have hw104 := hw
          clear hPc hDc hFc hz1 hk1 hP1 hK1 hD1
          generalize H1 = H at hP hS ⊢
          have hP : va_P (dC, dI) vcl [(r 0, .inl ((cT 1), 64, .inr (.inl f0))), (r 11, .inl ((cT 0), 16, .inl f11)), (mo, .inr (12, mdG r cd tm (nI sn) (nI (nb * 64)) (nI lz) (nI az) (nI na) (nI nt) (nI nr) mw ml mk dq)), (r 9, .inl ((cT 0), 1400, .inl g9_65))] H := hP
          have hD : va_D A [(r 0, .inl ((cT 1), 64, .inr (.inl f0))), (r 11, .inl ((cT 0), 16, .inl f11)), (mo, .inr (12, mdG r cd tm (nI sn) (nI (nb * 64)) (nI lz) (nI az) (nI na) (nI nt) (nI nr) mw ml mk dq)), (r 9, .inl ((cT 0), 1400, .inl g9_65))] := hD
          refine lv_ladd hx hb d_Md_md5_187 ?_
          refine lv_ldc2 (v := 4294967295) hx hb hown (hg _ k_1235) d_Md_md5_188 ?_
          refine lv_land hx hb d_Md_md5_191 ?_
          refine lv_topl (fun x105 e_x105 => ?_)
          refine lv_lstore (lv' := [(4, .long x105), (6, .long wb), (8, .long wc), (2, .long wd), (22, .long x100), (20, .long r94), (19, .int (nI q9)), (17, .long ld), (15, .long lc), (13, .long lb), (11, .long la), (10, .int (nI (i * 64))), (0, .ref mo), (1, .int (nI tx))]) hx hb d_Md_md5_192 hl (by decide) rfl (fun ls hl => ?_)
          refine lv_iinc (k := 6) (v := nI (q9 + 1)) (lv' := [(19, .int (nI (q9 + 1))), (4, .long x105), (6, .long wb), (8, .long wc), (2, .long wd), (22, .long x100), (20, .long r94), (17, .long ld), (15, .long lc), (13, .long lb), (11, .long la), (10, .int (nI (i * 64))), (0, .ref mo), (1, .int (nI tx))]) hx hb d_Md_md5_194 hl rfl (nI_1 q9) (by decide) rfl (fun ls hl => ?_)
          refine lv_goto (tgt := 121) hx hb d_Md_md5_197 (by decide) ?_
          have hl := lv_sub hl [0, 7, 8, 9, 10, 11, 4, 1, 2, 3, 12, 13] (show _ = [(19, .int (nI (q9 + 1))), (17, .long ld), (15, .long lc), (13, .long lb), (11, .long la), (10, .int (nI (i * 64))), (2, .long wd), (4, .long x105), (6, .long wb), (8, .long wc), (0, .ref mo), (1, .int (nI tx))] from rfl)
          have hP := hP.sub (ws' := [(mo, .inr (12, mdG r cd tm (nI sn) (nI (nb * 64)) (nI lz) (nI az) (nI na) (nI nt) (nI nr) mw ml mk dq)), (r 9, .inl ((cT 0), 1400, .inl g9_65)), (r 0, .inl ((cT 1), 64, .inr (.inl f0))), (r 11, .inl ((cT 0), 16, .inl f11))]) [2, 3, 0, 1] rfl
          have hD := hD.sub (ws' := [(mo, .inr (12, mdG r cd tm (nI sn) (nI (nb * 64)) (nI lz) (nI az) (nI na) (nI nt) (nI nr) mw ml mk dq)), (r 9, .inl ((cT 0), 1400, .inl g9_65)), (r 0, .inl ((cT 1), 64, .inr (.inl f0))), (r 11, .inl ((cT 0), 16, .inl f11))]) [2, 3, 0, 1] (by decide) rfl
          exact ih (q9 + 1) _ _ _ _ _ _ _ (by omega)  hP hD hS hl
      refine L87 _ (fun wa wb wc wd H locs ls  hP hD hS hl => ?_) (64 - 0) 0 la lb lc ld H _ ls (by omega)  hP hD hS hl
      refine lv_lload_n hx hb d_Md_md5_200 rfl (lv_at hl 6 rfl) ?_
      refine lv_lload hx hb d_Md_md5_201 (lv_at hl 4 rfl) ?_
      refine lv_ladd hx hb d_Md_md5_203 ?_
      refine lv_ldc2 (v := 4294967295) hx hb hown (hg _ k_1235) d_Md_md5_204 ?_
      refine lv_land hx hb d_Md_md5_207 ?_
      refine lv_lstore_n (lv' := [(2, .long ((wa + la) &&& 4294967295)), (19, .int (nI 64)), (17, .long ld), (15, .long lc), (13, .long lb), (11, .long la), (10, .int (nI (i * 64))), (4, .long wb), (6, .long wc), (8, .long wd), (0, .ref mo), (1, .int (nI tx))]) hx hb d_Md_md5_208 rfl hl (by decide) rfl (fun ls hl => ?_)
      refine lv_lload hx hb d_Md_md5_209 (lv_at hl 7 rfl) ?_
      refine lv_lload hx hb d_Md_md5_211 (lv_at hl 4 rfl) ?_
      refine lv_ladd hx hb d_Md_md5_213 ?_
      refine lv_ldc2 (v := 4294967295) hx hb hown (hg _ k_1235) d_Md_md5_214 ?_
      refine lv_land hx hb d_Md_md5_217 ?_
      refine lv_lstore (lv' := [(4, .long ((wb + lb) &&& 4294967295)), (2, .long ((wa + la) &&& 4294967295)), (19, .int (nI 64)), (17, .long ld), (15, .long lc), (13, .long lb), (11, .long la), (10, .int (nI (i * 64))), (6, .long wc), (8, .long wd), (0, .ref mo), (1, .int (nI tx))]) hx hb d_Md_md5_218 hl (by decide) rfl (fun ls hl => ?_)
      refine lv_lload hx hb d_Md_md5_220 (lv_at hl 8 rfl) ?_
      refine lv_lload hx hb d_Md_md5_222 (lv_at hl 4 rfl) ?_
      refine lv_ladd hx hb d_Md_md5_224 ?_
      refine lv_ldc2 (v := 4294967295) hx hb hown (hg _ k_1235) d_Md_md5_225 ?_
      refine lv_land hx hb d_Md_md5_228 ?_
      refine lv_lstore (lv' := [(6, .long ((wc + lc) &&& 4294967295)), (4, .long ((wb + lb) &&& 4294967295)), (2, .long ((wa + la) &&& 4294967295)), (19, .int (nI 64)), (17, .long ld), (15, .long lc), (13, .long lb), (11, .long la), (10, .int (nI (i * 64))), (8, .long wd), (0, .ref mo), (1, .int (nI tx))]) hx hb d_Md_md5_229 hl (by decide) rfl (fun ls hl => ?_)
      refine lv_lload hx hb d_Md_md5_231 (lv_at hl 9 rfl) ?_
      refine lv_lload hx hb d_Md_md5_233 (lv_at hl 4 rfl) ?_
      refine lv_ladd hx hb d_Md_md5_235 ?_
      refine lv_ldc2 (v := 4294967295) hx hb hown (hg _ k_1235) d_Md_md5_236 ?_
      refine lv_land hx hb d_Md_md5_239 ?_
      refine lv_lstore (lv' := [(8, .long ((wd + ld) &&& 4294967295)), (6, .long ((wc + lc) &&& 4294967295)), (4, .long ((wb + lb) &&& 4294967295)), (2, .long ((wa + la) &&& 4294967295)), (19, .int (nI 64)), (17, .long ld), (15, .long lc), (13, .long lb), (11, .long la), (10, .int (nI (i * 64))), (0, .ref mo), (1, .int (nI tx))]) hx hb d_Md_md5_240 hl (by decide) rfl (fun ls hl => ?_)
      refine lv_iinc (k := 9) (v := nI ((i + 1) * 64)) (lv' := [(10, .int (nI ((i + 1) * 64))), (8, .long ((wd + ld) &&& 4294967295)), (6, .long ((wc + lc) &&& 4294967295)), (4, .long ((wb + lb) &&& 4294967295)), (2, .long ((wa + la) &&& 4294967295)), (19, .int (nI 64)), (17, .long ld), (15, .long lc), (13, .long lb), (11, .long la), (0, .ref mo), (1, .int (nI tx))]) hx hb d_Md_md5_242 hl rfl (by rw [Nat.add_mul]; exact nI_add _ 64) (by decide) rfl (fun ls hl => ?_)
      refine lv_goto (tgt := 94) hx hb d_Md_md5_245 (by decide) ?_
      have hl := lv_sub hl [0, 4, 3, 2, 1, 10, 11] (show _ = [(10, .int (nI ((i + 1) * 64))), (2, .long ((wa + la) &&& 4294967295)), (4, .long ((wb + lb) &&& 4294967295)), (6, .long ((wc + lc) &&& 4294967295)), (8, .long ((wd + ld) &&& 4294967295)), (0, .ref mo), (1, .int (nI tx))] from rfl)
      exact ih (i + 1) _ _ _ _ _ _ _ (by omega)  hP hD hS hl
  refine L84 _ (fun la lb lc ld H locs ls  hP hD hS hl => ?_) (nb - 0) 0 1732584193 4023233417 2562383102 271733878 H _ ls (by omega)  hP hD hS hl
  refine lv_iconst (v := 0) hx hb d_Md_md5_248 (by decide) ?_
  refine lv_istore (lv' := [(10, .int 0), (2, .long la), (4, .long lb), (6, .long lc), (8, .long ld), (0, .ref mo), (1, .int (nI tx))]) hx hb d_Md_md5_249 hl (by decide) rfl (fun ls hl => ?_)
  have hl := lv_sub hl [0, 1, 2, 3, 4, 5, 6] (show _ = [(10, .int 0), (2, .long la), (4, .long lb), (6, .long lc), (8, .long ld), (0, .ref mo), (1, .int (nI tx))] from rfl)
  have L107 : ∀ (Q : State → Prop) (exit : ∀ (g11_106 : Nat → Int32) (H : Heap) (locs : List Loc) (ls : Array Slot), (AB g11_106) → va_P (dC, dI) vcl [(mo, .inr (12, mdG r cd tm (nI sn) (nI (nb * 64)) (nI lz) (nI az) (nI na) (nI nt) (nI nr) mw ml mk dq)), (r 9, .inl ((cT 0), 1400, .inl g9_65)), (r 0, .inl ((cT 1), 64, .inr (.inl f0))), (r 11, .inl ((cT 0), 16, .inl g11_106))] H → va_D A [(mo, .inr (12, mdG r cd tm (nI sn) (nI (nb * 64)) (nI lz) (nI az) (nI na) (nI nt) (nI nr) mw ml mk dq)), (r 9, .inl ((cT 0), 1400, .inl g9_65)), (r 0, .inl ((cT 1), 64, .inr (.inl f0))), (r 11, .inl ((cT 0), 16, .inl g11_106))] → va_S A s.heap H locs → lv_has ls 24 [(10, .int (nI 4)), (2, .long la), (4, .long lb), (6, .long lc), (8, .long ld), (0, .ref mo), (1, .int (nI tx))] → W p l e ({ frames := 1, cells := 0, slots := 0, locals := 26 } : Room) s m args below meth c H locs 0 0 Q (F0 m 350 ls [])) (j8 i : Nat) (g11_106 : Nat → Int32) (H : Heap) (locs : List Loc) (ls : Array Slot), i + j8 = 4 → (AB g11_106) → va_P (dC, dI) vcl [(mo, .inr (12, mdG r cd tm (nI sn) (nI (nb * 64)) (nI lz) (nI az) (nI na) (nI nt) (nI nr) mw ml mk dq)), (r 9, .inl ((cT 0), 1400, .inl g9_65)), (r 0, .inl ((cT 1), 64, .inr (.inl f0))), (r 11, .inl ((cT 0), 16, .inl g11_106))] H → va_D A [(mo, .inr (12, mdG r cd tm (nI sn) (nI (nb * 64)) (nI lz) (nI az) (nI na) (nI nt) (nI nr) mw ml mk dq)), (r 9, .inl ((cT 0), 1400, .inl g9_65)), (r 0, .inl ((cT 1), 64, .inr (.inl f0))), (r 11, .inl ((cT 0), 16, .inl g11_106))] → va_S A s.heap H locs → lv_has ls 24 [(10, .int (nI i)), (2, .long la), (4, .long lb), (6, .long lc), (8, .long ld), (0, .ref mo), (1, .int (nI tx))] → W p l e ({ frames := 1, cells := 0, slots := 0, locals := 26 } : Room) s m args below meth c H locs 0 0 Q (F0 m 251 ls []) := by
    intro Q exit j8
    induction j8 with
    | zero => 
      intro i g11_106 H locs ls hij hab hP hD hS hl
      have hij : 4 = i := by omega
      refine lv_iload hx hb d_Md_md5_251 (lv_at hl 0 rfl) ?_
      refine lv_iconst (v := 4) hx hb d_Md_md5_253 (by decide) ?_
      refine lv_topi (fun x109 e108 => ?_)
      obtain rfl : x109 = nI 4 := by rw [e108]; rfl
      refine lv_icmp_ge (tgt := 350) hx hb d_Md_md5_254 (by decide) (fun hc110 => ?_) (fun hn9 => absurd (nI_le (by omega) (by omega)) hn9)
      subst hij
      exact exit g11_106 _ _ _ hab hP hD hS hl
    | succ j8 ih => 
      intro i g11_106 H locs ls hij hab hP hD hS hl
      have hlt : i < 4 := by omega
      have hlti := hlt
      refine lv_iload hx hb d_Md_md5_251 (lv_at hl 0 rfl) ?_
      refine lv_iconst (v := 4) hx hb d_Md_md5_253 (by decide) ?_
      refine lv_topi (fun x112 e111 => ?_)
      obtain rfl : x112 = nI 4 := by rw [e111]; rfl
      refine lv_icmp_ge (tgt := 350) hx hb d_Md_md5_254 (by decide) (fun hn9 => absurd hn9 (nI_ge (by omega) (by omega))) (fun hc113 => ?_)
      refine lv_aload_n hx hb d_Md_md5_257 rfl (lv_at hl 5 rfl) ?_
      refine va_get (D := (dC, dI)) (ci := 12) (v := (.ref (r 11))) (C := R_Md) (T := F_Md) (N := 45) hx hb hg in_Md hown hK hP 0 rfl rfl 11 (by decide) (hg _ k_1031) (fun _ h9 => h9) rfl d_Md_md5_258 ?_
      refine lv_iload hx hb d_Md_md5_261 (lv_at hl 0 rfl) ?_
      refine lv_lload_n hx hb d_Md_md5_263 rfl (lv_at hl 1 rfl) ?_
      refine lv_bipush (v := 8) hx hb d_Md_md5_264 (by decide) ?_
      refine lv_iload hx hb d_Md_md5_266 (lv_at hl 0 rfl) ?_
      refine lv_imul hx hb d_Md_md5_268 ?_
      refine lv_topi (fun x115 e114 => ?_)
      obtain rfl : x115 = nI (8 * i) := by rw [e114]; exact pk_mul 8 i
      refine lv_lshr (v := la >>> ((nI (8 * i)).toInt64 &&& 63)) hx hb d_Md_md5_269 rfl ?_
      refine lv_ldc2 (v := 255) hx hb hown (hg _ k_1019) d_Md_md5_270 ?_
      refine lv_land hx hb d_Md_md5_273 ?_
      refine lv_l2i (v := ((la >>> ((nI (8 * i)).toInt64 &&& 63)) &&& 255).toInt32) hx hb d_Md_md5_274 rfl ?_
      refine va_iast hx hb hK hP hD hS 3 0 rfl rfl (i := (nI i)) (vp_in_nI (n := i) (N := 16) (by omega) (by decide)) d_Md_md5_275 (fun H locs hP hD hS => ?_)
      have ef116 : upd g11_106 (nI i).toNatClampNeg (((la >>> ((nI (8 * i)).toInt64 &&& 63)) &&& 255).toInt32) = upd g11_106 i (((la >>> ((nI (8 * i)).toInt64 &&& 63)) &&& 255).toInt32) := by rw [show (nI i).toNatClampNeg = i from nI_clamp (by omega)]
      rw [ef116] at hP hD
      have hP : va_P (dC, dI) vcl [(mo, .inr (12, mdG r cd tm (nI sn) (nI (nb * 64)) (nI lz) (nI az) (nI na) (nI nt) (nI nr) mw ml mk dq)), (r 9, .inl ((cT 0), 1400, .inl g9_65)), (r 0, .inl ((cT 1), 64, .inr (.inl f0))), (r 11, .inl ((cT 0), 16, .inl (upd g11_106 i (((la >>> ((nI (8 * i)).toInt64 &&& 63)) &&& 255).toInt32))))] H := hP
      have hD : va_D A [(mo, .inr (12, mdG r cd tm (nI sn) (nI (nb * 64)) (nI lz) (nI az) (nI na) (nI nt) (nI nr) mw ml mk dq)), (r 9, .inl ((cT 0), 1400, .inl g9_65)), (r 0, .inl ((cT 1), 64, .inr (.inl f0))), (r 11, .inl ((cT 0), 16, .inl (upd g11_106 i (((la >>> ((nI (8 * i)).toInt64 &&& 63)) &&& 255).toInt32))))] := hD
      refine lv_aload_n hx hb d_Md_md5_276 rfl (lv_at hl 5 rfl) ?_
      refine va_get (D := (dC, dI)) (ci := 12) (v := (.ref (r 11))) (C := R_Md) (T := F_Md) (N := 45) hx hb hg in_Md hown hK hP 0 rfl rfl 11 (by decide) (hg _ k_1031) (fun _ h9 => h9) rfl d_Md_md5_277 ?_
      refine lv_iconst (v := 4) hx hb d_Md_md5_280 (by decide) ?_
      refine lv_iload hx hb d_Md_md5_281 (lv_at hl 0 rfl) ?_
      refine lv_iadd hx hb d_Md_md5_283 ?_
      refine lv_topi (fun x118 e117 => ?_)
      obtain rfl : x118 = nI (4 + i) := by rw [e117]; exact nI_add 4 i
      refine lv_lload hx hb d_Md_md5_284 (lv_at hl 2 rfl) ?_
      refine lv_bipush (v := 8) hx hb d_Md_md5_286 (by decide) ?_
      refine lv_iload hx hb d_Md_md5_288 (lv_at hl 0 rfl) ?_
      refine lv_imul hx hb d_Md_md5_290 ?_
      refine lv_topi (fun x120 e119 => ?_)
      obtain rfl : x120 = nI (8 * i) := by rw [e119]; exact pk_mul 8 i
      refine lv_lshr (v := lb >>> ((nI (8 * i)).toInt64 &&& 63)) hx hb d_Md_md5_291 rfl ?_
      refine lv_ldc2 (v := 255) hx hb hown (hg _ k_1019) d_Md_md5_292 ?_
      refine lv_land hx hb d_Md_md5_295 ?_
      refine lv_l2i (v := ((lb >>> ((nI (8 * i)).toInt64 &&& 63)) &&& 255).toInt32) hx hb d_Md_md5_296 rfl ?_
      refine va_iast hx hb hK hP hD hS 3 0 rfl rfl (i := (nI (4 + i))) (vp_in_nI (n := 4 + i) (N := 16) (by omega) (by decide)) d_Md_md5_297 (fun H locs hP hD hS => ?_)
      have ef121 : upd (upd g11_106 i (((la >>> ((nI (8 * i)).toInt64 &&& 63)) &&& 255).toInt32)) (nI (4 + i)).toNatClampNeg (((lb >>> ((nI (8 * i)).toInt64 &&& 63)) &&& 255).toInt32) = upd (upd g11_106 i (((la >>> ((nI (8 * i)).toInt64 &&& 63)) &&& 255).toInt32)) (4 + i) (((lb >>> ((nI (8 * i)).toInt64 &&& 63)) &&& 255).toInt32) := by rw [show (nI (4 + i)).toNatClampNeg = 4 + i from nI_clamp (by omega)]
      rw [ef121] at hP hD
      have hP : va_P (dC, dI) vcl [(mo, .inr (12, mdG r cd tm (nI sn) (nI (nb * 64)) (nI lz) (nI az) (nI na) (nI nt) (nI nr) mw ml mk dq)), (r 9, .inl ((cT 0), 1400, .inl g9_65)), (r 0, .inl ((cT 1), 64, .inr (.inl f0))), (r 11, .inl ((cT 0), 16, .inl (upd (upd g11_106 i (((la >>> ((nI (8 * i)).toInt64 &&& 63)) &&& 255).toInt32)) (4 + i) (((lb >>> ((nI (8 * i)).toInt64 &&& 63)) &&& 255).toInt32))))] H := hP
      have hD : va_D A [(mo, .inr (12, mdG r cd tm (nI sn) (nI (nb * 64)) (nI lz) (nI az) (nI na) (nI nt) (nI nr) mw ml mk dq)), (r 9, .inl ((cT 0), 1400, .inl g9_65)), (r 0, .inl ((cT 1), 64, .inr (.inl f0))), (r 11, .inl ((cT 0), 16, .inl (upd (upd g11_106 i (((la >>> ((nI (8 * i)).toInt64 &&& 63)) &&& 255).toInt32)) (4 + i) (((lb >>> ((nI (8 * i)).toInt64 &&& 63)) &&& 255).toInt32))))] := hD
      refine lv_aload_n hx hb d_Md_md5_298 rfl (lv_at hl 5 rfl) ?_
      refine va_get (D := (dC, dI)) (ci := 12) (v := (.ref (r 11))) (C := R_Md) (T := F_Md) (N := 45) hx hb hg in_Md hown hK hP 0 rfl rfl 11 (by decide) (hg _ k_1031) (fun _ h9 => h9) rfl d_Md_md5_299 ?_
      refine lv_bipush (v := 8) hx hb d_Md_md5_302 (by decide) ?_
      refine lv_iload hx hb d_Md_md5_304 (lv_at hl 0 rfl) ?_
      refine lv_iadd hx hb d_Md_md5_306 ?_
      refine lv_topi (fun x123 e122 => ?_)
      obtain rfl : x123 = nI (8 + i) := by rw [e122]; exact nI_add 8 i
      refine lv_lload hx hb d_Md_md5_307 (lv_at hl 3 rfl) ?_
      refine lv_bipush (v := 8) hx hb d_Md_md5_309 (by decide) ?_
      refine lv_iload hx hb d_Md_md5_311 (lv_at hl 0 rfl) ?_
      refine lv_imul hx hb d_Md_md5_313 ?_
      refine lv_topi (fun x125 e124 => ?_)
      obtain rfl : x125 = nI (8 * i) := by rw [e124]; exact pk_mul 8 i
      refine lv_lshr (v := lc >>> ((nI (8 * i)).toInt64 &&& 63)) hx hb d_Md_md5_314 rfl ?_
      refine lv_ldc2 (v := 255) hx hb hown (hg _ k_1019) d_Md_md5_315 ?_
      refine lv_land hx hb d_Md_md5_318 ?_
      refine lv_l2i (v := ((lc >>> ((nI (8 * i)).toInt64 &&& 63)) &&& 255).toInt32) hx hb d_Md_md5_319 rfl ?_
      refine va_iast hx hb hK hP hD hS 3 0 rfl rfl (i := (nI (8 + i))) (vp_in_nI (n := 8 + i) (N := 16) (by omega) (by decide)) d_Md_md5_320 (fun H locs hP hD hS => ?_)
      have ef126 : upd (upd (upd g11_106 i (((la >>> ((nI (8 * i)).toInt64 &&& 63)) &&& 255).toInt32)) (4 + i) (((lb >>> ((nI (8 * i)).toInt64 &&& 63)) &&& 255).toInt32)) (nI (8 + i)).toNatClampNeg (((lc >>> ((nI (8 * i)).toInt64 &&& 63)) &&& 255).toInt32) = upd (upd (upd g11_106 i (((la >>> ((nI (8 * i)).toInt64 &&& 63)) &&& 255).toInt32)) (4 + i) (((lb >>> ((nI (8 * i)).toInt64 &&& 63)) &&& 255).toInt32)) (8 + i) (((lc >>> ((nI (8 * i)).toInt64 &&& 63)) &&& 255).toInt32) := by rw [show (nI (8 + i)).toNatClampNeg = 8 + i from nI_clamp (by omega)]
      rw [ef126] at hP hD
      have hP : va_P (dC, dI) vcl [(mo, .inr (12, mdG r cd tm (nI sn) (nI (nb * 64)) (nI lz) (nI az) (nI na) (nI nt) (nI nr) mw ml mk dq)), (r 9, .inl ((cT 0), 1400, .inl g9_65)), (r 0, .inl ((cT 1), 64, .inr (.inl f0))), (r 11, .inl ((cT 0), 16, .inl (upd (upd (upd g11_106 i (((la >>> ((nI (8 * i)).toInt64 &&& 63)) &&& 255).toInt32)) (4 + i) (((lb >>> ((nI (8 * i)).toInt64 &&& 63)) &&& 255).toInt32)) (8 + i) (((lc >>> ((nI (8 * i)).toInt64 &&& 63)) &&& 255).toInt32))))] H := hP
      have hD : va_D A [(mo, .inr (12, mdG r cd tm (nI sn) (nI (nb * 64)) (nI lz) (nI az) (nI na) (nI nt) (nI nr) mw ml mk dq)), (r 9, .inl ((cT 0), 1400, .inl g9_65)), (r 0, .inl ((cT 1), 64, .inr (.inl f0))), (r 11, .inl ((cT 0), 16, .inl (upd (upd (upd g11_106 i (((la >>> ((nI (8 * i)).toInt64 &&& 63)) &&& 255).toInt32)) (4 + i) (((lb >>> ((nI (8 * i)).toInt64 &&& 63)) &&& 255).toInt32)) (8 + i) (((lc >>> ((nI (8 * i)).toInt64 &&& 63)) &&& 255).toInt32))))] := hD
      refine lv_aload_n hx hb d_Md_md5_321 rfl (lv_at hl 5 rfl) ?_
      refine va_get (D := (dC, dI)) (ci := 12) (v := (.ref (r 11))) (C := R_Md) (T := F_Md) (N := 45) hx hb hg in_Md hown hK hP 0 rfl rfl 11 (by decide) (hg _ k_1031) (fun _ h9 => h9) rfl d_Md_md5_322 ?_
      refine lv_bipush (v := 12) hx hb d_Md_md5_325 (by decide) ?_
      refine lv_iload hx hb d_Md_md5_327 (lv_at hl 0 rfl) ?_
      refine lv_iadd hx hb d_Md_md5_329 ?_
      refine lv_topi (fun x128 e127 => ?_)
      obtain rfl : x128 = nI (12 + i) := by rw [e127]; exact nI_add 12 i
      refine lv_lload hx hb d_Md_md5_330 (lv_at hl 4 rfl) ?_
      refine lv_bipush (v := 8) hx hb d_Md_md5_332 (by decide) ?_
      refine lv_iload hx hb d_Md_md5_334 (lv_at hl 0 rfl) ?_
      refine lv_imul hx hb d_Md_md5_336 ?_
      refine lv_topi (fun x130 e129 => ?_)
      obtain rfl : x130 = nI (8 * i) := by rw [e129]; exact pk_mul 8 i
      refine lv_lshr (v := ld >>> ((nI (8 * i)).toInt64 &&& 63)) hx hb d_Md_md5_337 rfl ?_
      refine lv_ldc2 (v := 255) hx hb hown (hg _ k_1019) d_Md_md5_338 ?_
      refine lv_land hx hb d_Md_md5_341 ?_
      refine lv_l2i (v := ((ld >>> ((nI (8 * i)).toInt64 &&& 63)) &&& 255).toInt32) hx hb d_Md_md5_342 rfl ?_
      refine va_iast hx hb hK hP hD hS 3 0 rfl rfl (i := (nI (12 + i))) (vp_in_nI (n := 12 + i) (N := 16) (by omega) (by decide)) d_Md_md5_343 (fun H locs hP hD hS => ?_)
      have ef131 : upd (upd (upd (upd g11_106 i (((la >>> ((nI (8 * i)).toInt64 &&& 63)) &&& 255).toInt32)) (4 + i) (((lb >>> ((nI (8 * i)).toInt64 &&& 63)) &&& 255).toInt32)) (8 + i) (((lc >>> ((nI (8 * i)).toInt64 &&& 63)) &&& 255).toInt32)) (nI (12 + i)).toNatClampNeg (((ld >>> ((nI (8 * i)).toInt64 &&& 63)) &&& 255).toInt32) = upd (upd (upd (upd g11_106 i (((la >>> ((nI (8 * i)).toInt64 &&& 63)) &&& 255).toInt32)) (4 + i) (((lb >>> ((nI (8 * i)).toInt64 &&& 63)) &&& 255).toInt32)) (8 + i) (((lc >>> ((nI (8 * i)).toInt64 &&& 63)) &&& 255).toInt32)) (12 + i) (((ld >>> ((nI (8 * i)).toInt64 &&& 63)) &&& 255).toInt32) := by rw [show (nI (12 + i)).toNatClampNeg = 12 + i from nI_clamp (by omega)]
      rw [ef131] at hP hD
      have hP : va_P (dC, dI) vcl [(mo, .inr (12, mdG r cd tm (nI sn) (nI (nb * 64)) (nI lz) (nI az) (nI na) (nI nt) (nI nr) mw ml mk dq)), (r 9, .inl ((cT 0), 1400, .inl g9_65)), (r 0, .inl ((cT 1), 64, .inr (.inl f0))), (r 11, .inl ((cT 0), 16, .inl (upd (upd (upd (upd g11_106 i (((la >>> ((nI (8 * i)).toInt64 &&& 63)) &&& 255).toInt32)) (4 + i) (((lb >>> ((nI (8 * i)).toInt64 &&& 63)) &&& 255).toInt32)) (8 + i) (((lc >>> ((nI (8 * i)).toInt64 &&& 63)) &&& 255).toInt32)) (12 + i) (((ld >>> ((nI (8 * i)).toInt64 &&& 63)) &&& 255).toInt32))))] H := hP
      have hD : va_D A [(mo, .inr (12, mdG r cd tm (nI sn) (nI (nb * 64)) (nI lz) (nI az) (nI na) (nI nt) (nI nr) mw ml mk dq)), (r 9, .inl ((cT 0), 1400, .inl g9_65)), (r 0, .inl ((cT 1), 64, .inr (.inl f0))), (r 11, .inl ((cT 0), 16, .inl (upd (upd (upd (upd g11_106 i (((la >>> ((nI (8 * i)).toInt64 &&& 63)) &&& 255).toInt32)) (4 + i) (((lb >>> ((nI (8 * i)).toInt64 &&& 63)) &&& 255).toInt32)) (8 + i) (((lc >>> ((nI (8 * i)).toInt64 &&& 63)) &&& 255).toInt32)) (12 + i) (((ld >>> ((nI (8 * i)).toInt64 &&& 63)) &&& 255).toInt32))))] := hD
      refine lv_iinc (k := 0) (v := nI (i + 1)) (lv' := [(10, .int (nI (i + 1))), (2, .long la), (4, .long lb), (6, .long lc), (8, .long ld), (0, .ref mo), (1, .int (nI tx))]) hx hb d_Md_md5_344 hl rfl (nI_1 i) (by decide) rfl (fun ls hl => ?_)
      refine lv_goto (tgt := 251) hx hb d_Md_md5_347 (by decide) ?_
      have hl := lv_sub hl [0, 1, 2, 3, 4, 5, 6] (show _ = [(10, .int (nI (i + 1))), (2, .long la), (4, .long lb), (6, .long lc), (8, .long ld), (0, .ref mo), (1, .int (nI tx))] from rfl)
      exact ih (i + 1) _ _ _ _ (by omega) (AB_upd (AB_upd (AB_upd (AB_upd hab (BY_l255 _)) (BY_l255 _)) (BY_l255 _)) (BY_l255 _)) hP hD hS hl
  refine L107 _ (fun g11_106 H locs ls hab hP hD hS hl => ?_) (4 - 0) 0 f11 H _ ls (by omega) (h11) hP hD hS hl
  refine lv_aload_n hx hb d_Md_md5_350 rfl (lv_at hl 5 rfl) ?_
  refine lv_iconst (v := 0) hx hb d_Md_md5_351 (by decide) ?_
  refine lv_topi (fun x133 e132 => ?_)
  obtain rfl : x133 = nI 0 := by rw [e132]; rfl
  refine va_put (D := (dC, dI)) (ci := 12) (v := (.int (nI 0))) (ty := .int) (C := R_Md) (T := F_Md) (N := 45) hx hb hg in_Md t_Md tok_Md nm_Md hown hK hP hD hS 0 rfl rfl 10 (by decide) (hg _ k_1030) (fun _ h9 => h9) rfl (by decide +kernel) rfl rfl (Nat.le_of_ble_eq_true rfl) d_Md_md5_352 (fun H locs hP hD hS => ?_)
  have hP : va_P (dC, dI) vcl [(mo, .inr (12, mdG r cd tm (nI sn) (nI 0) (nI lz) (nI az) (nI na) (nI nt) (nI nr) mw ml mk dq)), (r 9, .inl ((cT 0), 1400, .inl g9_65)), (r 0, .inl ((cT 1), 64, .inr (.inl f0))), (r 11, .inl ((cT 0), 16, .inl g11_106))] H := hP
  have hD : va_D A [(mo, .inr (12, mdG r cd tm (nI sn) (nI 0) (nI lz) (nI az) (nI na) (nI nt) (nI nr) mw ml mk dq)), (r 9, .inl ((cT 0), 1400, .inl g9_65)), (r 0, .inl ((cT 1), 64, .inr (.inl f0))), (r 11, .inl ((cT 0), 16, .inl g11_106))] := hD
  have hP9 := hP.sub (ws' := [(mo, .inr (12, mdG r cd tm (nI sn) (nI 0) (nI lz) (nI az) (nI na) (nI nt) (nI nr) mw ml mk dq)), (r 9, .inl ((cT 0), 1400, .inl g9_65)), (r 0, .inl ((cT 1), 64, .inr (.inl f0))), (r 11, .inl ((cT 0), 16, .inl g11_106))]) [0, 1, 2, 3] rfl
  have hD9 := hD.sub (ws' := [(mo, .inr (12, mdG r cd tm (nI sn) (nI 0) (nI lz) (nI az) (nI na) (nI nt) (nI nr) mw ml mk dq)), (r 9, .inl ((cT 0), 1400, .inl g9_65)), (r 0, .inl ((cT 1), 64, .inr (.inl f0))), (r 11, .inl ((cT 0), 16, .inl g11_106))]) [0, 1, 2, 3] (by decide) rfl
  exact W.vret hx hb hr (fun t ht hW => ⟨⟨⟨g9_65, g11_106⟩, rfl, hab, by rw [ht]; exact hP9, va_K.moved hW.alike hK, hD9⟩, hS.F ht⟩) hS.2.2 d_Md_md5_355
