theorem d_Md_keptAnswer_0 : decode b_Md_keptAnswer 0 = .ok (.iconst 0, 1) := by decide +kernel
theorem d_Md_keptAnswer_1 : decode b_Md_keptAnswer 1 = .ok (.istore_n 2, 1) := by decide +kernel
theorem d_Md_keptAnswer_2 : decode b_Md_keptAnswer 2 = .ok (.iload_n 2, 1) := by decide +kernel
theorem d_Md_keptAnswer_3 : decode b_Md_keptAnswer 3 = .ok (.aload_n 0, 1) := by decide +kernel
theorem d_Md_keptAnswer_4 : decode b_Md_keptAnswer 4 = .ok (.getfield 377, 3) := by decide +kernel
theorem d_Md_keptAnswer_7 : decode b_Md_keptAnswer 7 = .ok (.if_icmp .ge 112, 3) := by decide +kernel
theorem d_Md_keptAnswer_10 : decode b_Md_keptAnswer 10 = .ok (.aload_n 0, 1) := by decide +kernel
theorem d_Md_keptAnswer_11 : decode b_Md_keptAnswer 11 = .ok (.getfield 172, 3) := by decide +kernel
theorem d_Md_keptAnswer_14 : decode b_Md_keptAnswer 14 = .ok (.iload_n 2, 1) := by decide +kernel
theorem d_Md_keptAnswer_15 : decode b_Md_keptAnswer 15 = .ok (.iaload, 1) := by decide +kernel
theorem d_Md_keptAnswer_16 : decode b_Md_keptAnswer 16 = .ok (.iload_n 1, 1) := by decide +kernel
theorem d_Md_keptAnswer_17 : decode b_Md_keptAnswer 17 = .ok (.if_icmp .ne 38, 3) := by decide +kernel
theorem d_Md_keptAnswer_55 : decode b_Md_keptAnswer 55 = .ok (.iconst 0, 1) := by decide +kernel
theorem d_Md_keptAnswer_56 : decode b_Md_keptAnswer 56 = .ok (.istore_n 3, 1) := by decide +kernel
theorem d_Md_keptAnswer_57 : decode b_Md_keptAnswer 57 = .ok (.iconst 0, 1) := by decide +kernel
theorem d_Md_keptAnswer_58 : decode b_Md_keptAnswer 58 = .ok (.istore 4, 2) := by decide +kernel
theorem d_Md_keptAnswer_60 : decode b_Md_keptAnswer 60 = .ok (.iload 4, 2) := by decide +kernel
theorem d_Md_keptAnswer_62 : decode b_Md_keptAnswer 62 = .ok (.bipush 16, 2) := by decide +kernel
theorem d_Md_keptAnswer_64 : decode b_Md_keptAnswer 64 = .ok (.if_icmp .ge 43, 3) := by decide +kernel
theorem d_Md_keptAnswer_67 : decode b_Md_keptAnswer 67 = .ok (.iload_n 3, 1) := by decide +kernel
theorem d_Md_keptAnswer_68 : decode b_Md_keptAnswer 68 = .ok (.ifCond .eq 31, 3) := by decide +kernel
theorem d_Md_keptAnswer_99 : decode b_Md_keptAnswer 99 = .ok (.iconst 0, 1) := by decide +kernel
theorem d_Md_keptAnswer_100 : decode b_Md_keptAnswer 100 = .ok (.istore_n 3, 1) := by decide +kernel
theorem d_Md_keptAnswer_101 : decode b_Md_keptAnswer 101 = .ok (.iinc 4 1, 3) := by decide +kernel
theorem d_Md_keptAnswer_104 : decode b_Md_keptAnswer 104 = .ok (.goto (-44), 3) := by decide +kernel
theorem d_Md_keptAnswer_71 : decode b_Md_keptAnswer 71 = .ok (.aload_n 0, 1) := by decide +kernel
theorem d_Md_keptAnswer_72 : decode b_Md_keptAnswer 72 = .ok (.getfield 187, 3) := by decide +kernel
theorem d_Md_keptAnswer_75 : decode b_Md_keptAnswer 75 = .ok (.bipush 16, 2) := by decide +kernel
theorem d_Md_keptAnswer_77 : decode b_Md_keptAnswer 77 = .ok (.iload_n 2, 1) := by decide +kernel
theorem d_Md_keptAnswer_78 : decode b_Md_keptAnswer 78 = .ok (.imul, 1) := by decide +kernel
theorem d_Md_keptAnswer_79 : decode b_Md_keptAnswer 79 = .ok (.iload 4, 2) := by decide +kernel
theorem d_Md_keptAnswer_81 : decode b_Md_keptAnswer 81 = .ok (.iadd, 1) := by decide +kernel
theorem d_Md_keptAnswer_82 : decode b_Md_keptAnswer 82 = .ok (.iaload, 1) := by decide +kernel
theorem d_Md_keptAnswer_83 : decode b_Md_keptAnswer 83 = .ok (.aload_n 0, 1) := by decide +kernel
theorem d_Md_keptAnswer_84 : decode b_Md_keptAnswer 84 = .ok (.getfield 154, 3) := by decide +kernel
theorem d_Md_keptAnswer_87 : decode b_Md_keptAnswer 87 = .ok (.iconst 4, 1) := by decide +kernel
theorem d_Md_keptAnswer_88 : decode b_Md_keptAnswer 88 = .ok (.iload 4, 2) := by decide +kernel
theorem d_Md_keptAnswer_90 : decode b_Md_keptAnswer 90 = .ok (.iadd, 1) := by decide +kernel
theorem d_Md_keptAnswer_91 : decode b_Md_keptAnswer 91 = .ok (.iaload, 1) := by decide +kernel
theorem d_Md_keptAnswer_92 : decode b_Md_keptAnswer 92 = .ok (.if_icmp .ne 7, 3) := by decide +kernel
theorem d_Md_keptAnswer_95 : decode b_Md_keptAnswer 95 = .ok (.iconst 1, 1) := by decide +kernel
theorem d_Md_keptAnswer_96 : decode b_Md_keptAnswer 96 = .ok (.goto 4, 3) := by decide +kernel
theorem d_Md_keptAnswer_107 : decode b_Md_keptAnswer 107 = .ok (.iload_n 3, 1) := by decide +kernel
theorem d_Md_keptAnswer_108 : decode b_Md_keptAnswer 108 = .ok (.ifCond .eq 5, 3) := by decide +kernel
theorem d_Md_keptAnswer_113 : decode b_Md_keptAnswer 113 = .ok (.iinc 2 1, 3) := by decide +kernel
theorem d_Md_keptAnswer_116 : decode b_Md_keptAnswer 116 = .ok (.goto (-114), 3) := by decide +kernel
theorem d_Md_keptAnswer_111 : decode b_Md_keptAnswer 111 = .ok (.iload_n 2, 1) := by decide +kernel
theorem d_Md_keptAnswer_20 : decode b_Md_keptAnswer 20 = .ok (.aload_n 0, 1) := by decide +kernel
theorem d_Md_keptAnswer_21 : decode b_Md_keptAnswer 21 = .ok (.getfield 175, 3) := by decide +kernel
theorem d_Md_keptAnswer_24 : decode b_Md_keptAnswer 24 = .ok (.iload_n 2, 1) := by decide +kernel
theorem d_Md_keptAnswer_25 : decode b_Md_keptAnswer 25 = .ok (.iaload, 1) := by decide +kernel
theorem d_Md_keptAnswer_26 : decode b_Md_keptAnswer 26 = .ok (.aload_n 0, 1) := by decide +kernel
theorem d_Md_keptAnswer_27 : decode b_Md_keptAnswer 27 = .ok (.getfield 154, 3) := by decide +kernel
theorem d_Md_keptAnswer_30 : decode b_Md_keptAnswer 30 = .ok (.iconst 1, 1) := by decide +kernel
theorem d_Md_keptAnswer_31 : decode b_Md_keptAnswer 31 = .ok (.iaload, 1) := by decide +kernel
theorem d_Md_keptAnswer_32 : decode b_Md_keptAnswer 32 = .ok (.if_icmp .ne 23, 3) := by decide +kernel
theorem d_Md_keptAnswer_35 : decode b_Md_keptAnswer 35 = .ok (.aload_n 0, 1) := by decide +kernel
theorem d_Md_keptAnswer_36 : decode b_Md_keptAnswer 36 = .ok (.getfield 380, 3) := by decide +kernel
theorem d_Md_keptAnswer_39 : decode b_Md_keptAnswer 39 = .ok (.aload_n 0, 1) := by decide +kernel
theorem d_Md_keptAnswer_40 : decode b_Md_keptAnswer 40 = .ok (.getfield 178, 3) := by decide +kernel
theorem d_Md_keptAnswer_43 : decode b_Md_keptAnswer 43 = .ok (.iload_n 2, 1) := by decide +kernel
theorem d_Md_keptAnswer_44 : decode b_Md_keptAnswer 44 = .ok (.iaload, 1) := by decide +kernel
theorem d_Md_keptAnswer_45 : decode b_Md_keptAnswer 45 = .ok (.isub, 1) := by decide +kernel
theorem d_Md_keptAnswer_46 : decode b_Md_keptAnswer 46 = .ok (.bipush 30, 2) := by decide +kernel
theorem d_Md_keptAnswer_48 : decode b_Md_keptAnswer 48 = .ok (.if_icmp .gt 7, 3) := by decide +kernel
theorem d_Md_keptAnswer_51 : decode b_Md_keptAnswer 51 = .ok (.iconst 1, 1) := by decide +kernel
theorem d_Md_keptAnswer_52 : decode b_Md_keptAnswer 52 = .ok (.goto 4, 3) := by decide +kernel
theorem d_Md_keptAnswer_119 : decode b_Md_keptAnswer 119 = .ok (.iconst (-1), 1) := by decide +kernel
theorem d_Md_keptAnswer_120 : decode b_Md_keptAnswer 120 = .ok (.ireturn, 1) := by decide +kernel
theorem d_Md_keptAnswer_112 : decode b_Md_keptAnswer 112 = .ok (.ireturn, 1) := by decide +kernel
theorem d_Md_open_0 : decode b_Md_open 0 = .ok (.aload_n 0, 1) := by decide +kernel
theorem d_Md_open_1 : decode b_Md_open 1 = .ok (.iconst 0, 1) := by decide +kernel
theorem d_Md_open_2 : decode b_Md_open 2 = .ok (.putfield 383, 3) := by decide +kernel
theorem d_Md_open_5 : decode b_Md_open 5 = .ok (.aload_n 0, 1) := by decide +kernel
theorem d_Md_open_6 : decode b_Md_open 6 = .ok (.iload_n 1, 1) := by decide +kernel
theorem d_Md_open_7 : decode b_Md_open 7 = .ok (.invokevirtual 386, 3) := by decide +kernel
theorem d_Md_open_10 : decode b_Md_open 10 = .ok (.aload_n 0, 1) := by decide +kernel
theorem d_Md_open_11 : decode b_Md_open 11 = .ok (.aload_n 0, 1) := by decide +kernel
theorem d_Md_open_12 : decode b_Md_open 12 = .ok (.getfield 154, 3) := by decide +kernel
theorem d_Md_open_15 : decode b_Md_open 15 = .ok (.iconst 1, 1) := by decide +kernel
theorem d_Md_open_16 : decode b_Md_open 16 = .ok (.iaload, 1) := by decide +kernel
theorem d_Md_open_17 : decode b_Md_open 17 = .ok (.invokevirtual 386, 3) := by decide +kernel
theorem d_Md_open_20 : decode b_Md_open 20 = .ok (.aload_n 0, 1) := by decide +kernel
theorem d_Md_open_21 : decode b_Md_open 21 = .ok (.iconst 0, 1) := by decide +kernel
theorem d_Md_open_22 : decode b_Md_open 22 = .ok (.invokevirtual 386, 3) := by decide +kernel
theorem d_Md_open_25 : decode b_Md_open 25 = .ok (.aload_n 0, 1) := by decide +kernel
theorem d_Md_open_26 : decode b_Md_open 26 = .ok (.iconst 0, 1) := by decide +kernel
theorem d_Md_open_27 : decode b_Md_open 27 = .ok (.invokevirtual 386, 3) := by decide +kernel
theorem d_Md_open_30 : decode b_Md_open 30 = .ok (.iconst 4, 1) := by decide +kernel
theorem d_Md_open_31 : decode b_Md_open 31 = .ok (.istore_n 2, 1) := by decide +kernel
theorem d_Md_open_32 : decode b_Md_open 32 = .ok (.iload_n 2, 1) := by decide +kernel
theorem d_Md_open_33 : decode b_Md_open 33 = .ok (.bipush 20, 2) := by decide +kernel
theorem d_Md_open_35 : decode b_Md_open 35 = .ok (.if_icmp .ge 19, 3) := by decide +kernel
theorem d_Md_open_38 : decode b_Md_open 38 = .ok (.aload_n 0, 1) := by decide +kernel
theorem d_Md_open_39 : decode b_Md_open 39 = .ok (.aload_n 0, 1) := by decide +kernel
theorem d_Md_open_40 : decode b_Md_open 40 = .ok (.getfield 154, 3) := by decide +kernel
theorem d_Md_open_43 : decode b_Md_open 43 = .ok (.iload_n 2, 1) := by decide +kernel
theorem d_Md_open_44 : decode b_Md_open 44 = .ok (.iaload, 1) := by decide +kernel
theorem d_Md_open_45 : decode b_Md_open 45 = .ok (.invokevirtual 386, 3) := by decide +kernel
theorem d_Md_open_48 : decode b_Md_open 48 = .ok (.iinc 2 1, 3) := by decide +kernel
theorem d_Md_open_51 : decode b_Md_open 51 = .ok (.goto (-19), 3) := by decide +kernel
theorem d_Md_open_54 : decode b_Md_open 54 = .ok (.return_, 1) := by decide +kernel
theorem d_Md_copyAnswer_0 : decode b_Md_copyAnswer 0 = .ok (.aload_n 0, 1) := by decide +kernel
theorem d_Md_copyAnswer_1 : decode b_Md_copyAnswer 1 = .ok (.getfield 172, 3) := by decide +kernel
theorem d_Md_copyAnswer_4 : decode b_Md_copyAnswer 4 = .ok (.iload_n 2, 1) := by decide +kernel
theorem d_Md_copyAnswer_5 : decode b_Md_copyAnswer 5 = .ok (.aload_n 0, 1) := by decide +kernel
theorem d_Md_copyAnswer_6 : decode b_Md_copyAnswer 6 = .ok (.getfield 172, 3) := by decide +kernel
theorem d_Md_copyAnswer_9 : decode b_Md_copyAnswer 9 = .ok (.iload_n 1, 1) := by decide +kernel
theorem d_Md_copyAnswer_10 : decode b_Md_copyAnswer 10 = .ok (.iaload, 1) := by decide +kernel
theorem d_Md_copyAnswer_11 : decode b_Md_copyAnswer 11 = .ok (.iastore, 1) := by decide +kernel
theorem d_Md_copyAnswer_12 : decode b_Md_copyAnswer 12 = .ok (.aload_n 0, 1) := by decide +kernel
theorem d_Md_copyAnswer_13 : decode b_Md_copyAnswer 13 = .ok (.getfield 175, 3) := by decide +kernel
theorem d_Md_copyAnswer_16 : decode b_Md_copyAnswer 16 = .ok (.iload_n 2, 1) := by decide +kernel
theorem d_Md_copyAnswer_17 : decode b_Md_copyAnswer 17 = .ok (.aload_n 0, 1) := by decide +kernel
theorem d_Md_copyAnswer_18 : decode b_Md_copyAnswer 18 = .ok (.getfield 175, 3) := by decide +kernel
theorem d_Md_copyAnswer_21 : decode b_Md_copyAnswer 21 = .ok (.iload_n 1, 1) := by decide +kernel
theorem d_Md_copyAnswer_22 : decode b_Md_copyAnswer 22 = .ok (.iaload, 1) := by decide +kernel
theorem d_Md_copyAnswer_23 : decode b_Md_copyAnswer 23 = .ok (.iastore, 1) := by decide +kernel
theorem d_Md_copyAnswer_24 : decode b_Md_copyAnswer 24 = .ok (.aload_n 0, 1) := by decide +kernel
theorem d_Md_copyAnswer_25 : decode b_Md_copyAnswer 25 = .ok (.getfield 178, 3) := by decide +kernel
theorem d_Md_copyAnswer_28 : decode b_Md_copyAnswer 28 = .ok (.iload_n 2, 1) := by decide +kernel
theorem d_Md_copyAnswer_29 : decode b_Md_copyAnswer 29 = .ok (.aload_n 0, 1) := by decide +kernel
theorem d_Md_copyAnswer_30 : decode b_Md_copyAnswer 30 = .ok (.getfield 178, 3) := by decide +kernel
theorem d_Md_copyAnswer_33 : decode b_Md_copyAnswer 33 = .ok (.iload_n 1, 1) := by decide +kernel
theorem d_Md_copyAnswer_34 : decode b_Md_copyAnswer 34 = .ok (.iaload, 1) := by decide +kernel
theorem d_Md_copyAnswer_35 : decode b_Md_copyAnswer 35 = .ok (.iastore, 1) := by decide +kernel
theorem d_Md_copyAnswer_36 : decode b_Md_copyAnswer 36 = .ok (.aload_n 0, 1) := by decide +kernel
theorem d_Md_copyAnswer_37 : decode b_Md_copyAnswer 37 = .ok (.getfield 181, 3) := by decide +kernel
theorem d_Md_copyAnswer_40 : decode b_Md_copyAnswer 40 = .ok (.iload_n 2, 1) := by decide +kernel
theorem d_Md_copyAnswer_41 : decode b_Md_copyAnswer 41 = .ok (.aload_n 0, 1) := by decide +kernel
theorem d_Md_copyAnswer_42 : decode b_Md_copyAnswer 42 = .ok (.getfield 181, 3) := by decide +kernel
theorem d_Md_copyAnswer_45 : decode b_Md_copyAnswer 45 = .ok (.iload_n 1, 1) := by decide +kernel
theorem d_Md_copyAnswer_46 : decode b_Md_copyAnswer 46 = .ok (.iaload, 1) := by decide +kernel
theorem d_Md_copyAnswer_47 : decode b_Md_copyAnswer 47 = .ok (.iastore, 1) := by decide +kernel
theorem d_Md_copyAnswer_48 : decode b_Md_copyAnswer 48 = .ok (.iconst 0, 1) := by decide +kernel
theorem d_Md_copyAnswer_49 : decode b_Md_copyAnswer 49 = .ok (.istore_n 3, 1) := by decide +kernel
theorem d_Md_copyAnswer_50 : decode b_Md_copyAnswer 50 = .ok (.iload_n 3, 1) := by decide +kernel
theorem d_Md_copyAnswer_51 : decode b_Md_copyAnswer 51 = .ok (.sipush 200, 3) := by decide +kernel
theorem d_Md_copyAnswer_54 : decode b_Md_copyAnswer 54 = .ok (.if_icmp .ge 33, 3) := by decide +kernel
theorem d_Md_copyAnswer_57 : decode b_Md_copyAnswer 57 = .ok (.aload_n 0, 1) := by decide +kernel
theorem d_Md_copyAnswer_58 : decode b_Md_copyAnswer 58 = .ok (.getfield 184, 3) := by decide +kernel
theorem d_Md_copyAnswer_61 : decode b_Md_copyAnswer 61 = .ok (.sipush 200, 3) := by decide +kernel
theorem d_Md_copyAnswer_64 : decode b_Md_copyAnswer 64 = .ok (.iload_n 2, 1) := by decide +kernel
theorem d_Md_copyAnswer_65 : decode b_Md_copyAnswer 65 = .ok (.imul, 1) := by decide +kernel
theorem d_Md_copyAnswer_66 : decode b_Md_copyAnswer 66 = .ok (.iload_n 3, 1) := by decide +kernel
theorem d_Md_copyAnswer_67 : decode b_Md_copyAnswer 67 = .ok (.iadd, 1) := by decide +kernel
theorem d_Md_copyAnswer_68 : decode b_Md_copyAnswer 68 = .ok (.aload_n 0, 1) := by decide +kernel
theorem d_Md_copyAnswer_69 : decode b_Md_copyAnswer 69 = .ok (.getfield 184, 3) := by decide +kernel
theorem d_Md_copyAnswer_72 : decode b_Md_copyAnswer 72 = .ok (.sipush 200, 3) := by decide +kernel
theorem d_Md_copyAnswer_75 : decode b_Md_copyAnswer 75 = .ok (.iload_n 1, 1) := by decide +kernel
theorem d_Md_copyAnswer_76 : decode b_Md_copyAnswer 76 = .ok (.imul, 1) := by decide +kernel
theorem d_Md_copyAnswer_77 : decode b_Md_copyAnswer 77 = .ok (.iload_n 3, 1) := by decide +kernel
theorem d_Md_copyAnswer_78 : decode b_Md_copyAnswer 78 = .ok (.iadd, 1) := by decide +kernel
theorem d_Md_copyAnswer_79 : decode b_Md_copyAnswer 79 = .ok (.iaload, 1) := by decide +kernel
theorem d_Md_copyAnswer_80 : decode b_Md_copyAnswer 80 = .ok (.iastore, 1) := by decide +kernel
theorem d_Md_copyAnswer_81 : decode b_Md_copyAnswer 81 = .ok (.iinc 3 1, 3) := by decide +kernel
theorem d_Md_copyAnswer_84 : decode b_Md_copyAnswer 84 = .ok (.goto (-34), 3) := by decide +kernel
theorem d_Md_copyAnswer_87 : decode b_Md_copyAnswer 87 = .ok (.iconst 0, 1) := by decide +kernel
theorem d_Md_copyAnswer_88 : decode b_Md_copyAnswer 88 = .ok (.istore_n 3, 1) := by decide +kernel
theorem d_Md_copyAnswer_89 : decode b_Md_copyAnswer 89 = .ok (.iload_n 3, 1) := by decide +kernel
theorem d_Md_copyAnswer_90 : decode b_Md_copyAnswer 90 = .ok (.bipush 16, 2) := by decide +kernel
theorem d_Md_copyAnswer_92 : decode b_Md_copyAnswer 92 = .ok (.if_icmp .ge 31, 3) := by decide +kernel
theorem d_Md_copyAnswer_95 : decode b_Md_copyAnswer 95 = .ok (.aload_n 0, 1) := by decide +kernel
theorem d_Md_copyAnswer_96 : decode b_Md_copyAnswer 96 = .ok (.getfield 187, 3) := by decide +kernel
theorem d_Md_copyAnswer_99 : decode b_Md_copyAnswer 99 = .ok (.bipush 16, 2) := by decide +kernel
theorem d_Md_copyAnswer_101 : decode b_Md_copyAnswer 101 = .ok (.iload_n 2, 1) := by decide +kernel
theorem d_Md_copyAnswer_102 : decode b_Md_copyAnswer 102 = .ok (.imul, 1) := by decide +kernel
theorem d_Md_copyAnswer_103 : decode b_Md_copyAnswer 103 = .ok (.iload_n 3, 1) := by decide +kernel
theorem d_Md_copyAnswer_104 : decode b_Md_copyAnswer 104 = .ok (.iadd, 1) := by decide +kernel
theorem d_Md_copyAnswer_105 : decode b_Md_copyAnswer 105 = .ok (.aload_n 0, 1) := by decide +kernel
theorem d_Md_copyAnswer_106 : decode b_Md_copyAnswer 106 = .ok (.getfield 187, 3) := by decide +kernel
theorem d_Md_copyAnswer_109 : decode b_Md_copyAnswer 109 = .ok (.bipush 16, 2) := by decide +kernel
theorem d_Md_copyAnswer_111 : decode b_Md_copyAnswer 111 = .ok (.iload_n 1, 1) := by decide +kernel
theorem d_Md_copyAnswer_112 : decode b_Md_copyAnswer 112 = .ok (.imul, 1) := by decide +kernel
theorem d_Md_copyAnswer_113 : decode b_Md_copyAnswer 113 = .ok (.iload_n 3, 1) := by decide +kernel
theorem d_Md_copyAnswer_114 : decode b_Md_copyAnswer 114 = .ok (.iadd, 1) := by decide +kernel
theorem d_Md_copyAnswer_115 : decode b_Md_copyAnswer 115 = .ok (.iaload, 1) := by decide +kernel
theorem d_Md_copyAnswer_116 : decode b_Md_copyAnswer 116 = .ok (.iastore, 1) := by decide +kernel
theorem d_Md_copyAnswer_117 : decode b_Md_copyAnswer 117 = .ok (.iinc 3 1, 3) := by decide +kernel
theorem d_Md_copyAnswer_120 : decode b_Md_copyAnswer 120 = .ok (.goto (-31), 3) := by decide +kernel
theorem d_Md_copyAnswer_123 : decode b_Md_copyAnswer 123 = .ok (.return_, 1) := by decide +kernel
theorem d_Md_dropAnswer_0 : decode b_Md_dropAnswer 0 = .ok (.iload_n 1, 1) := by decide +kernel
theorem d_Md_dropAnswer_1 : decode b_Md_dropAnswer 1 = .ok (.iconst 1, 1) := by decide +kernel
theorem d_Md_dropAnswer_2 : decode b_Md_dropAnswer 2 = .ok (.iadd, 1) := by decide +kernel
theorem d_Md_dropAnswer_3 : decode b_Md_dropAnswer 3 = .ok (.istore_n 2, 1) := by decide +kernel
theorem d_Md_dropAnswer_4 : decode b_Md_dropAnswer 4 = .ok (.iload_n 2, 1) := by decide +kernel
theorem d_Md_dropAnswer_5 : decode b_Md_dropAnswer 5 = .ok (.aload_n 0, 1) := by decide +kernel
theorem d_Md_dropAnswer_6 : decode b_Md_dropAnswer 6 = .ok (.getfield 377, 3) := by decide +kernel
theorem d_Md_dropAnswer_9 : decode b_Md_dropAnswer 9 = .ok (.if_icmp .ge 17, 3) := by decide +kernel
theorem d_Md_dropAnswer_12 : decode b_Md_dropAnswer 12 = .ok (.aload_n 0, 1) := by decide +kernel
theorem d_Md_dropAnswer_13 : decode b_Md_dropAnswer 13 = .ok (.iload_n 2, 1) := by decide +kernel
theorem d_Md_dropAnswer_14 : decode b_Md_dropAnswer 14 = .ok (.iload_n 2, 1) := by decide +kernel
theorem d_Md_dropAnswer_15 : decode b_Md_dropAnswer 15 = .ok (.iconst 1, 1) := by decide +kernel
theorem d_Md_dropAnswer_16 : decode b_Md_dropAnswer 16 = .ok (.isub, 1) := by decide +kernel
theorem d_Md_dropAnswer_17 : decode b_Md_dropAnswer 17 = .ok (.invokevirtual 389, 3) := by decide +kernel
theorem d_Md_dropAnswer_20 : decode b_Md_dropAnswer 20 = .ok (.iinc 2 1, 3) := by decide +kernel
theorem d_Md_dropAnswer_23 : decode b_Md_dropAnswer 23 = .ok (.goto (-19), 3) := by decide +kernel
theorem d_Md_dropAnswer_26 : decode b_Md_dropAnswer 26 = .ok (.aload_n 0, 1) := by decide +kernel
theorem d_Md_dropAnswer_27 : decode b_Md_dropAnswer 27 = .ok (.dup, 1) := by decide +kernel
theorem d_Md_dropAnswer_28 : decode b_Md_dropAnswer 28 = .ok (.getfield 377, 3) := by decide +kernel
theorem d_Md_dropAnswer_31 : decode b_Md_dropAnswer 31 = .ok (.iconst 1, 1) := by decide +kernel
theorem d_Md_dropAnswer_32 : decode b_Md_dropAnswer 32 = .ok (.isub, 1) := by decide +kernel
theorem d_Md_dropAnswer_33 : decode b_Md_dropAnswer 33 = .ok (.putfield 377, 3) := by decide +kernel
theorem d_Md_dropAnswer_36 : decode b_Md_dropAnswer 36 = .ok (.return_, 1) := by decide +kernel
theorem d_Md_keep_0 : decode b_Md_keep 0 = .ok (.aload_n 0, 1) := by decide +kernel
theorem d_Md_keep_1 : decode b_Md_keep 1 = .ok (.getfield 377, 3) := by decide +kernel
theorem d_Md_keep_4 : decode b_Md_keep 4 = .ok (.iconst 1, 1) := by decide +kernel
theorem d_Md_keep_5 : decode b_Md_keep 5 = .ok (.isub, 1) := by decide +kernel
theorem d_Md_keep_6 : decode b_Md_keep 6 = .ok (.istore_n 2, 1) := by decide +kernel
theorem d_Md_keep_7 : decode b_Md_keep 7 = .ok (.iload_n 2, 1) := by decide +kernel
theorem d_Md_keep_8 : decode b_Md_keep 8 = .ok (.ifCond .lt 39, 3) := by decide +kernel
theorem d_Md_keep_11 : decode b_Md_keep 11 = .ok (.aload_n 0, 1) := by decide +kernel
theorem d_Md_keep_12 : decode b_Md_keep 12 = .ok (.getfield 172, 3) := by decide +kernel
theorem d_Md_keep_15 : decode b_Md_keep 15 = .ok (.iload_n 2, 1) := by decide +kernel
theorem d_Md_keep_16 : decode b_Md_keep 16 = .ok (.iaload, 1) := by decide +kernel
theorem d_Md_keep_17 : decode b_Md_keep 17 = .ok (.iload_n 1, 1) := by decide +kernel
theorem d_Md_keep_18 : decode b_Md_keep 18 = .ok (.if_icmp .ne 23, 3) := by decide +kernel
theorem d_Md_keep_41 : decode b_Md_keep 41 = .ok (.iinc 2 (-1), 3) := by decide +kernel
theorem d_Md_keep_44 : decode b_Md_keep 44 = .ok (.goto (-37), 3) := by decide +kernel
theorem d_Md_keep_21 : decode b_Md_keep 21 = .ok (.aload_n 0, 1) := by decide +kernel
theorem d_Md_keep_22 : decode b_Md_keep 22 = .ok (.getfield 175, 3) := by decide +kernel
theorem d_Md_keep_25 : decode b_Md_keep 25 = .ok (.iload_n 2, 1) := by decide +kernel
theorem d_Md_keep_26 : decode b_Md_keep 26 = .ok (.iaload, 1) := by decide +kernel
theorem d_Md_keep_27 : decode b_Md_keep 27 = .ok (.aload_n 0, 1) := by decide +kernel
theorem d_Md_keep_28 : decode b_Md_keep 28 = .ok (.getfield 154, 3) := by decide +kernel
theorem d_Md_keep_31 : decode b_Md_keep 31 = .ok (.iconst 1, 1) := by decide +kernel
theorem d_Md_keep_32 : decode b_Md_keep 32 = .ok (.iaload, 1) := by decide +kernel
theorem d_Md_keep_33 : decode b_Md_keep 33 = .ok (.if_icmp .ne 8, 3) := by decide +kernel
theorem d_Md_keep_36 : decode b_Md_keep 36 = .ok (.aload_n 0, 1) := by decide +kernel
theorem d_Md_keep_37 : decode b_Md_keep 37 = .ok (.iload_n 2, 1) := by decide +kernel
theorem d_Md_keep_38 : decode b_Md_keep 38 = .ok (.invokevirtual 392, 3) := by decide +kernel
theorem d_Md_keep_47 : decode b_Md_keep 47 = .ok (.aload_n 0, 1) := by decide +kernel
theorem d_Md_keep_48 : decode b_Md_keep 48 = .ok (.getfield 377, 3) := by decide +kernel
theorem d_Md_keep_51 : decode b_Md_keep 51 = .ok (.bipush 40, 2) := by decide +kernel
theorem d_Md_keep_53 : decode b_Md_keep 53 = .ok (.if_icmp .ne 8, 3) := by decide +kernel
theorem d_Md_keep_61 : decode b_Md_keep 61 = .ok (.aload_n 0, 1) := by decide +kernel
theorem d_Md_keep_62 : decode b_Md_keep 62 = .ok (.getfield 172, 3) := by decide +kernel
theorem d_Md_keep_65 : decode b_Md_keep 65 = .ok (.aload_n 0, 1) := by decide +kernel
theorem d_Md_keep_66 : decode b_Md_keep 66 = .ok (.getfield 377, 3) := by decide +kernel
theorem d_Md_keep_69 : decode b_Md_keep 69 = .ok (.iload_n 1, 1) := by decide +kernel
theorem d_Md_keep_70 : decode b_Md_keep 70 = .ok (.iastore, 1) := by decide +kernel
theorem d_Md_keep_71 : decode b_Md_keep 71 = .ok (.aload_n 0, 1) := by decide +kernel
theorem d_Md_keep_72 : decode b_Md_keep 72 = .ok (.getfield 175, 3) := by decide +kernel
theorem d_Md_keep_75 : decode b_Md_keep 75 = .ok (.aload_n 0, 1) := by decide +kernel
theorem d_Md_keep_76 : decode b_Md_keep 76 = .ok (.getfield 377, 3) := by decide +kernel
theorem d_Md_keep_79 : decode b_Md_keep 79 = .ok (.aload_n 0, 1) := by decide +kernel
theorem d_Md_keep_80 : decode b_Md_keep 80 = .ok (.getfield 154, 3) := by decide +kernel
theorem d_Md_keep_83 : decode b_Md_keep 83 = .ok (.iconst 1, 1) := by decide +kernel
theorem d_Md_keep_84 : decode b_Md_keep 84 = .ok (.iaload, 1) := by decide +kernel
theorem d_Md_keep_85 : decode b_Md_keep 85 = .ok (.iastore, 1) := by decide +kernel
theorem d_Md_keep_86 : decode b_Md_keep 86 = .ok (.aload_n 0, 1) := by decide +kernel
theorem d_Md_keep_87 : decode b_Md_keep 87 = .ok (.getfield 178, 3) := by decide +kernel
theorem d_Md_keep_90 : decode b_Md_keep 90 = .ok (.aload_n 0, 1) := by decide +kernel
theorem d_Md_keep_91 : decode b_Md_keep 91 = .ok (.getfield 377, 3) := by decide +kernel
theorem d_Md_keep_94 : decode b_Md_keep 94 = .ok (.aload_n 0, 1) := by decide +kernel
theorem d_Md_keep_95 : decode b_Md_keep 95 = .ok (.getfield 380, 3) := by decide +kernel
theorem d_Md_keep_98 : decode b_Md_keep 98 = .ok (.iastore, 1) := by decide +kernel
theorem d_Md_keep_99 : decode b_Md_keep 99 = .ok (.aload_n 0, 1) := by decide +kernel
theorem d_Md_keep_100 : decode b_Md_keep 100 = .ok (.getfield 181, 3) := by decide +kernel
theorem d_Md_keep_103 : decode b_Md_keep 103 = .ok (.aload_n 0, 1) := by decide +kernel
theorem d_Md_keep_104 : decode b_Md_keep 104 = .ok (.getfield 377, 3) := by decide +kernel
theorem d_Md_keep_107 : decode b_Md_keep 107 = .ok (.aload_n 0, 1) := by decide +kernel
theorem d_Md_keep_108 : decode b_Md_keep 108 = .ok (.getfield 383, 3) := by decide +kernel
theorem d_Md_keep_111 : decode b_Md_keep 111 = .ok (.iastore, 1) := by decide +kernel
theorem d_Md_keep_112 : decode b_Md_keep 112 = .ok (.iconst 0, 1) := by decide +kernel
theorem d_Md_keep_113 : decode b_Md_keep 113 = .ok (.istore_n 2, 1) := by decide +kernel
theorem d_Md_keep_114 : decode b_Md_keep 114 = .ok (.iload_n 2, 1) := by decide +kernel
theorem d_Md_keep_115 : decode b_Md_keep 115 = .ok (.aload_n 0, 1) := by decide +kernel
theorem d_Md_keep_116 : decode b_Md_keep 116 = .ok (.getfield 383, 3) := by decide +kernel
theorem d_Md_keep_119 : decode b_Md_keep 119 = .ok (.if_icmp .ge 30, 3) := by decide +kernel
theorem d_Md_keep_122 : decode b_Md_keep 122 = .ok (.aload_n 0, 1) := by decide +kernel
theorem d_Md_keep_123 : decode b_Md_keep 123 = .ok (.getfield 184, 3) := by decide +kernel
theorem d_Md_keep_126 : decode b_Md_keep 126 = .ok (.sipush 200, 3) := by decide +kernel
theorem d_Md_keep_129 : decode b_Md_keep 129 = .ok (.aload_n 0, 1) := by decide +kernel
theorem d_Md_keep_130 : decode b_Md_keep 130 = .ok (.getfield 377, 3) := by decide +kernel
theorem d_Md_keep_133 : decode b_Md_keep 133 = .ok (.imul, 1) := by decide +kernel
theorem d_Md_keep_134 : decode b_Md_keep 134 = .ok (.iload_n 2, 1) := by decide +kernel
theorem d_Md_keep_135 : decode b_Md_keep 135 = .ok (.iadd, 1) := by decide +kernel
theorem d_Md_keep_136 : decode b_Md_keep 136 = .ok (.aload_n 0, 1) := by decide +kernel
theorem d_Md_keep_137 : decode b_Md_keep 137 = .ok (.getfield 169, 3) := by decide +kernel
theorem d_Md_keep_140 : decode b_Md_keep 140 = .ok (.iload_n 2, 1) := by decide +kernel
theorem d_Md_keep_141 : decode b_Md_keep 141 = .ok (.iaload, 1) := by decide +kernel
theorem d_Md_keep_142 : decode b_Md_keep 142 = .ok (.iastore, 1) := by decide +kernel
theorem d_Md_keep_143 : decode b_Md_keep 143 = .ok (.iinc 2 1, 3) := by decide +kernel
theorem d_Md_keep_146 : decode b_Md_keep 146 = .ok (.goto (-32), 3) := by decide +kernel
theorem d_Md_keep_149 : decode b_Md_keep 149 = .ok (.iconst 0, 1) := by decide +kernel
theorem d_Md_keep_150 : decode b_Md_keep 150 = .ok (.istore_n 2, 1) := by decide +kernel
theorem d_Md_keep_151 : decode b_Md_keep 151 = .ok (.iload_n 2, 1) := by decide +kernel
theorem d_Md_keep_152 : decode b_Md_keep 152 = .ok (.bipush 16, 2) := by decide +kernel
theorem d_Md_keep_154 : decode b_Md_keep 154 = .ok (.if_icmp .ge 31, 3) := by decide +kernel
theorem d_Md_keep_157 : decode b_Md_keep 157 = .ok (.aload_n 0, 1) := by decide +kernel
theorem d_Md_keep_158 : decode b_Md_keep 158 = .ok (.getfield 187, 3) := by decide +kernel
theorem d_Md_keep_161 : decode b_Md_keep 161 = .ok (.bipush 16, 2) := by decide +kernel
theorem d_Md_keep_163 : decode b_Md_keep 163 = .ok (.aload_n 0, 1) := by decide +kernel
theorem d_Md_keep_164 : decode b_Md_keep 164 = .ok (.getfield 377, 3) := by decide +kernel
theorem d_Md_keep_167 : decode b_Md_keep 167 = .ok (.imul, 1) := by decide +kernel
theorem d_Md_keep_168 : decode b_Md_keep 168 = .ok (.iload_n 2, 1) := by decide +kernel
theorem d_Md_keep_169 : decode b_Md_keep 169 = .ok (.iadd, 1) := by decide +kernel
theorem d_Md_keep_170 : decode b_Md_keep 170 = .ok (.aload_n 0, 1) := by decide +kernel
theorem d_Md_keep_171 : decode b_Md_keep 171 = .ok (.getfield 154, 3) := by decide +kernel
theorem d_Md_keep_174 : decode b_Md_keep 174 = .ok (.iconst 4, 1) := by decide +kernel
theorem d_Md_keep_175 : decode b_Md_keep 175 = .ok (.iload_n 2, 1) := by decide +kernel
theorem d_Md_keep_176 : decode b_Md_keep 176 = .ok (.iadd, 1) := by decide +kernel
theorem d_Md_keep_177 : decode b_Md_keep 177 = .ok (.iaload, 1) := by decide +kernel
theorem d_Md_keep_178 : decode b_Md_keep 178 = .ok (.iastore, 1) := by decide +kernel
theorem d_Md_keep_179 : decode b_Md_keep 179 = .ok (.iinc 2 1, 3) := by decide +kernel
theorem d_Md_keep_182 : decode b_Md_keep 182 = .ok (.goto (-31), 3) := by decide +kernel
theorem d_Md_keep_185 : decode b_Md_keep 185 = .ok (.aload_n 0, 1) := by decide +kernel
theorem d_Md_keep_186 : decode b_Md_keep 186 = .ok (.dup, 1) := by decide +kernel
theorem d_Md_keep_187 : decode b_Md_keep 187 = .ok (.getfield 377, 3) := by decide +kernel
theorem d_Md_keep_190 : decode b_Md_keep 190 = .ok (.iconst 1, 1) := by decide +kernel
theorem d_Md_keep_191 : decode b_Md_keep 191 = .ok (.iadd, 1) := by decide +kernel
theorem d_Md_keep_192 : decode b_Md_keep 192 = .ok (.putfield 377, 3) := by decide +kernel
theorem d_Md_keep_195 : decode b_Md_keep 195 = .ok (.return_, 1) := by decide +kernel
theorem d_Md_keep_56 : decode b_Md_keep 56 = .ok (.aload_n 0, 1) := by decide +kernel
theorem d_Md_keep_57 : decode b_Md_keep 57 = .ok (.iconst 0, 1) := by decide +kernel
theorem d_Md_keep_58 : decode b_Md_keep 58 = .ok (.invokevirtual 392, 3) := by decide +kernel
set_option maxHeartbeats 4000000 in
set_option maxRecDepth 100000 in
/-- keptAnswer -/
theorem m_kept (l : Launch) (dC : Nat → ClassId) (dI : Nat → Nat → Nat) (cT : Nat → ClassId) (sz : Nat) (mo : Nat) (r : Nat → Nat) (cd : Int32) (tm : Int32) (sn : Nat) (tx : Nat) (lz : Nat) (az : Nat) (na : Nat) (nt : Nat) (nr : Nat) (mw : Int32) (ml : Int32) (mk : Int64) (dq : Int64) (f7 : Nat → Int32) (f18 : Nat → Int32) (f19 : Nat → Int32) (f20 : Nat → Int32) (f23 : Nat → Int32) (x : Int32) (hna : na ≤ 40) : Met l y_Md_keptAnswer (Cond.code y_Md_keptAnswer b_Md_keptAnswer 5 (Option.some Jvm.ClassFile.FieldType.int) :: BIG) ({ frames := 0, cells := 0, slots := 0, locals := 0 }) (va_Pc [.ref mo, .int x] (fun U => U.heap.size = sz ∧ va_P (dC, dI) vcl [(mo, .inr (12, mdG r cd tm (nI sn) (nI tx) (nI lz) (nI az) (nI na) (nI nt) (nI nr) mw ml mk dq)), (r 7, .inl ((cT 0), 1000, .inl f7)), (r 18, .inl ((cT 0), 41, .inl f18)), (r 19, .inl ((cT 0), 41, .inl f19)), (r 20, .inl ((cT 0), 41, .inl f20)), (r 23, .inl ((cT 0), 656, .inl f23))] U.heap ∧ va_K (dC, dI) vcl (tyL cT) U ∧ va_D (fun _ => True) [(mo, .inr (12, mdG r cd tm (nI sn) (nI tx) (nI lz) (nI az) (nI na) (nI nt) (nI nr) mw ml mk dq)), (r 7, .inl ((cT 0), 1000, .inl f7)), (r 18, .inl ((cT 0), 41, .inl f18)), (r 19, .inl ((cT 0), 41, .inl f19)), (r 20, .inl ((cT 0), 41, .inl f20)), (r 23, .inl ((cT 0), 656, .inl f23))])) (va_Qi (S := Unit) (fun rv9 u => rv9 = -1 ∨ ∃ a : Nat, rv9 = nI a ∧ a < na) (fun u t => va_P (dC, dI) vcl [(mo, .inr (12, mdG r cd tm (nI sn) (nI tx) (nI lz) (nI az) (nI na) (nI nt) (nI nr) mw ml mk dq)), (r 7, .inl ((cT 0), 1000, .inl f7)), (r 18, .inl ((cT 0), 41, .inl f18)), (r 19, .inl ((cT 0), 41, .inl f19)), (r 20, .inl ((cT 0), 41, .inl f20)), (r 23, .inl ((cT 0), 656, .inl f23))] t.heap ∧ va_K (dC, dI) vcl (tyL cT) t ∧ va_D (va_A [(mo, .inr (12, mdG r cd tm (nI sn) (nI tx) (nI lz) (nI az) (nI na) (nI nt) (nI nr) mw ml mk dq)), (r 7, .inl ((cT 0), 1000, .inl f7)), (r 18, .inl ((cT 0), 41, .inl f18)), (r 19, .inl ((cT 0), 41, .inl f19)), (r 20, .inl ((cT 0), 41, .inl f20)), (r 23, .inl ((cT 0), 656, .inl f23))] sz) [(mo, .inr (12, mdG r cd tm (nI sn) (nI tx) (nI lz) (nI az) (nI na) (nI nt) (nI nr) mw ml mk dq)), (r 7, .inl ((cT 0), 1000, .inl f7)), (r 18, .inl ((cT 0), 41, .inl f18)), (r 19, .inl ((cT 0), 41, .inl f19)), (r 20, .inl ((cT 0), 41, .inl f20)), (r 23, .inl ((cT 0), 656, .inl f23))]) (va_A [(mo, .inr (12, mdG r cd tm (nI sn) (nI tx) (nI lz) (nI az) (nI na) (nI nt) (nI nr) mw ml mk dq)), (r 7, .inl ((cT 0), 1000, .inl f7)), (r 18, .inl ((cT 0), 41, .inl f18)), (r 19, .inl ((cT 0), 41, .inl f19)), (r 20, .inl ((cT 0), 41, .inl f20)), (r 23, .inl ((cT 0), 656, .inl f23))] sz)) 0 0 (va_A [(mo, .inr (12, mdG r cd tm (nI sn) (nI tx) (nI lz) (nI az) (nI na) (nI nt) (nI nr) mw ml mk dq)), (r 7, .inl ((cT 0), 1000, .inl f7)), (r 18, .inl ((cT 0), 41, .inl f18)), (r 19, .inl ((cT 0), 41, .inl f19)), (r 20, .inl ((cT 0), 41, .inl f20)), (r 23, .inl ((cT 0), 656, .inl f23))] sz) := by
  refine Met.ofW (cc := b_Md_keptAnswer) (maxL := 5) (ret := (Option.some Jvm.ClassFile.FieldType.int)) (by decide) rfl ?_
  intro p e s m args below meth c s₁ B hml hv
  obtain ⟨hargs, hsz, hP, hK, hD0⟩ := hv
  have hx := B.exec
  have hb := B.bytes
  have hr := B.returns
  have hts := atoms_spec (ws := (Cond.code y_Md_keptAnswer b_Md_keptAnswer 5 (Option.some Jvm.ClassFile.FieldType.int) :: BIG)) B.pre
  have hg : ∀ w ∈ BIG, w.before _ s = true := fun w h => hts w (List.mem_cons_of_mem _ h)
  have hown : s.vm.findClass "DoorServerModel" = some m.cls := findClass_of_methodNamed B.named
  have hlocks := B.notSynchronized
  subst hsz
  have hD := hD0.self (sz := s.heap.size)
  generalize hAe : va_A [(mo, .inr (12, mdG r cd tm (nI sn) (nI tx) (nI lz) (nI az) (nI na) (nI nt) (nI nr) mw ml mk dq)), (r 7, .inl ((cT 0), 1000, .inl f7)), (r 18, .inl ((cT 0), 41, .inl f18)), (r 19, .inl ((cT 0), 41, .inl f19)), (r 20, .inl ((cT 0), 41, .inl f20)), (r 23, .inl ((cT 0), 656, .inl f23))] s.heap.size = A at hD ⊢
  have hA : ∀ q : Nat, s.heap.size ≤ q → A q := fun q h => by rw [← hAe]; exact Or.inr h
  have hS : va_S A s.heap s.heap [] := va_S.rf
  have hl := lv_entry ([.ref mo, .int x]) (n := 5) (Nat.le_of_ble_eq_true rfl)
  refine W.eq (g2 := entryFrame m (List.toArray [.ref mo, .int x]) 5) (by rw [hargs]) ?_
  rw [lg_entry_eq]
  generalize (lg_sl ([.ref mo, .int x]) ++ List.replicate (5 - (lg_sl ([.ref mo, .int x])).length) Slot.unset).toArray = ls at hl ⊢
  have hl : lv_has ls 5 [(0, .ref mo), (1, .int x)] := hl
  change W p l e ({ frames := 0, cells := 0, slots := 0, locals := 0 } : Room) s m args below meth c s.heap [] 0 0 _ _
  have hP : va_P (dC, dI) vcl [(mo, .inr (12, mdG r cd tm (nI sn) (nI tx) (nI lz) (nI az) (nI na) (nI nt) (nI nr) mw ml mk dq)), (r 7, .inl ((cT 0), 1000, .inl f7)), (r 18, .inl ((cT 0), 41, .inl f18)), (r 19, .inl ((cT 0), 41, .inl f19)), (r 20, .inl ((cT 0), 41, .inl f20)), (r 23, .inl ((cT 0), 656, .inl f23))] s.heap := hP
  refine lv_iconst (v := 0) hx hb d_Md_keptAnswer_0 (by decide) ?_
  refine lv_istore_n (lv' := [(2, .int 0), (0, .ref mo), (1, .int x)]) hx hb d_Md_keptAnswer_1 rfl hl (by decide) rfl (fun ls hl => ?_)
  have hl := lv_sub hl [0, 1, 2] (show _ = [(2, .int 0), (0, .ref mo), (1, .int x)] from rfl)
  have L1 : ∀ (Q : State → Prop) (ex0 : ∀ (i : Nat) (H : Heap) (locs : List Loc) (ls : Array Slot), va_P (dC, dI) vcl [(mo, .inr (12, mdG r cd tm (nI sn) (nI tx) (nI lz) (nI az) (nI na) (nI nt) (nI nr) mw ml mk dq)), (r 7, .inl ((cT 0), 1000, .inl f7)), (r 18, .inl ((cT 0), 41, .inl f18)), (r 19, .inl ((cT 0), 41, .inl f19)), (r 20, .inl ((cT 0), 41, .inl f20)), (r 23, .inl ((cT 0), 656, .inl f23))] H → va_D A [(mo, .inr (12, mdG r cd tm (nI sn) (nI tx) (nI lz) (nI az) (nI na) (nI nt) (nI nr) mw ml mk dq)), (r 7, .inl ((cT 0), 1000, .inl f7)), (r 18, .inl ((cT 0), 41, .inl f18)), (r 19, .inl ((cT 0), 41, .inl f19)), (r 20, .inl ((cT 0), 41, .inl f20)), (r 23, .inl ((cT 0), 656, .inl f23))] → va_S A s.heap H locs → lv_has ls 5 [(0, .ref mo)] → W p l e ({ frames := 0, cells := 0, slots := 0, locals := 0 } : Room) s m args below meth c H locs 0 0 Q (F0 m 119 ls [])) (ex1 : ∀ (i : Nat) (H : Heap) (locs : List Loc) (ls : Array Slot), (i < na) → va_P (dC, dI) vcl [(mo, .inr (12, mdG r cd tm (nI sn) (nI tx) (nI lz) (nI az) (nI na) (nI nt) (nI nr) mw ml mk dq)), (r 7, .inl ((cT 0), 1000, .inl f7)), (r 18, .inl ((cT 0), 41, .inl f18)), (r 19, .inl ((cT 0), 41, .inl f19)), (r 20, .inl ((cT 0), 41, .inl f20)), (r 23, .inl ((cT 0), 656, .inl f23))] H → va_D A [(mo, .inr (12, mdG r cd tm (nI sn) (nI tx) (nI lz) (nI az) (nI na) (nI nt) (nI nr) mw ml mk dq)), (r 7, .inl ((cT 0), 1000, .inl f7)), (r 18, .inl ((cT 0), 41, .inl f18)), (r 19, .inl ((cT 0), 41, .inl f19)), (r 20, .inl ((cT 0), 41, .inl f20)), (r 23, .inl ((cT 0), 656, .inl f23))] → va_S A s.heap H locs → lv_has ls 5 [(0, .ref mo)] → W p l e ({ frames := 0, cells := 0, slots := 0, locals := 0 } : Room) s m args below meth c H locs 0 0 Q (F0 m 112 ls [.int (nI i)])) (jj2 : Nat) (i : Nat) (H : Heap) (locs : List Loc) (ls : Array Slot), na - i ≤ jj2 → (i ≤ na) → va_P (dC, dI) vcl [(mo, .inr (12, mdG r cd tm (nI sn) (nI tx) (nI lz) (nI az) (nI na) (nI nt) (nI nr) mw ml mk dq)), (r 7, .inl ((cT 0), 1000, .inl f7)), (r 18, .inl ((cT 0), 41, .inl f18)), (r 19, .inl ((cT 0), 41, .inl f19)), (r 20, .inl ((cT 0), 41, .inl f20)), (r 23, .inl ((cT 0), 656, .inl f23))] H → va_D A [(mo, .inr (12, mdG r cd tm (nI sn) (nI tx) (nI lz) (nI az) (nI na) (nI nt) (nI nr) mw ml mk dq)), (r 7, .inl ((cT 0), 1000, .inl f7)), (r 18, .inl ((cT 0), 41, .inl f18)), (r 19, .inl ((cT 0), 41, .inl f19)), (r 20, .inl ((cT 0), 41, .inl f20)), (r 23, .inl ((cT 0), 656, .inl f23))] → va_S A s.heap H locs → lv_has ls 5 [(2, .int (nI i)), (0, .ref mo), (1, .int x)] → W p l e ({ frames := 0, cells := 0, slots := 0, locals := 0 } : Room) s m args below meth c H locs 0 0 Q (F0 m 2 ls []) := by
    intro Q ex0 ex1 jj2
    induction jj2 with
    | zero => 
      intro i H locs ls hm9 hi hP hD hS hl
      refine lv_iload_n hx hb d_Md_keptAnswer_2 rfl (lv_at hl 0 rfl) ?_
      refine lv_aload_n hx hb d_Md_keptAnswer_3 rfl (lv_at hl 1 rfl) ?_
      refine va_get (D := (dC, dI)) (ci := 12) (v := (.int (nI na))) (C := R_Md) (T := F_Md) (N := 45) hx hb hg in_Md hown hK hP 0 rfl rfl 17 (by decide) (hg _ k_1037) (fun _ h9 => h9) rfl d_Md_keptAnswer_4 ?_
      refine lv_icmp_ge (tgt := 119) hx hb d_Md_keptAnswer_7 (by decide) (fun hc3 => ?_) (fun hc3 => ?_)
      · skip
        have n4 : na ≤ i := (nI_leI (a := na) (b := i) (by omega) (by omega)).mp hc3
        have hl := lv_sub hl [1] (show _ = [(0, .ref mo)] from rfl)
        exact ex0 i _ _ _  hP hD hS hl
      · skip
        have n5 : i < na := Nat.not_le.mp (fun h7 => hc3 ((nI_leI (a := na) (b := i) (by omega) (by omega)).mpr h7))
        refine lv_aload_n hx hb d_Md_keptAnswer_10 rfl (lv_at hl 1 rfl) ?_
        refine va_get (D := (dC, dI)) (ci := 12) (v := (.ref (r 18))) (C := R_Md) (T := F_Md) (N := 45) hx hb hg in_Md hown hK hP 0 rfl rfl 18 (by decide) (hg _ k_1038) (fun _ h9 => h9) rfl d_Md_keptAnswer_11 ?_
        refine lv_iload_n hx hb d_Md_keptAnswer_14 rfl (lv_at hl 0 rfl) ?_
        refine va_iald hx hb hK hP 2 0 rfl rfl (i := (nI i)) (vp_in_nI (N := 41) (by omega) (by decide)) d_Md_keptAnswer_15 ?_
        refine lv_topi (fun x6 e_x6 => ?_)
        clear e_x6
        refine lv_iload_n hx hb d_Md_keptAnswer_16 rfl (lv_at hl 2 rfl) ?_
        refine lv_icmp_ne (tgt := 55) hx hb d_Md_keptAnswer_17 (by decide) (fun hc7 => ?_) (fun hc7 => ?_)
        · skip
          refine lv_iconst (v := 0) hx hb d_Md_keptAnswer_55 (by decide) ?_
          refine lv_istore_n (lv' := [(3, .int 0), (2, .int (nI i)), (0, .ref mo), (1, .int x)]) hx hb d_Md_keptAnswer_56 rfl hl (by decide) rfl (fun ls hl => ?_)
          refine lv_iconst (v := 0) hx hb d_Md_keptAnswer_57 (by decide) ?_
          refine lv_istore (lv' := [(4, .int 0), (3, .int 0), (2, .int (nI i)), (0, .ref mo), (1, .int x)]) hx hb d_Md_keptAnswer_58 hl (by decide) rfl (fun ls hl => ?_)
          have hl := lv_sub hl [0, 1, 2, 3, 4] (show _ = [(4, .int 0), (3, .int 0), (2, .int (nI i)), (0, .ref mo), (1, .int x)] from rfl)
          have L8 : ∀ (Q : State → Prop) (exit : ∀ (sm : Int32) (H : Heap) (locs : List Loc) (ls : Array Slot), (sm = 0 ∨ sm = 1) → va_P (dC, dI) vcl [(mo, .inr (12, mdG r cd tm (nI sn) (nI tx) (nI lz) (nI az) (nI na) (nI nt) (nI nr) mw ml mk dq)), (r 7, .inl ((cT 0), 1000, .inl f7)), (r 18, .inl ((cT 0), 41, .inl f18)), (r 19, .inl ((cT 0), 41, .inl f19)), (r 20, .inl ((cT 0), 41, .inl f20)), (r 23, .inl ((cT 0), 656, .inl f23))] H → va_D A [(mo, .inr (12, mdG r cd tm (nI sn) (nI tx) (nI lz) (nI az) (nI na) (nI nt) (nI nr) mw ml mk dq)), (r 7, .inl ((cT 0), 1000, .inl f7)), (r 18, .inl ((cT 0), 41, .inl f18)), (r 19, .inl ((cT 0), 41, .inl f19)), (r 20, .inl ((cT 0), 41, .inl f20)), (r 23, .inl ((cT 0), 656, .inl f23))] → va_S A s.heap H locs → lv_has ls 5 [(4, .int (nI 16)), (3, .int sm), (2, .int (nI i)), (0, .ref mo), (1, .int x)] → W p l e ({ frames := 0, cells := 0, slots := 0, locals := 0 } : Room) s m args below meth c H locs 0 0 Q (F0 m 107 ls [])) (j8 q9 : Nat) (sm : Int32) (H : Heap) (locs : List Loc) (ls : Array Slot), q9 + j8 = 16 → (sm = 0 ∨ sm = 1) → va_P (dC, dI) vcl [(mo, .inr (12, mdG r cd tm (nI sn) (nI tx) (nI lz) (nI az) (nI na) (nI nt) (nI nr) mw ml mk dq)), (r 7, .inl ((cT 0), 1000, .inl f7)), (r 18, .inl ((cT 0), 41, .inl f18)), (r 19, .inl ((cT 0), 41, .inl f19)), (r 20, .inl ((cT 0), 41, .inl f20)), (r 23, .inl ((cT 0), 656, .inl f23))] H → va_D A [(mo, .inr (12, mdG r cd tm (nI sn) (nI tx) (nI lz) (nI az) (nI na) (nI nt) (nI nr) mw ml mk dq)), (r 7, .inl ((cT 0), 1000, .inl f7)), (r 18, .inl ((cT 0), 41, .inl f18)), (r 19, .inl ((cT 0), 41, .inl f19)), (r 20, .inl ((cT 0), 41, .inl f20)), (r 23, .inl ((cT 0), 656, .inl f23))] → va_S A s.heap H locs → lv_has ls 5 [(4, .int (nI q9)), (3, .int sm), (2, .int (nI i)), (0, .ref mo), (1, .int x)] → W p l e ({ frames := 0, cells := 0, slots := 0, locals := 0 } : Room) s m args below meth c H locs 0 0 Q (F0 m 60 ls []) := by
            intro Q exit j8
            induction j8 with
            | zero => 
              intro q9 sm H locs ls hij hsm hP hD hS hl
              have hij : 16 = q9 := by omega
              refine lv_iload hx hb d_Md_keptAnswer_60 (lv_at hl 0 rfl) ?_
              refine lv_bipush (v := 16) hx hb d_Md_keptAnswer_62 (by decide) ?_
              refine lv_topi (fun x10 e9 => ?_)
              obtain rfl : x10 = nI 16 := by rw [e9]; rfl
              refine lv_icmp_ge (tgt := 107) hx hb d_Md_keptAnswer_64 (by decide) (fun hc11 => ?_) (fun hn9 => absurd (nI_le (by omega) (by omega)) hn9)
              subst hij
              exact exit sm _ _ _ hsm hP hD hS hl
            | succ j8 ih => 
              intro q9 sm H locs ls hij hsm hP hD hS hl
              have hlt : q9 < 16 := by omega
              have hltq9 := hlt
              refine lv_iload hx hb d_Md_keptAnswer_60 (lv_at hl 0 rfl) ?_
              refine lv_bipush (v := 16) hx hb d_Md_keptAnswer_62 (by decide) ?_
              refine lv_topi (fun x13 e12 => ?_)
              obtain rfl : x13 = nI 16 := by rw [e12]; rfl
              refine lv_icmp_ge (tgt := 107) hx hb d_Md_keptAnswer_64 (by decide) (fun hn9 => absurd hn9 (nI_ge (by omega) (by omega))) (fun hc14 => ?_)
              refine lv_iload_n hx hb d_Md_keptAnswer_67 rfl (lv_at hl 1 rfl) ?_
              refine lv_if_eq (tgt := 99) hx hb d_Md_keptAnswer_68 (by decide) (fun hc15 => ?_) (fun hc15 => ?_)
              · skip
                refine lv_iconst (v := 0) hx hb d_Md_keptAnswer_99 (by decide) ?_
                refine lv_istore_n (lv' := [(3, .int 0), (4, .int (nI q9)), (2, .int (nI i)), (0, .ref mo), (1, .int x)]) hx hb d_Md_keptAnswer_100 rfl hl (by decide) rfl (fun ls hl => ?_)
                refine lv_iinc (k := 1) (v := nI (q9 + 1)) (lv' := [(4, .int (nI (q9 + 1))), (3, .int 0), (2, .int (nI i)), (0, .ref mo), (1, .int x)]) hx hb d_Md_keptAnswer_101 hl rfl (nI_1 q9) (by decide) rfl (fun ls hl => ?_)
                refine lv_goto (tgt := 60) hx hb d_Md_keptAnswer_104 (by decide) ?_
                have hl := lv_sub hl [0, 1, 2, 3, 4] (show _ = [(4, .int (nI (q9 + 1))), (3, .int 0), (2, .int (nI i)), (0, .ref mo), (1, .int x)] from rfl)
                exact ih (q9 + 1) _ _ _ _ (by omega) (Or.inl rfl) hP hD hS hl
              · skip
                refine lv_aload_n hx hb d_Md_keptAnswer_71 rfl (lv_at hl 3 rfl) ?_
                refine va_get (D := (dC, dI)) (ci := 12) (v := (.ref (r 23))) (C := R_Md) (T := F_Md) (N := 45) hx hb hg in_Md hown hK hP 0 rfl rfl 23 (by decide) (hg _ k_1043) (fun _ h9 => h9) rfl d_Md_keptAnswer_72 ?_
                refine lv_bipush (v := 16) hx hb d_Md_keptAnswer_75 (by decide) ?_
                refine lv_iload_n hx hb d_Md_keptAnswer_77 rfl (lv_at hl 2 rfl) ?_
                refine lv_imul hx hb d_Md_keptAnswer_78 ?_
                refine lv_topi (fun x17 e16 => ?_)
                obtain rfl : x17 = nI (16 * i) := by rw [e16]; exact pk_mul 16 i
                refine lv_iload hx hb d_Md_keptAnswer_79 (lv_at hl 0 rfl) ?_
                refine lv_iadd hx hb d_Md_keptAnswer_81 ?_
                refine lv_topi (fun x19 e18 => ?_)
                obtain rfl : x19 = nI ((16 * i) + q9) := by rw [e18]; exact nI_add (16 * i) q9
                refine va_iald hx hb hK hP 5 0 rfl rfl (i := (nI ((16 * i) + q9))) (vp_in_nI (N := 656) (by omega) (by decide)) d_Md_keptAnswer_82 ?_
                refine lv_topi (fun x20 e_x20 => ?_)
                clear e_x20
                refine lv_aload_n hx hb d_Md_keptAnswer_83 rfl (lv_at hl 3 rfl) ?_
                refine va_get (D := (dC, dI)) (ci := 12) (v := (.ref (r 7))) (C := R_Md) (T := F_Md) (N := 45) hx hb hg in_Md hown hK hP 0 rfl rfl 7 (by decide) (hg _ k_1027) (fun _ h9 => h9) rfl d_Md_keptAnswer_84 ?_
                refine lv_iconst (v := 4) hx hb d_Md_keptAnswer_87 (by decide) ?_
                refine lv_iload hx hb d_Md_keptAnswer_88 (lv_at hl 0 rfl) ?_
                refine lv_iadd hx hb d_Md_keptAnswer_90 ?_
                refine lv_topi (fun x22 e21 => ?_)
                obtain rfl : x22 = nI (4 + q9) := by rw [e21]; exact nI_add 4 q9
                refine va_iald hx hb hK hP 1 0 rfl rfl (i := (nI (4 + q9))) (vp_in_nI (N := 1000) (by omega) (by decide)) d_Md_keptAnswer_91 ?_
                refine lv_topi (fun x23 e_x23 => ?_)
                clear e_x23
                refine lv_icmp_ne (tgt := 99) hx hb d_Md_keptAnswer_92 (by decide) (fun hc24 => ?_) (fun hc24 => ?_)
                · skip
                  refine lv_iconst (v := 0) hx hb d_Md_keptAnswer_99 (by decide) ?_
                  refine lv_istore_n (lv' := [(3, .int 0), (4, .int (nI q9)), (2, .int (nI i)), (0, .ref mo), (1, .int x)]) hx hb d_Md_keptAnswer_100 rfl hl (by decide) rfl (fun ls hl => ?_)
                  refine lv_iinc (k := 1) (v := nI (q9 + 1)) (lv' := [(4, .int (nI (q9 + 1))), (3, .int 0), (2, .int (nI i)), (0, .ref mo), (1, .int x)]) hx hb d_Md_keptAnswer_101 hl rfl (nI_1 q9) (by decide) rfl (fun ls hl => ?_)
                  refine lv_goto (tgt := 60) hx hb d_Md_keptAnswer_104 (by decide) ?_
                  have hl := lv_sub hl [0, 1, 2, 3, 4] (show _ = [(4, .int (nI (q9 + 1))), (3, .int 0), (2, .int (nI i)), (0, .ref mo), (1, .int x)] from rfl)
                  exact ih (q9 + 1) _ _ _ _ (by omega) (Or.inl rfl) hP hD hS hl
                · skip
                  refine lv_iconst (v := 1) hx hb d_Md_keptAnswer_95 (by decide) ?_
                  refine lv_goto (tgt := 100) hx hb d_Md_keptAnswer_96 (by decide) ?_
                  refine lv_istore_n (lv' := [(3, .int 1), (4, .int (nI q9)), (2, .int (nI i)), (0, .ref mo), (1, .int x)]) hx hb d_Md_keptAnswer_100 rfl hl (by decide) rfl (fun ls hl => ?_)
                  refine lv_iinc (k := 1) (v := nI (q9 + 1)) (lv' := [(4, .int (nI (q9 + 1))), (3, .int 1), (2, .int (nI i)), (0, .ref mo), (1, .int x)]) hx hb d_Md_keptAnswer_101 hl rfl (nI_1 q9) (by decide) rfl (fun ls hl => ?_)
                  refine lv_goto (tgt := 60) hx hb d_Md_keptAnswer_104 (by decide) ?_
                  have hl := lv_sub hl [0, 1, 2, 3, 4] (show _ = [(4, .int (nI (q9 + 1))), (3, .int 1), (2, .int (nI i)), (0, .ref mo), (1, .int x)] from rfl)
                  exact ih (q9 + 1) _ _ _ _ (by omega) (Or.inr rfl) hP hD hS hl
          refine L8 _ (fun sm H locs ls hsm hP hD hS hl => ?_) (16 - 0) 0 0 H _ ls (by omega) (Or.inl rfl) hP hD hS hl
          refine lv_iload_n hx hb d_Md_keptAnswer_107 rfl (lv_at hl 1 rfl) ?_
          refine lv_if_eq (tgt := 113) hx hb d_Md_keptAnswer_108 (by decide) (fun hc25 => ?_) (fun hc25 => ?_)
          · skip
            refine lv_iinc (k := 2) (v := nI (i + 1)) (lv' := [(2, .int (nI (i + 1))), (4, .int (nI 16)), (3, .int sm), (0, .ref mo), (1, .int x)]) hx hb d_Md_keptAnswer_113 hl rfl (nI_1 i) (by decide) rfl (fun ls hl => ?_)
            refine lv_goto (tgt := 2) hx hb d_Md_keptAnswer_116 (by decide) ?_
            have hl := lv_sub hl [0, 3, 4] (show _ = [(2, .int (nI (i + 1))), (0, .ref mo), (1, .int x)] from rfl)
            exfalso; omega
          · skip
            refine lv_iload_n hx hb d_Md_keptAnswer_111 rfl (lv_at hl 2 rfl) ?_
            have hl := lv_sub hl [3] (show _ = [(0, .ref mo)] from rfl)
            exact ex1 i _ _ _ (by omega) hP hD hS hl
        · skip
          refine lv_aload_n hx hb d_Md_keptAnswer_20 rfl (lv_at hl 1 rfl) ?_
          refine va_get (D := (dC, dI)) (ci := 12) (v := (.ref (r 19))) (C := R_Md) (T := F_Md) (N := 45) hx hb hg in_Md hown hK hP 0 rfl rfl 19 (by decide) (hg _ k_1039) (fun _ h9 => h9) rfl d_Md_keptAnswer_21 ?_
          refine lv_iload_n hx hb d_Md_keptAnswer_24 rfl (lv_at hl 0 rfl) ?_
          refine va_iald hx hb hK hP 3 0 rfl rfl (i := (nI i)) (vp_in_nI (N := 41) (by omega) (by decide)) d_Md_keptAnswer_25 ?_
          refine lv_topi (fun x26 e_x26 => ?_)
          clear e_x26
          refine lv_aload_n hx hb d_Md_keptAnswer_26 rfl (lv_at hl 1 rfl) ?_
          refine va_get (D := (dC, dI)) (ci := 12) (v := (.ref (r 7))) (C := R_Md) (T := F_Md) (N := 45) hx hb hg in_Md hown hK hP 0 rfl rfl 7 (by decide) (hg _ k_1027) (fun _ h9 => h9) rfl d_Md_keptAnswer_27 ?_
          refine lv_iconst (v := 1) hx hb d_Md_keptAnswer_30 (by decide) ?_
          refine lv_topi (fun x28 e27 => ?_)
          obtain rfl : x28 = nI 1 := by rw [e27]; rfl
          refine va_iald hx hb hK hP 1 0 rfl rfl (i := (nI 1)) (vp_in_nI (N := 1000) (by omega) (by decide)) d_Md_keptAnswer_31 ?_
          refine lv_topi (fun x29 e_x29 => ?_)
          clear e_x29
          refine lv_icmp_ne (tgt := 55) hx hb d_Md_keptAnswer_32 (by decide) (fun hc30 => ?_) (fun hc30 => ?_)
          · skip
            refine lv_iconst (v := 0) hx hb d_Md_keptAnswer_55 (by decide) ?_
            refine lv_istore_n (lv' := [(3, .int 0), (2, .int (nI i)), (0, .ref mo), (1, .int x)]) hx hb d_Md_keptAnswer_56 rfl hl (by decide) rfl (fun ls hl => ?_)
            refine lv_iconst (v := 0) hx hb d_Md_keptAnswer_57 (by decide) ?_
            refine lv_istore (lv' := [(4, .int 0), (3, .int 0), (2, .int (nI i)), (0, .ref mo), (1, .int x)]) hx hb d_Md_keptAnswer_58 hl (by decide) rfl (fun ls hl => ?_)
            have hl := lv_sub hl [0, 1, 2, 3, 4] (show _ = [(4, .int 0), (3, .int 0), (2, .int (nI i)), (0, .ref mo), (1, .int x)] from rfl)
            have L31 : ∀ (Q : State → Prop) (exit : ∀ (sm : Int32) (H : Heap) (locs : List Loc) (ls : Array Slot), (sm = 0 ∨ sm = 1) → va_P (dC, dI) vcl [(mo, .inr (12, mdG r cd tm (nI sn) (nI tx) (nI lz) (nI az) (nI na) (nI nt) (nI nr) mw ml mk dq)), (r 7, .inl ((cT 0), 1000, .inl f7)), (r 18, .inl ((cT 0), 41, .inl f18)), (r 19, .inl ((cT 0), 41, .inl f19)), (r 20, .inl ((cT 0), 41, .inl f20)), (r 23, .inl ((cT 0), 656, .inl f23))] H → va_D A [(mo, .inr (12, mdG r cd tm (nI sn) (nI tx) (nI lz) (nI az) (nI na) (nI nt) (nI nr) mw ml mk dq)), (r 7, .inl ((cT 0), 1000, .inl f7)), (r 18, .inl ((cT 0), 41, .inl f18)), (r 19, .inl ((cT 0), 41, .inl f19)), (r 20, .inl ((cT 0), 41, .inl f20)), (r 23, .inl ((cT 0), 656, .inl f23))] → va_S A s.heap H locs → lv_has ls 5 [(4, .int (nI 16)), (3, .int sm), (2, .int (nI i)), (0, .ref mo), (1, .int x)] → W p l e ({ frames := 0, cells := 0, slots := 0, locals := 0 } : Room) s m args below meth c H locs 0 0 Q (F0 m 107 ls [])) (j8 q9 : Nat) (sm : Int32) (H : Heap) (locs : List Loc) (ls : Array Slot), q9 + j8 = 16 → (sm = 0 ∨ sm = 1) → va_P (dC, dI) vcl [(mo, .inr (12, mdG r cd tm (nI sn) (nI tx) (nI lz) (nI az) (nI na) (nI nt) (nI nr) mw ml mk dq)), (r 7, .inl ((cT 0), 1000, .inl f7)), (r 18, .inl ((cT 0), 41, .inl f18)), (r 19, .inl ((cT 0), 41, .inl f19)), (r 20, .inl ((cT 0), 41, .inl f20)), (r 23, .inl ((cT 0), 656, .inl f23))] H → va_D A [(mo, .inr (12, mdG r cd tm (nI sn) (nI tx) (nI lz) (nI az) (nI na) (nI nt) (nI nr) mw ml mk dq)), (r 7, .inl ((cT 0), 1000, .inl f7)), (r 18, .inl ((cT 0), 41, .inl f18)), (r 19, .inl ((cT 0), 41, .inl f19)), (r 20, .inl ((cT 0), 41, .inl f20)), (r 23, .inl ((cT 0), 656, .inl f23))] → va_S A s.heap H locs → lv_has ls 5 [(4, .int (nI q9)), (3, .int sm), (2, .int (nI i)), (0, .ref mo), (1, .int x)] → W p l e ({ frames := 0, cells := 0, slots := 0, locals := 0 } : Room) s m args below meth c H locs 0 0 Q (F0 m 60 ls []) := by
              intro Q exit j8
              induction j8 with
              | zero => 
                intro q9 sm H locs ls hij hsm hP hD hS hl
                have hij : 16 = q9 := by omega
                refine lv_iload hx hb d_Md_keptAnswer_60 (lv_at hl 0 rfl) ?_
                refine lv_bipush (v := 16) hx hb d_Md_keptAnswer_62 (by decide) ?_
                refine lv_topi (fun x33 e32 => ?_)
                obtain rfl : x33 = nI 16 := by rw [e32]; rfl
                refine lv_icmp_ge (tgt := 107) hx hb d_Md_keptAnswer_64 (by decide) (fun hc34 => ?_) (fun hn9 => absurd (nI_le (by omega) (by omega)) hn9)
                subst hij
                exact exit sm _ _ _ hsm hP hD hS hl
              | succ j8 ih => 
                intro q9 sm H locs ls hij hsm hP hD hS hl
                have hlt : q9 < 16 := by omega
                have hltq9 := hlt
                refine lv_iload hx hb d_Md_keptAnswer_60 (lv_at hl 0 rfl) ?_
                refine lv_bipush (v := 16) hx hb d_Md_keptAnswer_62 (by decide) ?_
                refine lv_topi (fun x36 e35 => ?_)
                obtain rfl : x36 = nI 16 := by rw [e35]; rfl
                refine lv_icmp_ge (tgt := 107) hx hb d_Md_keptAnswer_64 (by decide) (fun hn9 => absurd hn9 (nI_ge (by omega) (by omega))) (fun hc37 => ?_)
                refine lv_iload_n hx hb d_Md_keptAnswer_67 rfl (lv_at hl 1 rfl) ?_
                refine lv_if_eq (tgt := 99) hx hb d_Md_keptAnswer_68 (by decide) (fun hc38 => ?_) (fun hc38 => ?_)
                · skip
                  refine lv_iconst (v := 0) hx hb d_Md_keptAnswer_99 (by decide) ?_
                  refine lv_istore_n (lv' := [(3, .int 0), (4, .int (nI q9)), (2, .int (nI i)), (0, .ref mo), (1, .int x)]) hx hb d_Md_keptAnswer_100 rfl hl (by decide) rfl (fun ls hl => ?_)
                  refine lv_iinc (k := 1) (v := nI (q9 + 1)) (lv' := [(4, .int (nI (q9 + 1))), (3, .int 0), (2, .int (nI i)), (0, .ref mo), (1, .int x)]) hx hb d_Md_keptAnswer_101 hl rfl (nI_1 q9) (by decide) rfl (fun ls hl => ?_)
                  refine lv_goto (tgt := 60) hx hb d_Md_keptAnswer_104 (by decide) ?_
                  have hl := lv_sub hl [0, 1, 2, 3, 4] (show _ = [(4, .int (nI (q9 + 1))), (3, .int 0), (2, .int (nI i)), (0, .ref mo), (1, .int x)] from rfl)
                  exact ih (q9 + 1) _ _ _ _ (by omega) (Or.inl rfl) hP hD hS hl
                · skip
                  refine lv_aload_n hx hb d_Md_keptAnswer_71 rfl (lv_at hl 3 rfl) ?_
                  refine va_get (D := (dC, dI)) (ci := 12) (v := (.ref (r 23))) (C := R_Md) (T := F_Md) (N := 45) hx hb hg in_Md hown hK hP 0 rfl rfl 23 (by decide) (hg _ k_1043) (fun _ h9 => h9) rfl d_Md_keptAnswer_72 ?_
                  refine lv_bipush (v := 16) hx hb d_Md_keptAnswer_75 (by decide) ?_
                  refine lv_iload_n hx hb d_Md_keptAnswer_77 rfl (lv_at hl 2 rfl) ?_
                  refine lv_imul hx hb d_Md_keptAnswer_78 ?_
                  refine lv_topi (fun x40 e39 => ?_)
                  obtain rfl : x40 = nI (16 * i) := by rw [e39]; exact pk_mul 16 i
                  refine lv_iload hx hb d_Md_keptAnswer_79 (lv_at hl 0 rfl) ?_
                  refine lv_iadd hx hb d_Md_keptAnswer_81 ?_
                  refine lv_topi (fun x42 e41 => ?_)
                  obtain rfl : x42 = nI ((16 * i) + q9) := by rw [e41]; exact nI_add (16 * i) q9
                  refine va_iald hx hb hK hP 5 0 rfl rfl (i := (nI ((16 * i) + q9))) (vp_in_nI (N := 656) (by omega) (by decide)) d_Md_keptAnswer_82 ?_
                  refine lv_topi (fun x43 e_x43 => ?_)
                  clear e_x43
                  refine lv_aload_n hx hb d_Md_keptAnswer_83 rfl (lv_at hl 3 rfl) ?_
                  refine va_get (D := (dC, dI)) (ci := 12) (v := (.ref (r 7))) (C := R_Md) (T := F_Md) (N := 45) hx hb hg in_Md hown hK hP 0 rfl rfl 7 (by decide) (hg _ k_1027) (fun _ h9 => h9) rfl d_Md_keptAnswer_84 ?_
                  refine lv_iconst (v := 4) hx hb d_Md_keptAnswer_87 (by decide) ?_
                  refine lv_iload hx hb d_Md_keptAnswer_88 (lv_at hl 0 rfl) ?_
                  refine lv_iadd hx hb d_Md_keptAnswer_90 ?_
                  refine lv_topi (fun x45 e44 => ?_)
                  obtain rfl : x45 = nI (4 + q9) := by rw [e44]; exact nI_add 4 q9
                  refine va_iald hx hb hK hP 1 0 rfl rfl (i := (nI (4 + q9))) (vp_in_nI (N := 1000) (by omega) (by decide)) d_Md_keptAnswer_91 ?_
                  refine lv_topi (fun x46 e_x46 => ?_)
                  clear e_x46
                  refine lv_icmp_ne (tgt := 99) hx hb d_Md_keptAnswer_92 (by decide) (fun hc47 => ?_) (fun hc47 => ?_)
                  · skip
                    refine lv_iconst (v := 0) hx hb d_Md_keptAnswer_99 (by decide) ?_
                    refine lv_istore_n (lv' := [(3, .int 0), (4, .int (nI q9)), (2, .int (nI i)), (0, .ref mo), (1, .int x)]) hx hb d_Md_keptAnswer_100 rfl hl (by decide) rfl (fun ls hl => ?_)
                    refine lv_iinc (k := 1) (v := nI (q9 + 1)) (lv' := [(4, .int (nI (q9 + 1))), (3, .int 0), (2, .int (nI i)), (0, .ref mo), (1, .int x)]) hx hb d_Md_keptAnswer_101 hl rfl (nI_1 q9) (by decide) rfl (fun ls hl => ?_)
                    refine lv_goto (tgt := 60) hx hb d_Md_keptAnswer_104 (by decide) ?_
                    have hl := lv_sub hl [0, 1, 2, 3, 4] (show _ = [(4, .int (nI (q9 + 1))), (3, .int 0), (2, .int (nI i)), (0, .ref mo), (1, .int x)] from rfl)
                    exact ih (q9 + 1) _ _ _ _ (by omega) (Or.inl rfl) hP hD hS hl
                  · skip
                    refine lv_iconst (v := 1) hx hb d_Md_keptAnswer_95 (by decide) ?_
                    refine lv_goto (tgt := 100) hx hb d_Md_keptAnswer_96 (by decide) ?_
                    refine lv_istore_n (lv' := [(3, .int 1), (4, .int (nI q9)), (2, .int (nI i)), (0, .ref mo), (1, .int x)]) hx hb d_Md_keptAnswer_100 rfl hl (by decide) rfl (fun ls hl => ?_)
                    refine lv_iinc (k := 1) (v := nI (q9 + 1)) (lv' := [(4, .int (nI (q9 + 1))), (3, .int 1), (2, .int (nI i)), (0, .ref mo), (1, .int x)]) hx hb d_Md_keptAnswer_101 hl rfl (nI_1 q9) (by decide) rfl (fun ls hl => ?_)
                    refine lv_goto (tgt := 60) hx hb d_Md_keptAnswer_104 (by decide) ?_
                    have hl := lv_sub hl [0, 1, 2, 3, 4] (show _ = [(4, .int (nI (q9 + 1))), (3, .int 1), (2, .int (nI i)), (0, .ref mo), (1, .int x)] from rfl)
                    exact ih (q9 + 1) _ _ _ _ (by omega) (Or.inr rfl) hP hD hS hl
            refine L31 _ (fun sm H locs ls hsm hP hD hS hl => ?_) (16 - 0) 0 0 H _ ls (by omega) (Or.inl rfl) hP hD hS hl
            refine lv_iload_n hx hb d_Md_keptAnswer_107 rfl (lv_at hl 1 rfl) ?_
            refine lv_if_eq (tgt := 113) hx hb d_Md_keptAnswer_108 (by decide) (fun hc48 => ?_) (fun hc48 => ?_)
            · skip
              refine lv_iinc (k := 2) (v := nI (i + 1)) (lv' := [(2, .int (nI (i + 1))), (4, .int (nI 16)), (3, .int sm), (0, .ref mo), (1, .int x)]) hx hb d_Md_keptAnswer_113 hl rfl (nI_1 i) (by decide) rfl (fun ls hl => ?_)
              refine lv_goto (tgt := 2) hx hb d_Md_keptAnswer_116 (by decide) ?_
              have hl := lv_sub hl [0, 3, 4] (show _ = [(2, .int (nI (i + 1))), (0, .ref mo), (1, .int x)] from rfl)
              exfalso; omega
            · skip
              refine lv_iload_n hx hb d_Md_keptAnswer_111 rfl (lv_at hl 2 rfl) ?_
              have hl := lv_sub hl [3] (show _ = [(0, .ref mo)] from rfl)
              exact ex1 i _ _ _ (by omega) hP hD hS hl
          · skip
            refine lv_aload_n hx hb d_Md_keptAnswer_35 rfl (lv_at hl 1 rfl) ?_
            refine va_get (D := (dC, dI)) (ci := 12) (v := (.int tm)) (C := R_Md) (T := F_Md) (N := 45) hx hb hg in_Md hown hK hP 0 rfl rfl 2 (by decide) (hg _ k_1022) (fun _ h9 => h9) rfl d_Md_keptAnswer_36 ?_
            refine lv_aload_n hx hb d_Md_keptAnswer_39 rfl (lv_at hl 1 rfl) ?_
            refine va_get (D := (dC, dI)) (ci := 12) (v := (.ref (r 20))) (C := R_Md) (T := F_Md) (N := 45) hx hb hg in_Md hown hK hP 0 rfl rfl 20 (by decide) (hg _ k_1040) (fun _ h9 => h9) rfl d_Md_keptAnswer_40 ?_
            refine lv_iload_n hx hb d_Md_keptAnswer_43 rfl (lv_at hl 0 rfl) ?_
            refine va_iald hx hb hK hP 4 0 rfl rfl (i := (nI i)) (vp_in_nI (N := 41) (by omega) (by decide)) d_Md_keptAnswer_44 ?_
            refine lv_topi (fun x49 e_x49 => ?_)
            clear e_x49
            refine lv_isub hx hb d_Md_keptAnswer_45 ?_
            refine lv_bipush (v := 30) hx hb d_Md_keptAnswer_46 (by decide) ?_
            refine lv_icmp_gt (tgt := 55) hx hb d_Md_keptAnswer_48 (by decide) (fun hc50 => ?_) (fun hc50 => ?_)
            · skip
              refine lv_iconst (v := 0) hx hb d_Md_keptAnswer_55 (by decide) ?_
              refine lv_istore_n (lv' := [(3, .int 0), (2, .int (nI i)), (0, .ref mo), (1, .int x)]) hx hb d_Md_keptAnswer_56 rfl hl (by decide) rfl (fun ls hl => ?_)
              refine lv_iconst (v := 0) hx hb d_Md_keptAnswer_57 (by decide) ?_
              refine lv_istore (lv' := [(4, .int 0), (3, .int 0), (2, .int (nI i)), (0, .ref mo), (1, .int x)]) hx hb d_Md_keptAnswer_58 hl (by decide) rfl (fun ls hl => ?_)
              have hl := lv_sub hl [0, 1, 2, 3, 4] (show _ = [(4, .int 0), (3, .int 0), (2, .int (nI i)), (0, .ref mo), (1, .int x)] from rfl)
              have L51 : ∀ (Q : State → Prop) (exit : ∀ (sm : Int32) (H : Heap) (locs : List Loc) (ls : Array Slot), (sm = 0 ∨ sm = 1) → va_P (dC, dI) vcl [(mo, .inr (12, mdG r cd tm (nI sn) (nI tx) (nI lz) (nI az) (nI na) (nI nt) (nI nr) mw ml mk dq)), (r 7, .inl ((cT 0), 1000, .inl f7)), (r 18, .inl ((cT 0), 41, .inl f18)), (r 19, .inl ((cT 0), 41, .inl f19)), (r 20, .inl ((cT 0), 41, .inl f20)), (r 23, .inl ((cT 0), 656, .inl f23))] H → va_D A [(mo, .inr (12, mdG r cd tm (nI sn) (nI tx) (nI lz) (nI az) (nI na) (nI nt) (nI nr) mw ml mk dq)), (r 7, .inl ((cT 0), 1000, .inl f7)), (r 18, .inl ((cT 0), 41, .inl f18)), (r 19, .inl ((cT 0), 41, .inl f19)), (r 20, .inl ((cT 0), 41, .inl f20)), (r 23, .inl ((cT 0), 656, .inl f23))] → va_S A s.heap H locs → lv_has ls 5 [(4, .int (nI 16)), (3, .int sm), (2, .int (nI i)), (0, .ref mo), (1, .int x)] → W p l e ({ frames := 0, cells := 0, slots := 0, locals := 0 } : Room) s m args below meth c H locs 0 0 Q (F0 m 107 ls [])) (j8 q9 : Nat) (sm : Int32) (H : Heap) (locs : List Loc) (ls : Array Slot), q9 + j8 = 16 → (sm = 0 ∨ sm = 1) → va_P (dC, dI) vcl [(mo, .inr (12, mdG r cd tm (nI sn) (nI tx) (nI lz) (nI az) (nI na) (nI nt) (nI nr) mw ml mk dq)), (r 7, .inl ((cT 0), 1000, .inl f7)), (r 18, .inl ((cT 0), 41, .inl f18)), (r 19, .inl ((cT 0), 41, .inl f19)), (r 20, .inl ((cT 0), 41, .inl f20)), (r 23, .inl ((cT 0), 656, .inl f23))] H → va_D A [(mo, .inr (12, mdG r cd tm (nI sn) (nI tx) (nI lz) (nI az) (nI na) (nI nt) (nI nr) mw ml mk dq)), (r 7, .inl ((cT 0), 1000, .inl f7)), (r 18, .inl ((cT 0), 41, .inl f18)), (r 19, .inl ((cT 0), 41, .inl f19)), (r 20, .inl ((cT 0), 41, .inl f20)), (r 23, .inl ((cT 0), 656, .inl f23))] → va_S A s.heap H locs → lv_has ls 5 [(4, .int (nI q9)), (3, .int sm), (2, .int (nI i)), (0, .ref mo), (1, .int x)] → W p l e ({ frames := 0, cells := 0, slots := 0, locals := 0 } : Room) s m args below meth c H locs 0 0 Q (F0 m 60 ls []) := by
                intro Q exit j8
                induction j8 with
                | zero => 
                  intro q9 sm H locs ls hij hsm hP hD hS hl
                  have hij : 16 = q9 := by omega
                  refine lv_iload hx hb d_Md_keptAnswer_60 (lv_at hl 0 rfl) ?_
                  refine lv_bipush (v := 16) hx hb d_Md_keptAnswer_62 (by decide) ?_
                  refine lv_topi (fun x53 e52 => ?_)
                  obtain rfl : x53 = nI 16 := by rw [e52]; rfl
                  refine lv_icmp_ge (tgt := 107) hx hb d_Md_keptAnswer_64 (by decide) (fun hc54 => ?_) (fun hn9 => absurd (nI_le (by omega) (by omega)) hn9)
                  subst hij
                  exact exit sm _ _ _ hsm hP hD hS hl
                | succ j8 ih => 
                  intro q9 sm H locs ls hij hsm hP hD hS hl
                  have hlt : q9 < 16 := by omega
                  have hltq9 := hlt
                  refine lv_iload hx hb d_Md_keptAnswer_60 (lv_at hl 0 rfl) ?_
                  refine lv_bipush (v := 16) hx hb d_Md_keptAnswer_62 (by decide) ?_
                  refine lv_topi (fun x56 e55 => ?_)
                  obtain rfl : x56 = nI 16 := by rw [e55]; rfl
                  refine lv_icmp_ge (tgt := 107) hx hb d_Md_keptAnswer_64 (by decide) (fun hn9 => absurd hn9 (nI_ge (by omega) (by omega))) (fun hc57 => ?_)
                  refine lv_iload_n hx hb d_Md_keptAnswer_67 rfl (lv_at hl 1 rfl) ?_
                  refine lv_if_eq (tgt := 99) hx hb d_Md_keptAnswer_68 (by decide) (fun hc58 => ?_) (fun hc58 => ?_)
                  · skip
                    refine lv_iconst (v := 0) hx hb d_Md_keptAnswer_99 (by decide) ?_
                    refine lv_istore_n (lv' := [(3, .int 0), (4, .int (nI q9)), (2, .int (nI i)), (0, .ref mo), (1, .int x)]) hx hb d_Md_keptAnswer_100 rfl hl (by decide) rfl (fun ls hl => ?_)
                    refine lv_iinc (k := 1) (v := nI (q9 + 1)) (lv' := [(4, .int (nI (q9 + 1))), (3, .int 0), (2, .int (nI i)), (0, .ref mo), (1, .int x)]) hx hb d_Md_keptAnswer_101 hl rfl (nI_1 q9) (by decide) rfl (fun ls hl => ?_)
                    refine lv_goto (tgt := 60) hx hb d_Md_keptAnswer_104 (by decide) ?_
                    have hl := lv_sub hl [0, 1, 2, 3, 4] (show _ = [(4, .int (nI (q9 + 1))), (3, .int 0), (2, .int (nI i)), (0, .ref mo), (1, .int x)] from rfl)
                    exact ih (q9 + 1) _ _ _ _ (by omega) (Or.inl rfl) hP hD hS hl
                  · skip
                    refine lv_aload_n hx hb d_Md_keptAnswer_71 rfl (lv_at hl 3 rfl) ?_
                    refine va_get (D := (dC, dI)) (ci := 12) (v := (.ref (r 23))) (C := R_Md) (T := F_Md) (N := 45) hx hb hg in_Md hown hK hP 0 rfl rfl 23 (by decide) (hg _ k_1043) (fun _ h9 => h9) rfl d_Md_keptAnswer_72 ?_
                    refine lv_bipush (v := 16) hx hb d_Md_keptAnswer_75 (by decide) ?_
                    refine lv_iload_n hx hb d_Md_keptAnswer_77 rfl (lv_at hl 2 rfl) ?_
                    refine lv_imul hx hb d_Md_keptAnswer_78 ?_
                    refine lv_topi (fun x60 e59 => ?_)
                    obtain rfl : x60 = nI (16 * i) := by rw [e59]; exact pk_mul 16 i
                    refine lv_iload hx hb d_Md_keptAnswer_79 (lv_at hl 0 rfl) ?_
                    refine lv_iadd hx hb d_Md_keptAnswer_81 ?_
                    refine lv_topi (fun x62 e61 => ?_)
                    obtain rfl : x62 = nI ((16 * i) + q9) := by rw [e61]; exact nI_add (16 * i) q9
                    refine va_iald hx hb hK hP 5 0 rfl rfl (i := (nI ((16 * i) + q9))) (vp_in_nI (N := 656) (by omega) (by decide)) d_Md_keptAnswer_82 ?_
                    refine lv_topi (fun x63 e_x63 => ?_)
                    clear e_x63
                    refine lv_aload_n hx hb d_Md_keptAnswer_83 rfl (lv_at hl 3 rfl) ?_
                    refine va_get (D := (dC, dI)) (ci := 12) (v := (.ref (r 7))) (C := R_Md) (T := F_Md) (N := 45) hx hb hg in_Md hown hK hP 0 rfl rfl 7 (by decide) (hg _ k_1027) (fun _ h9 => h9) rfl d_Md_keptAnswer_84 ?_
                    refine lv_iconst (v := 4) hx hb d_Md_keptAnswer_87 (by decide) ?_
                    refine lv_iload hx hb d_Md_keptAnswer_88 (lv_at hl 0 rfl) ?_
                    refine lv_iadd hx hb d_Md_keptAnswer_90 ?_
                    refine lv_topi (fun x65 e64 => ?_)
                    obtain rfl : x65 = nI (4 + q9) := by rw [e64]; exact nI_add 4 q9
                    refine va_iald hx hb hK hP 1 0 rfl rfl (i := (nI (4 + q9))) (vp_in_nI (N := 1000) (by omega) (by decide)) d_Md_keptAnswer_91 ?_
                    refine lv_topi (fun x66 e_x66 => ?_)
                    clear e_x66
                    refine lv_icmp_ne (tgt := 99) hx hb d_Md_keptAnswer_92 (by decide) (fun hc67 => ?_) (fun hc67 => ?_)
                    · skip
                      refine lv_iconst (v := 0) hx hb d_Md_keptAnswer_99 (by decide) ?_
                      refine lv_istore_n (lv' := [(3, .int 0), (4, .int (nI q9)), (2, .int (nI i)), (0, .ref mo), (1, .int x)]) hx hb d_Md_keptAnswer_100 rfl hl (by decide) rfl (fun ls hl => ?_)
                      refine lv_iinc (k := 1) (v := nI (q9 + 1)) (lv' := [(4, .int (nI (q9 + 1))), (3, .int 0), (2, .int (nI i)), (0, .ref mo), (1, .int x)]) hx hb d_Md_keptAnswer_101 hl rfl (nI_1 q9) (by decide) rfl (fun ls hl => ?_)
                      refine lv_goto (tgt := 60) hx hb d_Md_keptAnswer_104 (by decide) ?_
                      have hl := lv_sub hl [0, 1, 2, 3, 4] (show _ = [(4, .int (nI (q9 + 1))), (3, .int 0), (2, .int (nI i)), (0, .ref mo), (1, .int x)] from rfl)
                      exact ih (q9 + 1) _ _ _ _ (by omega) (Or.inl rfl) hP hD hS hl
                    · skip
                      refine lv_iconst (v := 1) hx hb d_Md_keptAnswer_95 (by decide) ?_
                      refine lv_goto (tgt := 100) hx hb d_Md_keptAnswer_96 (by decide) ?_
                      refine lv_istore_n (lv' := [(3, .int 1), (4, .int (nI q9)), (2, .int (nI i)), (0, .ref mo), (1, .int x)]) hx hb d_Md_keptAnswer_100 rfl hl (by decide) rfl (fun ls hl => ?_)
                      refine lv_iinc (k := 1) (v := nI (q9 + 1)) (lv' := [(4, .int (nI (q9 + 1))), (3, .int 1), (2, .int (nI i)), (0, .ref mo), (1, .int x)]) hx hb d_Md_keptAnswer_101 hl rfl (nI_1 q9) (by decide) rfl (fun ls hl => ?_)
                      refine lv_goto (tgt := 60) hx hb d_Md_keptAnswer_104 (by decide) ?_
                      have hl := lv_sub hl [0, 1, 2, 3, 4] (show _ = [(4, .int (nI (q9 + 1))), (3, .int 1), (2, .int (nI i)), (0, .ref mo), (1, .int x)] from rfl)
                      exact ih (q9 + 1) _ _ _ _ (by omega) (Or.inr rfl) hP hD hS hl
              refine L51 _ (fun sm H locs ls hsm hP hD hS hl => ?_) (16 - 0) 0 0 H _ ls (by omega) (Or.inl rfl) hP hD hS hl
              refine lv_iload_n hx hb d_Md_keptAnswer_107 rfl (lv_at hl 1 rfl) ?_
              refine lv_if_eq (tgt := 113) hx hb d_Md_keptAnswer_108 (by decide) (fun hc68 => ?_) (fun hc68 => ?_)
              · skip
                refine lv_iinc (k := 2) (v := nI (i + 1)) (lv' := [(2, .int (nI (i + 1))), (4, .int (nI 16)), (3, .int sm), (0, .ref mo), (1, .int x)]) hx hb d_Md_keptAnswer_113 hl rfl (nI_1 i) (by decide) rfl (fun ls hl => ?_)
                refine lv_goto (tgt := 2) hx hb d_Md_keptAnswer_116 (by decide) ?_
                have hl := lv_sub hl [0, 3, 4] (show _ = [(2, .int (nI (i + 1))), (0, .ref mo), (1, .int x)] from rfl)
                exfalso; omega
              · skip
                refine lv_iload_n hx hb d_Md_keptAnswer_111 rfl (lv_at hl 2 rfl) ?_
                have hl := lv_sub hl [3] (show _ = [(0, .ref mo)] from rfl)
                exact ex1 i _ _ _ (by omega) hP hD hS hl
            · skip
              refine lv_iconst (v := 1) hx hb d_Md_keptAnswer_51 (by decide) ?_
              refine lv_goto (tgt := 56) hx hb d_Md_keptAnswer_52 (by decide) ?_
              refine lv_istore_n (lv' := [(3, .int 1), (2, .int (nI i)), (0, .ref mo), (1, .int x)]) hx hb d_Md_keptAnswer_56 rfl hl (by decide) rfl (fun ls hl => ?_)
              refine lv_iconst (v := 0) hx hb d_Md_keptAnswer_57 (by decide) ?_
              refine lv_istore (lv' := [(4, .int 0), (3, .int 1), (2, .int (nI i)), (0, .ref mo), (1, .int x)]) hx hb d_Md_keptAnswer_58 hl (by decide) rfl (fun ls hl => ?_)
              have hl := lv_sub hl [0, 1, 2, 3, 4] (show _ = [(4, .int 0), (3, .int 1), (2, .int (nI i)), (0, .ref mo), (1, .int x)] from rfl)
              have L69 : ∀ (Q : State → Prop) (exit : ∀ (sm : Int32) (H : Heap) (locs : List Loc) (ls : Array Slot), (sm = 0 ∨ sm = 1) → va_P (dC, dI) vcl [(mo, .inr (12, mdG r cd tm (nI sn) (nI tx) (nI lz) (nI az) (nI na) (nI nt) (nI nr) mw ml mk dq)), (r 7, .inl ((cT 0), 1000, .inl f7)), (r 18, .inl ((cT 0), 41, .inl f18)), (r 19, .inl ((cT 0), 41, .inl f19)), (r 20, .inl ((cT 0), 41, .inl f20)), (r 23, .inl ((cT 0), 656, .inl f23))] H → va_D A [(mo, .inr (12, mdG r cd tm (nI sn) (nI tx) (nI lz) (nI az) (nI na) (nI nt) (nI nr) mw ml mk dq)), (r 7, .inl ((cT 0), 1000, .inl f7)), (r 18, .inl ((cT 0), 41, .inl f18)), (r 19, .inl ((cT 0), 41, .inl f19)), (r 20, .inl ((cT 0), 41, .inl f20)), (r 23, .inl ((cT 0), 656, .inl f23))] → va_S A s.heap H locs → lv_has ls 5 [(4, .int (nI 16)), (3, .int sm), (2, .int (nI i)), (0, .ref mo), (1, .int x)] → W p l e ({ frames := 0, cells := 0, slots := 0, locals := 0 } : Room) s m args below meth c H locs 0 0 Q (F0 m 107 ls [])) (j8 q9 : Nat) (sm : Int32) (H : Heap) (locs : List Loc) (ls : Array Slot), q9 + j8 = 16 → (sm = 0 ∨ sm = 1) → va_P (dC, dI) vcl [(mo, .inr (12, mdG r cd tm (nI sn) (nI tx) (nI lz) (nI az) (nI na) (nI nt) (nI nr) mw ml mk dq)), (r 7, .inl ((cT 0), 1000, .inl f7)), (r 18, .inl ((cT 0), 41, .inl f18)), (r 19, .inl ((cT 0), 41, .inl f19)), (r 20, .inl ((cT 0), 41, .inl f20)), (r 23, .inl ((cT 0), 656, .inl f23))] H → va_D A [(mo, .inr (12, mdG r cd tm (nI sn) (nI tx) (nI lz) (nI az) (nI na) (nI nt) (nI nr) mw ml mk dq)), (r 7, .inl ((cT 0), 1000, .inl f7)), (r 18, .inl ((cT 0), 41, .inl f18)), (r 19, .inl ((cT 0), 41, .inl f19)), (r 20, .inl ((cT 0), 41, .inl f20)), (r 23, .inl ((cT 0), 656, .inl f23))] → va_S A s.heap H locs → lv_has ls 5 [(4, .int (nI q9)), (3, .int sm), (2, .int (nI i)), (0, .ref mo), (1, .int x)] → W p l e ({ frames := 0, cells := 0, slots := 0, locals := 0 } : Room) s m args below meth c H locs 0 0 Q (F0 m 60 ls []) := by
                intro Q exit j8
                induction j8 with
                | zero => 
                  intro q9 sm H locs ls hij hsm hP hD hS hl
                  have hij : 16 = q9 := by omega
                  refine lv_iload hx hb d_Md_keptAnswer_60 (lv_at hl 0 rfl) ?_
                  refine lv_bipush (v := 16) hx hb d_Md_keptAnswer_62 (by decide) ?_
                  refine lv_topi (fun x71 e70 => ?_)
                  obtain rfl : x71 = nI 16 := by rw [e70]; rfl
                  refine lv_icmp_ge (tgt := 107) hx hb d_Md_keptAnswer_64 (by decide) (fun hc72 => ?_) (fun hn9 => absurd (nI_le (by omega) (by omega)) hn9)
                  subst hij
                  exact exit sm _ _ _ hsm hP hD hS hl
                | succ j8 ih => 
                  intro q9 sm H locs ls hij hsm hP hD hS hl
                  have hlt : q9 < 16 := by omega
                  have hltq9 := hlt
                  refine lv_iload hx hb d_Md_keptAnswer_60 (lv_at hl 0 rfl) ?_
                  refine lv_bipush (v := 16) hx hb d_Md_keptAnswer_62 (by decide) ?_
                  refine lv_topi (fun x74 e73 => ?_)
                  obtain rfl : x74 = nI 16 := by rw [e73]; rfl
                  refine lv_icmp_ge (tgt := 107) hx hb d_Md_keptAnswer_64 (by decide) (fun hn9 => absurd hn9 (nI_ge (by omega) (by omega))) (fun hc75 => ?_)
                  refine lv_iload_n hx hb d_Md_keptAnswer_67 rfl (lv_at hl 1 rfl) ?_
                  refine lv_if_eq (tgt := 99) hx hb d_Md_keptAnswer_68 (by decide) (fun hc76 => ?_) (fun hc76 => ?_)
                  · skip
                    refine lv_iconst (v := 0) hx hb d_Md_keptAnswer_99 (by decide) ?_
                    refine lv_istore_n (lv' := [(3, .int 0), (4, .int (nI q9)), (2, .int (nI i)), (0, .ref mo), (1, .int x)]) hx hb d_Md_keptAnswer_100 rfl hl (by decide) rfl (fun ls hl => ?_)
                    refine lv_iinc (k := 1) (v := nI (q9 + 1)) (lv' := [(4, .int (nI (q9 + 1))), (3, .int 0), (2, .int (nI i)), (0, .ref mo), (1, .int x)]) hx hb d_Md_keptAnswer_101 hl rfl (nI_1 q9) (by decide) rfl (fun ls hl => ?_)
                    refine lv_goto (tgt := 60) hx hb d_Md_keptAnswer_104 (by decide) ?_
                    have hl := lv_sub hl [0, 1, 2, 3, 4] (show _ = [(4, .int (nI (q9 + 1))), (3, .int 0), (2, .int (nI i)), (0, .ref mo), (1, .int x)] from rfl)
                    exact ih (q9 + 1) _ _ _ _ (by omega) (Or.inl rfl) hP hD hS hl
                  · skip
                    refine lv_aload_n hx hb d_Md_keptAnswer_71 rfl (lv_at hl 3 rfl) ?_
                    refine va_get (D := (dC, dI)) (ci := 12) (v := (.ref (r 23))) (C := R_Md) (T := F_Md) (N := 45) hx hb hg in_Md hown hK hP 0 rfl rfl 23 (by decide) (hg _ k_1043) (fun _ h9 => h9) rfl d_Md_keptAnswer_72 ?_
                    refine lv_bipush (v := 16) hx hb d_Md_keptAnswer_75 (by decide) ?_
                    refine lv_iload_n hx hb d_Md_keptAnswer_77 rfl (lv_at hl 2 rfl) ?_
                    refine lv_imul hx hb d_Md_keptAnswer_78 ?_
                    refine lv_topi (fun x78 e77 => ?_)
                    obtain rfl : x78 = nI (16 * i) := by rw [e77]; exact pk_mul 16 i
                    refine lv_iload hx hb d_Md_keptAnswer_79 (lv_at hl 0 rfl) ?_
                    refine lv_iadd hx hb d_Md_keptAnswer_81 ?_
                    refine lv_topi (fun x80 e79 => ?_)
                    obtain rfl : x80 = nI ((16 * i) + q9) := by rw [e79]; exact nI_add (16 * i) q9
                    refine va_iald hx hb hK hP 5 0 rfl rfl (i := (nI ((16 * i) + q9))) (vp_in_nI (N := 656) (by omega) (by decide)) d_Md_keptAnswer_82 ?_
                    refine lv_topi (fun x81 e_x81 => ?_)
                    clear e_x81
                    refine lv_aload_n hx hb d_Md_keptAnswer_83 rfl (lv_at hl 3 rfl) ?_
                    refine va_get (D := (dC, dI)) (ci := 12) (v := (.ref (r 7))) (C := R_Md) (T := F_Md) (N := 45) hx hb hg in_Md hown hK hP 0 rfl rfl 7 (by decide) (hg _ k_1027) (fun _ h9 => h9) rfl d_Md_keptAnswer_84 ?_
                    refine lv_iconst (v := 4) hx hb d_Md_keptAnswer_87 (by decide) ?_
                    refine lv_iload hx hb d_Md_keptAnswer_88 (lv_at hl 0 rfl) ?_
                    refine lv_iadd hx hb d_Md_keptAnswer_90 ?_
                    refine lv_topi (fun x83 e82 => ?_)
                    obtain rfl : x83 = nI (4 + q9) := by rw [e82]; exact nI_add 4 q9
                    refine va_iald hx hb hK hP 1 0 rfl rfl (i := (nI (4 + q9))) (vp_in_nI (N := 1000) (by omega) (by decide)) d_Md_keptAnswer_91 ?_
                    refine lv_topi (fun x84 e_x84 => ?_)
                    clear e_x84
                    refine lv_icmp_ne (tgt := 99) hx hb d_Md_keptAnswer_92 (by decide) (fun hc85 => ?_) (fun hc85 => ?_)
                    · skip
                      refine lv_iconst (v := 0) hx hb d_Md_keptAnswer_99 (by decide) ?_
                      refine lv_istore_n (lv' := [(3, .int 0), (4, .int (nI q9)), (2, .int (nI i)), (0, .ref mo), (1, .int x)]) hx hb d_Md_keptAnswer_100 rfl hl (by decide) rfl (fun ls hl => ?_)
                      refine lv_iinc (k := 1) (v := nI (q9 + 1)) (lv' := [(4, .int (nI (q9 + 1))), (3, .int 0), (2, .int (nI i)), (0, .ref mo), (1, .int x)]) hx hb d_Md_keptAnswer_101 hl rfl (nI_1 q9) (by decide) rfl (fun ls hl => ?_)
                      refine lv_goto (tgt := 60) hx hb d_Md_keptAnswer_104 (by decide) ?_
                      have hl := lv_sub hl [0, 1, 2, 3, 4] (show _ = [(4, .int (nI (q9 + 1))), (3, .int 0), (2, .int (nI i)), (0, .ref mo), (1, .int x)] from rfl)
                      exact ih (q9 + 1) _ _ _ _ (by omega) (Or.inl rfl) hP hD hS hl
                    · skip
                      refine lv_iconst (v := 1) hx hb d_Md_keptAnswer_95 (by decide) ?_
                      refine lv_goto (tgt := 100) hx hb d_Md_keptAnswer_96 (by decide) ?_
                      refine lv_istore_n (lv' := [(3, .int 1), (4, .int (nI q9)), (2, .int (nI i)), (0, .ref mo), (1, .int x)]) hx hb d_Md_keptAnswer_100 rfl hl (by decide) rfl (fun ls hl => ?_)
                      refine lv_iinc (k := 1) (v := nI (q9 + 1)) (lv' := [(4, .int (nI (q9 + 1))), (3, .int 1), (2, .int (nI i)), (0, .ref mo), (1, .int x)]) hx hb d_Md_keptAnswer_101 hl rfl (nI_1 q9) (by decide) rfl (fun ls hl => ?_)
                      refine lv_goto (tgt := 60) hx hb d_Md_keptAnswer_104 (by decide) ?_
                      have hl := lv_sub hl [0, 1, 2, 3, 4] (show _ = [(4, .int (nI (q9 + 1))), (3, .int 1), (2, .int (nI i)), (0, .ref mo), (1, .int x)] from rfl)
                      exact ih (q9 + 1) _ _ _ _ (by omega) (Or.inr rfl) hP hD hS hl
              refine L69 _ (fun sm H locs ls hsm hP hD hS hl => ?_) (16 - 0) 0 1 H _ ls (by omega) (Or.inr rfl) hP hD hS hl
              refine lv_iload_n hx hb d_Md_keptAnswer_107 rfl (lv_at hl 1 rfl) ?_
              refine lv_if_eq (tgt := 113) hx hb d_Md_keptAnswer_108 (by decide) (fun hc86 => ?_) (fun hc86 => ?_)
              · skip
                refine lv_iinc (k := 2) (v := nI (i + 1)) (lv' := [(2, .int (nI (i + 1))), (4, .int (nI 16)), (3, .int sm), (0, .ref mo), (1, .int x)]) hx hb d_Md_keptAnswer_113 hl rfl (nI_1 i) (by decide) rfl (fun ls hl => ?_)
                refine lv_goto (tgt := 2) hx hb d_Md_keptAnswer_116 (by decide) ?_
                have hl := lv_sub hl [0, 3, 4] (show _ = [(2, .int (nI (i + 1))), (0, .ref mo), (1, .int x)] from rfl)
                exfalso; omega
              · skip
                refine lv_iload_n hx hb d_Md_keptAnswer_111 rfl (lv_at hl 2 rfl) ?_
                have hl := lv_sub hl [3] (show _ = [(0, .ref mo)] from rfl)
                exact ex1 i _ _ _ (by omega) hP hD hS hl
    | succ jj2 ih => 
      intro i H locs ls hm9 hi hP hD hS hl
      refine lv_iload_n hx hb d_Md_keptAnswer_2 rfl (lv_at hl 0 rfl) ?_
      refine lv_aload_n hx hb d_Md_keptAnswer_3 rfl (lv_at hl 1 rfl) ?_
      refine va_get (D := (dC, dI)) (ci := 12) (v := (.int (nI na))) (C := R_Md) (T := F_Md) (N := 45) hx hb hg in_Md hown hK hP 0 rfl rfl 17 (by decide) (hg _ k_1037) (fun _ h9 => h9) rfl d_Md_keptAnswer_4 ?_
      refine lv_icmp_ge (tgt := 119) hx hb d_Md_keptAnswer_7 (by decide) (fun hc87 => ?_) (fun hc87 => ?_)
      · skip
        have n88 : na ≤ i := (nI_leI (a := na) (b := i) (by omega) (by omega)).mp hc87
        have hl := lv_sub hl [1] (show _ = [(0, .ref mo)] from rfl)
        exact ex0 i _ _ _  hP hD hS hl
      · skip
        have n89 : i < na := Nat.not_le.mp (fun h7 => hc87 ((nI_leI (a := na) (b := i) (by omega) (by omega)).mpr h7))
        refine lv_aload_n hx hb d_Md_keptAnswer_10 rfl (lv_at hl 1 rfl) ?_
        refine va_get (D := (dC, dI)) (ci := 12) (v := (.ref (r 18))) (C := R_Md) (T := F_Md) (N := 45) hx hb hg in_Md hown hK hP 0 rfl rfl 18 (by decide) (hg _ k_1038) (fun _ h9 => h9) rfl d_Md_keptAnswer_11 ?_
        refine lv_iload_n hx hb d_Md_keptAnswer_14 rfl (lv_at hl 0 rfl) ?_
        refine va_iald hx hb hK hP 2 0 rfl rfl (i := (nI i)) (vp_in_nI (N := 41) (by omega) (by decide)) d_Md_keptAnswer_15 ?_
        refine lv_topi (fun x90 e_x90 => ?_)
        clear e_x90
        refine lv_iload_n hx hb d_Md_keptAnswer_16 rfl (lv_at hl 2 rfl) ?_
        refine lv_icmp_ne (tgt := 55) hx hb d_Md_keptAnswer_17 (by decide) (fun hc91 => ?_) (fun hc91 => ?_)
        · skip
          refine lv_iconst (v := 0) hx hb d_Md_keptAnswer_55 (by decide) ?_
          refine lv_istore_n (lv' := [(3, .int 0), (2, .int (nI i)), (0, .ref mo), (1, .int x)]) hx hb d_Md_keptAnswer_56 rfl hl (by decide) rfl (fun ls hl => ?_)
          refine lv_iconst (v := 0) hx hb d_Md_keptAnswer_57 (by decide) ?_
          refine lv_istore (lv' := [(4, .int 0), (3, .int 0), (2, .int (nI i)), (0, .ref mo), (1, .int x)]) hx hb d_Md_keptAnswer_58 hl (by decide) rfl (fun ls hl => ?_)
          have hl := lv_sub hl [0, 1, 2, 3, 4] (show _ = [(4, .int 0), (3, .int 0), (2, .int (nI i)), (0, .ref mo), (1, .int x)] from rfl)
          have L92 : ∀ (Q : State → Prop) (exit : ∀ (sm : Int32) (H : Heap) (locs : List Loc) (ls : Array Slot), (sm = 0 ∨ sm = 1) → va_P (dC, dI) vcl [(mo, .inr (12, mdG r cd tm (nI sn) (nI tx) (nI lz) (nI az) (nI na) (nI nt) (nI nr) mw ml mk dq)), (r 7, .inl ((cT 0), 1000, .inl f7)), (r 18, .inl ((cT 0), 41, .inl f18)), (r 19, .inl ((cT 0), 41, .inl f19)), (r 20, .inl ((cT 0), 41, .inl f20)), (r 23, .inl ((cT 0), 656, .inl f23))] H → va_D A [(mo, .inr (12, mdG r cd tm (nI sn) (nI tx) (nI lz) (nI az) (nI na) (nI nt) (nI nr) mw ml mk dq)), (r 7, .inl ((cT 0), 1000, .inl f7)), (r 18, .inl ((cT 0), 41, .inl f18)), (r 19, .inl ((cT 0), 41, .inl f19)), (r 20, .inl ((cT 0), 41, .inl f20)), (r 23, .inl ((cT 0), 656, .inl f23))] → va_S A s.heap H locs → lv_has ls 5 [(4, .int (nI 16)), (3, .int sm), (2, .int (nI i)), (0, .ref mo), (1, .int x)] → W p l e ({ frames := 0, cells := 0, slots := 0, locals := 0 } : Room) s m args below meth c H locs 0 0 Q (F0 m 107 ls [])) (j8 q9 : Nat) (sm : Int32) (H : Heap) (locs : List Loc) (ls : Array Slot), q9 + j8 = 16 → (sm = 0 ∨ sm = 1) → va_P (dC, dI) vcl [(mo, .inr (12, mdG r cd tm (nI sn) (nI tx) (nI lz) (nI az) (nI na) (nI nt) (nI nr) mw ml mk dq)), (r 7, .inl ((cT 0), 1000, .inl f7)), (r 18, .inl ((cT 0), 41, .inl f18)), (r 19, .inl ((cT 0), 41, .inl f19)), (r 20, .inl ((cT 0), 41, .inl f20)), (r 23, .inl ((cT 0), 656, .inl f23))] H → va_D A [(mo, .inr (12, mdG r cd tm (nI sn) (nI tx) (nI lz) (nI az) (nI na) (nI nt) (nI nr) mw ml mk dq)), (r 7, .inl ((cT 0), 1000, .inl f7)), (r 18, .inl ((cT 0), 41, .inl f18)), (r 19, .inl ((cT 0), 41, .inl f19)), (r 20, .inl ((cT 0), 41, .inl f20)), (r 23, .inl ((cT 0), 656, .inl f23))] → va_S A s.heap H locs → lv_has ls 5 [(4, .int (nI q9)), (3, .int sm), (2, .int (nI i)), (0, .ref mo), (1, .int x)] → W p l e ({ frames := 0, cells := 0, slots := 0, locals := 0 } : Room) s m args below meth c H locs 0 0 Q (F0 m 60 ls []) := by
            intro Q exit j8
            induction j8 with
            | zero => 
              intro q9 sm H locs ls hij hsm hP hD hS hl
              have hij : 16 = q9 := by omega
              refine lv_iload hx hb d_Md_keptAnswer_60 (lv_at hl 0 rfl) ?_
              refine lv_bipush (v := 16) hx hb d_Md_keptAnswer_62 (by decide) ?_
              refine lv_topi (fun x94 e93 => ?_)
              obtain rfl : x94 = nI 16 := by rw [e93]; rfl
              refine lv_icmp_ge (tgt := 107) hx hb d_Md_keptAnswer_64 (by decide) (fun hc95 => ?_) (fun hn9 => absurd (nI_le (by omega) (by omega)) hn9)
              subst hij
              exact exit sm _ _ _ hsm hP hD hS hl
            | succ j8 ih => 
              intro q9 sm H locs ls hij hsm hP hD hS hl
              have hlt : q9 < 16 := by omega
              have hltq9 := hlt
              refine lv_iload hx hb d_Md_keptAnswer_60 (lv_at hl 0 rfl) ?_
              refine lv_bipush (v := 16) hx hb d_Md_keptAnswer_62 (by decide) ?_
              refine lv_topi (fun x97 e96 => ?_)
              obtain rfl : x97 = nI 16 := by rw [e96]; rfl
              refine lv_icmp_ge (tgt := 107) hx hb d_Md_keptAnswer_64 (by decide) (fun hn9 => absurd hn9 (nI_ge (by omega) (by omega))) (fun hc98 => ?_)
              refine lv_iload_n hx hb d_Md_keptAnswer_67 rfl (lv_at hl 1 rfl) ?_
              refine lv_if_eq (tgt := 99) hx hb d_Md_keptAnswer_68 (by decide) (fun hc99 => ?_) (fun hc99 => ?_)
              · skip
                refine lv_iconst (v := 0) hx hb d_Md_keptAnswer_99 (by decide) ?_
                refine lv_istore_n (lv' := [(3, .int 0), (4, .int (nI q9)), (2, .int (nI i)), (0, .ref mo), (1, .int x)]) hx hb d_Md_keptAnswer_100 rfl hl (by decide) rfl (fun ls hl => ?_)
                refine lv_iinc (k := 1) (v := nI (q9 + 1)) (lv' := [(4, .int (nI (q9 + 1))), (3, .int 0), (2, .int (nI i)), (0, .ref mo), (1, .int x)]) hx hb d_Md_keptAnswer_101 hl rfl (nI_1 q9) (by decide) rfl (fun ls hl => ?_)
                refine lv_goto (tgt := 60) hx hb d_Md_keptAnswer_104 (by decide) ?_
                have hl := lv_sub hl [0, 1, 2, 3, 4] (show _ = [(4, .int (nI (q9 + 1))), (3, .int 0), (2, .int (nI i)), (0, .ref mo), (1, .int x)] from rfl)
                exact ih (q9 + 1) _ _ _ _ (by omega) (Or.inl rfl) hP hD hS hl
              · skip
                refine lv_aload_n hx hb d_Md_keptAnswer_71 rfl (lv_at hl 3 rfl) ?_
                refine va_get (D := (dC, dI)) (ci := 12) (v := (.ref (r 23))) (C := R_Md) (T := F_Md) (N := 45) hx hb hg in_Md hown hK hP 0 rfl rfl 23 (by decide) (hg _ k_1043) (fun _ h9 => h9) rfl d_Md_keptAnswer_72 ?_
                refine lv_bipush (v := 16) hx hb d_Md_keptAnswer_75 (by decide) ?_
                refine lv_iload_n hx hb d_Md_keptAnswer_77 rfl (lv_at hl 2 rfl) ?_
                refine lv_imul hx hb d_Md_keptAnswer_78 ?_
                refine lv_topi (fun x101 e100 => ?_)
                obtain rfl : x101 = nI (16 * i) := by rw [e100]; exact pk_mul 16 i
                refine lv_iload hx hb d_Md_keptAnswer_79 (lv_at hl 0 rfl) ?_
                refine lv_iadd hx hb d_Md_keptAnswer_81 ?_
                refine lv_topi (fun x103 e102 => ?_)
                obtain rfl : x103 = nI ((16 * i) + q9) := by rw [e102]; exact nI_add (16 * i) q9
                refine va_iald hx hb hK hP 5 0 rfl rfl (i := (nI ((16 * i) + q9))) (vp_in_nI (N := 656) (by omega) (by decide)) d_Md_keptAnswer_82 ?_
                refine lv_topi (fun x104 e_x104 => ?_)
                clear e_x104
                refine lv_aload_n hx hb d_Md_keptAnswer_83 rfl (lv_at hl 3 rfl) ?_
                refine va_get (D := (dC, dI)) (ci := 12) (v := (.ref (r 7))) (C := R_Md) (T := F_Md) (N := 45) hx hb hg in_Md hown hK hP 0 rfl rfl 7 (by decide) (hg _ k_1027) (fun _ h9 => h9) rfl d_Md_keptAnswer_84 ?_
                refine lv_iconst (v := 4) hx hb d_Md_keptAnswer_87 (by decide) ?_
                refine lv_iload hx hb d_Md_keptAnswer_88 (lv_at hl 0 rfl) ?_
                refine lv_iadd hx hb d_Md_keptAnswer_90 ?_
                refine lv_topi (fun x106 e105 => ?_)
                obtain rfl : x106 = nI (4 + q9) := by rw [e105]; exact nI_add 4 q9
                refine va_iald hx hb hK hP 1 0 rfl rfl (i := (nI (4 + q9))) (vp_in_nI (N := 1000) (by omega) (by decide)) d_Md_keptAnswer_91 ?_
                refine lv_topi (fun x107 e_x107 => ?_)
                clear e_x107
                refine lv_icmp_ne (tgt := 99) hx hb d_Md_keptAnswer_92 (by decide) (fun hc108 => ?_) (fun hc108 => ?_)
                · skip
                  refine lv_iconst (v := 0) hx hb d_Md_keptAnswer_99 (by decide) ?_
                  refine lv_istore_n (lv' := [(3, .int 0), (4, .int (nI q9)), (2, .int (nI i)), (0, .ref mo), (1, .int x)]) hx hb d_Md_keptAnswer_100 rfl hl (by decide) rfl (fun ls hl => ?_)
                  refine lv_iinc (k := 1) (v := nI (q9 + 1)) (lv' := [(4, .int (nI (q9 + 1))), (3, .int 0), (2, .int (nI i)), (0, .ref mo), (1, .int x)]) hx hb d_Md_keptAnswer_101 hl rfl (nI_1 q9) (by decide) rfl (fun ls hl => ?_)
                  refine lv_goto (tgt := 60) hx hb d_Md_keptAnswer_104 (by decide) ?_
                  have hl := lv_sub hl [0, 1, 2, 3, 4] (show _ = [(4, .int (nI (q9 + 1))), (3, .int 0), (2, .int (nI i)), (0, .ref mo), (1, .int x)] from rfl)
                  exact ih (q9 + 1) _ _ _ _ (by omega) (Or.inl rfl) hP hD hS hl
                · skip
                  refine lv_iconst (v := 1) hx hb d_Md_keptAnswer_95 (by decide) ?_
                  refine lv_goto (tgt := 100) hx hb d_Md_keptAnswer_96 (by decide) ?_
                  refine lv_istore_n (lv' := [(3, .int 1), (4, .int (nI q9)), (2, .int (nI i)), (0, .ref mo), (1, .int x)]) hx hb d_Md_keptAnswer_100 rfl hl (by decide) rfl (fun ls hl => ?_)
                  refine lv_iinc (k := 1) (v := nI (q9 + 1)) (lv' := [(4, .int (nI (q9 + 1))), (3, .int 1), (2, .int (nI i)), (0, .ref mo), (1, .int x)]) hx hb d_Md_keptAnswer_101 hl rfl (nI_1 q9) (by decide) rfl (fun ls hl => ?_)
                  refine lv_goto (tgt := 60) hx hb d_Md_keptAnswer_104 (by decide) ?_
                  have hl := lv_sub hl [0, 1, 2, 3, 4] (show _ = [(4, .int (nI (q9 + 1))), (3, .int 1), (2, .int (nI i)), (0, .ref mo), (1, .int x)] from rfl)
                  exact ih (q9 + 1) _ _ _ _ (by omega) (Or.inr rfl) hP hD hS hl
          refine L92 _ (fun sm H locs ls hsm hP hD hS hl => ?_) (16 - 0) 0 0 H _ ls (by omega) (Or.inl rfl) hP hD hS hl
          refine lv_iload_n hx hb d_Md_keptAnswer_107 rfl (lv_at hl 1 rfl) ?_
          refine lv_if_eq (tgt := 113) hx hb d_Md_keptAnswer_108 (by decide) (fun hc109 => ?_) (fun hc109 => ?_)
          · skip
            refine lv_iinc (k := 2) (v := nI (i + 1)) (lv' := [(2, .int (nI (i + 1))), (4, .int (nI 16)), (3, .int sm), (0, .ref mo), (1, .int x)]) hx hb d_Md_keptAnswer_113 hl rfl (nI_1 i) (by decide) rfl (fun ls hl => ?_)
            refine lv_goto (tgt := 2) hx hb d_Md_keptAnswer_116 (by decide) ?_
            have hl := lv_sub hl [0, 3, 4] (show _ = [(2, .int (nI (i + 1))), (0, .ref mo), (1, .int x)] from rfl)
            exact ih (i + 1) _ _ _ (by omega) (by omega) hP hD hS hl
          · skip
            refine lv_iload_n hx hb d_Md_keptAnswer_111 rfl (lv_at hl 2 rfl) ?_
            have hl := lv_sub hl [3] (show _ = [(0, .ref mo)] from rfl)
            exact ex1 i _ _ _ (by omega) hP hD hS hl
        · skip
          refine lv_aload_n hx hb d_Md_keptAnswer_20 rfl (lv_at hl 1 rfl) ?_
          refine va_get (D := (dC, dI)) (ci := 12) (v := (.ref (r 19))) (C := R_Md) (T := F_Md) (N := 45) hx hb hg in_Md hown hK hP 0 rfl rfl 19 (by decide) (hg _ k_1039) (fun _ h9 => h9) rfl d_Md_keptAnswer_21 ?_
          refine lv_iload_n hx hb d_Md_keptAnswer_24 rfl (lv_at hl 0 rfl) ?_
          refine va_iald hx hb hK hP 3 0 rfl rfl (i := (nI i)) (vp_in_nI (N := 41) (by omega) (by decide)) d_Md_keptAnswer_25 ?_
          refine lv_topi (fun x110 e_x110 => ?_)
          clear e_x110
          refine lv_aload_n hx hb d_Md_keptAnswer_26 rfl (lv_at hl 1 rfl) ?_
          refine va_get (D := (dC, dI)) (ci := 12) (v := (.ref (r 7))) (C := R_Md) (T := F_Md) (N := 45) hx hb hg in_Md hown hK hP 0 rfl rfl 7 (by decide) (hg _ k_1027) (fun _ h9 => h9) rfl d_Md_keptAnswer_27 ?_
          refine lv_iconst (v := 1) hx hb d_Md_keptAnswer_30 (by decide) ?_
          refine lv_topi (fun x112 e111 => ?_)
          obtain rfl : x112 = nI 1 := by rw [e111]; rfl
          refine va_iald hx hb hK hP 1 0 rfl rfl (i := (nI 1)) (vp_in_nI (N := 1000) (by omega) (by decide)) d_Md_keptAnswer_31 ?_
          refine lv_topi (fun x113 e_x113 => ?_)
          clear e_x113
          refine lv_icmp_ne (tgt := 55) hx hb d_Md_keptAnswer_32 (by decide) (fun hc114 => ?_) (fun hc114 => ?_)
          · skip
            refine lv_iconst (v := 0) hx hb d_Md_keptAnswer_55 (by decide) ?_
            refine lv_istore_n (lv' := [(3, .int 0), (2, .int (nI i)), (0, .ref mo), (1, .int x)]) hx hb d_Md_keptAnswer_56 rfl hl (by decide) rfl (fun ls hl => ?_)
            refine lv_iconst (v := 0) hx hb d_Md_keptAnswer_57 (by decide) ?_
            refine lv_istore (lv' := [(4, .int 0), (3, .int 0), (2, .int (nI i)), (0, .ref mo), (1, .int x)]) hx hb d_Md_keptAnswer_58 hl (by decide) rfl (fun ls hl => ?_)
            have hl := lv_sub hl [0, 1, 2, 3, 4] (show _ = [(4, .int 0), (3, .int 0), (2, .int (nI i)), (0, .ref mo), (1, .int x)] from rfl)
            have L115 : ∀ (Q : State → Prop) (exit : ∀ (sm : Int32) (H : Heap) (locs : List Loc) (ls : Array Slot), (sm = 0 ∨ sm = 1) → va_P (dC, dI) vcl [(mo, .inr (12, mdG r cd tm (nI sn) (nI tx) (nI lz) (nI az) (nI na) (nI nt) (nI nr) mw ml mk dq)), (r 7, .inl ((cT 0), 1000, .inl f7)), (r 18, .inl ((cT 0), 41, .inl f18)), (r 19, .inl ((cT 0), 41, .inl f19)), (r 20, .inl ((cT 0), 41, .inl f20)), (r 23, .inl ((cT 0), 656, .inl f23))] H → va_D A [(mo, .inr (12, mdG r cd tm (nI sn) (nI tx) (nI lz) (nI az) (nI na) (nI nt) (nI nr) mw ml mk dq)), (r 7, .inl ((cT 0), 1000, .inl f7)), (r 18, .inl ((cT 0), 41, .inl f18)), (r 19, .inl ((cT 0), 41, .inl f19)), (r 20, .inl ((cT 0), 41, .inl f20)), (r 23, .inl ((cT 0), 656, .inl f23))] → va_S A s.heap H locs → lv_has ls 5 [(4, .int (nI 16)), (3, .int sm), (2, .int (nI i)), (0, .ref mo), (1, .int x)] → W p l e ({ frames := 0, cells := 0, slots := 0, locals := 0 } : Room) s m args below meth c H locs 0 0 Q (F0 m 107 ls [])) (j8 q9 : Nat) (sm : Int32) (H : Heap) (locs : List Loc) (ls : Array Slot), q9 + j8 = 16 → (sm = 0 ∨ sm = 1) → va_P (dC, dI) vcl [(mo, .inr (12, mdG r cd tm (nI sn) (nI tx) (nI lz) (nI az) (nI na) (nI nt) (nI nr) mw ml mk dq)), (r 7, .inl ((cT 0), 1000, .inl f7)), (r 18, .inl ((cT 0), 41, .inl f18)), (r 19, .inl ((cT 0), 41, .inl f19)), (r 20, .inl ((cT 0), 41, .inl f20)), (r 23, .inl ((cT 0), 656, .inl f23))] H → va_D A [(mo, .inr (12, mdG r cd tm (nI sn) (nI tx) (nI lz) (nI az) (nI na) (nI nt) (nI nr) mw ml mk dq)), (r 7, .inl ((cT 0), 1000, .inl f7)), (r 18, .inl ((cT 0), 41, .inl f18)), (r 19, .inl ((cT 0), 41, .inl f19)), (r 20, .inl ((cT 0), 41, .inl f20)), (r 23, .inl ((cT 0), 656, .inl f23))] → va_S A s.heap H locs → lv_has ls 5 [(4, .int (nI q9)), (3, .int sm), (2, .int (nI i)), (0, .ref mo), (1, .int x)] → W p l e ({ frames := 0, cells := 0, slots := 0, locals := 0 } : Room) s m args below meth c H locs 0 0 Q (F0 m 60 ls []) := by
              intro Q exit j8
              induction j8 with
              | zero => 
                intro q9 sm H locs ls hij hsm hP hD hS hl
                have hij : 16 = q9 := by omega
                refine lv_iload hx hb d_Md_keptAnswer_60 (lv_at hl 0 rfl) ?_
                refine lv_bipush (v := 16) hx hb d_Md_keptAnswer_62 (by decide) ?_
                refine lv_topi (fun x117 e116 => ?_)
                obtain rfl : x117 = nI 16 := by rw [e116]; rfl
                refine lv_icmp_ge (tgt := 107) hx hb d_Md_keptAnswer_64 (by decide) (fun hc118 => ?_) (fun hn9 => absurd (nI_le (by omega) (by omega)) hn9)
                subst hij
                exact exit sm _ _ _ hsm hP hD hS hl
              | succ j8 ih => 
                intro q9 sm H locs ls hij hsm hP hD hS hl
                have hlt : q9 < 16 := by omega
                have hltq9 := hlt
                refine lv_iload hx hb d_Md_keptAnswer_60 (lv_at hl 0 rfl) ?_
                refine lv_bipush (v := 16) hx hb d_Md_keptAnswer_62 (by decide) ?_
                refine lv_topi (fun x120 e119 => ?_)
                obtain rfl : x120 = nI 16 := by rw [e119]; rfl
                refine lv_icmp_ge (tgt := 107) hx hb d_Md_keptAnswer_64 (by decide) (fun hn9 => absurd hn9 (nI_ge (by omega) (by omega))) (fun hc121 => ?_)
                refine lv_iload_n hx hb d_Md_keptAnswer_67 rfl (lv_at hl 1 rfl) ?_
                refine lv_if_eq (tgt := 99) hx hb d_Md_keptAnswer_68 (by decide) (fun hc122 => ?_) (fun hc122 => ?_)
                · skip
                  refine lv_iconst (v := 0) hx hb d_Md_keptAnswer_99 (by decide) ?_
                  refine lv_istore_n (lv' := [(3, .int 0), (4, .int (nI q9)), (2, .int (nI i)), (0, .ref mo), (1, .int x)]) hx hb d_Md_keptAnswer_100 rfl hl (by decide) rfl (fun ls hl => ?_)
                  refine lv_iinc (k := 1) (v := nI (q9 + 1)) (lv' := [(4, .int (nI (q9 + 1))), (3, .int 0), (2, .int (nI i)), (0, .ref mo), (1, .int x)]) hx hb d_Md_keptAnswer_101 hl rfl (nI_1 q9) (by decide) rfl (fun ls hl => ?_)
                  refine lv_goto (tgt := 60) hx hb d_Md_keptAnswer_104 (by decide) ?_
                  have hl := lv_sub hl [0, 1, 2, 3, 4] (show _ = [(4, .int (nI (q9 + 1))), (3, .int 0), (2, .int (nI i)), (0, .ref mo), (1, .int x)] from rfl)
                  exact ih (q9 + 1) _ _ _ _ (by omega) (Or.inl rfl) hP hD hS hl
                · skip
                  refine lv_aload_n hx hb d_Md_keptAnswer_71 rfl (lv_at hl 3 rfl) ?_
                  refine va_get (D := (dC, dI)) (ci := 12) (v := (.ref (r 23))) (C := R_Md) (T := F_Md) (N := 45) hx hb hg in_Md hown hK hP 0 rfl rfl 23 (by decide) (hg _ k_1043) (fun _ h9 => h9) rfl d_Md_keptAnswer_72 ?_
                  refine lv_bipush (v := 16) hx hb d_Md_keptAnswer_75 (by decide) ?_
                  refine lv_iload_n hx hb d_Md_keptAnswer_77 rfl (lv_at hl 2 rfl) ?_
                  refine lv_imul hx hb d_Md_keptAnswer_78 ?_
                  refine lv_topi (fun x124 e123 => ?_)
                  obtain rfl : x124 = nI (16 * i) := by rw [e123]; exact pk_mul 16 i
                  refine lv_iload hx hb d_Md_keptAnswer_79 (lv_at hl 0 rfl) ?_
                  refine lv_iadd hx hb d_Md_keptAnswer_81 ?_
                  refine lv_topi (fun x126 e125 => ?_)
                  obtain rfl : x126 = nI ((16 * i) + q9) := by rw [e125]; exact nI_add (16 * i) q9
                  refine va_iald hx hb hK hP 5 0 rfl rfl (i := (nI ((16 * i) + q9))) (vp_in_nI (N := 656) (by omega) (by decide)) d_Md_keptAnswer_82 ?_
                  refine lv_topi (fun x127 e_x127 => ?_)
                  clear e_x127
                  refine lv_aload_n hx hb d_Md_keptAnswer_83 rfl (lv_at hl 3 rfl) ?_
                  refine va_get (D := (dC, dI)) (ci := 12) (v := (.ref (r 7))) (C := R_Md) (T := F_Md) (N := 45) hx hb hg in_Md hown hK hP 0 rfl rfl 7 (by decide) (hg _ k_1027) (fun _ h9 => h9) rfl d_Md_keptAnswer_84 ?_
                  refine lv_iconst (v := 4) hx hb d_Md_keptAnswer_87 (by decide) ?_
                  refine lv_iload hx hb d_Md_keptAnswer_88 (lv_at hl 0 rfl) ?_
                  refine lv_iadd hx hb d_Md_keptAnswer_90 ?_
                  refine lv_topi (fun x129 e128 => ?_)
                  obtain rfl : x129 = nI (4 + q9) := by rw [e128]; exact nI_add 4 q9
                  refine va_iald hx hb hK hP 1 0 rfl rfl (i := (nI (4 + q9))) (vp_in_nI (N := 1000) (by omega) (by decide)) d_Md_keptAnswer_91 ?_
                  refine lv_topi (fun x130 e_x130 => ?_)
                  clear e_x130
                  refine lv_icmp_ne (tgt := 99) hx hb d_Md_keptAnswer_92 (by decide) (fun hc131 => ?_) (fun hc131 => ?_)
                  · skip
                    refine lv_iconst (v := 0) hx hb d_Md_keptAnswer_99 (by decide) ?_
                    refine lv_istore_n (lv' := [(3, .int 0), (4, .int (nI q9)), (2, .int (nI i)), (0, .ref mo), (1, .int x)]) hx hb d_Md_keptAnswer_100 rfl hl (by decide) rfl (fun ls hl => ?_)
                    refine lv_iinc (k := 1) (v := nI (q9 + 1)) (lv' := [(4, .int (nI (q9 + 1))), (3, .int 0), (2, .int (nI i)), (0, .ref mo), (1, .int x)]) hx hb d_Md_keptAnswer_101 hl rfl (nI_1 q9) (by decide) rfl (fun ls hl => ?_)
                    refine lv_goto (tgt := 60) hx hb d_Md_keptAnswer_104 (by decide) ?_
                    have hl := lv_sub hl [0, 1, 2, 3, 4] (show _ = [(4, .int (nI (q9 + 1))), (3, .int 0), (2, .int (nI i)), (0, .ref mo), (1, .int x)] from rfl)
                    exact ih (q9 + 1) _ _ _ _ (by omega) (Or.inl rfl) hP hD hS hl
                  · skip
                    refine lv_iconst (v := 1) hx hb d_Md_keptAnswer_95 (by decide) ?_
                    refine lv_goto (tgt := 100) hx hb d_Md_keptAnswer_96 (by decide) ?_
                    refine lv_istore_n (lv' := [(3, .int 1), (4, .int (nI q9)), (2, .int (nI i)), (0, .ref mo), (1, .int x)]) hx hb d_Md_keptAnswer_100 rfl hl (by decide) rfl (fun ls hl => ?_)
                    refine lv_iinc (k := 1) (v := nI (q9 + 1)) (lv' := [(4, .int (nI (q9 + 1))), (3, .int 1), (2, .int (nI i)), (0, .ref mo), (1, .int x)]) hx hb d_Md_keptAnswer_101 hl rfl (nI_1 q9) (by decide) rfl (fun ls hl => ?_)
                    refine lv_goto (tgt := 60) hx hb d_Md_keptAnswer_104 (by decide) ?_
                    have hl := lv_sub hl [0, 1, 2, 3, 4] (show _ = [(4, .int (nI (q9 + 1))), (3, .int 1), (2, .int (nI i)), (0, .ref mo), (1, .int x)] from rfl)
                    exact ih (q9 + 1) _ _ _ _ (by omega) (Or.inr rfl) hP hD hS hl
            refine L115 _ (fun sm H locs ls hsm hP hD hS hl => ?_) (16 - 0) 0 0 H _ ls (by omega) (Or.inl rfl) hP hD hS hl
            refine lv_iload_n hx hb d_Md_keptAnswer_107 rfl (lv_at hl 1 rfl) ?_
            refine lv_if_eq (tgt := 113) hx hb d_Md_keptAnswer_108 (by decide) (fun hc132 => ?_) (fun hc132 => ?_)
            · skip
              refine lv_iinc (k := 2) (v := nI (i + 1)) (lv' := [(2, .int (nI (i + 1))), (4, .int (nI 16)), (3, .int sm), (0, .ref mo), (1, .int x)]) hx hb d_Md_keptAnswer_113 hl rfl (nI_1 i) (by decide) rfl (fun ls hl => ?_)
              refine lv_goto (tgt := 2) hx hb d_Md_keptAnswer_116 (by decide) ?_
              have hl := lv_sub hl [0, 3, 4] (show _ = [(2, .int (nI (i + 1))), (0, .ref mo), (1, .int x)] from rfl)
              exact ih (i + 1) _ _ _ (by omega) (by omega) hP hD hS hl
            · skip
              refine lv_iload_n hx hb d_Md_keptAnswer_111 rfl (lv_at hl 2 rfl) ?_
              have hl := lv_sub hl [3] (show _ = [(0, .ref mo)] from rfl)
              exact ex1 i _ _ _ (by omega) hP hD hS hl
          · skip
            refine lv_aload_n hx hb d_Md_keptAnswer_35 rfl (lv_at hl 1 rfl) ?_
            refine va_get (D := (dC, dI)) (ci := 12) (v := (.int tm)) (C := R_Md) (T := F_Md) (N := 45) hx hb hg in_Md hown hK hP 0 rfl rfl 2 (by decide) (hg _ k_1022) (fun _ h9 => h9) rfl d_Md_keptAnswer_36 ?_
            refine lv_aload_n hx hb d_Md_keptAnswer_39 rfl (lv_at hl 1 rfl) ?_
            refine va_get (D := (dC, dI)) (ci := 12) (v := (.ref (r 20))) (C := R_Md) (T := F_Md) (N := 45) hx hb hg in_Md hown hK hP 0 rfl rfl 20 (by decide) (hg _ k_1040) (fun _ h9 => h9) rfl d_Md_keptAnswer_40 ?_
            refine lv_iload_n hx hb d_Md_keptAnswer_43 rfl (lv_at hl 0 rfl) ?_
            refine va_iald hx hb hK hP 4 0 rfl rfl (i := (nI i)) (vp_in_nI (N := 41) (by omega) (by decide)) d_Md_keptAnswer_44 ?_
            refine lv_topi (fun x133 e_x133 => ?_)
            clear e_x133
            refine lv_isub hx hb d_Md_keptAnswer_45 ?_
            refine lv_bipush (v := 30) hx hb d_Md_keptAnswer_46 (by decide) ?_
            refine lv_icmp_gt (tgt := 55) hx hb d_Md_keptAnswer_48 (by decide) (fun hc134 => ?_) (fun hc134 => ?_)
            · skip
              refine lv_iconst (v := 0) hx hb d_Md_keptAnswer_55 (by decide) ?_
              refine lv_istore_n (lv' := [(3, .int 0), (2, .int (nI i)), (0, .ref mo), (1, .int x)]) hx hb d_Md_keptAnswer_56 rfl hl (by decide) rfl (fun ls hl => ?_)
              refine lv_iconst (v := 0) hx hb d_Md_keptAnswer_57 (by decide) ?_
              refine lv_istore (lv' := [(4, .int 0), (3, .int 0), (2, .int (nI i)), (0, .ref mo), (1, .int x)]) hx hb d_Md_keptAnswer_58 hl (by decide) rfl (fun ls hl => ?_)
              have hl := lv_sub hl [0, 1, 2, 3, 4] (show _ = [(4, .int 0), (3, .int 0), (2, .int (nI i)), (0, .ref mo), (1, .int x)] from rfl)
              have L135 : ∀ (Q : State → Prop) (exit : ∀ (sm : Int32) (H : Heap) (locs : List Loc) (ls : Array Slot), (sm = 0 ∨ sm = 1) → va_P (dC, dI) vcl [(mo, .inr (12, mdG r cd tm (nI sn) (nI tx) (nI lz) (nI az) (nI na) (nI nt) (nI nr) mw ml mk dq)), (r 7, .inl ((cT 0), 1000, .inl f7)), (r 18, .inl ((cT 0), 41, .inl f18)), (r 19, .inl ((cT 0), 41, .inl f19)), (r 20, .inl ((cT 0), 41, .inl f20)), (r 23, .inl ((cT 0), 656, .inl f23))] H → va_D A [(mo, .inr (12, mdG r cd tm (nI sn) (nI tx) (nI lz) (nI az) (nI na) (nI nt) (nI nr) mw ml mk dq)), (r 7, .inl ((cT 0), 1000, .inl f7)), (r 18, .inl ((cT 0), 41, .inl f18)), (r 19, .inl ((cT 0), 41, .inl f19)), (r 20, .inl ((cT 0), 41, .inl f20)), (r 23, .inl ((cT 0), 656, .inl f23))] → va_S A s.heap H locs → lv_has ls 5 [(4, .int (nI 16)), (3, .int sm), (2, .int (nI i)), (0, .ref mo), (1, .int x)] → W p l e ({ frames := 0, cells := 0, slots := 0, locals := 0 } : Room) s m args below meth c H locs 0 0 Q (F0 m 107 ls [])) (j8 q9 : Nat) (sm : Int32) (H : Heap) (locs : List Loc) (ls : Array Slot), q9 + j8 = 16 → (sm = 0 ∨ sm = 1) → va_P (dC, dI) vcl [(mo, .inr (12, mdG r cd tm (nI sn) (nI tx) (nI lz) (nI az) (nI na) (nI nt) (nI nr) mw ml mk dq)), (r 7, .inl ((cT 0), 1000, .inl f7)), (r 18, .inl ((cT 0), 41, .inl f18)), (r 19, .inl ((cT 0), 41, .inl f19)), (r 20, .inl ((cT 0), 41, .inl f20)), (r 23, .inl ((cT 0), 656, .inl f23))] H → va_D A [(mo, .inr (12, mdG r cd tm (nI sn) (nI tx) (nI lz) (nI az) (nI na) (nI nt) (nI nr) mw ml mk dq)), (r 7, .inl ((cT 0), 1000, .inl f7)), (r 18, .inl ((cT 0), 41, .inl f18)), (r 19, .inl ((cT 0), 41, .inl f19)), (r 20, .inl ((cT 0), 41, .inl f20)), (r 23, .inl ((cT 0), 656, .inl f23))] → va_S A s.heap H locs → lv_has ls 5 [(4, .int (nI q9)), (3, .int sm), (2, .int (nI i)), (0, .ref mo), (1, .int x)] → W p l e ({ frames := 0, cells := 0, slots := 0, locals := 0 } : Room) s m args below meth c H locs 0 0 Q (F0 m 60 ls []) := by
                intro Q exit j8
                induction j8 with
                | zero => 
                  intro q9 sm H locs ls hij hsm hP hD hS hl
                  have hij : 16 = q9 := by omega
                  refine lv_iload hx hb d_Md_keptAnswer_60 (lv_at hl 0 rfl) ?_
                  refine lv_bipush (v := 16) hx hb d_Md_keptAnswer_62 (by decide) ?_
                  refine lv_topi (fun x137 e136 => ?_)
                  obtain rfl : x137 = nI 16 := by rw [e136]; rfl
                  refine lv_icmp_ge (tgt := 107) hx hb d_Md_keptAnswer_64 (by decide) (fun hc138 => ?_) (fun hn9 => absurd (nI_le (by omega) (by omega)) hn9)
                  subst hij
                  exact exit sm _ _ _ hsm hP hD hS hl
                | succ j8 ih => 
                  intro q9 sm H locs ls hij hsm hP hD hS hl
                  have hlt : q9 < 16 := by omega
                  have hltq9 := hlt
                  refine lv_iload hx hb d_Md_keptAnswer_60 (lv_at hl 0 rfl) ?_
                  refine lv_bipush (v := 16) hx hb d_Md_keptAnswer_62 (by decide) ?_
                  refine lv_topi (fun x140 e139 => ?_)
                  obtain rfl : x140 = nI 16 := by rw [e139]; rfl
                  refine lv_icmp_ge (tgt := 107) hx hb d_Md_keptAnswer_64 (by decide) (fun hn9 => absurd hn9 (nI_ge (by omega) (by omega))) (fun hc141 => ?_)
                  refine lv_iload_n hx hb d_Md_keptAnswer_67 rfl (lv_at hl 1 rfl) ?_
                  refine lv_if_eq (tgt := 99) hx hb d_Md_keptAnswer_68 (by decide) (fun hc142 => ?_) (fun hc142 => ?_)
                  · skip
                    refine lv_iconst (v := 0) hx hb d_Md_keptAnswer_99 (by decide) ?_
                    refine lv_istore_n (lv' := [(3, .int 0), (4, .int (nI q9)), (2, .int (nI i)), (0, .ref mo), (1, .int x)]) hx hb d_Md_keptAnswer_100 rfl hl (by decide) rfl (fun ls hl => ?_)
                    refine lv_iinc (k := 1) (v := nI (q9 + 1)) (lv' := [(4, .int (nI (q9 + 1))), (3, .int 0), (2, .int (nI i)), (0, .ref mo), (1, .int x)]) hx hb d_Md_keptAnswer_101 hl rfl (nI_1 q9) (by decide) rfl (fun ls hl => ?_)
                    refine lv_goto (tgt := 60) hx hb d_Md_keptAnswer_104 (by decide) ?_
                    have hl := lv_sub hl [0, 1, 2, 3, 4] (show _ = [(4, .int (nI (q9 + 1))), (3, .int 0), (2, .int (nI i)), (0, .ref mo), (1, .int x)] from rfl)
                    exact ih (q9 + 1) _ _ _ _ (by omega) (Or.inl rfl) hP hD hS hl
                  · skip
                    refine lv_aload_n hx hb d_Md_keptAnswer_71 rfl (lv_at hl 3 rfl) ?_
                    refine va_get (D := (dC, dI)) (ci := 12) (v := (.ref (r 23))) (C := R_Md) (T := F_Md) (N := 45) hx hb hg in_Md hown hK hP 0 rfl rfl 23 (by decide) (hg _ k_1043) (fun _ h9 => h9) rfl d_Md_keptAnswer_72 ?_
                    refine lv_bipush (v := 16) hx hb d_Md_keptAnswer_75 (by decide) ?_
                    refine lv_iload_n hx hb d_Md_keptAnswer_77 rfl (lv_at hl 2 rfl) ?_
                    refine lv_imul hx hb d_Md_keptAnswer_78 ?_
                    refine lv_topi (fun x144 e143 => ?_)
                    obtain rfl : x144 = nI (16 * i) := by rw [e143]; exact pk_mul 16 i
                    refine lv_iload hx hb d_Md_keptAnswer_79 (lv_at hl 0 rfl) ?_
                    refine lv_iadd hx hb d_Md_keptAnswer_81 ?_
                    refine lv_topi (fun x146 e145 => ?_)
                    obtain rfl : x146 = nI ((16 * i) + q9) := by rw [e145]; exact nI_add (16 * i) q9
                    refine va_iald hx hb hK hP 5 0 rfl rfl (i := (nI ((16 * i) + q9))) (vp_in_nI (N := 656) (by omega) (by decide)) d_Md_keptAnswer_82 ?_
                    refine lv_topi (fun x147 e_x147 => ?_)
                    clear e_x147
                    refine lv_aload_n hx hb d_Md_keptAnswer_83 rfl (lv_at hl 3 rfl) ?_
                    refine va_get (D := (dC, dI)) (ci := 12) (v := (.ref (r 7))) (C := R_Md) (T := F_Md) (N := 45) hx hb hg in_Md hown hK hP 0 rfl rfl 7 (by decide) (hg _ k_1027) (fun _ h9 => h9) rfl d_Md_keptAnswer_84 ?_
                    refine lv_iconst (v := 4) hx hb d_Md_keptAnswer_87 (by decide) ?_
                    refine lv_iload hx hb d_Md_keptAnswer_88 (lv_at hl 0 rfl) ?_
                    refine lv_iadd hx hb d_Md_keptAnswer_90 ?_
                    refine lv_topi (fun x149 e148 => ?_)
                    obtain rfl : x149 = nI (4 + q9) := by rw [e148]; exact nI_add 4 q9
                    refine va_iald hx hb hK hP 1 0 rfl rfl (i := (nI (4 + q9))) (vp_in_nI (N := 1000) (by omega) (by decide)) d_Md_keptAnswer_91 ?_
                    refine lv_topi (fun x150 e_x150 => ?_)
                    clear e_x150
                    refine lv_icmp_ne (tgt := 99) hx hb d_Md_keptAnswer_92 (by decide) (fun hc151 => ?_) (fun hc151 => ?_)
                    · skip
                      refine lv_iconst (v := 0) hx hb d_Md_keptAnswer_99 (by decide) ?_
                      refine lv_istore_n (lv' := [(3, .int 0), (4, .int (nI q9)), (2, .int (nI i)), (0, .ref mo), (1, .int x)]) hx hb d_Md_keptAnswer_100 rfl hl (by decide) rfl (fun ls hl => ?_)
                      refine lv_iinc (k := 1) (v := nI (q9 + 1)) (lv' := [(4, .int (nI (q9 + 1))), (3, .int 0), (2, .int (nI i)), (0, .ref mo), (1, .int x)]) hx hb d_Md_keptAnswer_101 hl rfl (nI_1 q9) (by decide) rfl (fun ls hl => ?_)
                      refine lv_goto (tgt := 60) hx hb d_Md_keptAnswer_104 (by decide) ?_
                      have hl := lv_sub hl [0, 1, 2, 3, 4] (show _ = [(4, .int (nI (q9 + 1))), (3, .int 0), (2, .int (nI i)), (0, .ref mo), (1, .int x)] from rfl)
                      exact ih (q9 + 1) _ _ _ _ (by omega) (Or.inl rfl) hP hD hS hl
                    · skip
                      refine lv_iconst (v := 1) hx hb d_Md_keptAnswer_95 (by decide) ?_
                      refine lv_goto (tgt := 100) hx hb d_Md_keptAnswer_96 (by decide) ?_
                      refine lv_istore_n (lv' := [(3, .int 1), (4, .int (nI q9)), (2, .int (nI i)), (0, .ref mo), (1, .int x)]) hx hb d_Md_keptAnswer_100 rfl hl (by decide) rfl (fun ls hl => ?_)
                      refine lv_iinc (k := 1) (v := nI (q9 + 1)) (lv' := [(4, .int (nI (q9 + 1))), (3, .int 1), (2, .int (nI i)), (0, .ref mo), (1, .int x)]) hx hb d_Md_keptAnswer_101 hl rfl (nI_1 q9) (by decide) rfl (fun ls hl => ?_)
                      refine lv_goto (tgt := 60) hx hb d_Md_keptAnswer_104 (by decide) ?_
                      have hl := lv_sub hl [0, 1, 2, 3, 4] (show _ = [(4, .int (nI (q9 + 1))), (3, .int 1), (2, .int (nI i)), (0, .ref mo), (1, .int x)] from rfl)
                      exact ih (q9 + 1) _ _ _ _ (by omega) (Or.inr rfl) hP hD hS hl
              refine L135 _ (fun sm H locs ls hsm hP hD hS hl => ?_) (16 - 0) 0 0 H _ ls (by omega) (Or.inl rfl) hP hD hS hl
              refine lv_iload_n hx hb d_Md_keptAnswer_107 rfl (lv_at hl 1 rfl) ?_
              refine lv_if_eq (tgt := 113) hx hb d_Md_keptAnswer_108 (by decide) (fun hc152 => ?_) (fun hc152 => ?_)
              · skip
                refine lv_iinc (k := 2) (v := nI (i + 1)) (lv' := [(2, .int (nI (i + 1))), (4, .int (nI 16)), (3, .int sm), (0, .ref mo), (1, .int x)]) hx hb d_Md_keptAnswer_113 hl rfl (nI_1 i) (by decide) rfl (fun ls hl => ?_)
                refine lv_goto (tgt := 2) hx hb d_Md_keptAnswer_116 (by decide) ?_
                have hl := lv_sub hl [0, 3, 4] (show _ = [(2, .int (nI (i + 1))), (0, .ref mo), (1, .int x)] from rfl)
                exact ih (i + 1) _ _ _ (by omega) (by omega) hP hD hS hl
              · skip
                refine lv_iload_n hx hb d_Md_keptAnswer_111 rfl (lv_at hl 2 rfl) ?_
                have hl := lv_sub hl [3] (show _ = [(0, .ref mo)] from rfl)
                exact ex1 i _ _ _ (by omega) hP hD hS hl
            · skip
              refine lv_iconst (v := 1) hx hb d_Md_keptAnswer_51 (by decide) ?_
              refine lv_goto (tgt := 56) hx hb d_Md_keptAnswer_52 (by decide) ?_
              refine lv_istore_n (lv' := [(3, .int 1), (2, .int (nI i)), (0, .ref mo), (1, .int x)]) hx hb d_Md_keptAnswer_56 rfl hl (by decide) rfl (fun ls hl => ?_)
              refine lv_iconst (v := 0) hx hb d_Md_keptAnswer_57 (by decide) ?_
              refine lv_istore (lv' := [(4, .int 0), (3, .int 1), (2, .int (nI i)), (0, .ref mo), (1, .int x)]) hx hb d_Md_keptAnswer_58 hl (by decide) rfl (fun ls hl => ?_)
              have hl := lv_sub hl [0, 1, 2, 3, 4] (show _ = [(4, .int 0), (3, .int 1), (2, .int (nI i)), (0, .ref mo), (1, .int x)] from rfl)
              have L153 : ∀ (Q : State → Prop) (exit : ∀ (sm : Int32) (H : Heap) (locs : List Loc) (ls : Array Slot), (sm = 0 ∨ sm = 1) → va_P (dC, dI) vcl [(mo, .inr (12, mdG r cd tm (nI sn) (nI tx) (nI lz) (nI az) (nI na) (nI nt) (nI nr) mw ml mk dq)), (r 7, .inl ((cT 0), 1000, .inl f7)), (r 18, .inl ((cT 0), 41, .inl f18)), (r 19, .inl ((cT 0), 41, .inl f19)), (r 20, .inl ((cT 0), 41, .inl f20)), (r 23, .inl ((cT 0), 656, .inl f23))] H → va_D A [(mo, .inr (12, mdG r cd tm (nI sn) (nI tx) (nI lz) (nI az) (nI na) (nI nt) (nI nr) mw ml mk dq)), (r 7, .inl ((cT 0), 1000, .inl f7)), (r 18, .inl ((cT 0), 41, .inl f18)), (r 19, .inl ((cT 0), 41, .inl f19)), (r 20, .inl ((cT 0), 41, .inl f20)), (r 23, .inl ((cT 0), 656, .inl f23))] → va_S A s.heap H locs → lv_has ls 5 [(4, .int (nI 16)), (3, .int sm), (2, .int (nI i)), (0, .ref mo), (1, .int x)] → W p l e ({ frames := 0, cells := 0, slots := 0, locals := 0 } : Room) s m args below meth c H locs 0 0 Q (F0 m 107 ls [])) (j8 q9 : Nat) (sm : Int32) (H : Heap) (locs : List Loc) (ls : Array Slot), q9 + j8 = 16 → (sm = 0 ∨ sm = 1) → va_P (dC, dI) vcl [(mo, .inr (12, mdG r cd tm (nI sn) (nI tx) (nI lz) (nI az) (nI na) (nI nt) (nI nr) mw ml mk dq)), (r 7, .inl ((cT 0), 1000, .inl f7)), (r 18, .inl ((cT 0), 41, .inl f18)), (r 19, .inl ((cT 0), 41, .inl f19)), (r 20, .inl ((cT 0), 41, .inl f20)), (r 23, .inl ((cT 0), 656, .inl f23))] H → va_D A [(mo, .inr (12, mdG r cd tm (nI sn) (nI tx) (nI lz) (nI az) (nI na) (nI nt) (nI nr) mw ml mk dq)), (r 7, .inl ((cT 0), 1000, .inl f7)), (r 18, .inl ((cT 0), 41, .inl f18)), (r 19, .inl ((cT 0), 41, .inl f19)), (r 20, .inl ((cT 0), 41, .inl f20)), (r 23, .inl ((cT 0), 656, .inl f23))] → va_S A s.heap H locs → lv_has ls 5 [(4, .int (nI q9)), (3, .int sm), (2, .int (nI i)), (0, .ref mo), (1, .int x)] → W p l e ({ frames := 0, cells := 0, slots := 0, locals := 0 } : Room) s m args below meth c H locs 0 0 Q (F0 m 60 ls []) := by
                intro Q exit j8
                induction j8 with
                | zero => 
                  intro q9 sm H locs ls hij hsm hP hD hS hl
                  have hij : 16 = q9 := by omega
                  refine lv_iload hx hb d_Md_keptAnswer_60 (lv_at hl 0 rfl) ?_
                  refine lv_bipush (v := 16) hx hb d_Md_keptAnswer_62 (by decide) ?_
                  refine lv_topi (fun x155 e154 => ?_)
                  obtain rfl : x155 = nI 16 := by rw [e154]; rfl
                  refine lv_icmp_ge (tgt := 107) hx hb d_Md_keptAnswer_64 (by decide) (fun hc156 => ?_) (fun hn9 => absurd (nI_le (by omega) (by omega)) hn9)
                  subst hij
                  exact exit sm _ _ _ hsm hP hD hS hl
                | succ j8 ih => 
                  intro q9 sm H locs ls hij hsm hP hD hS hl
                  have hlt : q9 < 16 := by omega
                  have hltq9 := hlt
                  refine lv_iload hx hb d_Md_keptAnswer_60 (lv_at hl 0 rfl) ?_
                  refine lv_bipush (v := 16) hx hb d_Md_keptAnswer_62 (by decide) ?_
                  refine lv_topi (fun x158 e157 => ?_)
                  obtain rfl : x158 = nI 16 := by rw [e157]; rfl
                  refine lv_icmp_ge (tgt := 107) hx hb d_Md_keptAnswer_64 (by decide) (fun hn9 => absurd hn9 (nI_ge (by omega) (by omega))) (fun hc159 => ?_)
                  refine lv_iload_n hx hb d_Md_keptAnswer_67 rfl (lv_at hl 1 rfl) ?_
                  refine lv_if_eq (tgt := 99) hx hb d_Md_keptAnswer_68 (by decide) (fun hc160 => ?_) (fun hc160 => ?_)
                  · skip
                    refine lv_iconst (v := 0) hx hb d_Md_keptAnswer_99 (by decide) ?_
                    refine lv_istore_n (lv' := [(3, .int 0), (4, .int (nI q9)), (2, .int (nI i)), (0, .ref mo), (1, .int x)]) hx hb d_Md_keptAnswer_100 rfl hl (by decide) rfl (fun ls hl => ?_)
                    refine lv_iinc (k := 1) (v := nI (q9 + 1)) (lv' := [(4, .int (nI (q9 + 1))), (3, .int 0), (2, .int (nI i)), (0, .ref mo), (1, .int x)]) hx hb d_Md_keptAnswer_101 hl rfl (nI_1 q9) (by decide) rfl (fun ls hl => ?_)
                    refine lv_goto (tgt := 60) hx hb d_Md_keptAnswer_104 (by decide) ?_
                    have hl := lv_sub hl [0, 1, 2, 3, 4] (show _ = [(4, .int (nI (q9 + 1))), (3, .int 0), (2, .int (nI i)), (0, .ref mo), (1, .int x)] from rfl)
                    exact ih (q9 + 1) _ _ _ _ (by omega) (Or.inl rfl) hP hD hS hl
                  · skip
                    refine lv_aload_n hx hb d_Md_keptAnswer_71 rfl (lv_at hl 3 rfl) ?_
                    refine va_get (D := (dC, dI)) (ci := 12) (v := (.ref (r 23))) (C := R_Md) (T := F_Md) (N := 45) hx hb hg in_Md hown hK hP 0 rfl rfl 23 (by decide) (hg _ k_1043) (fun _ h9 => h9) rfl d_Md_keptAnswer_72 ?_
                    refine lv_bipush (v := 16) hx hb d_Md_keptAnswer_75 (by decide) ?_
                    refine lv_iload_n hx hb d_Md_keptAnswer_77 rfl (lv_at hl 2 rfl) ?_
                    refine lv_imul hx hb d_Md_keptAnswer_78 ?_
                    refine lv_topi (fun x162 e161 => ?_)
                    obtain rfl : x162 = nI (16 * i) := by rw [e161]; exact pk_mul 16 i
                    refine lv_iload hx hb d_Md_keptAnswer_79 (lv_at hl 0 rfl) ?_
                    refine lv_iadd hx hb d_Md_keptAnswer_81 ?_
                    refine lv_topi (fun x164 e163 => ?_)
                    obtain rfl : x164 = nI ((16 * i) + q9) := by rw [e163]; exact nI_add (16 * i) q9
                    refine va_iald hx hb hK hP 5 0 rfl rfl (i := (nI ((16 * i) + q9))) (vp_in_nI (N := 656) (by omega) (by decide)) d_Md_keptAnswer_82 ?_
                    refine lv_topi (fun x165 e_x165 => ?_)
                    clear e_x165
                    refine lv_aload_n hx hb d_Md_keptAnswer_83 rfl (lv_at hl 3 rfl) ?_
                    refine va_get (D := (dC, dI)) (ci := 12) (v := (.ref (r 7))) (C := R_Md) (T := F_Md) (N := 45) hx hb hg in_Md hown hK hP 0 rfl rfl 7 (by decide) (hg _ k_1027) (fun _ h9 => h9) rfl d_Md_keptAnswer_84 ?_
                    refine lv_iconst (v := 4) hx hb d_Md_keptAnswer_87 (by decide) ?_
                    refine lv_iload hx hb d_Md_keptAnswer_88 (lv_at hl 0 rfl) ?_
                    refine lv_iadd hx hb d_Md_keptAnswer_90 ?_
                    refine lv_topi (fun x167 e166 => ?_)
                    obtain rfl : x167 = nI (4 + q9) := by rw [e166]; exact nI_add 4 q9
                    refine va_iald hx hb hK hP 1 0 rfl rfl (i := (nI (4 + q9))) (vp_in_nI (N := 1000) (by omega) (by decide)) d_Md_keptAnswer_91 ?_
                    refine lv_topi (fun x168 e_x168 => ?_)
                    clear e_x168
                    refine lv_icmp_ne (tgt := 99) hx hb d_Md_keptAnswer_92 (by decide) (fun hc169 => ?_) (fun hc169 => ?_)
                    · skip
                      refine lv_iconst (v := 0) hx hb d_Md_keptAnswer_99 (by decide) ?_
                      refine lv_istore_n (lv' := [(3, .int 0), (4, .int (nI q9)), (2, .int (nI i)), (0, .ref mo), (1, .int x)]) hx hb d_Md_keptAnswer_100 rfl hl (by decide) rfl (fun ls hl => ?_)
                      refine lv_iinc (k := 1) (v := nI (q9 + 1)) (lv' := [(4, .int (nI (q9 + 1))), (3, .int 0), (2, .int (nI i)), (0, .ref mo), (1, .int x)]) hx hb d_Md_keptAnswer_101 hl rfl (nI_1 q9) (by decide) rfl (fun ls hl => ?_)
                      refine lv_goto (tgt := 60) hx hb d_Md_keptAnswer_104 (by decide) ?_
                      have hl := lv_sub hl [0, 1, 2, 3, 4] (show _ = [(4, .int (nI (q9 + 1))), (3, .int 0), (2, .int (nI i)), (0, .ref mo), (1, .int x)] from rfl)
                      exact ih (q9 + 1) _ _ _ _ (by omega) (Or.inl rfl) hP hD hS hl
                    · skip
                      refine lv_iconst (v := 1) hx hb d_Md_keptAnswer_95 (by decide) ?_
                      refine lv_goto (tgt := 100) hx hb d_Md_keptAnswer_96 (by decide) ?_
                      refine lv_istore_n (lv' := [(3, .int 1), (4, .int (nI q9)), (2, .int (nI i)), (0, .ref mo), (1, .int x)]) hx hb d_Md_keptAnswer_100 rfl hl (by decide) rfl (fun ls hl => ?_)
                      refine lv_iinc (k := 1) (v := nI (q9 + 1)) (lv' := [(4, .int (nI (q9 + 1))), (3, .int 1), (2, .int (nI i)), (0, .ref mo), (1, .int x)]) hx hb d_Md_keptAnswer_101 hl rfl (nI_1 q9) (by decide) rfl (fun ls hl => ?_)
                      refine lv_goto (tgt := 60) hx hb d_Md_keptAnswer_104 (by decide) ?_
                      have hl := lv_sub hl [0, 1, 2, 3, 4] (show _ = [(4, .int (nI (q9 + 1))), (3, .int 1), (2, .int (nI i)), (0, .ref mo), (1, .int x)] from rfl)
                      exact ih (q9 + 1) _ _ _ _ (by omega) (Or.inr rfl) hP hD hS hl
              refine L153 _ (fun sm H locs ls hsm hP hD hS hl => ?_) (16 - 0) 0 1 H _ ls (by omega) (Or.inr rfl) hP hD hS hl
              refine lv_iload_n hx hb d_Md_keptAnswer_107 rfl (lv_at hl 1 rfl) ?_
              refine lv_if_eq (tgt := 113) hx hb d_Md_keptAnswer_108 (by decide) (fun hc170 => ?_) (fun hc170 => ?_)
              · skip
                refine lv_iinc (k := 2) (v := nI (i + 1)) (lv' := [(2, .int (nI (i + 1))), (4, .int (nI 16)), (3, .int sm), (0, .ref mo), (1, .int x)]) hx hb d_Md_keptAnswer_113 hl rfl (nI_1 i) (by decide) rfl (fun ls hl => ?_)
                refine lv_goto (tgt := 2) hx hb d_Md_keptAnswer_116 (by decide) ?_
                have hl := lv_sub hl [0, 3, 4] (show _ = [(2, .int (nI (i + 1))), (0, .ref mo), (1, .int x)] from rfl)
                exact ih (i + 1) _ _ _ (by omega) (by omega) hP hD hS hl
              · skip
                refine lv_iload_n hx hb d_Md_keptAnswer_111 rfl (lv_at hl 2 rfl) ?_
                have hl := lv_sub hl [3] (show _ = [(0, .ref mo)] from rfl)
                exact ex1 i _ _ _ (by omega) hP hD hS hl
  refine L1 _ (fun i H locs ls  hP hD hS hl => ?_) (fun i H locs ls hxa hP hD hS hl => ?_) (na - 0) 0 s.heap _ ls (Nat.le_refl _) (by omega) hP hD hS hl
  · skip
    refine lv_iconst (v := (-1)) hx hb d_Md_keptAnswer_119 (by decide) ?_
    have hP9 := hP.sub (ws' := [(mo, .inr (12, mdG r cd tm (nI sn) (nI tx) (nI lz) (nI az) (nI na) (nI nt) (nI nr) mw ml mk dq)), (r 7, .inl ((cT 0), 1000, .inl f7)), (r 18, .inl ((cT 0), 41, .inl f18)), (r 19, .inl ((cT 0), 41, .inl f19)), (r 20, .inl ((cT 0), 41, .inl f20)), (r 23, .inl ((cT 0), 656, .inl f23))]) [0, 1, 2, 3, 4, 5] rfl
    have hD9 := hD.sub (ws' := [(mo, .inr (12, mdG r cd tm (nI sn) (nI tx) (nI lz) (nI az) (nI na) (nI nt) (nI nr) mw ml mk dq)), (r 7, .inl ((cT 0), 1000, .inl f7)), (r 18, .inl ((cT 0), 41, .inl f18)), (r 19, .inl ((cT 0), 41, .inl f19)), (r 20, .inl ((cT 0), 41, .inl f20)), (r 23, .inl ((cT 0), 656, .inl f23))]) [0, 1, 2, 3, 4, 5] (by decide) rfl
    exact W.iret (v := (-1)) hx hb hr (fun t ht hW => ⟨⟨_, (), rfl, Or.inl rfl, by rw [ht]; exact hP9, va_K.moved hW.alike hK, hD9⟩, hS.F ht⟩) hS.2.2 d_Md_keptAnswer_120
  · skip
    have hP9 := hP.sub (ws' := [(mo, .inr (12, mdG r cd tm (nI sn) (nI tx) (nI lz) (nI az) (nI na) (nI nt) (nI nr) mw ml mk dq)), (r 7, .inl ((cT 0), 1000, .inl f7)), (r 18, .inl ((cT 0), 41, .inl f18)), (r 19, .inl ((cT 0), 41, .inl f19)), (r 20, .inl ((cT 0), 41, .inl f20)), (r 23, .inl ((cT 0), 656, .inl f23))]) [0, 1, 2, 3, 4, 5] rfl
    have hD9 := hD.sub (ws' := [(mo, .inr (12, mdG r cd tm (nI sn) (nI tx) (nI lz) (nI az) (nI na) (nI nt) (nI nr) mw ml mk dq)), (r 7, .inl ((cT 0), 1000, .inl f7)), (r 18, .inl ((cT 0), 41, .inl f18)), (r 19, .inl ((cT 0), 41, .inl f19)), (r 20, .inl ((cT 0), 41, .inl f20)), (r 23, .inl ((cT 0), 656, .inl f23))]) [0, 1, 2, 3, 4, 5] (by decide) rfl
    exact W.iret (v := nI i) hx hb hr (fun t ht hW => ⟨⟨_, (), rfl, Or.inr ⟨i, rfl, hxa⟩, by rw [ht]; exact hP9, va_K.moved hW.alike hK, hD9⟩, hS.F ht⟩) hS.2.2 d_Md_keptAnswer_112
set_option maxHeartbeats 4000000 in
set_option maxRecDepth 100000 in
/-- open -/
theorem m_open (l : Launch) (dC : Nat → ClassId) (dI : Nat → Nat → Nat) (cT : Nat → ClassId) (sz : Nat) (mo : Nat) (r : Nat → Nat) (cd : Int32) (tm : Int32) (sn : Nat) (tx : Nat) (lz : Nat) (az : Nat) (na : Nat) (nt : Nat) (nr : Nat) (mw : Int32) (ml : Int32) (mk : Int64) (dq : Int64) (f7 : Nat → Int32) (f15 : Nat → Int32) (x : Int32)  : Met l y_Md_open (Cond.code y_Md_open b_Md_open 3 (Option.none : Option Jvm.ClassFile.FieldType) :: BIG) ({ frames := 1, cells := 0, slots := 0, locals := 21 }) (va_Pc [.ref mo, .int x] (fun U => U.heap.size = sz ∧ va_P (dC, dI) vcl [(mo, .inr (12, mdG r cd tm (nI sn) (nI tx) (nI lz) (nI az) (nI na) (nI nt) (nI nr) mw ml mk dq)), (r 7, .inl ((cT 0), 1000, .inl f7)), (r 15, .inl ((cT 0), 200, .inl f15))] U.heap ∧ va_K (dC, dI) vcl (tyL cT) U ∧ va_D (fun _ => True) [(mo, .inr (12, mdG r cd tm (nI sn) (nI tx) (nI lz) (nI az) (nI na) (nI nt) (nI nr) mw ml mk dq)), (r 7, .inl ((cT 0), 1000, .inl f7)), (r 15, .inl ((cT 0), 200, .inl f15))])) (va_Qv (S := (Nat → Int32)) (fun u => match u with | g15 => True) (fun u t => match u with | g15 => va_P (dC, dI) vcl [(mo, .inr (12, mdG r cd tm (nI sn) (nI tx) (nI lz) (nI 20) (nI na) (nI nt) (nI nr) mw ml mk dq)), (r 7, .inl ((cT 0), 1000, .inl f7)), (r 15, .inl ((cT 0), 200, .inl g15))] t.heap ∧ va_K (dC, dI) vcl (tyL cT) t ∧ va_D (va_A [(mo, .inr (12, mdG r cd tm (nI sn) (nI tx) (nI lz) (nI az) (nI na) (nI nt) (nI nr) mw ml mk dq)), (r 7, .inl ((cT 0), 1000, .inl f7)), (r 15, .inl ((cT 0), 200, .inl f15))] sz) [(mo, .inr (12, mdG r cd tm (nI sn) (nI tx) (nI lz) (nI 20) (nI na) (nI nt) (nI nr) mw ml mk dq)), (r 7, .inl ((cT 0), 1000, .inl f7)), (r 15, .inl ((cT 0), 200, .inl g15))]) (va_A [(mo, .inr (12, mdG r cd tm (nI sn) (nI tx) (nI lz) (nI az) (nI na) (nI nt) (nI nr) mw ml mk dq)), (r 7, .inl ((cT 0), 1000, .inl f7)), (r 15, .inl ((cT 0), 200, .inl f15))] sz)) 0 0 (va_A [(mo, .inr (12, mdG r cd tm (nI sn) (nI tx) (nI lz) (nI az) (nI na) (nI nt) (nI nr) mw ml mk dq)), (r 7, .inl ((cT 0), 1000, .inl f7)), (r 15, .inl ((cT 0), 200, .inl f15))] sz) := by
  refine Met.ofW (cc := b_Md_open) (maxL := 3) (ret := (Option.none : Option Jvm.ClassFile.FieldType)) (by decide) rfl ?_
  intro p e s m args below meth c s₁ B hml hv
  obtain ⟨hargs, hsz, hP, hK, hD0⟩ := hv
  have hx := B.exec
  have hb := B.bytes
  have hr := B.returns
  have hts := atoms_spec (ws := (Cond.code y_Md_open b_Md_open 3 (Option.none : Option Jvm.ClassFile.FieldType) :: BIG)) B.pre
  have hg : ∀ w ∈ BIG, w.before _ s = true := fun w h => hts w (List.mem_cons_of_mem _ h)
  have hown : s.vm.findClass "DoorServerModel" = some m.cls := findClass_of_methodNamed B.named
  have hlocks := B.notSynchronized
  subst hsz
  have hD := hD0.self (sz := s.heap.size)
  generalize hAe : va_A [(mo, .inr (12, mdG r cd tm (nI sn) (nI tx) (nI lz) (nI az) (nI na) (nI nt) (nI nr) mw ml mk dq)), (r 7, .inl ((cT 0), 1000, .inl f7)), (r 15, .inl ((cT 0), 200, .inl f15))] s.heap.size = A at hD ⊢
  have hA : ∀ q : Nat, s.heap.size ≤ q → A q := fun q h => by rw [← hAe]; exact Or.inr h
  have hS : va_S A s.heap s.heap [] := va_S.rf
  have hl := lv_entry ([.ref mo, .int x]) (n := 3) (Nat.le_of_ble_eq_true rfl)
  refine W.eq (g2 := entryFrame m (List.toArray [.ref mo, .int x]) 3) (by rw [hargs]) ?_
  rw [lg_entry_eq]
  generalize (lg_sl ([.ref mo, .int x]) ++ List.replicate (3 - (lg_sl ([.ref mo, .int x])).length) Slot.unset).toArray = ls at hl ⊢
  have hl : lv_has ls 3 [(0, .ref mo), (1, .int x)] := hl
  change W p l e ({ frames := 1, cells := 0, slots := 0, locals := 21 } : Room) s m args below meth c s.heap [] 0 0 _ _
  have hP : va_P (dC, dI) vcl [(mo, .inr (12, mdG r cd tm (nI sn) (nI tx) (nI lz) (nI az) (nI na) (nI nt) (nI nr) mw ml mk dq)), (r 7, .inl ((cT 0), 1000, .inl f7)), (r 15, .inl ((cT 0), 200, .inl f15))] s.heap := hP
  refine lv_aload_n hx hb d_Md_open_0 rfl (lv_at hl 0 rfl) ?_
  refine lv_iconst (v := 0) hx hb d_Md_open_1 (by decide) ?_
  refine lv_topi (fun x172 e171 => ?_)
  obtain rfl : x172 = nI 0 := by rw [e171]; rfl
  refine va_put (D := (dC, dI)) (ci := 12) (v := (.int (nI 0))) (ty := .int) (C := R_Md) (T := F_Md) (N := 45) hx hb hg in_Md t_Md tok_Md nm_Md hown hK hP hD hS 0 rfl rfl 16 (by decide) (hg _ k_1036) (fun _ h9 => h9) rfl (by decide +kernel) rfl rfl (Nat.le_of_ble_eq_true rfl) d_Md_open_2 (fun H locs hP hD hS => ?_)
  have hP : va_P (dC, dI) vcl [(mo, .inr (12, mdG r cd tm (nI sn) (nI tx) (nI lz) (nI 0) (nI na) (nI nt) (nI nr) mw ml mk dq)), (r 7, .inl ((cT 0), 1000, .inl f7)), (r 15, .inl ((cT 0), 200, .inl f15))] H := hP
  have hD : va_D A [(mo, .inr (12, mdG r cd tm (nI sn) (nI tx) (nI lz) (nI 0) (nI na) (nI nt) (nI nr) mw ml mk dq)), (r 7, .inl ((cT 0), 1000, .inl f7)), (r 15, .inl ((cT 0), 200, .inl f15))] := hD
  refine lv_aload_n hx hb d_Md_open_5 rfl (lv_at hl 0 rfl) ?_
  refine lv_iload_n hx hb d_Md_open_6 rfl (lv_at hl 1 rfl) ?_
  have hPc := hP.sub (ws' := [(mo, .inr (12, mdG r cd tm (nI sn) (nI tx) (nI lz) (nI 0) (nI na) (nI nt) (nI nr) mw ml mk dq)), (r 15, .inl ((cT 0), 200, .inl f15))]) [0, 2] rfl
  have hDc := hD.sub (ws' := [(mo, .inr (12, mdG r cd tm (nI sn) (nI tx) (nI lz) (nI 0) (nI na) (nI nt) (nI nr) mw ml mk dq)), (r 15, .inl ((cT 0), 200, .inl f15))]) [0, 2] (by decide) rfl
  have hFc := va_free (wc := [(mo, .inr (12, mdG r cd tm (nI sn) (nI tx) (nI lz) (nI 0) (nI na) (nI nt) (nI nr) mw ml mk dq)), (r 15, .inl ((cT 0), 200, .inl f15))]) hD hS hA [0, 2] rfl
  refine va_callv (va_runV (C := "DoorServerModel") (As := [.int x]) (rest := []) ⟨hx, hb, hml, hown, hg⟩ (m_tell l dC dI cT H.size mo r cd tm sn tx lz 0 na nt nr mw ml mk dq f15 x (by first | assumption | omega)) (cwV 1 hg (gI (List.forall_mem_append.mpr ⟨List.forall_mem_cons.mpr ⟨k_1337, List.forall_mem_cons.mpr ⟨k_1339, List.forall_mem_cons.mpr ⟨(big_sel (q := y_Md_tell) (n := 45) (by decide +kernel)), List.forall_mem_cons.mpr ⟨k_13, fun _ h => absurd h List.not_mem_nil⟩⟩⟩⟩, List.forall_mem_cons.mpr ⟨k_1340, fun _ h => h⟩⟩)) rfl rfl rfl (by decide +kernel) ⟨Nat.le_of_ble_eq_true rfl, Nat.le_of_ble_eq_true rfl⟩) ⟨fun a U g mk q => by obtain ⟨q0, q1, qP, qK, qD⟩ := q; exact ⟨q0, q1, qP, va_K.moved (u := U) (U := U.calling g mk a) (Vm.Alike.refl U.vm) qK, qD⟩, va_recv (q0 := 0) (ci := 12) hK hP rfl rfl, fun U hU hW => ⟨rfl, by rw [hU], by rw [hU]; exact hPc, va_K.moved hW.alike hK, hDc.weaken (fun _ _ _ _ => trivial)⟩⟩ rfl rfl hl.1 rfl (lv_room (Nat.le_of_ble_eq_true rfl)) d_Md_open_7 ⟨Nat.le_of_ble_eq_true rfl, Nat.le_of_ble_eq_true rfl⟩) hS (fun q _ h => hFc q h) hFc (fun u t H1 locs ht hvm hw hB hz1 hk1 hS => ?_)
  obtain ⟨g15_173, rfl⟩ : ∃ z, z = u := ⟨_, rfl⟩
  try dsimp only at hw hB
  obtain ⟨hP1, hK1, hD1⟩ := hB
  rw [ht] at hP1
  obtain ⟨hP, hD⟩ := va_join (wr := [(r 7, .inl ((cT 0), 1000, .inl f7))]) (w1 := [(mo, .inr (12, mdG r cd tm (nI sn) (nI tx) (nI lz) (nI (0 + 1)) (nI na) (nI nt) (nI nr) mw ml mk dq)), (r 15, .inl ((cT 0), 200, .inl g15_173))]) hP hD [0, 2] [1] rfl rfl (by decide) (by decide) hk1 hFc hP1 hD1
  have hw174 := hw
  clear hPc hDc hFc hz1 hk1 hP1 hK1 hD1
  generalize H1 = H at hP hS ⊢
  have hP : va_P (dC, dI) vcl [(r 7, .inl ((cT 0), 1000, .inl f7)), (mo, .inr (12, mdG r cd tm (nI sn) (nI tx) (nI lz) (nI (0 + 1)) (nI na) (nI nt) (nI nr) mw ml mk dq)), (r 15, .inl ((cT 0), 200, .inl g15_173))] H := hP
  have hD : va_D A [(r 7, .inl ((cT 0), 1000, .inl f7)), (mo, .inr (12, mdG r cd tm (nI sn) (nI tx) (nI lz) (nI (0 + 1)) (nI na) (nI nt) (nI nr) mw ml mk dq)), (r 15, .inl ((cT 0), 200, .inl g15_173))] := hD
  refine lv_aload_n hx hb d_Md_open_10 rfl (lv_at hl 0 rfl) ?_
  refine lv_aload_n hx hb d_Md_open_11 rfl (lv_at hl 0 rfl) ?_
  refine va_get (D := (dC, dI)) (ci := 12) (v := (.ref (r 7))) (C := R_Md) (T := F_Md) (N := 45) hx hb hg in_Md hown hK hP 1 rfl rfl 7 (by decide) (hg _ k_1027) (fun _ h9 => h9) rfl d_Md_open_12 ?_
  refine lv_iconst (v := 1) hx hb d_Md_open_15 (by decide) ?_
  refine lv_topi (fun x176 e175 => ?_)
  obtain rfl : x176 = nI 1 := by rw [e175]; rfl
  refine va_iald hx hb hK hP 0 0 rfl rfl (i := (nI 1)) (vp_in_nI (N := 1000) (by omega) (by decide)) d_Md_open_16 ?_
  refine lv_topi (fun x177 e_x177 => ?_)
  clear e_x177
  have hPc := hP.sub (ws' := [(mo, .inr (12, mdG r cd tm (nI sn) (nI tx) (nI lz) (nI (0 + 1)) (nI na) (nI nt) (nI nr) mw ml mk dq)), (r 15, .inl ((cT 0), 200, .inl g15_173))]) [1, 2] rfl
  have hDc := hD.sub (ws' := [(mo, .inr (12, mdG r cd tm (nI sn) (nI tx) (nI lz) (nI (0 + 1)) (nI na) (nI nt) (nI nr) mw ml mk dq)), (r 15, .inl ((cT 0), 200, .inl g15_173))]) [1, 2] (by decide) rfl
  have hFc := va_free (wc := [(mo, .inr (12, mdG r cd tm (nI sn) (nI tx) (nI lz) (nI (0 + 1)) (nI na) (nI nt) (nI nr) mw ml mk dq)), (r 15, .inl ((cT 0), 200, .inl g15_173))]) hD hS hA [1, 2] rfl
  refine va_callv (va_runV (C := "DoorServerModel") (As := [.int x177]) (rest := []) ⟨hx, hb, hml, hown, hg⟩ (m_tell l dC dI cT H.size mo r cd tm sn tx lz (0 + 1) na nt nr mw ml mk dq g15_173 x177 (by first | assumption | omega)) (cwV 1 hg (gI (List.forall_mem_append.mpr ⟨List.forall_mem_cons.mpr ⟨k_1337, List.forall_mem_cons.mpr ⟨k_1339, List.forall_mem_cons.mpr ⟨(big_sel (q := y_Md_tell) (n := 45) (by decide +kernel)), List.forall_mem_cons.mpr ⟨k_13, fun _ h => absurd h List.not_mem_nil⟩⟩⟩⟩, List.forall_mem_cons.mpr ⟨k_1340, fun _ h => h⟩⟩)) rfl rfl rfl (by decide +kernel) ⟨Nat.le_of_ble_eq_true rfl, Nat.le_of_ble_eq_true rfl⟩) ⟨fun a U g mk q => by obtain ⟨q0, q1, qP, qK, qD⟩ := q; exact ⟨q0, q1, qP, va_K.moved (u := U) (U := U.calling g mk a) (Vm.Alike.refl U.vm) qK, qD⟩, va_recv (q0 := 1) (ci := 12) hK hP rfl rfl, fun U hU hW => ⟨rfl, by rw [hU], by rw [hU]; exact hPc, va_K.moved hW.alike hK, hDc.weaken (fun _ _ _ _ => trivial)⟩⟩ rfl rfl hl.1 rfl (lv_room (Nat.le_of_ble_eq_true rfl)) d_Md_open_17 ⟨Nat.le_of_ble_eq_true rfl, Nat.le_of_ble_eq_true rfl⟩) hS (fun q _ h => hFc q h) hFc (fun u t H1 locs ht hvm hw hB hz1 hk1 hS => ?_)
  obtain ⟨g15_178, rfl⟩ : ∃ z, z = u := ⟨_, rfl⟩
  try dsimp only at hw hB
  obtain ⟨hP1, hK1, hD1⟩ := hB
  rw [ht] at hP1
  obtain ⟨hP, hD⟩ := va_join (wr := [(r 7, .inl ((cT 0), 1000, .inl f7))]) (w1 := [(mo, .inr (12, mdG r cd tm (nI sn) (nI tx) (nI lz) (nI ((0 + 1) + 1)) (nI na) (nI nt) (nI nr) mw ml mk dq)), (r 15, .inl ((cT 0), 200, .inl g15_178))]) hP hD [1, 2] [0] rfl rfl (by decide) (by decide) hk1 hFc hP1 hD1
  have hw179 := hw
  clear hPc hDc hFc hz1 hk1 hP1 hK1 hD1
  generalize H1 = H at hP hS ⊢
  have hP : va_P (dC, dI) vcl [(r 7, .inl ((cT 0), 1000, .inl f7)), (mo, .inr (12, mdG r cd tm (nI sn) (nI tx) (nI lz) (nI ((0 + 1) + 1)) (nI na) (nI nt) (nI nr) mw ml mk dq)), (r 15, .inl ((cT 0), 200, .inl g15_178))] H := hP
  have hD : va_D A [(r 7, .inl ((cT 0), 1000, .inl f7)), (mo, .inr (12, mdG r cd tm (nI sn) (nI tx) (nI lz) (nI ((0 + 1) + 1)) (nI na) (nI nt) (nI nr) mw ml mk dq)), (r 15, .inl ((cT 0), 200, .inl g15_178))] := hD
  refine lv_aload_n hx hb d_Md_open_20 rfl (lv_at hl 0 rfl) ?_
  refine lv_iconst (v := 0) hx hb d_Md_open_21 (by decide) ?_
  have hPc := hP.sub (ws' := [(mo, .inr (12, mdG r cd tm (nI sn) (nI tx) (nI lz) (nI ((0 + 1) + 1)) (nI na) (nI nt) (nI nr) mw ml mk dq)), (r 15, .inl ((cT 0), 200, .inl g15_178))]) [1, 2] rfl
  have hDc := hD.sub (ws' := [(mo, .inr (12, mdG r cd tm (nI sn) (nI tx) (nI lz) (nI ((0 + 1) + 1)) (nI na) (nI nt) (nI nr) mw ml mk dq)), (r 15, .inl ((cT 0), 200, .inl g15_178))]) [1, 2] (by decide) rfl
  have hFc := va_free (wc := [(mo, .inr (12, mdG r cd tm (nI sn) (nI tx) (nI lz) (nI ((0 + 1) + 1)) (nI na) (nI nt) (nI nr) mw ml mk dq)), (r 15, .inl ((cT 0), 200, .inl g15_178))]) hD hS hA [1, 2] rfl
  refine va_callv (va_runV (C := "DoorServerModel") (As := [.int 0]) (rest := []) ⟨hx, hb, hml, hown, hg⟩ (m_tell l dC dI cT H.size mo r cd tm sn tx lz ((0 + 1) + 1) na nt nr mw ml mk dq g15_178 0 (by first | assumption | omega)) (cwV 1 hg (gI (List.forall_mem_append.mpr ⟨List.forall_mem_cons.mpr ⟨k_1337, List.forall_mem_cons.mpr ⟨k_1339, List.forall_mem_cons.mpr ⟨(big_sel (q := y_Md_tell) (n := 45) (by decide +kernel)), List.forall_mem_cons.mpr ⟨k_13, fun _ h => absurd h List.not_mem_nil⟩⟩⟩⟩, List.forall_mem_cons.mpr ⟨k_1340, fun _ h => h⟩⟩)) rfl rfl rfl (by decide +kernel) ⟨Nat.le_of_ble_eq_true rfl, Nat.le_of_ble_eq_true rfl⟩) ⟨fun a U g mk q => by obtain ⟨q0, q1, qP, qK, qD⟩ := q; exact ⟨q0, q1, qP, va_K.moved (u := U) (U := U.calling g mk a) (Vm.Alike.refl U.vm) qK, qD⟩, va_recv (q0 := 1) (ci := 12) hK hP rfl rfl, fun U hU hW => ⟨rfl, by rw [hU], by rw [hU]; exact hPc, va_K.moved hW.alike hK, hDc.weaken (fun _ _ _ _ => trivial)⟩⟩ rfl rfl hl.1 rfl (lv_room (Nat.le_of_ble_eq_true rfl)) d_Md_open_22 ⟨Nat.le_of_ble_eq_true rfl, Nat.le_of_ble_eq_true rfl⟩) hS (fun q _ h => hFc q h) hFc (fun u t H1 locs ht hvm hw hB hz1 hk1 hS => ?_)
  obtain ⟨g15_180, rfl⟩ : ∃ z, z = u := ⟨_, rfl⟩
  try dsimp only at hw hB
  obtain ⟨hP1, hK1, hD1⟩ := hB
  rw [ht] at hP1
  obtain ⟨hP, hD⟩ := va_join (wr := [(r 7, .inl ((cT 0), 1000, .inl f7))]) (w1 := [(mo, .inr (12, mdG r cd tm (nI sn) (nI tx) (nI lz) (nI (((0 + 1) + 1) + 1)) (nI na) (nI nt) (nI nr) mw ml mk dq)), (r 15, .inl ((cT 0), 200, .inl g15_180))]) hP hD [1, 2] [0] rfl rfl (by decide) (by decide) hk1 hFc hP1 hD1
  have hw181 := hw
  clear hPc hDc hFc hz1 hk1 hP1 hK1 hD1
  generalize H1 = H at hP hS ⊢
  have hP : va_P (dC, dI) vcl [(r 7, .inl ((cT 0), 1000, .inl f7)), (mo, .inr (12, mdG r cd tm (nI sn) (nI tx) (nI lz) (nI (((0 + 1) + 1) + 1)) (nI na) (nI nt) (nI nr) mw ml mk dq)), (r 15, .inl ((cT 0), 200, .inl g15_180))] H := hP
  have hD : va_D A [(r 7, .inl ((cT 0), 1000, .inl f7)), (mo, .inr (12, mdG r cd tm (nI sn) (nI tx) (nI lz) (nI (((0 + 1) + 1) + 1)) (nI na) (nI nt) (nI nr) mw ml mk dq)), (r 15, .inl ((cT 0), 200, .inl g15_180))] := hD
  refine lv_aload_n hx hb d_Md_open_25 rfl (lv_at hl 0 rfl) ?_
  refine lv_iconst (v := 0) hx hb d_Md_open_26 (by decide) ?_
  have hPc := hP.sub (ws' := [(mo, .inr (12, mdG r cd tm (nI sn) (nI tx) (nI lz) (nI (((0 + 1) + 1) + 1)) (nI na) (nI nt) (nI nr) mw ml mk dq)), (r 15, .inl ((cT 0), 200, .inl g15_180))]) [1, 2] rfl
  have hDc := hD.sub (ws' := [(mo, .inr (12, mdG r cd tm (nI sn) (nI tx) (nI lz) (nI (((0 + 1) + 1) + 1)) (nI na) (nI nt) (nI nr) mw ml mk dq)), (r 15, .inl ((cT 0), 200, .inl g15_180))]) [1, 2] (by decide) rfl
  have hFc := va_free (wc := [(mo, .inr (12, mdG r cd tm (nI sn) (nI tx) (nI lz) (nI (((0 + 1) + 1) + 1)) (nI na) (nI nt) (nI nr) mw ml mk dq)), (r 15, .inl ((cT 0), 200, .inl g15_180))]) hD hS hA [1, 2] rfl
  refine va_callv (va_runV (C := "DoorServerModel") (As := [.int 0]) (rest := []) ⟨hx, hb, hml, hown, hg⟩ (m_tell l dC dI cT H.size mo r cd tm sn tx lz (((0 + 1) + 1) + 1) na nt nr mw ml mk dq g15_180 0 (by first | assumption | omega)) (cwV 1 hg (gI (List.forall_mem_append.mpr ⟨List.forall_mem_cons.mpr ⟨k_1337, List.forall_mem_cons.mpr ⟨k_1339, List.forall_mem_cons.mpr ⟨(big_sel (q := y_Md_tell) (n := 45) (by decide +kernel)), List.forall_mem_cons.mpr ⟨k_13, fun _ h => absurd h List.not_mem_nil⟩⟩⟩⟩, List.forall_mem_cons.mpr ⟨k_1340, fun _ h => h⟩⟩)) rfl rfl rfl (by decide +kernel) ⟨Nat.le_of_ble_eq_true rfl, Nat.le_of_ble_eq_true rfl⟩) ⟨fun a U g mk q => by obtain ⟨q0, q1, qP, qK, qD⟩ := q; exact ⟨q0, q1, qP, va_K.moved (u := U) (U := U.calling g mk a) (Vm.Alike.refl U.vm) qK, qD⟩, va_recv (q0 := 1) (ci := 12) hK hP rfl rfl, fun U hU hW => ⟨rfl, by rw [hU], by rw [hU]; exact hPc, va_K.moved hW.alike hK, hDc.weaken (fun _ _ _ _ => trivial)⟩⟩ rfl rfl hl.1 rfl (lv_room (Nat.le_of_ble_eq_true rfl)) d_Md_open_27 ⟨Nat.le_of_ble_eq_true rfl, Nat.le_of_ble_eq_true rfl⟩) hS (fun q _ h => hFc q h) hFc (fun u t H1 locs ht hvm hw hB hz1 hk1 hS => ?_)
  obtain ⟨g15_182, rfl⟩ : ∃ z, z = u := ⟨_, rfl⟩
  try dsimp only at hw hB
  obtain ⟨hP1, hK1, hD1⟩ := hB
  rw [ht] at hP1
  obtain ⟨hP, hD⟩ := va_join (wr := [(r 7, .inl ((cT 0), 1000, .inl f7))]) (w1 := [(mo, .inr (12, mdG r cd tm (nI sn) (nI tx) (nI lz) (nI ((((0 + 1) + 1) + 1) + 1)) (nI na) (nI nt) (nI nr) mw ml mk dq)), (r 15, .inl ((cT 0), 200, .inl g15_182))]) hP hD [1, 2] [0] rfl rfl (by decide) (by decide) hk1 hFc hP1 hD1
  have hw183 := hw
  clear hPc hDc hFc hz1 hk1 hP1 hK1 hD1
  generalize H1 = H at hP hS ⊢
  have hP : va_P (dC, dI) vcl [(r 7, .inl ((cT 0), 1000, .inl f7)), (mo, .inr (12, mdG r cd tm (nI sn) (nI tx) (nI lz) (nI ((((0 + 1) + 1) + 1) + 1)) (nI na) (nI nt) (nI nr) mw ml mk dq)), (r 15, .inl ((cT 0), 200, .inl g15_182))] H := hP
  have hD : va_D A [(r 7, .inl ((cT 0), 1000, .inl f7)), (mo, .inr (12, mdG r cd tm (nI sn) (nI tx) (nI lz) (nI ((((0 + 1) + 1) + 1) + 1)) (nI na) (nI nt) (nI nr) mw ml mk dq)), (r 15, .inl ((cT 0), 200, .inl g15_182))] := hD
  refine lv_iconst (v := 4) hx hb d_Md_open_30 (by decide) ?_
  refine lv_istore_n (lv' := [(2, .int 4), (0, .ref mo), (1, .int x)]) hx hb d_Md_open_31 rfl hl (by decide) rfl (fun ls hl => ?_)
  have hl := lv_sub hl [0, 1, 2] (show _ = [(2, .int 4), (0, .ref mo), (1, .int x)] from rfl)
  have L185 : ∀ (Q : State → Prop) (exit : ∀ (g15_184 : Nat → Int32) (H : Heap) (locs : List Loc) (ls : Array Slot), va_P (dC, dI) vcl [(r 7, .inl ((cT 0), 1000, .inl f7)), (mo, .inr (12, mdG r cd tm (nI sn) (nI tx) (nI lz) (nI (20)) (nI na) (nI nt) (nI nr) mw ml mk dq)), (r 15, .inl ((cT 0), 200, .inl g15_184))] H → va_D A [(r 7, .inl ((cT 0), 1000, .inl f7)), (mo, .inr (12, mdG r cd tm (nI sn) (nI tx) (nI lz) (nI (20)) (nI na) (nI nt) (nI nr) mw ml mk dq)), (r 15, .inl ((cT 0), 200, .inl g15_184))] → va_S A s.heap H locs → lv_has ls 3 [(2, .int (nI 20)), (0, .ref mo), (1, .int x)] → W p l e ({ frames := 1, cells := 0, slots := 0, locals := 21 } : Room) s m args below meth c H locs 0 0 Q (F0 m 54 ls [])) (j8 i : Nat) (g15_184 : Nat → Int32) (H : Heap) (locs : List Loc) (ls : Array Slot), i + j8 = 20 → va_P (dC, dI) vcl [(r 7, .inl ((cT 0), 1000, .inl f7)), (mo, .inr (12, mdG r cd tm (nI sn) (nI tx) (nI lz) (nI (i)) (nI na) (nI nt) (nI nr) mw ml mk dq)), (r 15, .inl ((cT 0), 200, .inl g15_184))] H → va_D A [(r 7, .inl ((cT 0), 1000, .inl f7)), (mo, .inr (12, mdG r cd tm (nI sn) (nI tx) (nI lz) (nI (i)) (nI na) (nI nt) (nI nr) mw ml mk dq)), (r 15, .inl ((cT 0), 200, .inl g15_184))] → va_S A s.heap H locs → lv_has ls 3 [(2, .int (nI i)), (0, .ref mo), (1, .int x)] → W p l e ({ frames := 1, cells := 0, slots := 0, locals := 21 } : Room) s m args below meth c H locs 0 0 Q (F0 m 32 ls []) := by
    intro Q exit j8
    induction j8 with
    | zero => 
      intro i g15_184 H locs ls hij  hP hD hS hl
      have hij : 20 = i := by omega
      refine lv_iload_n hx hb d_Md_open_32 rfl (lv_at hl 0 rfl) ?_
      refine lv_bipush (v := 20) hx hb d_Md_open_33 (by decide) ?_
      refine lv_topi (fun x187 e186 => ?_)
      obtain rfl : x187 = nI 20 := by rw [e186]; rfl
      refine lv_icmp_ge (tgt := 54) hx hb d_Md_open_35 (by decide) (fun hc188 => ?_) (fun hn9 => absurd (nI_le (by omega) (by omega)) hn9)
      subst hij
      exact exit g15_184 _ _ _  hP hD hS hl
    | succ j8 ih => 
      intro i g15_184 H locs ls hij  hP hD hS hl
      have hlt : i < 20 := by omega
      have hlti := hlt
      refine lv_iload_n hx hb d_Md_open_32 rfl (lv_at hl 0 rfl) ?_
      refine lv_bipush (v := 20) hx hb d_Md_open_33 (by decide) ?_
      refine lv_topi (fun x190 e189 => ?_)
      obtain rfl : x190 = nI 20 := by rw [e189]; rfl
      refine lv_icmp_ge (tgt := 54) hx hb d_Md_open_35 (by decide) (fun hn9 => absurd hn9 (nI_ge (by omega) (by omega))) (fun hc191 => ?_)
      refine lv_aload_n hx hb d_Md_open_38 rfl (lv_at hl 1 rfl) ?_
      refine lv_aload_n hx hb d_Md_open_39 rfl (lv_at hl 1 rfl) ?_
      refine va_get (D := (dC, dI)) (ci := 12) (v := (.ref (r 7))) (C := R_Md) (T := F_Md) (N := 45) hx hb hg in_Md hown hK hP 1 rfl rfl 7 (by decide) (hg _ k_1027) (fun _ h9 => h9) rfl d_Md_open_40 ?_
      refine lv_iload_n hx hb d_Md_open_43 rfl (lv_at hl 0 rfl) ?_
      refine va_iald hx hb hK hP 0 0 rfl rfl (i := (nI i)) (vp_in_nI (N := 1000) (by omega) (by decide)) d_Md_open_44 ?_
      refine lv_topi (fun x192 e_x192 => ?_)
      clear e_x192
      have hPc := hP.sub (ws' := [(mo, .inr (12, mdG r cd tm (nI sn) (nI tx) (nI lz) (nI i) (nI na) (nI nt) (nI nr) mw ml mk dq)), (r 15, .inl ((cT 0), 200, .inl g15_184))]) [1, 2] rfl
      have hDc := hD.sub (ws' := [(mo, .inr (12, mdG r cd tm (nI sn) (nI tx) (nI lz) (nI i) (nI na) (nI nt) (nI nr) mw ml mk dq)), (r 15, .inl ((cT 0), 200, .inl g15_184))]) [1, 2] (by decide) rfl
      have hFc := va_free (wc := [(mo, .inr (12, mdG r cd tm (nI sn) (nI tx) (nI lz) (nI i) (nI na) (nI nt) (nI nr) mw ml mk dq)), (r 15, .inl ((cT 0), 200, .inl g15_184))]) hD hS hA [1, 2] rfl
      refine va_callv (va_runV (C := "DoorServerModel") (As := [.int x192]) (rest := []) ⟨hx, hb, hml, hown, hg⟩ (m_tell l dC dI cT H.size mo r cd tm sn tx lz i na nt nr mw ml mk dq g15_184 x192 (by first | assumption | omega)) (cwV 1 hg (gI (List.forall_mem_append.mpr ⟨List.forall_mem_cons.mpr ⟨k_1337, List.forall_mem_cons.mpr ⟨k_1339, List.forall_mem_cons.mpr ⟨(big_sel (q := y_Md_tell) (n := 45) (by decide +kernel)), List.forall_mem_cons.mpr ⟨k_13, fun _ h => absurd h List.not_mem_nil⟩⟩⟩⟩, List.forall_mem_cons.mpr ⟨k_1340, fun _ h => h⟩⟩)) rfl rfl rfl (by decide +kernel) ⟨Nat.le_of_ble_eq_true rfl, Nat.le_of_ble_eq_true rfl⟩) ⟨fun a U g mk q => by obtain ⟨q0, q1, qP, qK, qD⟩ := q; exact ⟨q0, q1, qP, va_K.moved (u := U) (U := U.calling g mk a) (Vm.Alike.refl U.vm) qK, qD⟩, va_recv (q0 := 1) (ci := 12) hK hP rfl rfl, fun U hU hW => ⟨rfl, by rw [hU], by rw [hU]; exact hPc, va_K.moved hW.alike hK, hDc.weaken (fun _ _ _ _ => trivial)⟩⟩ rfl rfl hl.1 rfl (lv_room (Nat.le_of_ble_eq_true rfl)) d_Md_open_45 ⟨Nat.le_of_ble_eq_true rfl, Nat.le_of_ble_eq_true rfl⟩) hS (fun q _ h => hFc q h) hFc (fun u t H1 locs ht hvm hw hB hz1 hk1 hS => ?_)
      obtain ⟨g15_193, rfl⟩ : ∃ z, z = u := ⟨_, rfl⟩
      try dsimp only at hw hB
      obtain ⟨hP1, hK1, hD1⟩ := hB
      rw [ht] at hP1
      obtain ⟨hP, hD⟩ := va_join (wr := [(r 7, .inl ((cT 0), 1000, .inl f7))]) (w1 := [(mo, .inr (12, mdG r cd tm (nI sn) (nI tx) (nI lz) (nI (i + 1)) (nI na) (nI nt) (nI nr) mw ml mk dq)), (r 15, .inl ((cT 0), 200, .inl g15_193))]) hP hD [1, 2] [0] rfl rfl (by decide) (by decide) hk1 hFc hP1 hD1
      have hw194 := hw
      clear hPc hDc hFc hz1 hk1 hP1 hK1 hD1
      generalize H1 = H at hP hS ⊢
      have hP : va_P (dC, dI) vcl [(r 7, .inl ((cT 0), 1000, .inl f7)), (mo, .inr (12, mdG r cd tm (nI sn) (nI tx) (nI lz) (nI (i + 1)) (nI na) (nI nt) (nI nr) mw ml mk dq)), (r 15, .inl ((cT 0), 200, .inl g15_193))] H := hP
      have hD : va_D A [(r 7, .inl ((cT 0), 1000, .inl f7)), (mo, .inr (12, mdG r cd tm (nI sn) (nI tx) (nI lz) (nI (i + 1)) (nI na) (nI nt) (nI nr) mw ml mk dq)), (r 15, .inl ((cT 0), 200, .inl g15_193))] := hD
      refine lv_iinc (k := 0) (v := nI (i + 1)) (lv' := [(2, .int (nI (i + 1))), (0, .ref mo), (1, .int x)]) hx hb d_Md_open_48 hl rfl (nI_1 i) (by decide) rfl (fun ls hl => ?_)
      refine lv_goto (tgt := 32) hx hb d_Md_open_51 (by decide) ?_
      have hl := lv_sub hl [0, 1, 2] (show _ = [(2, .int (nI (i + 1))), (0, .ref mo), (1, .int x)] from rfl)
      exact ih (i + 1) _ _ _ _ (by omega)  hP hD hS hl
  refine L185 _ (fun g15_184 H locs ls  hP hD hS hl => ?_) (20 - 4) 4 g15_182 H _ ls (by omega)  hP hD hS hl
  have hP9 := hP.sub (ws' := [(mo, .inr (12, mdG r cd tm (nI sn) (nI tx) (nI lz) (nI (20)) (nI na) (nI nt) (nI nr) mw ml mk dq)), (r 7, .inl ((cT 0), 1000, .inl f7)), (r 15, .inl ((cT 0), 200, .inl g15_184))]) [1, 0, 2] rfl
  have hD9 := hD.sub (ws' := [(mo, .inr (12, mdG r cd tm (nI sn) (nI tx) (nI lz) (nI (20)) (nI na) (nI nt) (nI nr) mw ml mk dq)), (r 7, .inl ((cT 0), 1000, .inl f7)), (r 15, .inl ((cT 0), 200, .inl g15_184))]) [1, 0, 2] (by decide) rfl
  exact W.vret hx hb hr (fun t ht hW => ⟨⟨g15_184, rfl, trivial, by rw [ht]; exact hP9, va_K.moved hW.alike hK, hD9⟩, hS.F ht⟩) hS.2.2 d_Md_open_54
set_option maxHeartbeats 4000000 in
set_option maxRecDepth 100000 in
/-- copyAnswer -/
theorem m_copyAnswer (l : Launch) (dC : Nat → ClassId) (dI : Nat → Nat → Nat) (cT : Nat → ClassId) (sz : Nat) (mo : Nat) (r : Nat → Nat) (cd : Int32) (tm : Int32) (sn : Nat) (tx : Nat) (lz : Nat) (az : Nat) (na : Nat) (nt : Nat) (nr : Nat) (mw : Int32) (ml : Int32) (mk : Int64) (dq : Int64) (f18 : Nat → Int32) (f19 : Nat → Int32) (f20 : Nat → Int32) (f21 : Nat → Int32) (f22 : Nat → Int32) (f23 : Nat → Int32) (a : Nat) (b : Nat) (ha : a < 41) (hb9 : b < 41) (h21 : BD 200 41 f21) : Met l y_Md_copyAnswer (Cond.code y_Md_copyAnswer b_Md_copyAnswer 4 (Option.none : Option Jvm.ClassFile.FieldType) :: BIG) ({ frames := 0, cells := 0, slots := 0, locals := 0 }) (va_Pc [.ref mo, .int (nI a), .int (nI b)] (fun U => U.heap.size = sz ∧ va_P (dC, dI) vcl [(mo, .inr (12, mdG r cd tm (nI sn) (nI tx) (nI lz) (nI az) (nI na) (nI nt) (nI nr) mw ml mk dq)), (r 18, .inl ((cT 0), 41, .inl f18)), (r 19, .inl ((cT 0), 41, .inl f19)), (r 20, .inl ((cT 0), 41, .inl f20)), (r 21, .inl ((cT 0), 41, .inl f21)), (r 22, .inl ((cT 0), 8200, .inl f22)), (r 23, .inl ((cT 0), 656, .inl f23))] U.heap ∧ va_K (dC, dI) vcl (tyL cT) U ∧ va_D (fun _ => True) [(mo, .inr (12, mdG r cd tm (nI sn) (nI tx) (nI lz) (nI az) (nI na) (nI nt) (nI nr) mw ml mk dq)), (r 18, .inl ((cT 0), 41, .inl f18)), (r 19, .inl ((cT 0), 41, .inl f19)), (r 20, .inl ((cT 0), 41, .inl f20)), (r 21, .inl ((cT 0), 41, .inl f21)), (r 22, .inl ((cT 0), 8200, .inl f22)), (r 23, .inl ((cT 0), 656, .inl f23))])) (va_Qv (S := (Nat → Int32) × (Nat → Int32) × (Nat → Int32) × (Nat → Int32) × (Nat → Int32) × (Nat → Int32)) (fun u => match u with | (g18, g19, g20, g21, g22, g23) => BD 200 41 g21) (fun u t => match u with | (g18, g19, g20, g21, g22, g23) => va_P (dC, dI) vcl [(mo, .inr (12, mdG r cd tm (nI sn) (nI tx) (nI lz) (nI az) (nI na) (nI nt) (nI nr) mw ml mk dq)), (r 18, .inl ((cT 0), 41, .inl g18)), (r 19, .inl ((cT 0), 41, .inl g19)), (r 20, .inl ((cT 0), 41, .inl g20)), (r 21, .inl ((cT 0), 41, .inl g21)), (r 22, .inl ((cT 0), 8200, .inl g22)), (r 23, .inl ((cT 0), 656, .inl g23))] t.heap ∧ va_K (dC, dI) vcl (tyL cT) t ∧ va_D (va_A [(mo, .inr (12, mdG r cd tm (nI sn) (nI tx) (nI lz) (nI az) (nI na) (nI nt) (nI nr) mw ml mk dq)), (r 18, .inl ((cT 0), 41, .inl f18)), (r 19, .inl ((cT 0), 41, .inl f19)), (r 20, .inl ((cT 0), 41, .inl f20)), (r 21, .inl ((cT 0), 41, .inl f21)), (r 22, .inl ((cT 0), 8200, .inl f22)), (r 23, .inl ((cT 0), 656, .inl f23))] sz) [(mo, .inr (12, mdG r cd tm (nI sn) (nI tx) (nI lz) (nI az) (nI na) (nI nt) (nI nr) mw ml mk dq)), (r 18, .inl ((cT 0), 41, .inl g18)), (r 19, .inl ((cT 0), 41, .inl g19)), (r 20, .inl ((cT 0), 41, .inl g20)), (r 21, .inl ((cT 0), 41, .inl g21)), (r 22, .inl ((cT 0), 8200, .inl g22)), (r 23, .inl ((cT 0), 656, .inl g23))]) (va_A [(mo, .inr (12, mdG r cd tm (nI sn) (nI tx) (nI lz) (nI az) (nI na) (nI nt) (nI nr) mw ml mk dq)), (r 18, .inl ((cT 0), 41, .inl f18)), (r 19, .inl ((cT 0), 41, .inl f19)), (r 20, .inl ((cT 0), 41, .inl f20)), (r 21, .inl ((cT 0), 41, .inl f21)), (r 22, .inl ((cT 0), 8200, .inl f22)), (r 23, .inl ((cT 0), 656, .inl f23))] sz)) 0 0 (va_A [(mo, .inr (12, mdG r cd tm (nI sn) (nI tx) (nI lz) (nI az) (nI na) (nI nt) (nI nr) mw ml mk dq)), (r 18, .inl ((cT 0), 41, .inl f18)), (r 19, .inl ((cT 0), 41, .inl f19)), (r 20, .inl ((cT 0), 41, .inl f20)), (r 21, .inl ((cT 0), 41, .inl f21)), (r 22, .inl ((cT 0), 8200, .inl f22)), (r 23, .inl ((cT 0), 656, .inl f23))] sz) := by
  refine Met.ofW (cc := b_Md_copyAnswer) (maxL := 4) (ret := (Option.none : Option Jvm.ClassFile.FieldType)) (by decide) rfl ?_
  intro p e s m args below meth c s₁ B hml hv
  obtain ⟨hargs, hsz, hP, hK, hD0⟩ := hv
  have hx := B.exec
  have hb := B.bytes
  have hr := B.returns
  have hts := atoms_spec (ws := (Cond.code y_Md_copyAnswer b_Md_copyAnswer 4 (Option.none : Option Jvm.ClassFile.FieldType) :: BIG)) B.pre
  have hg : ∀ w ∈ BIG, w.before _ s = true := fun w h => hts w (List.mem_cons_of_mem _ h)
  have hown : s.vm.findClass "DoorServerModel" = some m.cls := findClass_of_methodNamed B.named
  have hlocks := B.notSynchronized
  subst hsz
  have hD := hD0.self (sz := s.heap.size)
  generalize hAe : va_A [(mo, .inr (12, mdG r cd tm (nI sn) (nI tx) (nI lz) (nI az) (nI na) (nI nt) (nI nr) mw ml mk dq)), (r 18, .inl ((cT 0), 41, .inl f18)), (r 19, .inl ((cT 0), 41, .inl f19)), (r 20, .inl ((cT 0), 41, .inl f20)), (r 21, .inl ((cT 0), 41, .inl f21)), (r 22, .inl ((cT 0), 8200, .inl f22)), (r 23, .inl ((cT 0), 656, .inl f23))] s.heap.size = A at hD ⊢
  have hA : ∀ q : Nat, s.heap.size ≤ q → A q := fun q h => by rw [← hAe]; exact Or.inr h
  have hS : va_S A s.heap s.heap [] := va_S.rf
  have hl := lv_entry ([.ref mo, .int (nI a), .int (nI b)]) (n := 4) (Nat.le_of_ble_eq_true rfl)
  refine W.eq (g2 := entryFrame m (List.toArray [.ref mo, .int (nI a), .int (nI b)]) 4) (by rw [hargs]) ?_
  rw [lg_entry_eq]
  generalize (lg_sl ([.ref mo, .int (nI a), .int (nI b)]) ++ List.replicate (4 - (lg_sl ([.ref mo, .int (nI a), .int (nI b)])).length) Slot.unset).toArray = ls at hl ⊢
  have hl : lv_has ls 4 [(0, .ref mo), (1, .int (nI a)), (2, .int (nI b))] := hl
  change W p l e ({ frames := 0, cells := 0, slots := 0, locals := 0 } : Room) s m args below meth c s.heap [] 0 0 _ _
  have hP : va_P (dC, dI) vcl [(mo, .inr (12, mdG r cd tm (nI sn) (nI tx) (nI lz) (nI az) (nI na) (nI nt) (nI nr) mw ml mk dq)), (r 18, .inl ((cT 0), 41, .inl f18)), (r 19, .inl ((cT 0), 41, .inl f19)), (r 20, .inl ((cT 0), 41, .inl f20)), (r 21, .inl ((cT 0), 41, .inl f21)), (r 22, .inl ((cT 0), 8200, .inl f22)), (r 23, .inl ((cT 0), 656, .inl f23))] s.heap := hP
  refine lv_aload_n hx hb d_Md_copyAnswer_0 rfl (lv_at hl 0 rfl) ?_
  refine va_get (D := (dC, dI)) (ci := 12) (v := (.ref (r 18))) (C := R_Md) (T := F_Md) (N := 45) hx hb hg in_Md hown hK hP 0 rfl rfl 18 (by decide) (hg _ k_1038) (fun _ h9 => h9) rfl d_Md_copyAnswer_1 ?_
  refine lv_iload_n hx hb d_Md_copyAnswer_4 rfl (lv_at hl 2 rfl) ?_
  refine lv_aload_n hx hb d_Md_copyAnswer_5 rfl (lv_at hl 0 rfl) ?_
  refine va_get (D := (dC, dI)) (ci := 12) (v := (.ref (r 18))) (C := R_Md) (T := F_Md) (N := 45) hx hb hg in_Md hown hK hP 0 rfl rfl 18 (by decide) (hg _ k_1038) (fun _ h9 => h9) rfl d_Md_copyAnswer_6 ?_
  refine lv_iload_n hx hb d_Md_copyAnswer_9 rfl (lv_at hl 1 rfl) ?_
  refine va_iald hx hb hK hP 1 0 rfl rfl (i := (nI a)) (vp_in_nI (N := 41) (by omega) (by decide)) d_Md_copyAnswer_10 ?_
  refine lv_topi (fun x195 e_x195 => ?_)
  clear e_x195
  refine va_iast hx hb hK hP hD hS 1 0 rfl rfl (i := (nI b)) (vp_in_nI (n := b) (N := 41) (by omega) (by decide)) d_Md_copyAnswer_11 (fun H locs hP hD hS => ?_)
  have ef196 : upd f18 (nI b).toNatClampNeg x195 = upd f18 b x195 := by rw [show (nI b).toNatClampNeg = b from nI_clamp (by omega)]
  rw [ef196] at hP hD
  have hP : va_P (dC, dI) vcl [(mo, .inr (12, mdG r cd tm (nI sn) (nI tx) (nI lz) (nI az) (nI na) (nI nt) (nI nr) mw ml mk dq)), (r 18, .inl ((cT 0), 41, .inl (upd f18 b x195))), (r 19, .inl ((cT 0), 41, .inl f19)), (r 20, .inl ((cT 0), 41, .inl f20)), (r 21, .inl ((cT 0), 41, .inl f21)), (r 22, .inl ((cT 0), 8200, .inl f22)), (r 23, .inl ((cT 0), 656, .inl f23))] H := hP
  have hD : va_D A [(mo, .inr (12, mdG r cd tm (nI sn) (nI tx) (nI lz) (nI az) (nI na) (nI nt) (nI nr) mw ml mk dq)), (r 18, .inl ((cT 0), 41, .inl (upd f18 b x195))), (r 19, .inl ((cT 0), 41, .inl f19)), (r 20, .inl ((cT 0), 41, .inl f20)), (r 21, .inl ((cT 0), 41, .inl f21)), (r 22, .inl ((cT 0), 8200, .inl f22)), (r 23, .inl ((cT 0), 656, .inl f23))] := hD
  refine lv_aload_n hx hb d_Md_copyAnswer_12 rfl (lv_at hl 0 rfl) ?_
  refine va_get (D := (dC, dI)) (ci := 12) (v := (.ref (r 19))) (C := R_Md) (T := F_Md) (N := 45) hx hb hg in_Md hown hK hP 0 rfl rfl 19 (by decide) (hg _ k_1039) (fun _ h9 => h9) rfl d_Md_copyAnswer_13 ?_
  refine lv_iload_n hx hb d_Md_copyAnswer_16 rfl (lv_at hl 2 rfl) ?_
  refine lv_aload_n hx hb d_Md_copyAnswer_17 rfl (lv_at hl 0 rfl) ?_
  refine va_get (D := (dC, dI)) (ci := 12) (v := (.ref (r 19))) (C := R_Md) (T := F_Md) (N := 45) hx hb hg in_Md hown hK hP 0 rfl rfl 19 (by decide) (hg _ k_1039) (fun _ h9 => h9) rfl d_Md_copyAnswer_18 ?_
  refine lv_iload_n hx hb d_Md_copyAnswer_21 rfl (lv_at hl 1 rfl) ?_
  refine va_iald hx hb hK hP 2 0 rfl rfl (i := (nI a)) (vp_in_nI (N := 41) (by omega) (by decide)) d_Md_copyAnswer_22 ?_
  refine lv_topi (fun x197 e_x197 => ?_)
  clear e_x197
  refine va_iast hx hb hK hP hD hS 2 0 rfl rfl (i := (nI b)) (vp_in_nI (n := b) (N := 41) (by omega) (by decide)) d_Md_copyAnswer_23 (fun H locs hP hD hS => ?_)
  have ef198 : upd f19 (nI b).toNatClampNeg x197 = upd f19 b x197 := by rw [show (nI b).toNatClampNeg = b from nI_clamp (by omega)]
  rw [ef198] at hP hD
  have hP : va_P (dC, dI) vcl [(mo, .inr (12, mdG r cd tm (nI sn) (nI tx) (nI lz) (nI az) (nI na) (nI nt) (nI nr) mw ml mk dq)), (r 18, .inl ((cT 0), 41, .inl (upd f18 b x195))), (r 19, .inl ((cT 0), 41, .inl (upd f19 b x197))), (r 20, .inl ((cT 0), 41, .inl f20)), (r 21, .inl ((cT 0), 41, .inl f21)), (r 22, .inl ((cT 0), 8200, .inl f22)), (r 23, .inl ((cT 0), 656, .inl f23))] H := hP
  have hD : va_D A [(mo, .inr (12, mdG r cd tm (nI sn) (nI tx) (nI lz) (nI az) (nI na) (nI nt) (nI nr) mw ml mk dq)), (r 18, .inl ((cT 0), 41, .inl (upd f18 b x195))), (r 19, .inl ((cT 0), 41, .inl (upd f19 b x197))), (r 20, .inl ((cT 0), 41, .inl f20)), (r 21, .inl ((cT 0), 41, .inl f21)), (r 22, .inl ((cT 0), 8200, .inl f22)), (r 23, .inl ((cT 0), 656, .inl f23))] := hD
  refine lv_aload_n hx hb d_Md_copyAnswer_24 rfl (lv_at hl 0 rfl) ?_
  refine va_get (D := (dC, dI)) (ci := 12) (v := (.ref (r 20))) (C := R_Md) (T := F_Md) (N := 45) hx hb hg in_Md hown hK hP 0 rfl rfl 20 (by decide) (hg _ k_1040) (fun _ h9 => h9) rfl d_Md_copyAnswer_25 ?_
  refine lv_iload_n hx hb d_Md_copyAnswer_28 rfl (lv_at hl 2 rfl) ?_
  refine lv_aload_n hx hb d_Md_copyAnswer_29 rfl (lv_at hl 0 rfl) ?_
  refine va_get (D := (dC, dI)) (ci := 12) (v := (.ref (r 20))) (C := R_Md) (T := F_Md) (N := 45) hx hb hg in_Md hown hK hP 0 rfl rfl 20 (by decide) (hg _ k_1040) (fun _ h9 => h9) rfl d_Md_copyAnswer_30 ?_
  refine lv_iload_n hx hb d_Md_copyAnswer_33 rfl (lv_at hl 1 rfl) ?_
  refine va_iald hx hb hK hP 3 0 rfl rfl (i := (nI a)) (vp_in_nI (N := 41) (by omega) (by decide)) d_Md_copyAnswer_34 ?_
  refine lv_topi (fun x199 e_x199 => ?_)
  clear e_x199
  refine va_iast hx hb hK hP hD hS 3 0 rfl rfl (i := (nI b)) (vp_in_nI (n := b) (N := 41) (by omega) (by decide)) d_Md_copyAnswer_35 (fun H locs hP hD hS => ?_)
  have ef200 : upd f20 (nI b).toNatClampNeg x199 = upd f20 b x199 := by rw [show (nI b).toNatClampNeg = b from nI_clamp (by omega)]
  rw [ef200] at hP hD
  have hP : va_P (dC, dI) vcl [(mo, .inr (12, mdG r cd tm (nI sn) (nI tx) (nI lz) (nI az) (nI na) (nI nt) (nI nr) mw ml mk dq)), (r 18, .inl ((cT 0), 41, .inl (upd f18 b x195))), (r 19, .inl ((cT 0), 41, .inl (upd f19 b x197))), (r 20, .inl ((cT 0), 41, .inl (upd f20 b x199))), (r 21, .inl ((cT 0), 41, .inl f21)), (r 22, .inl ((cT 0), 8200, .inl f22)), (r 23, .inl ((cT 0), 656, .inl f23))] H := hP
  have hD : va_D A [(mo, .inr (12, mdG r cd tm (nI sn) (nI tx) (nI lz) (nI az) (nI na) (nI nt) (nI nr) mw ml mk dq)), (r 18, .inl ((cT 0), 41, .inl (upd f18 b x195))), (r 19, .inl ((cT 0), 41, .inl (upd f19 b x197))), (r 20, .inl ((cT 0), 41, .inl (upd f20 b x199))), (r 21, .inl ((cT 0), 41, .inl f21)), (r 22, .inl ((cT 0), 8200, .inl f22)), (r 23, .inl ((cT 0), 656, .inl f23))] := hD
  refine lv_aload_n hx hb d_Md_copyAnswer_36 rfl (lv_at hl 0 rfl) ?_
  refine va_get (D := (dC, dI)) (ci := 12) (v := (.ref (r 21))) (C := R_Md) (T := F_Md) (N := 45) hx hb hg in_Md hown hK hP 0 rfl rfl 21 (by decide) (hg _ k_1041) (fun _ h9 => h9) rfl d_Md_copyAnswer_37 ?_
  refine lv_iload_n hx hb d_Md_copyAnswer_40 rfl (lv_at hl 2 rfl) ?_
  refine lv_aload_n hx hb d_Md_copyAnswer_41 rfl (lv_at hl 0 rfl) ?_
  refine va_get (D := (dC, dI)) (ci := 12) (v := (.ref (r 21))) (C := R_Md) (T := F_Md) (N := 45) hx hb hg in_Md hown hK hP 0 rfl rfl 21 (by decide) (hg _ k_1041) (fun _ h9 => h9) rfl d_Md_copyAnswer_42 ?_
  refine lv_iload_n hx hb d_Md_copyAnswer_45 rfl (lv_at hl 1 rfl) ?_
  obtain ⟨t201, ht201, xt201⟩ := h21 a (by omega)
  refine va_iald hx hb hK hP 4 0 rfl rfl (i := (nI a)) (vp_in_nI (N := 41) (by omega) (by decide)) d_Md_copyAnswer_46 ?_
  refine lv_topi (fun x203 e202 => ?_)
  obtain rfl : x203 = nI t201 := by rw [e202]; rw [nI_clamp (by omega)]; exact xt201
  refine va_iast hx hb hK hP hD hS 4 0 rfl rfl (i := (nI b)) (vp_in_nI (n := b) (N := 41) (by omega) (by decide)) d_Md_copyAnswer_47 (fun H locs hP hD hS => ?_)
  have ef204 : upd f21 (nI b).toNatClampNeg (nI t201) = upd f21 b (nI t201) := by rw [show (nI b).toNatClampNeg = b from nI_clamp (by omega)]
  rw [ef204] at hP hD
  have hP : va_P (dC, dI) vcl [(mo, .inr (12, mdG r cd tm (nI sn) (nI tx) (nI lz) (nI az) (nI na) (nI nt) (nI nr) mw ml mk dq)), (r 18, .inl ((cT 0), 41, .inl (upd f18 b x195))), (r 19, .inl ((cT 0), 41, .inl (upd f19 b x197))), (r 20, .inl ((cT 0), 41, .inl (upd f20 b x199))), (r 21, .inl ((cT 0), 41, .inl (upd f21 b (nI t201)))), (r 22, .inl ((cT 0), 8200, .inl f22)), (r 23, .inl ((cT 0), 656, .inl f23))] H := hP
  have hD : va_D A [(mo, .inr (12, mdG r cd tm (nI sn) (nI tx) (nI lz) (nI az) (nI na) (nI nt) (nI nr) mw ml mk dq)), (r 18, .inl ((cT 0), 41, .inl (upd f18 b x195))), (r 19, .inl ((cT 0), 41, .inl (upd f19 b x197))), (r 20, .inl ((cT 0), 41, .inl (upd f20 b x199))), (r 21, .inl ((cT 0), 41, .inl (upd f21 b (nI t201)))), (r 22, .inl ((cT 0), 8200, .inl f22)), (r 23, .inl ((cT 0), 656, .inl f23))] := hD
  refine lv_iconst (v := 0) hx hb d_Md_copyAnswer_48 (by decide) ?_
  refine lv_istore_n (lv' := [(3, .int 0), (0, .ref mo), (1, .int (nI a)), (2, .int (nI b))]) hx hb d_Md_copyAnswer_49 rfl hl (by decide) rfl (fun ls hl => ?_)
  have hl := lv_sub hl [0, 1, 2, 3] (show _ = [(3, .int 0), (0, .ref mo), (1, .int (nI a)), (2, .int (nI b))] from rfl)
  have L206 : ∀ (Q : State → Prop) (exit : ∀ (g22_205 : Nat → Int32) (H : Heap) (locs : List Loc) (ls : Array Slot), va_P (dC, dI) vcl [(mo, .inr (12, mdG r cd tm (nI sn) (nI tx) (nI lz) (nI az) (nI na) (nI nt) (nI nr) mw ml mk dq)), (r 18, .inl ((cT 0), 41, .inl (upd f18 b x195))), (r 19, .inl ((cT 0), 41, .inl (upd f19 b x197))), (r 20, .inl ((cT 0), 41, .inl (upd f20 b x199))), (r 21, .inl ((cT 0), 41, .inl (upd f21 b (nI t201)))), (r 22, .inl ((cT 0), 8200, .inl g22_205)), (r 23, .inl ((cT 0), 656, .inl f23))] H → va_D A [(mo, .inr (12, mdG r cd tm (nI sn) (nI tx) (nI lz) (nI az) (nI na) (nI nt) (nI nr) mw ml mk dq)), (r 18, .inl ((cT 0), 41, .inl (upd f18 b x195))), (r 19, .inl ((cT 0), 41, .inl (upd f19 b x197))), (r 20, .inl ((cT 0), 41, .inl (upd f20 b x199))), (r 21, .inl ((cT 0), 41, .inl (upd f21 b (nI t201)))), (r 22, .inl ((cT 0), 8200, .inl g22_205)), (r 23, .inl ((cT 0), 656, .inl f23))] → va_S A s.heap H locs → lv_has ls 4 [(3, .int (nI 200)), (0, .ref mo), (1, .int (nI a)), (2, .int (nI b))] → W p l e ({ frames := 0, cells := 0, slots := 0, locals := 0 } : Room) s m args below meth c H locs 0 0 Q (F0 m 87 ls [])) (j8 i : Nat) (g22_205 : Nat → Int32) (H : Heap) (locs : List Loc) (ls : Array Slot), i + j8 = 200 → va_P (dC, dI) vcl [(mo, .inr (12, mdG r cd tm (nI sn) (nI tx) (nI lz) (nI az) (nI na) (nI nt) (nI nr) mw ml mk dq)), (r 18, .inl ((cT 0), 41, .inl (upd f18 b x195))), (r 19, .inl ((cT 0), 41, .inl (upd f19 b x197))), (r 20, .inl ((cT 0), 41, .inl (upd f20 b x199))), (r 21, .inl ((cT 0), 41, .inl (upd f21 b (nI t201)))), (r 22, .inl ((cT 0), 8200, .inl g22_205)), (r 23, .inl ((cT 0), 656, .inl f23))] H → va_D A [(mo, .inr (12, mdG r cd tm (nI sn) (nI tx) (nI lz) (nI az) (nI na) (nI nt) (nI nr) mw ml mk dq)), (r 18, .inl ((cT 0), 41, .inl (upd f18 b x195))), (r 19, .inl ((cT 0), 41, .inl (upd f19 b x197))), (r 20, .inl ((cT 0), 41, .inl (upd f20 b x199))), (r 21, .inl ((cT 0), 41, .inl (upd f21 b (nI t201)))), (r 22, .inl ((cT 0), 8200, .inl g22_205)), (r 23, .inl ((cT 0), 656, .inl f23))] → va_S A s.heap H locs → lv_has ls 4 [(3, .int (nI i)), (0, .ref mo), (1, .int (nI a)), (2, .int (nI b))] → W p l e ({ frames := 0, cells := 0, slots := 0, locals := 0 } : Room) s m args below meth c H locs 0 0 Q (F0 m 50 ls []) := by
    intro Q exit j8
    induction j8 with
    | zero => 
      intro i g22_205 H locs ls hij  hP hD hS hl
      have hij : 200 = i := by omega
      refine lv_iload_n hx hb d_Md_copyAnswer_50 rfl (lv_at hl 0 rfl) ?_
      refine lv_sipush (v := 200) hx hb d_Md_copyAnswer_51 (by decide) ?_
      refine lv_topi (fun x208 e207 => ?_)
      obtain rfl : x208 = nI 200 := by rw [e207]; rfl
      refine lv_icmp_ge (tgt := 87) hx hb d_Md_copyAnswer_54 (by decide) (fun hc209 => ?_) (fun hn9 => absurd (nI_le (by omega) (by omega)) hn9)
      subst hij
      exact exit g22_205 _ _ _  hP hD hS hl
    | succ j8 ih => 
      intro i g22_205 H locs ls hij  hP hD hS hl
      have hlt : i < 200 := by omega
      have hlti := hlt
      refine lv_iload_n hx hb d_Md_copyAnswer_50 rfl (lv_at hl 0 rfl) ?_
      refine lv_sipush (v := 200) hx hb d_Md_copyAnswer_51 (by decide) ?_
      refine lv_topi (fun x211 e210 => ?_)
      obtain rfl : x211 = nI 200 := by rw [e210]; rfl
      refine lv_icmp_ge (tgt := 87) hx hb d_Md_copyAnswer_54 (by decide) (fun hn9 => absurd hn9 (nI_ge (by omega) (by omega))) (fun hc212 => ?_)
      refine lv_aload_n hx hb d_Md_copyAnswer_57 rfl (lv_at hl 1 rfl) ?_
      refine va_get (D := (dC, dI)) (ci := 12) (v := (.ref (r 22))) (C := R_Md) (T := F_Md) (N := 45) hx hb hg in_Md hown hK hP 0 rfl rfl 22 (by decide) (hg _ k_1042) (fun _ h9 => h9) rfl d_Md_copyAnswer_58 ?_
      refine lv_sipush (v := 200) hx hb d_Md_copyAnswer_61 (by decide) ?_
      refine lv_iload_n hx hb d_Md_copyAnswer_64 rfl (lv_at hl 3 rfl) ?_
      refine lv_imul hx hb d_Md_copyAnswer_65 ?_
      refine lv_topi (fun x214 e213 => ?_)
      obtain rfl : x214 = nI (200 * b) := by rw [e213]; exact pk_mul 200 b
      refine lv_iload_n hx hb d_Md_copyAnswer_66 rfl (lv_at hl 0 rfl) ?_
      refine lv_iadd hx hb d_Md_copyAnswer_67 ?_
      refine lv_topi (fun x216 e215 => ?_)
      obtain rfl : x216 = nI ((200 * b) + i) := by rw [e215]; exact nI_add (200 * b) i
      refine lv_aload_n hx hb d_Md_copyAnswer_68 rfl (lv_at hl 1 rfl) ?_
      refine va_get (D := (dC, dI)) (ci := 12) (v := (.ref (r 22))) (C := R_Md) (T := F_Md) (N := 45) hx hb hg in_Md hown hK hP 0 rfl rfl 22 (by decide) (hg _ k_1042) (fun _ h9 => h9) rfl d_Md_copyAnswer_69 ?_
      refine lv_sipush (v := 200) hx hb d_Md_copyAnswer_72 (by decide) ?_
      refine lv_iload_n hx hb d_Md_copyAnswer_75 rfl (lv_at hl 2 rfl) ?_
      refine lv_imul hx hb d_Md_copyAnswer_76 ?_
      refine lv_topi (fun x218 e217 => ?_)
      obtain rfl : x218 = nI (200 * a) := by rw [e217]; exact pk_mul 200 a
      refine lv_iload_n hx hb d_Md_copyAnswer_77 rfl (lv_at hl 0 rfl) ?_
      refine lv_iadd hx hb d_Md_copyAnswer_78 ?_
      refine lv_topi (fun x220 e219 => ?_)
      obtain rfl : x220 = nI ((200 * a) + i) := by rw [e219]; exact nI_add (200 * a) i
      refine va_iald hx hb hK hP 5 0 rfl rfl (i := (nI ((200 * a) + i))) (vp_in_nI (N := 8200) (by omega) (by decide)) d_Md_copyAnswer_79 ?_
      refine lv_topi (fun x221 e_x221 => ?_)
      clear e_x221
      refine va_iast hx hb hK hP hD hS 5 0 rfl rfl (i := (nI ((200 * b) + i))) (vp_in_nI (n := (200 * b) + i) (N := 8200) (by omega) (by decide)) d_Md_copyAnswer_80 (fun H locs hP hD hS => ?_)
      have ef222 : upd g22_205 (nI ((200 * b) + i)).toNatClampNeg x221 = upd g22_205 ((200 * b) + i) x221 := by rw [show (nI ((200 * b) + i)).toNatClampNeg = (200 * b) + i from nI_clamp (by omega)]
      rw [ef222] at hP hD
      have hP : va_P (dC, dI) vcl [(mo, .inr (12, mdG r cd tm (nI sn) (nI tx) (nI lz) (nI az) (nI na) (nI nt) (nI nr) mw ml mk dq)), (r 18, .inl ((cT 0), 41, .inl (upd f18 b x195))), (r 19, .inl ((cT 0), 41, .inl (upd f19 b x197))), (r 20, .inl ((cT 0), 41, .inl (upd f20 b x199))), (r 21, .inl ((cT 0), 41, .inl (upd f21 b (nI t201)))), (r 22, .inl ((cT 0), 8200, .inl (upd g22_205 ((200 * b) + i) x221))), (r 23, .inl ((cT 0), 656, .inl f23))] H := hP
      have hD : va_D A [(mo, .inr (12, mdG r cd tm (nI sn) (nI tx) (nI lz) (nI az) (nI na) (nI nt) (nI nr) mw ml mk dq)), (r 18, .inl ((cT 0), 41, .inl (upd f18 b x195))), (r 19, .inl ((cT 0), 41, .inl (upd f19 b x197))), (r 20, .inl ((cT 0), 41, .inl (upd f20 b x199))), (r 21, .inl ((cT 0), 41, .inl (upd f21 b (nI t201)))), (r 22, .inl ((cT 0), 8200, .inl (upd g22_205 ((200 * b) + i) x221))), (r 23, .inl ((cT 0), 656, .inl f23))] := hD
      refine lv_iinc (k := 0) (v := nI (i + 1)) (lv' := [(3, .int (nI (i + 1))), (0, .ref mo), (1, .int (nI a)), (2, .int (nI b))]) hx hb d_Md_copyAnswer_81 hl rfl (nI_1 i) (by decide) rfl (fun ls hl => ?_)
      refine lv_goto (tgt := 50) hx hb d_Md_copyAnswer_84 (by decide) ?_
      have hl := lv_sub hl [0, 1, 2, 3] (show _ = [(3, .int (nI (i + 1))), (0, .ref mo), (1, .int (nI a)), (2, .int (nI b))] from rfl)
      exact ih (i + 1) _ _ _ _ (by omega)  hP hD hS hl
  refine L206 _ (fun g22_205 H locs ls  hP hD hS hl => ?_) (200 - 0) 0 f22 H _ ls (by omega)  hP hD hS hl
  refine lv_iconst (v := 0) hx hb d_Md_copyAnswer_87 (by decide) ?_
  refine lv_istore_n (lv' := [(3, .int 0), (0, .ref mo), (1, .int (nI a)), (2, .int (nI b))]) hx hb d_Md_copyAnswer_88 rfl hl (by decide) rfl (fun ls hl => ?_)
  have hl := lv_sub hl [0, 1, 2, 3] (show _ = [(3, .int 0), (0, .ref mo), (1, .int (nI a)), (2, .int (nI b))] from rfl)
  have L224 : ∀ (Q : State → Prop) (exit : ∀ (g23_223 : Nat → Int32) (H : Heap) (locs : List Loc) (ls : Array Slot), va_P (dC, dI) vcl [(mo, .inr (12, mdG r cd tm (nI sn) (nI tx) (nI lz) (nI az) (nI na) (nI nt) (nI nr) mw ml mk dq)), (r 18, .inl ((cT 0), 41, .inl (upd f18 b x195))), (r 19, .inl ((cT 0), 41, .inl (upd f19 b x197))), (r 20, .inl ((cT 0), 41, .inl (upd f20 b x199))), (r 21, .inl ((cT 0), 41, .inl (upd f21 b (nI t201)))), (r 22, .inl ((cT 0), 8200, .inl g22_205)), (r 23, .inl ((cT 0), 656, .inl g23_223))] H → va_D A [(mo, .inr (12, mdG r cd tm (nI sn) (nI tx) (nI lz) (nI az) (nI na) (nI nt) (nI nr) mw ml mk dq)), (r 18, .inl ((cT 0), 41, .inl (upd f18 b x195))), (r 19, .inl ((cT 0), 41, .inl (upd f19 b x197))), (r 20, .inl ((cT 0), 41, .inl (upd f20 b x199))), (r 21, .inl ((cT 0), 41, .inl (upd f21 b (nI t201)))), (r 22, .inl ((cT 0), 8200, .inl g22_205)), (r 23, .inl ((cT 0), 656, .inl g23_223))] → va_S A s.heap H locs → lv_has ls 4 [(3, .int (nI 16)), (0, .ref mo), (1, .int (nI a)), (2, .int (nI b))] → W p l e ({ frames := 0, cells := 0, slots := 0, locals := 0 } : Room) s m args below meth c H locs 0 0 Q (F0 m 123 ls [])) (j8 i : Nat) (g23_223 : Nat → Int32) (H : Heap) (locs : List Loc) (ls : Array Slot), i + j8 = 16 → va_P (dC, dI) vcl [(mo, .inr (12, mdG r cd tm (nI sn) (nI tx) (nI lz) (nI az) (nI na) (nI nt) (nI nr) mw ml mk dq)), (r 18, .inl ((cT 0), 41, .inl (upd f18 b x195))), (r 19, .inl ((cT 0), 41, .inl (upd f19 b x197))), (r 20, .inl ((cT 0), 41, .inl (upd f20 b x199))), (r 21, .inl ((cT 0), 41, .inl (upd f21 b (nI t201)))), (r 22, .inl ((cT 0), 8200, .inl g22_205)), (r 23, .inl ((cT 0), 656, .inl g23_223))] H → va_D A [(mo, .inr (12, mdG r cd tm (nI sn) (nI tx) (nI lz) (nI az) (nI na) (nI nt) (nI nr) mw ml mk dq)), (r 18, .inl ((cT 0), 41, .inl (upd f18 b x195))), (r 19, .inl ((cT 0), 41, .inl (upd f19 b x197))), (r 20, .inl ((cT 0), 41, .inl (upd f20 b x199))), (r 21, .inl ((cT 0), 41, .inl (upd f21 b (nI t201)))), (r 22, .inl ((cT 0), 8200, .inl g22_205)), (r 23, .inl ((cT 0), 656, .inl g23_223))] → va_S A s.heap H locs → lv_has ls 4 [(3, .int (nI i)), (0, .ref mo), (1, .int (nI a)), (2, .int (nI b))] → W p l e ({ frames := 0, cells := 0, slots := 0, locals := 0 } : Room) s m args below meth c H locs 0 0 Q (F0 m 89 ls []) := by
    intro Q exit j8
    induction j8 with
    | zero => 
      intro i g23_223 H locs ls hij  hP hD hS hl
      have hij : 16 = i := by omega
      refine lv_iload_n hx hb d_Md_copyAnswer_89 rfl (lv_at hl 0 rfl) ?_
      refine lv_bipush (v := 16) hx hb d_Md_copyAnswer_90 (by decide) ?_
      refine lv_topi (fun x226 e225 => ?_)
      obtain rfl : x226 = nI 16 := by rw [e225]; rfl
      refine lv_icmp_ge (tgt := 123) hx hb d_Md_copyAnswer_92 (by decide) (fun hc227 => ?_) (fun hn9 => absurd (nI_le (by omega) (by omega)) hn9)
      subst hij
      exact exit g23_223 _ _ _  hP hD hS hl
    | succ j8 ih => 
      intro i g23_223 H locs ls hij  hP hD hS hl
      have hlt : i < 16 := by omega
      have hlti := hlt
      refine lv_iload_n hx hb d_Md_copyAnswer_89 rfl (lv_at hl 0 rfl) ?_
      refine lv_bipush (v := 16) hx hb d_Md_copyAnswer_90 (by decide) ?_
      refine lv_topi (fun x229 e228 => ?_)
      obtain rfl : x229 = nI 16 := by rw [e228]; rfl
      refine lv_icmp_ge (tgt := 123) hx hb d_Md_copyAnswer_92 (by decide) (fun hn9 => absurd hn9 (nI_ge (by omega) (by omega))) (fun hc230 => ?_)
      refine lv_aload_n hx hb d_Md_copyAnswer_95 rfl (lv_at hl 1 rfl) ?_
      refine va_get (D := (dC, dI)) (ci := 12) (v := (.ref (r 23))) (C := R_Md) (T := F_Md) (N := 45) hx hb hg in_Md hown hK hP 0 rfl rfl 23 (by decide) (hg _ k_1043) (fun _ h9 => h9) rfl d_Md_copyAnswer_96 ?_
      refine lv_bipush (v := 16) hx hb d_Md_copyAnswer_99 (by decide) ?_
      refine lv_iload_n hx hb d_Md_copyAnswer_101 rfl (lv_at hl 3 rfl) ?_
      refine lv_imul hx hb d_Md_copyAnswer_102 ?_
      refine lv_topi (fun x232 e231 => ?_)
      obtain rfl : x232 = nI (16 * b) := by rw [e231]; exact pk_mul 16 b
      refine lv_iload_n hx hb d_Md_copyAnswer_103 rfl (lv_at hl 0 rfl) ?_
      refine lv_iadd hx hb d_Md_copyAnswer_104 ?_
      refine lv_topi (fun x234 e233 => ?_)
      obtain rfl : x234 = nI ((16 * b) + i) := by rw [e233]; exact nI_add (16 * b) i
      refine lv_aload_n hx hb d_Md_copyAnswer_105 rfl (lv_at hl 1 rfl) ?_
      refine va_get (D := (dC, dI)) (ci := 12) (v := (.ref (r 23))) (C := R_Md) (T := F_Md) (N := 45) hx hb hg in_Md hown hK hP 0 rfl rfl 23 (by decide) (hg _ k_1043) (fun _ h9 => h9) rfl d_Md_copyAnswer_106 ?_
      refine lv_bipush (v := 16) hx hb d_Md_copyAnswer_109 (by decide) ?_
      refine lv_iload_n hx hb d_Md_copyAnswer_111 rfl (lv_at hl 2 rfl) ?_
      refine lv_imul hx hb d_Md_copyAnswer_112 ?_
      refine lv_topi (fun x236 e235 => ?_)
      obtain rfl : x236 = nI (16 * a) := by rw [e235]; exact pk_mul 16 a
      refine lv_iload_n hx hb d_Md_copyAnswer_113 rfl (lv_at hl 0 rfl) ?_
      refine lv_iadd hx hb d_Md_copyAnswer_114 ?_
      refine lv_topi (fun x238 e237 => ?_)
      obtain rfl : x238 = nI ((16 * a) + i) := by rw [e237]; exact nI_add (16 * a) i
      refine va_iald hx hb hK hP 6 0 rfl rfl (i := (nI ((16 * a) + i))) (vp_in_nI (N := 656) (by omega) (by decide)) d_Md_copyAnswer_115 ?_
      refine lv_topi (fun x239 e_x239 => ?_)
      clear e_x239
      refine va_iast hx hb hK hP hD hS 6 0 rfl rfl (i := (nI ((16 * b) + i))) (vp_in_nI (n := (16 * b) + i) (N := 656) (by omega) (by decide)) d_Md_copyAnswer_116 (fun H locs hP hD hS => ?_)
      have ef240 : upd g23_223 (nI ((16 * b) + i)).toNatClampNeg x239 = upd g23_223 ((16 * b) + i) x239 := by rw [show (nI ((16 * b) + i)).toNatClampNeg = (16 * b) + i from nI_clamp (by omega)]
      rw [ef240] at hP hD
      have hP : va_P (dC, dI) vcl [(mo, .inr (12, mdG r cd tm (nI sn) (nI tx) (nI lz) (nI az) (nI na) (nI nt) (nI nr) mw ml mk dq)), (r 18, .inl ((cT 0), 41, .inl (upd f18 b x195))), (r 19, .inl ((cT 0), 41, .inl (upd f19 b x197))), (r 20, .inl ((cT 0), 41, .inl (upd f20 b x199))), (r 21, .inl ((cT 0), 41, .inl (upd f21 b (nI t201)))), (r 22, .inl ((cT 0), 8200, .inl g22_205)), (r 23, .inl ((cT 0), 656, .inl (upd g23_223 ((16 * b) + i) x239)))] H := hP
      have hD : va_D A [(mo, .inr (12, mdG r cd tm (nI sn) (nI tx) (nI lz) (nI az) (nI na) (nI nt) (nI nr) mw ml mk dq)), (r 18, .inl ((cT 0), 41, .inl (upd f18 b x195))), (r 19, .inl ((cT 0), 41, .inl (upd f19 b x197))), (r 20, .inl ((cT 0), 41, .inl (upd f20 b x199))), (r 21, .inl ((cT 0), 41, .inl (upd f21 b (nI t201)))), (r 22, .inl ((cT 0), 8200, .inl g22_205)), (r 23, .inl ((cT 0), 656, .inl (upd g23_223 ((16 * b) + i) x239)))] := hD
      refine lv_iinc (k := 0) (v := nI (i + 1)) (lv' := [(3, .int (nI (i + 1))), (0, .ref mo), (1, .int (nI a)), (2, .int (nI b))]) hx hb d_Md_copyAnswer_117 hl rfl (nI_1 i) (by decide) rfl (fun ls hl => ?_)
      refine lv_goto (tgt := 89) hx hb d_Md_copyAnswer_120 (by decide) ?_
      have hl := lv_sub hl [0, 1, 2, 3] (show _ = [(3, .int (nI (i + 1))), (0, .ref mo), (1, .int (nI a)), (2, .int (nI b))] from rfl)
      exact ih (i + 1) _ _ _ _ (by omega)  hP hD hS hl
  refine L224 _ (fun g23_223 H locs ls  hP hD hS hl => ?_) (16 - 0) 0 f23 H _ ls (by omega)  hP hD hS hl
  have hP9 := hP.sub (ws' := [(mo, .inr (12, mdG r cd tm (nI sn) (nI tx) (nI lz) (nI az) (nI na) (nI nt) (nI nr) mw ml mk dq)), (r 18, .inl ((cT 0), 41, .inl (upd f18 b x195))), (r 19, .inl ((cT 0), 41, .inl (upd f19 b x197))), (r 20, .inl ((cT 0), 41, .inl (upd f20 b x199))), (r 21, .inl ((cT 0), 41, .inl (upd f21 b (nI t201)))), (r 22, .inl ((cT 0), 8200, .inl g22_205)), (r 23, .inl ((cT 0), 656, .inl g23_223))]) [0, 1, 2, 3, 4, 5, 6] rfl
  have hD9 := hD.sub (ws' := [(mo, .inr (12, mdG r cd tm (nI sn) (nI tx) (nI lz) (nI az) (nI na) (nI nt) (nI nr) mw ml mk dq)), (r 18, .inl ((cT 0), 41, .inl (upd f18 b x195))), (r 19, .inl ((cT 0), 41, .inl (upd f19 b x197))), (r 20, .inl ((cT 0), 41, .inl (upd f20 b x199))), (r 21, .inl ((cT 0), 41, .inl (upd f21 b (nI t201)))), (r 22, .inl ((cT 0), 8200, .inl g22_205)), (r 23, .inl ((cT 0), 656, .inl g23_223))]) [0, 1, 2, 3, 4, 5, 6] (by decide) rfl
  exact W.vret hx hb hr (fun t ht hW => ⟨⟨⟨upd f18 b x195, upd f19 b x197, upd f20 b x199, upd f21 b (nI t201), g22_205, g23_223⟩, rfl, BD_upd h21 (by omega), by rw [ht]; exact hP9, va_K.moved hW.alike hK, hD9⟩, hS.F ht⟩) hS.2.2 d_Md_copyAnswer_123
set_option maxHeartbeats 4000000 in
set_option maxRecDepth 100000 in
/-- dropAnswer -/
theorem m_dropAnswer (l : Launch) (dC : Nat → ClassId) (dI : Nat → Nat → Nat) (cT : Nat → ClassId) (sz : Nat) (mo : Nat) (r : Nat → Nat) (cd : Int32) (tm : Int32) (sn : Nat) (tx : Nat) (lz : Nat) (az : Nat) (na : Nat) (nt : Nat) (nr : Nat) (mw : Int32) (ml : Int32) (mk : Int64) (dq : Int64) (f18 : Nat → Int32) (f19 : Nat → Int32) (f20 : Nat → Int32) (f21 : Nat → Int32) (f22 : Nat → Int32) (f23 : Nat → Int32) (a : Nat) (ha : a < na) (hna : na ≤ 40) (h21 : BD 200 41 f21) : Met l y_Md_dropAnswer (Cond.code y_Md_dropAnswer b_Md_dropAnswer 3 (Option.none : Option Jvm.ClassFile.FieldType) :: BIG) ({ frames := 1, cells := 0, slots := 0, locals := 25 }) (va_Pc [.ref mo, .int (nI a)] (fun U => U.heap.size = sz ∧ va_P (dC, dI) vcl [(mo, .inr (12, mdG r cd tm (nI sn) (nI tx) (nI lz) (nI az) (nI na) (nI nt) (nI nr) mw ml mk dq)), (r 18, .inl ((cT 0), 41, .inl f18)), (r 19, .inl ((cT 0), 41, .inl f19)), (r 20, .inl ((cT 0), 41, .inl f20)), (r 21, .inl ((cT 0), 41, .inl f21)), (r 22, .inl ((cT 0), 8200, .inl f22)), (r 23, .inl ((cT 0), 656, .inl f23))] U.heap ∧ va_K (dC, dI) vcl (tyL cT) U ∧ va_D (fun _ => True) [(mo, .inr (12, mdG r cd tm (nI sn) (nI tx) (nI lz) (nI az) (nI na) (nI nt) (nI nr) mw ml mk dq)), (r 18, .inl ((cT 0), 41, .inl f18)), (r 19, .inl ((cT 0), 41, .inl f19)), (r 20, .inl ((cT 0), 41, .inl f20)), (r 21, .inl ((cT 0), 41, .inl f21)), (r 22, .inl ((cT 0), 8200, .inl f22)), (r 23, .inl ((cT 0), 656, .inl f23))])) (va_Qv (S := (Nat → Int32) × (Nat → Int32) × (Nat → Int32) × (Nat → Int32) × (Nat → Int32) × (Nat → Int32)) (fun u => match u with | (g18, g19, g20, g21, g22, g23) => BD 200 41 g21) (fun u t => match u with | (g18, g19, g20, g21, g22, g23) => va_P (dC, dI) vcl [(mo, .inr (12, mdG r cd tm (nI sn) (nI tx) (nI lz) (nI az) (nI (na - 1)) (nI nt) (nI nr) mw ml mk dq)), (r 18, .inl ((cT 0), 41, .inl g18)), (r 19, .inl ((cT 0), 41, .inl g19)), (r 20, .inl ((cT 0), 41, .inl g20)), (r 21, .inl ((cT 0), 41, .inl g21)), (r 22, .inl ((cT 0), 8200, .inl g22)), (r 23, .inl ((cT 0), 656, .inl g23))] t.heap ∧ va_K (dC, dI) vcl (tyL cT) t ∧ va_D (va_A [(mo, .inr (12, mdG r cd tm (nI sn) (nI tx) (nI lz) (nI az) (nI na) (nI nt) (nI nr) mw ml mk dq)), (r 18, .inl ((cT 0), 41, .inl f18)), (r 19, .inl ((cT 0), 41, .inl f19)), (r 20, .inl ((cT 0), 41, .inl f20)), (r 21, .inl ((cT 0), 41, .inl f21)), (r 22, .inl ((cT 0), 8200, .inl f22)), (r 23, .inl ((cT 0), 656, .inl f23))] sz) [(mo, .inr (12, mdG r cd tm (nI sn) (nI tx) (nI lz) (nI az) (nI (na - 1)) (nI nt) (nI nr) mw ml mk dq)), (r 18, .inl ((cT 0), 41, .inl g18)), (r 19, .inl ((cT 0), 41, .inl g19)), (r 20, .inl ((cT 0), 41, .inl g20)), (r 21, .inl ((cT 0), 41, .inl g21)), (r 22, .inl ((cT 0), 8200, .inl g22)), (r 23, .inl ((cT 0), 656, .inl g23))]) (va_A [(mo, .inr (12, mdG r cd tm (nI sn) (nI tx) (nI lz) (nI az) (nI na) (nI nt) (nI nr) mw ml mk dq)), (r 18, .inl ((cT 0), 41, .inl f18)), (r 19, .inl ((cT 0), 41, .inl f19)), (r 20, .inl ((cT 0), 41, .inl f20)), (r 21, .inl ((cT 0), 41, .inl f21)), (r 22, .inl ((cT 0), 8200, .inl f22)), (r 23, .inl ((cT 0), 656, .inl f23))] sz)) 0 0 (va_A [(mo, .inr (12, mdG r cd tm (nI sn) (nI tx) (nI lz) (nI az) (nI na) (nI nt) (nI nr) mw ml mk dq)), (r 18, .inl ((cT 0), 41, .inl f18)), (r 19, .inl ((cT 0), 41, .inl f19)), (r 20, .inl ((cT 0), 41, .inl f20)), (r 21, .inl ((cT 0), 41, .inl f21)), (r 22, .inl ((cT 0), 8200, .inl f22)), (r 23, .inl ((cT 0), 656, .inl f23))] sz) := by
  refine Met.ofW (cc := b_Md_dropAnswer) (maxL := 3) (ret := (Option.none : Option Jvm.ClassFile.FieldType)) (by decide) rfl ?_
  intro p e s m args below meth c s₁ B hml hv
  obtain ⟨hargs, hsz, hP, hK, hD0⟩ := hv
  have hx := B.exec
  have hb := B.bytes
  have hr := B.returns
  have hts := atoms_spec (ws := (Cond.code y_Md_dropAnswer b_Md_dropAnswer 3 (Option.none : Option Jvm.ClassFile.FieldType) :: BIG)) B.pre
  have hg : ∀ w ∈ BIG, w.before _ s = true := fun w h => hts w (List.mem_cons_of_mem _ h)
  have hown : s.vm.findClass "DoorServerModel" = some m.cls := findClass_of_methodNamed B.named
  have hlocks := B.notSynchronized
  subst hsz
  have hD := hD0.self (sz := s.heap.size)
  generalize hAe : va_A [(mo, .inr (12, mdG r cd tm (nI sn) (nI tx) (nI lz) (nI az) (nI na) (nI nt) (nI nr) mw ml mk dq)), (r 18, .inl ((cT 0), 41, .inl f18)), (r 19, .inl ((cT 0), 41, .inl f19)), (r 20, .inl ((cT 0), 41, .inl f20)), (r 21, .inl ((cT 0), 41, .inl f21)), (r 22, .inl ((cT 0), 8200, .inl f22)), (r 23, .inl ((cT 0), 656, .inl f23))] s.heap.size = A at hD ⊢
  have hA : ∀ q : Nat, s.heap.size ≤ q → A q := fun q h => by rw [← hAe]; exact Or.inr h
  have hS : va_S A s.heap s.heap [] := va_S.rf
  have hl := lv_entry ([.ref mo, .int (nI a)]) (n := 3) (Nat.le_of_ble_eq_true rfl)
  refine W.eq (g2 := entryFrame m (List.toArray [.ref mo, .int (nI a)]) 3) (by rw [hargs]) ?_
  rw [lg_entry_eq]
  generalize (lg_sl ([.ref mo, .int (nI a)]) ++ List.replicate (3 - (lg_sl ([.ref mo, .int (nI a)])).length) Slot.unset).toArray = ls at hl ⊢
  have hl : lv_has ls 3 [(0, .ref mo), (1, .int (nI a))] := hl
  change W p l e ({ frames := 1, cells := 0, slots := 0, locals := 25 } : Room) s m args below meth c s.heap [] 0 0 _ _
  have hP : va_P (dC, dI) vcl [(mo, .inr (12, mdG r cd tm (nI sn) (nI tx) (nI lz) (nI az) (nI na) (nI nt) (nI nr) mw ml mk dq)), (r 18, .inl ((cT 0), 41, .inl f18)), (r 19, .inl ((cT 0), 41, .inl f19)), (r 20, .inl ((cT 0), 41, .inl f20)), (r 21, .inl ((cT 0), 41, .inl f21)), (r 22, .inl ((cT 0), 8200, .inl f22)), (r 23, .inl ((cT 0), 656, .inl f23))] s.heap := hP
  refine lv_iload_n hx hb d_Md_dropAnswer_0 rfl (lv_at hl 1 rfl) ?_
  refine lv_iconst (v := 1) hx hb d_Md_dropAnswer_1 (by decide) ?_
  refine lv_iadd hx hb d_Md_dropAnswer_2 ?_
  refine lv_topi (fun x242 e241 => ?_)
  obtain rfl : x242 = nI (a + 1) := by rw [e241]; exact nI_add a 1
  refine lv_istore_n (lv' := [(2, .int (nI (a + 1))), (0, .ref mo), (1, .int (nI a))]) hx hb d_Md_dropAnswer_3 rfl hl (by decide) rfl (fun ls hl => ?_)
  have hl := lv_sub hl [0, 1, 2] (show _ = [(2, .int (nI (a + 1))), (0, .ref mo), (1, .int (nI a))] from rfl)
  have L249 : ∀ (Q : State → Prop) (exit : ∀ (g18_243 : Nat → Int32) (g19_244 : Nat → Int32) (g20_245 : Nat → Int32) (g21_246 : Nat → Int32) (g22_247 : Nat → Int32) (g23_248 : Nat → Int32) (H : Heap) (locs : List Loc) (ls : Array Slot), (BD 200 41 g21_246) → (a + 1 ≤ na) → va_P (dC, dI) vcl [(mo, .inr (12, mdG r cd tm (nI sn) (nI tx) (nI lz) (nI az) (nI na) (nI nt) (nI nr) mw ml mk dq)), (r 18, .inl ((cT 0), 41, .inl g18_243)), (r 19, .inl ((cT 0), 41, .inl g19_244)), (r 20, .inl ((cT 0), 41, .inl g20_245)), (r 21, .inl ((cT 0), 41, .inl g21_246)), (r 22, .inl ((cT 0), 8200, .inl g22_247)), (r 23, .inl ((cT 0), 656, .inl g23_248))] H → va_D A [(mo, .inr (12, mdG r cd tm (nI sn) (nI tx) (nI lz) (nI az) (nI na) (nI nt) (nI nr) mw ml mk dq)), (r 18, .inl ((cT 0), 41, .inl g18_243)), (r 19, .inl ((cT 0), 41, .inl g19_244)), (r 20, .inl ((cT 0), 41, .inl g20_245)), (r 21, .inl ((cT 0), 41, .inl g21_246)), (r 22, .inl ((cT 0), 8200, .inl g22_247)), (r 23, .inl ((cT 0), 656, .inl g23_248))] → va_S A s.heap H locs → lv_has ls 3 [(2, .int (nI na)), (0, .ref mo), (1, .int (nI a))] → W p l e ({ frames := 1, cells := 0, slots := 0, locals := 25 } : Room) s m args below meth c H locs 0 0 Q (F0 m 26 ls [])) (j8 i : Nat) (g18_243 : Nat → Int32) (g19_244 : Nat → Int32) (g20_245 : Nat → Int32) (g21_246 : Nat → Int32) (g22_247 : Nat → Int32) (g23_248 : Nat → Int32) (H : Heap) (locs : List Loc) (ls : Array Slot), i + j8 = na → (BD 200 41 g21_246) → (a + 1 ≤ i) → va_P (dC, dI) vcl [(mo, .inr (12, mdG r cd tm (nI sn) (nI tx) (nI lz) (nI az) (nI na) (nI nt) (nI nr) mw ml mk dq)), (r 18, .inl ((cT 0), 41, .inl g18_243)), (r 19, .inl ((cT 0), 41, .inl g19_244)), (r 20, .inl ((cT 0), 41, .inl g20_245)), (r 21, .inl ((cT 0), 41, .inl g21_246)), (r 22, .inl ((cT 0), 8200, .inl g22_247)), (r 23, .inl ((cT 0), 656, .inl g23_248))] H → va_D A [(mo, .inr (12, mdG r cd tm (nI sn) (nI tx) (nI lz) (nI az) (nI na) (nI nt) (nI nr) mw ml mk dq)), (r 18, .inl ((cT 0), 41, .inl g18_243)), (r 19, .inl ((cT 0), 41, .inl g19_244)), (r 20, .inl ((cT 0), 41, .inl g20_245)), (r 21, .inl ((cT 0), 41, .inl g21_246)), (r 22, .inl ((cT 0), 8200, .inl g22_247)), (r 23, .inl ((cT 0), 656, .inl g23_248))] → va_S A s.heap H locs → lv_has ls 3 [(2, .int (nI i)), (0, .ref mo), (1, .int (nI a))] → W p l e ({ frames := 1, cells := 0, slots := 0, locals := 25 } : Room) s m args below meth c H locs 0 0 Q (F0 m 4 ls []) := by
    intro Q exit j8
    induction j8 with
    | zero => 
      intro i g18_243 g19_244 g20_245 g21_246 g22_247 g23_248 H locs ls hij hbd hia hP hD hS hl
      have hij : na = i := by omega
      refine lv_iload_n hx hb d_Md_dropAnswer_4 rfl (lv_at hl 0 rfl) ?_
      refine lv_aload_n hx hb d_Md_dropAnswer_5 rfl (lv_at hl 1 rfl) ?_
      refine va_get (D := (dC, dI)) (ci := 12) (v := (.int (nI na))) (C := R_Md) (T := F_Md) (N := 45) hx hb hg in_Md hown hK hP 0 rfl rfl 17 (by decide) (hg _ k_1037) (fun _ h9 => h9) rfl d_Md_dropAnswer_6 ?_
      refine lv_icmp_ge (tgt := 26) hx hb d_Md_dropAnswer_9 (by decide) (fun hc250 => ?_) (fun hn9 => absurd (nI_le (by omega) (by omega)) hn9)
      subst hij
      exact exit g18_243 g19_244 g20_245 g21_246 g22_247 g23_248 _ _ _ hbd hia hP hD hS hl
    | succ j8 ih => 
      intro i g18_243 g19_244 g20_245 g21_246 g22_247 g23_248 H locs ls hij hbd hia hP hD hS hl
      have hlt : i < na := by omega
      have hlti := hlt
      refine lv_iload_n hx hb d_Md_dropAnswer_4 rfl (lv_at hl 0 rfl) ?_
      refine lv_aload_n hx hb d_Md_dropAnswer_5 rfl (lv_at hl 1 rfl) ?_
      refine va_get (D := (dC, dI)) (ci := 12) (v := (.int (nI na))) (C := R_Md) (T := F_Md) (N := 45) hx hb hg in_Md hown hK hP 0 rfl rfl 17 (by decide) (hg _ k_1037) (fun _ h9 => h9) rfl d_Md_dropAnswer_6 ?_
      refine lv_icmp_ge (tgt := 26) hx hb d_Md_dropAnswer_9 (by decide) (fun hn9 => absurd hn9 (nI_ge (by omega) (by omega))) (fun hc251 => ?_)
      refine lv_aload_n hx hb d_Md_dropAnswer_12 rfl (lv_at hl 1 rfl) ?_
      refine lv_iload_n hx hb d_Md_dropAnswer_13 rfl (lv_at hl 0 rfl) ?_
      refine lv_iload_n hx hb d_Md_dropAnswer_14 rfl (lv_at hl 0 rfl) ?_
      refine lv_iconst (v := 1) hx hb d_Md_dropAnswer_15 (by decide) ?_
      refine lv_isub hx hb d_Md_dropAnswer_16 ?_
      refine lv_topi (fun x253 e252 => ?_)
      obtain rfl : x253 = nI (i - 1) := by rw [e252]; exact pk_sub (a := i) (b := 1) (by omega)
      have hPc := hP.sub (ws' := [(mo, .inr (12, mdG r cd tm (nI sn) (nI tx) (nI lz) (nI az) (nI na) (nI nt) (nI nr) mw ml mk dq)), (r 18, .inl ((cT 0), 41, .inl g18_243)), (r 19, .inl ((cT 0), 41, .inl g19_244)), (r 20, .inl ((cT 0), 41, .inl g20_245)), (r 21, .inl ((cT 0), 41, .inl g21_246)), (r 22, .inl ((cT 0), 8200, .inl g22_247)), (r 23, .inl ((cT 0), 656, .inl g23_248))]) [0, 1, 2, 3, 4, 5, 6] rfl
      have hDc := hD.sub (ws' := [(mo, .inr (12, mdG r cd tm (nI sn) (nI tx) (nI lz) (nI az) (nI na) (nI nt) (nI nr) mw ml mk dq)), (r 18, .inl ((cT 0), 41, .inl g18_243)), (r 19, .inl ((cT 0), 41, .inl g19_244)), (r 20, .inl ((cT 0), 41, .inl g20_245)), (r 21, .inl ((cT 0), 41, .inl g21_246)), (r 22, .inl ((cT 0), 8200, .inl g22_247)), (r 23, .inl ((cT 0), 656, .inl g23_248))]) [0, 1, 2, 3, 4, 5, 6] (by decide) rfl
      have hFc := va_free (wc := [(mo, .inr (12, mdG r cd tm (nI sn) (nI tx) (nI lz) (nI az) (nI na) (nI nt) (nI nr) mw ml mk dq)), (r 18, .inl ((cT 0), 41, .inl g18_243)), (r 19, .inl ((cT 0), 41, .inl g19_244)), (r 20, .inl ((cT 0), 41, .inl g20_245)), (r 21, .inl ((cT 0), 41, .inl g21_246)), (r 22, .inl ((cT 0), 8200, .inl g22_247)), (r 23, .inl ((cT 0), 656, .inl g23_248))]) hD hS hA [0, 1, 2, 3, 4, 5, 6] rfl
      refine va_callv (va_runV (C := "DoorServerModel") (As := [.int (nI i), .int (nI (i - 1))]) (rest := []) ⟨hx, hb, hml, hown, hg⟩ (m_copyAnswer l dC dI cT H.size mo r cd tm sn tx lz az na nt nr mw ml mk dq g18_243 g19_244 g20_245 g21_246 g22_247 g23_248 i (i - 1) (by first | assumption | omega) (by first | assumption | omega) (by first | assumption | omega)) (cwV 2 hg (gI (List.forall_mem_append.mpr ⟨List.forall_mem_cons.mpr ⟨k_1375, List.forall_mem_cons.mpr ⟨k_1377, List.forall_mem_cons.mpr ⟨(big_sel (q := y_Md_copyAnswer) (n := 45) (by decide +kernel)), List.forall_mem_cons.mpr ⟨k_13, fun _ h => absurd h List.not_mem_nil⟩⟩⟩⟩, List.forall_mem_cons.mpr ⟨k_1378, fun _ h => h⟩⟩)) rfl rfl rfl (by decide +kernel) ⟨Nat.le_of_ble_eq_true rfl, Nat.le_of_ble_eq_true rfl⟩) ⟨fun a U g mk q => by obtain ⟨q0, q1, qP, qK, qD⟩ := q; exact ⟨q0, q1, qP, va_K.moved (u := U) (U := U.calling g mk a) (Vm.Alike.refl U.vm) qK, qD⟩, va_recv (q0 := 0) (ci := 12) hK hP rfl rfl, fun U hU hW => ⟨rfl, by rw [hU], by rw [hU]; exact hPc, va_K.moved hW.alike hK, hDc.weaken (fun _ _ _ _ => trivial)⟩⟩ rfl rfl hl.1 rfl (lv_room (Nat.le_of_ble_eq_true rfl)) d_Md_dropAnswer_17 ⟨Nat.le_of_ble_eq_true rfl, Nat.le_of_ble_eq_true rfl⟩) hS (fun q _ h => hFc q h) hFc (fun u t H1 locs ht hvm hw hB hz1 hk1 hS => ?_)
      obtain ⟨g18_254, g19_255, g20_256, g21_257, g22_258, g23_259⟩ := u
      try dsimp only at hw hB
      obtain ⟨hP1, hK1, hD1⟩ := hB
      rw [ht] at hP1
      obtain ⟨hP, hD⟩ := va_join (wr := []) (w1 := [(mo, .inr (12, mdG r cd tm (nI sn) (nI tx) (nI lz) (nI az) (nI na) (nI nt) (nI nr) mw ml mk dq)), (r 18, .inl ((cT 0), 41, .inl g18_254)), (r 19, .inl ((cT 0), 41, .inl g19_255)), (r 20, .inl ((cT 0), 41, .inl g20_256)), (r 21, .inl ((cT 0), 41, .inl g21_257)), (r 22, .inl ((cT 0), 8200, .inl g22_258)), (r 23, .inl ((cT 0), 656, .inl g23_259))]) hP hD [0, 1, 2, 3, 4, 5, 6] [] rfl rfl (by decide) (by decide) hk1 hFc hP1 hD1
      have hw260 := hw
      clear hPc hDc hFc hz1 hk1 hP1 hK1 hD1
      generalize H1 = H at hP hS ⊢
      have hP : va_P (dC, dI) vcl [(mo, .inr (12, mdG r cd tm (nI sn) (nI tx) (nI lz) (nI az) (nI na) (nI nt) (nI nr) mw ml mk dq)), (r 18, .inl ((cT 0), 41, .inl g18_254)), (r 19, .inl ((cT 0), 41, .inl g19_255)), (r 20, .inl ((cT 0), 41, .inl g20_256)), (r 21, .inl ((cT 0), 41, .inl g21_257)), (r 22, .inl ((cT 0), 8200, .inl g22_258)), (r 23, .inl ((cT 0), 656, .inl g23_259))] H := hP
      have hD : va_D A [(mo, .inr (12, mdG r cd tm (nI sn) (nI tx) (nI lz) (nI az) (nI na) (nI nt) (nI nr) mw ml mk dq)), (r 18, .inl ((cT 0), 41, .inl g18_254)), (r 19, .inl ((cT 0), 41, .inl g19_255)), (r 20, .inl ((cT 0), 41, .inl g20_256)), (r 21, .inl ((cT 0), 41, .inl g21_257)), (r 22, .inl ((cT 0), 8200, .inl g22_258)), (r 23, .inl ((cT 0), 656, .inl g23_259))] := hD
      have k261 := hw260
      refine lv_iinc (k := 0) (v := nI (i + 1)) (lv' := [(2, .int (nI (i + 1))), (0, .ref mo), (1, .int (nI a))]) hx hb d_Md_dropAnswer_20 hl rfl (nI_1 i) (by decide) rfl (fun ls hl => ?_)
      refine lv_goto (tgt := 4) hx hb d_Md_dropAnswer_23 (by decide) ?_
      have hl := lv_sub hl [0, 1, 2] (show _ = [(2, .int (nI (i + 1))), (0, .ref mo), (1, .int (nI a))] from rfl)
      exact ih (i + 1) _ _ _ _ _ _ _ _ _ (by omega) (by first | assumption | omega) (by omega) hP hD hS hl
  refine L249 _ (fun g18_243 g19_244 g20_245 g21_246 g22_247 g23_248 H locs ls hbd hia hP hD hS hl => ?_) (na - (a + 1)) (a + 1) f18 f19 f20 f21 f22 f23 s.heap _ ls (by omega) (by first | assumption | omega) (by omega) hP hD hS hl
  refine lv_aload_n hx hb d_Md_dropAnswer_26 rfl (lv_at hl 1 rfl) ?_
  refine lv_dup hx hb d_Md_dropAnswer_27 rfl ?_
  refine va_get (D := (dC, dI)) (ci := 12) (v := (.int (nI na))) (C := R_Md) (T := F_Md) (N := 45) hx hb hg in_Md hown hK hP 0 rfl rfl 17 (by decide) (hg _ k_1037) (fun _ h9 => h9) rfl d_Md_dropAnswer_28 ?_
  refine lv_iconst (v := 1) hx hb d_Md_dropAnswer_31 (by decide) ?_
  refine lv_isub hx hb d_Md_dropAnswer_32 ?_
  refine lv_topi (fun x263 e262 => ?_)
  obtain rfl : x263 = nI (na - 1) := by rw [e262]; exact pk_sub (a := na) (b := 1) (by omega)
  refine va_put (D := (dC, dI)) (ci := 12) (v := (.int (nI (na - 1)))) (ty := .int) (C := R_Md) (T := F_Md) (N := 45) hx hb hg in_Md t_Md tok_Md nm_Md hown hK hP hD hS 0 rfl rfl 17 (by decide) (hg _ k_1037) (fun _ h9 => h9) rfl (by decide +kernel) rfl rfl (Nat.le_of_ble_eq_true rfl) d_Md_dropAnswer_33 (fun H locs hP hD hS => ?_)
  have hP : va_P (dC, dI) vcl [(mo, .inr (12, mdG r cd tm (nI sn) (nI tx) (nI lz) (nI az) (nI (na - 1)) (nI nt) (nI nr) mw ml mk dq)), (r 18, .inl ((cT 0), 41, .inl g18_243)), (r 19, .inl ((cT 0), 41, .inl g19_244)), (r 20, .inl ((cT 0), 41, .inl g20_245)), (r 21, .inl ((cT 0), 41, .inl g21_246)), (r 22, .inl ((cT 0), 8200, .inl g22_247)), (r 23, .inl ((cT 0), 656, .inl g23_248))] H := hP
  have hD : va_D A [(mo, .inr (12, mdG r cd tm (nI sn) (nI tx) (nI lz) (nI az) (nI (na - 1)) (nI nt) (nI nr) mw ml mk dq)), (r 18, .inl ((cT 0), 41, .inl g18_243)), (r 19, .inl ((cT 0), 41, .inl g19_244)), (r 20, .inl ((cT 0), 41, .inl g20_245)), (r 21, .inl ((cT 0), 41, .inl g21_246)), (r 22, .inl ((cT 0), 8200, .inl g22_247)), (r 23, .inl ((cT 0), 656, .inl g23_248))] := hD
  have hP9 := hP.sub (ws' := [(mo, .inr (12, mdG r cd tm (nI sn) (nI tx) (nI lz) (nI az) (nI (na - 1)) (nI nt) (nI nr) mw ml mk dq)), (r 18, .inl ((cT 0), 41, .inl g18_243)), (r 19, .inl ((cT 0), 41, .inl g19_244)), (r 20, .inl ((cT 0), 41, .inl g20_245)), (r 21, .inl ((cT 0), 41, .inl g21_246)), (r 22, .inl ((cT 0), 8200, .inl g22_247)), (r 23, .inl ((cT 0), 656, .inl g23_248))]) [0, 1, 2, 3, 4, 5, 6] rfl
  have hD9 := hD.sub (ws' := [(mo, .inr (12, mdG r cd tm (nI sn) (nI tx) (nI lz) (nI az) (nI (na - 1)) (nI nt) (nI nr) mw ml mk dq)), (r 18, .inl ((cT 0), 41, .inl g18_243)), (r 19, .inl ((cT 0), 41, .inl g19_244)), (r 20, .inl ((cT 0), 41, .inl g20_245)), (r 21, .inl ((cT 0), 41, .inl g21_246)), (r 22, .inl ((cT 0), 8200, .inl g22_247)), (r 23, .inl ((cT 0), 656, .inl g23_248))]) [0, 1, 2, 3, 4, 5, 6] (by decide) rfl
  exact W.vret hx hb hr (fun t ht hW => ⟨⟨⟨g18_243, g19_244, g20_245, g21_246, g22_247, g23_248⟩, rfl, by first | assumption | omega, by rw [ht]; exact hP9, va_K.moved hW.alike hK, hD9⟩, hS.F ht⟩) hS.2.2 d_Md_dropAnswer_36
set_option maxHeartbeats 4000000 in
set_option maxRecDepth 100000 in
/-- keep -/
theorem m_keep (l : Launch) (dC : Nat → ClassId) (dI : Nat → Nat → Nat) (cT : Nat → ClassId) (sz : Nat) (mo : Nat) (r : Nat → Nat) (cd : Int32) (tm : Int32) (sn : Nat) (tx : Nat) (lz : Nat) (az : Nat) (na : Nat) (nt : Nat) (nr : Nat) (mw : Int32) (ml : Int32) (mk : Int64) (dq : Int64) (f18 : Nat → Int32) (f19 : Nat → Int32) (f20 : Nat → Int32) (f21 : Nat → Int32) (f22 : Nat → Int32) (f23 : Nat → Int32) (f7 : Nat → Int32) (f15 : Nat → Int32) (x : Int32) (hna : na ≤ 40) (haz : az ≤ 200) (h21 : BD 200 41 f21) : Met l y_Md_keep (Cond.code y_Md_keep b_Md_keep 3 (Option.none : Option Jvm.ClassFile.FieldType) :: BIG) ({ frames := 2, cells := 0, slots := 0, locals := 50 }) (va_Pc [.ref mo, .int x] (fun U => U.heap.size = sz ∧ va_P (dC, dI) vcl [(mo, .inr (12, mdG r cd tm (nI sn) (nI tx) (nI lz) (nI az) (nI na) (nI nt) (nI nr) mw ml mk dq)), (r 18, .inl ((cT 0), 41, .inl f18)), (r 19, .inl ((cT 0), 41, .inl f19)), (r 20, .inl ((cT 0), 41, .inl f20)), (r 21, .inl ((cT 0), 41, .inl f21)), (r 22, .inl ((cT 0), 8200, .inl f22)), (r 23, .inl ((cT 0), 656, .inl f23)), (r 7, .inl ((cT 0), 1000, .inl f7)), (r 15, .inl ((cT 0), 200, .inl f15))] U.heap ∧ va_K (dC, dI) vcl (tyL cT) U ∧ va_D (fun _ => True) [(mo, .inr (12, mdG r cd tm (nI sn) (nI tx) (nI lz) (nI az) (nI na) (nI nt) (nI nr) mw ml mk dq)), (r 18, .inl ((cT 0), 41, .inl f18)), (r 19, .inl ((cT 0), 41, .inl f19)), (r 20, .inl ((cT 0), 41, .inl f20)), (r 21, .inl ((cT 0), 41, .inl f21)), (r 22, .inl ((cT 0), 8200, .inl f22)), (r 23, .inl ((cT 0), 656, .inl f23)), (r 7, .inl ((cT 0), 1000, .inl f7)), (r 15, .inl ((cT 0), 200, .inl f15))])) (va_Qv (S := (Nat → Int32) × (Nat → Int32) × (Nat → Int32) × (Nat → Int32) × (Nat → Int32) × (Nat → Int32) × Nat) (fun u => match u with | (g18, g19, g20, g21, g22, g23, na2) => (na2 ≤ 40) ∧ (BD 200 41 g21)) (fun u t => match u with | (g18, g19, g20, g21, g22, g23, na2) => va_P (dC, dI) vcl [(mo, .inr (12, mdG r cd tm (nI sn) (nI tx) (nI lz) (nI az) (nI na2) (nI nt) (nI nr) mw ml mk dq)), (r 18, .inl ((cT 0), 41, .inl g18)), (r 19, .inl ((cT 0), 41, .inl g19)), (r 20, .inl ((cT 0), 41, .inl g20)), (r 21, .inl ((cT 0), 41, .inl g21)), (r 22, .inl ((cT 0), 8200, .inl g22)), (r 23, .inl ((cT 0), 656, .inl g23)), (r 7, .inl ((cT 0), 1000, .inl f7)), (r 15, .inl ((cT 0), 200, .inl f15))] t.heap ∧ va_K (dC, dI) vcl (tyL cT) t ∧ va_D (va_A [(mo, .inr (12, mdG r cd tm (nI sn) (nI tx) (nI lz) (nI az) (nI na) (nI nt) (nI nr) mw ml mk dq)), (r 18, .inl ((cT 0), 41, .inl f18)), (r 19, .inl ((cT 0), 41, .inl f19)), (r 20, .inl ((cT 0), 41, .inl f20)), (r 21, .inl ((cT 0), 41, .inl f21)), (r 22, .inl ((cT 0), 8200, .inl f22)), (r 23, .inl ((cT 0), 656, .inl f23)), (r 7, .inl ((cT 0), 1000, .inl f7)), (r 15, .inl ((cT 0), 200, .inl f15))] sz) [(mo, .inr (12, mdG r cd tm (nI sn) (nI tx) (nI lz) (nI az) (nI na2) (nI nt) (nI nr) mw ml mk dq)), (r 18, .inl ((cT 0), 41, .inl g18)), (r 19, .inl ((cT 0), 41, .inl g19)), (r 20, .inl ((cT 0), 41, .inl g20)), (r 21, .inl ((cT 0), 41, .inl g21)), (r 22, .inl ((cT 0), 8200, .inl g22)), (r 23, .inl ((cT 0), 656, .inl g23)), (r 7, .inl ((cT 0), 1000, .inl f7)), (r 15, .inl ((cT 0), 200, .inl f15))]) (va_A [(mo, .inr (12, mdG r cd tm (nI sn) (nI tx) (nI lz) (nI az) (nI na) (nI nt) (nI nr) mw ml mk dq)), (r 18, .inl ((cT 0), 41, .inl f18)), (r 19, .inl ((cT 0), 41, .inl f19)), (r 20, .inl ((cT 0), 41, .inl f20)), (r 21, .inl ((cT 0), 41, .inl f21)), (r 22, .inl ((cT 0), 8200, .inl f22)), (r 23, .inl ((cT 0), 656, .inl f23)), (r 7, .inl ((cT 0), 1000, .inl f7)), (r 15, .inl ((cT 0), 200, .inl f15))] sz)) 0 0 (va_A [(mo, .inr (12, mdG r cd tm (nI sn) (nI tx) (nI lz) (nI az) (nI na) (nI nt) (nI nr) mw ml mk dq)), (r 18, .inl ((cT 0), 41, .inl f18)), (r 19, .inl ((cT 0), 41, .inl f19)), (r 20, .inl ((cT 0), 41, .inl f20)), (r 21, .inl ((cT 0), 41, .inl f21)), (r 22, .inl ((cT 0), 8200, .inl f22)), (r 23, .inl ((cT 0), 656, .inl f23)), (r 7, .inl ((cT 0), 1000, .inl f7)), (r 15, .inl ((cT 0), 200, .inl f15))] sz) := by
  refine Met.ofW (cc := b_Md_keep) (maxL := 3) (ret := (Option.none : Option Jvm.ClassFile.FieldType)) (by decide) rfl ?_
  intro p e s m args below meth c s₁ B hml hv
  obtain ⟨hargs, hsz, hP, hK, hD0⟩ := hv
  have hx := B.exec
  have hb := B.bytes
  have hr := B.returns
  have hts := atoms_spec (ws := (Cond.code y_Md_keep b_Md_keep 3 (Option.none : Option Jvm.ClassFile.FieldType) :: BIG)) B.pre
  have hg : ∀ w ∈ BIG, w.before _ s = true := fun w h => hts w (List.mem_cons_of_mem _ h)
  have hown : s.vm.findClass "DoorServerModel" = some m.cls := findClass_of_methodNamed B.named
  have hlocks := B.notSynchronized
  subst hsz
  have hD := hD0.self (sz := s.heap.size)
  generalize hAe : va_A [(mo, .inr (12, mdG r cd tm (nI sn) (nI tx) (nI lz) (nI az) (nI na) (nI nt) (nI nr) mw ml mk dq)), (r 18, .inl ((cT 0), 41, .inl f18)), (r 19, .inl ((cT 0), 41, .inl f19)), (r 20, .inl ((cT 0), 41, .inl f20)), (r 21, .inl ((cT 0), 41, .inl f21)), (r 22, .inl ((cT 0), 8200, .inl f22)), (r 23, .inl ((cT 0), 656, .inl f23)), (r 7, .inl ((cT 0), 1000, .inl f7)), (r 15, .inl ((cT 0), 200, .inl f15))] s.heap.size = A at hD ⊢
  have hA : ∀ q : Nat, s.heap.size ≤ q → A q := fun q h => by rw [← hAe]; exact Or.inr h
  have hS : va_S A s.heap s.heap [] := va_S.rf
  have hl := lv_entry ([.ref mo, .int x]) (n := 3) (Nat.le_of_ble_eq_true rfl)
  refine W.eq (g2 := entryFrame m (List.toArray [.ref mo, .int x]) 3) (by rw [hargs]) ?_
  rw [lg_entry_eq]
  generalize (lg_sl ([.ref mo, .int x]) ++ List.replicate (3 - (lg_sl ([.ref mo, .int x])).length) Slot.unset).toArray = ls at hl ⊢
  have hl : lv_has ls 3 [(0, .ref mo), (1, .int x)] := hl
  change W p l e ({ frames := 2, cells := 0, slots := 0, locals := 50 } : Room) s m args below meth c s.heap [] 0 0 _ _
  have hP : va_P (dC, dI) vcl [(mo, .inr (12, mdG r cd tm (nI sn) (nI tx) (nI lz) (nI az) (nI na) (nI nt) (nI nr) mw ml mk dq)), (r 18, .inl ((cT 0), 41, .inl f18)), (r 19, .inl ((cT 0), 41, .inl f19)), (r 20, .inl ((cT 0), 41, .inl f20)), (r 21, .inl ((cT 0), 41, .inl f21)), (r 22, .inl ((cT 0), 8200, .inl f22)), (r 23, .inl ((cT 0), 656, .inl f23)), (r 7, .inl ((cT 0), 1000, .inl f7)), (r 15, .inl ((cT 0), 200, .inl f15))] s.heap := hP
  refine lv_aload_n hx hb d_Md_keep_0 rfl (lv_at hl 0 rfl) ?_
  refine va_get (D := (dC, dI)) (ci := 12) (v := (.int (nI na))) (C := R_Md) (T := F_Md) (N := 45) hx hb hg in_Md hown hK hP 0 rfl rfl 17 (by decide) (hg _ k_1037) (fun _ h9 => h9) rfl d_Md_keep_1 ?_
  refine lv_iconst (v := 1) hx hb d_Md_keep_4 (by decide) ?_
  refine lv_isub hx hb d_Md_keep_5 ?_
  refine lv_istore_n (lv' := [(2, .int ((nI na) - 1)), (0, .ref mo), (1, .int x)]) hx hb d_Md_keep_6 rfl hl (by decide) rfl (fun ls hl => ?_)
  have hl := lv_sub hl [0, 1, 2] (show _ = [(2, .int ((nI na) - 1)), (0, .ref mo), (1, .int x)] from rfl)
  have L270 : ∀ (Q : State → Prop) (ex0 : ∀ (g18_264 : Nat → Int32) (g19_265 : Nat → Int32) (g20_266 : Nat → Int32) (g21_267 : Nat → Int32) (g22_268 : Nat → Int32) (g23_269 : Nat → Int32) (i : Nat) (nv : Nat) (H : Heap) (locs : List Loc) (ls : Array Slot), (nv ≤ 40) → (BD 200 41 g21_267) → va_P (dC, dI) vcl [(mo, .inr (12, mdG r cd tm (nI sn) (nI tx) (nI lz) (nI az) (nI (nv)) (nI nt) (nI nr) mw ml mk dq)), (r 18, .inl ((cT 0), 41, .inl g18_264)), (r 19, .inl ((cT 0), 41, .inl g19_265)), (r 20, .inl ((cT 0), 41, .inl g20_266)), (r 21, .inl ((cT 0), 41, .inl g21_267)), (r 22, .inl ((cT 0), 8200, .inl g22_268)), (r 23, .inl ((cT 0), 656, .inl g23_269)), (r 7, .inl ((cT 0), 1000, .inl f7)), (r 15, .inl ((cT 0), 200, .inl f15))] H → va_D A [(mo, .inr (12, mdG r cd tm (nI sn) (nI tx) (nI lz) (nI az) (nI (nv)) (nI nt) (nI nr) mw ml mk dq)), (r 18, .inl ((cT 0), 41, .inl g18_264)), (r 19, .inl ((cT 0), 41, .inl g19_265)), (r 20, .inl ((cT 0), 41, .inl g20_266)), (r 21, .inl ((cT 0), 41, .inl g21_267)), (r 22, .inl ((cT 0), 8200, .inl g22_268)), (r 23, .inl ((cT 0), 656, .inl g23_269)), (r 7, .inl ((cT 0), 1000, .inl f7)), (r 15, .inl ((cT 0), 200, .inl f15))] → va_S A s.heap H locs → lv_has ls 3 [(0, .ref mo), (1, .int x)] → W p l e ({ frames := 2, cells := 0, slots := 0, locals := 50 } : Room) s m args below meth c H locs 0 0 Q (F0 m 47 ls [])) (jj271 : Nat) (g18_264 : Nat → Int32) (g19_265 : Nat → Int32) (g20_266 : Nat → Int32) (g21_267 : Nat → Int32) (g22_268 : Nat → Int32) (g23_269 : Nat → Int32) (i : Nat) (nv : Nat) (H : Heap) (locs : List Loc) (ls : Array Slot), i ≤ jj271 → (i ≤ nv ∧ nv ≤ na) → (BD 200 41 g21_267) → va_P (dC, dI) vcl [(mo, .inr (12, mdG r cd tm (nI sn) (nI tx) (nI lz) (nI az) (nI (nv)) (nI nt) (nI nr) mw ml mk dq)), (r 18, .inl ((cT 0), 41, .inl g18_264)), (r 19, .inl ((cT 0), 41, .inl g19_265)), (r 20, .inl ((cT 0), 41, .inl g20_266)), (r 21, .inl ((cT 0), 41, .inl g21_267)), (r 22, .inl ((cT 0), 8200, .inl g22_268)), (r 23, .inl ((cT 0), 656, .inl g23_269)), (r 7, .inl ((cT 0), 1000, .inl f7)), (r 15, .inl ((cT 0), 200, .inl f15))] H → va_D A [(mo, .inr (12, mdG r cd tm (nI sn) (nI tx) (nI lz) (nI az) (nI (nv)) (nI nt) (nI nr) mw ml mk dq)), (r 18, .inl ((cT 0), 41, .inl g18_264)), (r 19, .inl ((cT 0), 41, .inl g19_265)), (r 20, .inl ((cT 0), 41, .inl g20_266)), (r 21, .inl ((cT 0), 41, .inl g21_267)), (r 22, .inl ((cT 0), 8200, .inl g22_268)), (r 23, .inl ((cT 0), 656, .inl g23_269)), (r 7, .inl ((cT 0), 1000, .inl f7)), (r 15, .inl ((cT 0), 200, .inl f15))] → va_S A s.heap H locs → lv_has ls 3 [(2, .int (nI i - 1)), (0, .ref mo), (1, .int x)] → W p l e ({ frames := 2, cells := 0, slots := 0, locals := 50 } : Room) s m args below meth c H locs 0 0 Q (F0 m 7 ls []) := by
    intro Q ex0 jj271
    induction jj271 with
    | zero => 
      intro g18_264 g19_265 g20_266 g21_267 g22_268 g23_269 i nv H locs ls hm9 hi hbd hP hD hS hl
      refine lv_iload_n hx hb d_Md_keep_7 rfl (lv_at hl 0 rfl) ?_
      rcases (show i = 0 ∨ ∃ j, i = j + 1 from by cases i with | zero => exact Or.inl rfl | succ j => exact Or.inr ⟨j, rfl⟩) with rfl | ⟨j, rfl⟩
      · skip
        refine lv_if_lt (tgt := 47) hx hb d_Md_keep_8 (by decide) (fun hc272 => ?_) (fun hn9 => absurd (by decide) hn9)
        have hl := lv_sub hl [1, 2] (show _ = [(0, .ref mo), (1, .int x)] from rfl)
        exact ex0 _ _ _ _ _ _ 0 nv _ _ _ (by omega) (by first | assumption | omega) hP hD hS hl
      · skip
        refine lv_topi (fun x274 e273 => ?_)
        obtain rfl : x274 = nI j := by rw [e273]; exact nI_pred j
        rw [nI_pred] at hl
        refine lv_if_lt (tgt := 47) hx hb d_Md_keep_8 (by decide) (fun hn9 => absurd hn9 (nI_pos (by omega))) (fun hc275 => ?_)
        refine lv_aload_n hx hb d_Md_keep_11 rfl (lv_at hl 1 rfl) ?_
        refine va_get (D := (dC, dI)) (ci := 12) (v := (.ref (r 18))) (C := R_Md) (T := F_Md) (N := 45) hx hb hg in_Md hown hK hP 0 rfl rfl 18 (by decide) (hg _ k_1038) (fun _ h9 => h9) rfl d_Md_keep_12 ?_
        refine lv_iload_n hx hb d_Md_keep_15 rfl (lv_at hl 0 rfl) ?_
        refine va_iald hx hb hK hP 1 0 rfl rfl (i := (nI j)) (vp_in_nI (N := 41) (by omega) (by decide)) d_Md_keep_16 ?_
        refine lv_topi (fun x276 e_x276 => ?_)
        clear e_x276
        refine lv_iload_n hx hb d_Md_keep_17 rfl (lv_at hl 2 rfl) ?_
        refine lv_icmp_ne (tgt := 41) hx hb d_Md_keep_18 (by decide) (fun hc277 => ?_) (fun hc277 => ?_)
        · skip
          refine lv_iinc (k := 0) (v := nI j - 1) (lv' := [(2, .int (nI j - 1)), (0, .ref mo), (1, .int x)]) hx hb d_Md_keep_41 hl rfl (by rw [Int32.sub_eq_add_neg]; rfl) (by decide) rfl (fun ls hl => ?_)
          refine lv_goto (tgt := 7) hx hb d_Md_keep_44 (by decide) ?_
          have hl := lv_sub hl [0, 1, 2] (show _ = [(2, .int (nI j - 1)), (0, .ref mo), (1, .int x)] from rfl)
          exfalso; omega
        · skip
          refine lv_aload_n hx hb d_Md_keep_21 rfl (lv_at hl 1 rfl) ?_
          refine va_get (D := (dC, dI)) (ci := 12) (v := (.ref (r 19))) (C := R_Md) (T := F_Md) (N := 45) hx hb hg in_Md hown hK hP 0 rfl rfl 19 (by decide) (hg _ k_1039) (fun _ h9 => h9) rfl d_Md_keep_22 ?_
          refine lv_iload_n hx hb d_Md_keep_25 rfl (lv_at hl 0 rfl) ?_
          refine va_iald hx hb hK hP 2 0 rfl rfl (i := (nI j)) (vp_in_nI (N := 41) (by omega) (by decide)) d_Md_keep_26 ?_
          refine lv_topi (fun x278 e_x278 => ?_)
          clear e_x278
          refine lv_aload_n hx hb d_Md_keep_27 rfl (lv_at hl 1 rfl) ?_
          refine va_get (D := (dC, dI)) (ci := 12) (v := (.ref (r 7))) (C := R_Md) (T := F_Md) (N := 45) hx hb hg in_Md hown hK hP 0 rfl rfl 7 (by decide) (hg _ k_1027) (fun _ h9 => h9) rfl d_Md_keep_28 ?_
          refine lv_iconst (v := 1) hx hb d_Md_keep_31 (by decide) ?_
          refine lv_topi (fun x280 e279 => ?_)
          obtain rfl : x280 = nI 1 := by rw [e279]; rfl
          refine va_iald hx hb hK hP 7 0 rfl rfl (i := (nI 1)) (vp_in_nI (N := 1000) (by omega) (by decide)) d_Md_keep_32 ?_
          refine lv_topi (fun x281 e_x281 => ?_)
          clear e_x281
          refine lv_icmp_ne (tgt := 41) hx hb d_Md_keep_33 (by decide) (fun hc282 => ?_) (fun hc282 => ?_)
          · skip
            refine lv_iinc (k := 0) (v := nI j - 1) (lv' := [(2, .int (nI j - 1)), (0, .ref mo), (1, .int x)]) hx hb d_Md_keep_41 hl rfl (by rw [Int32.sub_eq_add_neg]; rfl) (by decide) rfl (fun ls hl => ?_)
            refine lv_goto (tgt := 7) hx hb d_Md_keep_44 (by decide) ?_
            have hl := lv_sub hl [0, 1, 2] (show _ = [(2, .int (nI j - 1)), (0, .ref mo), (1, .int x)] from rfl)
            exfalso; omega
          · skip
            refine lv_aload_n hx hb d_Md_keep_36 rfl (lv_at hl 1 rfl) ?_
            refine lv_iload_n hx hb d_Md_keep_37 rfl (lv_at hl 0 rfl) ?_
            have hPc := hP.sub (ws' := [(mo, .inr (12, mdG r cd tm (nI sn) (nI tx) (nI lz) (nI az) (nI nv) (nI nt) (nI nr) mw ml mk dq)), (r 18, .inl ((cT 0), 41, .inl g18_264)), (r 19, .inl ((cT 0), 41, .inl g19_265)), (r 20, .inl ((cT 0), 41, .inl g20_266)), (r 21, .inl ((cT 0), 41, .inl g21_267)), (r 22, .inl ((cT 0), 8200, .inl g22_268)), (r 23, .inl ((cT 0), 656, .inl g23_269))]) [0, 1, 2, 3, 4, 5, 6] rfl
            have hDc := hD.sub (ws' := [(mo, .inr (12, mdG r cd tm (nI sn) (nI tx) (nI lz) (nI az) (nI nv) (nI nt) (nI nr) mw ml mk dq)), (r 18, .inl ((cT 0), 41, .inl g18_264)), (r 19, .inl ((cT 0), 41, .inl g19_265)), (r 20, .inl ((cT 0), 41, .inl g20_266)), (r 21, .inl ((cT 0), 41, .inl g21_267)), (r 22, .inl ((cT 0), 8200, .inl g22_268)), (r 23, .inl ((cT 0), 656, .inl g23_269))]) [0, 1, 2, 3, 4, 5, 6] (by decide) rfl
            have hFc := va_free (wc := [(mo, .inr (12, mdG r cd tm (nI sn) (nI tx) (nI lz) (nI az) (nI nv) (nI nt) (nI nr) mw ml mk dq)), (r 18, .inl ((cT 0), 41, .inl g18_264)), (r 19, .inl ((cT 0), 41, .inl g19_265)), (r 20, .inl ((cT 0), 41, .inl g20_266)), (r 21, .inl ((cT 0), 41, .inl g21_267)), (r 22, .inl ((cT 0), 8200, .inl g22_268)), (r 23, .inl ((cT 0), 656, .inl g23_269))]) hD hS hA [0, 1, 2, 3, 4, 5, 6] rfl
            refine va_callv (va_runV (C := "DoorServerModel") (As := [.int (nI j)]) (rest := []) ⟨hx, hb, hml, hown, hg⟩ (m_dropAnswer l dC dI cT H.size mo r cd tm sn tx lz az nv nt nr mw ml mk dq g18_264 g19_265 g20_266 g21_267 g22_268 g23_269 j (by first | assumption | omega) (by first | assumption | omega) (by first | assumption | omega)) (cwV 1 hg (gI (List.forall_mem_append.mpr ⟨List.forall_mem_cons.mpr ⟨k_1371, List.forall_mem_cons.mpr ⟨k_1373, List.forall_mem_cons.mpr ⟨(big_sel (q := y_Md_dropAnswer) (n := 45) (by decide +kernel)), List.forall_mem_cons.mpr ⟨k_13, fun _ h => absurd h List.not_mem_nil⟩⟩⟩⟩, List.forall_mem_cons.mpr ⟨k_1374, fun _ h => h⟩⟩)) rfl rfl rfl (by decide +kernel) ⟨Nat.le_of_ble_eq_true rfl, Nat.le_of_ble_eq_true rfl⟩) ⟨fun a U g mk q => by obtain ⟨q0, q1, qP, qK, qD⟩ := q; exact ⟨q0, q1, qP, va_K.moved (u := U) (U := U.calling g mk a) (Vm.Alike.refl U.vm) qK, qD⟩, va_recv (q0 := 0) (ci := 12) hK hP rfl rfl, fun U hU hW => ⟨rfl, by rw [hU], by rw [hU]; exact hPc, va_K.moved hW.alike hK, hDc.weaken (fun _ _ _ _ => trivial)⟩⟩ rfl rfl hl.1 rfl (lv_room (Nat.le_of_ble_eq_true rfl)) d_Md_keep_38 ⟨Nat.le_of_ble_eq_true rfl, Nat.le_of_ble_eq_true rfl⟩) hS (fun q _ h => hFc q h) hFc (fun u t H1 locs ht hvm hw hB hz1 hk1 hS => ?_)
            obtain ⟨g18_283, g19_284, g20_285, g21_286, g22_287, g23_288⟩ := u
            try dsimp only at hw hB
            obtain ⟨hP1, hK1, hD1⟩ := hB
            rw [ht] at hP1
            obtain ⟨hP, hD⟩ := va_join (wr := [(r 7, .inl ((cT 0), 1000, .inl f7)), (r 15, .inl ((cT 0), 200, .inl f15))]) (w1 := [(mo, .inr (12, mdG r cd tm (nI sn) (nI tx) (nI lz) (nI az) (nI (nv - 1)) (nI nt) (nI nr) mw ml mk dq)), (r 18, .inl ((cT 0), 41, .inl g18_283)), (r 19, .inl ((cT 0), 41, .inl g19_284)), (r 20, .inl ((cT 0), 41, .inl g20_285)), (r 21, .inl ((cT 0), 41, .inl g21_286)), (r 22, .inl ((cT 0), 8200, .inl g22_287)), (r 23, .inl ((cT 0), 656, .inl g23_288))]) hP hD [0, 1, 2, 3, 4, 5, 6] [7, 8] rfl rfl (by decide) (by decide) hk1 hFc hP1 hD1
            have hw289 := hw
            clear hPc hDc hFc hz1 hk1 hP1 hK1 hD1
            generalize H1 = H at hP hS ⊢
            have hP : va_P (dC, dI) vcl [(r 7, .inl ((cT 0), 1000, .inl f7)), (r 15, .inl ((cT 0), 200, .inl f15)), (mo, .inr (12, mdG r cd tm (nI sn) (nI tx) (nI lz) (nI az) (nI (nv - 1)) (nI nt) (nI nr) mw ml mk dq)), (r 18, .inl ((cT 0), 41, .inl g18_283)), (r 19, .inl ((cT 0), 41, .inl g19_284)), (r 20, .inl ((cT 0), 41, .inl g20_285)), (r 21, .inl ((cT 0), 41, .inl g21_286)), (r 22, .inl ((cT 0), 8200, .inl g22_287)), (r 23, .inl ((cT 0), 656, .inl g23_288))] H := hP
            have hD : va_D A [(r 7, .inl ((cT 0), 1000, .inl f7)), (r 15, .inl ((cT 0), 200, .inl f15)), (mo, .inr (12, mdG r cd tm (nI sn) (nI tx) (nI lz) (nI az) (nI (nv - 1)) (nI nt) (nI nr) mw ml mk dq)), (r 18, .inl ((cT 0), 41, .inl g18_283)), (r 19, .inl ((cT 0), 41, .inl g19_284)), (r 20, .inl ((cT 0), 41, .inl g20_285)), (r 21, .inl ((cT 0), 41, .inl g21_286)), (r 22, .inl ((cT 0), 8200, .inl g22_287)), (r 23, .inl ((cT 0), 656, .inl g23_288))] := hD
            have k290 := hw289
            refine lv_iinc (k := 0) (v := nI j - 1) (lv' := [(2, .int (nI j - 1)), (0, .ref mo), (1, .int x)]) hx hb d_Md_keep_41 hl rfl (by rw [Int32.sub_eq_add_neg]; rfl) (by decide) rfl (fun ls hl => ?_)
            refine lv_goto (tgt := 7) hx hb d_Md_keep_44 (by decide) ?_
            have hl := lv_sub hl [0, 1, 2] (show _ = [(2, .int (nI j - 1)), (0, .ref mo), (1, .int x)] from rfl)
            have hP := hP.sub (ws' := [(mo, .inr (12, mdG r cd tm (nI sn) (nI tx) (nI lz) (nI az) (nI (nv - 1)) (nI nt) (nI nr) mw ml mk dq)), (r 18, .inl ((cT 0), 41, .inl g18_283)), (r 19, .inl ((cT 0), 41, .inl g19_284)), (r 20, .inl ((cT 0), 41, .inl g20_285)), (r 21, .inl ((cT 0), 41, .inl g21_286)), (r 22, .inl ((cT 0), 8200, .inl g22_287)), (r 23, .inl ((cT 0), 656, .inl g23_288)), (r 7, .inl ((cT 0), 1000, .inl f7)), (r 15, .inl ((cT 0), 200, .inl f15))]) [2, 3, 4, 5, 6, 7, 8, 0, 1] rfl
            have hD := hD.sub (ws' := [(mo, .inr (12, mdG r cd tm (nI sn) (nI tx) (nI lz) (nI az) (nI (nv - 1)) (nI nt) (nI nr) mw ml mk dq)), (r 18, .inl ((cT 0), 41, .inl g18_283)), (r 19, .inl ((cT 0), 41, .inl g19_284)), (r 20, .inl ((cT 0), 41, .inl g20_285)), (r 21, .inl ((cT 0), 41, .inl g21_286)), (r 22, .inl ((cT 0), 8200, .inl g22_287)), (r 23, .inl ((cT 0), 656, .inl g23_288)), (r 7, .inl ((cT 0), 1000, .inl f7)), (r 15, .inl ((cT 0), 200, .inl f15))]) [2, 3, 4, 5, 6, 7, 8, 0, 1] (by decide) rfl
            exfalso; omega
    | succ jj271 ih => 
      intro g18_264 g19_265 g20_266 g21_267 g22_268 g23_269 i nv H locs ls hm9 hi hbd hP hD hS hl
      refine lv_iload_n hx hb d_Md_keep_7 rfl (lv_at hl 0 rfl) ?_
      rcases (show i = 0 ∨ ∃ j, i = j + 1 from by cases i with | zero => exact Or.inl rfl | succ j => exact Or.inr ⟨j, rfl⟩) with rfl | ⟨j, rfl⟩
      · skip
        refine lv_if_lt (tgt := 47) hx hb d_Md_keep_8 (by decide) (fun hc291 => ?_) (fun hn9 => absurd (by decide) hn9)
        have hl := lv_sub hl [1, 2] (show _ = [(0, .ref mo), (1, .int x)] from rfl)
        exact ex0 _ _ _ _ _ _ 0 nv _ _ _ (by omega) (by first | assumption | omega) hP hD hS hl
      · skip
        refine lv_topi (fun x293 e292 => ?_)
        obtain rfl : x293 = nI j := by rw [e292]; exact nI_pred j
        rw [nI_pred] at hl
        refine lv_if_lt (tgt := 47) hx hb d_Md_keep_8 (by decide) (fun hn9 => absurd hn9 (nI_pos (by omega))) (fun hc294 => ?_)
        refine lv_aload_n hx hb d_Md_keep_11 rfl (lv_at hl 1 rfl) ?_
        refine va_get (D := (dC, dI)) (ci := 12) (v := (.ref (r 18))) (C := R_Md) (T := F_Md) (N := 45) hx hb hg in_Md hown hK hP 0 rfl rfl 18 (by decide) (hg _ k_1038) (fun _ h9 => h9) rfl d_Md_keep_12 ?_
        refine lv_iload_n hx hb d_Md_keep_15 rfl (lv_at hl 0 rfl) ?_
        refine va_iald hx hb hK hP 1 0 rfl rfl (i := (nI j)) (vp_in_nI (N := 41) (by omega) (by decide)) d_Md_keep_16 ?_
        refine lv_topi (fun x295 e_x295 => ?_)
        clear e_x295
        refine lv_iload_n hx hb d_Md_keep_17 rfl (lv_at hl 2 rfl) ?_
        refine lv_icmp_ne (tgt := 41) hx hb d_Md_keep_18 (by decide) (fun hc296 => ?_) (fun hc296 => ?_)
        · skip
          refine lv_iinc (k := 0) (v := nI j - 1) (lv' := [(2, .int (nI j - 1)), (0, .ref mo), (1, .int x)]) hx hb d_Md_keep_41 hl rfl (by rw [Int32.sub_eq_add_neg]; rfl) (by decide) rfl (fun ls hl => ?_)
          refine lv_goto (tgt := 7) hx hb d_Md_keep_44 (by decide) ?_
          have hl := lv_sub hl [0, 1, 2] (show _ = [(2, .int (nI j - 1)), (0, .ref mo), (1, .int x)] from rfl)
          exact ih _ _ _ _ _ _ j nv _ _ _ (by omega) (⟨by omega, by omega⟩) (by first | assumption | omega) hP hD hS hl
        · skip
          refine lv_aload_n hx hb d_Md_keep_21 rfl (lv_at hl 1 rfl) ?_
          refine va_get (D := (dC, dI)) (ci := 12) (v := (.ref (r 19))) (C := R_Md) (T := F_Md) (N := 45) hx hb hg in_Md hown hK hP 0 rfl rfl 19 (by decide) (hg _ k_1039) (fun _ h9 => h9) rfl d_Md_keep_22 ?_
          refine lv_iload_n hx hb d_Md_keep_25 rfl (lv_at hl 0 rfl) ?_
          refine va_iald hx hb hK hP 2 0 rfl rfl (i := (nI j)) (vp_in_nI (N := 41) (by omega) (by decide)) d_Md_keep_26 ?_
          refine lv_topi (fun x297 e_x297 => ?_)
          clear e_x297
          refine lv_aload_n hx hb d_Md_keep_27 rfl (lv_at hl 1 rfl) ?_
          refine va_get (D := (dC, dI)) (ci := 12) (v := (.ref (r 7))) (C := R_Md) (T := F_Md) (N := 45) hx hb hg in_Md hown hK hP 0 rfl rfl 7 (by decide) (hg _ k_1027) (fun _ h9 => h9) rfl d_Md_keep_28 ?_
          refine lv_iconst (v := 1) hx hb d_Md_keep_31 (by decide) ?_
          refine lv_topi (fun x299 e298 => ?_)
          obtain rfl : x299 = nI 1 := by rw [e298]; rfl
          refine va_iald hx hb hK hP 7 0 rfl rfl (i := (nI 1)) (vp_in_nI (N := 1000) (by omega) (by decide)) d_Md_keep_32 ?_
          refine lv_topi (fun x300 e_x300 => ?_)
          clear e_x300
          refine lv_icmp_ne (tgt := 41) hx hb d_Md_keep_33 (by decide) (fun hc301 => ?_) (fun hc301 => ?_)
          · skip
            refine lv_iinc (k := 0) (v := nI j - 1) (lv' := [(2, .int (nI j - 1)), (0, .ref mo), (1, .int x)]) hx hb d_Md_keep_41 hl rfl (by rw [Int32.sub_eq_add_neg]; rfl) (by decide) rfl (fun ls hl => ?_)
            refine lv_goto (tgt := 7) hx hb d_Md_keep_44 (by decide) ?_
            have hl := lv_sub hl [0, 1, 2] (show _ = [(2, .int (nI j - 1)), (0, .ref mo), (1, .int x)] from rfl)
            exact ih _ _ _ _ _ _ j nv _ _ _ (by omega) (⟨by omega, by omega⟩) (by first | assumption | omega) hP hD hS hl
          · skip
            refine lv_aload_n hx hb d_Md_keep_36 rfl (lv_at hl 1 rfl) ?_
            refine lv_iload_n hx hb d_Md_keep_37 rfl (lv_at hl 0 rfl) ?_
            have hPc := hP.sub (ws' := [(mo, .inr (12, mdG r cd tm (nI sn) (nI tx) (nI lz) (nI az) (nI nv) (nI nt) (nI nr) mw ml mk dq)), (r 18, .inl ((cT 0), 41, .inl g18_264)), (r 19, .inl ((cT 0), 41, .inl g19_265)), (r 20, .inl ((cT 0), 41, .inl g20_266)), (r 21, .inl ((cT 0), 41, .inl g21_267)), (r 22, .inl ((cT 0), 8200, .inl g22_268)), (r 23, .inl ((cT 0), 656, .inl g23_269))]) [0, 1, 2, 3, 4, 5, 6] rfl
            have hDc := hD.sub (ws' := [(mo, .inr (12, mdG r cd tm (nI sn) (nI tx) (nI lz) (nI az) (nI nv) (nI nt) (nI nr) mw ml mk dq)), (r 18, .inl ((cT 0), 41, .inl g18_264)), (r 19, .inl ((cT 0), 41, .inl g19_265)), (r 20, .inl ((cT 0), 41, .inl g20_266)), (r 21, .inl ((cT 0), 41, .inl g21_267)), (r 22, .inl ((cT 0), 8200, .inl g22_268)), (r 23, .inl ((cT 0), 656, .inl g23_269))]) [0, 1, 2, 3, 4, 5, 6] (by decide) rfl
            have hFc := va_free (wc := [(mo, .inr (12, mdG r cd tm (nI sn) (nI tx) (nI lz) (nI az) (nI nv) (nI nt) (nI nr) mw ml mk dq)), (r 18, .inl ((cT 0), 41, .inl g18_264)), (r 19, .inl ((cT 0), 41, .inl g19_265)), (r 20, .inl ((cT 0), 41, .inl g20_266)), (r 21, .inl ((cT 0), 41, .inl g21_267)), (r 22, .inl ((cT 0), 8200, .inl g22_268)), (r 23, .inl ((cT 0), 656, .inl g23_269))]) hD hS hA [0, 1, 2, 3, 4, 5, 6] rfl
            refine va_callv (va_runV (C := "DoorServerModel") (As := [.int (nI j)]) (rest := []) ⟨hx, hb, hml, hown, hg⟩ (m_dropAnswer l dC dI cT H.size mo r cd tm sn tx lz az nv nt nr mw ml mk dq g18_264 g19_265 g20_266 g21_267 g22_268 g23_269 j (by first | assumption | omega) (by first | assumption | omega) (by first | assumption | omega)) (cwV 1 hg (gI (List.forall_mem_append.mpr ⟨List.forall_mem_cons.mpr ⟨k_1371, List.forall_mem_cons.mpr ⟨k_1373, List.forall_mem_cons.mpr ⟨(big_sel (q := y_Md_dropAnswer) (n := 45) (by decide +kernel)), List.forall_mem_cons.mpr ⟨k_13, fun _ h => absurd h List.not_mem_nil⟩⟩⟩⟩, List.forall_mem_cons.mpr ⟨k_1374, fun _ h => h⟩⟩)) rfl rfl rfl (by decide +kernel) ⟨Nat.le_of_ble_eq_true rfl, Nat.le_of_ble_eq_true rfl⟩) ⟨fun a U g mk q => by obtain ⟨q0, q1, qP, qK, qD⟩ := q; exact ⟨q0, q1, qP, va_K.moved (u := U) (U := U.calling g mk a) (Vm.Alike.refl U.vm) qK, qD⟩, va_recv (q0 := 0) (ci := 12) hK hP rfl rfl, fun U hU hW => ⟨rfl, by rw [hU], by rw [hU]; exact hPc, va_K.moved hW.alike hK, hDc.weaken (fun _ _ _ _ => trivial)⟩⟩ rfl rfl hl.1 rfl (lv_room (Nat.le_of_ble_eq_true rfl)) d_Md_keep_38 ⟨Nat.le_of_ble_eq_true rfl, Nat.le_of_ble_eq_true rfl⟩) hS (fun q _ h => hFc q h) hFc (fun u t H1 locs ht hvm hw hB hz1 hk1 hS => ?_)
            obtain ⟨g18_302, g19_303, g20_304, g21_305, g22_306, g23_307⟩ := u
            try dsimp only at hw hB
            obtain ⟨hP1, hK1, hD1⟩ := hB
            rw [ht] at hP1
            obtain ⟨hP, hD⟩ := va_join (wr := [(r 7, .inl ((cT 0), 1000, .inl f7)), (r 15, .inl ((cT 0), 200, .inl f15))]) (w1 := [(mo, .inr (12, mdG r cd tm (nI sn) (nI tx) (nI lz) (nI az) (nI (nv - 1)) (nI nt) (nI nr) mw ml mk dq)), (r 18, .inl ((cT 0), 41, .inl g18_302)), (r 19, .inl ((cT 0), 41, .inl g19_303)), (r 20, .inl ((cT 0), 41, .inl g20_304)), (r 21, .inl ((cT 0), 41, .inl g21_305)), (r 22, .inl ((cT 0), 8200, .inl g22_306)), (r 23, .inl ((cT 0), 656, .inl g23_307))]) hP hD [0, 1, 2, 3, 4, 5, 6] [7, 8] rfl rfl (by decide) (by decide) hk1 hFc hP1 hD1
            have hw308 := hw
            clear hPc hDc hFc hz1 hk1 hP1 hK1 hD1
            generalize H1 = H at hP hS ⊢
            have hP : va_P (dC, dI) vcl [(r 7, .inl ((cT 0), 1000, .inl f7)), (r 15, .inl ((cT 0), 200, .inl f15)), (mo, .inr (12, mdG r cd tm (nI sn) (nI tx) (nI lz) (nI az) (nI (nv - 1)) (nI nt) (nI nr) mw ml mk dq)), (r 18, .inl ((cT 0), 41, .inl g18_302)), (r 19, .inl ((cT 0), 41, .inl g19_303)), (r 20, .inl ((cT 0), 41, .inl g20_304)), (r 21, .inl ((cT 0), 41, .inl g21_305)), (r 22, .inl ((cT 0), 8200, .inl g22_306)), (r 23, .inl ((cT 0), 656, .inl g23_307))] H := hP
            have hD : va_D A [(r 7, .inl ((cT 0), 1000, .inl f7)), (r 15, .inl ((cT 0), 200, .inl f15)), (mo, .inr (12, mdG r cd tm (nI sn) (nI tx) (nI lz) (nI az) (nI (nv - 1)) (nI nt) (nI nr) mw ml mk dq)), (r 18, .inl ((cT 0), 41, .inl g18_302)), (r 19, .inl ((cT 0), 41, .inl g19_303)), (r 20, .inl ((cT 0), 41, .inl g20_304)), (r 21, .inl ((cT 0), 41, .inl g21_305)), (r 22, .inl ((cT 0), 8200, .inl g22_306)), (r 23, .inl ((cT 0), 656, .inl g23_307))] := hD
            have k309 := hw308
            refine lv_iinc (k := 0) (v := nI j - 1) (lv' := [(2, .int (nI j - 1)), (0, .ref mo), (1, .int x)]) hx hb d_Md_keep_41 hl rfl (by rw [Int32.sub_eq_add_neg]; rfl) (by decide) rfl (fun ls hl => ?_)
            refine lv_goto (tgt := 7) hx hb d_Md_keep_44 (by decide) ?_
            have hl := lv_sub hl [0, 1, 2] (show _ = [(2, .int (nI j - 1)), (0, .ref mo), (1, .int x)] from rfl)
            have hP := hP.sub (ws' := [(mo, .inr (12, mdG r cd tm (nI sn) (nI tx) (nI lz) (nI az) (nI (nv - 1)) (nI nt) (nI nr) mw ml mk dq)), (r 18, .inl ((cT 0), 41, .inl g18_302)), (r 19, .inl ((cT 0), 41, .inl g19_303)), (r 20, .inl ((cT 0), 41, .inl g20_304)), (r 21, .inl ((cT 0), 41, .inl g21_305)), (r 22, .inl ((cT 0), 8200, .inl g22_306)), (r 23, .inl ((cT 0), 656, .inl g23_307)), (r 7, .inl ((cT 0), 1000, .inl f7)), (r 15, .inl ((cT 0), 200, .inl f15))]) [2, 3, 4, 5, 6, 7, 8, 0, 1] rfl
            have hD := hD.sub (ws' := [(mo, .inr (12, mdG r cd tm (nI sn) (nI tx) (nI lz) (nI az) (nI (nv - 1)) (nI nt) (nI nr) mw ml mk dq)), (r 18, .inl ((cT 0), 41, .inl g18_302)), (r 19, .inl ((cT 0), 41, .inl g19_303)), (r 20, .inl ((cT 0), 41, .inl g20_304)), (r 21, .inl ((cT 0), 41, .inl g21_305)), (r 22, .inl ((cT 0), 8200, .inl g22_306)), (r 23, .inl ((cT 0), 656, .inl g23_307)), (r 7, .inl ((cT 0), 1000, .inl f7)), (r 15, .inl ((cT 0), 200, .inl f15))]) [2, 3, 4, 5, 6, 7, 8, 0, 1] (by decide) rfl
            exact ih _ _ _ _ _ _ j (nv - 1) _ _ _ (by omega) (⟨by omega, by omega⟩) (by first | assumption | omega) hP hD hS hl
  refine L270 _ (fun g18_264 g19_265 g20_266 g21_267 g22_268 g23_269 i nv H locs ls hv9 hbd hP hD hS hl => ?_) (na) f18 f19 f20 f21 f22 f23 na na s.heap _ ls (Nat.le_refl _) (⟨by omega, by omega⟩) (h21) hP hD hS hl
  · skip
    refine lv_aload_n hx hb d_Md_keep_47 rfl (lv_at hl 0 rfl) ?_
    refine va_get (D := (dC, dI)) (ci := 12) (v := (.int (nI (nv)))) (C := R_Md) (T := F_Md) (N := 45) hx hb hg in_Md hown hK hP 0 rfl rfl 17 (by decide) (hg _ k_1037) (fun _ h9 => h9) rfl d_Md_keep_48 ?_
    refine lv_bipush (v := 40) hx hb d_Md_keep_51 (by decide) ?_
    refine lv_icmp_ne (tgt := 61) hx hb d_Md_keep_53 (by decide) (fun hc310 => ?_) (fun hc310 => ?_)
    · skip
      have n311 : ¬ nv = 40 := fun h7 => hc310 ((nI_eq (a := nv) (b := 40) (by omega) (by omega)).mpr h7)
      refine lv_aload_n hx hb d_Md_keep_61 rfl (lv_at hl 0 rfl) ?_
      refine va_get (D := (dC, dI)) (ci := 12) (v := (.ref (r 18))) (C := R_Md) (T := F_Md) (N := 45) hx hb hg in_Md hown hK hP 0 rfl rfl 18 (by decide) (hg _ k_1038) (fun _ h9 => h9) rfl d_Md_keep_62 ?_
      refine lv_aload_n hx hb d_Md_keep_65 rfl (lv_at hl 0 rfl) ?_
      refine va_get (D := (dC, dI)) (ci := 12) (v := (.int (nI (nv)))) (C := R_Md) (T := F_Md) (N := 45) hx hb hg in_Md hown hK hP 0 rfl rfl 17 (by decide) (hg _ k_1037) (fun _ h9 => h9) rfl d_Md_keep_66 ?_
      refine lv_iload_n hx hb d_Md_keep_69 rfl (lv_at hl 1 rfl) ?_
      refine va_iast hx hb hK hP hD hS 1 0 rfl rfl (i := (nI (nv))) (vp_in_nI (n := nv) (N := 41) (by omega) (by decide)) d_Md_keep_70 (fun H locs hP hD hS => ?_)
      have ef313 : upd g18_264 (nI (nv)).toNatClampNeg x = upd g18_264 nv x := by rw [show (nI (nv)).toNatClampNeg = nv from nI_clamp (by omega)]
      rw [ef313] at hP hD
      have hP : va_P (dC, dI) vcl [(mo, .inr (12, mdG r cd tm (nI sn) (nI tx) (nI lz) (nI az) (nI (nv)) (nI nt) (nI nr) mw ml mk dq)), (r 18, .inl ((cT 0), 41, .inl (upd g18_264 nv x))), (r 19, .inl ((cT 0), 41, .inl g19_265)), (r 20, .inl ((cT 0), 41, .inl g20_266)), (r 21, .inl ((cT 0), 41, .inl g21_267)), (r 22, .inl ((cT 0), 8200, .inl g22_268)), (r 23, .inl ((cT 0), 656, .inl g23_269)), (r 7, .inl ((cT 0), 1000, .inl f7)), (r 15, .inl ((cT 0), 200, .inl f15))] H := hP
      have hD : va_D A [(mo, .inr (12, mdG r cd tm (nI sn) (nI tx) (nI lz) (nI az) (nI (nv)) (nI nt) (nI nr) mw ml mk dq)), (r 18, .inl ((cT 0), 41, .inl (upd g18_264 nv x))), (r 19, .inl ((cT 0), 41, .inl g19_265)), (r 20, .inl ((cT 0), 41, .inl g20_266)), (r 21, .inl ((cT 0), 41, .inl g21_267)), (r 22, .inl ((cT 0), 8200, .inl g22_268)), (r 23, .inl ((cT 0), 656, .inl g23_269)), (r 7, .inl ((cT 0), 1000, .inl f7)), (r 15, .inl ((cT 0), 200, .inl f15))] := hD
      refine lv_aload_n hx hb d_Md_keep_71 rfl (lv_at hl 0 rfl) ?_
      refine va_get (D := (dC, dI)) (ci := 12) (v := (.ref (r 19))) (C := R_Md) (T := F_Md) (N := 45) hx hb hg in_Md hown hK hP 0 rfl rfl 19 (by decide) (hg _ k_1039) (fun _ h9 => h9) rfl d_Md_keep_72 ?_
      refine lv_aload_n hx hb d_Md_keep_75 rfl (lv_at hl 0 rfl) ?_
      refine va_get (D := (dC, dI)) (ci := 12) (v := (.int (nI (nv)))) (C := R_Md) (T := F_Md) (N := 45) hx hb hg in_Md hown hK hP 0 rfl rfl 17 (by decide) (hg _ k_1037) (fun _ h9 => h9) rfl d_Md_keep_76 ?_
      refine lv_aload_n hx hb d_Md_keep_79 rfl (lv_at hl 0 rfl) ?_
      refine va_get (D := (dC, dI)) (ci := 12) (v := (.ref (r 7))) (C := R_Md) (T := F_Md) (N := 45) hx hb hg in_Md hown hK hP 0 rfl rfl 7 (by decide) (hg _ k_1027) (fun _ h9 => h9) rfl d_Md_keep_80 ?_
      refine lv_iconst (v := 1) hx hb d_Md_keep_83 (by decide) ?_
      refine lv_topi (fun x315 e314 => ?_)
      obtain rfl : x315 = nI 1 := by rw [e314]; rfl
      refine va_iald hx hb hK hP 7 0 rfl rfl (i := (nI 1)) (vp_in_nI (N := 1000) (by omega) (by decide)) d_Md_keep_84 ?_
      refine lv_topi (fun x316 e_x316 => ?_)
      clear e_x316
      refine va_iast hx hb hK hP hD hS 2 0 rfl rfl (i := (nI (nv))) (vp_in_nI (n := nv) (N := 41) (by omega) (by decide)) d_Md_keep_85 (fun H locs hP hD hS => ?_)
      have ef317 : upd g19_265 (nI (nv)).toNatClampNeg x316 = upd g19_265 nv x316 := by rw [show (nI (nv)).toNatClampNeg = nv from nI_clamp (by omega)]
      rw [ef317] at hP hD
      have hP : va_P (dC, dI) vcl [(mo, .inr (12, mdG r cd tm (nI sn) (nI tx) (nI lz) (nI az) (nI (nv)) (nI nt) (nI nr) mw ml mk dq)), (r 18, .inl ((cT 0), 41, .inl (upd g18_264 nv x))), (r 19, .inl ((cT 0), 41, .inl (upd g19_265 nv x316))), (r 20, .inl ((cT 0), 41, .inl g20_266)), (r 21, .inl ((cT 0), 41, .inl g21_267)), (r 22, .inl ((cT 0), 8200, .inl g22_268)), (r 23, .inl ((cT 0), 656, .inl g23_269)), (r 7, .inl ((cT 0), 1000, .inl f7)), (r 15, .inl ((cT 0), 200, .inl f15))] H := hP
      have hD : va_D A [(mo, .inr (12, mdG r cd tm (nI sn) (nI tx) (nI lz) (nI az) (nI (nv)) (nI nt) (nI nr) mw ml mk dq)), (r 18, .inl ((cT 0), 41, .inl (upd g18_264 nv x))), (r 19, .inl ((cT 0), 41, .inl (upd g19_265 nv x316))), (r 20, .inl ((cT 0), 41, .inl g20_266)), (r 21, .inl ((cT 0), 41, .inl g21_267)), (r 22, .inl ((cT 0), 8200, .inl g22_268)), (r 23, .inl ((cT 0), 656, .inl g23_269)), (r 7, .inl ((cT 0), 1000, .inl f7)), (r 15, .inl ((cT 0), 200, .inl f15))] := hD
      refine lv_aload_n hx hb d_Md_keep_86 rfl (lv_at hl 0 rfl) ?_
      refine va_get (D := (dC, dI)) (ci := 12) (v := (.ref (r 20))) (C := R_Md) (T := F_Md) (N := 45) hx hb hg in_Md hown hK hP 0 rfl rfl 20 (by decide) (hg _ k_1040) (fun _ h9 => h9) rfl d_Md_keep_87 ?_
      refine lv_aload_n hx hb d_Md_keep_90 rfl (lv_at hl 0 rfl) ?_
      refine va_get (D := (dC, dI)) (ci := 12) (v := (.int (nI (nv)))) (C := R_Md) (T := F_Md) (N := 45) hx hb hg in_Md hown hK hP 0 rfl rfl 17 (by decide) (hg _ k_1037) (fun _ h9 => h9) rfl d_Md_keep_91 ?_
      refine lv_aload_n hx hb d_Md_keep_94 rfl (lv_at hl 0 rfl) ?_
      refine va_get (D := (dC, dI)) (ci := 12) (v := (.int tm)) (C := R_Md) (T := F_Md) (N := 45) hx hb hg in_Md hown hK hP 0 rfl rfl 2 (by decide) (hg _ k_1022) (fun _ h9 => h9) rfl d_Md_keep_95 ?_
      refine va_iast hx hb hK hP hD hS 3 0 rfl rfl (i := (nI (nv))) (vp_in_nI (n := nv) (N := 41) (by omega) (by decide)) d_Md_keep_98 (fun H locs hP hD hS => ?_)
      have ef318 : upd g20_266 (nI (nv)).toNatClampNeg tm = upd g20_266 nv tm := by rw [show (nI (nv)).toNatClampNeg = nv from nI_clamp (by omega)]
      rw [ef318] at hP hD
      have hP : va_P (dC, dI) vcl [(mo, .inr (12, mdG r cd tm (nI sn) (nI tx) (nI lz) (nI az) (nI (nv)) (nI nt) (nI nr) mw ml mk dq)), (r 18, .inl ((cT 0), 41, .inl (upd g18_264 nv x))), (r 19, .inl ((cT 0), 41, .inl (upd g19_265 nv x316))), (r 20, .inl ((cT 0), 41, .inl (upd g20_266 nv tm))), (r 21, .inl ((cT 0), 41, .inl g21_267)), (r 22, .inl ((cT 0), 8200, .inl g22_268)), (r 23, .inl ((cT 0), 656, .inl g23_269)), (r 7, .inl ((cT 0), 1000, .inl f7)), (r 15, .inl ((cT 0), 200, .inl f15))] H := hP
      have hD : va_D A [(mo, .inr (12, mdG r cd tm (nI sn) (nI tx) (nI lz) (nI az) (nI (nv)) (nI nt) (nI nr) mw ml mk dq)), (r 18, .inl ((cT 0), 41, .inl (upd g18_264 nv x))), (r 19, .inl ((cT 0), 41, .inl (upd g19_265 nv x316))), (r 20, .inl ((cT 0), 41, .inl (upd g20_266 nv tm))), (r 21, .inl ((cT 0), 41, .inl g21_267)), (r 22, .inl ((cT 0), 8200, .inl g22_268)), (r 23, .inl ((cT 0), 656, .inl g23_269)), (r 7, .inl ((cT 0), 1000, .inl f7)), (r 15, .inl ((cT 0), 200, .inl f15))] := hD
      refine lv_aload_n hx hb d_Md_keep_99 rfl (lv_at hl 0 rfl) ?_
      refine va_get (D := (dC, dI)) (ci := 12) (v := (.ref (r 21))) (C := R_Md) (T := F_Md) (N := 45) hx hb hg in_Md hown hK hP 0 rfl rfl 21 (by decide) (hg _ k_1041) (fun _ h9 => h9) rfl d_Md_keep_100 ?_
      refine lv_aload_n hx hb d_Md_keep_103 rfl (lv_at hl 0 rfl) ?_
      refine va_get (D := (dC, dI)) (ci := 12) (v := (.int (nI (nv)))) (C := R_Md) (T := F_Md) (N := 45) hx hb hg in_Md hown hK hP 0 rfl rfl 17 (by decide) (hg _ k_1037) (fun _ h9 => h9) rfl d_Md_keep_104 ?_
      refine lv_aload_n hx hb d_Md_keep_107 rfl (lv_at hl 0 rfl) ?_
      refine va_get (D := (dC, dI)) (ci := 12) (v := (.int (nI az))) (C := R_Md) (T := F_Md) (N := 45) hx hb hg in_Md hown hK hP 0 rfl rfl 16 (by decide) (hg _ k_1036) (fun _ h9 => h9) rfl d_Md_keep_108 ?_
      refine va_iast hx hb hK hP hD hS 4 0 rfl rfl (i := (nI (nv))) (vp_in_nI (n := nv) (N := 41) (by omega) (by decide)) d_Md_keep_111 (fun H locs hP hD hS => ?_)
      have ef319 : upd g21_267 (nI (nv)).toNatClampNeg (nI az) = upd g21_267 nv (nI az) := by rw [show (nI (nv)).toNatClampNeg = nv from nI_clamp (by omega)]
      rw [ef319] at hP hD
      have hP : va_P (dC, dI) vcl [(mo, .inr (12, mdG r cd tm (nI sn) (nI tx) (nI lz) (nI az) (nI (nv)) (nI nt) (nI nr) mw ml mk dq)), (r 18, .inl ((cT 0), 41, .inl (upd g18_264 nv x))), (r 19, .inl ((cT 0), 41, .inl (upd g19_265 nv x316))), (r 20, .inl ((cT 0), 41, .inl (upd g20_266 nv tm))), (r 21, .inl ((cT 0), 41, .inl (upd g21_267 nv (nI az)))), (r 22, .inl ((cT 0), 8200, .inl g22_268)), (r 23, .inl ((cT 0), 656, .inl g23_269)), (r 7, .inl ((cT 0), 1000, .inl f7)), (r 15, .inl ((cT 0), 200, .inl f15))] H := hP
      have hD : va_D A [(mo, .inr (12, mdG r cd tm (nI sn) (nI tx) (nI lz) (nI az) (nI (nv)) (nI nt) (nI nr) mw ml mk dq)), (r 18, .inl ((cT 0), 41, .inl (upd g18_264 nv x))), (r 19, .inl ((cT 0), 41, .inl (upd g19_265 nv x316))), (r 20, .inl ((cT 0), 41, .inl (upd g20_266 nv tm))), (r 21, .inl ((cT 0), 41, .inl (upd g21_267 nv (nI az)))), (r 22, .inl ((cT 0), 8200, .inl g22_268)), (r 23, .inl ((cT 0), 656, .inl g23_269)), (r 7, .inl ((cT 0), 1000, .inl f7)), (r 15, .inl ((cT 0), 200, .inl f15))] := hD
      refine lv_iconst (v := 0) hx hb d_Md_keep_112 (by decide) ?_
      refine lv_istore_n (lv' := [(2, .int 0), (0, .ref mo), (1, .int x)]) hx hb d_Md_keep_113 rfl hl (by decide) rfl (fun ls hl => ?_)
      have hl := lv_sub hl [0, 1, 2] (show _ = [(2, .int 0), (0, .ref mo), (1, .int x)] from rfl)
      have L321 : ∀ (Q : State → Prop) (exit : ∀ (g22_320 : Nat → Int32) (H : Heap) (locs : List Loc) (ls : Array Slot), va_P (dC, dI) vcl [(mo, .inr (12, mdG r cd tm (nI sn) (nI tx) (nI lz) (nI az) (nI (nv)) (nI nt) (nI nr) mw ml mk dq)), (r 18, .inl ((cT 0), 41, .inl (upd g18_264 nv x))), (r 19, .inl ((cT 0), 41, .inl (upd g19_265 nv x316))), (r 20, .inl ((cT 0), 41, .inl (upd g20_266 nv tm))), (r 21, .inl ((cT 0), 41, .inl (upd g21_267 nv (nI az)))), (r 22, .inl ((cT 0), 8200, .inl g22_320)), (r 23, .inl ((cT 0), 656, .inl g23_269)), (r 7, .inl ((cT 0), 1000, .inl f7)), (r 15, .inl ((cT 0), 200, .inl f15))] H → va_D A [(mo, .inr (12, mdG r cd tm (nI sn) (nI tx) (nI lz) (nI az) (nI (nv)) (nI nt) (nI nr) mw ml mk dq)), (r 18, .inl ((cT 0), 41, .inl (upd g18_264 nv x))), (r 19, .inl ((cT 0), 41, .inl (upd g19_265 nv x316))), (r 20, .inl ((cT 0), 41, .inl (upd g20_266 nv tm))), (r 21, .inl ((cT 0), 41, .inl (upd g21_267 nv (nI az)))), (r 22, .inl ((cT 0), 8200, .inl g22_320)), (r 23, .inl ((cT 0), 656, .inl g23_269)), (r 7, .inl ((cT 0), 1000, .inl f7)), (r 15, .inl ((cT 0), 200, .inl f15))] → va_S A s.heap H locs → lv_has ls 3 [(2, .int (nI az)), (0, .ref mo), (1, .int x)] → W p l e ({ frames := 2, cells := 0, slots := 0, locals := 50 } : Room) s m args below meth c H locs 0 0 Q (F0 m 149 ls [])) (j8 i : Nat) (g22_320 : Nat → Int32) (H : Heap) (locs : List Loc) (ls : Array Slot), i + j8 = az → va_P (dC, dI) vcl [(mo, .inr (12, mdG r cd tm (nI sn) (nI tx) (nI lz) (nI az) (nI (nv)) (nI nt) (nI nr) mw ml mk dq)), (r 18, .inl ((cT 0), 41, .inl (upd g18_264 nv x))), (r 19, .inl ((cT 0), 41, .inl (upd g19_265 nv x316))), (r 20, .inl ((cT 0), 41, .inl (upd g20_266 nv tm))), (r 21, .inl ((cT 0), 41, .inl (upd g21_267 nv (nI az)))), (r 22, .inl ((cT 0), 8200, .inl g22_320)), (r 23, .inl ((cT 0), 656, .inl g23_269)), (r 7, .inl ((cT 0), 1000, .inl f7)), (r 15, .inl ((cT 0), 200, .inl f15))] H → va_D A [(mo, .inr (12, mdG r cd tm (nI sn) (nI tx) (nI lz) (nI az) (nI (nv)) (nI nt) (nI nr) mw ml mk dq)), (r 18, .inl ((cT 0), 41, .inl (upd g18_264 nv x))), (r 19, .inl ((cT 0), 41, .inl (upd g19_265 nv x316))), (r 20, .inl ((cT 0), 41, .inl (upd g20_266 nv tm))), (r 21, .inl ((cT 0), 41, .inl (upd g21_267 nv (nI az)))), (r 22, .inl ((cT 0), 8200, .inl g22_320)), (r 23, .inl ((cT 0), 656, .inl g23_269)), (r 7, .inl ((cT 0), 1000, .inl f7)), (r 15, .inl ((cT 0), 200, .inl f15))] → va_S A s.heap H locs → lv_has ls 3 [(2, .int (nI i)), (0, .ref mo), (1, .int x)] → W p l e ({ frames := 2, cells := 0, slots := 0, locals := 50 } : Room) s m args below meth c H locs 0 0 Q (F0 m 114 ls []) := by
        intro Q exit j8
        induction j8 with
        | zero => 
          intro i g22_320 H locs ls hij  hP hD hS hl
          have hij : az = i := by omega
          refine lv_iload_n hx hb d_Md_keep_114 rfl (lv_at hl 0 rfl) ?_
          refine lv_aload_n hx hb d_Md_keep_115 rfl (lv_at hl 1 rfl) ?_
          refine va_get (D := (dC, dI)) (ci := 12) (v := (.int (nI az))) (C := R_Md) (T := F_Md) (N := 45) hx hb hg in_Md hown hK hP 0 rfl rfl 16 (by decide) (hg _ k_1036) (fun _ h9 => h9) rfl d_Md_keep_116 ?_
          refine lv_icmp_ge (tgt := 149) hx hb d_Md_keep_119 (by decide) (fun hc322 => ?_) (fun hn9 => absurd (nI_le (by omega) (by omega)) hn9)
          subst hij
          exact exit g22_320 _ _ _  hP hD hS hl
        | succ j8 ih => 
          intro i g22_320 H locs ls hij  hP hD hS hl
          have hlt : i < az := by omega
          have hlti := hlt
          refine lv_iload_n hx hb d_Md_keep_114 rfl (lv_at hl 0 rfl) ?_
          refine lv_aload_n hx hb d_Md_keep_115 rfl (lv_at hl 1 rfl) ?_
          refine va_get (D := (dC, dI)) (ci := 12) (v := (.int (nI az))) (C := R_Md) (T := F_Md) (N := 45) hx hb hg in_Md hown hK hP 0 rfl rfl 16 (by decide) (hg _ k_1036) (fun _ h9 => h9) rfl d_Md_keep_116 ?_
          refine lv_icmp_ge (tgt := 149) hx hb d_Md_keep_119 (by decide) (fun hn9 => absurd hn9 (nI_ge (by omega) (by omega))) (fun hc323 => ?_)
          refine lv_aload_n hx hb d_Md_keep_122 rfl (lv_at hl 1 rfl) ?_
          refine va_get (D := (dC, dI)) (ci := 12) (v := (.ref (r 22))) (C := R_Md) (T := F_Md) (N := 45) hx hb hg in_Md hown hK hP 0 rfl rfl 22 (by decide) (hg _ k_1042) (fun _ h9 => h9) rfl d_Md_keep_123 ?_
          refine lv_sipush (v := 200) hx hb d_Md_keep_126 (by decide) ?_
          refine lv_aload_n hx hb d_Md_keep_129 rfl (lv_at hl 1 rfl) ?_
          refine va_get (D := (dC, dI)) (ci := 12) (v := (.int (nI (nv)))) (C := R_Md) (T := F_Md) (N := 45) hx hb hg in_Md hown hK hP 0 rfl rfl 17 (by decide) (hg _ k_1037) (fun _ h9 => h9) rfl d_Md_keep_130 ?_
          refine lv_imul hx hb d_Md_keep_133 ?_
          refine lv_topi (fun x325 e324 => ?_)
          obtain rfl : x325 = nI (200 * nv) := by rw [e324]; exact pk_mul 200 nv
          refine lv_iload_n hx hb d_Md_keep_134 rfl (lv_at hl 0 rfl) ?_
          refine lv_iadd hx hb d_Md_keep_135 ?_
          refine lv_topi (fun x327 e326 => ?_)
          obtain rfl : x327 = nI ((200 * nv) + i) := by rw [e326]; exact nI_add (200 * nv) i
          refine lv_aload_n hx hb d_Md_keep_136 rfl (lv_at hl 1 rfl) ?_
          refine va_get (D := (dC, dI)) (ci := 12) (v := (.ref (r 15))) (C := R_Md) (T := F_Md) (N := 45) hx hb hg in_Md hown hK hP 0 rfl rfl 15 (by decide) (hg _ k_1035) (fun _ h9 => h9) rfl d_Md_keep_137 ?_
          refine lv_iload_n hx hb d_Md_keep_140 rfl (lv_at hl 0 rfl) ?_
          refine va_iald hx hb hK hP 8 0 rfl rfl (i := (nI i)) (vp_in_nI (N := 200) (by omega) (by decide)) d_Md_keep_141 ?_
          refine lv_topi (fun x328 e_x328 => ?_)
          clear e_x328
          refine va_iast hx hb hK hP hD hS 5 0 rfl rfl (i := (nI ((200 * nv) + i))) (vp_in_nI (n := (200 * nv) + i) (N := 8200) (by omega) (by decide)) d_Md_keep_142 (fun H locs hP hD hS => ?_)
          have ef329 : upd g22_320 (nI ((200 * nv) + i)).toNatClampNeg x328 = upd g22_320 ((200 * nv) + i) x328 := by rw [show (nI ((200 * nv) + i)).toNatClampNeg = (200 * nv) + i from nI_clamp (by omega)]
          rw [ef329] at hP hD
          have hP : va_P (dC, dI) vcl [(mo, .inr (12, mdG r cd tm (nI sn) (nI tx) (nI lz) (nI az) (nI (nv)) (nI nt) (nI nr) mw ml mk dq)), (r 18, .inl ((cT 0), 41, .inl (upd g18_264 nv x))), (r 19, .inl ((cT 0), 41, .inl (upd g19_265 nv x316))), (r 20, .inl ((cT 0), 41, .inl (upd g20_266 nv tm))), (r 21, .inl ((cT 0), 41, .inl (upd g21_267 nv (nI az)))), (r 22, .inl ((cT 0), 8200, .inl (upd g22_320 ((200 * nv) + i) x328))), (r 23, .inl ((cT 0), 656, .inl g23_269)), (r 7, .inl ((cT 0), 1000, .inl f7)), (r 15, .inl ((cT 0), 200, .inl f15))] H := hP
          have hD : va_D A [(mo, .inr (12, mdG r cd tm (nI sn) (nI tx) (nI lz) (nI az) (nI (nv)) (nI nt) (nI nr) mw ml mk dq)), (r 18, .inl ((cT 0), 41, .inl (upd g18_264 nv x))), (r 19, .inl ((cT 0), 41, .inl (upd g19_265 nv x316))), (r 20, .inl ((cT 0), 41, .inl (upd g20_266 nv tm))), (r 21, .inl ((cT 0), 41, .inl (upd g21_267 nv (nI az)))), (r 22, .inl ((cT 0), 8200, .inl (upd g22_320 ((200 * nv) + i) x328))), (r 23, .inl ((cT 0), 656, .inl g23_269)), (r 7, .inl ((cT 0), 1000, .inl f7)), (r 15, .inl ((cT 0), 200, .inl f15))] := hD
          refine lv_iinc (k := 0) (v := nI (i + 1)) (lv' := [(2, .int (nI (i + 1))), (0, .ref mo), (1, .int x)]) hx hb d_Md_keep_143 hl rfl (nI_1 i) (by decide) rfl (fun ls hl => ?_)
          refine lv_goto (tgt := 114) hx hb d_Md_keep_146 (by decide) ?_
          have hl := lv_sub hl [0, 1, 2] (show _ = [(2, .int (nI (i + 1))), (0, .ref mo), (1, .int x)] from rfl)
          exact ih (i + 1) _ _ _ _ (by omega)  hP hD hS hl
      refine L321 _ (fun g22_320 H locs ls  hP hD hS hl => ?_) (az - 0) 0 g22_268 H _ ls (by omega)  hP hD hS hl
      refine lv_iconst (v := 0) hx hb d_Md_keep_149 (by decide) ?_
      refine lv_istore_n (lv' := [(2, .int 0), (0, .ref mo), (1, .int x)]) hx hb d_Md_keep_150 rfl hl (by decide) rfl (fun ls hl => ?_)
      have hl := lv_sub hl [0, 1, 2] (show _ = [(2, .int 0), (0, .ref mo), (1, .int x)] from rfl)
      have L331 : ∀ (Q : State → Prop) (exit : ∀ (g23_330 : Nat → Int32) (H : Heap) (locs : List Loc) (ls : Array Slot), va_P (dC, dI) vcl [(mo, .inr (12, mdG r cd tm (nI sn) (nI tx) (nI lz) (nI az) (nI (nv)) (nI nt) (nI nr) mw ml mk dq)), (r 18, .inl ((cT 0), 41, .inl (upd g18_264 nv x))), (r 19, .inl ((cT 0), 41, .inl (upd g19_265 nv x316))), (r 20, .inl ((cT 0), 41, .inl (upd g20_266 nv tm))), (r 21, .inl ((cT 0), 41, .inl (upd g21_267 nv (nI az)))), (r 22, .inl ((cT 0), 8200, .inl g22_320)), (r 23, .inl ((cT 0), 656, .inl g23_330)), (r 7, .inl ((cT 0), 1000, .inl f7)), (r 15, .inl ((cT 0), 200, .inl f15))] H → va_D A [(mo, .inr (12, mdG r cd tm (nI sn) (nI tx) (nI lz) (nI az) (nI (nv)) (nI nt) (nI nr) mw ml mk dq)), (r 18, .inl ((cT 0), 41, .inl (upd g18_264 nv x))), (r 19, .inl ((cT 0), 41, .inl (upd g19_265 nv x316))), (r 20, .inl ((cT 0), 41, .inl (upd g20_266 nv tm))), (r 21, .inl ((cT 0), 41, .inl (upd g21_267 nv (nI az)))), (r 22, .inl ((cT 0), 8200, .inl g22_320)), (r 23, .inl ((cT 0), 656, .inl g23_330)), (r 7, .inl ((cT 0), 1000, .inl f7)), (r 15, .inl ((cT 0), 200, .inl f15))] → va_S A s.heap H locs → lv_has ls 3 [(2, .int (nI 16)), (0, .ref mo), (1, .int x)] → W p l e ({ frames := 2, cells := 0, slots := 0, locals := 50 } : Room) s m args below meth c H locs 0 0 Q (F0 m 185 ls [])) (j8 i : Nat) (g23_330 : Nat → Int32) (H : Heap) (locs : List Loc) (ls : Array Slot), i + j8 = 16 → va_P (dC, dI) vcl [(mo, .inr (12, mdG r cd tm (nI sn) (nI tx) (nI lz) (nI az) (nI (nv)) (nI nt) (nI nr) mw ml mk dq)), (r 18, .inl ((cT 0), 41, .inl (upd g18_264 nv x))), (r 19, .inl ((cT 0), 41, .inl (upd g19_265 nv x316))), (r 20, .inl ((cT 0), 41, .inl (upd g20_266 nv tm))), (r 21, .inl ((cT 0), 41, .inl (upd g21_267 nv (nI az)))), (r 22, .inl ((cT 0), 8200, .inl g22_320)), (r 23, .inl ((cT 0), 656, .inl g23_330)), (r 7, .inl ((cT 0), 1000, .inl f7)), (r 15, .inl ((cT 0), 200, .inl f15))] H → va_D A [(mo, .inr (12, mdG r cd tm (nI sn) (nI tx) (nI lz) (nI az) (nI (nv)) (nI nt) (nI nr) mw ml mk dq)), (r 18, .inl ((cT 0), 41, .inl (upd g18_264 nv x))), (r 19, .inl ((cT 0), 41, .inl (upd g19_265 nv x316))), (r 20, .inl ((cT 0), 41, .inl (upd g20_266 nv tm))), (r 21, .inl ((cT 0), 41, .inl (upd g21_267 nv (nI az)))), (r 22, .inl ((cT 0), 8200, .inl g22_320)), (r 23, .inl ((cT 0), 656, .inl g23_330)), (r 7, .inl ((cT 0), 1000, .inl f7)), (r 15, .inl ((cT 0), 200, .inl f15))] → va_S A s.heap H locs → lv_has ls 3 [(2, .int (nI i)), (0, .ref mo), (1, .int x)] → W p l e ({ frames := 2, cells := 0, slots := 0, locals := 50 } : Room) s m args below meth c H locs 0 0 Q (F0 m 151 ls []) := by
        intro Q exit j8
        induction j8 with
        | zero => 
          intro i g23_330 H locs ls hij  hP hD hS hl
          have hij : 16 = i := by omega
          refine lv_iload_n hx hb d_Md_keep_151 rfl (lv_at hl 0 rfl) ?_
          refine lv_bipush (v := 16) hx hb d_Md_keep_152 (by decide) ?_
          refine lv_topi (fun x333 e332 => ?_)
          obtain rfl : x333 = nI 16 := by rw [e332]; rfl
          refine lv_icmp_ge (tgt := 185) hx hb d_Md_keep_154 (by decide) (fun hc334 => ?_) (fun hn9 => absurd (nI_le (by omega) (by omega)) hn9)
          subst hij
          exact exit g23_330 _ _ _  hP hD hS hl
        | succ j8 ih => 
          intro i g23_330 H locs ls hij  hP hD hS hl
          have hlt : i < 16 := by omega
          have hlti := hlt
          refine lv_iload_n hx hb d_Md_keep_151 rfl (lv_at hl 0 rfl) ?_
          refine lv_bipush (v := 16) hx hb d_Md_keep_152 (by decide) ?_
          refine lv_topi (fun x336 e335 => ?_)
          obtain rfl : x336 = nI 16 := by rw [e335]; rfl
          refine lv_icmp_ge (tgt := 185) hx hb d_Md_keep_154 (by decide) (fun hn9 => absurd hn9 (nI_ge (by omega) (by omega))) (fun hc337 => ?_)
          refine lv_aload_n hx hb d_Md_keep_157 rfl (lv_at hl 1 rfl) ?_
          refine va_get (D := (dC, dI)) (ci := 12) (v := (.ref (r 23))) (C := R_Md) (T := F_Md) (N := 45) hx hb hg in_Md hown hK hP 0 rfl rfl 23 (by decide) (hg _ k_1043) (fun _ h9 => h9) rfl d_Md_keep_158 ?_
          refine lv_bipush (v := 16) hx hb d_Md_keep_161 (by decide) ?_
          refine lv_aload_n hx hb d_Md_keep_163 rfl (lv_at hl 1 rfl) ?_
          refine va_get (D := (dC, dI)) (ci := 12) (v := (.int (nI (nv)))) (C := R_Md) (T := F_Md) (N := 45) hx hb hg in_Md hown hK hP 0 rfl rfl 17 (by decide) (hg _ k_1037) (fun _ h9 => h9) rfl d_Md_keep_164 ?_
          refine lv_imul hx hb d_Md_keep_167 ?_
          refine lv_topi (fun x339 e338 => ?_)
          obtain rfl : x339 = nI (16 * nv) := by rw [e338]; exact pk_mul 16 nv
          refine lv_iload_n hx hb d_Md_keep_168 rfl (lv_at hl 0 rfl) ?_
          refine lv_iadd hx hb d_Md_keep_169 ?_
          refine lv_topi (fun x341 e340 => ?_)
          obtain rfl : x341 = nI ((16 * nv) + i) := by rw [e340]; exact nI_add (16 * nv) i
          refine lv_aload_n hx hb d_Md_keep_170 rfl (lv_at hl 1 rfl) ?_
          refine va_get (D := (dC, dI)) (ci := 12) (v := (.ref (r 7))) (C := R_Md) (T := F_Md) (N := 45) hx hb hg in_Md hown hK hP 0 rfl rfl 7 (by decide) (hg _ k_1027) (fun _ h9 => h9) rfl d_Md_keep_171 ?_
          refine lv_iconst (v := 4) hx hb d_Md_keep_174 (by decide) ?_
          refine lv_iload_n hx hb d_Md_keep_175 rfl (lv_at hl 0 rfl) ?_
          refine lv_iadd hx hb d_Md_keep_176 ?_
          refine lv_topi (fun x343 e342 => ?_)
          obtain rfl : x343 = nI (4 + i) := by rw [e342]; exact nI_add 4 i
          refine va_iald hx hb hK hP 7 0 rfl rfl (i := (nI (4 + i))) (vp_in_nI (N := 1000) (by omega) (by decide)) d_Md_keep_177 ?_
          refine lv_topi (fun x344 e_x344 => ?_)
          clear e_x344
          refine va_iast hx hb hK hP hD hS 6 0 rfl rfl (i := (nI ((16 * nv) + i))) (vp_in_nI (n := (16 * nv) + i) (N := 656) (by omega) (by decide)) d_Md_keep_178 (fun H locs hP hD hS => ?_)
          have ef345 : upd g23_330 (nI ((16 * nv) + i)).toNatClampNeg x344 = upd g23_330 ((16 * nv) + i) x344 := by rw [show (nI ((16 * nv) + i)).toNatClampNeg = (16 * nv) + i from nI_clamp (by omega)]
          rw [ef345] at hP hD
          have hP : va_P (dC, dI) vcl [(mo, .inr (12, mdG r cd tm (nI sn) (nI tx) (nI lz) (nI az) (nI (nv)) (nI nt) (nI nr) mw ml mk dq)), (r 18, .inl ((cT 0), 41, .inl (upd g18_264 nv x))), (r 19, .inl ((cT 0), 41, .inl (upd g19_265 nv x316))), (r 20, .inl ((cT 0), 41, .inl (upd g20_266 nv tm))), (r 21, .inl ((cT 0), 41, .inl (upd g21_267 nv (nI az)))), (r 22, .inl ((cT 0), 8200, .inl g22_320)), (r 23, .inl ((cT 0), 656, .inl (upd g23_330 ((16 * nv) + i) x344))), (r 7, .inl ((cT 0), 1000, .inl f7)), (r 15, .inl ((cT 0), 200, .inl f15))] H := hP
          have hD : va_D A [(mo, .inr (12, mdG r cd tm (nI sn) (nI tx) (nI lz) (nI az) (nI (nv)) (nI nt) (nI nr) mw ml mk dq)), (r 18, .inl ((cT 0), 41, .inl (upd g18_264 nv x))), (r 19, .inl ((cT 0), 41, .inl (upd g19_265 nv x316))), (r 20, .inl ((cT 0), 41, .inl (upd g20_266 nv tm))), (r 21, .inl ((cT 0), 41, .inl (upd g21_267 nv (nI az)))), (r 22, .inl ((cT 0), 8200, .inl g22_320)), (r 23, .inl ((cT 0), 656, .inl (upd g23_330 ((16 * nv) + i) x344))), (r 7, .inl ((cT 0), 1000, .inl f7)), (r 15, .inl ((cT 0), 200, .inl f15))] := hD
          refine lv_iinc (k := 0) (v := nI (i + 1)) (lv' := [(2, .int (nI (i + 1))), (0, .ref mo), (1, .int x)]) hx hb d_Md_keep_179 hl rfl (nI_1 i) (by decide) rfl (fun ls hl => ?_)
          refine lv_goto (tgt := 151) hx hb d_Md_keep_182 (by decide) ?_
          have hl := lv_sub hl [0, 1, 2] (show _ = [(2, .int (nI (i + 1))), (0, .ref mo), (1, .int x)] from rfl)
          exact ih (i + 1) _ _ _ _ (by omega)  hP hD hS hl
      refine L331 _ (fun g23_330 H locs ls  hP hD hS hl => ?_) (16 - 0) 0 g23_269 H _ ls (by omega)  hP hD hS hl
      refine lv_aload_n hx hb d_Md_keep_185 rfl (lv_at hl 1 rfl) ?_
      refine lv_dup hx hb d_Md_keep_186 rfl ?_
      refine va_get (D := (dC, dI)) (ci := 12) (v := (.int (nI (nv)))) (C := R_Md) (T := F_Md) (N := 45) hx hb hg in_Md hown hK hP 0 rfl rfl 17 (by decide) (hg _ k_1037) (fun _ h9 => h9) rfl d_Md_keep_187 ?_
      refine lv_iconst (v := 1) hx hb d_Md_keep_190 (by decide) ?_
      refine lv_iadd hx hb d_Md_keep_191 ?_
      refine lv_topi (fun x347 e346 => ?_)
      obtain rfl : x347 = nI (nv + 1) := by rw [e346]; exact nI_add nv 1
      refine va_put (D := (dC, dI)) (ci := 12) (v := (.int (nI (nv + 1)))) (ty := .int) (C := R_Md) (T := F_Md) (N := 45) hx hb hg in_Md t_Md tok_Md nm_Md hown hK hP hD hS 0 rfl rfl 17 (by decide) (hg _ k_1037) (fun _ h9 => h9) rfl (by decide +kernel) rfl rfl (Nat.le_of_ble_eq_true rfl) d_Md_keep_192 (fun H locs hP hD hS => ?_)
      have hP : va_P (dC, dI) vcl [(mo, .inr (12, mdG r cd tm (nI sn) (nI tx) (nI lz) (nI az) (nI (nv + 1)) (nI nt) (nI nr) mw ml mk dq)), (r 18, .inl ((cT 0), 41, .inl (upd g18_264 nv x))), (r 19, .inl ((cT 0), 41, .inl (upd g19_265 nv x316))), (r 20, .inl ((cT 0), 41, .inl (upd g20_266 nv tm))), (r 21, .inl ((cT 0), 41, .inl (upd g21_267 nv (nI az)))), (r 22, .inl ((cT 0), 8200, .inl g22_320)), (r 23, .inl ((cT 0), 656, .inl g23_330)), (r 7, .inl ((cT 0), 1000, .inl f7)), (r 15, .inl ((cT 0), 200, .inl f15))] H := hP
      have hD : va_D A [(mo, .inr (12, mdG r cd tm (nI sn) (nI tx) (nI lz) (nI az) (nI (nv + 1)) (nI nt) (nI nr) mw ml mk dq)), (r 18, .inl ((cT 0), 41, .inl (upd g18_264 nv x))), (r 19, .inl ((cT 0), 41, .inl (upd g19_265 nv x316))), (r 20, .inl ((cT 0), 41, .inl (upd g20_266 nv tm))), (r 21, .inl ((cT 0), 41, .inl (upd g21_267 nv (nI az)))), (r 22, .inl ((cT 0), 8200, .inl g22_320)), (r 23, .inl ((cT 0), 656, .inl g23_330)), (r 7, .inl ((cT 0), 1000, .inl f7)), (r 15, .inl ((cT 0), 200, .inl f15))] := hD
      have hP9 := hP.sub (ws' := [(mo, .inr (12, mdG r cd tm (nI sn) (nI tx) (nI lz) (nI az) (nI (nv + 1)) (nI nt) (nI nr) mw ml mk dq)), (r 18, .inl ((cT 0), 41, .inl (upd g18_264 nv x))), (r 19, .inl ((cT 0), 41, .inl (upd g19_265 nv x316))), (r 20, .inl ((cT 0), 41, .inl (upd g20_266 nv tm))), (r 21, .inl ((cT 0), 41, .inl (upd g21_267 nv (nI az)))), (r 22, .inl ((cT 0), 8200, .inl g22_320)), (r 23, .inl ((cT 0), 656, .inl g23_330)), (r 7, .inl ((cT 0), 1000, .inl f7)), (r 15, .inl ((cT 0), 200, .inl f15))]) [0, 1, 2, 3, 4, 5, 6, 7, 8] rfl
      have hD9 := hD.sub (ws' := [(mo, .inr (12, mdG r cd tm (nI sn) (nI tx) (nI lz) (nI az) (nI (nv + 1)) (nI nt) (nI nr) mw ml mk dq)), (r 18, .inl ((cT 0), 41, .inl (upd g18_264 nv x))), (r 19, .inl ((cT 0), 41, .inl (upd g19_265 nv x316))), (r 20, .inl ((cT 0), 41, .inl (upd g20_266 nv tm))), (r 21, .inl ((cT 0), 41, .inl (upd g21_267 nv (nI az)))), (r 22, .inl ((cT 0), 8200, .inl g22_320)), (r 23, .inl ((cT 0), 656, .inl g23_330)), (r 7, .inl ((cT 0), 1000, .inl f7)), (r 15, .inl ((cT 0), 200, .inl f15))]) [0, 1, 2, 3, 4, 5, 6, 7, 8] (by decide) rfl
      exact W.vret hx hb hr (fun t ht hW => ⟨⟨⟨upd g18_264 nv x, upd g19_265 nv x316, upd g20_266 nv tm, upd g21_267 nv (nI az), g22_320, g23_330, nv + 1⟩, rfl, ⟨by omega, BD_upd (by assumption) haz⟩, by rw [ht]; exact hP9, va_K.moved hW.alike hK, hD9⟩, hS.F ht⟩) hS.2.2 d_Md_keep_195
    · skip
      have n312 : nv = 40 := (nI_eq (a := nv) (b := 40) (by omega) (by omega)).mp hc310
      refine lv_aload_n hx hb d_Md_keep_56 rfl (lv_at hl 0 rfl) ?_
      refine lv_iconst (v := 0) hx hb d_Md_keep_57 (by decide) ?_
      refine lv_topi (fun x349 e348 => ?_)
      obtain rfl : x349 = nI 0 := by rw [e348]; rfl
      have hPc := hP.sub (ws' := [(mo, .inr (12, mdG r cd tm (nI sn) (nI tx) (nI lz) (nI az) (nI nv) (nI nt) (nI nr) mw ml mk dq)), (r 18, .inl ((cT 0), 41, .inl g18_264)), (r 19, .inl ((cT 0), 41, .inl g19_265)), (r 20, .inl ((cT 0), 41, .inl g20_266)), (r 21, .inl ((cT 0), 41, .inl g21_267)), (r 22, .inl ((cT 0), 8200, .inl g22_268)), (r 23, .inl ((cT 0), 656, .inl g23_269))]) [0, 1, 2, 3, 4, 5, 6] rfl
      have hDc := hD.sub (ws' := [(mo, .inr (12, mdG r cd tm (nI sn) (nI tx) (nI lz) (nI az) (nI nv) (nI nt) (nI nr) mw ml mk dq)), (r 18, .inl ((cT 0), 41, .inl g18_264)), (r 19, .inl ((cT 0), 41, .inl g19_265)), (r 20, .inl ((cT 0), 41, .inl g20_266)), (r 21, .inl ((cT 0), 41, .inl g21_267)), (r 22, .inl ((cT 0), 8200, .inl g22_268)), (r 23, .inl ((cT 0), 656, .inl g23_269))]) [0, 1, 2, 3, 4, 5, 6] (by decide) rfl
      have hFc := va_free (wc := [(mo, .inr (12, mdG r cd tm (nI sn) (nI tx) (nI lz) (nI az) (nI nv) (nI nt) (nI nr) mw ml mk dq)), (r 18, .inl ((cT 0), 41, .inl g18_264)), (r 19, .inl ((cT 0), 41, .inl g19_265)), (r 20, .inl ((cT 0), 41, .inl g20_266)), (r 21, .inl ((cT 0), 41, .inl g21_267)), (r 22, .inl ((cT 0), 8200, .inl g22_268)), (r 23, .inl ((cT 0), 656, .inl g23_269))]) hD hS hA [0, 1, 2, 3, 4, 5, 6] rfl
      refine va_callv (va_runV (C := "DoorServerModel") (As := [.int (nI 0)]) (rest := []) ⟨hx, hb, hml, hown, hg⟩ (m_dropAnswer l dC dI cT H.size mo r cd tm sn tx lz az nv nt nr mw ml mk dq g18_264 g19_265 g20_266 g21_267 g22_268 g23_269 0 (by first | assumption | omega) (by first | assumption | omega) (by first | assumption | omega)) (cwV 1 hg (gI (List.forall_mem_append.mpr ⟨List.forall_mem_cons.mpr ⟨k_1371, List.forall_mem_cons.mpr ⟨k_1373, List.forall_mem_cons.mpr ⟨(big_sel (q := y_Md_dropAnswer) (n := 45) (by decide +kernel)), List.forall_mem_cons.mpr ⟨k_13, fun _ h => absurd h List.not_mem_nil⟩⟩⟩⟩, List.forall_mem_cons.mpr ⟨k_1374, fun _ h => h⟩⟩)) rfl rfl rfl (by decide +kernel) ⟨Nat.le_of_ble_eq_true rfl, Nat.le_of_ble_eq_true rfl⟩) ⟨fun a U g mk q => by obtain ⟨q0, q1, qP, qK, qD⟩ := q; exact ⟨q0, q1, qP, va_K.moved (u := U) (U := U.calling g mk a) (Vm.Alike.refl U.vm) qK, qD⟩, va_recv (q0 := 0) (ci := 12) hK hP rfl rfl, fun U hU hW => ⟨rfl, by rw [hU], by rw [hU]; exact hPc, va_K.moved hW.alike hK, hDc.weaken (fun _ _ _ _ => trivial)⟩⟩ rfl rfl hl.1 rfl (lv_room (Nat.le_of_ble_eq_true rfl)) d_Md_keep_58 ⟨Nat.le_of_ble_eq_true rfl, Nat.le_of_ble_eq_true rfl⟩) hS (fun q _ h => hFc q h) hFc (fun u t H1 locs ht hvm hw hB hz1 hk1 hS => ?_)
      obtain ⟨g18_350, g19_351, g20_352, g21_353, g22_354, g23_355⟩ := u
      try dsimp only at hw hB
      obtain ⟨hP1, hK1, hD1⟩ := hB
      rw [ht] at hP1
      obtain ⟨hP, hD⟩ := va_join (wr := [(r 7, .inl ((cT 0), 1000, .inl f7)), (r 15, .inl ((cT 0), 200, .inl f15))]) (w1 := [(mo, .inr (12, mdG r cd tm (nI sn) (nI tx) (nI lz) (nI az) (nI (nv - 1)) (nI nt) (nI nr) mw ml mk dq)), (r 18, .inl ((cT 0), 41, .inl g18_350)), (r 19, .inl ((cT 0), 41, .inl g19_351)), (r 20, .inl ((cT 0), 41, .inl g20_352)), (r 21, .inl ((cT 0), 41, .inl g21_353)), (r 22, .inl ((cT 0), 8200, .inl g22_354)), (r 23, .inl ((cT 0), 656, .inl g23_355))]) hP hD [0, 1, 2, 3, 4, 5, 6] [7, 8] rfl rfl (by decide) (by decide) hk1 hFc hP1 hD1
      have hw356 := hw
      clear hPc hDc hFc hz1 hk1 hP1 hK1 hD1
      generalize H1 = H at hP hS ⊢
      have hP : va_P (dC, dI) vcl [(r 7, .inl ((cT 0), 1000, .inl f7)), (r 15, .inl ((cT 0), 200, .inl f15)), (mo, .inr (12, mdG r cd tm (nI sn) (nI tx) (nI lz) (nI az) (nI (nv - 1)) (nI nt) (nI nr) mw ml mk dq)), (r 18, .inl ((cT 0), 41, .inl g18_350)), (r 19, .inl ((cT 0), 41, .inl g19_351)), (r 20, .inl ((cT 0), 41, .inl g20_352)), (r 21, .inl ((cT 0), 41, .inl g21_353)), (r 22, .inl ((cT 0), 8200, .inl g22_354)), (r 23, .inl ((cT 0), 656, .inl g23_355))] H := hP
      have hD : va_D A [(r 7, .inl ((cT 0), 1000, .inl f7)), (r 15, .inl ((cT 0), 200, .inl f15)), (mo, .inr (12, mdG r cd tm (nI sn) (nI tx) (nI lz) (nI az) (nI (nv - 1)) (nI nt) (nI nr) mw ml mk dq)), (r 18, .inl ((cT 0), 41, .inl g18_350)), (r 19, .inl ((cT 0), 41, .inl g19_351)), (r 20, .inl ((cT 0), 41, .inl g20_352)), (r 21, .inl ((cT 0), 41, .inl g21_353)), (r 22, .inl ((cT 0), 8200, .inl g22_354)), (r 23, .inl ((cT 0), 656, .inl g23_355))] := hD
      have k357 := hw356
      refine lv_aload_n hx hb d_Md_keep_61 rfl (lv_at hl 0 rfl) ?_
      refine va_get (D := (dC, dI)) (ci := 12) (v := (.ref (r 18))) (C := R_Md) (T := F_Md) (N := 45) hx hb hg in_Md hown hK hP 2 rfl rfl 18 (by decide) (hg _ k_1038) (fun _ h9 => h9) rfl d_Md_keep_62 ?_
      refine lv_aload_n hx hb d_Md_keep_65 rfl (lv_at hl 0 rfl) ?_
      refine va_get (D := (dC, dI)) (ci := 12) (v := (.int (nI (nv - 1)))) (C := R_Md) (T := F_Md) (N := 45) hx hb hg in_Md hown hK hP 2 rfl rfl 17 (by decide) (hg _ k_1037) (fun _ h9 => h9) rfl d_Md_keep_66 ?_
      refine lv_iload_n hx hb d_Md_keep_69 rfl (lv_at hl 1 rfl) ?_
      refine va_iast hx hb hK hP hD hS 3 0 rfl rfl (i := (nI (nv - 1))) (vp_in_nI (n := nv - 1) (N := 41) (by omega) (by decide)) d_Md_keep_70 (fun H locs hP hD hS => ?_)
      have ef358 : upd g18_350 (nI (nv - 1)).toNatClampNeg x = upd g18_350 (nv - 1) x := by rw [show (nI (nv - 1)).toNatClampNeg = nv - 1 from nI_clamp (by omega)]
      rw [ef358] at hP hD
      have hP : va_P (dC, dI) vcl [(r 7, .inl ((cT 0), 1000, .inl f7)), (r 15, .inl ((cT 0), 200, .inl f15)), (mo, .inr (12, mdG r cd tm (nI sn) (nI tx) (nI lz) (nI az) (nI (nv - 1)) (nI nt) (nI nr) mw ml mk dq)), (r 18, .inl ((cT 0), 41, .inl (upd g18_350 (nv - 1) x))), (r 19, .inl ((cT 0), 41, .inl g19_351)), (r 20, .inl ((cT 0), 41, .inl g20_352)), (r 21, .inl ((cT 0), 41, .inl g21_353)), (r 22, .inl ((cT 0), 8200, .inl g22_354)), (r 23, .inl ((cT 0), 656, .inl g23_355))] H := hP
      have hD : va_D A [(r 7, .inl ((cT 0), 1000, .inl f7)), (r 15, .inl ((cT 0), 200, .inl f15)), (mo, .inr (12, mdG r cd tm (nI sn) (nI tx) (nI lz) (nI az) (nI (nv - 1)) (nI nt) (nI nr) mw ml mk dq)), (r 18, .inl ((cT 0), 41, .inl (upd g18_350 (nv - 1) x))), (r 19, .inl ((cT 0), 41, .inl g19_351)), (r 20, .inl ((cT 0), 41, .inl g20_352)), (r 21, .inl ((cT 0), 41, .inl g21_353)), (r 22, .inl ((cT 0), 8200, .inl g22_354)), (r 23, .inl ((cT 0), 656, .inl g23_355))] := hD
      refine lv_aload_n hx hb d_Md_keep_71 rfl (lv_at hl 0 rfl) ?_
      refine va_get (D := (dC, dI)) (ci := 12) (v := (.ref (r 19))) (C := R_Md) (T := F_Md) (N := 45) hx hb hg in_Md hown hK hP 2 rfl rfl 19 (by decide) (hg _ k_1039) (fun _ h9 => h9) rfl d_Md_keep_72 ?_
      refine lv_aload_n hx hb d_Md_keep_75 rfl (lv_at hl 0 rfl) ?_
      refine va_get (D := (dC, dI)) (ci := 12) (v := (.int (nI (nv - 1)))) (C := R_Md) (T := F_Md) (N := 45) hx hb hg in_Md hown hK hP 2 rfl rfl 17 (by decide) (hg _ k_1037) (fun _ h9 => h9) rfl d_Md_keep_76 ?_
      refine lv_aload_n hx hb d_Md_keep_79 rfl (lv_at hl 0 rfl) ?_
      refine va_get (D := (dC, dI)) (ci := 12) (v := (.ref (r 7))) (C := R_Md) (T := F_Md) (N := 45) hx hb hg in_Md hown hK hP 2 rfl rfl 7 (by decide) (hg _ k_1027) (fun _ h9 => h9) rfl d_Md_keep_80 ?_
      refine lv_iconst (v := 1) hx hb d_Md_keep_83 (by decide) ?_
      refine lv_topi (fun x360 e359 => ?_)
      obtain rfl : x360 = nI 1 := by rw [e359]; rfl
      refine va_iald hx hb hK hP 0 0 rfl rfl (i := (nI 1)) (vp_in_nI (N := 1000) (by omega) (by decide)) d_Md_keep_84 ?_
      refine lv_topi (fun x361 e_x361 => ?_)
      clear e_x361
      refine va_iast hx hb hK hP hD hS 4 0 rfl rfl (i := (nI (nv - 1))) (vp_in_nI (n := nv - 1) (N := 41) (by omega) (by decide)) d_Md_keep_85 (fun H locs hP hD hS => ?_)
      have ef362 : upd g19_351 (nI (nv - 1)).toNatClampNeg x361 = upd g19_351 (nv - 1) x361 := by rw [show (nI (nv - 1)).toNatClampNeg = nv - 1 from nI_clamp (by omega)]
      rw [ef362] at hP hD
      have hP : va_P (dC, dI) vcl [(r 7, .inl ((cT 0), 1000, .inl f7)), (r 15, .inl ((cT 0), 200, .inl f15)), (mo, .inr (12, mdG r cd tm (nI sn) (nI tx) (nI lz) (nI az) (nI (nv - 1)) (nI nt) (nI nr) mw ml mk dq)), (r 18, .inl ((cT 0), 41, .inl (upd g18_350 (nv - 1) x))), (r 19, .inl ((cT 0), 41, .inl (upd g19_351 (nv - 1) x361))), (r 20, .inl ((cT 0), 41, .inl g20_352)), (r 21, .inl ((cT 0), 41, .inl g21_353)), (r 22, .inl ((cT 0), 8200, .inl g22_354)), (r 23, .inl ((cT 0), 656, .inl g23_355))] H := hP
      have hD : va_D A [(r 7, .inl ((cT 0), 1000, .inl f7)), (r 15, .inl ((cT 0), 200, .inl f15)), (mo, .inr (12, mdG r cd tm (nI sn) (nI tx) (nI lz) (nI az) (nI (nv - 1)) (nI nt) (nI nr) mw ml mk dq)), (r 18, .inl ((cT 0), 41, .inl (upd g18_350 (nv - 1) x))), (r 19, .inl ((cT 0), 41, .inl (upd g19_351 (nv - 1) x361))), (r 20, .inl ((cT 0), 41, .inl g20_352)), (r 21, .inl ((cT 0), 41, .inl g21_353)), (r 22, .inl ((cT 0), 8200, .inl g22_354)), (r 23, .inl ((cT 0), 656, .inl g23_355))] := hD
      refine lv_aload_n hx hb d_Md_keep_86 rfl (lv_at hl 0 rfl) ?_
      refine va_get (D := (dC, dI)) (ci := 12) (v := (.ref (r 20))) (C := R_Md) (T := F_Md) (N := 45) hx hb hg in_Md hown hK hP 2 rfl rfl 20 (by decide) (hg _ k_1040) (fun _ h9 => h9) rfl d_Md_keep_87 ?_
      refine lv_aload_n hx hb d_Md_keep_90 rfl (lv_at hl 0 rfl) ?_
      refine va_get (D := (dC, dI)) (ci := 12) (v := (.int (nI (nv - 1)))) (C := R_Md) (T := F_Md) (N := 45) hx hb hg in_Md hown hK hP 2 rfl rfl 17 (by decide) (hg _ k_1037) (fun _ h9 => h9) rfl d_Md_keep_91 ?_
      refine lv_aload_n hx hb d_Md_keep_94 rfl (lv_at hl 0 rfl) ?_
      refine va_get (D := (dC, dI)) (ci := 12) (v := (.int tm)) (C := R_Md) (T := F_Md) (N := 45) hx hb hg in_Md hown hK hP 2 rfl rfl 2 (by decide) (hg _ k_1022) (fun _ h9 => h9) rfl d_Md_keep_95 ?_
      refine va_iast hx hb hK hP hD hS 5 0 rfl rfl (i := (nI (nv - 1))) (vp_in_nI (n := nv - 1) (N := 41) (by omega) (by decide)) d_Md_keep_98 (fun H locs hP hD hS => ?_)
      have ef363 : upd g20_352 (nI (nv - 1)).toNatClampNeg tm = upd g20_352 (nv - 1) tm := by rw [show (nI (nv - 1)).toNatClampNeg = nv - 1 from nI_clamp (by omega)]
      rw [ef363] at hP hD
      have hP : va_P (dC, dI) vcl [(r 7, .inl ((cT 0), 1000, .inl f7)), (r 15, .inl ((cT 0), 200, .inl f15)), (mo, .inr (12, mdG r cd tm (nI sn) (nI tx) (nI lz) (nI az) (nI (nv - 1)) (nI nt) (nI nr) mw ml mk dq)), (r 18, .inl ((cT 0), 41, .inl (upd g18_350 (nv - 1) x))), (r 19, .inl ((cT 0), 41, .inl (upd g19_351 (nv - 1) x361))), (r 20, .inl ((cT 0), 41, .inl (upd g20_352 (nv - 1) tm))), (r 21, .inl ((cT 0), 41, .inl g21_353)), (r 22, .inl ((cT 0), 8200, .inl g22_354)), (r 23, .inl ((cT 0), 656, .inl g23_355))] H := hP
      have hD : va_D A [(r 7, .inl ((cT 0), 1000, .inl f7)), (r 15, .inl ((cT 0), 200, .inl f15)), (mo, .inr (12, mdG r cd tm (nI sn) (nI tx) (nI lz) (nI az) (nI (nv - 1)) (nI nt) (nI nr) mw ml mk dq)), (r 18, .inl ((cT 0), 41, .inl (upd g18_350 (nv - 1) x))), (r 19, .inl ((cT 0), 41, .inl (upd g19_351 (nv - 1) x361))), (r 20, .inl ((cT 0), 41, .inl (upd g20_352 (nv - 1) tm))), (r 21, .inl ((cT 0), 41, .inl g21_353)), (r 22, .inl ((cT 0), 8200, .inl g22_354)), (r 23, .inl ((cT 0), 656, .inl g23_355))] := hD
      refine lv_aload_n hx hb d_Md_keep_99 rfl (lv_at hl 0 rfl) ?_
      refine va_get (D := (dC, dI)) (ci := 12) (v := (.ref (r 21))) (C := R_Md) (T := F_Md) (N := 45) hx hb hg in_Md hown hK hP 2 rfl rfl 21 (by decide) (hg _ k_1041) (fun _ h9 => h9) rfl d_Md_keep_100 ?_
      refine lv_aload_n hx hb d_Md_keep_103 rfl (lv_at hl 0 rfl) ?_
      refine va_get (D := (dC, dI)) (ci := 12) (v := (.int (nI (nv - 1)))) (C := R_Md) (T := F_Md) (N := 45) hx hb hg in_Md hown hK hP 2 rfl rfl 17 (by decide) (hg _ k_1037) (fun _ h9 => h9) rfl d_Md_keep_104 ?_
      refine lv_aload_n hx hb d_Md_keep_107 rfl (lv_at hl 0 rfl) ?_
      refine va_get (D := (dC, dI)) (ci := 12) (v := (.int (nI az))) (C := R_Md) (T := F_Md) (N := 45) hx hb hg in_Md hown hK hP 2 rfl rfl 16 (by decide) (hg _ k_1036) (fun _ h9 => h9) rfl d_Md_keep_108 ?_
      refine va_iast hx hb hK hP hD hS 6 0 rfl rfl (i := (nI (nv - 1))) (vp_in_nI (n := nv - 1) (N := 41) (by omega) (by decide)) d_Md_keep_111 (fun H locs hP hD hS => ?_)
      have ef364 : upd g21_353 (nI (nv - 1)).toNatClampNeg (nI az) = upd g21_353 (nv - 1) (nI az) := by rw [show (nI (nv - 1)).toNatClampNeg = nv - 1 from nI_clamp (by omega)]
      rw [ef364] at hP hD
      have hP : va_P (dC, dI) vcl [(r 7, .inl ((cT 0), 1000, .inl f7)), (r 15, .inl ((cT 0), 200, .inl f15)), (mo, .inr (12, mdG r cd tm (nI sn) (nI tx) (nI lz) (nI az) (nI (nv - 1)) (nI nt) (nI nr) mw ml mk dq)), (r 18, .inl ((cT 0), 41, .inl (upd g18_350 (nv - 1) x))), (r 19, .inl ((cT 0), 41, .inl (upd g19_351 (nv - 1) x361))), (r 20, .inl ((cT 0), 41, .inl (upd g20_352 (nv - 1) tm))), (r 21, .inl ((cT 0), 41, .inl (upd g21_353 (nv - 1) (nI az)))), (r 22, .inl ((cT 0), 8200, .inl g22_354)), (r 23, .inl ((cT 0), 656, .inl g23_355))] H := hP
      have hD : va_D A [(r 7, .inl ((cT 0), 1000, .inl f7)), (r 15, .inl ((cT 0), 200, .inl f15)), (mo, .inr (12, mdG r cd tm (nI sn) (nI tx) (nI lz) (nI az) (nI (nv - 1)) (nI nt) (nI nr) mw ml mk dq)), (r 18, .inl ((cT 0), 41, .inl (upd g18_350 (nv - 1) x))), (r 19, .inl ((cT 0), 41, .inl (upd g19_351 (nv - 1) x361))), (r 20, .inl ((cT 0), 41, .inl (upd g20_352 (nv - 1) tm))), (r 21, .inl ((cT 0), 41, .inl (upd g21_353 (nv - 1) (nI az)))), (r 22, .inl ((cT 0), 8200, .inl g22_354)), (r 23, .inl ((cT 0), 656, .inl g23_355))] := hD
      refine lv_iconst (v := 0) hx hb d_Md_keep_112 (by decide) ?_
      refine lv_istore_n (lv' := [(2, .int 0), (0, .ref mo), (1, .int x)]) hx hb d_Md_keep_113 rfl hl (by decide) rfl (fun ls hl => ?_)
      have hl := lv_sub hl [0, 1, 2] (show _ = [(2, .int 0), (0, .ref mo), (1, .int x)] from rfl)
      have L366 : ∀ (Q : State → Prop) (exit : ∀ (g22_365 : Nat → Int32) (H : Heap) (locs : List Loc) (ls : Array Slot), va_P (dC, dI) vcl [(r 7, .inl ((cT 0), 1000, .inl f7)), (r 15, .inl ((cT 0), 200, .inl f15)), (mo, .inr (12, mdG r cd tm (nI sn) (nI tx) (nI lz) (nI az) (nI (nv - 1)) (nI nt) (nI nr) mw ml mk dq)), (r 18, .inl ((cT 0), 41, .inl (upd g18_350 (nv - 1) x))), (r 19, .inl ((cT 0), 41, .inl (upd g19_351 (nv - 1) x361))), (r 20, .inl ((cT 0), 41, .inl (upd g20_352 (nv - 1) tm))), (r 21, .inl ((cT 0), 41, .inl (upd g21_353 (nv - 1) (nI az)))), (r 22, .inl ((cT 0), 8200, .inl g22_365)), (r 23, .inl ((cT 0), 656, .inl g23_355))] H → va_D A [(r 7, .inl ((cT 0), 1000, .inl f7)), (r 15, .inl ((cT 0), 200, .inl f15)), (mo, .inr (12, mdG r cd tm (nI sn) (nI tx) (nI lz) (nI az) (nI (nv - 1)) (nI nt) (nI nr) mw ml mk dq)), (r 18, .inl ((cT 0), 41, .inl (upd g18_350 (nv - 1) x))), (r 19, .inl ((cT 0), 41, .inl (upd g19_351 (nv - 1) x361))), (r 20, .inl ((cT 0), 41, .inl (upd g20_352 (nv - 1) tm))), (r 21, .inl ((cT 0), 41, .inl (upd g21_353 (nv - 1) (nI az)))), (r 22, .inl ((cT 0), 8200, .inl g22_365)), (r 23, .inl ((cT 0), 656, .inl g23_355))] → va_S A s.heap H locs → lv_has ls 3 [(2, .int (nI az)), (0, .ref mo), (1, .int x)] → W p l e ({ frames := 2, cells := 0, slots := 0, locals := 50 } : Room) s m args below meth c H locs 0 0 Q (F0 m 149 ls [])) (j8 i : Nat) (g22_365 : Nat → Int32) (H : Heap) (locs : List Loc) (ls : Array Slot), i + j8 = az → va_P (dC, dI) vcl [(r 7, .inl ((cT 0), 1000, .inl f7)), (r 15, .inl ((cT 0), 200, .inl f15)), (mo, .inr (12, mdG r cd tm (nI sn) (nI tx) (nI lz) (nI az) (nI (nv - 1)) (nI nt) (nI nr) mw ml mk dq)), (r 18, .inl ((cT 0), 41, .inl (upd g18_350 (nv - 1) x))), (r 19, .inl ((cT 0), 41, .inl (upd g19_351 (nv - 1) x361))), (r 20, .inl ((cT 0), 41, .inl (upd g20_352 (nv - 1) tm))), (r 21, .inl ((cT 0), 41, .inl (upd g21_353 (nv - 1) (nI az)))), (r 22, .inl ((cT 0), 8200, .inl g22_365)), (r 23, .inl ((cT 0), 656, .inl g23_355))] H → va_D A [(r 7, .inl ((cT 0), 1000, .inl f7)), (r 15, .inl ((cT 0), 200, .inl f15)), (mo, .inr (12, mdG r cd tm (nI sn) (nI tx) (nI lz) (nI az) (nI (nv - 1)) (nI nt) (nI nr) mw ml mk dq)), (r 18, .inl ((cT 0), 41, .inl (upd g18_350 (nv - 1) x))), (r 19, .inl ((cT 0), 41, .inl (upd g19_351 (nv - 1) x361))), (r 20, .inl ((cT 0), 41, .inl (upd g20_352 (nv - 1) tm))), (r 21, .inl ((cT 0), 41, .inl (upd g21_353 (nv - 1) (nI az)))), (r 22, .inl ((cT 0), 8200, .inl g22_365)), (r 23, .inl ((cT 0), 656, .inl g23_355))] → va_S A s.heap H locs → lv_has ls 3 [(2, .int (nI i)), (0, .ref mo), (1, .int x)] → W p l e ({ frames := 2, cells := 0, slots := 0, locals := 50 } : Room) s m args below meth c H locs 0 0 Q (F0 m 114 ls []) := by
        intro Q exit j8
        induction j8 with
        | zero => 
          intro i g22_365 H locs ls hij  hP hD hS hl
          have hij : az = i := by omega
          refine lv_iload_n hx hb d_Md_keep_114 rfl (lv_at hl 0 rfl) ?_
          refine lv_aload_n hx hb d_Md_keep_115 rfl (lv_at hl 1 rfl) ?_
          refine va_get (D := (dC, dI)) (ci := 12) (v := (.int (nI az))) (C := R_Md) (T := F_Md) (N := 45) hx hb hg in_Md hown hK hP 2 rfl rfl 16 (by decide) (hg _ k_1036) (fun _ h9 => h9) rfl d_Md_keep_116 ?_
          refine lv_icmp_ge (tgt := 149) hx hb d_Md_keep_119 (by decide) (fun hc367 => ?_) (fun hn9 => absurd (nI_le (by omega) (by omega)) hn9)
          subst hij
          exact exit g22_365 _ _ _  hP hD hS hl
        | succ j8 ih => 
          intro i g22_365 H locs ls hij  hP hD hS hl
          have hlt : i < az := by omega
          have hlti := hlt
          refine lv_iload_n hx hb d_Md_keep_114 rfl (lv_at hl 0 rfl) ?_
          refine lv_aload_n hx hb d_Md_keep_115 rfl (lv_at hl 1 rfl) ?_
          refine va_get (D := (dC, dI)) (ci := 12) (v := (.int (nI az))) (C := R_Md) (T := F_Md) (N := 45) hx hb hg in_Md hown hK hP 2 rfl rfl 16 (by decide) (hg _ k_1036) (fun _ h9 => h9) rfl d_Md_keep_116 ?_
          refine lv_icmp_ge (tgt := 149) hx hb d_Md_keep_119 (by decide) (fun hn9 => absurd hn9 (nI_ge (by omega) (by omega))) (fun hc368 => ?_)
          refine lv_aload_n hx hb d_Md_keep_122 rfl (lv_at hl 1 rfl) ?_
          refine va_get (D := (dC, dI)) (ci := 12) (v := (.ref (r 22))) (C := R_Md) (T := F_Md) (N := 45) hx hb hg in_Md hown hK hP 2 rfl rfl 22 (by decide) (hg _ k_1042) (fun _ h9 => h9) rfl d_Md_keep_123 ?_
          refine lv_sipush (v := 200) hx hb d_Md_keep_126 (by decide) ?_
          refine lv_aload_n hx hb d_Md_keep_129 rfl (lv_at hl 1 rfl) ?_
          refine va_get (D := (dC, dI)) (ci := 12) (v := (.int (nI (nv - 1)))) (C := R_Md) (T := F_Md) (N := 45) hx hb hg in_Md hown hK hP 2 rfl rfl 17 (by decide) (hg _ k_1037) (fun _ h9 => h9) rfl d_Md_keep_130 ?_
          refine lv_imul hx hb d_Md_keep_133 ?_
          refine lv_topi (fun x370 e369 => ?_)
          obtain rfl : x370 = nI (200 * (nv - 1)) := by rw [e369]; exact pk_mul 200 (nv - 1)
          refine lv_iload_n hx hb d_Md_keep_134 rfl (lv_at hl 0 rfl) ?_
          refine lv_iadd hx hb d_Md_keep_135 ?_
          refine lv_topi (fun x372 e371 => ?_)
          obtain rfl : x372 = nI ((200 * (nv - 1)) + i) := by rw [e371]; exact nI_add (200 * (nv - 1)) i
          refine lv_aload_n hx hb d_Md_keep_136 rfl (lv_at hl 1 rfl) ?_
          refine va_get (D := (dC, dI)) (ci := 12) (v := (.ref (r 15))) (C := R_Md) (T := F_Md) (N := 45) hx hb hg in_Md hown hK hP 2 rfl rfl 15 (by decide) (hg _ k_1035) (fun _ h9 => h9) rfl d_Md_keep_137 ?_
          refine lv_iload_n hx hb d_Md_keep_140 rfl (lv_at hl 0 rfl) ?_
          refine va_iald hx hb hK hP 1 0 rfl rfl (i := (nI i)) (vp_in_nI (N := 200) (by omega) (by decide)) d_Md_keep_141 ?_
          refine lv_topi (fun x373 e_x373 => ?_)
          clear e_x373
          refine va_iast hx hb hK hP hD hS 7 0 rfl rfl (i := (nI ((200 * (nv - 1)) + i))) (vp_in_nI (n := (200 * (nv - 1)) + i) (N := 8200) (by omega) (by decide)) d_Md_keep_142 (fun H locs hP hD hS => ?_)
          have ef374 : upd g22_365 (nI ((200 * (nv - 1)) + i)).toNatClampNeg x373 = upd g22_365 ((200 * (nv - 1)) + i) x373 := by rw [show (nI ((200 * (nv - 1)) + i)).toNatClampNeg = (200 * (nv - 1)) + i from nI_clamp (by omega)]
          rw [ef374] at hP hD
          have hP : va_P (dC, dI) vcl [(r 7, .inl ((cT 0), 1000, .inl f7)), (r 15, .inl ((cT 0), 200, .inl f15)), (mo, .inr (12, mdG r cd tm (nI sn) (nI tx) (nI lz) (nI az) (nI (nv - 1)) (nI nt) (nI nr) mw ml mk dq)), (r 18, .inl ((cT 0), 41, .inl (upd g18_350 (nv - 1) x))), (r 19, .inl ((cT 0), 41, .inl (upd g19_351 (nv - 1) x361))), (r 20, .inl ((cT 0), 41, .inl (upd g20_352 (nv - 1) tm))), (r 21, .inl ((cT 0), 41, .inl (upd g21_353 (nv - 1) (nI az)))), (r 22, .inl ((cT 0), 8200, .inl (upd g22_365 ((200 * (nv - 1)) + i) x373))), (r 23, .inl ((cT 0), 656, .inl g23_355))] H := hP
          have hD : va_D A [(r 7, .inl ((cT 0), 1000, .inl f7)), (r 15, .inl ((cT 0), 200, .inl f15)), (mo, .inr (12, mdG r cd tm (nI sn) (nI tx) (nI lz) (nI az) (nI (nv - 1)) (nI nt) (nI nr) mw ml mk dq)), (r 18, .inl ((cT 0), 41, .inl (upd g18_350 (nv - 1) x))), (r 19, .inl ((cT 0), 41, .inl (upd g19_351 (nv - 1) x361))), (r 20, .inl ((cT 0), 41, .inl (upd g20_352 (nv - 1) tm))), (r 21, .inl ((cT 0), 41, .inl (upd g21_353 (nv - 1) (nI az)))), (r 22, .inl ((cT 0), 8200, .inl (upd g22_365 ((200 * (nv - 1)) + i) x373))), (r 23, .inl ((cT 0), 656, .inl g23_355))] := hD
          refine lv_iinc (k := 0) (v := nI (i + 1)) (lv' := [(2, .int (nI (i + 1))), (0, .ref mo), (1, .int x)]) hx hb d_Md_keep_143 hl rfl (nI_1 i) (by decide) rfl (fun ls hl => ?_)
          refine lv_goto (tgt := 114) hx hb d_Md_keep_146 (by decide) ?_
          have hl := lv_sub hl [0, 1, 2] (show _ = [(2, .int (nI (i + 1))), (0, .ref mo), (1, .int x)] from rfl)
          exact ih (i + 1) _ _ _ _ (by omega)  hP hD hS hl
      refine L366 _ (fun g22_365 H locs ls  hP hD hS hl => ?_) (az - 0) 0 g22_354 H _ ls (by omega)  hP hD hS hl
      refine lv_iconst (v := 0) hx hb d_Md_keep_149 (by decide) ?_
      refine lv_istore_n (lv' := [(2, .int 0), (0, .ref mo), (1, .int x)]) hx hb d_Md_keep_150 rfl hl (by decide) rfl (fun ls hl => ?_)
      have hl := lv_sub hl [0, 1, 2] (show _ = [(2, .int 0), (0, .ref mo), (1, .int x)] from rfl)
      have L376 : ∀ (Q : State → Prop) (exit : ∀ (g23_375 : Nat → Int32) (H : Heap) (locs : List Loc) (ls : Array Slot), va_P (dC, dI) vcl [(r 7, .inl ((cT 0), 1000, .inl f7)), (r 15, .inl ((cT 0), 200, .inl f15)), (mo, .inr (12, mdG r cd tm (nI sn) (nI tx) (nI lz) (nI az) (nI (nv - 1)) (nI nt) (nI nr) mw ml mk dq)), (r 18, .inl ((cT 0), 41, .inl (upd g18_350 (nv - 1) x))), (r 19, .inl ((cT 0), 41, .inl (upd g19_351 (nv - 1) x361))), (r 20, .inl ((cT 0), 41, .inl (upd g20_352 (nv - 1) tm))), (r 21, .inl ((cT 0), 41, .inl (upd g21_353 (nv - 1) (nI az)))), (r 22, .inl ((cT 0), 8200, .inl g22_365)), (r 23, .inl ((cT 0), 656, .inl g23_375))] H → va_D A [(r 7, .inl ((cT 0), 1000, .inl f7)), (r 15, .inl ((cT 0), 200, .inl f15)), (mo, .inr (12, mdG r cd tm (nI sn) (nI tx) (nI lz) (nI az) (nI (nv - 1)) (nI nt) (nI nr) mw ml mk dq)), (r 18, .inl ((cT 0), 41, .inl (upd g18_350 (nv - 1) x))), (r 19, .inl ((cT 0), 41, .inl (upd g19_351 (nv - 1) x361))), (r 20, .inl ((cT 0), 41, .inl (upd g20_352 (nv - 1) tm))), (r 21, .inl ((cT 0), 41, .inl (upd g21_353 (nv - 1) (nI az)))), (r 22, .inl ((cT 0), 8200, .inl g22_365)), (r 23, .inl ((cT 0), 656, .inl g23_375))] → va_S A s.heap H locs → lv_has ls 3 [(2, .int (nI 16)), (0, .ref mo), (1, .int x)] → W p l e ({ frames := 2, cells := 0, slots := 0, locals := 50 } : Room) s m args below meth c H locs 0 0 Q (F0 m 185 ls [])) (j8 i : Nat) (g23_375 : Nat → Int32) (H : Heap) (locs : List Loc) (ls : Array Slot), i + j8 = 16 → va_P (dC, dI) vcl [(r 7, .inl ((cT 0), 1000, .inl f7)), (r 15, .inl ((cT 0), 200, .inl f15)), (mo, .inr (12, mdG r cd tm (nI sn) (nI tx) (nI lz) (nI az) (nI (nv - 1)) (nI nt) (nI nr) mw ml mk dq)), (r 18, .inl ((cT 0), 41, .inl (upd g18_350 (nv - 1) x))), (r 19, .inl ((cT 0), 41, .inl (upd g19_351 (nv - 1) x361))), (r 20, .inl ((cT 0), 41, .inl (upd g20_352 (nv - 1) tm))), (r 21, .inl ((cT 0), 41, .inl (upd g21_353 (nv - 1) (nI az)))), (r 22, .inl ((cT 0), 8200, .inl g22_365)), (r 23, .inl ((cT 0), 656, .inl g23_375))] H → va_D A [(r 7, .inl ((cT 0), 1000, .inl f7)), (r 15, .inl ((cT 0), 200, .inl f15)), (mo, .inr (12, mdG r cd tm (nI sn) (nI tx) (nI lz) (nI az) (nI (nv - 1)) (nI nt) (nI nr) mw ml mk dq)), (r 18, .inl ((cT 0), 41, .inl (upd g18_350 (nv - 1) x))), (r 19, .inl ((cT 0), 41, .inl (upd g19_351 (nv - 1) x361))), (r 20, .inl ((cT 0), 41, .inl (upd g20_352 (nv - 1) tm))), (r 21, .inl ((cT 0), 41, .inl (upd g21_353 (nv - 1) (nI az)))), (r 22, .inl ((cT 0), 8200, .inl g22_365)), (r 23, .inl ((cT 0), 656, .inl g23_375))] → va_S A s.heap H locs → lv_has ls 3 [(2, .int (nI i)), (0, .ref mo), (1, .int x)] → W p l e ({ frames := 2, cells := 0, slots := 0, locals := 50 } : Room) s m args below meth c H locs 0 0 Q (F0 m 151 ls []) := by
        intro Q exit j8
        induction j8 with
        | zero => 
          intro i g23_375 H locs ls hij  hP hD hS hl
          have hij : 16 = i := by omega
          refine lv_iload_n hx hb d_Md_keep_151 rfl (lv_at hl 0 rfl) ?_
          refine lv_bipush (v := 16) hx hb d_Md_keep_152 (by decide) ?_
          refine lv_topi (fun x378 e377 => ?_)
          obtain rfl : x378 = nI 16 := by rw [e377]; rfl
          refine lv_icmp_ge (tgt := 185) hx hb d_Md_keep_154 (by decide) (fun hc379 => ?_) (fun hn9 => absurd (nI_le (by omega) (by omega)) hn9)
          subst hij
          exact exit g23_375 _ _ _  hP hD hS hl
        | succ j8 ih => 
          intro i g23_375 H locs ls hij  hP hD hS hl
          have hlt : i < 16 := by omega
          have hlti := hlt
          refine lv_iload_n hx hb d_Md_keep_151 rfl (lv_at hl 0 rfl) ?_
          refine lv_bipush (v := 16) hx hb d_Md_keep_152 (by decide) ?_
          refine lv_topi (fun x381 e380 => ?_)
          obtain rfl : x381 = nI 16 := by rw [e380]; rfl
          refine lv_icmp_ge (tgt := 185) hx hb d_Md_keep_154 (by decide) (fun hn9 => absurd hn9 (nI_ge (by omega) (by omega))) (fun hc382 => ?_)
          refine lv_aload_n hx hb d_Md_keep_157 rfl (lv_at hl 1 rfl) ?_
          refine va_get (D := (dC, dI)) (ci := 12) (v := (.ref (r 23))) (C := R_Md) (T := F_Md) (N := 45) hx hb hg in_Md hown hK hP 2 rfl rfl 23 (by decide) (hg _ k_1043) (fun _ h9 => h9) rfl d_Md_keep_158 ?_
          refine lv_bipush (v := 16) hx hb d_Md_keep_161 (by decide) ?_
          refine lv_aload_n hx hb d_Md_keep_163 rfl (lv_at hl 1 rfl) ?_
          refine va_get (D := (dC, dI)) (ci := 12) (v := (.int (nI (nv - 1)))) (C := R_Md) (T := F_Md) (N := 45) hx hb hg in_Md hown hK hP 2 rfl rfl 17 (by decide) (hg _ k_1037) (fun _ h9 => h9) rfl d_Md_keep_164 ?_
          refine lv_imul hx hb d_Md_keep_167 ?_
          refine lv_topi (fun x384 e383 => ?_)
          obtain rfl : x384 = nI (16 * (nv - 1)) := by rw [e383]; exact pk_mul 16 (nv - 1)
          refine lv_iload_n hx hb d_Md_keep_168 rfl (lv_at hl 0 rfl) ?_
          refine lv_iadd hx hb d_Md_keep_169 ?_
          refine lv_topi (fun x386 e385 => ?_)
          obtain rfl : x386 = nI ((16 * (nv - 1)) + i) := by rw [e385]; exact nI_add (16 * (nv - 1)) i
          refine lv_aload_n hx hb d_Md_keep_170 rfl (lv_at hl 1 rfl) ?_
          refine va_get (D := (dC, dI)) (ci := 12) (v := (.ref (r 7))) (C := R_Md) (T := F_Md) (N := 45) hx hb hg in_Md hown hK hP 2 rfl rfl 7 (by decide) (hg _ k_1027) (fun _ h9 => h9) rfl d_Md_keep_171 ?_
          refine lv_iconst (v := 4) hx hb d_Md_keep_174 (by decide) ?_
          refine lv_iload_n hx hb d_Md_keep_175 rfl (lv_at hl 0 rfl) ?_
          refine lv_iadd hx hb d_Md_keep_176 ?_
          refine lv_topi (fun x388 e387 => ?_)
          obtain rfl : x388 = nI (4 + i) := by rw [e387]; exact nI_add 4 i
          refine va_iald hx hb hK hP 0 0 rfl rfl (i := (nI (4 + i))) (vp_in_nI (N := 1000) (by omega) (by decide)) d_Md_keep_177 ?_
          refine lv_topi (fun x389 e_x389 => ?_)
          clear e_x389
          refine va_iast hx hb hK hP hD hS 8 0 rfl rfl (i := (nI ((16 * (nv - 1)) + i))) (vp_in_nI (n := (16 * (nv - 1)) + i) (N := 656) (by omega) (by decide)) d_Md_keep_178 (fun H locs hP hD hS => ?_)
          have ef390 : upd g23_375 (nI ((16 * (nv - 1)) + i)).toNatClampNeg x389 = upd g23_375 ((16 * (nv - 1)) + i) x389 := by rw [show (nI ((16 * (nv - 1)) + i)).toNatClampNeg = (16 * (nv - 1)) + i from nI_clamp (by omega)]
          rw [ef390] at hP hD
          have hP : va_P (dC, dI) vcl [(r 7, .inl ((cT 0), 1000, .inl f7)), (r 15, .inl ((cT 0), 200, .inl f15)), (mo, .inr (12, mdG r cd tm (nI sn) (nI tx) (nI lz) (nI az) (nI (nv - 1)) (nI nt) (nI nr) mw ml mk dq)), (r 18, .inl ((cT 0), 41, .inl (upd g18_350 (nv - 1) x))), (r 19, .inl ((cT 0), 41, .inl (upd g19_351 (nv - 1) x361))), (r 20, .inl ((cT 0), 41, .inl (upd g20_352 (nv - 1) tm))), (r 21, .inl ((cT 0), 41, .inl (upd g21_353 (nv - 1) (nI az)))), (r 22, .inl ((cT 0), 8200, .inl g22_365)), (r 23, .inl ((cT 0), 656, .inl (upd g23_375 ((16 * (nv - 1)) + i) x389)))] H := hP
          have hD : va_D A [(r 7, .inl ((cT 0), 1000, .inl f7)), (r 15, .inl ((cT 0), 200, .inl f15)), (mo, .inr (12, mdG r cd tm (nI sn) (nI tx) (nI lz) (nI az) (nI (nv - 1)) (nI nt) (nI nr) mw ml mk dq)), (r 18, .inl ((cT 0), 41, .inl (upd g18_350 (nv - 1) x))), (r 19, .inl ((cT 0), 41, .inl (upd g19_351 (nv - 1) x361))), (r 20, .inl ((cT 0), 41, .inl (upd g20_352 (nv - 1) tm))), (r 21, .inl ((cT 0), 41, .inl (upd g21_353 (nv - 1) (nI az)))), (r 22, .inl ((cT 0), 8200, .inl g22_365)), (r 23, .inl ((cT 0), 656, .inl (upd g23_375 ((16 * (nv - 1)) + i) x389)))] := hD
          refine lv_iinc (k := 0) (v := nI (i + 1)) (lv' := [(2, .int (nI (i + 1))), (0, .ref mo), (1, .int x)]) hx hb d_Md_keep_179 hl rfl (nI_1 i) (by decide) rfl (fun ls hl => ?_)
          refine lv_goto (tgt := 151) hx hb d_Md_keep_182 (by decide) ?_
          have hl := lv_sub hl [0, 1, 2] (show _ = [(2, .int (nI (i + 1))), (0, .ref mo), (1, .int x)] from rfl)
          exact ih (i + 1) _ _ _ _ (by omega)  hP hD hS hl
      refine L376 _ (fun g23_375 H locs ls  hP hD hS hl => ?_) (16 - 0) 0 g23_355 H _ ls (by omega)  hP hD hS hl
      refine lv_aload_n hx hb d_Md_keep_185 rfl (lv_at hl 1 rfl) ?_
      refine lv_dup hx hb d_Md_keep_186 rfl ?_
      refine va_get (D := (dC, dI)) (ci := 12) (v := (.int (nI (nv - 1)))) (C := R_Md) (T := F_Md) (N := 45) hx hb hg in_Md hown hK hP 2 rfl rfl 17 (by decide) (hg _ k_1037) (fun _ h9 => h9) rfl d_Md_keep_187 ?_
      refine lv_iconst (v := 1) hx hb d_Md_keep_190 (by decide) ?_
      refine lv_iadd hx hb d_Md_keep_191 ?_
      refine lv_topi (fun x392 e391 => ?_)
      obtain rfl : x392 = nI ((nv - 1) + 1) := by rw [e391]; exact nI_add (nv - 1) 1
      refine va_put (D := (dC, dI)) (ci := 12) (v := (.int (nI ((nv - 1) + 1)))) (ty := .int) (C := R_Md) (T := F_Md) (N := 45) hx hb hg in_Md t_Md tok_Md nm_Md hown hK hP hD hS 2 rfl rfl 17 (by decide) (hg _ k_1037) (fun _ h9 => h9) rfl (by decide +kernel) rfl rfl (Nat.le_of_ble_eq_true rfl) d_Md_keep_192 (fun H locs hP hD hS => ?_)
      have hP : va_P (dC, dI) vcl [(r 7, .inl ((cT 0), 1000, .inl f7)), (r 15, .inl ((cT 0), 200, .inl f15)), (mo, .inr (12, mdG r cd tm (nI sn) (nI tx) (nI lz) (nI az) (nI ((nv - 1) + 1)) (nI nt) (nI nr) mw ml mk dq)), (r 18, .inl ((cT 0), 41, .inl (upd g18_350 (nv - 1) x))), (r 19, .inl ((cT 0), 41, .inl (upd g19_351 (nv - 1) x361))), (r 20, .inl ((cT 0), 41, .inl (upd g20_352 (nv - 1) tm))), (r 21, .inl ((cT 0), 41, .inl (upd g21_353 (nv - 1) (nI az)))), (r 22, .inl ((cT 0), 8200, .inl g22_365)), (r 23, .inl ((cT 0), 656, .inl g23_375))] H := hP
      have hD : va_D A [(r 7, .inl ((cT 0), 1000, .inl f7)), (r 15, .inl ((cT 0), 200, .inl f15)), (mo, .inr (12, mdG r cd tm (nI sn) (nI tx) (nI lz) (nI az) (nI ((nv - 1) + 1)) (nI nt) (nI nr) mw ml mk dq)), (r 18, .inl ((cT 0), 41, .inl (upd g18_350 (nv - 1) x))), (r 19, .inl ((cT 0), 41, .inl (upd g19_351 (nv - 1) x361))), (r 20, .inl ((cT 0), 41, .inl (upd g20_352 (nv - 1) tm))), (r 21, .inl ((cT 0), 41, .inl (upd g21_353 (nv - 1) (nI az)))), (r 22, .inl ((cT 0), 8200, .inl g22_365)), (r 23, .inl ((cT 0), 656, .inl g23_375))] := hD
      have hP9 := hP.sub (ws' := [(mo, .inr (12, mdG r cd tm (nI sn) (nI tx) (nI lz) (nI az) (nI ((nv - 1) + 1)) (nI nt) (nI nr) mw ml mk dq)), (r 18, .inl ((cT 0), 41, .inl (upd g18_350 (nv - 1) x))), (r 19, .inl ((cT 0), 41, .inl (upd g19_351 (nv - 1) x361))), (r 20, .inl ((cT 0), 41, .inl (upd g20_352 (nv - 1) tm))), (r 21, .inl ((cT 0), 41, .inl (upd g21_353 (nv - 1) (nI az)))), (r 22, .inl ((cT 0), 8200, .inl g22_365)), (r 23, .inl ((cT 0), 656, .inl g23_375)), (r 7, .inl ((cT 0), 1000, .inl f7)), (r 15, .inl ((cT 0), 200, .inl f15))]) [2, 3, 4, 5, 6, 7, 8, 0, 1] rfl
      have hD9 := hD.sub (ws' := [(mo, .inr (12, mdG r cd tm (nI sn) (nI tx) (nI lz) (nI az) (nI ((nv - 1) + 1)) (nI nt) (nI nr) mw ml mk dq)), (r 18, .inl ((cT 0), 41, .inl (upd g18_350 (nv - 1) x))), (r 19, .inl ((cT 0), 41, .inl (upd g19_351 (nv - 1) x361))), (r 20, .inl ((cT 0), 41, .inl (upd g20_352 (nv - 1) tm))), (r 21, .inl ((cT 0), 41, .inl (upd g21_353 (nv - 1) (nI az)))), (r 22, .inl ((cT 0), 8200, .inl g22_365)), (r 23, .inl ((cT 0), 656, .inl g23_375)), (r 7, .inl ((cT 0), 1000, .inl f7)), (r 15, .inl ((cT 0), 200, .inl f15))]) [2, 3, 4, 5, 6, 7, 8, 0, 1] (by decide) rfl
      exact W.vret hx hb hr (fun t ht hW => ⟨⟨⟨upd g18_350 (nv - 1) x, upd g19_351 (nv - 1) x361, upd g20_352 (nv - 1) tm, upd g21_353 (nv - 1) (nI az), g22_365, g23_375, (nv - 1) + 1⟩, rfl, ⟨by omega, BD_upd (by assumption) haz⟩, by rw [ht]; exact hP9, va_K.moved hW.alike hK, hD9⟩, hS.F ht⟩) hS.2.2 d_Md_keep_195
