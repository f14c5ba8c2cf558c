theorem d_Md_has_0 : decode b_Md_has 0 = .ok (.aload_n 0, 1) := by decide +kernel
theorem d_Md_has_1 : decode b_Md_has 1 = .ok (.iload_n 1, 1) := by decide +kernel
theorem d_Md_has_2 : decode b_Md_has 2 = .ok (.invokevirtual 346, 3) := by decide +kernel
theorem d_Md_has_5 : decode b_Md_has 5 = .ok (.ifCond .lt 7, 3) := by decide +kernel
theorem d_Md_has_12 : decode b_Md_has 12 = .ok (.iconst 0, 1) := by decide +kernel
theorem d_Md_has_13 : decode b_Md_has 13 = .ok (.ireturn, 1) := by decide +kernel
theorem d_Md_has_8 : decode b_Md_has 8 = .ok (.iconst 1, 1) := by decide +kernel
theorem d_Md_has_9 : decode b_Md_has 9 = .ok (.goto 4, 3) := by decide +kernel
theorem d_Md_valueAt_0 : decode b_Md_valueAt 0 = .ok (.aload_n 0, 1) := by decide +kernel
theorem d_Md_valueAt_1 : decode b_Md_valueAt 1 = .ok (.iload_n 1, 1) := by decide +kernel
theorem d_Md_valueAt_2 : decode b_Md_valueAt 2 = .ok (.invokevirtual 346, 3) := by decide +kernel
theorem d_Md_valueAt_5 : decode b_Md_valueAt 5 = .ok (.iconst 2, 1) := by decide +kernel
theorem d_Md_valueAt_6 : decode b_Md_valueAt 6 = .ok (.iadd, 1) := by decide +kernel
theorem d_Md_valueAt_7 : decode b_Md_valueAt 7 = .ok (.ireturn, 1) := by decide +kernel
theorem d_Md_sizeOf_0 : decode b_Md_sizeOf 0 = .ok (.aload_n 0, 1) := by decide +kernel
theorem d_Md_sizeOf_1 : decode b_Md_sizeOf 1 = .ok (.getfield 154, 3) := by decide +kernel
theorem d_Md_sizeOf_4 : decode b_Md_sizeOf 4 = .ok (.aload_n 0, 1) := by decide +kernel
theorem d_Md_sizeOf_5 : decode b_Md_sizeOf 5 = .ok (.iload_n 1, 1) := by decide +kernel
theorem d_Md_sizeOf_6 : decode b_Md_sizeOf 6 = .ok (.invokevirtual 346, 3) := by decide +kernel
theorem d_Md_sizeOf_9 : decode b_Md_sizeOf 9 = .ok (.iconst 1, 1) := by decide +kernel
theorem d_Md_sizeOf_10 : decode b_Md_sizeOf 10 = .ok (.iadd, 1) := by decide +kernel
theorem d_Md_sizeOf_11 : decode b_Md_sizeOf 11 = .ok (.iaload, 1) := by decide +kernel
theorem d_Md_sizeOf_12 : decode b_Md_sizeOf 12 = .ok (.iconst 2, 1) := by decide +kernel
theorem d_Md_sizeOf_13 : decode b_Md_sizeOf 13 = .ok (.isub, 1) := by decide +kernel
theorem d_Md_sizeOf_14 : decode b_Md_sizeOf 14 = .ok (.ireturn, 1) := by decide +kernel
theorem d_Md_fourOf_0 : decode b_Md_fourOf 0 = .ok (.aload_n 0, 1) := by decide +kernel
theorem d_Md_fourOf_1 : decode b_Md_fourOf 1 = .ok (.iload_n 1, 1) := by decide +kernel
theorem d_Md_fourOf_2 : decode b_Md_fourOf 2 = .ok (.invokevirtual 353, 3) := by decide +kernel
theorem d_Md_fourOf_5 : decode b_Md_fourOf 5 = .ok (.ifCond .ne 5, 3) := by decide +kernel
theorem d_Md_fourOf_8 : decode b_Md_fourOf 8 = .ok (.lconst 0, 1) := by decide +kernel
theorem d_Md_fourOf_9 : decode b_Md_fourOf 9 = .ok (.lreturn, 1) := by decide +kernel
theorem d_Md_fourOf_10 : decode b_Md_fourOf 10 = .ok (.aload_n 0, 1) := by decide +kernel
theorem d_Md_fourOf_11 : decode b_Md_fourOf 11 = .ok (.iload_n 1, 1) := by decide +kernel
theorem d_Md_fourOf_12 : decode b_Md_fourOf 12 = .ok (.invokevirtual 356, 3) := by decide +kernel
theorem d_Md_fourOf_15 : decode b_Md_fourOf 15 = .ok (.istore_n 2, 1) := by decide +kernel
theorem d_Md_fourOf_16 : decode b_Md_fourOf 16 = .ok (.aload_n 0, 1) := by decide +kernel
theorem d_Md_fourOf_17 : decode b_Md_fourOf 17 = .ok (.getfield 154, 3) := by decide +kernel
theorem d_Md_fourOf_20 : decode b_Md_fourOf 20 = .ok (.iload_n 2, 1) := by decide +kernel
theorem d_Md_fourOf_21 : decode b_Md_fourOf 21 = .ok (.iaload, 1) := by decide +kernel
theorem d_Md_fourOf_22 : decode b_Md_fourOf 22 = .ok (.i2l, 1) := by decide +kernel
theorem d_Md_fourOf_23 : decode b_Md_fourOf 23 = .ok (.ldc2_w 282, 3) := by decide +kernel
theorem d_Md_fourOf_26 : decode b_Md_fourOf 26 = .ok (.lmul, 1) := by decide +kernel
theorem d_Md_fourOf_27 : decode b_Md_fourOf 27 = .ok (.aload_n 0, 1) := by decide +kernel
theorem d_Md_fourOf_28 : decode b_Md_fourOf 28 = .ok (.getfield 154, 3) := by decide +kernel
theorem d_Md_fourOf_31 : decode b_Md_fourOf 31 = .ok (.iload_n 2, 1) := by decide +kernel
theorem d_Md_fourOf_32 : decode b_Md_fourOf 32 = .ok (.iconst 1, 1) := by decide +kernel
theorem d_Md_fourOf_33 : decode b_Md_fourOf 33 = .ok (.iadd, 1) := by decide +kernel
theorem d_Md_fourOf_34 : decode b_Md_fourOf 34 = .ok (.iaload, 1) := by decide +kernel
theorem d_Md_fourOf_35 : decode b_Md_fourOf 35 = .ok (.i2l, 1) := by decide +kernel
theorem d_Md_fourOf_36 : decode b_Md_fourOf 36 = .ok (.ladd, 1) := by decide +kernel
theorem d_Md_fourOf_37 : decode b_Md_fourOf 37 = .ok (.ldc2_w 282, 3) := by decide +kernel
theorem d_Md_fourOf_40 : decode b_Md_fourOf 40 = .ok (.lmul, 1) := by decide +kernel
theorem d_Md_fourOf_41 : decode b_Md_fourOf 41 = .ok (.aload_n 0, 1) := by decide +kernel
theorem d_Md_fourOf_42 : decode b_Md_fourOf 42 = .ok (.getfield 154, 3) := by decide +kernel
theorem d_Md_fourOf_45 : decode b_Md_fourOf 45 = .ok (.iload_n 2, 1) := by decide +kernel
theorem d_Md_fourOf_46 : decode b_Md_fourOf 46 = .ok (.iconst 2, 1) := by decide +kernel
theorem d_Md_fourOf_47 : decode b_Md_fourOf 47 = .ok (.iadd, 1) := by decide +kernel
theorem d_Md_fourOf_48 : decode b_Md_fourOf 48 = .ok (.iaload, 1) := by decide +kernel
theorem d_Md_fourOf_49 : decode b_Md_fourOf 49 = .ok (.i2l, 1) := by decide +kernel
theorem d_Md_fourOf_50 : decode b_Md_fourOf 50 = .ok (.ladd, 1) := by decide +kernel
theorem d_Md_fourOf_51 : decode b_Md_fourOf 51 = .ok (.ldc2_w 282, 3) := by decide +kernel
theorem d_Md_fourOf_54 : decode b_Md_fourOf 54 = .ok (.lmul, 1) := by decide +kernel
theorem d_Md_fourOf_55 : decode b_Md_fourOf 55 = .ok (.aload_n 0, 1) := by decide +kernel
theorem d_Md_fourOf_56 : decode b_Md_fourOf 56 = .ok (.getfield 154, 3) := by decide +kernel
theorem d_Md_fourOf_59 : decode b_Md_fourOf 59 = .ok (.iload_n 2, 1) := by decide +kernel
theorem d_Md_fourOf_60 : decode b_Md_fourOf 60 = .ok (.iconst 3, 1) := by decide +kernel
theorem d_Md_fourOf_61 : decode b_Md_fourOf 61 = .ok (.iadd, 1) := by decide +kernel
theorem d_Md_fourOf_62 : decode b_Md_fourOf 62 = .ok (.iaload, 1) := by decide +kernel
theorem d_Md_fourOf_63 : decode b_Md_fourOf 63 = .ok (.i2l, 1) := by decide +kernel
theorem d_Md_fourOf_64 : decode b_Md_fourOf 64 = .ok (.ladd, 1) := by decide +kernel
theorem d_Md_fourOf_65 : decode b_Md_fourOf 65 = .ok (.lreturn, 1) := by decide +kernel
theorem d_Md_isKnown_0 : decode b_Md_isKnown 0 = .ok (.iload_n 0, 1) := by decide +kernel
theorem d_Md_isKnown_1 : decode b_Md_isKnown 1 = .ok (.iconst 1, 1) := by decide +kernel
theorem d_Md_isKnown_2 : decode b_Md_isKnown 2 = .ok (.if_icmp .eq 44, 3) := by decide +kernel
theorem d_Md_isKnown_46 : decode b_Md_isKnown 46 = .ok (.iconst 1, 1) := by decide +kernel
theorem d_Md_isKnown_47 : decode b_Md_isKnown 47 = .ok (.goto 4, 3) := by decide +kernel
theorem d_Md_isKnown_51 : decode b_Md_isKnown 51 = .ok (.ireturn, 1) := by decide +kernel
theorem d_Md_isKnown_5 : decode b_Md_isKnown 5 = .ok (.iload_n 0, 1) := by decide +kernel
theorem d_Md_isKnown_6 : decode b_Md_isKnown 6 = .ok (.iconst 2, 1) := by decide +kernel
theorem d_Md_isKnown_7 : decode b_Md_isKnown 7 = .ok (.if_icmp .eq 39, 3) := by decide +kernel
theorem d_Md_isKnown_10 : decode b_Md_isKnown 10 = .ok (.iload_n 0, 1) := by decide +kernel
theorem d_Md_isKnown_11 : decode b_Md_isKnown 11 = .ok (.bipush 24, 2) := by decide +kernel
theorem d_Md_isKnown_13 : decode b_Md_isKnown 13 = .ok (.if_icmp .eq 33, 3) := by decide +kernel
theorem d_Md_isKnown_16 : decode b_Md_isKnown 16 = .ok (.iload_n 0, 1) := by decide +kernel
theorem d_Md_isKnown_17 : decode b_Md_isKnown 17 = .ok (.bipush 40, 2) := by decide +kernel
theorem d_Md_isKnown_19 : decode b_Md_isKnown 19 = .ok (.if_icmp .eq 27, 3) := by decide +kernel
theorem d_Md_isKnown_22 : decode b_Md_isKnown 22 = .ok (.iload_n 0, 1) := by decide +kernel
theorem d_Md_isKnown_23 : decode b_Md_isKnown 23 = .ok (.bipush 41, 2) := by decide +kernel
theorem d_Md_isKnown_25 : decode b_Md_isKnown 25 = .ok (.if_icmp .le 9, 3) := by decide +kernel
theorem d_Md_isKnown_34 : decode b_Md_isKnown 34 = .ok (.iload_n 0, 1) := by decide +kernel
theorem d_Md_isKnown_35 : decode b_Md_isKnown 35 = .ok (.bipush 79, 2) := by decide +kernel
theorem d_Md_isKnown_37 : decode b_Md_isKnown 37 = .ok (.if_icmp .eq 9, 3) := by decide +kernel
theorem d_Md_isKnown_40 : decode b_Md_isKnown 40 = .ok (.iload_n 0, 1) := by decide +kernel
theorem d_Md_isKnown_41 : decode b_Md_isKnown 41 = .ok (.bipush 80, 2) := by decide +kernel
theorem d_Md_isKnown_43 : decode b_Md_isKnown 43 = .ok (.if_icmp .ne 7, 3) := by decide +kernel
theorem d_Md_isKnown_50 : decode b_Md_isKnown 50 = .ok (.iconst 0, 1) := by decide +kernel
theorem d_Md_isKnown_28 : decode b_Md_isKnown 28 = .ok (.iload_n 0, 1) := by decide +kernel
theorem d_Md_isKnown_29 : decode b_Md_isKnown 29 = .ok (.bipush 45, 2) := by decide +kernel
theorem d_Md_isKnown_31 : decode b_Md_isKnown 31 = .ok (.if_icmp .lt 15, 3) := by decide +kernel
theorem d_Md_findEnd_0 : decode b_Md_findEnd 0 = .ok (.bipush 20, 2) := by decide +kernel
theorem d_Md_findEnd_2 : decode b_Md_findEnd 2 = .ok (.istore_n 1, 1) := by decide +kernel
theorem d_Md_findEnd_3 : decode b_Md_findEnd 3 = .ok (.iconst 1, 1) := by decide +kernel
theorem d_Md_findEnd_4 : decode b_Md_findEnd 4 = .ok (.istore_n 2, 1) := by decide +kernel
theorem d_Md_findEnd_5 : decode b_Md_findEnd 5 = .ok (.iload_n 1, 1) := by decide +kernel
theorem d_Md_findEnd_6 : decode b_Md_findEnd 6 = .ok (.aload_n 0, 1) := by decide +kernel
theorem d_Md_findEnd_7 : decode b_Md_findEnd 7 = .ok (.getfield 297, 3) := by decide +kernel
theorem d_Md_findEnd_10 : decode b_Md_findEnd 10 = .ok (.if_icmp .ge 74, 3) := by decide +kernel
theorem d_Md_findEnd_13 : decode b_Md_findEnd 13 = .ok (.iload_n 2, 1) := by decide +kernel
theorem d_Md_findEnd_14 : decode b_Md_findEnd 14 = .ok (.ifCond .eq 70, 3) := by decide +kernel
theorem d_Md_findEnd_17 : decode b_Md_findEnd 17 = .ok (.iload_n 1, 1) := by decide +kernel
theorem d_Md_findEnd_18 : decode b_Md_findEnd 18 = .ok (.iconst 1, 1) := by decide +kernel
theorem d_Md_findEnd_19 : decode b_Md_findEnd 19 = .ok (.iadd, 1) := by decide +kernel
theorem d_Md_findEnd_20 : decode b_Md_findEnd 20 = .ok (.aload_n 0, 1) := by decide +kernel
theorem d_Md_findEnd_21 : decode b_Md_findEnd 21 = .ok (.getfield 297, 3) := by decide +kernel
theorem d_Md_findEnd_24 : decode b_Md_findEnd 24 = .ok (.if_icmp .ge 36, 3) := by decide +kernel
theorem d_Md_findEnd_60 : decode b_Md_findEnd 60 = .ok (.iconst 0, 1) := by decide +kernel
theorem d_Md_findEnd_61 : decode b_Md_findEnd 61 = .ok (.istore_n 2, 1) := by decide +kernel
theorem d_Md_findEnd_62 : decode b_Md_findEnd 62 = .ok (.iload_n 1, 1) := by decide +kernel
theorem d_Md_findEnd_63 : decode b_Md_findEnd 63 = .ok (.iload_n 2, 1) := by decide +kernel
theorem d_Md_findEnd_64 : decode b_Md_findEnd 64 = .ok (.ifCond .eq 14, 3) := by decide +kernel
theorem d_Md_findEnd_78 : decode b_Md_findEnd 78 = .ok (.iconst 0, 1) := by decide +kernel
theorem d_Md_findEnd_79 : decode b_Md_findEnd 79 = .ok (.iadd, 1) := by decide +kernel
theorem d_Md_findEnd_80 : decode b_Md_findEnd 80 = .ok (.istore_n 1, 1) := by decide +kernel
theorem d_Md_findEnd_81 : decode b_Md_findEnd 81 = .ok (.goto (-76), 3) := by decide +kernel
theorem d_Md_findEnd_27 : decode b_Md_findEnd 27 = .ok (.aload_n 0, 1) := by decide +kernel
theorem d_Md_findEnd_28 : decode b_Md_findEnd 28 = .ok (.getfield 154, 3) := by decide +kernel
theorem d_Md_findEnd_31 : decode b_Md_findEnd 31 = .ok (.iload_n 1, 1) := by decide +kernel
theorem d_Md_findEnd_32 : decode b_Md_findEnd 32 = .ok (.iconst 1, 1) := by decide +kernel
theorem d_Md_findEnd_33 : decode b_Md_findEnd 33 = .ok (.iadd, 1) := by decide +kernel
theorem d_Md_findEnd_34 : decode b_Md_findEnd 34 = .ok (.iaload, 1) := by decide +kernel
theorem d_Md_findEnd_35 : decode b_Md_findEnd 35 = .ok (.iconst 2, 1) := by decide +kernel
theorem d_Md_findEnd_36 : decode b_Md_findEnd 36 = .ok (.if_icmp .le 24, 3) := by decide +kernel
theorem d_Md_findEnd_39 : decode b_Md_findEnd 39 = .ok (.iload_n 1, 1) := by decide +kernel
theorem d_Md_findEnd_40 : decode b_Md_findEnd 40 = .ok (.aload_n 0, 1) := by decide +kernel
theorem d_Md_findEnd_41 : decode b_Md_findEnd 41 = .ok (.getfield 154, 3) := by decide +kernel
theorem d_Md_findEnd_44 : decode b_Md_findEnd 44 = .ok (.iload_n 1, 1) := by decide +kernel
theorem d_Md_findEnd_45 : decode b_Md_findEnd 45 = .ok (.iconst 1, 1) := by decide +kernel
theorem d_Md_findEnd_46 : decode b_Md_findEnd 46 = .ok (.iadd, 1) := by decide +kernel
theorem d_Md_findEnd_47 : decode b_Md_findEnd 47 = .ok (.iaload, 1) := by decide +kernel
theorem d_Md_findEnd_48 : decode b_Md_findEnd 48 = .ok (.iadd, 1) := by decide +kernel
theorem d_Md_findEnd_49 : decode b_Md_findEnd 49 = .ok (.aload_n 0, 1) := by decide +kernel
theorem d_Md_findEnd_50 : decode b_Md_findEnd 50 = .ok (.getfield 297, 3) := by decide +kernel
theorem d_Md_findEnd_53 : decode b_Md_findEnd 53 = .ok (.if_icmp .gt 7, 3) := by decide +kernel
theorem d_Md_findEnd_56 : decode b_Md_findEnd 56 = .ok (.iconst 1, 1) := by decide +kernel
theorem d_Md_findEnd_57 : decode b_Md_findEnd 57 = .ok (.goto 4, 3) := by decide +kernel
theorem d_Md_findEnd_67 : decode b_Md_findEnd 67 = .ok (.aload_n 0, 1) := by decide +kernel
theorem d_Md_findEnd_68 : decode b_Md_findEnd 68 = .ok (.getfield 154, 3) := by decide +kernel
theorem d_Md_findEnd_71 : decode b_Md_findEnd 71 = .ok (.iload_n 1, 1) := by decide +kernel
theorem d_Md_findEnd_72 : decode b_Md_findEnd 72 = .ok (.iconst 1, 1) := by decide +kernel
theorem d_Md_findEnd_73 : decode b_Md_findEnd 73 = .ok (.iadd, 1) := by decide +kernel
theorem d_Md_findEnd_74 : decode b_Md_findEnd 74 = .ok (.iaload, 1) := by decide +kernel
theorem d_Md_findEnd_75 : decode b_Md_findEnd 75 = .ok (.goto 4, 3) := by decide +kernel
theorem d_Md_findEnd_84 : decode b_Md_findEnd 84 = .ok (.iload_n 2, 1) := by decide +kernel
theorem d_Md_findEnd_85 : decode b_Md_findEnd 85 = .ok (.ireturn, 1) := by decide +kernel
theorem d_Md_isWhole_0 : decode b_Md_isWhole 0 = .ok (.aload_n 0, 1) := by decide +kernel
theorem d_Md_isWhole_1 : decode b_Md_isWhole 1 = .ok (.getfield 297, 3) := by decide +kernel
theorem d_Md_isWhole_4 : decode b_Md_isWhole 4 = .ok (.bipush 20, 2) := by decide +kernel
theorem d_Md_isWhole_6 : decode b_Md_isWhole 6 = .ok (.if_icmp .lt 41, 3) := by decide +kernel
theorem d_Md_isWhole_47 : decode b_Md_isWhole 47 = .ok (.iconst 0, 1) := by decide +kernel
theorem d_Md_isWhole_48 : decode b_Md_isWhole 48 = .ok (.istore_n 1, 1) := by decide +kernel
theorem d_Md_isWhole_49 : decode b_Md_isWhole 49 = .ok (.iconst 0, 1) := by decide +kernel
theorem d_Md_isWhole_50 : decode b_Md_isWhole 50 = .ok (.istore_n 2, 1) := by decide +kernel
theorem d_Md_isWhole_51 : decode b_Md_isWhole 51 = .ok (.iload_n 2, 1) := by decide +kernel
theorem d_Md_isWhole_52 : decode b_Md_isWhole 52 = .ok (.sipush 256, 3) := by decide +kernel
theorem d_Md_isWhole_55 : decode b_Md_isWhole 55 = .ok (.if_icmp .ge 36, 3) := by decide +kernel
theorem d_Md_isWhole_58 : decode b_Md_isWhole 58 = .ok (.iload_n 1, 1) := by decide +kernel
theorem d_Md_isWhole_59 : decode b_Md_isWhole 59 = .ok (.ifCond .eq 32, 3) := by decide +kernel
theorem d_Md_isWhole_62 : decode b_Md_isWhole 62 = .ok (.iload_n 2, 1) := by decide +kernel
theorem d_Md_isWhole_63 : decode b_Md_isWhole 63 = .ok (.invokestatic 343, 3) := by decide +kernel
theorem d_Md_isWhole_66 : decode b_Md_isWhole 66 = .ok (.ifCond .eq 13, 3) := by decide +kernel
theorem d_Md_isWhole_79 : decode b_Md_isWhole 79 = .ok (.iconst 1, 1) := by decide +kernel
theorem d_Md_isWhole_80 : decode b_Md_isWhole 80 = .ok (.goto 4, 3) := by decide +kernel
theorem d_Md_isWhole_84 : decode b_Md_isWhole 84 = .ok (.istore_n 1, 1) := by decide +kernel
theorem d_Md_isWhole_85 : decode b_Md_isWhole 85 = .ok (.iinc 2 1, 3) := by decide +kernel
theorem d_Md_isWhole_88 : decode b_Md_isWhole 88 = .ok (.goto (-37), 3) := by decide +kernel
theorem d_Md_isWhole_69 : decode b_Md_isWhole 69 = .ok (.aload_n 0, 1) := by decide +kernel
theorem d_Md_isWhole_70 : decode b_Md_isWhole 70 = .ok (.iload_n 2, 1) := by decide +kernel
theorem d_Md_isWhole_71 : decode b_Md_isWhole 71 = .ok (.invokevirtual 346, 3) := by decide +kernel
theorem d_Md_isWhole_74 : decode b_Md_isWhole 74 = .ok (.bipush (-2), 2) := by decide +kernel
theorem d_Md_isWhole_76 : decode b_Md_isWhole 76 = .ok (.if_icmp .eq 7, 3) := by decide +kernel
theorem d_Md_isWhole_83 : decode b_Md_isWhole 83 = .ok (.iconst 0, 1) := by decide +kernel
theorem d_Md_isWhole_91 : decode b_Md_isWhole 91 = .ok (.iload_n 1, 1) := by decide +kernel
theorem d_Md_isWhole_92 : decode b_Md_isWhole 92 = .ok (.ifCond .eq 14, 3) := by decide +kernel
theorem d_Md_isWhole_106 : decode b_Md_isWhole 106 = .ok (.iconst 0, 1) := by decide +kernel
theorem d_Md_isWhole_107 : decode b_Md_isWhole 107 = .ok (.ireturn, 1) := by decide +kernel
theorem d_Md_isWhole_95 : decode b_Md_isWhole 95 = .ok (.aload_n 0, 1) := by decide +kernel
theorem d_Md_isWhole_96 : decode b_Md_isWhole 96 = .ok (.invokevirtual 349, 3) := by decide +kernel
theorem d_Md_isWhole_99 : decode b_Md_isWhole 99 = .ok (.ifCond .eq 7, 3) := by decide +kernel
theorem d_Md_isWhole_102 : decode b_Md_isWhole 102 = .ok (.iconst 1, 1) := by decide +kernel
theorem d_Md_isWhole_103 : decode b_Md_isWhole 103 = .ok (.goto 4, 3) := by decide +kernel
theorem d_Md_isWhole_9 : decode b_Md_isWhole 9 = .ok (.aload_n 0, 1) := by decide +kernel
theorem d_Md_isWhole_10 : decode b_Md_isWhole 10 = .ok (.getfield 297, 3) := by decide +kernel
theorem d_Md_isWhole_13 : decode b_Md_isWhole 13 = .ok (.sipush 1000, 3) := by decide +kernel
theorem d_Md_isWhole_16 : decode b_Md_isWhole 16 = .ok (.if_icmp .gt 31, 3) := by decide +kernel
theorem d_Md_isWhole_19 : decode b_Md_isWhole 19 = .ok (.sipush 256, 3) := by decide +kernel
theorem d_Md_isWhole_22 : decode b_Md_isWhole 22 = .ok (.aload_n 0, 1) := by decide +kernel
theorem d_Md_isWhole_23 : decode b_Md_isWhole 23 = .ok (.getfield 154, 3) := by decide +kernel
theorem d_Md_isWhole_26 : decode b_Md_isWhole 26 = .ok (.iconst 2, 1) := by decide +kernel
theorem d_Md_isWhole_27 : decode b_Md_isWhole 27 = .ok (.iaload, 1) := by decide +kernel
theorem d_Md_isWhole_28 : decode b_Md_isWhole 28 = .ok (.imul, 1) := by decide +kernel
theorem d_Md_isWhole_29 : decode b_Md_isWhole 29 = .ok (.aload_n 0, 1) := by decide +kernel
theorem d_Md_isWhole_30 : decode b_Md_isWhole 30 = .ok (.getfield 154, 3) := by decide +kernel
theorem d_Md_isWhole_33 : decode b_Md_isWhole 33 = .ok (.iconst 3, 1) := by decide +kernel
theorem d_Md_isWhole_34 : decode b_Md_isWhole 34 = .ok (.iaload, 1) := by decide +kernel
theorem d_Md_isWhole_35 : decode b_Md_isWhole 35 = .ok (.iadd, 1) := by decide +kernel
theorem d_Md_isWhole_36 : decode b_Md_isWhole 36 = .ok (.aload_n 0, 1) := by decide +kernel
theorem d_Md_isWhole_37 : decode b_Md_isWhole 37 = .ok (.getfield 297, 3) := by decide +kernel
theorem d_Md_isWhole_40 : decode b_Md_isWhole 40 = .ok (.if_icmp .ne 7, 3) := by decide +kernel
theorem d_Md_isWhole_43 : decode b_Md_isWhole 43 = .ok (.iconst 1, 1) := by decide +kernel
theorem d_Md_isWhole_44 : decode b_Md_isWhole 44 = .ok (.goto 4, 3) := by decide +kernel
theorem d_Md_isDigestAt_0 : decode b_Md_isDigestAt 0 = .ok (.iconst 1, 1) := by decide +kernel
theorem d_Md_isDigestAt_1 : decode b_Md_isDigestAt 1 = .ok (.istore_n 2, 1) := by decide +kernel
theorem d_Md_isDigestAt_2 : decode b_Md_isDigestAt 2 = .ok (.iconst 0, 1) := by decide +kernel
theorem d_Md_isDigestAt_3 : decode b_Md_isDigestAt 3 = .ok (.istore_n 3, 1) := by decide +kernel
theorem d_Md_isDigestAt_4 : decode b_Md_isDigestAt 4 = .ok (.iload_n 3, 1) := by decide +kernel
theorem d_Md_isDigestAt_5 : decode b_Md_isDigestAt 5 = .ok (.bipush 16, 2) := by decide +kernel
theorem d_Md_isDigestAt_7 : decode b_Md_isDigestAt 7 = .ok (.if_icmp .ge 36, 3) := by decide +kernel
theorem d_Md_isDigestAt_10 : decode b_Md_isDigestAt 10 = .ok (.iload_n 2, 1) := by decide +kernel
theorem d_Md_isDigestAt_11 : decode b_Md_isDigestAt 11 = .ok (.ifCond .eq 24, 3) := by decide +kernel
theorem d_Md_isDigestAt_35 : decode b_Md_isDigestAt 35 = .ok (.iconst 0, 1) := by decide +kernel
theorem d_Md_isDigestAt_36 : decode b_Md_isDigestAt 36 = .ok (.istore_n 2, 1) := by decide +kernel
theorem d_Md_isDigestAt_37 : decode b_Md_isDigestAt 37 = .ok (.iinc 3 1, 3) := by decide +kernel
theorem d_Md_isDigestAt_40 : decode b_Md_isDigestAt 40 = .ok (.goto (-36), 3) := by decide +kernel
theorem d_Md_isDigestAt_14 : decode b_Md_isDigestAt 14 = .ok (.aload_n 0, 1) := by decide +kernel
theorem d_Md_isDigestAt_15 : decode b_Md_isDigestAt 15 = .ok (.getfield 154, 3) := by decide +kernel
theorem d_Md_isDigestAt_18 : decode b_Md_isDigestAt 18 = .ok (.iload_n 1, 1) := by decide +kernel
theorem d_Md_isDigestAt_19 : decode b_Md_isDigestAt 19 = .ok (.iload_n 3, 1) := by decide +kernel
theorem d_Md_isDigestAt_20 : decode b_Md_isDigestAt 20 = .ok (.iadd, 1) := by decide +kernel
theorem d_Md_isDigestAt_21 : decode b_Md_isDigestAt 21 = .ok (.iaload, 1) := by decide +kernel
theorem d_Md_isDigestAt_22 : decode b_Md_isDigestAt 22 = .ok (.aload_n 0, 1) := by decide +kernel
theorem d_Md_isDigestAt_23 : decode b_Md_isDigestAt 23 = .ok (.getfield 160, 3) := by decide +kernel
theorem d_Md_isDigestAt_26 : decode b_Md_isDigestAt 26 = .ok (.iload_n 3, 1) := by decide +kernel
theorem d_Md_isDigestAt_27 : decode b_Md_isDigestAt 27 = .ok (.iaload, 1) := by decide +kernel
theorem d_Md_isDigestAt_28 : decode b_Md_isDigestAt 28 = .ok (.if_icmp .ne 7, 3) := by decide +kernel
theorem d_Md_isDigestAt_31 : decode b_Md_isDigestAt 31 = .ok (.iconst 1, 1) := by decide +kernel
theorem d_Md_isDigestAt_32 : decode b_Md_isDigestAt 32 = .ok (.goto 4, 3) := by decide +kernel
theorem d_Md_isDigestAt_43 : decode b_Md_isDigestAt 43 = .ok (.iload_n 2, 1) := by decide +kernel
theorem d_Md_isDigestAt_44 : decode b_Md_isDigestAt 44 = .ok (.ireturn, 1) := by decide +kernel
set_option maxHeartbeats 4000000 in
set_option maxRecDepth 100000 in
/-- has -/
theorem m_has (l : Launch) (dC : Nat → ClassId) (dI : Nat → Nat → Nat) (cT : Nat → ClassId) (sz : Nat) (mo : Nat) (r : Nat → Nat) (cd : Int32) (tm : Int32) (sn : Nat) (tx : Nat) (lz : Nat) (az : Nat) (na : Nat) (nt : Nat) (nr : Nat) (mw : Int32) (ml : Int32) (mk : Int64) (dq : Int64) (f7 : Nat → Int32) (x : Int32) (h20 : 20 ≤ sn) (hsn : sn ≤ 1000) (h7 : AB f7) : Met l y_Md_has (Cond.code y_Md_has b_Md_has 2 (Option.some Jvm.ClassFile.FieldType.boolean) :: BIG) ({ frames := 2, cells := 0, slots := 0, locals := 46 }) (va_Pc [.ref mo, .int x] (fun U => U.heap.size = sz ∧ va_P (dC, dI) vcl [(mo, .inr (12, mdG r cd tm (nI sn) (nI tx) (nI lz) (nI az) (nI na) (nI nt) (nI nr) mw ml mk dq)), (r 7, .inl ((cT 0), 1000, .inl f7))] U.heap ∧ va_K (dC, dI) vcl (tyL cT) U ∧ va_D (fun _ => True) [(mo, .inr (12, mdG r cd tm (nI sn) (nI tx) (nI lz) (nI az) (nI na) (nI nt) (nI nr) mw ml mk dq)), (r 7, .inl ((cT 0), 1000, .inl f7))])) (va_Qi (S := Unit) (fun rv9 u => (rv9 = 0 ∧ MFV f7 sn x < 0) ∨ (rv9 = 1 ∧ ∃ a n : Nat, HA f7 sn x (MFV f7 sn x) a n)) (fun u t => va_P (dC, dI) vcl [(mo, .inr (12, mdG r cd tm (nI sn) (nI tx) (nI lz) (nI az) (nI na) (nI nt) (nI nr) mw ml mk dq)), (r 7, .inl ((cT 0), 1000, .inl f7))] t.heap ∧ va_K (dC, dI) vcl (tyL cT) t ∧ va_D (va_A [(mo, .inr (12, mdG r cd tm (nI sn) (nI tx) (nI lz) (nI az) (nI na) (nI nt) (nI nr) mw ml mk dq)), (r 7, .inl ((cT 0), 1000, .inl f7))] sz) [(mo, .inr (12, mdG r cd tm (nI sn) (nI tx) (nI lz) (nI az) (nI na) (nI nt) (nI nr) mw ml mk dq)), (r 7, .inl ((cT 0), 1000, .inl f7))]) (va_A [(mo, .inr (12, mdG r cd tm (nI sn) (nI tx) (nI lz) (nI az) (nI na) (nI nt) (nI nr) mw ml mk dq)), (r 7, .inl ((cT 0), 1000, .inl f7))] sz)) 0 0 (va_A [(mo, .inr (12, mdG r cd tm (nI sn) (nI tx) (nI lz) (nI az) (nI na) (nI nt) (nI nr) mw ml mk dq)), (r 7, .inl ((cT 0), 1000, .inl f7))] sz) := by
  refine Met.ofW (cc := b_Md_has) (maxL := 2) (ret := (Option.some Jvm.ClassFile.FieldType.boolean)) (by decide) rfl ?_
  intro p e s m args below meth c s₁ B hml hv
  obtain ⟨hargs, hsz, hP, hK, hD0⟩ := hv
  have hx := B.exec
  have hb := B.bytes
  have hr := B.returns
  have hts := atoms_spec (ws := (Cond.code y_Md_has b_Md_has 2 (Option.some Jvm.ClassFile.FieldType.boolean) :: BIG)) B.pre
  have hg : ∀ w ∈ BIG, w.before _ s = true := fun w h => hts w (List.mem_cons_of_mem _ h)
  have hown : s.vm.findClass "DoorServerModel" = some m.cls := findClass_of_methodNamed B.named
  have hlocks := B.notSynchronized
  subst hsz
  have hD := hD0.self (sz := s.heap.size)
  generalize hAe : va_A [(mo, .inr (12, mdG r cd tm (nI sn) (nI tx) (nI lz) (nI az) (nI na) (nI nt) (nI nr) mw ml mk dq)), (r 7, .inl ((cT 0), 1000, .inl f7))] s.heap.size = A at hD ⊢
  have hA : ∀ q : Nat, s.heap.size ≤ q → A q := fun q h => by rw [← hAe]; exact Or.inr h
  have hS : va_S A s.heap s.heap [] := va_S.rf
  have hl := lv_entry ([.ref mo, .int x]) (n := 2) (Nat.le_of_ble_eq_true rfl)
  refine W.eq (g2 := entryFrame m (List.toArray [.ref mo, .int x]) 2) (by rw [hargs]) ?_
  rw [lg_entry_eq]
  generalize (lg_sl ([.ref mo, .int x]) ++ List.replicate (2 - (lg_sl ([.ref mo, .int x])).length) Slot.unset).toArray = ls at hl ⊢
  have hl : lv_has ls 2 [(0, .ref mo), (1, .int x)] := hl
  change W p l e ({ frames := 2, cells := 0, slots := 0, locals := 46 } : Room) s m args below meth c s.heap [] 0 0 _ _
  have hP : va_P (dC, dI) vcl [(mo, .inr (12, mdG r cd tm (nI sn) (nI tx) (nI lz) (nI az) (nI na) (nI nt) (nI nr) mw ml mk dq)), (r 7, .inl ((cT 0), 1000, .inl f7))] s.heap := hP
  refine lv_aload_n hx hb d_Md_has_0 rfl (lv_at hl 0 rfl) ?_
  refine lv_iload_n hx hb d_Md_has_1 rfl (lv_at hl 1 rfl) ?_
  have hPc := hP.sub (ws' := [(mo, .inr (12, mdG r cd tm (nI sn) (nI tx) (nI lz) (nI az) (nI na) (nI nt) (nI nr) mw ml mk dq)), (r 7, .inl ((cT 0), 1000, .inl f7))]) [0, 1] rfl
  have hDc := hD.sub (ws' := [(mo, .inr (12, mdG r cd tm (nI sn) (nI tx) (nI lz) (nI az) (nI na) (nI nt) (nI nr) mw ml mk dq)), (r 7, .inl ((cT 0), 1000, .inl f7))]) [0, 1] (by decide) rfl
  have hFc := va_free (wc := [(mo, .inr (12, mdG r cd tm (nI sn) (nI tx) (nI lz) (nI az) (nI na) (nI nt) (nI nr) mw ml mk dq)), (r 7, .inl ((cT 0), 1000, .inl f7))]) hD hS hA [0, 1] rfl
  refine va_calli (va_runV (C := "DoorServerModel") (As := [.int x]) (rest := []) ⟨hx, hb, hml, hown, hg⟩ (m_find l dC dI cT s.heap.size mo r cd tm sn tx lz az na nt nr mw ml mk dq f7 x (by first | assumption | omega) (by first | assumption | omega) (by first | assumption | omega)) (cwV 1 hg (gI (List.forall_mem_append.mpr ⟨List.forall_mem_cons.mpr ⟨k_1294, List.forall_mem_cons.mpr ⟨k_1296, List.forall_mem_cons.mpr ⟨(big_sel (q := y_Md_find) (n := 45) (by decide +kernel)), List.forall_mem_cons.mpr ⟨k_13, fun _ h => absurd h List.not_mem_nil⟩⟩⟩⟩, List.forall_mem_cons.mpr ⟨k_1297, fun _ h => h⟩⟩)) rfl rfl rfl (by decide +kernel) ⟨Nat.le_of_ble_eq_true rfl, Nat.le_of_ble_eq_true rfl⟩) ⟨fun a U g mk q => by obtain ⟨q0, q1, qP, qK, qD⟩ := q; exact ⟨q0, q1, qP, va_K.moved (u := U) (U := U.calling g mk a) (Vm.Alike.refl U.vm) qK, qD⟩, va_recv (q0 := 0) (ci := 12) hK hP rfl rfl, fun U hU hW => ⟨rfl, by rw [hU], by rw [hU]; exact hPc, va_K.moved hW.alike hK, hDc.weaken (fun _ _ _ _ => trivial)⟩⟩ rfl rfl hl.1 rfl (lv_room (Nat.le_of_ble_eq_true rfl)) d_Md_has_2 ⟨Nat.le_of_ble_eq_true rfl, Nat.le_of_ble_eq_true rfl⟩) hS (fun q _ h => hFc q h) hFc (fun rv9 u t H1 locs ht hvm hw hB hz1 hk1 hS => ?_)
  try dsimp only at hw hB
  obtain ⟨hP1, hK1, hD1⟩ := hB
  rw [ht] at hP1
  generalize rv9 = r1 at hw ⊢
  obtain ⟨hP, hD⟩ := va_join (wr := []) (w1 := [(mo, .inr (12, mdG r cd tm (nI sn) (nI tx) (nI lz) (nI az) (nI na) (nI nt) (nI nr) mw ml mk dq)), (r 7, .inl ((cT 0), 1000, .inl f7))]) hP hD [0, 1] [] rfl rfl (by decide) (by decide) hk1 hFc hP1 hD1
  have hw2 := hw
  clear hPc hDc hFc hz1 hk1 hP1 hK1 hD1
  generalize H1 = H at hP hS ⊢
  have hP : va_P (dC, dI) vcl [(mo, .inr (12, mdG r cd tm (nI sn) (nI tx) (nI lz) (nI az) (nI na) (nI nt) (nI nr) mw ml mk dq)), (r 7, .inl ((cT 0), 1000, .inl f7))] H := hP
  have hD : va_D A [(mo, .inr (12, mdG r cd tm (nI sn) (nI tx) (nI lz) (nI az) (nI na) (nI nt) (nI nr) mw ml mk dq)), (r 7, .inl ((cT 0), 1000, .inl f7))] := hD
  obtain ⟨k3, k4⟩ := hw2
  rcases k4 with h8 | h8 | ⟨a, n, h8⟩
  · skip
    refine lv_topi (fun x6 e5 => ?_)
    obtain rfl : x6 = (-2) := by rw [e5]; exact h8
    rw [h8] at k3
    refine lv_if_lt (tgt := 12) hx hb d_Md_has_5 (by decide) (fun hc7 => ?_) (fun hn9 => absurd (by decide) hn9)
    refine lv_iconst (v := 0) hx hb d_Md_has_12 (by decide) ?_
    have hP9 := hP.sub (ws' := [(mo, .inr (12, mdG r cd tm (nI sn) (nI tx) (nI lz) (nI az) (nI na) (nI nt) (nI nr) mw ml mk dq)), (r 7, .inl ((cT 0), 1000, .inl f7))]) [0, 1] rfl
    have hD9 := hD.sub (ws' := [(mo, .inr (12, mdG r cd tm (nI sn) (nI tx) (nI lz) (nI az) (nI na) (nI nt) (nI nr) mw ml mk dq)), (r 7, .inl ((cT 0), 1000, .inl f7))]) [0, 1] (by decide) rfl
    exact W.zret (v := 0) hx hb hr (by first | rfl | decide) (fun t ht hW => ⟨⟨_, (), rfl, Or.inl ⟨rfl, by rw [← k3]; decide⟩, by rw [ht]; exact hP9, va_K.moved hW.alike hK, hD9⟩, hS.F ht⟩) hS.2.2 d_Md_has_13
  · skip
    refine lv_topi (fun x9 e8 => ?_)
    obtain rfl : x9 = (-1) := by rw [e8]; exact h8
    rw [h8] at k3
    refine lv_if_lt (tgt := 12) hx hb d_Md_has_5 (by decide) (fun hc10 => ?_) (fun hn9 => absurd (by decide) hn9)
    refine lv_iconst (v := 0) hx hb d_Md_has_12 (by decide) ?_
    have hP9 := hP.sub (ws' := [(mo, .inr (12, mdG r cd tm (nI sn) (nI tx) (nI lz) (nI az) (nI na) (nI nt) (nI nr) mw ml mk dq)), (r 7, .inl ((cT 0), 1000, .inl f7))]) [0, 1] rfl
    have hD9 := hD.sub (ws' := [(mo, .inr (12, mdG r cd tm (nI sn) (nI tx) (nI lz) (nI az) (nI na) (nI nt) (nI nr) mw ml mk dq)), (r 7, .inl ((cT 0), 1000, .inl f7))]) [0, 1] (by decide) rfl
    exact W.zret (v := 0) hx hb hr (by first | rfl | decide) (fun t ht hW => ⟨⟨_, (), rfl, Or.inl ⟨rfl, by rw [← k3]; decide⟩, by rw [ht]; exact hP9, va_K.moved hW.alike hK, hD9⟩, hS.F ht⟩) hS.2.2 d_Md_has_13
  · skip
    have hb20 := h8.2.1; have hb21 := h8.2.2.2.1
    refine lv_topi (fun x12 e11 => ?_)
    obtain rfl : x12 = nI a := by rw [e11]; exact h8.1
    refine lv_if_lt (tgt := 12) hx hb d_Md_has_5 (by decide) (fun hn9 => absurd hn9 (nI_pos (by omega))) (fun hc13 => ?_)
    refine lv_iconst (v := 1) hx hb d_Md_has_8 (by decide) ?_
    refine lv_goto (tgt := 13) hx hb d_Md_has_9 (by decide) ?_
    have hP9 := hP.sub (ws' := [(mo, .inr (12, mdG r cd tm (nI sn) (nI tx) (nI lz) (nI az) (nI na) (nI nt) (nI nr) mw ml mk dq)), (r 7, .inl ((cT 0), 1000, .inl f7))]) [0, 1] rfl
    have hD9 := hD.sub (ws' := [(mo, .inr (12, mdG r cd tm (nI sn) (nI tx) (nI lz) (nI az) (nI na) (nI nt) (nI nr) mw ml mk dq)), (r 7, .inl ((cT 0), 1000, .inl f7))]) [0, 1] (by decide) rfl
    exact W.zret (v := 1) hx hb hr (by first | rfl | decide) (fun t ht hW => ⟨⟨_, (), rfl, Or.inr ⟨rfl, a, n, by rw [← k3]; exact h8⟩, by rw [ht]; exact hP9, va_K.moved hW.alike hK, hD9⟩, hS.F ht⟩) hS.2.2 d_Md_has_13
set_option maxHeartbeats 4000000 in
set_option maxRecDepth 100000 in
/-- valueAt -/
theorem m_valueAt (l : Launch) (dC : Nat → ClassId) (dI : Nat → Nat → Nat) (cT : Nat → ClassId) (sz : Nat) (mo : Nat) (r : Nat → Nat) (cd : Int32) (tm : Int32) (sn : Nat) (tx : Nat) (lz : Nat) (az : Nat) (na : Nat) (nt : Nat) (nr : Nat) (mw : Int32) (ml : Int32) (mk : Int64) (dq : Int64) (f7 : Nat → Int32) (x : Int32) (pa : Nat) (pn : Nat) (h20 : 20 ≤ sn) (hsn : sn ≤ 1000) (h7 : AB f7) (hh : HA f7 sn x (MFV f7 sn x) pa pn) : Met l y_Md_valueAt (Cond.code y_Md_valueAt b_Md_valueAt 2 (Option.some Jvm.ClassFile.FieldType.int) :: BIG) ({ frames := 2, cells := 0, slots := 0, locals := 46 }) (va_Pc [.ref mo, .int x] (fun U => U.heap.size = sz ∧ va_P (dC, dI) vcl [(mo, .inr (12, mdG r cd tm (nI sn) (nI tx) (nI lz) (nI az) (nI na) (nI nt) (nI nr) mw ml mk dq)), (r 7, .inl ((cT 0), 1000, .inl f7))] U.heap ∧ va_K (dC, dI) vcl (tyL cT) U ∧ va_D (fun _ => True) [(mo, .inr (12, mdG r cd tm (nI sn) (nI tx) (nI lz) (nI az) (nI na) (nI nt) (nI nr) mw ml mk dq)), (r 7, .inl ((cT 0), 1000, .inl f7))])) (va_Qi (S := Unit) (fun rv9 u => rv9 = nI (pa + 2) ∧ (True)) (fun u t => va_P (dC, dI) vcl [(mo, .inr (12, mdG r cd tm (nI sn) (nI tx) (nI lz) (nI az) (nI na) (nI nt) (nI nr) mw ml mk dq)), (r 7, .inl ((cT 0), 1000, .inl f7))] t.heap ∧ va_K (dC, dI) vcl (tyL cT) t ∧ va_D (va_A [(mo, .inr (12, mdG r cd tm (nI sn) (nI tx) (nI lz) (nI az) (nI na) (nI nt) (nI nr) mw ml mk dq)), (r 7, .inl ((cT 0), 1000, .inl f7))] sz) [(mo, .inr (12, mdG r cd tm (nI sn) (nI tx) (nI lz) (nI az) (nI na) (nI nt) (nI nr) mw ml mk dq)), (r 7, .inl ((cT 0), 1000, .inl f7))]) (va_A [(mo, .inr (12, mdG r cd tm (nI sn) (nI tx) (nI lz) (nI az) (nI na) (nI nt) (nI nr) mw ml mk dq)), (r 7, .inl ((cT 0), 1000, .inl f7))] sz)) 0 0 (va_A [(mo, .inr (12, mdG r cd tm (nI sn) (nI tx) (nI lz) (nI az) (nI na) (nI nt) (nI nr) mw ml mk dq)), (r 7, .inl ((cT 0), 1000, .inl f7))] sz) := by
  refine Met.ofW (cc := b_Md_valueAt) (maxL := 2) (ret := (Option.some Jvm.ClassFile.FieldType.int)) (by decide) rfl ?_
  intro p e s m args below meth c s₁ B hml hv
  obtain ⟨hargs, hsz, hP, hK, hD0⟩ := hv
  have hx := B.exec
  have hb := B.bytes
  have hr := B.returns
  have hts := atoms_spec (ws := (Cond.code y_Md_valueAt b_Md_valueAt 2 (Option.some Jvm.ClassFile.FieldType.int) :: BIG)) B.pre
  have hg : ∀ w ∈ BIG, w.before _ s = true := fun w h => hts w (List.mem_cons_of_mem _ h)
  have hown : s.vm.findClass "DoorServerModel" = some m.cls := findClass_of_methodNamed B.named
  have hlocks := B.notSynchronized
  subst hsz
  have hD := hD0.self (sz := s.heap.size)
  generalize hAe : va_A [(mo, .inr (12, mdG r cd tm (nI sn) (nI tx) (nI lz) (nI az) (nI na) (nI nt) (nI nr) mw ml mk dq)), (r 7, .inl ((cT 0), 1000, .inl f7))] s.heap.size = A at hD ⊢
  have hA : ∀ q : Nat, s.heap.size ≤ q → A q := fun q h => by rw [← hAe]; exact Or.inr h
  have hS : va_S A s.heap s.heap [] := va_S.rf
  have hl := lv_entry ([.ref mo, .int x]) (n := 2) (Nat.le_of_ble_eq_true rfl)
  refine W.eq (g2 := entryFrame m (List.toArray [.ref mo, .int x]) 2) (by rw [hargs]) ?_
  rw [lg_entry_eq]
  generalize (lg_sl ([.ref mo, .int x]) ++ List.replicate (2 - (lg_sl ([.ref mo, .int x])).length) Slot.unset).toArray = ls at hl ⊢
  have hl : lv_has ls 2 [(0, .ref mo), (1, .int x)] := hl
  change W p l e ({ frames := 2, cells := 0, slots := 0, locals := 46 } : Room) s m args below meth c s.heap [] 0 0 _ _
  have hP : va_P (dC, dI) vcl [(mo, .inr (12, mdG r cd tm (nI sn) (nI tx) (nI lz) (nI az) (nI na) (nI nt) (nI nr) mw ml mk dq)), (r 7, .inl ((cT 0), 1000, .inl f7))] s.heap := hP
  refine lv_aload_n hx hb d_Md_valueAt_0 rfl (lv_at hl 0 rfl) ?_
  refine lv_iload_n hx hb d_Md_valueAt_1 rfl (lv_at hl 1 rfl) ?_
  have hPc := hP.sub (ws' := [(mo, .inr (12, mdG r cd tm (nI sn) (nI tx) (nI lz) (nI az) (nI na) (nI nt) (nI nr) mw ml mk dq)), (r 7, .inl ((cT 0), 1000, .inl f7))]) [0, 1] rfl
  have hDc := hD.sub (ws' := [(mo, .inr (12, mdG r cd tm (nI sn) (nI tx) (nI lz) (nI az) (nI na) (nI nt) (nI nr) mw ml mk dq)), (r 7, .inl ((cT 0), 1000, .inl f7))]) [0, 1] (by decide) rfl
  have hFc := va_free (wc := [(mo, .inr (12, mdG r cd tm (nI sn) (nI tx) (nI lz) (nI az) (nI na) (nI nt) (nI nr) mw ml mk dq)), (r 7, .inl ((cT 0), 1000, .inl f7))]) hD hS hA [0, 1] rfl
  refine va_calli (va_runV (C := "DoorServerModel") (As := [.int x]) (rest := []) ⟨hx, hb, hml, hown, hg⟩ (m_find l dC dI cT s.heap.size mo r cd tm sn tx lz az na nt nr mw ml mk dq f7 x (by first | assumption | omega) (by first | assumption | omega) (by first | assumption | omega)) (cwV 1 hg (gI (List.forall_mem_append.mpr ⟨List.forall_mem_cons.mpr ⟨k_1294, List.forall_mem_cons.mpr ⟨k_1296, List.forall_mem_cons.mpr ⟨(big_sel (q := y_Md_find) (n := 45) (by decide +kernel)), List.forall_mem_cons.mpr ⟨k_13, fun _ h => absurd h List.not_mem_nil⟩⟩⟩⟩, List.forall_mem_cons.mpr ⟨k_1297, fun _ h => h⟩⟩)) rfl rfl rfl (by decide +kernel) ⟨Nat.le_of_ble_eq_true rfl, Nat.le_of_ble_eq_true rfl⟩) ⟨fun a U g mk q => by obtain ⟨q0, q1, qP, qK, qD⟩ := q; exact ⟨q0, q1, qP, va_K.moved (u := U) (U := U.calling g mk a) (Vm.Alike.refl U.vm) qK, qD⟩, va_recv (q0 := 0) (ci := 12) hK hP rfl rfl, fun U hU hW => ⟨rfl, by rw [hU], by rw [hU]; exact hPc, va_K.moved hW.alike hK, hDc.weaken (fun _ _ _ _ => trivial)⟩⟩ rfl rfl hl.1 rfl (lv_room (Nat.le_of_ble_eq_true rfl)) d_Md_valueAt_2 ⟨Nat.le_of_ble_eq_true rfl, Nat.le_of_ble_eq_true rfl⟩) hS (fun q _ h => hFc q h) hFc (fun rv9 u t H1 locs ht hvm hw hB hz1 hk1 hS => ?_)
  try dsimp only at hw hB
  obtain ⟨hP1, hK1, hD1⟩ := hB
  rw [ht] at hP1
  generalize rv9 = r14 at hw ⊢
  obtain ⟨hP, hD⟩ := va_join (wr := []) (w1 := [(mo, .inr (12, mdG r cd tm (nI sn) (nI tx) (nI lz) (nI az) (nI na) (nI nt) (nI nr) mw ml mk dq)), (r 7, .inl ((cT 0), 1000, .inl f7))]) hP hD [0, 1] [] rfl rfl (by decide) (by decide) hk1 hFc hP1 hD1
  have hw15 := hw
  clear hPc hDc hFc hz1 hk1 hP1 hK1 hD1
  generalize H1 = H at hP hS ⊢
  have hP : va_P (dC, dI) vcl [(mo, .inr (12, mdG r cd tm (nI sn) (nI tx) (nI lz) (nI az) (nI na) (nI nt) (nI nr) mw ml mk dq)), (r 7, .inl ((cT 0), 1000, .inl f7))] H := hP
  have hD : va_D A [(mo, .inr (12, mdG r cd tm (nI sn) (nI tx) (nI lz) (nI az) (nI na) (nI nt) (nI nr) mw ml mk dq)), (r 7, .inl ((cT 0), 1000, .inl f7))] := hD
  obtain ⟨k16, k17⟩ := hw15
  refine lv_topi (fun x19 e18 => ?_)
  obtain rfl : x19 = nI pa := by rw [e18]; rw [k16]; exact hh.1
  refine lv_iconst (v := 2) hx hb d_Md_valueAt_5 (by decide) ?_
  refine lv_iadd hx hb d_Md_valueAt_6 ?_
  refine lv_topi (fun x21 e20 => ?_)
  obtain rfl : x21 = nI (pa + 2) := by rw [e20]; exact nI_add pa 2
  have hP9 := hP.sub (ws' := [(mo, .inr (12, mdG r cd tm (nI sn) (nI tx) (nI lz) (nI az) (nI na) (nI nt) (nI nr) mw ml mk dq)), (r 7, .inl ((cT 0), 1000, .inl f7))]) [0, 1] rfl
  have hD9 := hD.sub (ws' := [(mo, .inr (12, mdG r cd tm (nI sn) (nI tx) (nI lz) (nI az) (nI na) (nI nt) (nI nr) mw ml mk dq)), (r 7, .inl ((cT 0), 1000, .inl f7))]) [0, 1] (by decide) rfl
  exact W.iret (v := nI (pa + 2)) hx hb hr (fun t ht hW => ⟨⟨_, (), rfl, ⟨rfl, trivial⟩, by rw [ht]; exact hP9, va_K.moved hW.alike hK, hD9⟩, hS.F ht⟩) hS.2.2 d_Md_valueAt_7
set_option maxHeartbeats 4000000 in
set_option maxRecDepth 100000 in
/-- sizeOf -/
theorem m_sizeOf (l : Launch) (dC : Nat → ClassId) (dI : Nat → Nat → Nat) (cT : Nat → ClassId) (sz : Nat) (mo : Nat) (r : Nat → Nat) (cd : Int32) (tm : Int32) (sn : Nat) (tx : Nat) (lz : Nat) (az : Nat) (na : Nat) (nt : Nat) (nr : Nat) (mw : Int32) (ml : Int32) (mk : Int64) (dq : Int64) (f7 : Nat → Int32) (x : Int32) (pa : Nat) (pn : Nat) (h20 : 20 ≤ sn) (hsn : sn ≤ 1000) (h7 : AB f7) (hh : HA f7 sn x (MFV f7 sn x) pa pn) : Met l y_Md_sizeOf (Cond.code y_Md_sizeOf b_Md_sizeOf 2 (Option.some Jvm.ClassFile.FieldType.int) :: BIG) ({ frames := 2, cells := 0, slots := 0, locals := 46 }) (va_Pc [.ref mo, .int x] (fun U => U.heap.size = sz ∧ va_P (dC, dI) vcl [(mo, .inr (12, mdG r cd tm (nI sn) (nI tx) (nI lz) (nI az) (nI na) (nI nt) (nI nr) mw ml mk dq)), (r 7, .inl ((cT 0), 1000, .inl f7))] U.heap ∧ va_K (dC, dI) vcl (tyL cT) U ∧ va_D (fun _ => True) [(mo, .inr (12, mdG r cd tm (nI sn) (nI tx) (nI lz) (nI az) (nI na) (nI nt) (nI nr) mw ml mk dq)), (r 7, .inl ((cT 0), 1000, .inl f7))])) (va_Qi (S := Unit) (fun rv9 u => rv9 = nI pn ∧ (True)) (fun u t => va_P (dC, dI) vcl [(mo, .inr (12, mdG r cd tm (nI sn) (nI tx) (nI lz) (nI az) (nI na) (nI nt) (nI nr) mw ml mk dq)), (r 7, .inl ((cT 0), 1000, .inl f7))] t.heap ∧ va_K (dC, dI) vcl (tyL cT) t ∧ va_D (va_A [(mo, .inr (12, mdG r cd tm (nI sn) (nI tx) (nI lz) (nI az) (nI na) (nI nt) (nI nr) mw ml mk dq)), (r 7, .inl ((cT 0), 1000, .inl f7))] sz) [(mo, .inr (12, mdG r cd tm (nI sn) (nI tx) (nI lz) (nI az) (nI na) (nI nt) (nI nr) mw ml mk dq)), (r 7, .inl ((cT 0), 1000, .inl f7))]) (va_A [(mo, .inr (12, mdG r cd tm (nI sn) (nI tx) (nI lz) (nI az) (nI na) (nI nt) (nI nr) mw ml mk dq)), (r 7, .inl ((cT 0), 1000, .inl f7))] sz)) 0 0 (va_A [(mo, .inr (12, mdG r cd tm (nI sn) (nI tx) (nI lz) (nI az) (nI na) (nI nt) (nI nr) mw ml mk dq)), (r 7, .inl ((cT 0), 1000, .inl f7))] sz) := by
  refine Met.ofW (cc := b_Md_sizeOf) (maxL := 2) (ret := (Option.some Jvm.ClassFile.FieldType.int)) (by decide) rfl ?_
  intro p e s m args below meth c s₁ B hml hv
  obtain ⟨hargs, hsz, hP, hK, hD0⟩ := hv
  have hx := B.exec
  have hb := B.bytes
  have hr := B.returns
  have hts := atoms_spec (ws := (Cond.code y_Md_sizeOf b_Md_sizeOf 2 (Option.some Jvm.ClassFile.FieldType.int) :: BIG)) B.pre
  have hg : ∀ w ∈ BIG, w.before _ s = true := fun w h => hts w (List.mem_cons_of_mem _ h)
  have hown : s.vm.findClass "DoorServerModel" = some m.cls := findClass_of_methodNamed B.named
  have hlocks := B.notSynchronized
  subst hsz
  have hD := hD0.self (sz := s.heap.size)
  generalize hAe : va_A [(mo, .inr (12, mdG r cd tm (nI sn) (nI tx) (nI lz) (nI az) (nI na) (nI nt) (nI nr) mw ml mk dq)), (r 7, .inl ((cT 0), 1000, .inl f7))] s.heap.size = A at hD ⊢
  have hA : ∀ q : Nat, s.heap.size ≤ q → A q := fun q h => by rw [← hAe]; exact Or.inr h
  have hS : va_S A s.heap s.heap [] := va_S.rf
  have hl := lv_entry ([.ref mo, .int x]) (n := 2) (Nat.le_of_ble_eq_true rfl)
  refine W.eq (g2 := entryFrame m (List.toArray [.ref mo, .int x]) 2) (by rw [hargs]) ?_
  rw [lg_entry_eq]
  generalize (lg_sl ([.ref mo, .int x]) ++ List.replicate (2 - (lg_sl ([.ref mo, .int x])).length) Slot.unset).toArray = ls at hl ⊢
  have hl : lv_has ls 2 [(0, .ref mo), (1, .int x)] := hl
  change W p l e ({ frames := 2, cells := 0, slots := 0, locals := 46 } : Room) s m args below meth c s.heap [] 0 0 _ _
  have hP : va_P (dC, dI) vcl [(mo, .inr (12, mdG r cd tm (nI sn) (nI tx) (nI lz) (nI az) (nI na) (nI nt) (nI nr) mw ml mk dq)), (r 7, .inl ((cT 0), 1000, .inl f7))] s.heap := hP
  refine lv_aload_n hx hb d_Md_sizeOf_0 rfl (lv_at hl 0 rfl) ?_
  refine va_get (D := (dC, dI)) (ci := 12) (v := (.ref (r 7))) (C := R_Md) (T := F_Md) (N := 45) hx hb hg in_Md hown hK hP 0 rfl rfl 7 (by decide) (hg _ k_1027) (fun _ h9 => h9) rfl d_Md_sizeOf_1 ?_
  refine lv_aload_n hx hb d_Md_sizeOf_4 rfl (lv_at hl 0 rfl) ?_
  refine lv_iload_n hx hb d_Md_sizeOf_5 rfl (lv_at hl 1 rfl) ?_
  have hb1 := hh.2.2.2.1
  have hPc := hP.sub (ws' := [(mo, .inr (12, mdG r cd tm (nI sn) (nI tx) (nI lz) (nI az) (nI na) (nI nt) (nI nr) mw ml mk dq)), (r 7, .inl ((cT 0), 1000, .inl f7))]) [0, 1] rfl
  have hDc := hD.sub (ws' := [(mo, .inr (12, mdG r cd tm (nI sn) (nI tx) (nI lz) (nI az) (nI na) (nI nt) (nI nr) mw ml mk dq)), (r 7, .inl ((cT 0), 1000, .inl f7))]) [0, 1] (by decide) rfl
  have hFc := va_free (wc := [(mo, .inr (12, mdG r cd tm (nI sn) (nI tx) (nI lz) (nI az) (nI na) (nI nt) (nI nr) mw ml mk dq)), (r 7, .inl ((cT 0), 1000, .inl f7))]) hD hS hA [0, 1] rfl
  refine va_calli (va_runV (C := "DoorServerModel") (As := [.int x]) (rest := [.ref (r 7)]) ⟨hx, hb, hml, hown, hg⟩ (m_find l dC dI cT s.heap.size mo r cd tm sn tx lz az na nt nr mw ml mk dq f7 x (by first | assumption | omega) (by first | assumption | omega) (by first | assumption | omega)) (cwV 1 hg (gI (List.forall_mem_append.mpr ⟨List.forall_mem_cons.mpr ⟨k_1294, List.forall_mem_cons.mpr ⟨k_1296, List.forall_mem_cons.mpr ⟨(big_sel (q := y_Md_find) (n := 45) (by decide +kernel)), List.forall_mem_cons.mpr ⟨k_13, fun _ h => absurd h List.not_mem_nil⟩⟩⟩⟩, List.forall_mem_cons.mpr ⟨k_1297, fun _ h => h⟩⟩)) rfl rfl rfl (by decide +kernel) ⟨Nat.le_of_ble_eq_true rfl, Nat.le_of_ble_eq_true rfl⟩) ⟨fun a U g mk q => by obtain ⟨q0, q1, qP, qK, qD⟩ := q; exact ⟨q0, q1, qP, va_K.moved (u := U) (U := U.calling g mk a) (Vm.Alike.refl U.vm) qK, qD⟩, va_recv (q0 := 0) (ci := 12) hK hP rfl rfl, fun U hU hW => ⟨rfl, by rw [hU], by rw [hU]; exact hPc, va_K.moved hW.alike hK, hDc.weaken (fun _ _ _ _ => trivial)⟩⟩ rfl rfl hl.1 rfl (lv_room (Nat.le_of_ble_eq_true rfl)) d_Md_sizeOf_6 ⟨Nat.le_of_ble_eq_true rfl, Nat.le_of_ble_eq_true rfl⟩) hS (fun q _ h => hFc q h) hFc (fun rv9 u t H1 locs ht hvm hw hB hz1 hk1 hS => ?_)
  try dsimp only at hw hB
  obtain ⟨hP1, hK1, hD1⟩ := hB
  rw [ht] at hP1
  generalize rv9 = r22 at hw ⊢
  obtain ⟨hP, hD⟩ := va_join (wr := []) (w1 := [(mo, .inr (12, mdG r cd tm (nI sn) (nI tx) (nI lz) (nI az) (nI na) (nI nt) (nI nr) mw ml mk dq)), (r 7, .inl ((cT 0), 1000, .inl f7))]) hP hD [0, 1] [] rfl rfl (by decide) (by decide) hk1 hFc hP1 hD1
  have hw23 := hw
  clear hPc hDc hFc hz1 hk1 hP1 hK1 hD1
  generalize H1 = H at hP hS ⊢
  have hP : va_P (dC, dI) vcl [(mo, .inr (12, mdG r cd tm (nI sn) (nI tx) (nI lz) (nI az) (nI na) (nI nt) (nI nr) mw ml mk dq)), (r 7, .inl ((cT 0), 1000, .inl f7))] H := hP
  have hD : va_D A [(mo, .inr (12, mdG r cd tm (nI sn) (nI tx) (nI lz) (nI az) (nI na) (nI nt) (nI nr) mw ml mk dq)), (r 7, .inl ((cT 0), 1000, .inl f7))] := hD
  obtain ⟨k24, k25⟩ := hw23
  refine lv_topi (fun x27 e26 => ?_)
  obtain rfl : x27 = nI pa := by rw [e26]; rw [k24]; exact hh.1
  refine lv_iconst (v := 1) hx hb d_Md_sizeOf_9 (by decide) ?_
  refine lv_iadd hx hb d_Md_sizeOf_10 ?_
  refine lv_topi (fun x29 e28 => ?_)
  obtain rfl : x29 = nI (pa + 1) := by rw [e28]; exact nI_add pa 1
  refine va_iald hx hb hK hP 1 0 rfl rfl (i := (nI (pa + 1))) (vp_in_nI (N := 1000) (by omega) (by decide)) d_Md_sizeOf_11 ?_
  refine lv_topi (fun x31 e30 => ?_)
  obtain rfl : x31 = nI (pn + 2) := by rw [e30]; rw [nI_clamp (by omega)]; exact hh.2.2.2.2.1
  refine lv_iconst (v := 2) hx hb d_Md_sizeOf_12 (by decide) ?_
  refine lv_isub hx hb d_Md_sizeOf_13 ?_
  refine lv_topi (fun x33 e32 => ?_)
  obtain rfl : x33 = nI pn := by rw [e32]; exact pk_sub (a := pn + 2) (b := 2) (by omega)
  have hP9 := hP.sub (ws' := [(mo, .inr (12, mdG r cd tm (nI sn) (nI tx) (nI lz) (nI az) (nI na) (nI nt) (nI nr) mw ml mk dq)), (r 7, .inl ((cT 0), 1000, .inl f7))]) [0, 1] rfl
  have hD9 := hD.sub (ws' := [(mo, .inr (12, mdG r cd tm (nI sn) (nI tx) (nI lz) (nI az) (nI na) (nI nt) (nI nr) mw ml mk dq)), (r 7, .inl ((cT 0), 1000, .inl f7))]) [0, 1] (by decide) rfl
  exact W.iret (v := nI pn) hx hb hr (fun t ht hW => ⟨⟨_, (), rfl, ⟨rfl, trivial⟩, by rw [ht]; exact hP9, va_K.moved hW.alike hK, hD9⟩, hS.F ht⟩) hS.2.2 d_Md_sizeOf_14
set_option maxHeartbeats 4000000 in
set_option maxRecDepth 100000 in
/-- fourOf -/
theorem m_four40 (l : Launch) (dC : Nat → ClassId) (dI : Nat → Nat → Nat) (cT : Nat → ClassId) (sz : Nat) (mo : Nat) (r : Nat → Nat) (cd : Int32) (tm : Int32) (sn : Nat) (tx : Nat) (lz : Nat) (az : Nat) (na : Nat) (nt : Nat) (nr : Nat) (mw : Int32) (ml : Int32) (mk : Int64) (dq : Int64) (f7 : Nat → Int32) (h20 : 20 ≤ sn) (hsn : sn ≤ 1000) (h7 : AB f7) : Met l y_Md_fourOf (Cond.code y_Md_fourOf b_Md_fourOf 3 (Option.some Jvm.ClassFile.FieldType.long) :: BIG) ({ frames := 3, cells := 0, slots := 0, locals := 70 }) (va_Pc [.ref mo, .int 40] (fun U => U.heap.size = sz ∧ va_P (dC, dI) vcl [(mo, .inr (12, mdG r cd tm (nI sn) (nI tx) (nI lz) (nI az) (nI na) (nI nt) (nI nr) mw ml mk dq)), (r 7, .inl ((cT 0), 1000, .inl f7))] U.heap ∧ va_K (dC, dI) vcl (tyL cT) U ∧ va_D (fun _ => True) [(mo, .inr (12, mdG r cd tm (nI sn) (nI tx) (nI lz) (nI az) (nI na) (nI nt) (nI nr) mw ml mk dq)), (r 7, .inl ((cT 0), 1000, .inl f7))])) (va_Ql (S := Unit) (fun rv9 u => True) (fun u t => va_P (dC, dI) vcl [(mo, .inr (12, mdG r cd tm (nI sn) (nI tx) (nI lz) (nI az) (nI na) (nI nt) (nI nr) mw ml mk dq)), (r 7, .inl ((cT 0), 1000, .inl f7))] t.heap ∧ va_K (dC, dI) vcl (tyL cT) t ∧ va_D (va_A [(mo, .inr (12, mdG r cd tm (nI sn) (nI tx) (nI lz) (nI az) (nI na) (nI nt) (nI nr) mw ml mk dq)), (r 7, .inl ((cT 0), 1000, .inl f7))] sz) [(mo, .inr (12, mdG r cd tm (nI sn) (nI tx) (nI lz) (nI az) (nI na) (nI nt) (nI nr) mw ml mk dq)), (r 7, .inl ((cT 0), 1000, .inl f7))]) (va_A [(mo, .inr (12, mdG r cd tm (nI sn) (nI tx) (nI lz) (nI az) (nI na) (nI nt) (nI nr) mw ml mk dq)), (r 7, .inl ((cT 0), 1000, .inl f7))] sz)) 0 0 (va_A [(mo, .inr (12, mdG r cd tm (nI sn) (nI tx) (nI lz) (nI az) (nI na) (nI nt) (nI nr) mw ml mk dq)), (r 7, .inl ((cT 0), 1000, .inl f7))] sz) := by
  refine Met.ofW (cc := b_Md_fourOf) (maxL := 3) (ret := (Option.some Jvm.ClassFile.FieldType.long)) (by decide) rfl ?_
  intro p e s m args below meth c s₁ B hml hv
  obtain ⟨hargs, hsz, hP, hK, hD0⟩ := hv
  have hx := B.exec
  have hb := B.bytes
  have hr := B.returns
  have hts := atoms_spec (ws := (Cond.code y_Md_fourOf b_Md_fourOf 3 (Option.some Jvm.ClassFile.FieldType.long) :: BIG)) B.pre
  have hg : ∀ w ∈ BIG, w.before _ s = true := fun w h => hts w (List.mem_cons_of_mem _ h)
  have hown : s.vm.findClass "DoorServerModel" = some m.cls := findClass_of_methodNamed B.named
  have hlocks := B.notSynchronized
  subst hsz
  have hD := hD0.self (sz := s.heap.size)
  generalize hAe : va_A [(mo, .inr (12, mdG r cd tm (nI sn) (nI tx) (nI lz) (nI az) (nI na) (nI nt) (nI nr) mw ml mk dq)), (r 7, .inl ((cT 0), 1000, .inl f7))] s.heap.size = A at hD ⊢
  have hA : ∀ q : Nat, s.heap.size ≤ q → A q := fun q h => by rw [← hAe]; exact Or.inr h
  have hS : va_S A s.heap s.heap [] := va_S.rf
  have hl := lv_entry ([.ref mo, .int 40]) (n := 3) (Nat.le_of_ble_eq_true rfl)
  refine W.eq (g2 := entryFrame m (List.toArray [.ref mo, .int 40]) 3) (by rw [hargs]) ?_
  rw [lg_entry_eq]
  generalize (lg_sl ([.ref mo, .int 40]) ++ List.replicate (3 - (lg_sl ([.ref mo, .int 40])).length) Slot.unset).toArray = ls at hl ⊢
  have hl : lv_has ls 3 [(0, .ref mo), (1, .int 40)] := hl
  change W p l e ({ frames := 3, cells := 0, slots := 0, locals := 70 } : Room) s m args below meth c s.heap [] 0 0 _ _
  have hP : va_P (dC, dI) vcl [(mo, .inr (12, mdG r cd tm (nI sn) (nI tx) (nI lz) (nI az) (nI na) (nI nt) (nI nr) mw ml mk dq)), (r 7, .inl ((cT 0), 1000, .inl f7))] s.heap := hP
  refine lv_aload_n hx hb d_Md_fourOf_0 rfl (lv_at hl 0 rfl) ?_
  refine lv_iload_n hx hb d_Md_fourOf_1 rfl (lv_at hl 1 rfl) ?_
  have hPc := hP.sub (ws' := [(mo, .inr (12, mdG r cd tm (nI sn) (nI tx) (nI lz) (nI az) (nI na) (nI nt) (nI nr) mw ml mk dq)), (r 7, .inl ((cT 0), 1000, .inl f7))]) [0, 1] rfl
  have hDc := hD.sub (ws' := [(mo, .inr (12, mdG r cd tm (nI sn) (nI tx) (nI lz) (nI az) (nI na) (nI nt) (nI nr) mw ml mk dq)), (r 7, .inl ((cT 0), 1000, .inl f7))]) [0, 1] (by decide) rfl
  have hFc := va_free (wc := [(mo, .inr (12, mdG r cd tm (nI sn) (nI tx) (nI lz) (nI az) (nI na) (nI nt) (nI nr) mw ml mk dq)), (r 7, .inl ((cT 0), 1000, .inl f7))]) hD hS hA [0, 1] rfl
  refine va_calli (va_runV (C := "DoorServerModel") (As := [.int 40]) (rest := []) ⟨hx, hb, hml, hown, hg⟩ (m_has l dC dI cT s.heap.size mo r cd tm sn tx lz az na nt nr mw ml mk dq f7 40 (by first | assumption | omega) (by first | assumption | omega) (by first | assumption | omega)) (cwV 1 hg (gI (List.forall_mem_append.mpr ⟨List.forall_mem_cons.mpr ⟨k_1305, List.forall_mem_cons.mpr ⟨k_1307, List.forall_mem_cons.mpr ⟨(big_sel (q := y_Md_has) (n := 45) (by decide +kernel)), List.forall_mem_cons.mpr ⟨k_13, fun _ h => absurd h List.not_mem_nil⟩⟩⟩⟩, List.forall_mem_cons.mpr ⟨k_1308, fun _ h => h⟩⟩)) rfl rfl rfl (by decide +kernel) ⟨Nat.le_of_ble_eq_true rfl, Nat.le_of_ble_eq_true rfl⟩) ⟨fun a U g mk q => by obtain ⟨q0, q1, qP, qK, qD⟩ := q; exact ⟨q0, q1, qP, va_K.moved (u := U) (U := U.calling g mk a) (Vm.Alike.refl U.vm) qK, qD⟩, va_recv (q0 := 0) (ci := 12) hK hP rfl rfl, fun U hU hW => ⟨rfl, by rw [hU], by rw [hU]; exact hPc, va_K.moved hW.alike hK, hDc.weaken (fun _ _ _ _ => trivial)⟩⟩ rfl rfl hl.1 rfl (lv_room (Nat.le_of_ble_eq_true rfl)) d_Md_fourOf_2 ⟨Nat.le_of_ble_eq_true rfl, Nat.le_of_ble_eq_true rfl⟩) hS (fun q _ h => hFc q h) hFc (fun rv9 u t H1 locs ht hvm hw hB hz1 hk1 hS => ?_)
  try dsimp only at hw hB
  obtain ⟨hP1, hK1, hD1⟩ := hB
  rw [ht] at hP1
  generalize rv9 = r34 at hw ⊢
  obtain ⟨hP, hD⟩ := va_join (wr := []) (w1 := [(mo, .inr (12, mdG r cd tm (nI sn) (nI tx) (nI lz) (nI az) (nI na) (nI nt) (nI nr) mw ml mk dq)), (r 7, .inl ((cT 0), 1000, .inl f7))]) hP hD [0, 1] [] rfl rfl (by decide) (by decide) hk1 hFc hP1 hD1
  have hw35 := hw
  clear hPc hDc hFc hz1 hk1 hP1 hK1 hD1
  generalize H1 = H at hP hS ⊢
  have hP : va_P (dC, dI) vcl [(mo, .inr (12, mdG r cd tm (nI sn) (nI tx) (nI lz) (nI az) (nI na) (nI nt) (nI nr) mw ml mk dq)), (r 7, .inl ((cT 0), 1000, .inl f7))] H := hP
  have hD : va_D A [(mo, .inr (12, mdG r cd tm (nI sn) (nI tx) (nI lz) (nI az) (nI na) (nI nt) (nI nr) mw ml mk dq)), (r 7, .inl ((cT 0), 1000, .inl f7))] := hD
  have k36 := hw35
  rcases k36 with ⟨h8z, hno40⟩ | ⟨h8z, pa40, pn40, hh40⟩
  · skip
    refine lv_topi (fun x38 e37 => ?_)
    obtain rfl : x38 = 0 := by rw [e37]; exact h8z
    refine lv_if_ne (tgt := 10) hx hb d_Md_fourOf_5 (by decide) (fun hn9 => absurd hn9 (by decide)) (fun hc39 => ?_)
    refine lv_lconst (v := 0) hx hb d_Md_fourOf_8 (by decide) ?_
    have hP9 := hP.sub (ws' := [(mo, .inr (12, mdG r cd tm (nI sn) (nI tx) (nI lz) (nI az) (nI na) (nI nt) (nI nr) mw ml mk dq)), (r 7, .inl ((cT 0), 1000, .inl f7))]) [0, 1] rfl
    have hD9 := hD.sub (ws' := [(mo, .inr (12, mdG r cd tm (nI sn) (nI tx) (nI lz) (nI az) (nI na) (nI nt) (nI nr) mw ml mk dq)), (r 7, .inl ((cT 0), 1000, .inl f7))]) [0, 1] (by decide) rfl
    exact W.lret (v := 0) hx hb hr (fun t ht hW => ⟨⟨_, (), rfl, trivial, by rw [ht]; exact hP9, va_K.moved hW.alike hK, hD9⟩, hS.F ht⟩) hS.2.2 d_Md_fourOf_9
  · skip
    refine lv_topi (fun x41 e40 => ?_)
    obtain rfl : x41 = 1 := by rw [e40]; exact h8z
    have hs40 := rsb_40 (by have := hh40.2.2.2.1; omega) hh40.2.2.2.2.2
    have hb40 := hh40.2.2.2.1; have hc40 := hh40.2.1
    refine lv_if_ne (tgt := 10) hx hb d_Md_fourOf_5 (by decide) (fun hc42 => ?_) (fun hn9 => absurd hn9 (by decide))
    refine lv_aload_n hx hb d_Md_fourOf_10 rfl (lv_at hl 0 rfl) ?_
    refine lv_iload_n hx hb d_Md_fourOf_11 rfl (lv_at hl 1 rfl) ?_
    have hPc := hP.sub (ws' := [(mo, .inr (12, mdG r cd tm (nI sn) (nI tx) (nI lz) (nI az) (nI na) (nI nt) (nI nr) mw ml mk dq)), (r 7, .inl ((cT 0), 1000, .inl f7))]) [0, 1] rfl
    have hDc := hD.sub (ws' := [(mo, .inr (12, mdG r cd tm (nI sn) (nI tx) (nI lz) (nI az) (nI na) (nI nt) (nI nr) mw ml mk dq)), (r 7, .inl ((cT 0), 1000, .inl f7))]) [0, 1] (by decide) rfl
    have hFc := va_free (wc := [(mo, .inr (12, mdG r cd tm (nI sn) (nI tx) (nI lz) (nI az) (nI na) (nI nt) (nI nr) mw ml mk dq)), (r 7, .inl ((cT 0), 1000, .inl f7))]) hD hS hA [0, 1] rfl
    refine va_calli (va_runV (C := "DoorServerModel") (As := [.int 40]) (rest := []) ⟨hx, hb, hml, hown, hg⟩ (m_valueAt l dC dI cT H.size mo r cd tm sn tx lz az na nt nr mw ml mk dq f7 40 pa40 pn40 (by first | assumption | omega) (by first | assumption | omega) (by first | assumption | omega) (by first | assumption | omega)) (cwV 1 hg (gI (List.forall_mem_append.mpr ⟨List.forall_mem_cons.mpr ⟨k_1309, List.forall_mem_cons.mpr ⟨k_1311, List.forall_mem_cons.mpr ⟨(big_sel (q := y_Md_valueAt) (n := 45) (by decide +kernel)), List.forall_mem_cons.mpr ⟨k_13, fun _ h => absurd h List.not_mem_nil⟩⟩⟩⟩, List.forall_mem_cons.mpr ⟨k_1312, fun _ h => h⟩⟩)) rfl rfl rfl (by decide +kernel) ⟨Nat.le_of_ble_eq_true rfl, Nat.le_of_ble_eq_true rfl⟩) ⟨fun a U g mk q => by obtain ⟨q0, q1, qP, qK, qD⟩ := q; exact ⟨q0, q1, qP, va_K.moved (u := U) (U := U.calling g mk a) (Vm.Alike.refl U.vm) qK, qD⟩, va_recv (q0 := 0) (ci := 12) hK hP rfl rfl, fun U hU hW => ⟨rfl, by rw [hU], by rw [hU]; exact hPc, va_K.moved hW.alike hK, hDc.weaken (fun _ _ _ _ => trivial)⟩⟩ rfl rfl hl.1 rfl (lv_room (Nat.le_of_ble_eq_true rfl)) d_Md_fourOf_12 ⟨Nat.le_of_ble_eq_true rfl, Nat.le_of_ble_eq_true rfl⟩) hS (fun q _ h => hFc q h) hFc (fun rv9 u t H1 locs ht hvm hw hB hz1 hk1 hS => ?_)
    try dsimp only at hw hB
    obtain ⟨hP1, hK1, hD1⟩ := hB
    rw [ht] at hP1
    obtain ⟨rfl, hw⟩ := hw
    obtain ⟨hP, hD⟩ := va_join (wr := []) (w1 := [(mo, .inr (12, mdG r cd tm (nI sn) (nI tx) (nI lz) (nI az) (nI na) (nI nt) (nI nr) mw ml mk dq)), (r 7, .inl ((cT 0), 1000, .inl f7))]) hP hD [0, 1] [] rfl rfl (by decide) (by decide) hk1 hFc hP1 hD1
    have hw43 := hw
    clear hPc hDc hFc hz1 hk1 hP1 hK1 hD1
    generalize H1 = H at hP hS ⊢
    have hP : va_P (dC, dI) vcl [(mo, .inr (12, mdG r cd tm (nI sn) (nI tx) (nI lz) (nI az) (nI na) (nI nt) (nI nr) mw ml mk dq)), (r 7, .inl ((cT 0), 1000, .inl f7))] H := hP
    have hD : va_D A [(mo, .inr (12, mdG r cd tm (nI sn) (nI tx) (nI lz) (nI az) (nI na) (nI nt) (nI nr) mw ml mk dq)), (r 7, .inl ((cT 0), 1000, .inl f7))] := hD
    refine lv_istore_n (lv' := [(2, .int (nI (pa40 + 2))), (0, .ref mo), (1, .int 40)]) hx hb d_Md_fourOf_15 rfl hl (by decide) rfl (fun ls hl => ?_)
    refine lv_aload_n hx hb d_Md_fourOf_16 rfl (lv_at hl 1 rfl) ?_
    refine va_get (D := (dC, dI)) (ci := 12) (v := (.ref (r 7))) (C := R_Md) (T := F_Md) (N := 45) hx hb hg in_Md hown hK hP 0 rfl rfl 7 (by decide) (hg _ k_1027) (fun _ h9 => h9) rfl d_Md_fourOf_17 ?_
    refine lv_iload_n hx hb d_Md_fourOf_20 rfl (lv_at hl 0 rfl) ?_
    refine va_iald hx hb hK hP 1 0 rfl rfl (i := (nI (pa40 + 2))) (vp_in_nI (N := 1000) (by omega) (by decide)) d_Md_fourOf_21 ?_
    refine lv_topi (fun x44 e_x44 => ?_)
    clear e_x44
    refine lv_i2l (v := x44.toInt64) hx hb d_Md_fourOf_22 rfl ?_
    refine lv_ldc2 (v := 256) hx hb hown (hg _ k_1240) d_Md_fourOf_23 ?_
    refine lv_lmul hx hb d_Md_fourOf_26 ?_
    refine lv_aload_n hx hb d_Md_fourOf_27 rfl (lv_at hl 1 rfl) ?_
    refine va_get (D := (dC, dI)) (ci := 12) (v := (.ref (r 7))) (C := R_Md) (T := F_Md) (N := 45) hx hb hg in_Md hown hK hP 0 rfl rfl 7 (by decide) (hg _ k_1027) (fun _ h9 => h9) rfl d_Md_fourOf_28 ?_
    refine lv_iload_n hx hb d_Md_fourOf_31 rfl (lv_at hl 0 rfl) ?_
    refine lv_iconst (v := 1) hx hb d_Md_fourOf_32 (by decide) ?_
    refine lv_iadd hx hb d_Md_fourOf_33 ?_
    refine lv_topi (fun x46 e45 => ?_)
    obtain rfl : x46 = nI (pa40 + 2 + 1) := by rw [e45]; exact nI_add (pa40 + 2) 1
    refine va_iald hx hb hK hP 1 0 rfl rfl (i := (nI (pa40 + 2 + 1))) (vp_in_nI (N := 1000) (by omega) (by decide)) d_Md_fourOf_34 ?_
    refine lv_topi (fun x47 e_x47 => ?_)
    clear e_x47
    refine lv_i2l (v := x47.toInt64) hx hb d_Md_fourOf_35 rfl ?_
    refine lv_ladd hx hb d_Md_fourOf_36 ?_
    refine lv_ldc2 (v := 256) hx hb hown (hg _ k_1240) d_Md_fourOf_37 ?_
    refine lv_lmul hx hb d_Md_fourOf_40 ?_
    refine lv_aload_n hx hb d_Md_fourOf_41 rfl (lv_at hl 1 rfl) ?_
    refine va_get (D := (dC, dI)) (ci := 12) (v := (.ref (r 7))) (C := R_Md) (T := F_Md) (N := 45) hx hb hg in_Md hown hK hP 0 rfl rfl 7 (by decide) (hg _ k_1027) (fun _ h9 => h9) rfl d_Md_fourOf_42 ?_
    refine lv_iload_n hx hb d_Md_fourOf_45 rfl (lv_at hl 0 rfl) ?_
    refine lv_iconst (v := 2) hx hb d_Md_fourOf_46 (by decide) ?_
    refine lv_iadd hx hb d_Md_fourOf_47 ?_
    refine lv_topi (fun x49 e48 => ?_)
    obtain rfl : x49 = nI (pa40 + 2 + 2) := by rw [e48]; exact nI_add (pa40 + 2) 2
    refine va_iald hx hb hK hP 1 0 rfl rfl (i := (nI (pa40 + 2 + 2))) (vp_in_nI (N := 1000) (by omega) (by decide)) d_Md_fourOf_48 ?_
    refine lv_topi (fun x50 e_x50 => ?_)
    clear e_x50
    refine lv_i2l (v := x50.toInt64) hx hb d_Md_fourOf_49 rfl ?_
    refine lv_ladd hx hb d_Md_fourOf_50 ?_
    refine lv_ldc2 (v := 256) hx hb hown (hg _ k_1240) d_Md_fourOf_51 ?_
    refine lv_lmul hx hb d_Md_fourOf_54 ?_
    refine lv_aload_n hx hb d_Md_fourOf_55 rfl (lv_at hl 1 rfl) ?_
    refine va_get (D := (dC, dI)) (ci := 12) (v := (.ref (r 7))) (C := R_Md) (T := F_Md) (N := 45) hx hb hg in_Md hown hK hP 0 rfl rfl 7 (by decide) (hg _ k_1027) (fun _ h9 => h9) rfl d_Md_fourOf_56 ?_
    refine lv_iload_n hx hb d_Md_fourOf_59 rfl (lv_at hl 0 rfl) ?_
    refine lv_iconst (v := 3) hx hb d_Md_fourOf_60 (by decide) ?_
    refine lv_iadd hx hb d_Md_fourOf_61 ?_
    refine lv_topi (fun x52 e51 => ?_)
    obtain rfl : x52 = nI (pa40 + 2 + 3) := by rw [e51]; exact nI_add (pa40 + 2) 3
    refine va_iald hx hb hK hP 1 0 rfl rfl (i := (nI (pa40 + 2 + 3))) (vp_in_nI (N := 1000) (by omega) (by decide)) d_Md_fourOf_62 ?_
    refine lv_topi (fun x53 e_x53 => ?_)
    clear e_x53
    refine lv_i2l (v := x53.toInt64) hx hb d_Md_fourOf_63 rfl ?_
    refine lv_ladd hx hb d_Md_fourOf_64 ?_
    have hP9 := hP.sub (ws' := [(mo, .inr (12, mdG r cd tm (nI sn) (nI tx) (nI lz) (nI az) (nI na) (nI nt) (nI nr) mw ml mk dq)), (r 7, .inl ((cT 0), 1000, .inl f7))]) [0, 1] rfl
    have hD9 := hD.sub (ws' := [(mo, .inr (12, mdG r cd tm (nI sn) (nI tx) (nI lz) (nI az) (nI na) (nI nt) (nI nr) mw ml mk dq)), (r 7, .inl ((cT 0), 1000, .inl f7))]) [0, 1] (by decide) rfl
    exact W.lret (v := (((((x44.toInt64 * 256) + x47.toInt64) * 256) + x50.toInt64) * 256) + x53.toInt64) hx hb hr (fun t ht hW => ⟨⟨_, (), rfl, trivial, by rw [ht]; exact hP9, va_K.moved hW.alike hK, hD9⟩, hS.F ht⟩) hS.2.2 d_Md_fourOf_65
set_option maxHeartbeats 4000000 in
set_option maxRecDepth 100000 in
/-- fourOf -/
theorem m_four42 (l : Launch) (dC : Nat → ClassId) (dI : Nat → Nat → Nat) (cT : Nat → ClassId) (sz : Nat) (mo : Nat) (r : Nat → Nat) (cd : Int32) (tm : Int32) (sn : Nat) (tx : Nat) (lz : Nat) (az : Nat) (na : Nat) (nt : Nat) (nr : Nat) (mw : Int32) (ml : Int32) (mk : Int64) (dq : Int64) (f7 : Nat → Int32) (h20 : 20 ≤ sn) (hsn : sn ≤ 1000) (h7 : AB f7) : Met l y_Md_fourOf (Cond.code y_Md_fourOf b_Md_fourOf 3 (Option.some Jvm.ClassFile.FieldType.long) :: BIG) ({ frames := 3, cells := 0, slots := 0, locals := 70 }) (va_Pc [.ref mo, .int 42] (fun U => U.heap.size = sz ∧ va_P (dC, dI) vcl [(mo, .inr (12, mdG r cd tm (nI sn) (nI tx) (nI lz) (nI az) (nI na) (nI nt) (nI nr) mw ml mk dq)), (r 7, .inl ((cT 0), 1000, .inl f7))] U.heap ∧ va_K (dC, dI) vcl (tyL cT) U ∧ va_D (fun _ => True) [(mo, .inr (12, mdG r cd tm (nI sn) (nI tx) (nI lz) (nI az) (nI na) (nI nt) (nI nr) mw ml mk dq)), (r 7, .inl ((cT 0), 1000, .inl f7))])) (va_Ql (S := Unit) (fun rv9 u => True) (fun u t => va_P (dC, dI) vcl [(mo, .inr (12, mdG r cd tm (nI sn) (nI tx) (nI lz) (nI az) (nI na) (nI nt) (nI nr) mw ml mk dq)), (r 7, .inl ((cT 0), 1000, .inl f7))] t.heap ∧ va_K (dC, dI) vcl (tyL cT) t ∧ va_D (va_A [(mo, .inr (12, mdG r cd tm (nI sn) (nI tx) (nI lz) (nI az) (nI na) (nI nt) (nI nr) mw ml mk dq)), (r 7, .inl ((cT 0), 1000, .inl f7))] sz) [(mo, .inr (12, mdG r cd tm (nI sn) (nI tx) (nI lz) (nI az) (nI na) (nI nt) (nI nr) mw ml mk dq)), (r 7, .inl ((cT 0), 1000, .inl f7))]) (va_A [(mo, .inr (12, mdG r cd tm (nI sn) (nI tx) (nI lz) (nI az) (nI na) (nI nt) (nI nr) mw ml mk dq)), (r 7, .inl ((cT 0), 1000, .inl f7))] sz)) 0 0 (va_A [(mo, .inr (12, mdG r cd tm (nI sn) (nI tx) (nI lz) (nI az) (nI na) (nI nt) (nI nr) mw ml mk dq)), (r 7, .inl ((cT 0), 1000, .inl f7))] sz) := by
  refine Met.ofW (cc := b_Md_fourOf) (maxL := 3) (ret := (Option.some Jvm.ClassFile.FieldType.long)) (by decide) rfl ?_
  intro p e s m args below meth c s₁ B hml hv
  obtain ⟨hargs, hsz, hP, hK, hD0⟩ := hv
  have hx := B.exec
  have hb := B.bytes
  have hr := B.returns
  have hts := atoms_spec (ws := (Cond.code y_Md_fourOf b_Md_fourOf 3 (Option.some Jvm.ClassFile.FieldType.long) :: BIG)) B.pre
  have hg : ∀ w ∈ BIG, w.before _ s = true := fun w h => hts w (List.mem_cons_of_mem _ h)
  have hown : s.vm.findClass "DoorServerModel" = some m.cls := findClass_of_methodNamed B.named
  have hlocks := B.notSynchronized
  subst hsz
  have hD := hD0.self (sz := s.heap.size)
  generalize hAe : va_A [(mo, .inr (12, mdG r cd tm (nI sn) (nI tx) (nI lz) (nI az) (nI na) (nI nt) (nI nr) mw ml mk dq)), (r 7, .inl ((cT 0), 1000, .inl f7))] s.heap.size = A at hD ⊢
  have hA : ∀ q : Nat, s.heap.size ≤ q → A q := fun q h => by rw [← hAe]; exact Or.inr h
  have hS : va_S A s.heap s.heap [] := va_S.rf
  have hl := lv_entry ([.ref mo, .int 42]) (n := 3) (Nat.le_of_ble_eq_true rfl)
  refine W.eq (g2 := entryFrame m (List.toArray [.ref mo, .int 42]) 3) (by rw [hargs]) ?_
  rw [lg_entry_eq]
  generalize (lg_sl ([.ref mo, .int 42]) ++ List.replicate (3 - (lg_sl ([.ref mo, .int 42])).length) Slot.unset).toArray = ls at hl ⊢
  have hl : lv_has ls 3 [(0, .ref mo), (1, .int 42)] := hl
  change W p l e ({ frames := 3, cells := 0, slots := 0, locals := 70 } : Room) s m args below meth c s.heap [] 0 0 _ _
  have hP : va_P (dC, dI) vcl [(mo, .inr (12, mdG r cd tm (nI sn) (nI tx) (nI lz) (nI az) (nI na) (nI nt) (nI nr) mw ml mk dq)), (r 7, .inl ((cT 0), 1000, .inl f7))] s.heap := hP
  refine lv_aload_n hx hb d_Md_fourOf_0 rfl (lv_at hl 0 rfl) ?_
  refine lv_iload_n hx hb d_Md_fourOf_1 rfl (lv_at hl 1 rfl) ?_
  have hPc := hP.sub (ws' := [(mo, .inr (12, mdG r cd tm (nI sn) (nI tx) (nI lz) (nI az) (nI na) (nI nt) (nI nr) mw ml mk dq)), (r 7, .inl ((cT 0), 1000, .inl f7))]) [0, 1] rfl
  have hDc := hD.sub (ws' := [(mo, .inr (12, mdG r cd tm (nI sn) (nI tx) (nI lz) (nI az) (nI na) (nI nt) (nI nr) mw ml mk dq)), (r 7, .inl ((cT 0), 1000, .inl f7))]) [0, 1] (by decide) rfl
  have hFc := va_free (wc := [(mo, .inr (12, mdG r cd tm (nI sn) (nI tx) (nI lz) (nI az) (nI na) (nI nt) (nI nr) mw ml mk dq)), (r 7, .inl ((cT 0), 1000, .inl f7))]) hD hS hA [0, 1] rfl
  refine va_calli (va_runV (C := "DoorServerModel") (As := [.int 42]) (rest := []) ⟨hx, hb, hml, hown, hg⟩ (m_has l dC dI cT s.heap.size mo r cd tm sn tx lz az na nt nr mw ml mk dq f7 42 (by first | assumption | omega) (by first | assumption | omega) (by first | assumption | omega)) (cwV 1 hg (gI (List.forall_mem_append.mpr ⟨List.forall_mem_cons.mpr ⟨k_1305, List.forall_mem_cons.mpr ⟨k_1307, List.forall_mem_cons.mpr ⟨(big_sel (q := y_Md_has) (n := 45) (by decide +kernel)), List.forall_mem_cons.mpr ⟨k_13, fun _ h => absurd h List.not_mem_nil⟩⟩⟩⟩, List.forall_mem_cons.mpr ⟨k_1308, fun _ h => h⟩⟩)) rfl rfl rfl (by decide +kernel) ⟨Nat.le_of_ble_eq_true rfl, Nat.le_of_ble_eq_true rfl⟩) ⟨fun a U g mk q => by obtain ⟨q0, q1, qP, qK, qD⟩ := q; exact ⟨q0, q1, qP, va_K.moved (u := U) (U := U.calling g mk a) (Vm.Alike.refl U.vm) qK, qD⟩, va_recv (q0 := 0) (ci := 12) hK hP rfl rfl, fun U hU hW => ⟨rfl, by rw [hU], by rw [hU]; exact hPc, va_K.moved hW.alike hK, hDc.weaken (fun _ _ _ _ => trivial)⟩⟩ rfl rfl hl.1 rfl (lv_room (Nat.le_of_ble_eq_true rfl)) d_Md_fourOf_2 ⟨Nat.le_of_ble_eq_true rfl, Nat.le_of_ble_eq_true rfl⟩) hS (fun q _ h => hFc q h) hFc (fun rv9 u t H1 locs ht hvm hw hB hz1 hk1 hS => ?_)
  try dsimp only at hw hB
  obtain ⟨hP1, hK1, hD1⟩ := hB
  rw [ht] at hP1
  generalize rv9 = r54 at hw ⊢
  obtain ⟨hP, hD⟩ := va_join (wr := []) (w1 := [(mo, .inr (12, mdG r cd tm (nI sn) (nI tx) (nI lz) (nI az) (nI na) (nI nt) (nI nr) mw ml mk dq)), (r 7, .inl ((cT 0), 1000, .inl f7))]) hP hD [0, 1] [] rfl rfl (by decide) (by decide) hk1 hFc hP1 hD1
  have hw55 := hw
  clear hPc hDc hFc hz1 hk1 hP1 hK1 hD1
  generalize H1 = H at hP hS ⊢
  have hP : va_P (dC, dI) vcl [(mo, .inr (12, mdG r cd tm (nI sn) (nI tx) (nI lz) (nI az) (nI na) (nI nt) (nI nr) mw ml mk dq)), (r 7, .inl ((cT 0), 1000, .inl f7))] H := hP
  have hD : va_D A [(mo, .inr (12, mdG r cd tm (nI sn) (nI tx) (nI lz) (nI az) (nI na) (nI nt) (nI nr) mw ml mk dq)), (r 7, .inl ((cT 0), 1000, .inl f7))] := hD
  have k56 := hw55
  rcases k56 with ⟨h8z, hno42⟩ | ⟨h8z, pa42, pn42, hh42⟩
  · skip
    refine lv_topi (fun x58 e57 => ?_)
    obtain rfl : x58 = 0 := by rw [e57]; exact h8z
    refine lv_if_ne (tgt := 10) hx hb d_Md_fourOf_5 (by decide) (fun hn9 => absurd hn9 (by decide)) (fun hc59 => ?_)
    refine lv_lconst (v := 0) hx hb d_Md_fourOf_8 (by decide) ?_
    have hP9 := hP.sub (ws' := [(mo, .inr (12, mdG r cd tm (nI sn) (nI tx) (nI lz) (nI az) (nI na) (nI nt) (nI nr) mw ml mk dq)), (r 7, .inl ((cT 0), 1000, .inl f7))]) [0, 1] rfl
    have hD9 := hD.sub (ws' := [(mo, .inr (12, mdG r cd tm (nI sn) (nI tx) (nI lz) (nI az) (nI na) (nI nt) (nI nr) mw ml mk dq)), (r 7, .inl ((cT 0), 1000, .inl f7))]) [0, 1] (by decide) rfl
    exact W.lret (v := 0) hx hb hr (fun t ht hW => ⟨⟨_, (), rfl, trivial, by rw [ht]; exact hP9, va_K.moved hW.alike hK, hD9⟩, hS.F ht⟩) hS.2.2 d_Md_fourOf_9
  · skip
    refine lv_topi (fun x61 e60 => ?_)
    obtain rfl : x61 = 1 := by rw [e60]; exact h8z
    have hs42 := rsb_42 (by have := hh42.2.2.2.1; omega) hh42.2.2.2.2.2
    have hb42 := hh42.2.2.2.1; have hc42 := hh42.2.1
    refine lv_if_ne (tgt := 10) hx hb d_Md_fourOf_5 (by decide) (fun hc62 => ?_) (fun hn9 => absurd hn9 (by decide))
    refine lv_aload_n hx hb d_Md_fourOf_10 rfl (lv_at hl 0 rfl) ?_
    refine lv_iload_n hx hb d_Md_fourOf_11 rfl (lv_at hl 1 rfl) ?_
    have hPc := hP.sub (ws' := [(mo, .inr (12, mdG r cd tm (nI sn) (nI tx) (nI lz) (nI az) (nI na) (nI nt) (nI nr) mw ml mk dq)), (r 7, .inl ((cT 0), 1000, .inl f7))]) [0, 1] rfl
    have hDc := hD.sub (ws' := [(mo, .inr (12, mdG r cd tm (nI sn) (nI tx) (nI lz) (nI az) (nI na) (nI nt) (nI nr) mw ml mk dq)), (r 7, .inl ((cT 0), 1000, .inl f7))]) [0, 1] (by decide) rfl
    have hFc := va_free (wc := [(mo, .inr (12, mdG r cd tm (nI sn) (nI tx) (nI lz) (nI az) (nI na) (nI nt) (nI nr) mw ml mk dq)), (r 7, .inl ((cT 0), 1000, .inl f7))]) hD hS hA [0, 1] rfl
    refine va_calli (va_runV (C := "DoorServerModel") (As := [.int 42]) (rest := []) ⟨hx, hb, hml, hown, hg⟩ (m_valueAt l dC dI cT H.size mo r cd tm sn tx lz az na nt nr mw ml mk dq f7 42 pa42 pn42 (by first | assumption | omega) (by first | assumption | omega) (by first | assumption | omega) (by first | assumption | omega)) (cwV 1 hg (gI (List.forall_mem_append.mpr ⟨List.forall_mem_cons.mpr ⟨k_1309, List.forall_mem_cons.mpr ⟨k_1311, List.forall_mem_cons.mpr ⟨(big_sel (q := y_Md_valueAt) (n := 45) (by decide +kernel)), List.forall_mem_cons.mpr ⟨k_13, fun _ h => absurd h List.not_mem_nil⟩⟩⟩⟩, List.forall_mem_cons.mpr ⟨k_1312, fun _ h => h⟩⟩)) rfl rfl rfl (by decide +kernel) ⟨Nat.le_of_ble_eq_true rfl, Nat.le_of_ble_eq_true rfl⟩) ⟨fun a U g mk q => by obtain ⟨q0, q1, qP, qK, qD⟩ := q; exact ⟨q0, q1, qP, va_K.moved (u := U) (U := U.calling g mk a) (Vm.Alike.refl U.vm) qK, qD⟩, va_recv (q0 := 0) (ci := 12) hK hP rfl rfl, fun U hU hW => ⟨rfl, by rw [hU], by rw [hU]; exact hPc, va_K.moved hW.alike hK, hDc.weaken (fun _ _ _ _ => trivial)⟩⟩ rfl rfl hl.1 rfl (lv_room (Nat.le_of_ble_eq_true rfl)) d_Md_fourOf_12 ⟨Nat.le_of_ble_eq_true rfl, Nat.le_of_ble_eq_true rfl⟩) hS (fun q _ h => hFc q h) hFc (fun rv9 u t H1 locs ht hvm hw hB hz1 hk1 hS => ?_)
    try dsimp only at hw hB
    obtain ⟨hP1, hK1, hD1⟩ := hB
    rw [ht] at hP1
    obtain ⟨rfl, hw⟩ := hw
    obtain ⟨hP, hD⟩ := va_join (wr := []) (w1 := [(mo, .inr (12, mdG r cd tm (nI sn) (nI tx) (nI lz) (nI az) (nI na) (nI nt) (nI nr) mw ml mk dq)), (r 7, .inl ((cT 0), 1000, .inl f7))]) hP hD [0, 1] [] rfl rfl (by decide) (by decide) hk1 hFc hP1 hD1
    have hw63 := hw
    clear hPc hDc hFc hz1 hk1 hP1 hK1 hD1
    generalize H1 = H at hP hS ⊢
    have hP : va_P (dC, dI) vcl [(mo, .inr (12, mdG r cd tm (nI sn) (nI tx) (nI lz) (nI az) (nI na) (nI nt) (nI nr) mw ml mk dq)), (r 7, .inl ((cT 0), 1000, .inl f7))] H := hP
    have hD : va_D A [(mo, .inr (12, mdG r cd tm (nI sn) (nI tx) (nI lz) (nI az) (nI na) (nI nt) (nI nr) mw ml mk dq)), (r 7, .inl ((cT 0), 1000, .inl f7))] := hD
    refine lv_istore_n (lv' := [(2, .int (nI (pa42 + 2))), (0, .ref mo), (1, .int 42)]) hx hb d_Md_fourOf_15 rfl hl (by decide) rfl (fun ls hl => ?_)
    refine lv_aload_n hx hb d_Md_fourOf_16 rfl (lv_at hl 1 rfl) ?_
    refine va_get (D := (dC, dI)) (ci := 12) (v := (.ref (r 7))) (C := R_Md) (T := F_Md) (N := 45) hx hb hg in_Md hown hK hP 0 rfl rfl 7 (by decide) (hg _ k_1027) (fun _ h9 => h9) rfl d_Md_fourOf_17 ?_
    refine lv_iload_n hx hb d_Md_fourOf_20 rfl (lv_at hl 0 rfl) ?_
    refine va_iald hx hb hK hP 1 0 rfl rfl (i := (nI (pa42 + 2))) (vp_in_nI (N := 1000) (by omega) (by decide)) d_Md_fourOf_21 ?_
    refine lv_topi (fun x64 e_x64 => ?_)
    clear e_x64
    refine lv_i2l (v := x64.toInt64) hx hb d_Md_fourOf_22 rfl ?_
    refine lv_ldc2 (v := 256) hx hb hown (hg _ k_1240) d_Md_fourOf_23 ?_
    refine lv_lmul hx hb d_Md_fourOf_26 ?_
    refine lv_aload_n hx hb d_Md_fourOf_27 rfl (lv_at hl 1 rfl) ?_
    refine va_get (D := (dC, dI)) (ci := 12) (v := (.ref (r 7))) (C := R_Md) (T := F_Md) (N := 45) hx hb hg in_Md hown hK hP 0 rfl rfl 7 (by decide) (hg _ k_1027) (fun _ h9 => h9) rfl d_Md_fourOf_28 ?_
    refine lv_iload_n hx hb d_Md_fourOf_31 rfl (lv_at hl 0 rfl) ?_
    refine lv_iconst (v := 1) hx hb d_Md_fourOf_32 (by decide) ?_
    refine lv_iadd hx hb d_Md_fourOf_33 ?_
    refine lv_topi (fun x66 e65 => ?_)
    obtain rfl : x66 = nI (pa42 + 2 + 1) := by rw [e65]; exact nI_add (pa42 + 2) 1
    refine va_iald hx hb hK hP 1 0 rfl rfl (i := (nI (pa42 + 2 + 1))) (vp_in_nI (N := 1000) (by omega) (by decide)) d_Md_fourOf_34 ?_
    refine lv_topi (fun x67 e_x67 => ?_)
    clear e_x67
    refine lv_i2l (v := x67.toInt64) hx hb d_Md_fourOf_35 rfl ?_
    refine lv_ladd hx hb d_Md_fourOf_36 ?_
    refine lv_ldc2 (v := 256) hx hb hown (hg _ k_1240) d_Md_fourOf_37 ?_
    refine lv_lmul hx hb d_Md_fourOf_40 ?_
    refine lv_aload_n hx hb d_Md_fourOf_41 rfl (lv_at hl 1 rfl) ?_
    refine va_get (D := (dC, dI)) (ci := 12) (v := (.ref (r 7))) (C := R_Md) (T := F_Md) (N := 45) hx hb hg in_Md hown hK hP 0 rfl rfl 7 (by decide) (hg _ k_1027) (fun _ h9 => h9) rfl d_Md_fourOf_42 ?_
    refine lv_iload_n hx hb d_Md_fourOf_45 rfl (lv_at hl 0 rfl) ?_
    refine lv_iconst (v := 2) hx hb d_Md_fourOf_46 (by decide) ?_
    refine lv_iadd hx hb d_Md_fourOf_47 ?_
    refine lv_topi (fun x69 e68 => ?_)
    obtain rfl : x69 = nI (pa42 + 2 + 2) := by rw [e68]; exact nI_add (pa42 + 2) 2
    refine va_iald hx hb hK hP 1 0 rfl rfl (i := (nI (pa42 + 2 + 2))) (vp_in_nI (N := 1000) (by omega) (by decide)) d_Md_fourOf_48 ?_
    refine lv_topi (fun x70 e_x70 => ?_)
    clear e_x70
    refine lv_i2l (v := x70.toInt64) hx hb d_Md_fourOf_49 rfl ?_
    refine lv_ladd hx hb d_Md_fourOf_50 ?_
    refine lv_ldc2 (v := 256) hx hb hown (hg _ k_1240) d_Md_fourOf_51 ?_
    refine lv_lmul hx hb d_Md_fourOf_54 ?_
    refine lv_aload_n hx hb d_Md_fourOf_55 rfl (lv_at hl 1 rfl) ?_
    refine va_get (D := (dC, dI)) (ci := 12) (v := (.ref (r 7))) (C := R_Md) (T := F_Md) (N := 45) hx hb hg in_Md hown hK hP 0 rfl rfl 7 (by decide) (hg _ k_1027) (fun _ h9 => h9) rfl d_Md_fourOf_56 ?_
    refine lv_iload_n hx hb d_Md_fourOf_59 rfl (lv_at hl 0 rfl) ?_
    refine lv_iconst (v := 3) hx hb d_Md_fourOf_60 (by decide) ?_
    refine lv_iadd hx hb d_Md_fourOf_61 ?_
    refine lv_topi (fun x72 e71 => ?_)
    obtain rfl : x72 = nI (pa42 + 2 + 3) := by rw [e71]; exact nI_add (pa42 + 2) 3
    refine va_iald hx hb hK hP 1 0 rfl rfl (i := (nI (pa42 + 2 + 3))) (vp_in_nI (N := 1000) (by omega) (by decide)) d_Md_fourOf_62 ?_
    refine lv_topi (fun x73 e_x73 => ?_)
    clear e_x73
    refine lv_i2l (v := x73.toInt64) hx hb d_Md_fourOf_63 rfl ?_
    refine lv_ladd hx hb d_Md_fourOf_64 ?_
    have hP9 := hP.sub (ws' := [(mo, .inr (12, mdG r cd tm (nI sn) (nI tx) (nI lz) (nI az) (nI na) (nI nt) (nI nr) mw ml mk dq)), (r 7, .inl ((cT 0), 1000, .inl f7))]) [0, 1] rfl
    have hD9 := hD.sub (ws' := [(mo, .inr (12, mdG r cd tm (nI sn) (nI tx) (nI lz) (nI az) (nI na) (nI nt) (nI nr) mw ml mk dq)), (r 7, .inl ((cT 0), 1000, .inl f7))]) [0, 1] (by decide) rfl
    exact W.lret (v := (((((x64.toInt64 * 256) + x67.toInt64) * 256) + x70.toInt64) * 256) + x73.toInt64) hx hb hr (fun t ht hW => ⟨⟨_, (), rfl, trivial, by rw [ht]; exact hP9, va_K.moved hW.alike hK, hD9⟩, hS.F ht⟩) hS.2.2 d_Md_fourOf_65
set_option maxHeartbeats 4000000 in
set_option maxRecDepth 100000 in
/-- fourOf -/
theorem m_four43 (l : Launch) (dC : Nat → ClassId) (dI : Nat → Nat → Nat) (cT : Nat → ClassId) (sz : Nat) (mo : Nat) (r : Nat → Nat) (cd : Int32) (tm : Int32) (sn : Nat) (tx : Nat) (lz : Nat) (az : Nat) (na : Nat) (nt : Nat) (nr : Nat) (mw : Int32) (ml : Int32) (mk : Int64) (dq : Int64) (f7 : Nat → Int32) (h20 : 20 ≤ sn) (hsn : sn ≤ 1000) (h7 : AB f7) : Met l y_Md_fourOf (Cond.code y_Md_fourOf b_Md_fourOf 3 (Option.some Jvm.ClassFile.FieldType.long) :: BIG) ({ frames := 3, cells := 0, slots := 0, locals := 70 }) (va_Pc [.ref mo, .int 43] (fun U => U.heap.size = sz ∧ va_P (dC, dI) vcl [(mo, .inr (12, mdG r cd tm (nI sn) (nI tx) (nI lz) (nI az) (nI na) (nI nt) (nI nr) mw ml mk dq)), (r 7, .inl ((cT 0), 1000, .inl f7))] U.heap ∧ va_K (dC, dI) vcl (tyL cT) U ∧ va_D (fun _ => True) [(mo, .inr (12, mdG r cd tm (nI sn) (nI tx) (nI lz) (nI az) (nI na) (nI nt) (nI nr) mw ml mk dq)), (r 7, .inl ((cT 0), 1000, .inl f7))])) (va_Ql (S := Unit) (fun rv9 u => True) (fun u t => va_P (dC, dI) vcl [(mo, .inr (12, mdG r cd tm (nI sn) (nI tx) (nI lz) (nI az) (nI na) (nI nt) (nI nr) mw ml mk dq)), (r 7, .inl ((cT 0), 1000, .inl f7))] t.heap ∧ va_K (dC, dI) vcl (tyL cT) t ∧ va_D (va_A [(mo, .inr (12, mdG r cd tm (nI sn) (nI tx) (nI lz) (nI az) (nI na) (nI nt) (nI nr) mw ml mk dq)), (r 7, .inl ((cT 0), 1000, .inl f7))] sz) [(mo, .inr (12, mdG r cd tm (nI sn) (nI tx) (nI lz) (nI az) (nI na) (nI nt) (nI nr) mw ml mk dq)), (r 7, .inl ((cT 0), 1000, .inl f7))]) (va_A [(mo, .inr (12, mdG r cd tm (nI sn) (nI tx) (nI lz) (nI az) (nI na) (nI nt) (nI nr) mw ml mk dq)), (r 7, .inl ((cT 0), 1000, .inl f7))] sz)) 0 0 (va_A [(mo, .inr (12, mdG r cd tm (nI sn) (nI tx) (nI lz) (nI az) (nI na) (nI nt) (nI nr) mw ml mk dq)), (r 7, .inl ((cT 0), 1000, .inl f7))] sz) := by
  refine Met.ofW (cc := b_Md_fourOf) (maxL := 3) (ret := (Option.some Jvm.ClassFile.FieldType.long)) (by decide) rfl ?_
  intro p e s m args below meth c s₁ B hml hv
  obtain ⟨hargs, hsz, hP, hK, hD0⟩ := hv
  have hx := B.exec
  have hb := B.bytes
  have hr := B.returns
  have hts := atoms_spec (ws := (Cond.code y_Md_fourOf b_Md_fourOf 3 (Option.some Jvm.ClassFile.FieldType.long) :: BIG)) B.pre
  have hg : ∀ w ∈ BIG, w.before _ s = true := fun w h => hts w (List.mem_cons_of_mem _ h)
  have hown : s.vm.findClass "DoorServerModel" = some m.cls := findClass_of_methodNamed B.named
  have hlocks := B.notSynchronized
  subst hsz
  have hD := hD0.self (sz := s.heap.size)
  generalize hAe : va_A [(mo, .inr (12, mdG r cd tm (nI sn) (nI tx) (nI lz) (nI az) (nI na) (nI nt) (nI nr) mw ml mk dq)), (r 7, .inl ((cT 0), 1000, .inl f7))] s.heap.size = A at hD ⊢
  have hA : ∀ q : Nat, s.heap.size ≤ q → A q := fun q h => by rw [← hAe]; exact Or.inr h
  have hS : va_S A s.heap s.heap [] := va_S.rf
  have hl := lv_entry ([.ref mo, .int 43]) (n := 3) (Nat.le_of_ble_eq_true rfl)
  refine W.eq (g2 := entryFrame m (List.toArray [.ref mo, .int 43]) 3) (by rw [hargs]) ?_
  rw [lg_entry_eq]
  generalize (lg_sl ([.ref mo, .int 43]) ++ List.replicate (3 - (lg_sl ([.ref mo, .int 43])).length) Slot.unset).toArray = ls at hl ⊢
  have hl : lv_has ls 3 [(0, .ref mo), (1, .int 43)] := hl
  change W p l e ({ frames := 3, cells := 0, slots := 0, locals := 70 } : Room) s m args below meth c s.heap [] 0 0 _ _
  have hP : va_P (dC, dI) vcl [(mo, .inr (12, mdG r cd tm (nI sn) (nI tx) (nI lz) (nI az) (nI na) (nI nt) (nI nr) mw ml mk dq)), (r 7, .inl ((cT 0), 1000, .inl f7))] s.heap := hP
  refine lv_aload_n hx hb d_Md_fourOf_0 rfl (lv_at hl 0 rfl) ?_
  refine lv_iload_n hx hb d_Md_fourOf_1 rfl (lv_at hl 1 rfl) ?_
  have hPc := hP.sub (ws' := [(mo, .inr (12, mdG r cd tm (nI sn) (nI tx) (nI lz) (nI az) (nI na) (nI nt) (nI nr) mw ml mk dq)), (r 7, .inl ((cT 0), 1000, .inl f7))]) [0, 1] rfl
  have hDc := hD.sub (ws' := [(mo, .inr (12, mdG r cd tm (nI sn) (nI tx) (nI lz) (nI az) (nI na) (nI nt) (nI nr) mw ml mk dq)), (r 7, .inl ((cT 0), 1000, .inl f7))]) [0, 1] (by decide) rfl
  have hFc := va_free (wc := [(mo, .inr (12, mdG r cd tm (nI sn) (nI tx) (nI lz) (nI az) (nI na) (nI nt) (nI nr) mw ml mk dq)), (r 7, .inl ((cT 0), 1000, .inl f7))]) hD hS hA [0, 1] rfl
  refine va_calli (va_runV (C := "DoorServerModel") (As := [.int 43]) (rest := []) ⟨hx, hb, hml, hown, hg⟩ (m_has l dC dI cT s.heap.size mo r cd tm sn tx lz az na nt nr mw ml mk dq f7 43 (by first | assumption | omega) (by first | assumption | omega) (by first | assumption | omega)) (cwV 1 hg (gI (List.forall_mem_append.mpr ⟨List.forall_mem_cons.mpr ⟨k_1305, List.forall_mem_cons.mpr ⟨k_1307, List.forall_mem_cons.mpr ⟨(big_sel (q := y_Md_has) (n := 45) (by decide +kernel)), List.forall_mem_cons.mpr ⟨k_13, fun _ h => absurd h List.not_mem_nil⟩⟩⟩⟩, List.forall_mem_cons.mpr ⟨k_1308, fun _ h => h⟩⟩)) rfl rfl rfl (by decide +kernel) ⟨Nat.le_of_ble_eq_true rfl, Nat.le_of_ble_eq_true rfl⟩) ⟨fun a U g mk q => by obtain ⟨q0, q1, qP, qK, qD⟩ := q; exact ⟨q0, q1, qP, va_K.moved (u := U) (U := U.calling g mk a) (Vm.Alike.refl U.vm) qK, qD⟩, va_recv (q0 := 0) (ci := 12) hK hP rfl rfl, fun U hU hW => ⟨rfl, by rw [hU], by rw [hU]; exact hPc, va_K.moved hW.alike hK, hDc.weaken (fun _ _ _ _ => trivial)⟩⟩ rfl rfl hl.1 rfl (lv_room (Nat.le_of_ble_eq_true rfl)) d_Md_fourOf_2 ⟨Nat.le_of_ble_eq_true rfl, Nat.le_of_ble_eq_true rfl⟩) hS (fun q _ h => hFc q h) hFc (fun rv9 u t H1 locs ht hvm hw hB hz1 hk1 hS => ?_)
  try dsimp only at hw hB
  obtain ⟨hP1, hK1, hD1⟩ := hB
  rw [ht] at hP1
  generalize rv9 = r74 at hw ⊢
  obtain ⟨hP, hD⟩ := va_join (wr := []) (w1 := [(mo, .inr (12, mdG r cd tm (nI sn) (nI tx) (nI lz) (nI az) (nI na) (nI nt) (nI nr) mw ml mk dq)), (r 7, .inl ((cT 0), 1000, .inl f7))]) hP hD [0, 1] [] rfl rfl (by decide) (by decide) hk1 hFc hP1 hD1
  have hw75 := hw
  clear hPc hDc hFc hz1 hk1 hP1 hK1 hD1
  generalize H1 = H at hP hS ⊢
  have hP : va_P (dC, dI) vcl [(mo, .inr (12, mdG r cd tm (nI sn) (nI tx) (nI lz) (nI az) (nI na) (nI nt) (nI nr) mw ml mk dq)), (r 7, .inl ((cT 0), 1000, .inl f7))] H := hP
  have hD : va_D A [(mo, .inr (12, mdG r cd tm (nI sn) (nI tx) (nI lz) (nI az) (nI na) (nI nt) (nI nr) mw ml mk dq)), (r 7, .inl ((cT 0), 1000, .inl f7))] := hD
  have k76 := hw75
  rcases k76 with ⟨h8z, hno43⟩ | ⟨h8z, pa43, pn43, hh43⟩
  · skip
    refine lv_topi (fun x78 e77 => ?_)
    obtain rfl : x78 = 0 := by rw [e77]; exact h8z
    refine lv_if_ne (tgt := 10) hx hb d_Md_fourOf_5 (by decide) (fun hn9 => absurd hn9 (by decide)) (fun hc79 => ?_)
    refine lv_lconst (v := 0) hx hb d_Md_fourOf_8 (by decide) ?_
    have hP9 := hP.sub (ws' := [(mo, .inr (12, mdG r cd tm (nI sn) (nI tx) (nI lz) (nI az) (nI na) (nI nt) (nI nr) mw ml mk dq)), (r 7, .inl ((cT 0), 1000, .inl f7))]) [0, 1] rfl
    have hD9 := hD.sub (ws' := [(mo, .inr (12, mdG r cd tm (nI sn) (nI tx) (nI lz) (nI az) (nI na) (nI nt) (nI nr) mw ml mk dq)), (r 7, .inl ((cT 0), 1000, .inl f7))]) [0, 1] (by decide) rfl
    exact W.lret (v := 0) hx hb hr (fun t ht hW => ⟨⟨_, (), rfl, trivial, by rw [ht]; exact hP9, va_K.moved hW.alike hK, hD9⟩, hS.F ht⟩) hS.2.2 d_Md_fourOf_9
  · skip
    refine lv_topi (fun x81 e80 => ?_)
    obtain rfl : x81 = 1 := by rw [e80]; exact h8z
    have hs43 := rsb_43 (by have := hh43.2.2.2.1; omega) hh43.2.2.2.2.2
    have hb43 := hh43.2.2.2.1; have hc43 := hh43.2.1
    refine lv_if_ne (tgt := 10) hx hb d_Md_fourOf_5 (by decide) (fun hc82 => ?_) (fun hn9 => absurd hn9 (by decide))
    refine lv_aload_n hx hb d_Md_fourOf_10 rfl (lv_at hl 0 rfl) ?_
    refine lv_iload_n hx hb d_Md_fourOf_11 rfl (lv_at hl 1 rfl) ?_
    have hPc := hP.sub (ws' := [(mo, .inr (12, mdG r cd tm (nI sn) (nI tx) (nI lz) (nI az) (nI na) (nI nt) (nI nr) mw ml mk dq)), (r 7, .inl ((cT 0), 1000, .inl f7))]) [0, 1] rfl
    have hDc := hD.sub (ws' := [(mo, .inr (12, mdG r cd tm (nI sn) (nI tx) (nI lz) (nI az) (nI na) (nI nt) (nI nr) mw ml mk dq)), (r 7, .inl ((cT 0), 1000, .inl f7))]) [0, 1] (by decide) rfl
    have hFc := va_free (wc := [(mo, .inr (12, mdG r cd tm (nI sn) (nI tx) (nI lz) (nI az) (nI na) (nI nt) (nI nr) mw ml mk dq)), (r 7, .inl ((cT 0), 1000, .inl f7))]) hD hS hA [0, 1] rfl
    refine va_calli (va_runV (C := "DoorServerModel") (As := [.int 43]) (rest := []) ⟨hx, hb, hml, hown, hg⟩ (m_valueAt l dC dI cT H.size mo r cd tm sn tx lz az na nt nr mw ml mk dq f7 43 pa43 pn43 (by first | assumption | omega) (by first | assumption | omega) (by first | assumption | omega) (by first | assumption | omega)) (cwV 1 hg (gI (List.forall_mem_append.mpr ⟨List.forall_mem_cons.mpr ⟨k_1309, List.forall_mem_cons.mpr ⟨k_1311, List.forall_mem_cons.mpr ⟨(big_sel (q := y_Md_valueAt) (n := 45) (by decide +kernel)), List.forall_mem_cons.mpr ⟨k_13, fun _ h => absurd h List.not_mem_nil⟩⟩⟩⟩, List.forall_mem_cons.mpr ⟨k_1312, fun _ h => h⟩⟩)) rfl rfl rfl (by decide +kernel) ⟨Nat.le_of_ble_eq_true rfl, Nat.le_of_ble_eq_true rfl⟩) ⟨fun a U g mk q => by obtain ⟨q0, q1, qP, qK, qD⟩ := q; exact ⟨q0, q1, qP, va_K.moved (u := U) (U := U.calling g mk a) (Vm.Alike.refl U.vm) qK, qD⟩, va_recv (q0 := 0) (ci := 12) hK hP rfl rfl, fun U hU hW => ⟨rfl, by rw [hU], by rw [hU]; exact hPc, va_K.moved hW.alike hK, hDc.weaken (fun _ _ _ _ => trivial)⟩⟩ rfl rfl hl.1 rfl (lv_room (Nat.le_of_ble_eq_true rfl)) d_Md_fourOf_12 ⟨Nat.le_of_ble_eq_true rfl, Nat.le_of_ble_eq_true rfl⟩) hS (fun q _ h => hFc q h) hFc (fun rv9 u t H1 locs ht hvm hw hB hz1 hk1 hS => ?_)
    try dsimp only at hw hB
    obtain ⟨hP1, hK1, hD1⟩ := hB
    rw [ht] at hP1
    obtain ⟨rfl, hw⟩ := hw
    obtain ⟨hP, hD⟩ := va_join (wr := []) (w1 := [(mo, .inr (12, mdG r cd tm (nI sn) (nI tx) (nI lz) (nI az) (nI na) (nI nt) (nI nr) mw ml mk dq)), (r 7, .inl ((cT 0), 1000, .inl f7))]) hP hD [0, 1] [] rfl rfl (by decide) (by decide) hk1 hFc hP1 hD1
    have hw83 := hw
    clear hPc hDc hFc hz1 hk1 hP1 hK1 hD1
    generalize H1 = H at hP hS ⊢
    have hP : va_P (dC, dI) vcl [(mo, .inr (12, mdG r cd tm (nI sn) (nI tx) (nI lz) (nI az) (nI na) (nI nt) (nI nr) mw ml mk dq)), (r 7, .inl ((cT 0), 1000, .inl f7))] H := hP
    have hD : va_D A [(mo, .inr (12, mdG r cd tm (nI sn) (nI tx) (nI lz) (nI az) (nI na) (nI nt) (nI nr) mw ml mk dq)), (r 7, .inl ((cT 0), 1000, .inl f7))] := hD
    refine lv_istore_n (lv' := [(2, .int (nI (pa43 + 2))), (0, .ref mo), (1, .int 43)]) hx hb d_Md_fourOf_15 rfl hl (by decide) rfl (fun ls hl => ?_)
    refine lv_aload_n hx hb d_Md_fourOf_16 rfl (lv_at hl 1 rfl) ?_
    refine va_get (D := (dC, dI)) (ci := 12) (v := (.ref (r 7))) (C := R_Md) (T := F_Md) (N := 45) hx hb hg in_Md hown hK hP 0 rfl rfl 7 (by decide) (hg _ k_1027) (fun _ h9 => h9) rfl d_Md_fourOf_17 ?_
    refine lv_iload_n hx hb d_Md_fourOf_20 rfl (lv_at hl 0 rfl) ?_
    refine va_iald hx hb hK hP 1 0 rfl rfl (i := (nI (pa43 + 2))) (vp_in_nI (N := 1000) (by omega) (by decide)) d_Md_fourOf_21 ?_
    refine lv_topi (fun x84 e_x84 => ?_)
    clear e_x84
    refine lv_i2l (v := x84.toInt64) hx hb d_Md_fourOf_22 rfl ?_
    refine lv_ldc2 (v := 256) hx hb hown (hg _ k_1240) d_Md_fourOf_23 ?_
    refine lv_lmul hx hb d_Md_fourOf_26 ?_
    refine lv_aload_n hx hb d_Md_fourOf_27 rfl (lv_at hl 1 rfl) ?_
    refine va_get (D := (dC, dI)) (ci := 12) (v := (.ref (r 7))) (C := R_Md) (T := F_Md) (N := 45) hx hb hg in_Md hown hK hP 0 rfl rfl 7 (by decide) (hg _ k_1027) (fun _ h9 => h9) rfl d_Md_fourOf_28 ?_
    refine lv_iload_n hx hb d_Md_fourOf_31 rfl (lv_at hl 0 rfl) ?_
    refine lv_iconst (v := 1) hx hb d_Md_fourOf_32 (by decide) ?_
    refine lv_iadd hx hb d_Md_fourOf_33 ?_
    refine lv_topi (fun x86 e85 => ?_)
    obtain rfl : x86 = nI (pa43 + 2 + 1) := by rw [e85]; exact nI_add (pa43 + 2) 1
    refine va_iald hx hb hK hP 1 0 rfl rfl (i := (nI (pa43 + 2 + 1))) (vp_in_nI (N := 1000) (by omega) (by decide)) d_Md_fourOf_34 ?_
    refine lv_topi (fun x87 e_x87 => ?_)
    clear e_x87
    refine lv_i2l (v := x87.toInt64) hx hb d_Md_fourOf_35 rfl ?_
    refine lv_ladd hx hb d_Md_fourOf_36 ?_
    refine lv_ldc2 (v := 256) hx hb hown (hg _ k_1240) d_Md_fourOf_37 ?_
    refine lv_lmul hx hb d_Md_fourOf_40 ?_
    refine lv_aload_n hx hb d_Md_fourOf_41 rfl (lv_at hl 1 rfl) ?_
    refine va_get (D := (dC, dI)) (ci := 12) (v := (.ref (r 7))) (C := R_Md) (T := F_Md) (N := 45) hx hb hg in_Md hown hK hP 0 rfl rfl 7 (by decide) (hg _ k_1027) (fun _ h9 => h9) rfl d_Md_fourOf_42 ?_
    refine lv_iload_n hx hb d_Md_fourOf_45 rfl (lv_at hl 0 rfl) ?_
    refine lv_iconst (v := 2) hx hb d_Md_fourOf_46 (by decide) ?_
    refine lv_iadd hx hb d_Md_fourOf_47 ?_
    refine lv_topi (fun x89 e88 => ?_)
    obtain rfl : x89 = nI (pa43 + 2 + 2) := by rw [e88]; exact nI_add (pa43 + 2) 2
    refine va_iald hx hb hK hP 1 0 rfl rfl (i := (nI (pa43 + 2 + 2))) (vp_in_nI (N := 1000) (by omega) (by decide)) d_Md_fourOf_48 ?_
    refine lv_topi (fun x90 e_x90 => ?_)
    clear e_x90
    refine lv_i2l (v := x90.toInt64) hx hb d_Md_fourOf_49 rfl ?_
    refine lv_ladd hx hb d_Md_fourOf_50 ?_
    refine lv_ldc2 (v := 256) hx hb hown (hg _ k_1240) d_Md_fourOf_51 ?_
    refine lv_lmul hx hb d_Md_fourOf_54 ?_
    refine lv_aload_n hx hb d_Md_fourOf_55 rfl (lv_at hl 1 rfl) ?_
    refine va_get (D := (dC, dI)) (ci := 12) (v := (.ref (r 7))) (C := R_Md) (T := F_Md) (N := 45) hx hb hg in_Md hown hK hP 0 rfl rfl 7 (by decide) (hg _ k_1027) (fun _ h9 => h9) rfl d_Md_fourOf_56 ?_
    refine lv_iload_n hx hb d_Md_fourOf_59 rfl (lv_at hl 0 rfl) ?_
    refine lv_iconst (v := 3) hx hb d_Md_fourOf_60 (by decide) ?_
    refine lv_iadd hx hb d_Md_fourOf_61 ?_
    refine lv_topi (fun x92 e91 => ?_)
    obtain rfl : x92 = nI (pa43 + 2 + 3) := by rw [e91]; exact nI_add (pa43 + 2) 3
    refine va_iald hx hb hK hP 1 0 rfl rfl (i := (nI (pa43 + 2 + 3))) (vp_in_nI (N := 1000) (by omega) (by decide)) d_Md_fourOf_62 ?_
    refine lv_topi (fun x93 e_x93 => ?_)
    clear e_x93
    refine lv_i2l (v := x93.toInt64) hx hb d_Md_fourOf_63 rfl ?_
    refine lv_ladd hx hb d_Md_fourOf_64 ?_
    have hP9 := hP.sub (ws' := [(mo, .inr (12, mdG r cd tm (nI sn) (nI tx) (nI lz) (nI az) (nI na) (nI nt) (nI nr) mw ml mk dq)), (r 7, .inl ((cT 0), 1000, .inl f7))]) [0, 1] rfl
    have hD9 := hD.sub (ws' := [(mo, .inr (12, mdG r cd tm (nI sn) (nI tx) (nI lz) (nI az) (nI na) (nI nt) (nI nr) mw ml mk dq)), (r 7, .inl ((cT 0), 1000, .inl f7))]) [0, 1] (by decide) rfl
    exact W.lret (v := (((((x84.toInt64 * 256) + x87.toInt64) * 256) + x90.toInt64) * 256) + x93.toInt64) hx hb hr (fun t ht hW => ⟨⟨_, (), rfl, trivial, by rw [ht]; exact hP9, va_K.moved hW.alike hK, hD9⟩, hS.F ht⟩) hS.2.2 d_Md_fourOf_65
set_option maxHeartbeats 4000000 in
set_option maxRecDepth 100000 in
/-- isKnown -/
theorem m_known (l : Launch) (dC : Nat → ClassId) (dI : Nat → Nat → Nat) (cT : Nat → ClassId) (sz : Nat) (x : Int32)  : Met l y_Md_isKnown (Cond.code y_Md_isKnown b_Md_isKnown 1 (Option.some Jvm.ClassFile.FieldType.boolean) :: BIG) ({ frames := 0, cells := 0, slots := 0, locals := 0 }) (va_Pc [.int x] (fun U => U.heap.size = sz ∧ va_P (dC, dI) vcl [] U.heap ∧ va_K (dC, dI) vcl (tyL cT) U ∧ va_D (fun _ => True) [])) (va_Qi (S := Unit) (fun rv9 u => True) (fun u t => va_P (dC, dI) vcl [] t.heap ∧ va_K (dC, dI) vcl (tyL cT) t ∧ va_D (va_A [] sz) []) (va_A [] sz)) 0 0 (va_A [] sz) := by
  refine Met.ofW (cc := b_Md_isKnown) (maxL := 1) (ret := (Option.some Jvm.ClassFile.FieldType.boolean)) (by decide) rfl ?_
  intro p e s m args below meth c s₁ B hml hv
  obtain ⟨hargs, hsz, hP, hK, hD0⟩ := hv
  have hx := B.exec
  have hb := B.bytes
  have hr := B.returns
  have hts := atoms_spec (ws := (Cond.code y_Md_isKnown b_Md_isKnown 1 (Option.some Jvm.ClassFile.FieldType.boolean) :: BIG)) B.pre
  have hg : ∀ w ∈ BIG, w.before _ s = true := fun w h => hts w (List.mem_cons_of_mem _ h)
  have hown : s.vm.findClass "DoorServerModel" = some m.cls := findClass_of_methodNamed B.named
  have hlocks := B.notSynchronized
  subst hsz
  have hD := hD0.self (sz := s.heap.size)
  generalize hAe : va_A [] s.heap.size = A at hD ⊢
  have hA : ∀ q : Nat, s.heap.size ≤ q → A q := fun q h => by rw [← hAe]; exact Or.inr h
  have hS : va_S A s.heap s.heap [] := va_S.rf
  have hl := lv_entry ([.int x]) (n := 1) (Nat.le_of_ble_eq_true rfl)
  refine W.eq (g2 := entryFrame m (List.toArray [.int x]) 1) (by rw [hargs]) ?_
  rw [lg_entry_eq]
  generalize (lg_sl ([.int x]) ++ List.replicate (1 - (lg_sl ([.int x])).length) Slot.unset).toArray = ls at hl ⊢
  have hl : lv_has ls 1 [(0, .int x)] := hl
  change W p l e ({ frames := 0, cells := 0, slots := 0, locals := 0 } : Room) s m args below meth c s.heap [] 0 0 _ _
  have hP : va_P (dC, dI) vcl [] s.heap := hP
  refine lv_iload_n hx hb d_Md_isKnown_0 rfl (lv_at hl 0 rfl) ?_
  refine lv_iconst (v := 1) hx hb d_Md_isKnown_1 (by decide) ?_
  refine lv_icmp_eq (tgt := 46) hx hb d_Md_isKnown_2 (by decide) (fun hc94 => ?_) (fun hc94 => ?_)
  · skip
    refine lv_iconst (v := 1) hx hb d_Md_isKnown_46 (by decide) ?_
    refine lv_goto (tgt := 51) hx hb d_Md_isKnown_47 (by decide) ?_
    have hP9 := hP.sub (ws' := []) [] rfl
    have hD9 := hD.sub (ws' := []) [] (by decide) rfl
    exact W.zret (v := 1) hx hb hr (by first | rfl | decide) (fun t ht hW => ⟨⟨_, (), rfl, trivial, by rw [ht]; exact hP9, va_K.moved hW.alike hK, hD9⟩, hS.F ht⟩) hS.2.2 d_Md_isKnown_51
  · skip
    refine lv_iload_n hx hb d_Md_isKnown_5 rfl (lv_at hl 0 rfl) ?_
    refine lv_iconst (v := 2) hx hb d_Md_isKnown_6 (by decide) ?_
    refine lv_icmp_eq (tgt := 46) hx hb d_Md_isKnown_7 (by decide) (fun hc95 => ?_) (fun hc95 => ?_)
    · skip
      refine lv_iconst (v := 1) hx hb d_Md_isKnown_46 (by decide) ?_
      refine lv_goto (tgt := 51) hx hb d_Md_isKnown_47 (by decide) ?_
      have hP9 := hP.sub (ws' := []) [] rfl
      have hD9 := hD.sub (ws' := []) [] (by decide) rfl
      exact W.zret (v := 1) hx hb hr (by first | rfl | decide) (fun t ht hW => ⟨⟨_, (), rfl, trivial, by rw [ht]; exact hP9, va_K.moved hW.alike hK, hD9⟩, hS.F ht⟩) hS.2.2 d_Md_isKnown_51
    · skip
      refine lv_iload_n hx hb d_Md_isKnown_10 rfl (lv_at hl 0 rfl) ?_
      refine lv_bipush (v := 24) hx hb d_Md_isKnown_11 (by decide) ?_
      refine lv_icmp_eq (tgt := 46) hx hb d_Md_isKnown_13 (by decide) (fun hc96 => ?_) (fun hc96 => ?_)
      · skip
        refine lv_iconst (v := 1) hx hb d_Md_isKnown_46 (by decide) ?_
        refine lv_goto (tgt := 51) hx hb d_Md_isKnown_47 (by decide) ?_
        have hP9 := hP.sub (ws' := []) [] rfl
        have hD9 := hD.sub (ws' := []) [] (by decide) rfl
        exact W.zret (v := 1) hx hb hr (by first | rfl | decide) (fun t ht hW => ⟨⟨_, (), rfl, trivial, by rw [ht]; exact hP9, va_K.moved hW.alike hK, hD9⟩, hS.F ht⟩) hS.2.2 d_Md_isKnown_51
      · skip
        refine lv_iload_n hx hb d_Md_isKnown_16 rfl (lv_at hl 0 rfl) ?_
        refine lv_bipush (v := 40) hx hb d_Md_isKnown_17 (by decide) ?_
        refine lv_icmp_eq (tgt := 46) hx hb d_Md_isKnown_19 (by decide) (fun hc97 => ?_) (fun hc97 => ?_)
        · skip
          refine lv_iconst (v := 1) hx hb d_Md_isKnown_46 (by decide) ?_
          refine lv_goto (tgt := 51) hx hb d_Md_isKnown_47 (by decide) ?_
          have hP9 := hP.sub (ws' := []) [] rfl
          have hD9 := hD.sub (ws' := []) [] (by decide) rfl
          exact W.zret (v := 1) hx hb hr (by first | rfl | decide) (fun t ht hW => ⟨⟨_, (), rfl, trivial, by rw [ht]; exact hP9, va_K.moved hW.alike hK, hD9⟩, hS.F ht⟩) hS.2.2 d_Md_isKnown_51
        · skip
          refine lv_iload_n hx hb d_Md_isKnown_22 rfl (lv_at hl 0 rfl) ?_
          refine lv_bipush (v := 41) hx hb d_Md_isKnown_23 (by decide) ?_
          refine lv_icmp_le (tgt := 34) hx hb d_Md_isKnown_25 (by decide) (fun hc98 => ?_) (fun hc98 => ?_)
          · skip
            refine lv_iload_n hx hb d_Md_isKnown_34 rfl (lv_at hl 0 rfl) ?_
            refine lv_bipush (v := 79) hx hb d_Md_isKnown_35 (by decide) ?_
            refine lv_icmp_eq (tgt := 46) hx hb d_Md_isKnown_37 (by decide) (fun hc99 => ?_) (fun hc99 => ?_)
            · skip
              refine lv_iconst (v := 1) hx hb d_Md_isKnown_46 (by decide) ?_
              refine lv_goto (tgt := 51) hx hb d_Md_isKnown_47 (by decide) ?_
              have hP9 := hP.sub (ws' := []) [] rfl
              have hD9 := hD.sub (ws' := []) [] (by decide) rfl
              exact W.zret (v := 1) hx hb hr (by first | rfl | decide) (fun t ht hW => ⟨⟨_, (), rfl, trivial, by rw [ht]; exact hP9, va_K.moved hW.alike hK, hD9⟩, hS.F ht⟩) hS.2.2 d_Md_isKnown_51
            · skip
              refine lv_iload_n hx hb d_Md_isKnown_40 rfl (lv_at hl 0 rfl) ?_
              refine lv_bipush (v := 80) hx hb d_Md_isKnown_41 (by decide) ?_
              refine lv_icmp_ne (tgt := 50) hx hb d_Md_isKnown_43 (by decide) (fun hc100 => ?_) (fun hc100 => ?_)
              · skip
                refine lv_iconst (v := 0) hx hb d_Md_isKnown_50 (by decide) ?_
                have hP9 := hP.sub (ws' := []) [] rfl
                have hD9 := hD.sub (ws' := []) [] (by decide) rfl
                exact W.zret (v := 0) hx hb hr (by first | rfl | decide) (fun t ht hW => ⟨⟨_, (), rfl, trivial, by rw [ht]; exact hP9, va_K.moved hW.alike hK, hD9⟩, hS.F ht⟩) hS.2.2 d_Md_isKnown_51
              · skip
                refine lv_iconst (v := 1) hx hb d_Md_isKnown_46 (by decide) ?_
                refine lv_goto (tgt := 51) hx hb d_Md_isKnown_47 (by decide) ?_
                have hP9 := hP.sub (ws' := []) [] rfl
                have hD9 := hD.sub (ws' := []) [] (by decide) rfl
                exact W.zret (v := 1) hx hb hr (by first | rfl | decide) (fun t ht hW => ⟨⟨_, (), rfl, trivial, by rw [ht]; exact hP9, va_K.moved hW.alike hK, hD9⟩, hS.F ht⟩) hS.2.2 d_Md_isKnown_51
          · skip
            refine lv_iload_n hx hb d_Md_isKnown_28 rfl (lv_at hl 0 rfl) ?_
            refine lv_bipush (v := 45) hx hb d_Md_isKnown_29 (by decide) ?_
            refine lv_icmp_lt (tgt := 46) hx hb d_Md_isKnown_31 (by decide) (fun hc101 => ?_) (fun hc101 => ?_)
            · skip
              refine lv_iconst (v := 1) hx hb d_Md_isKnown_46 (by decide) ?_
              refine lv_goto (tgt := 51) hx hb d_Md_isKnown_47 (by decide) ?_
              have hP9 := hP.sub (ws' := []) [] rfl
              have hD9 := hD.sub (ws' := []) [] (by decide) rfl
              exact W.zret (v := 1) hx hb hr (by first | rfl | decide) (fun t ht hW => ⟨⟨_, (), rfl, trivial, by rw [ht]; exact hP9, va_K.moved hW.alike hK, hD9⟩, hS.F ht⟩) hS.2.2 d_Md_isKnown_51
            · skip
              refine lv_iload_n hx hb d_Md_isKnown_34 rfl (lv_at hl 0 rfl) ?_
              refine lv_bipush (v := 79) hx hb d_Md_isKnown_35 (by decide) ?_
              refine lv_icmp_eq (tgt := 46) hx hb d_Md_isKnown_37 (by decide) (fun hc102 => ?_) (fun hc102 => ?_)
              · skip
                refine lv_iconst (v := 1) hx hb d_Md_isKnown_46 (by decide) ?_
                refine lv_goto (tgt := 51) hx hb d_Md_isKnown_47 (by decide) ?_
                have hP9 := hP.sub (ws' := []) [] rfl
                have hD9 := hD.sub (ws' := []) [] (by decide) rfl
                exact W.zret (v := 1) hx hb hr (by first | rfl | decide) (fun t ht hW => ⟨⟨_, (), rfl, trivial, by rw [ht]; exact hP9, va_K.moved hW.alike hK, hD9⟩, hS.F ht⟩) hS.2.2 d_Md_isKnown_51
              · skip
                refine lv_iload_n hx hb d_Md_isKnown_40 rfl (lv_at hl 0 rfl) ?_
                refine lv_bipush (v := 80) hx hb d_Md_isKnown_41 (by decide) ?_
                refine lv_icmp_ne (tgt := 50) hx hb d_Md_isKnown_43 (by decide) (fun hc103 => ?_) (fun hc103 => ?_)
                · skip
                  refine lv_iconst (v := 0) hx hb d_Md_isKnown_50 (by decide) ?_
                  have hP9 := hP.sub (ws' := []) [] rfl
                  have hD9 := hD.sub (ws' := []) [] (by decide) rfl
                  exact W.zret (v := 0) hx hb hr (by first | rfl | decide) (fun t ht hW => ⟨⟨_, (), rfl, trivial, by rw [ht]; exact hP9, va_K.moved hW.alike hK, hD9⟩, hS.F ht⟩) hS.2.2 d_Md_isKnown_51
                · skip
                  refine lv_iconst (v := 1) hx hb d_Md_isKnown_46 (by decide) ?_
                  refine lv_goto (tgt := 51) hx hb d_Md_isKnown_47 (by decide) ?_
                  have hP9 := hP.sub (ws' := []) [] rfl
                  have hD9 := hD.sub (ws' := []) [] (by decide) rfl
                  exact W.zret (v := 1) hx hb hr (by first | rfl | decide) (fun t ht hW => ⟨⟨_, (), rfl, trivial, by rw [ht]; exact hP9, va_K.moved hW.alike hK, hD9⟩, hS.F ht⟩) hS.2.2 d_Md_isKnown_51
set_option maxHeartbeats 4000000 in
set_option maxRecDepth 100000 in
/-- findEnd -/
theorem m_findEnd (l : Launch) (dC : Nat → ClassId) (dI : Nat → Nat → Nat) (cT : Nat → ClassId) (sz : Nat) (mo : Nat) (r : Nat → Nat) (cd : Int32) (tm : Int32) (sn : Nat) (tx : Nat) (lz : Nat) (az : Nat) (na : Nat) (nt : Nat) (nr : Nat) (mw : Int32) (ml : Int32) (mk : Int64) (dq : Int64) (f7 : Nat → Int32) (h20 : 20 ≤ sn) (hsn : sn ≤ 1000) (h7 : AB f7) : Met l y_Md_findEnd (Cond.code y_Md_findEnd b_Md_findEnd 3 (Option.some Jvm.ClassFile.FieldType.boolean) :: BIG) ({ frames := 0, cells := 0, slots := 0, locals := 0 }) (va_Pc [.ref mo] (fun U => U.heap.size = sz ∧ va_P (dC, dI) vcl [(mo, .inr (12, mdG r cd tm (nI sn) (nI tx) (nI lz) (nI az) (nI na) (nI nt) (nI nr) mw ml mk dq)), (r 7, .inl ((cT 0), 1000, .inl f7))] U.heap ∧ va_K (dC, dI) vcl (tyL cT) U ∧ va_D (fun _ => True) [(mo, .inr (12, mdG r cd tm (nI sn) (nI tx) (nI lz) (nI az) (nI na) (nI nt) (nI nr) mw ml mk dq)), (r 7, .inl ((cT 0), 1000, .inl f7))])) (va_Qi (S := Unit) (fun rv9 u => rv9 = 0 ∨ rv9 = 1) (fun u t => va_P (dC, dI) vcl [(mo, .inr (12, mdG r cd tm (nI sn) (nI tx) (nI lz) (nI az) (nI na) (nI nt) (nI nr) mw ml mk dq)), (r 7, .inl ((cT 0), 1000, .inl f7))] t.heap ∧ va_K (dC, dI) vcl (tyL cT) t ∧ va_D (va_A [(mo, .inr (12, mdG r cd tm (nI sn) (nI tx) (nI lz) (nI az) (nI na) (nI nt) (nI nr) mw ml mk dq)), (r 7, .inl ((cT 0), 1000, .inl f7))] sz) [(mo, .inr (12, mdG r cd tm (nI sn) (nI tx) (nI lz) (nI az) (nI na) (nI nt) (nI nr) mw ml mk dq)), (r 7, .inl ((cT 0), 1000, .inl f7))]) (va_A [(mo, .inr (12, mdG r cd tm (nI sn) (nI tx) (nI lz) (nI az) (nI na) (nI nt) (nI nr) mw ml mk dq)), (r 7, .inl ((cT 0), 1000, .inl f7))] sz)) 0 0 (va_A [(mo, .inr (12, mdG r cd tm (nI sn) (nI tx) (nI lz) (nI az) (nI na) (nI nt) (nI nr) mw ml mk dq)), (r 7, .inl ((cT 0), 1000, .inl f7))] sz) := by
  refine Met.ofW (cc := b_Md_findEnd) (maxL := 3) (ret := (Option.some Jvm.ClassFile.FieldType.boolean)) (by decide) rfl ?_
  intro p e s m args below meth c s₁ B hml hv
  obtain ⟨hargs, hsz, hP, hK, hD0⟩ := hv
  have hx := B.exec
  have hb := B.bytes
  have hr := B.returns
  have hts := atoms_spec (ws := (Cond.code y_Md_findEnd b_Md_findEnd 3 (Option.some Jvm.ClassFile.FieldType.boolean) :: BIG)) B.pre
  have hg : ∀ w ∈ BIG, w.before _ s = true := fun w h => hts w (List.mem_cons_of_mem _ h)
  have hown : s.vm.findClass "DoorServerModel" = some m.cls := findClass_of_methodNamed B.named
  have hlocks := B.notSynchronized
  subst hsz
  have hD := hD0.self (sz := s.heap.size)
  generalize hAe : va_A [(mo, .inr (12, mdG r cd tm (nI sn) (nI tx) (nI lz) (nI az) (nI na) (nI nt) (nI nr) mw ml mk dq)), (r 7, .inl ((cT 0), 1000, .inl f7))] s.heap.size = A at hD ⊢
  have hA : ∀ q : Nat, s.heap.size ≤ q → A q := fun q h => by rw [← hAe]; exact Or.inr h
  have hS : va_S A s.heap s.heap [] := va_S.rf
  have hl := lv_entry ([.ref mo]) (n := 3) (Nat.le_of_ble_eq_true rfl)
  refine W.eq (g2 := entryFrame m (List.toArray [.ref mo]) 3) (by rw [hargs]) ?_
  rw [lg_entry_eq]
  generalize (lg_sl ([.ref mo]) ++ List.replicate (3 - (lg_sl ([.ref mo])).length) Slot.unset).toArray = ls at hl ⊢
  have hl : lv_has ls 3 [(0, .ref mo)] := hl
  change W p l e ({ frames := 0, cells := 0, slots := 0, locals := 0 } : Room) s m args below meth c s.heap [] 0 0 _ _
  have hP : va_P (dC, dI) vcl [(mo, .inr (12, mdG r cd tm (nI sn) (nI tx) (nI lz) (nI az) (nI na) (nI nt) (nI nr) mw ml mk dq)), (r 7, .inl ((cT 0), 1000, .inl f7))] s.heap := hP
  refine lv_bipush (v := 20) hx hb d_Md_findEnd_0 (by decide) ?_
  refine lv_istore_n (lv' := [(1, .int 20), (0, .ref mo)]) hx hb d_Md_findEnd_2 rfl hl (by decide) rfl (fun ls hl => ?_)
  refine lv_iconst (v := 1) hx hb d_Md_findEnd_3 (by decide) ?_
  refine lv_istore_n (lv' := [(2, .int 1), (1, .int 20), (0, .ref mo)]) hx hb d_Md_findEnd_4 rfl hl (by decide) rfl (fun ls hl => ?_)
  have hl := lv_sub hl [0, 1, 2] (show _ = [(2, .int 1), (1, .int 20), (0, .ref mo)] from rfl)
  have L104 : ∀ (Q : State → Prop) (ex0 : ∀ (i : Nat) (gn : Nat) (H : Heap) (locs : List Loc) (ls : Array Slot), (gn ≤ 1) → va_P (dC, dI) vcl [(mo, .inr (12, mdG r cd tm (nI sn) (nI tx) (nI lz) (nI az) (nI na) (nI nt) (nI nr) mw ml mk dq)), (r 7, .inl ((cT 0), 1000, .inl f7))] H → va_D A [(mo, .inr (12, mdG r cd tm (nI sn) (nI tx) (nI lz) (nI az) (nI na) (nI nt) (nI nr) mw ml mk dq)), (r 7, .inl ((cT 0), 1000, .inl f7))] → va_S A s.heap H locs → lv_has ls 3 [(2, .int (nI gn)), (0, .ref mo)] → W p l e ({ frames := 0, cells := 0, slots := 0, locals := 0 } : Room) s m args below meth c H locs 0 0 Q (F0 m 84 ls [])) (jj105 : Nat) (i : Nat) (gn : Nat) (H : Heap) (locs : List Loc) (ls : Array Slot), sn - i + gn ≤ jj105 → (20 ≤ i ∧ i ≤ sn ∧ gn ≤ 1) → va_P (dC, dI) vcl [(mo, .inr (12, mdG r cd tm (nI sn) (nI tx) (nI lz) (nI az) (nI na) (nI nt) (nI nr) mw ml mk dq)), (r 7, .inl ((cT 0), 1000, .inl f7))] H → va_D A [(mo, .inr (12, mdG r cd tm (nI sn) (nI tx) (nI lz) (nI az) (nI na) (nI nt) (nI nr) mw ml mk dq)), (r 7, .inl ((cT 0), 1000, .inl f7))] → va_S A s.heap H locs → lv_has ls 3 [(2, .int (nI gn)), (1, .int (nI i)), (0, .ref mo)] → W p l e ({ frames := 0, cells := 0, slots := 0, locals := 0 } : Room) s m args below meth c H locs 0 0 Q (F0 m 5 ls []) := by
    intro Q ex0 jj105
    induction jj105 with
    | zero => 
      intro i gn H locs ls hm9 hi hP hD hS hl
      refine lv_iload_n hx hb d_Md_findEnd_5 rfl (lv_at hl 1 rfl) ?_
      refine lv_aload_n hx hb d_Md_findEnd_6 rfl (lv_at hl 2 rfl) ?_
      refine va_get (D := (dC, dI)) (ci := 12) (v := (.int (nI sn))) (C := R_Md) (T := F_Md) (N := 45) hx hb hg in_Md hown hK hP 0 rfl rfl 8 (by decide) (hg _ k_1028) (fun _ h9 => h9) rfl d_Md_findEnd_7 ?_
      refine lv_icmp_ge (tgt := 84) hx hb d_Md_findEnd_10 (by decide) (fun hc106 => ?_) (fun hc106 => ?_)
      · skip
        have n107 : sn ≤ i := (nI_leI (a := sn) (b := i) (by omega) (by omega)).mp hc106
        have hl := lv_sub hl [0, 2] (show _ = [(2, .int (nI gn)), (0, .ref mo)] from rfl)
        exact ex0 i gn _ _ _ (by omega) hP hD hS hl
      · skip
        have n108 : i < sn := Nat.not_le.mp (fun h7 => hc106 ((nI_leI (a := sn) (b := i) (by omega) (by omega)).mpr h7))
        refine lv_iload_n hx hb d_Md_findEnd_13 rfl (lv_at hl 0 rfl) ?_
        refine lv_if_eq (tgt := 84) hx hb d_Md_findEnd_14 (by decide) (fun hc109 => ?_) (fun hc109 => ?_)
        · skip
          have n110 : gn = 0 := (nI_eq (a := gn) (b := 0) (by omega) (by omega)).mp hc109
          have hl := lv_sub hl [0, 2] (show _ = [(2, .int (nI gn)), (0, .ref mo)] from rfl)
          exact ex0 i gn _ _ _ (by omega) hP hD hS hl
        · skip
          have n111 : ¬ gn = 0 := fun h7 => hc109 ((nI_eq (a := gn) (b := 0) (by omega) (by omega)).mpr h7)
          refine lv_iload_n hx hb d_Md_findEnd_17 rfl (lv_at hl 1 rfl) ?_
          refine lv_iconst (v := 1) hx hb d_Md_findEnd_18 (by decide) ?_
          refine lv_iadd hx hb d_Md_findEnd_19 ?_
          refine lv_topi (fun x113 e112 => ?_)
          obtain rfl : x113 = nI (i + 1) := by rw [e112]; exact nI_add i 1
          refine lv_aload_n hx hb d_Md_findEnd_20 rfl (lv_at hl 2 rfl) ?_
          refine va_get (D := (dC, dI)) (ci := 12) (v := (.int (nI sn))) (C := R_Md) (T := F_Md) (N := 45) hx hb hg in_Md hown hK hP 0 rfl rfl 8 (by decide) (hg _ k_1028) (fun _ h9 => h9) rfl d_Md_findEnd_21 ?_
          refine lv_icmp_ge (tgt := 60) hx hb d_Md_findEnd_24 (by decide) (fun hc114 => ?_) (fun hc114 => ?_)
          · skip
            have n115 : sn ≤ i + 1 := (nI_leI (a := sn) (b := i + 1) (by omega) (by omega)).mp hc114
            refine lv_iconst (v := 0) hx hb d_Md_findEnd_60 (by decide) ?_
            refine lv_istore_n (lv' := [(2, .int 0), (1, .int (nI i)), (0, .ref mo)]) hx hb d_Md_findEnd_61 rfl hl (by decide) rfl (fun ls hl => ?_)
            refine lv_iload_n hx hb d_Md_findEnd_62 rfl (lv_at hl 1 rfl) ?_
            refine lv_iload_n hx hb d_Md_findEnd_63 rfl (lv_at hl 0 rfl) ?_
            refine lv_if_eq (tgt := 78) hx hb d_Md_findEnd_64 (by decide) (fun hc117 => ?_) (fun hn9 => absurd (by decide) hn9)
            refine lv_iconst (v := 0) hx hb d_Md_findEnd_78 (by decide) ?_
            refine lv_iadd hx hb d_Md_findEnd_79 ?_
            refine lv_topi (fun x119 e118 => ?_)
            obtain rfl : x119 = nI (i + 0) := by rw [e118]; exact nI_add i 0
            refine lv_istore_n (lv' := [(1, .int (nI (i + 0))), (2, .int 0), (0, .ref mo)]) hx hb d_Md_findEnd_80 rfl hl (by decide) rfl (fun ls hl => ?_)
            refine lv_goto (tgt := 5) hx hb d_Md_findEnd_81 (by decide) ?_
            have hl := lv_sub hl [1, 0, 2] (show _ = [(2, .int 0), (1, .int (nI (i + 0))), (0, .ref mo)] from rfl)
            exfalso; omega
          · skip
            have n116 : i + 1 < sn := Nat.not_le.mp (fun h7 => hc114 ((nI_leI (a := sn) (b := i + 1) (by omega) (by omega)).mpr h7))
            refine lv_aload_n hx hb d_Md_findEnd_27 rfl (lv_at hl 2 rfl) ?_
            refine va_get (D := (dC, dI)) (ci := 12) (v := (.ref (r 7))) (C := R_Md) (T := F_Md) (N := 45) hx hb hg in_Md hown hK hP 0 rfl rfl 7 (by decide) (hg _ k_1027) (fun _ h9 => h9) rfl d_Md_findEnd_28 ?_
            refine lv_iload_n hx hb d_Md_findEnd_31 rfl (lv_at hl 1 rfl) ?_
            refine lv_iconst (v := 1) hx hb d_Md_findEnd_32 (by decide) ?_
            refine lv_iadd hx hb d_Md_findEnd_33 ?_
            refine lv_topi (fun x121 e120 => ?_)
            obtain rfl : x121 = nI (i + 1) := by rw [e120]; exact nI_add i 1
            obtain ⟨t122, ht122, xt122⟩ := h7 (i + 1)
            refine va_iald hx hb hK hP 1 0 rfl rfl (i := (nI (i + 1))) (vp_in_nI (N := 1000) (by omega) (by decide)) d_Md_findEnd_34 ?_
            refine lv_topi (fun x124 e123 => ?_)
            obtain rfl : x124 = nI t122 := by rw [e123]; rw [nI_clamp (by omega)]; exact xt122
            refine lv_iconst (v := 2) hx hb d_Md_findEnd_35 (by decide) ?_
            refine lv_icmp_le (tgt := 60) hx hb d_Md_findEnd_36 (by decide) (fun hc125 => ?_) (fun hc125 => ?_)
            · skip
              have n126 : t122 ≤ 2 := (nI_leI (a := t122) (b := 2) (by omega) (by omega)).mp hc125
              refine lv_iconst (v := 0) hx hb d_Md_findEnd_60 (by decide) ?_
              refine lv_istore_n (lv' := [(2, .int 0), (1, .int (nI i)), (0, .ref mo)]) hx hb d_Md_findEnd_61 rfl hl (by decide) rfl (fun ls hl => ?_)
              refine lv_iload_n hx hb d_Md_findEnd_62 rfl (lv_at hl 1 rfl) ?_
              refine lv_iload_n hx hb d_Md_findEnd_63 rfl (lv_at hl 0 rfl) ?_
              refine lv_if_eq (tgt := 78) hx hb d_Md_findEnd_64 (by decide) (fun hc128 => ?_) (fun hn9 => absurd (by decide) hn9)
              refine lv_iconst (v := 0) hx hb d_Md_findEnd_78 (by decide) ?_
              refine lv_iadd hx hb d_Md_findEnd_79 ?_
              refine lv_topi (fun x130 e129 => ?_)
              obtain rfl : x130 = nI (i + 0) := by rw [e129]; exact nI_add i 0
              refine lv_istore_n (lv' := [(1, .int (nI (i + 0))), (2, .int 0), (0, .ref mo)]) hx hb d_Md_findEnd_80 rfl hl (by decide) rfl (fun ls hl => ?_)
              refine lv_goto (tgt := 5) hx hb d_Md_findEnd_81 (by decide) ?_
              have hl := lv_sub hl [1, 0, 2] (show _ = [(2, .int 0), (1, .int (nI (i + 0))), (0, .ref mo)] from rfl)
              exfalso; omega
            · skip
              have n127 : 2 < t122 := Nat.not_le.mp (fun h7 => hc125 ((nI_leI (a := t122) (b := 2) (by omega) (by omega)).mpr h7))
              refine lv_iload_n hx hb d_Md_findEnd_39 rfl (lv_at hl 1 rfl) ?_
              refine lv_aload_n hx hb d_Md_findEnd_40 rfl (lv_at hl 2 rfl) ?_
              refine va_get (D := (dC, dI)) (ci := 12) (v := (.ref (r 7))) (C := R_Md) (T := F_Md) (N := 45) hx hb hg in_Md hown hK hP 0 rfl rfl 7 (by decide) (hg _ k_1027) (fun _ h9 => h9) rfl d_Md_findEnd_41 ?_
              refine lv_iload_n hx hb d_Md_findEnd_44 rfl (lv_at hl 1 rfl) ?_
              refine lv_iconst (v := 1) hx hb d_Md_findEnd_45 (by decide) ?_
              refine lv_iadd hx hb d_Md_findEnd_46 ?_
              refine lv_topi (fun x132 e131 => ?_)
              obtain rfl : x132 = nI (i + 1) := by rw [e131]; exact nI_add i 1
              refine va_iald hx hb hK hP 1 0 rfl rfl (i := (nI (i + 1))) (vp_in_nI (N := 1000) (by omega) (by decide)) d_Md_findEnd_47 ?_
              refine lv_topi (fun x134 e133 => ?_)
              obtain rfl : x134 = nI t122 := by rw [e133]; rw [nI_clamp (by omega)]; exact xt122
              refine lv_iadd hx hb d_Md_findEnd_48 ?_
              refine lv_topi (fun x136 e135 => ?_)
              obtain rfl : x136 = nI (i + t122) := by rw [e135]; exact nI_add i t122
              refine lv_aload_n hx hb d_Md_findEnd_49 rfl (lv_at hl 2 rfl) ?_
              refine va_get (D := (dC, dI)) (ci := 12) (v := (.int (nI sn))) (C := R_Md) (T := F_Md) (N := 45) hx hb hg in_Md hown hK hP 0 rfl rfl 8 (by decide) (hg _ k_1028) (fun _ h9 => h9) rfl d_Md_findEnd_50 ?_
              refine lv_icmp_gt (tgt := 60) hx hb d_Md_findEnd_53 (by decide) (fun hc137 => ?_) (fun hc137 => ?_)
              · skip
                have n138 : sn < i + t122 := (nI_ltI (a := sn) (b := i + t122) (by omega) (by omega)).mp hc137
                refine lv_iconst (v := 0) hx hb d_Md_findEnd_60 (by decide) ?_
                refine lv_istore_n (lv' := [(2, .int 0), (1, .int (nI i)), (0, .ref mo)]) hx hb d_Md_findEnd_61 rfl hl (by decide) rfl (fun ls hl => ?_)
                refine lv_iload_n hx hb d_Md_findEnd_62 rfl (lv_at hl 1 rfl) ?_
                refine lv_iload_n hx hb d_Md_findEnd_63 rfl (lv_at hl 0 rfl) ?_
                refine lv_if_eq (tgt := 78) hx hb d_Md_findEnd_64 (by decide) (fun hc140 => ?_) (fun hn9 => absurd (by decide) hn9)
                refine lv_iconst (v := 0) hx hb d_Md_findEnd_78 (by decide) ?_
                refine lv_iadd hx hb d_Md_findEnd_79 ?_
                refine lv_topi (fun x142 e141 => ?_)
                obtain rfl : x142 = nI (i + 0) := by rw [e141]; exact nI_add i 0
                refine lv_istore_n (lv' := [(1, .int (nI (i + 0))), (2, .int 0), (0, .ref mo)]) hx hb d_Md_findEnd_80 rfl hl (by decide) rfl (fun ls hl => ?_)
                refine lv_goto (tgt := 5) hx hb d_Md_findEnd_81 (by decide) ?_
                have hl := lv_sub hl [1, 0, 2] (show _ = [(2, .int 0), (1, .int (nI (i + 0))), (0, .ref mo)] from rfl)
                exfalso; omega
              · skip
                have n139 : i + t122 ≤ sn := Nat.not_lt.mp (fun h7 => hc137 ((nI_ltI (a := sn) (b := i + t122) (by omega) (by omega)).mpr h7))
                refine lv_iconst (v := 1) hx hb d_Md_findEnd_56 (by decide) ?_
                refine lv_goto (tgt := 61) hx hb d_Md_findEnd_57 (by decide) ?_
                refine lv_istore_n (lv' := [(2, .int 1), (1, .int (nI i)), (0, .ref mo)]) hx hb d_Md_findEnd_61 rfl hl (by decide) rfl (fun ls hl => ?_)
                refine lv_iload_n hx hb d_Md_findEnd_62 rfl (lv_at hl 1 rfl) ?_
                refine lv_iload_n hx hb d_Md_findEnd_63 rfl (lv_at hl 0 rfl) ?_
                refine lv_if_eq (tgt := 78) hx hb d_Md_findEnd_64 (by decide) (fun hn9 => absurd hn9 (by decide)) (fun hc143 => ?_)
                refine lv_aload_n hx hb d_Md_findEnd_67 rfl (lv_at hl 2 rfl) ?_
                refine va_get (D := (dC, dI)) (ci := 12) (v := (.ref (r 7))) (C := R_Md) (T := F_Md) (N := 45) hx hb hg in_Md hown hK hP 0 rfl rfl 7 (by decide) (hg _ k_1027) (fun _ h9 => h9) rfl d_Md_findEnd_68 ?_
                refine lv_iload_n hx hb d_Md_findEnd_71 rfl (lv_at hl 1 rfl) ?_
                refine lv_iconst (v := 1) hx hb d_Md_findEnd_72 (by decide) ?_
                refine lv_iadd hx hb d_Md_findEnd_73 ?_
                refine lv_topi (fun x145 e144 => ?_)
                obtain rfl : x145 = nI (i + 1) := by rw [e144]; exact nI_add i 1
                refine va_iald hx hb hK hP 1 0 rfl rfl (i := (nI (i + 1))) (vp_in_nI (N := 1000) (by omega) (by decide)) d_Md_findEnd_74 ?_
                refine lv_topi (fun x147 e146 => ?_)
                obtain rfl : x147 = nI t122 := by rw [e146]; rw [nI_clamp (by omega)]; exact xt122
                refine lv_goto (tgt := 79) hx hb d_Md_findEnd_75 (by decide) ?_
                refine lv_iadd hx hb d_Md_findEnd_79 ?_
                refine lv_topi (fun x149 e148 => ?_)
                obtain rfl : x149 = nI (i + t122) := by rw [e148]; exact nI_add i t122
                refine lv_istore_n (lv' := [(1, .int (nI (i + t122))), (2, .int 1), (0, .ref mo)]) hx hb d_Md_findEnd_80 rfl hl (by decide) rfl (fun ls hl => ?_)
                refine lv_goto (tgt := 5) hx hb d_Md_findEnd_81 (by decide) ?_
                have hl := lv_sub hl [1, 0, 2] (show _ = [(2, .int 1), (1, .int (nI (i + t122))), (0, .ref mo)] from rfl)
                exfalso; omega
    | succ jj105 ih => 
      intro i gn H locs ls hm9 hi hP hD hS hl
      refine lv_iload_n hx hb d_Md_findEnd_5 rfl (lv_at hl 1 rfl) ?_
      refine lv_aload_n hx hb d_Md_findEnd_6 rfl (lv_at hl 2 rfl) ?_
      refine va_get (D := (dC, dI)) (ci := 12) (v := (.int (nI sn))) (C := R_Md) (T := F_Md) (N := 45) hx hb hg in_Md hown hK hP 0 rfl rfl 8 (by decide) (hg _ k_1028) (fun _ h9 => h9) rfl d_Md_findEnd_7 ?_
      refine lv_icmp_ge (tgt := 84) hx hb d_Md_findEnd_10 (by decide) (fun hc150 => ?_) (fun hc150 => ?_)
      · skip
        have n151 : sn ≤ i := (nI_leI (a := sn) (b := i) (by omega) (by omega)).mp hc150
        have hl := lv_sub hl [0, 2] (show _ = [(2, .int (nI gn)), (0, .ref mo)] from rfl)
        exact ex0 i gn _ _ _ (by omega) hP hD hS hl
      · skip
        have n152 : i < sn := Nat.not_le.mp (fun h7 => hc150 ((nI_leI (a := sn) (b := i) (by omega) (by omega)).mpr h7))
        refine lv_iload_n hx hb d_Md_findEnd_13 rfl (lv_at hl 0 rfl) ?_
        refine lv_if_eq (tgt := 84) hx hb d_Md_findEnd_14 (by decide) (fun hc153 => ?_) (fun hc153 => ?_)
        · skip
          have n154 : gn = 0 := (nI_eq (a := gn) (b := 0) (by omega) (by omega)).mp hc153
          have hl := lv_sub hl [0, 2] (show _ = [(2, .int (nI gn)), (0, .ref mo)] from rfl)
          exact ex0 i gn _ _ _ (by omega) hP hD hS hl
        · skip
          have n155 : ¬ gn = 0 := fun h7 => hc153 ((nI_eq (a := gn) (b := 0) (by omega) (by omega)).mpr h7)
          refine lv_iload_n hx hb d_Md_findEnd_17 rfl (lv_at hl 1 rfl) ?_
          refine lv_iconst (v := 1) hx hb d_Md_findEnd_18 (by decide) ?_
          refine lv_iadd hx hb d_Md_findEnd_19 ?_
          refine lv_topi (fun x157 e156 => ?_)
          obtain rfl : x157 = nI (i + 1) := by rw [e156]; exact nI_add i 1
          refine lv_aload_n hx hb d_Md_findEnd_20 rfl (lv_at hl 2 rfl) ?_
          refine va_get (D := (dC, dI)) (ci := 12) (v := (.int (nI sn))) (C := R_Md) (T := F_Md) (N := 45) hx hb hg in_Md hown hK hP 0 rfl rfl 8 (by decide) (hg _ k_1028) (fun _ h9 => h9) rfl d_Md_findEnd_21 ?_
          refine lv_icmp_ge (tgt := 60) hx hb d_Md_findEnd_24 (by decide) (fun hc158 => ?_) (fun hc158 => ?_)
          · skip
            have n159 : sn ≤ i + 1 := (nI_leI (a := sn) (b := i + 1) (by omega) (by omega)).mp hc158
            refine lv_iconst (v := 0) hx hb d_Md_findEnd_60 (by decide) ?_
            refine lv_istore_n (lv' := [(2, .int 0), (1, .int (nI i)), (0, .ref mo)]) hx hb d_Md_findEnd_61 rfl hl (by decide) rfl (fun ls hl => ?_)
            refine lv_iload_n hx hb d_Md_findEnd_62 rfl (lv_at hl 1 rfl) ?_
            refine lv_iload_n hx hb d_Md_findEnd_63 rfl (lv_at hl 0 rfl) ?_
            refine lv_if_eq (tgt := 78) hx hb d_Md_findEnd_64 (by decide) (fun hc161 => ?_) (fun hn9 => absurd (by decide) hn9)
            refine lv_iconst (v := 0) hx hb d_Md_findEnd_78 (by decide) ?_
            refine lv_iadd hx hb d_Md_findEnd_79 ?_
            refine lv_topi (fun x163 e162 => ?_)
            obtain rfl : x163 = nI (i + 0) := by rw [e162]; exact nI_add i 0
            refine lv_istore_n (lv' := [(1, .int (nI (i + 0))), (2, .int 0), (0, .ref mo)]) hx hb d_Md_findEnd_80 rfl hl (by decide) rfl (fun ls hl => ?_)
            refine lv_goto (tgt := 5) hx hb d_Md_findEnd_81 (by decide) ?_
            have hl := lv_sub hl [1, 0, 2] (show _ = [(2, .int 0), (1, .int (nI (i + 0))), (0, .ref mo)] from rfl)
            exact ih (i + 0) 0 _ _ _ (by omega) (⟨by omega, by omega, by omega⟩) hP hD hS hl
          · skip
            have n160 : i + 1 < sn := Nat.not_le.mp (fun h7 => hc158 ((nI_leI (a := sn) (b := i + 1) (by omega) (by omega)).mpr h7))
            refine lv_aload_n hx hb d_Md_findEnd_27 rfl (lv_at hl 2 rfl) ?_
            refine va_get (D := (dC, dI)) (ci := 12) (v := (.ref (r 7))) (C := R_Md) (T := F_Md) (N := 45) hx hb hg in_Md hown hK hP 0 rfl rfl 7 (by decide) (hg _ k_1027) (fun _ h9 => h9) rfl d_Md_findEnd_28 ?_
            refine lv_iload_n hx hb d_Md_findEnd_31 rfl (lv_at hl 1 rfl) ?_
            refine lv_iconst (v := 1) hx hb d_Md_findEnd_32 (by decide) ?_
            refine lv_iadd hx hb d_Md_findEnd_33 ?_
            refine lv_topi (fun x165 e164 => ?_)
            obtain rfl : x165 = nI (i + 1) := by rw [e164]; exact nI_add i 1
            obtain ⟨t166, ht166, xt166⟩ := h7 (i + 1)
            refine va_iald hx hb hK hP 1 0 rfl rfl (i := (nI (i + 1))) (vp_in_nI (N := 1000) (by omega) (by decide)) d_Md_findEnd_34 ?_
            refine lv_topi (fun x168 e167 => ?_)
            obtain rfl : x168 = nI t166 := by rw [e167]; rw [nI_clamp (by omega)]; exact xt166
            refine lv_iconst (v := 2) hx hb d_Md_findEnd_35 (by decide) ?_
            refine lv_icmp_le (tgt := 60) hx hb d_Md_findEnd_36 (by decide) (fun hc169 => ?_) (fun hc169 => ?_)
            · skip
              have n170 : t166 ≤ 2 := (nI_leI (a := t166) (b := 2) (by omega) (by omega)).mp hc169
              refine lv_iconst (v := 0) hx hb d_Md_findEnd_60 (by decide) ?_
              refine lv_istore_n (lv' := [(2, .int 0), (1, .int (nI i)), (0, .ref mo)]) hx hb d_Md_findEnd_61 rfl hl (by decide) rfl (fun ls hl => ?_)
              refine lv_iload_n hx hb d_Md_findEnd_62 rfl (lv_at hl 1 rfl) ?_
              refine lv_iload_n hx hb d_Md_findEnd_63 rfl (lv_at hl 0 rfl) ?_
              refine lv_if_eq (tgt := 78) hx hb d_Md_findEnd_64 (by decide) (fun hc172 => ?_) (fun hn9 => absurd (by decide) hn9)
              refine lv_iconst (v := 0) hx hb d_Md_findEnd_78 (by decide) ?_
              refine lv_iadd hx hb d_Md_findEnd_79 ?_
              refine lv_topi (fun x174 e173 => ?_)
              obtain rfl : x174 = nI (i + 0) := by rw [e173]; exact nI_add i 0
              refine lv_istore_n (lv' := [(1, .int (nI (i + 0))), (2, .int 0), (0, .ref mo)]) hx hb d_Md_findEnd_80 rfl hl (by decide) rfl (fun ls hl => ?_)
              refine lv_goto (tgt := 5) hx hb d_Md_findEnd_81 (by decide) ?_
              have hl := lv_sub hl [1, 0, 2] (show _ = [(2, .int 0), (1, .int (nI (i + 0))), (0, .ref mo)] from rfl)
              exact ih (i + 0) 0 _ _ _ (by omega) (⟨by omega, by omega, by omega⟩) hP hD hS hl
            · skip
              have n171 : 2 < t166 := Nat.not_le.mp (fun h7 => hc169 ((nI_leI (a := t166) (b := 2) (by omega) (by omega)).mpr h7))
              refine lv_iload_n hx hb d_Md_findEnd_39 rfl (lv_at hl 1 rfl) ?_
              refine lv_aload_n hx hb d_Md_findEnd_40 rfl (lv_at hl 2 rfl) ?_
              refine va_get (D := (dC, dI)) (ci := 12) (v := (.ref (r 7))) (C := R_Md) (T := F_Md) (N := 45) hx hb hg in_Md hown hK hP 0 rfl rfl 7 (by decide) (hg _ k_1027) (fun _ h9 => h9) rfl d_Md_findEnd_41 ?_
              refine lv_iload_n hx hb d_Md_findEnd_44 rfl (lv_at hl 1 rfl) ?_
              refine lv_iconst (v := 1) hx hb d_Md_findEnd_45 (by decide) ?_
              refine lv_iadd hx hb d_Md_findEnd_46 ?_
              refine lv_topi (fun x176 e175 => ?_)
              obtain rfl : x176 = nI (i + 1) := by rw [e175]; exact nI_add i 1
              refine va_iald hx hb hK hP 1 0 rfl rfl (i := (nI (i + 1))) (vp_in_nI (N := 1000) (by omega) (by decide)) d_Md_findEnd_47 ?_
              refine lv_topi (fun x178 e177 => ?_)
              obtain rfl : x178 = nI t166 := by rw [e177]; rw [nI_clamp (by omega)]; exact xt166
              refine lv_iadd hx hb d_Md_findEnd_48 ?_
              refine lv_topi (fun x180 e179 => ?_)
              obtain rfl : x180 = nI (i + t166) := by rw [e179]; exact nI_add i t166
              refine lv_aload_n hx hb d_Md_findEnd_49 rfl (lv_at hl 2 rfl) ?_
              refine va_get (D := (dC, dI)) (ci := 12) (v := (.int (nI sn))) (C := R_Md) (T := F_Md) (N := 45) hx hb hg in_Md hown hK hP 0 rfl rfl 8 (by decide) (hg _ k_1028) (fun _ h9 => h9) rfl d_Md_findEnd_50 ?_
              refine lv_icmp_gt (tgt := 60) hx hb d_Md_findEnd_53 (by decide) (fun hc181 => ?_) (fun hc181 => ?_)
              · skip
                have n182 : sn < i + t166 := (nI_ltI (a := sn) (b := i + t166) (by omega) (by omega)).mp hc181
                refine lv_iconst (v := 0) hx hb d_Md_findEnd_60 (by decide) ?_
                refine lv_istore_n (lv' := [(2, .int 0), (1, .int (nI i)), (0, .ref mo)]) hx hb d_Md_findEnd_61 rfl hl (by decide) rfl (fun ls hl => ?_)
                refine lv_iload_n hx hb d_Md_findEnd_62 rfl (lv_at hl 1 rfl) ?_
                refine lv_iload_n hx hb d_Md_findEnd_63 rfl (lv_at hl 0 rfl) ?_
                refine lv_if_eq (tgt := 78) hx hb d_Md_findEnd_64 (by decide) (fun hc184 => ?_) (fun hn9 => absurd (by decide) hn9)
                refine lv_iconst (v := 0) hx hb d_Md_findEnd_78 (by decide) ?_
                refine lv_iadd hx hb d_Md_findEnd_79 ?_
                refine lv_topi (fun x186 e185 => ?_)
                obtain rfl : x186 = nI (i + 0) := by rw [e185]; exact nI_add i 0
                refine lv_istore_n (lv' := [(1, .int (nI (i + 0))), (2, .int 0), (0, .ref mo)]) hx hb d_Md_findEnd_80 rfl hl (by decide) rfl (fun ls hl => ?_)
                refine lv_goto (tgt := 5) hx hb d_Md_findEnd_81 (by decide) ?_
                have hl := lv_sub hl [1, 0, 2] (show _ = [(2, .int 0), (1, .int (nI (i + 0))), (0, .ref mo)] from rfl)
                exact ih (i + 0) 0 _ _ _ (by omega) (⟨by omega, by omega, by omega⟩) hP hD hS hl
              · skip
                have n183 : i + t166 ≤ sn := Nat.not_lt.mp (fun h7 => hc181 ((nI_ltI (a := sn) (b := i + t166) (by omega) (by omega)).mpr h7))
                refine lv_iconst (v := 1) hx hb d_Md_findEnd_56 (by decide) ?_
                refine lv_goto (tgt := 61) hx hb d_Md_findEnd_57 (by decide) ?_
                refine lv_istore_n (lv' := [(2, .int 1), (1, .int (nI i)), (0, .ref mo)]) hx hb d_Md_findEnd_61 rfl hl (by decide) rfl (fun ls hl => ?_)
                refine lv_iload_n hx hb d_Md_findEnd_62 rfl (lv_at hl 1 rfl) ?_
                refine lv_iload_n hx hb d_Md_findEnd_63 rfl (lv_at hl 0 rfl) ?_
                refine lv_if_eq (tgt := 78) hx hb d_Md_findEnd_64 (by decide) (fun hn9 => absurd hn9 (by decide)) (fun hc187 => ?_)
                refine lv_aload_n hx hb d_Md_findEnd_67 rfl (lv_at hl 2 rfl) ?_
                refine va_get (D := (dC, dI)) (ci := 12) (v := (.ref (r 7))) (C := R_Md) (T := F_Md) (N := 45) hx hb hg in_Md hown hK hP 0 rfl rfl 7 (by decide) (hg _ k_1027) (fun _ h9 => h9) rfl d_Md_findEnd_68 ?_
                refine lv_iload_n hx hb d_Md_findEnd_71 rfl (lv_at hl 1 rfl) ?_
                refine lv_iconst (v := 1) hx hb d_Md_findEnd_72 (by decide) ?_
                refine lv_iadd hx hb d_Md_findEnd_73 ?_
                refine lv_topi (fun x189 e188 => ?_)
                obtain rfl : x189 = nI (i + 1) := by rw [e188]; exact nI_add i 1
                refine va_iald hx hb hK hP 1 0 rfl rfl (i := (nI (i + 1))) (vp_in_nI (N := 1000) (by omega) (by decide)) d_Md_findEnd_74 ?_
                refine lv_topi (fun x191 e190 => ?_)
                obtain rfl : x191 = nI t166 := by rw [e190]; rw [nI_clamp (by omega)]; exact xt166
                refine lv_goto (tgt := 79) hx hb d_Md_findEnd_75 (by decide) ?_
                refine lv_iadd hx hb d_Md_findEnd_79 ?_
                refine lv_topi (fun x193 e192 => ?_)
                obtain rfl : x193 = nI (i + t166) := by rw [e192]; exact nI_add i t166
                refine lv_istore_n (lv' := [(1, .int (nI (i + t166))), (2, .int 1), (0, .ref mo)]) hx hb d_Md_findEnd_80 rfl hl (by decide) rfl (fun ls hl => ?_)
                refine lv_goto (tgt := 5) hx hb d_Md_findEnd_81 (by decide) ?_
                have hl := lv_sub hl [1, 0, 2] (show _ = [(2, .int 1), (1, .int (nI (i + t166))), (0, .ref mo)] from rfl)
                exact ih (i + t166) 1 _ _ _ (by omega) (⟨by omega, by omega, by omega⟩) hP hD hS hl
  refine L104 _ (fun i gn H locs ls hg1 hP hD hS hl => ?_) (sn - 20 + 1) 20 1 s.heap _ ls (Nat.le_refl _) (⟨by omega, by omega, by omega⟩) hP hD hS hl
  · skip
    refine lv_iload_n hx hb d_Md_findEnd_84 rfl (lv_at hl 0 rfl) ?_
    have hg2 : gn = 0 ∨ gn = 1 := by omega
    rcases hg2 with rfl | rfl
    · skip
      refine lv_topi (fun x195 e194 => ?_)
      obtain rfl : x195 = 0 := by rw [e194]; rfl
      have hP9 := hP.sub (ws' := [(mo, .inr (12, mdG r cd tm (nI sn) (nI tx) (nI lz) (nI az) (nI na) (nI nt) (nI nr) mw ml mk dq)), (r 7, .inl ((cT 0), 1000, .inl f7))]) [0, 1] rfl
      have hD9 := hD.sub (ws' := [(mo, .inr (12, mdG r cd tm (nI sn) (nI tx) (nI lz) (nI az) (nI na) (nI nt) (nI nr) mw ml mk dq)), (r 7, .inl ((cT 0), 1000, .inl f7))]) [0, 1] (by decide) rfl
      exact W.zret (v := 0) hx hb hr (by first | rfl | decide) (fun t ht hW => ⟨⟨_, (), rfl, Or.inl rfl, by rw [ht]; exact hP9, va_K.moved hW.alike hK, hD9⟩, hS.F ht⟩) hS.2.2 d_Md_findEnd_85
    · skip
      refine lv_topi (fun x197 e196 => ?_)
      obtain rfl : x197 = 1 := by rw [e196]; rfl
      have hP9 := hP.sub (ws' := [(mo, .inr (12, mdG r cd tm (nI sn) (nI tx) (nI lz) (nI az) (nI na) (nI nt) (nI nr) mw ml mk dq)), (r 7, .inl ((cT 0), 1000, .inl f7))]) [0, 1] rfl
      have hD9 := hD.sub (ws' := [(mo, .inr (12, mdG r cd tm (nI sn) (nI tx) (nI lz) (nI az) (nI na) (nI nt) (nI nr) mw ml mk dq)), (r 7, .inl ((cT 0), 1000, .inl f7))]) [0, 1] (by decide) rfl
      exact W.zret (v := 1) hx hb hr (by first | rfl | decide) (fun t ht hW => ⟨⟨_, (), rfl, Or.inr rfl, by rw [ht]; exact hP9, va_K.moved hW.alike hK, hD9⟩, hS.F ht⟩) hS.2.2 d_Md_findEnd_85
set_option maxHeartbeats 4000000 in
set_option maxRecDepth 100000 in
/-- isWhole -/
theorem m_isWhole (l : Launch) (dC : Nat → ClassId) (dI : Nat → Nat → Nat) (cT : Nat → ClassId) (sz : Nat) (mo : Nat) (r : Nat → Nat) (cd : Int32) (tm : Int32) (sn : Nat) (tx : Nat) (lz : Nat) (az : Nat) (na : Nat) (nt : Nat) (nr : Nat) (mw : Int32) (ml : Int32) (mk : Int64) (dq : Int64) (f7 : Nat → Int32) (h20 : 20 ≤ sn) (hsn : sn ≤ 1000) (h7 : AB f7) : Met l y_Md_isWhole (Cond.code y_Md_isWhole b_Md_isWhole 3 (Option.some Jvm.ClassFile.FieldType.boolean) :: BIG) ({ frames := 2, cells := 0, slots := 0, locals := 46 }) (va_Pc [.ref mo] (fun U => U.heap.size = sz ∧ va_P (dC, dI) vcl [(mo, .inr (12, mdG r cd tm (nI sn) (nI tx) (nI lz) (nI az) (nI na) (nI nt) (nI nr) mw ml mk dq)), (r 7, .inl ((cT 0), 1000, .inl f7))] U.heap ∧ va_K (dC, dI) vcl (tyL cT) U ∧ va_D (fun _ => True) [(mo, .inr (12, mdG r cd tm (nI sn) (nI tx) (nI lz) (nI az) (nI na) (nI nt) (nI nr) mw ml mk dq)), (r 7, .inl ((cT 0), 1000, .inl f7))])) (va_Qi (S := Unit) (fun rv9 u => rv9 = 0 ∨ rv9 = 1) (fun u t => va_P (dC, dI) vcl [(mo, .inr (12, mdG r cd tm (nI sn) (nI tx) (nI lz) (nI az) (nI na) (nI nt) (nI nr) mw ml mk dq)), (r 7, .inl ((cT 0), 1000, .inl f7))] t.heap ∧ va_K (dC, dI) vcl (tyL cT) t ∧ va_D (va_A [(mo, .inr (12, mdG r cd tm (nI sn) (nI tx) (nI lz) (nI az) (nI na) (nI nt) (nI nr) mw ml mk dq)), (r 7, .inl ((cT 0), 1000, .inl f7))] sz) [(mo, .inr (12, mdG r cd tm (nI sn) (nI tx) (nI lz) (nI az) (nI na) (nI nt) (nI nr) mw ml mk dq)), (r 7, .inl ((cT 0), 1000, .inl f7))]) (va_A [(mo, .inr (12, mdG r cd tm (nI sn) (nI tx) (nI lz) (nI az) (nI na) (nI nt) (nI nr) mw ml mk dq)), (r 7, .inl ((cT 0), 1000, .inl f7))] sz)) 0 0 (va_A [(mo, .inr (12, mdG r cd tm (nI sn) (nI tx) (nI lz) (nI az) (nI na) (nI nt) (nI nr) mw ml mk dq)), (r 7, .inl ((cT 0), 1000, .inl f7))] sz) := by
  refine Met.ofW (cc := b_Md_isWhole) (maxL := 3) (ret := (Option.some Jvm.ClassFile.FieldType.boolean)) (by decide) rfl ?_
  intro p e s m args below meth c s₁ B hml hv
  obtain ⟨hargs, hsz, hP, hK, hD0⟩ := hv
  have hx := B.exec
  have hb := B.bytes
  have hr := B.returns
  have hts := atoms_spec (ws := (Cond.code y_Md_isWhole b_Md_isWhole 3 (Option.some Jvm.ClassFile.FieldType.boolean) :: BIG)) B.pre
  have hg : ∀ w ∈ BIG, w.before _ s = true := fun w h => hts w (List.mem_cons_of_mem _ h)
  have hown : s.vm.findClass "DoorServerModel" = some m.cls := findClass_of_methodNamed B.named
  have hlocks := B.notSynchronized
  subst hsz
  have hD := hD0.self (sz := s.heap.size)
  generalize hAe : va_A [(mo, .inr (12, mdG r cd tm (nI sn) (nI tx) (nI lz) (nI az) (nI na) (nI nt) (nI nr) mw ml mk dq)), (r 7, .inl ((cT 0), 1000, .inl f7))] s.heap.size = A at hD ⊢
  have hA : ∀ q : Nat, s.heap.size ≤ q → A q := fun q h => by rw [← hAe]; exact Or.inr h
  have hS : va_S A s.heap s.heap [] := va_S.rf
  have hl := lv_entry ([.ref mo]) (n := 3) (Nat.le_of_ble_eq_true rfl)
  refine W.eq (g2 := entryFrame m (List.toArray [.ref mo]) 3) (by rw [hargs]) ?_
  rw [lg_entry_eq]
  generalize (lg_sl ([.ref mo]) ++ List.replicate (3 - (lg_sl ([.ref mo])).length) Slot.unset).toArray = ls at hl ⊢
  have hl : lv_has ls 3 [(0, .ref mo)] := hl
  change W p l e ({ frames := 2, cells := 0, slots := 0, locals := 46 } : Room) s m args below meth c s.heap [] 0 0 _ _
  have hP : va_P (dC, dI) vcl [(mo, .inr (12, mdG r cd tm (nI sn) (nI tx) (nI lz) (nI az) (nI na) (nI nt) (nI nr) mw ml mk dq)), (r 7, .inl ((cT 0), 1000, .inl f7))] s.heap := hP
  refine lv_aload_n hx hb d_Md_isWhole_0 rfl (lv_at hl 0 rfl) ?_
  refine va_get (D := (dC, dI)) (ci := 12) (v := (.int (nI sn))) (C := R_Md) (T := F_Md) (N := 45) hx hb hg in_Md hown hK hP 0 rfl rfl 8 (by decide) (hg _ k_1028) (fun _ h9 => h9) rfl d_Md_isWhole_1 ?_
  refine lv_bipush (v := 20) hx hb d_Md_isWhole_4 (by decide) ?_
  refine lv_icmp_lt (tgt := 47) hx hb d_Md_isWhole_6 (by decide) (fun hc198 => ?_) (fun hc198 => ?_)
  · skip
    have n199 : sn < 20 := (nI_ltI (a := sn) (b := 20) (by omega) (by omega)).mp hc198
    refine lv_iconst (v := 0) hx hb d_Md_isWhole_47 (by decide) ?_
    refine lv_istore_n (lv' := [(1, .int 0), (0, .ref mo)]) hx hb d_Md_isWhole_48 rfl hl (by decide) rfl (fun ls hl => ?_)
    refine lv_iconst (v := 0) hx hb d_Md_isWhole_49 (by decide) ?_
    refine lv_istore_n (lv' := [(2, .int 0), (1, .int 0), (0, .ref mo)]) hx hb d_Md_isWhole_50 rfl hl (by decide) rfl (fun ls hl => ?_)
    have hl := lv_sub hl [0, 1, 2] (show _ = [(2, .int 0), (1, .int 0), (0, .ref mo)] from rfl)
    have L201 : ∀ (Q : State → Prop) (ex0 : ∀ (i : Nat) (wv : Int32) (H : Heap) (locs : List Loc) (ls : Array Slot), va_P (dC, dI) vcl [(mo, .inr (12, mdG r cd tm (nI sn) (nI tx) (nI lz) (nI az) (nI na) (nI nt) (nI nr) mw ml mk dq)), (r 7, .inl ((cT 0), 1000, .inl f7))] H → va_D A [(mo, .inr (12, mdG r cd tm (nI sn) (nI tx) (nI lz) (nI az) (nI na) (nI nt) (nI nr) mw ml mk dq)), (r 7, .inl ((cT 0), 1000, .inl f7))] → va_S A s.heap H locs → lv_has ls 3 [(1, .int wv), (0, .ref mo)] → W p l e ({ frames := 2, cells := 0, slots := 0, locals := 46 } : Room) s m args below meth c H locs 0 0 Q (F0 m 91 ls [])) (jj202 : Nat) (i : Nat) (wv : Int32) (H : Heap) (locs : List Loc) (ls : Array Slot), 256 - i ≤ jj202 → (i ≤ 256) → (wv = 0 ∨ wv = 1) → va_P (dC, dI) vcl [(mo, .inr (12, mdG r cd tm (nI sn) (nI tx) (nI lz) (nI az) (nI na) (nI nt) (nI nr) mw ml mk dq)), (r 7, .inl ((cT 0), 1000, .inl f7))] H → va_D A [(mo, .inr (12, mdG r cd tm (nI sn) (nI tx) (nI lz) (nI az) (nI na) (nI nt) (nI nr) mw ml mk dq)), (r 7, .inl ((cT 0), 1000, .inl f7))] → va_S A s.heap H locs → lv_has ls 3 [(2, .int (nI i)), (1, .int wv), (0, .ref mo)] → W p l e ({ frames := 2, cells := 0, slots := 0, locals := 46 } : Room) s m args below meth c H locs 0 0 Q (F0 m 51 ls []) := by
      intro Q ex0 jj202
      induction jj202 with
      | zero => 
        intro i wv H locs ls hm9 hi hwv hP hD hS hl
        refine lv_iload_n hx hb d_Md_isWhole_51 rfl (lv_at hl 0 rfl) ?_
        refine lv_sipush (v := 256) hx hb d_Md_isWhole_52 (by decide) ?_
        refine lv_icmp_ge (tgt := 91) hx hb d_Md_isWhole_55 (by decide) (fun hc203 => ?_) (fun hc203 => ?_)
        · skip
          have n204 : 256 ≤ i := (nI_leI (a := 256) (b := i) (by omega) (by omega)).mp hc203
          have hl := lv_sub hl [1, 2] (show _ = [(1, .int wv), (0, .ref mo)] from rfl)
          exact ex0 i wv _ _ _  hP hD hS hl
        · skip
          have n205 : i < 256 := Nat.not_le.mp (fun h7 => hc203 ((nI_leI (a := 256) (b := i) (by omega) (by omega)).mpr h7))
          refine lv_iload_n hx hb d_Md_isWhole_58 rfl (lv_at hl 1 rfl) ?_
          refine lv_if_eq (tgt := 91) hx hb d_Md_isWhole_59 (by decide) (fun hc206 => ?_) (fun hc206 => ?_)
          · skip
            have hl := lv_sub hl [1, 2] (show _ = [(1, .int wv), (0, .ref mo)] from rfl)
            exact ex0 i wv _ _ _  hP hD hS hl
          · skip
            refine lv_iload_n hx hb d_Md_isWhole_62 rfl (lv_at hl 0 rfl) ?_
            have hPc := hP.sub (ws' := []) [] rfl
            have hDc := hD.sub (ws' := []) [] (by decide) rfl
            have hFc := va_free (wc := []) hD hS hA [] rfl
            refine va_calli (va_runS (As := [.int (nI i)]) (rest := []) ⟨hx, hb, hml, hown, hg⟩ (m_known l dC dI cT H.size (nI i) ) (va_cwS 1 hg (gI (List.forall_mem_append.mpr ⟨List.forall_mem_cons.mpr ⟨k_1291, List.forall_mem_cons.mpr ⟨k_1292, List.forall_mem_cons.mpr ⟨k_13, fun _ h => absurd h List.not_mem_nil⟩⟩⟩, List.forall_mem_cons.mpr ⟨k_1293, fun _ h => h⟩⟩)) rfl rfl rfl (by decide +kernel) ⟨Nat.le_of_ble_eq_true rfl, Nat.le_of_ble_eq_true rfl⟩) ⟨fun a U g mk q => by obtain ⟨q0, q1, qP, qK, qD⟩ := q; exact ⟨q0, q1, qP, va_K.moved (u := U) (U := U.calling g mk a) (Vm.Alike.refl U.vm) qK, qD⟩, fun U hU hW => ⟨rfl, by rw [hU], by rw [hU]; exact hPc, va_K.moved hW.alike hK, hDc.weaken (fun _ _ _ _ => trivial)⟩⟩ rfl rfl hl.1 rfl (lv_room (Nat.le_of_ble_eq_true rfl)) d_Md_isWhole_63 ⟨Nat.le_of_ble_eq_true rfl, Nat.le_of_ble_eq_true rfl⟩) hS (fun q _ h => hFc q h) hFc (fun rv9 u t H1 locs ht hvm hw hB hz1 hk1 hS => ?_)
            try dsimp only at hw hB
            obtain ⟨hP1, hK1, hD1⟩ := hB
            rw [ht] at hP1
            generalize rv9 = r207 at hw ⊢
            obtain ⟨hP, hD⟩ := va_join (wr := [(mo, .inr (12, mdG r cd tm (nI sn) (nI tx) (nI lz) (nI az) (nI na) (nI nt) (nI nr) mw ml mk dq)), (r 7, .inl ((cT 0), 1000, .inl f7))]) (w1 := []) hP hD [] [0, 1] rfl rfl (by decide) (by decide) hk1 hFc hP1 hD1
            have hw208 := hw
            clear hPc hDc hFc hz1 hk1 hP1 hK1 hD1
            generalize H1 = H at hP hS ⊢
            have hP : va_P (dC, dI) vcl [(mo, .inr (12, mdG r cd tm (nI sn) (nI tx) (nI lz) (nI az) (nI na) (nI nt) (nI nr) mw ml mk dq)), (r 7, .inl ((cT 0), 1000, .inl f7))] H := hP
            have hD : va_D A [(mo, .inr (12, mdG r cd tm (nI sn) (nI tx) (nI lz) (nI az) (nI na) (nI nt) (nI nr) mw ml mk dq)), (r 7, .inl ((cT 0), 1000, .inl f7))] := hD
            refine lv_if_eq (tgt := 79) hx hb d_Md_isWhole_66 (by decide) (fun hc209 => ?_) (fun hc209 => ?_)
            · skip
              refine lv_iconst (v := 1) hx hb d_Md_isWhole_79 (by decide) ?_
              refine lv_goto (tgt := 84) hx hb d_Md_isWhole_80 (by decide) ?_
              refine lv_istore_n (lv' := [(1, .int 1), (2, .int (nI i)), (0, .ref mo)]) hx hb d_Md_isWhole_84 rfl hl (by decide) rfl (fun ls hl => ?_)
              refine lv_iinc (k := 1) (v := nI (i + 1)) (lv' := [(2, .int (nI (i + 1))), (1, .int 1), (0, .ref mo)]) hx hb d_Md_isWhole_85 hl rfl (nI_1 i) (by decide) rfl (fun ls hl => ?_)
              refine lv_goto (tgt := 51) hx hb d_Md_isWhole_88 (by decide) ?_
              have hl := lv_sub hl [0, 1, 2] (show _ = [(2, .int (nI (i + 1))), (1, .int 1), (0, .ref mo)] from rfl)
              exfalso; omega
            · skip
              refine lv_aload_n hx hb d_Md_isWhole_69 rfl (lv_at hl 2 rfl) ?_
              refine lv_iload_n hx hb d_Md_isWhole_70 rfl (lv_at hl 0 rfl) ?_
              have hPc := hP.sub (ws' := [(mo, .inr (12, mdG r cd tm (nI sn) (nI tx) (nI lz) (nI az) (nI na) (nI nt) (nI nr) mw ml mk dq)), (r 7, .inl ((cT 0), 1000, .inl f7))]) [0, 1] rfl
              have hDc := hD.sub (ws' := [(mo, .inr (12, mdG r cd tm (nI sn) (nI tx) (nI lz) (nI az) (nI na) (nI nt) (nI nr) mw ml mk dq)), (r 7, .inl ((cT 0), 1000, .inl f7))]) [0, 1] (by decide) rfl
              have hFc := va_free (wc := [(mo, .inr (12, mdG r cd tm (nI sn) (nI tx) (nI lz) (nI az) (nI na) (nI nt) (nI nr) mw ml mk dq)), (r 7, .inl ((cT 0), 1000, .inl f7))]) hD hS hA [0, 1] rfl
              refine va_calli (va_runV (C := "DoorServerModel") (As := [.int (nI i)]) (rest := []) ⟨hx, hb, hml, hown, hg⟩ (m_find l dC dI cT H.size mo r cd tm sn tx lz az na nt nr mw ml mk dq f7 (nI i) (by first | assumption | omega) (by first | assumption | omega) (by first | assumption | omega)) (cwV 1 hg (gI (List.forall_mem_append.mpr ⟨List.forall_mem_cons.mpr ⟨k_1294, List.forall_mem_cons.mpr ⟨k_1296, List.forall_mem_cons.mpr ⟨(big_sel (q := y_Md_find) (n := 45) (by decide +kernel)), List.forall_mem_cons.mpr ⟨k_13, fun _ h => absurd h List.not_mem_nil⟩⟩⟩⟩, List.forall_mem_cons.mpr ⟨k_1297, fun _ h => h⟩⟩)) rfl rfl rfl (by decide +kernel) ⟨Nat.le_of_ble_eq_true rfl, Nat.le_of_ble_eq_true rfl⟩) ⟨fun a U g mk q => by obtain ⟨q0, q1, qP, qK, qD⟩ := q; exact ⟨q0, q1, qP, va_K.moved (u := U) (U := U.calling g mk a) (Vm.Alike.refl U.vm) qK, qD⟩, va_recv (q0 := 0) (ci := 12) hK hP rfl rfl, fun U hU hW => ⟨rfl, by rw [hU], by rw [hU]; exact hPc, va_K.moved hW.alike hK, hDc.weaken (fun _ _ _ _ => trivial)⟩⟩ rfl rfl hl.1 rfl (lv_room (Nat.le_of_ble_eq_true rfl)) d_Md_isWhole_71 ⟨Nat.le_of_ble_eq_true rfl, Nat.le_of_ble_eq_true rfl⟩) hS (fun q _ h => hFc q h) hFc (fun rv9 u t H1 locs ht hvm hw hB hz1 hk1 hS => ?_)
              try dsimp only at hw hB
              obtain ⟨hP1, hK1, hD1⟩ := hB
              rw [ht] at hP1
              generalize rv9 = r210 at hw ⊢
              obtain ⟨hP, hD⟩ := va_join (wr := []) (w1 := [(mo, .inr (12, mdG r cd tm (nI sn) (nI tx) (nI lz) (nI az) (nI na) (nI nt) (nI nr) mw ml mk dq)), (r 7, .inl ((cT 0), 1000, .inl f7))]) hP hD [0, 1] [] rfl rfl (by decide) (by decide) hk1 hFc hP1 hD1
              have hw211 := hw
              clear hPc hDc hFc hz1 hk1 hP1 hK1 hD1
              generalize H1 = H at hP hS ⊢
              have hP : va_P (dC, dI) vcl [(mo, .inr (12, mdG r cd tm (nI sn) (nI tx) (nI lz) (nI az) (nI na) (nI nt) (nI nr) mw ml mk dq)), (r 7, .inl ((cT 0), 1000, .inl f7))] H := hP
              have hD : va_D A [(mo, .inr (12, mdG r cd tm (nI sn) (nI tx) (nI lz) (nI az) (nI na) (nI nt) (nI nr) mw ml mk dq)), (r 7, .inl ((cT 0), 1000, .inl f7))] := hD
              obtain ⟨k212, k213⟩ := hw211
              refine lv_bipush (v := (-2)) hx hb d_Md_isWhole_74 (by decide) ?_
              refine lv_icmp_eq (tgt := 83) hx hb d_Md_isWhole_76 (by decide) (fun hc214 => ?_) (fun hc214 => ?_)
              · skip
                refine lv_iconst (v := 0) hx hb d_Md_isWhole_83 (by decide) ?_
                refine lv_istore_n (lv' := [(1, .int 0), (2, .int (nI i)), (0, .ref mo)]) hx hb d_Md_isWhole_84 rfl hl (by decide) rfl (fun ls hl => ?_)
                refine lv_iinc (k := 1) (v := nI (i + 1)) (lv' := [(2, .int (nI (i + 1))), (1, .int 0), (0, .ref mo)]) hx hb d_Md_isWhole_85 hl rfl (nI_1 i) (by decide) rfl (fun ls hl => ?_)
                refine lv_goto (tgt := 51) hx hb d_Md_isWhole_88 (by decide) ?_
                have hl := lv_sub hl [0, 1, 2] (show _ = [(2, .int (nI (i + 1))), (1, .int 0), (0, .ref mo)] from rfl)
                exfalso; omega
              · skip
                refine lv_iconst (v := 1) hx hb d_Md_isWhole_79 (by decide) ?_
                refine lv_goto (tgt := 84) hx hb d_Md_isWhole_80 (by decide) ?_
                refine lv_istore_n (lv' := [(1, .int 1), (2, .int (nI i)), (0, .ref mo)]) hx hb d_Md_isWhole_84 rfl hl (by decide) rfl (fun ls hl => ?_)
                refine lv_iinc (k := 1) (v := nI (i + 1)) (lv' := [(2, .int (nI (i + 1))), (1, .int 1), (0, .ref mo)]) hx hb d_Md_isWhole_85 hl rfl (nI_1 i) (by decide) rfl (fun ls hl => ?_)
                refine lv_goto (tgt := 51) hx hb d_Md_isWhole_88 (by decide) ?_
                have hl := lv_sub hl [0, 1, 2] (show _ = [(2, .int (nI (i + 1))), (1, .int 1), (0, .ref mo)] from rfl)
                exfalso; omega
      | succ jj202 ih => 
        intro i wv H locs ls hm9 hi hwv hP hD hS hl
        refine lv_iload_n hx hb d_Md_isWhole_51 rfl (lv_at hl 0 rfl) ?_
        refine lv_sipush (v := 256) hx hb d_Md_isWhole_52 (by decide) ?_
        refine lv_icmp_ge (tgt := 91) hx hb d_Md_isWhole_55 (by decide) (fun hc215 => ?_) (fun hc215 => ?_)
        · skip
          have n216 : 256 ≤ i := (nI_leI (a := 256) (b := i) (by omega) (by omega)).mp hc215
          have hl := lv_sub hl [1, 2] (show _ = [(1, .int wv), (0, .ref mo)] from rfl)
          exact ex0 i wv _ _ _  hP hD hS hl
        · skip
          have n217 : i < 256 := Nat.not_le.mp (fun h7 => hc215 ((nI_leI (a := 256) (b := i) (by omega) (by omega)).mpr h7))
          refine lv_iload_n hx hb d_Md_isWhole_58 rfl (lv_at hl 1 rfl) ?_
          refine lv_if_eq (tgt := 91) hx hb d_Md_isWhole_59 (by decide) (fun hc218 => ?_) (fun hc218 => ?_)
          · skip
            have hl := lv_sub hl [1, 2] (show _ = [(1, .int wv), (0, .ref mo)] from rfl)
            exact ex0 i wv _ _ _  hP hD hS hl
          · skip
            refine lv_iload_n hx hb d_Md_isWhole_62 rfl (lv_at hl 0 rfl) ?_
            have hPc := hP.sub (ws' := []) [] rfl
            have hDc := hD.sub (ws' := []) [] (by decide) rfl
            have hFc := va_free (wc := []) hD hS hA [] rfl
            refine va_calli (va_runS (As := [.int (nI i)]) (rest := []) ⟨hx, hb, hml, hown, hg⟩ (m_known l dC dI cT H.size (nI i) ) (va_cwS 1 hg (gI (List.forall_mem_append.mpr ⟨List.forall_mem_cons.mpr ⟨k_1291, List.forall_mem_cons.mpr ⟨k_1292, List.forall_mem_cons.mpr ⟨k_13, fun _ h => absurd h List.not_mem_nil⟩⟩⟩, List.forall_mem_cons.mpr ⟨k_1293, fun _ h => h⟩⟩)) rfl rfl rfl (by decide +kernel) ⟨Nat.le_of_ble_eq_true rfl, Nat.le_of_ble_eq_true rfl⟩) ⟨fun a U g mk q => by obtain ⟨q0, q1, qP, qK, qD⟩ := q; exact ⟨q0, q1, qP, va_K.moved (u := U) (U := U.calling g mk a) (Vm.Alike.refl U.vm) qK, qD⟩, fun U hU hW => ⟨rfl, by rw [hU], by rw [hU]; exact hPc, va_K.moved hW.alike hK, hDc.weaken (fun _ _ _ _ => trivial)⟩⟩ rfl rfl hl.1 rfl (lv_room (Nat.le_of_ble_eq_true rfl)) d_Md_isWhole_63 ⟨Nat.le_of_ble_eq_true rfl, Nat.le_of_ble_eq_true rfl⟩) hS (fun q _ h => hFc q h) hFc (fun rv9 u t H1 locs ht hvm hw hB hz1 hk1 hS => ?_)
            try dsimp only at hw hB
            obtain ⟨hP1, hK1, hD1⟩ := hB
            rw [ht] at hP1
            generalize rv9 = r219 at hw ⊢
            obtain ⟨hP, hD⟩ := va_join (wr := [(mo, .inr (12, mdG r cd tm (nI sn) (nI tx) (nI lz) (nI az) (nI na) (nI nt) (nI nr) mw ml mk dq)), (r 7, .inl ((cT 0), 1000, .inl f7))]) (w1 := []) hP hD [] [0, 1] rfl rfl (by decide) (by decide) hk1 hFc hP1 hD1
            have hw220 := hw
            clear hPc hDc hFc hz1 hk1 hP1 hK1 hD1
            generalize H1 = H at hP hS ⊢
            have hP : va_P (dC, dI) vcl [(mo, .inr (12, mdG r cd tm (nI sn) (nI tx) (nI lz) (nI az) (nI na) (nI nt) (nI nr) mw ml mk dq)), (r 7, .inl ((cT 0), 1000, .inl f7))] H := hP
            have hD : va_D A [(mo, .inr (12, mdG r cd tm (nI sn) (nI tx) (nI lz) (nI az) (nI na) (nI nt) (nI nr) mw ml mk dq)), (r 7, .inl ((cT 0), 1000, .inl f7))] := hD
            refine lv_if_eq (tgt := 79) hx hb d_Md_isWhole_66 (by decide) (fun hc221 => ?_) (fun hc221 => ?_)
            · skip
              refine lv_iconst (v := 1) hx hb d_Md_isWhole_79 (by decide) ?_
              refine lv_goto (tgt := 84) hx hb d_Md_isWhole_80 (by decide) ?_
              refine lv_istore_n (lv' := [(1, .int 1), (2, .int (nI i)), (0, .ref mo)]) hx hb d_Md_isWhole_84 rfl hl (by decide) rfl (fun ls hl => ?_)
              refine lv_iinc (k := 1) (v := nI (i + 1)) (lv' := [(2, .int (nI (i + 1))), (1, .int 1), (0, .ref mo)]) hx hb d_Md_isWhole_85 hl rfl (nI_1 i) (by decide) rfl (fun ls hl => ?_)
              refine lv_goto (tgt := 51) hx hb d_Md_isWhole_88 (by decide) ?_
              have hl := lv_sub hl [0, 1, 2] (show _ = [(2, .int (nI (i + 1))), (1, .int 1), (0, .ref mo)] from rfl)
              exact ih (i + 1) 1 _ _ _ (by omega) (by omega) (Or.inr rfl) hP hD hS hl
            · skip
              refine lv_aload_n hx hb d_Md_isWhole_69 rfl (lv_at hl 2 rfl) ?_
              refine lv_iload_n hx hb d_Md_isWhole_70 rfl (lv_at hl 0 rfl) ?_
              have hPc := hP.sub (ws' := [(mo, .inr (12, mdG r cd tm (nI sn) (nI tx) (nI lz) (nI az) (nI na) (nI nt) (nI nr) mw ml mk dq)), (r 7, .inl ((cT 0), 1000, .inl f7))]) [0, 1] rfl
              have hDc := hD.sub (ws' := [(mo, .inr (12, mdG r cd tm (nI sn) (nI tx) (nI lz) (nI az) (nI na) (nI nt) (nI nr) mw ml mk dq)), (r 7, .inl ((cT 0), 1000, .inl f7))]) [0, 1] (by decide) rfl
              have hFc := va_free (wc := [(mo, .inr (12, mdG r cd tm (nI sn) (nI tx) (nI lz) (nI az) (nI na) (nI nt) (nI nr) mw ml mk dq)), (r 7, .inl ((cT 0), 1000, .inl f7))]) hD hS hA [0, 1] rfl
              refine va_calli (va_runV (C := "DoorServerModel") (As := [.int (nI i)]) (rest := []) ⟨hx, hb, hml, hown, hg⟩ (m_find l dC dI cT H.size mo r cd tm sn tx lz az na nt nr mw ml mk dq f7 (nI i) (by first | assumption | omega) (by first | assumption | omega) (by first | assumption | omega)) (cwV 1 hg (gI (List.forall_mem_append.mpr ⟨List.forall_mem_cons.mpr ⟨k_1294, List.forall_mem_cons.mpr ⟨k_1296, List.forall_mem_cons.mpr ⟨(big_sel (q := y_Md_find) (n := 45) (by decide +kernel)), List.forall_mem_cons.mpr ⟨k_13, fun _ h => absurd h List.not_mem_nil⟩⟩⟩⟩, List.forall_mem_cons.mpr ⟨k_1297, fun _ h => h⟩⟩)) rfl rfl rfl (by decide +kernel) ⟨Nat.le_of_ble_eq_true rfl, Nat.le_of_ble_eq_true rfl⟩) ⟨fun a U g mk q => by obtain ⟨q0, q1, qP, qK, qD⟩ := q; exact ⟨q0, q1, qP, va_K.moved (u := U) (U := U.calling g mk a) (Vm.Alike.refl U.vm) qK, qD⟩, va_recv (q0 := 0) (ci := 12) hK hP rfl rfl, fun U hU hW => ⟨rfl, by rw [hU], by rw [hU]; exact hPc, va_K.moved hW.alike hK, hDc.weaken (fun _ _ _ _ => trivial)⟩⟩ rfl rfl hl.1 rfl (lv_room (Nat.le_of_ble_eq_true rfl)) d_Md_isWhole_71 ⟨Nat.le_of_ble_eq_true rfl, Nat.le_of_ble_eq_true rfl⟩) hS (fun q _ h => hFc q h) hFc (fun rv9 u t H1 locs ht hvm hw hB hz1 hk1 hS => ?_)
              try dsimp only at hw hB
              obtain ⟨hP1, hK1, hD1⟩ := hB
              rw [ht] at hP1
              generalize rv9 = r222 at hw ⊢
              obtain ⟨hP, hD⟩ := va_join (wr := []) (w1 := [(mo, .inr (12, mdG r cd tm (nI sn) (nI tx) (nI lz) (nI az) (nI na) (nI nt) (nI nr) mw ml mk dq)), (r 7, .inl ((cT 0), 1000, .inl f7))]) hP hD [0, 1] [] rfl rfl (by decide) (by decide) hk1 hFc hP1 hD1
              have hw223 := hw
              clear hPc hDc hFc hz1 hk1 hP1 hK1 hD1
              generalize H1 = H at hP hS ⊢
              have hP : va_P (dC, dI) vcl [(mo, .inr (12, mdG r cd tm (nI sn) (nI tx) (nI lz) (nI az) (nI na) (nI nt) (nI nr) mw ml mk dq)), (r 7, .inl ((cT 0), 1000, .inl f7))] H := hP
              have hD : va_D A [(mo, .inr (12, mdG r cd tm (nI sn) (nI tx) (nI lz) (nI az) (nI na) (nI nt) (nI nr) mw ml mk dq)), (r 7, .inl ((cT 0), 1000, .inl f7))] := hD
              obtain ⟨k224, k225⟩ := hw223
              refine lv_bipush (v := (-2)) hx hb d_Md_isWhole_74 (by decide) ?_
              refine lv_icmp_eq (tgt := 83) hx hb d_Md_isWhole_76 (by decide) (fun hc226 => ?_) (fun hc226 => ?_)
              · skip
                refine lv_iconst (v := 0) hx hb d_Md_isWhole_83 (by decide) ?_
                refine lv_istore_n (lv' := [(1, .int 0), (2, .int (nI i)), (0, .ref mo)]) hx hb d_Md_isWhole_84 rfl hl (by decide) rfl (fun ls hl => ?_)
                refine lv_iinc (k := 1) (v := nI (i + 1)) (lv' := [(2, .int (nI (i + 1))), (1, .int 0), (0, .ref mo)]) hx hb d_Md_isWhole_85 hl rfl (nI_1 i) (by decide) rfl (fun ls hl => ?_)
                refine lv_goto (tgt := 51) hx hb d_Md_isWhole_88 (by decide) ?_
                have hl := lv_sub hl [0, 1, 2] (show _ = [(2, .int (nI (i + 1))), (1, .int 0), (0, .ref mo)] from rfl)
                exact ih (i + 1) 0 _ _ _ (by omega) (by omega) (Or.inl rfl) hP hD hS hl
              · skip
                refine lv_iconst (v := 1) hx hb d_Md_isWhole_79 (by decide) ?_
                refine lv_goto (tgt := 84) hx hb d_Md_isWhole_80 (by decide) ?_
                refine lv_istore_n (lv' := [(1, .int 1), (2, .int (nI i)), (0, .ref mo)]) hx hb d_Md_isWhole_84 rfl hl (by decide) rfl (fun ls hl => ?_)
                refine lv_iinc (k := 1) (v := nI (i + 1)) (lv' := [(2, .int (nI (i + 1))), (1, .int 1), (0, .ref mo)]) hx hb d_Md_isWhole_85 hl rfl (nI_1 i) (by decide) rfl (fun ls hl => ?_)
                refine lv_goto (tgt := 51) hx hb d_Md_isWhole_88 (by decide) ?_
                have hl := lv_sub hl [0, 1, 2] (show _ = [(2, .int (nI (i + 1))), (1, .int 1), (0, .ref mo)] from rfl)
                exact ih (i + 1) 1 _ _ _ (by omega) (by omega) (Or.inr rfl) hP hD hS hl
    refine L201 _ (fun i wv H locs ls  hP hD hS hl => ?_) (256 - 0) 0 0 s.heap _ ls (Nat.le_refl _) (by omega) (Or.inl rfl) hP hD hS hl
    · skip
      refine lv_iload_n hx hb d_Md_isWhole_91 rfl (lv_at hl 0 rfl) ?_
      refine lv_if_eq (tgt := 106) hx hb d_Md_isWhole_92 (by decide) (fun hc227 => ?_) (fun hc227 => ?_)
      · skip
        refine lv_iconst (v := 0) hx hb d_Md_isWhole_106 (by decide) ?_
        have hP9 := hP.sub (ws' := [(mo, .inr (12, mdG r cd tm (nI sn) (nI tx) (nI lz) (nI az) (nI na) (nI nt) (nI nr) mw ml mk dq)), (r 7, .inl ((cT 0), 1000, .inl f7))]) [0, 1] rfl
        have hD9 := hD.sub (ws' := [(mo, .inr (12, mdG r cd tm (nI sn) (nI tx) (nI lz) (nI az) (nI na) (nI nt) (nI nr) mw ml mk dq)), (r 7, .inl ((cT 0), 1000, .inl f7))]) [0, 1] (by decide) rfl
        exact W.zret (v := 0) hx hb hr (by first | rfl | decide) (fun t ht hW => ⟨⟨_, (), rfl, Or.inl rfl, by rw [ht]; exact hP9, va_K.moved hW.alike hK, hD9⟩, hS.F ht⟩) hS.2.2 d_Md_isWhole_107
      · skip
        refine lv_aload_n hx hb d_Md_isWhole_95 rfl (lv_at hl 1 rfl) ?_
        have hPc := hP.sub (ws' := [(mo, .inr (12, mdG r cd tm (nI sn) (nI tx) (nI lz) (nI az) (nI na) (nI nt) (nI nr) mw ml mk dq)), (r 7, .inl ((cT 0), 1000, .inl f7))]) [0, 1] rfl
        have hDc := hD.sub (ws' := [(mo, .inr (12, mdG r cd tm (nI sn) (nI tx) (nI lz) (nI az) (nI na) (nI nt) (nI nr) mw ml mk dq)), (r 7, .inl ((cT 0), 1000, .inl f7))]) [0, 1] (by decide) rfl
        have hFc := va_free (wc := [(mo, .inr (12, mdG r cd tm (nI sn) (nI tx) (nI lz) (nI az) (nI na) (nI nt) (nI nr) mw ml mk dq)), (r 7, .inl ((cT 0), 1000, .inl f7))]) hD hS hA [0, 1] rfl
        refine va_calli (va_runV (C := "DoorServerModel") (As := []) (rest := []) ⟨hx, hb, hml, hown, hg⟩ (m_findEnd l dC dI cT H.size mo r cd tm sn tx lz az na nt nr mw ml mk dq f7 (by first | assumption | omega) (by first | assumption | omega) (by first | assumption | omega)) (cwV 0 hg (gI (List.forall_mem_append.mpr ⟨List.forall_mem_cons.mpr ⟨k_1301, List.forall_mem_cons.mpr ⟨k_1303, List.forall_mem_cons.mpr ⟨(big_sel (q := y_Md_findEnd) (n := 45) (by decide +kernel)), List.forall_mem_cons.mpr ⟨k_13, fun _ h => absurd h List.not_mem_nil⟩⟩⟩⟩, List.forall_mem_cons.mpr ⟨k_1304, fun _ h => h⟩⟩)) rfl rfl rfl (by decide +kernel) ⟨Nat.le_of_ble_eq_true rfl, Nat.le_of_ble_eq_true rfl⟩) ⟨fun a U g mk q => by obtain ⟨q0, q1, qP, qK, qD⟩ := q; exact ⟨q0, q1, qP, va_K.moved (u := U) (U := U.calling g mk a) (Vm.Alike.refl U.vm) qK, qD⟩, va_recv (q0 := 0) (ci := 12) hK hP rfl rfl, fun U hU hW => ⟨rfl, by rw [hU], by rw [hU]; exact hPc, va_K.moved hW.alike hK, hDc.weaken (fun _ _ _ _ => trivial)⟩⟩ rfl rfl hl.1 rfl (lv_room (Nat.le_of_ble_eq_true rfl)) d_Md_isWhole_96 ⟨Nat.le_of_ble_eq_true rfl, Nat.le_of_ble_eq_true rfl⟩) hS (fun q _ h => hFc q h) hFc (fun rv9 u t H1 locs ht hvm hw hB hz1 hk1 hS => ?_)
        try dsimp only at hw hB
        obtain ⟨hP1, hK1, hD1⟩ := hB
        rw [ht] at hP1
        generalize rv9 = r228 at hw ⊢
        obtain ⟨hP, hD⟩ := va_join (wr := []) (w1 := [(mo, .inr (12, mdG r cd tm (nI sn) (nI tx) (nI lz) (nI az) (nI na) (nI nt) (nI nr) mw ml mk dq)), (r 7, .inl ((cT 0), 1000, .inl f7))]) hP hD [0, 1] [] rfl rfl (by decide) (by decide) hk1 hFc hP1 hD1
        have hw229 := hw
        clear hPc hDc hFc hz1 hk1 hP1 hK1 hD1
        generalize H1 = H at hP hS ⊢
        have hP : va_P (dC, dI) vcl [(mo, .inr (12, mdG r cd tm (nI sn) (nI tx) (nI lz) (nI az) (nI na) (nI nt) (nI nr) mw ml mk dq)), (r 7, .inl ((cT 0), 1000, .inl f7))] H := hP
        have hD : va_D A [(mo, .inr (12, mdG r cd tm (nI sn) (nI tx) (nI lz) (nI az) (nI na) (nI nt) (nI nr) mw ml mk dq)), (r 7, .inl ((cT 0), 1000, .inl f7))] := hD
        have k230 := hw229
        rcases k230 with h8z | h8z
        · skip
          refine lv_topi (fun x232 e231 => ?_)
          obtain rfl : x232 = 0 := by rw [e231]; exact h8z
          refine lv_if_eq (tgt := 106) hx hb d_Md_isWhole_99 (by decide) (fun hc233 => ?_) (fun hn9 => absurd (by decide) hn9)
          refine lv_iconst (v := 0) hx hb d_Md_isWhole_106 (by decide) ?_
          have hP9 := hP.sub (ws' := [(mo, .inr (12, mdG r cd tm (nI sn) (nI tx) (nI lz) (nI az) (nI na) (nI nt) (nI nr) mw ml mk dq)), (r 7, .inl ((cT 0), 1000, .inl f7))]) [0, 1] rfl
          have hD9 := hD.sub (ws' := [(mo, .inr (12, mdG r cd tm (nI sn) (nI tx) (nI lz) (nI az) (nI na) (nI nt) (nI nr) mw ml mk dq)), (r 7, .inl ((cT 0), 1000, .inl f7))]) [0, 1] (by decide) rfl
          exact W.zret (v := 0) hx hb hr (by first | rfl | decide) (fun t ht hW => ⟨⟨_, (), rfl, Or.inl rfl, by rw [ht]; exact hP9, va_K.moved hW.alike hK, hD9⟩, hS.F ht⟩) hS.2.2 d_Md_isWhole_107
        · skip
          refine lv_topi (fun x235 e234 => ?_)
          obtain rfl : x235 = 1 := by rw [e234]; exact h8z
          refine lv_if_eq (tgt := 106) hx hb d_Md_isWhole_99 (by decide) (fun hn9 => absurd hn9 (by decide)) (fun hc236 => ?_)
          refine lv_iconst (v := 1) hx hb d_Md_isWhole_102 (by decide) ?_
          refine lv_goto (tgt := 107) hx hb d_Md_isWhole_103 (by decide) ?_
          have hP9 := hP.sub (ws' := [(mo, .inr (12, mdG r cd tm (nI sn) (nI tx) (nI lz) (nI az) (nI na) (nI nt) (nI nr) mw ml mk dq)), (r 7, .inl ((cT 0), 1000, .inl f7))]) [0, 1] rfl
          have hD9 := hD.sub (ws' := [(mo, .inr (12, mdG r cd tm (nI sn) (nI tx) (nI lz) (nI az) (nI na) (nI nt) (nI nr) mw ml mk dq)), (r 7, .inl ((cT 0), 1000, .inl f7))]) [0, 1] (by decide) rfl
          exact W.zret (v := 1) hx hb hr (by first | rfl | decide) (fun t ht hW => ⟨⟨_, (), rfl, Or.inr rfl, by rw [ht]; exact hP9, va_K.moved hW.alike hK, hD9⟩, hS.F ht⟩) hS.2.2 d_Md_isWhole_107
  · skip
    have n200 : 20 ≤ sn := Nat.not_lt.mp (fun h7 => hc198 ((nI_ltI (a := sn) (b := 20) (by omega) (by omega)).mpr h7))
    refine lv_aload_n hx hb d_Md_isWhole_9 rfl (lv_at hl 0 rfl) ?_
    refine va_get (D := (dC, dI)) (ci := 12) (v := (.int (nI sn))) (C := R_Md) (T := F_Md) (N := 45) hx hb hg in_Md hown hK hP 0 rfl rfl 8 (by decide) (hg _ k_1028) (fun _ h9 => h9) rfl d_Md_isWhole_10 ?_
    refine lv_sipush (v := 1000) hx hb d_Md_isWhole_13 (by decide) ?_
    refine lv_icmp_gt (tgt := 47) hx hb d_Md_isWhole_16 (by decide) (fun hc237 => ?_) (fun hc237 => ?_)
    · skip
      have n238 : 1000 < sn := (nI_ltI (a := 1000) (b := sn) (by omega) (by omega)).mp hc237
      refine lv_iconst (v := 0) hx hb d_Md_isWhole_47 (by decide) ?_
      refine lv_istore_n (lv' := [(1, .int 0), (0, .ref mo)]) hx hb d_Md_isWhole_48 rfl hl (by decide) rfl (fun ls hl => ?_)
      refine lv_iconst (v := 0) hx hb d_Md_isWhole_49 (by decide) ?_
      refine lv_istore_n (lv' := [(2, .int 0), (1, .int 0), (0, .ref mo)]) hx hb d_Md_isWhole_50 rfl hl (by decide) rfl (fun ls hl => ?_)
      have hl := lv_sub hl [0, 1, 2] (show _ = [(2, .int 0), (1, .int 0), (0, .ref mo)] from rfl)
      have L240 : ∀ (Q : State → Prop) (ex0 : ∀ (i : Nat) (wv : Int32) (H : Heap) (locs : List Loc) (ls : Array Slot), va_P (dC, dI) vcl [(mo, .inr (12, mdG r cd tm (nI sn) (nI tx) (nI lz) (nI az) (nI na) (nI nt) (nI nr) mw ml mk dq)), (r 7, .inl ((cT 0), 1000, .inl f7))] H → va_D A [(mo, .inr (12, mdG r cd tm (nI sn) (nI tx) (nI lz) (nI az) (nI na) (nI nt) (nI nr) mw ml mk dq)), (r 7, .inl ((cT 0), 1000, .inl f7))] → va_S A s.heap H locs → lv_has ls 3 [(1, .int wv), (0, .ref mo)] → W p l e ({ frames := 2, cells := 0, slots := 0, locals := 46 } : Room) s m args below meth c H locs 0 0 Q (F0 m 91 ls [])) (jj241 : Nat) (i : Nat) (wv : Int32) (H : Heap) (locs : List Loc) (ls : Array Slot), 256 - i ≤ jj241 → (i ≤ 256) → (wv = 0 ∨ wv = 1) → va_P (dC, dI) vcl [(mo, .inr (12, mdG r cd tm (nI sn) (nI tx) (nI lz) (nI az) (nI na) (nI nt) (nI nr) mw ml mk dq)), (r 7, .inl ((cT 0), 1000, .inl f7))] H → va_D A [(mo, .inr (12, mdG r cd tm (nI sn) (nI tx) (nI lz) (nI az) (nI na) (nI nt) (nI nr) mw ml mk dq)), (r 7, .inl ((cT 0), 1000, .inl f7))] → va_S A s.heap H locs → lv_has ls 3 [(2, .int (nI i)), (1, .int wv), (0, .ref mo)] → W p l e ({ frames := 2, cells := 0, slots := 0, locals := 46 } : Room) s m args below meth c H locs 0 0 Q (F0 m 51 ls []) := by
        intro Q ex0 jj241
        induction jj241 with
        | zero => 
          intro i wv H locs ls hm9 hi hwv hP hD hS hl
          refine lv_iload_n hx hb d_Md_isWhole_51 rfl (lv_at hl 0 rfl) ?_
          refine lv_sipush (v := 256) hx hb d_Md_isWhole_52 (by decide) ?_
          refine lv_icmp_ge (tgt := 91) hx hb d_Md_isWhole_55 (by decide) (fun hc242 => ?_) (fun hc242 => ?_)
          · skip
            have n243 : 256 ≤ i := (nI_leI (a := 256) (b := i) (by omega) (by omega)).mp hc242
            have hl := lv_sub hl [1, 2] (show _ = [(1, .int wv), (0, .ref mo)] from rfl)
            exact ex0 i wv _ _ _  hP hD hS hl
          · skip
            have n244 : i < 256 := Nat.not_le.mp (fun h7 => hc242 ((nI_leI (a := 256) (b := i) (by omega) (by omega)).mpr h7))
            refine lv_iload_n hx hb d_Md_isWhole_58 rfl (lv_at hl 1 rfl) ?_
            refine lv_if_eq (tgt := 91) hx hb d_Md_isWhole_59 (by decide) (fun hc245 => ?_) (fun hc245 => ?_)
            · skip
              have hl := lv_sub hl [1, 2] (show _ = [(1, .int wv), (0, .ref mo)] from rfl)
              exact ex0 i wv _ _ _  hP hD hS hl
            · skip
              refine lv_iload_n hx hb d_Md_isWhole_62 rfl (lv_at hl 0 rfl) ?_
              have hPc := hP.sub (ws' := []) [] rfl
              have hDc := hD.sub (ws' := []) [] (by decide) rfl
              have hFc := va_free (wc := []) hD hS hA [] rfl
              refine va_calli (va_runS (As := [.int (nI i)]) (rest := []) ⟨hx, hb, hml, hown, hg⟩ (m_known l dC dI cT H.size (nI i) ) (va_cwS 1 hg (gI (List.forall_mem_append.mpr ⟨List.forall_mem_cons.mpr ⟨k_1291, List.forall_mem_cons.mpr ⟨k_1292, List.forall_mem_cons.mpr ⟨k_13, fun _ h => absurd h List.not_mem_nil⟩⟩⟩, List.forall_mem_cons.mpr ⟨k_1293, fun _ h => h⟩⟩)) rfl rfl rfl (by decide +kernel) ⟨Nat.le_of_ble_eq_true rfl, Nat.le_of_ble_eq_true rfl⟩) ⟨fun a U g mk q => by obtain ⟨q0, q1, qP, qK, qD⟩ := q; exact ⟨q0, q1, qP, va_K.moved (u := U) (U := U.calling g mk a) (Vm.Alike.refl U.vm) qK, qD⟩, fun U hU hW => ⟨rfl, by rw [hU], by rw [hU]; exact hPc, va_K.moved hW.alike hK, hDc.weaken (fun _ _ _ _ => trivial)⟩⟩ rfl rfl hl.1 rfl (lv_room (Nat.le_of_ble_eq_true rfl)) d_Md_isWhole_63 ⟨Nat.le_of_ble_eq_true rfl, Nat.le_of_ble_eq_true rfl⟩) hS (fun q _ h => hFc q h) hFc (fun rv9 u t H1 locs ht hvm hw hB hz1 hk1 hS => ?_)
              try dsimp only at hw hB
              obtain ⟨hP1, hK1, hD1⟩ := hB
              rw [ht] at hP1
              generalize rv9 = r246 at hw ⊢
              obtain ⟨hP, hD⟩ := va_join (wr := [(mo, .inr (12, mdG r cd tm (nI sn) (nI tx) (nI lz) (nI az) (nI na) (nI nt) (nI nr) mw ml mk dq)), (r 7, .inl ((cT 0), 1000, .inl f7))]) (w1 := []) hP hD [] [0, 1] rfl rfl (by decide) (by decide) hk1 hFc hP1 hD1
              have hw247 := hw
              clear hPc hDc hFc hz1 hk1 hP1 hK1 hD1
              generalize H1 = H at hP hS ⊢
              have hP : va_P (dC, dI) vcl [(mo, .inr (12, mdG r cd tm (nI sn) (nI tx) (nI lz) (nI az) (nI na) (nI nt) (nI nr) mw ml mk dq)), (r 7, .inl ((cT 0), 1000, .inl f7))] H := hP
              have hD : va_D A [(mo, .inr (12, mdG r cd tm (nI sn) (nI tx) (nI lz) (nI az) (nI na) (nI nt) (nI nr) mw ml mk dq)), (r 7, .inl ((cT 0), 1000, .inl f7))] := hD
              refine lv_if_eq (tgt := 79) hx hb d_Md_isWhole_66 (by decide) (fun hc248 => ?_) (fun hc248 => ?_)
              · skip
                refine lv_iconst (v := 1) hx hb d_Md_isWhole_79 (by decide) ?_
                refine lv_goto (tgt := 84) hx hb d_Md_isWhole_80 (by decide) ?_
                refine lv_istore_n (lv' := [(1, .int 1), (2, .int (nI i)), (0, .ref mo)]) hx hb d_Md_isWhole_84 rfl hl (by decide) rfl (fun ls hl => ?_)
                refine lv_iinc (k := 1) (v := nI (i + 1)) (lv' := [(2, .int (nI (i + 1))), (1, .int 1), (0, .ref mo)]) hx hb d_Md_isWhole_85 hl rfl (nI_1 i) (by decide) rfl (fun ls hl => ?_)
                refine lv_goto (tgt := 51) hx hb d_Md_isWhole_88 (by decide) ?_
                have hl := lv_sub hl [0, 1, 2] (show _ = [(2, .int (nI (i + 1))), (1, .int 1), (0, .ref mo)] from rfl)
                exfalso; omega
              · skip
                refine lv_aload_n hx hb d_Md_isWhole_69 rfl (lv_at hl 2 rfl) ?_
                refine lv_iload_n hx hb d_Md_isWhole_70 rfl (lv_at hl 0 rfl) ?_
                have hPc := hP.sub (ws' := [(mo, .inr (12, mdG r cd tm (nI sn) (nI tx) (nI lz) (nI az) (nI na) (nI nt) (nI nr) mw ml mk dq)), (r 7, .inl ((cT 0), 1000, .inl f7))]) [0, 1] rfl
                have hDc := hD.sub (ws' := [(mo, .inr (12, mdG r cd tm (nI sn) (nI tx) (nI lz) (nI az) (nI na) (nI nt) (nI nr) mw ml mk dq)), (r 7, .inl ((cT 0), 1000, .inl f7))]) [0, 1] (by decide) rfl
                have hFc := va_free (wc := [(mo, .inr (12, mdG r cd tm (nI sn) (nI tx) (nI lz) (nI az) (nI na) (nI nt) (nI nr) mw ml mk dq)), (r 7, .inl ((cT 0), 1000, .inl f7))]) hD hS hA [0, 1] rfl
                refine va_calli (va_runV (C := "DoorServerModel") (As := [.int (nI i)]) (rest := []) ⟨hx, hb, hml, hown, hg⟩ (m_find l dC dI cT H.size mo r cd tm sn tx lz az na nt nr mw ml mk dq f7 (nI i) (by first | assumption | omega) (by first | assumption | omega) (by first | assumption | omega)) (cwV 1 hg (gI (List.forall_mem_append.mpr ⟨List.forall_mem_cons.mpr ⟨k_1294, List.forall_mem_cons.mpr ⟨k_1296, List.forall_mem_cons.mpr ⟨(big_sel (q := y_Md_find) (n := 45) (by decide +kernel)), List.forall_mem_cons.mpr ⟨k_13, fun _ h => absurd h List.not_mem_nil⟩⟩⟩⟩, List.forall_mem_cons.mpr ⟨k_1297, fun _ h => h⟩⟩)) rfl rfl rfl (by decide +kernel) ⟨Nat.le_of_ble_eq_true rfl, Nat.le_of_ble_eq_true rfl⟩) ⟨fun a U g mk q => by obtain ⟨q0, q1, qP, qK, qD⟩ := q; exact ⟨q0, q1, qP, va_K.moved (u := U) (U := U.calling g mk a) (Vm.Alike.refl U.vm) qK, qD⟩, va_recv (q0 := 0) (ci := 12) hK hP rfl rfl, fun U hU hW => ⟨rfl, by rw [hU], by rw [hU]; exact hPc, va_K.moved hW.alike hK, hDc.weaken (fun _ _ _ _ => trivial)⟩⟩ rfl rfl hl.1 rfl (lv_room (Nat.le_of_ble_eq_true rfl)) d_Md_isWhole_71 ⟨Nat.le_of_ble_eq_true rfl, Nat.le_of_ble_eq_true rfl⟩) hS (fun q _ h => hFc q h) hFc (fun rv9 u t H1 locs ht hvm hw hB hz1 hk1 hS => ?_)
                try dsimp only at hw hB
                obtain ⟨hP1, hK1, hD1⟩ := hB
                rw [ht] at hP1
                generalize rv9 = r249 at hw ⊢
                obtain ⟨hP, hD⟩ := va_join (wr := []) (w1 := [(mo, .inr (12, mdG r cd tm (nI sn) (nI tx) (nI lz) (nI az) (nI na) (nI nt) (nI nr) mw ml mk dq)), (r 7, .inl ((cT 0), 1000, .inl f7))]) hP hD [0, 1] [] rfl rfl (by decide) (by decide) hk1 hFc hP1 hD1
                have hw250 := hw
                clear hPc hDc hFc hz1 hk1 hP1 hK1 hD1
                generalize H1 = H at hP hS ⊢
                have hP : va_P (dC, dI) vcl [(mo, .inr (12, mdG r cd tm (nI sn) (nI tx) (nI lz) (nI az) (nI na) (nI nt) (nI nr) mw ml mk dq)), (r 7, .inl ((cT 0), 1000, .inl f7))] H := hP
                have hD : va_D A [(mo, .inr (12, mdG r cd tm (nI sn) (nI tx) (nI lz) (nI az) (nI na) (nI nt) (nI nr) mw ml mk dq)), (r 7, .inl ((cT 0), 1000, .inl f7))] := hD
                obtain ⟨k251, k252⟩ := hw250
                refine lv_bipush (v := (-2)) hx hb d_Md_isWhole_74 (by decide) ?_
                refine lv_icmp_eq (tgt := 83) hx hb d_Md_isWhole_76 (by decide) (fun hc253 => ?_) (fun hc253 => ?_)
                · skip
                  refine lv_iconst (v := 0) hx hb d_Md_isWhole_83 (by decide) ?_
                  refine lv_istore_n (lv' := [(1, .int 0), (2, .int (nI i)), (0, .ref mo)]) hx hb d_Md_isWhole_84 rfl hl (by decide) rfl (fun ls hl => ?_)
                  refine lv_iinc (k := 1) (v := nI (i + 1)) (lv' := [(2, .int (nI (i + 1))), (1, .int 0), (0, .ref mo)]) hx hb d_Md_isWhole_85 hl rfl (nI_1 i) (by decide) rfl (fun ls hl => ?_)
                  refine lv_goto (tgt := 51) hx hb d_Md_isWhole_88 (by decide) ?_
                  have hl := lv_sub hl [0, 1, 2] (show _ = [(2, .int (nI (i + 1))), (1, .int 0), (0, .ref mo)] from rfl)
                  exfalso; omega
                · skip
                  refine lv_iconst (v := 1) hx hb d_Md_isWhole_79 (by decide) ?_
                  refine lv_goto (tgt := 84) hx hb d_Md_isWhole_80 (by decide) ?_
                  refine lv_istore_n (lv' := [(1, .int 1), (2, .int (nI i)), (0, .ref mo)]) hx hb d_Md_isWhole_84 rfl hl (by decide) rfl (fun ls hl => ?_)
                  refine lv_iinc (k := 1) (v := nI (i + 1)) (lv' := [(2, .int (nI (i + 1))), (1, .int 1), (0, .ref mo)]) hx hb d_Md_isWhole_85 hl rfl (nI_1 i) (by decide) rfl (fun ls hl => ?_)
                  refine lv_goto (tgt := 51) hx hb d_Md_isWhole_88 (by decide) ?_
                  have hl := lv_sub hl [0, 1, 2] (show _ = [(2, .int (nI (i + 1))), (1, .int 1), (0, .ref mo)] from rfl)
                  exfalso; omega
        | succ jj241 ih => 
          intro i wv H locs ls hm9 hi hwv hP hD hS hl
          refine lv_iload_n hx hb d_Md_isWhole_51 rfl (lv_at hl 0 rfl) ?_
          refine lv_sipush (v := 256) hx hb d_Md_isWhole_52 (by decide) ?_
          refine lv_icmp_ge (tgt := 91) hx hb d_Md_isWhole_55 (by decide) (fun hc254 => ?_) (fun hc254 => ?_)
          · skip
            have n255 : 256 ≤ i := (nI_leI (a := 256) (b := i) (by omega) (by omega)).mp hc254
            have hl := lv_sub hl [1, 2] (show _ = [(1, .int wv), (0, .ref mo)] from rfl)
            exact ex0 i wv _ _ _  hP hD hS hl
          · skip
            have n256 : i < 256 := Nat.not_le.mp (fun h7 => hc254 ((nI_leI (a := 256) (b := i) (by omega) (by omega)).mpr h7))
            refine lv_iload_n hx hb d_Md_isWhole_58 rfl (lv_at hl 1 rfl) ?_
            refine lv_if_eq (tgt := 91) hx hb d_Md_isWhole_59 (by decide) (fun hc257 => ?_) (fun hc257 => ?_)
            · skip
              have hl := lv_sub hl [1, 2] (show _ = [(1, .int wv), (0, .ref mo)] from rfl)
              exact ex0 i wv _ _ _  hP hD hS hl
            · skip
              refine lv_iload_n hx hb d_Md_isWhole_62 rfl (lv_at hl 0 rfl) ?_
              have hPc := hP.sub (ws' := []) [] rfl
              have hDc := hD.sub (ws' := []) [] (by decide) rfl
              have hFc := va_free (wc := []) hD hS hA [] rfl
              refine va_calli (va_runS (As := [.int (nI i)]) (rest := []) ⟨hx, hb, hml, hown, hg⟩ (m_known l dC dI cT H.size (nI i) ) (va_cwS 1 hg (gI (List.forall_mem_append.mpr ⟨List.forall_mem_cons.mpr ⟨k_1291, List.forall_mem_cons.mpr ⟨k_1292, List.forall_mem_cons.mpr ⟨k_13, fun _ h => absurd h List.not_mem_nil⟩⟩⟩, List.forall_mem_cons.mpr ⟨k_1293, fun _ h => h⟩⟩)) rfl rfl rfl (by decide +kernel) ⟨Nat.le_of_ble_eq_true rfl, Nat.le_of_ble_eq_true rfl⟩) ⟨fun a U g mk q => by obtain ⟨q0, q1, qP, qK, qD⟩ := q; exact ⟨q0, q1, qP, va_K.moved (u := U) (U := U.calling g mk a) (Vm.Alike.refl U.vm) qK, qD⟩, fun U hU hW => ⟨rfl, by rw [hU], by rw [hU]; exact hPc, va_K.moved hW.alike hK, hDc.weaken (fun _ _ _ _ => trivial)⟩⟩ rfl rfl hl.1 rfl (lv_room (Nat.le_of_ble_eq_true rfl)) d_Md_isWhole_63 ⟨Nat.le_of_ble_eq_true rfl, Nat.le_of_ble_eq_true rfl⟩) hS (fun q _ h => hFc q h) hFc (fun rv9 u t H1 locs ht hvm hw hB hz1 hk1 hS => ?_)
              try dsimp only at hw hB
              obtain ⟨hP1, hK1, hD1⟩ := hB
              rw [ht] at hP1
              generalize rv9 = r258 at hw ⊢
              obtain ⟨hP, hD⟩ := va_join (wr := [(mo, .inr (12, mdG r cd tm (nI sn) (nI tx) (nI lz) (nI az) (nI na) (nI nt) (nI nr) mw ml mk dq)), (r 7, .inl ((cT 0), 1000, .inl f7))]) (w1 := []) hP hD [] [0, 1] rfl rfl (by decide) (by decide) hk1 hFc hP1 hD1
              have hw259 := hw
              clear hPc hDc hFc hz1 hk1 hP1 hK1 hD1
              generalize H1 = H at hP hS ⊢
              have hP : va_P (dC, dI) vcl [(mo, .inr (12, mdG r cd tm (nI sn) (nI tx) (nI lz) (nI az) (nI na) (nI nt) (nI nr) mw ml mk dq)), (r 7, .inl ((cT 0), 1000, .inl f7))] H := hP
              have hD : va_D A [(mo, .inr (12, mdG r cd tm (nI sn) (nI tx) (nI lz) (nI az) (nI na) (nI nt) (nI nr) mw ml mk dq)), (r 7, .inl ((cT 0), 1000, .inl f7))] := hD
              refine lv_if_eq (tgt := 79) hx hb d_Md_isWhole_66 (by decide) (fun hc260 => ?_) (fun hc260 => ?_)
              · skip
                refine lv_iconst (v := 1) hx hb d_Md_isWhole_79 (by decide) ?_
                refine lv_goto (tgt := 84) hx hb d_Md_isWhole_80 (by decide) ?_
                refine lv_istore_n (lv' := [(1, .int 1), (2, .int (nI i)), (0, .ref mo)]) hx hb d_Md_isWhole_84 rfl hl (by decide) rfl (fun ls hl => ?_)
                refine lv_iinc (k := 1) (v := nI (i + 1)) (lv' := [(2, .int (nI (i + 1))), (1, .int 1), (0, .ref mo)]) hx hb d_Md_isWhole_85 hl rfl (nI_1 i) (by decide) rfl (fun ls hl => ?_)
                refine lv_goto (tgt := 51) hx hb d_Md_isWhole_88 (by decide) ?_
                have hl := lv_sub hl [0, 1, 2] (show _ = [(2, .int (nI (i + 1))), (1, .int 1), (0, .ref mo)] from rfl)
                exact ih (i + 1) 1 _ _ _ (by omega) (by omega) (Or.inr rfl) hP hD hS hl
              · skip
                refine lv_aload_n hx hb d_Md_isWhole_69 rfl (lv_at hl 2 rfl) ?_
                refine lv_iload_n hx hb d_Md_isWhole_70 rfl (lv_at hl 0 rfl) ?_
                have hPc := hP.sub (ws' := [(mo, .inr (12, mdG r cd tm (nI sn) (nI tx) (nI lz) (nI az) (nI na) (nI nt) (nI nr) mw ml mk dq)), (r 7, .inl ((cT 0), 1000, .inl f7))]) [0, 1] rfl
                have hDc := hD.sub (ws' := [(mo, .inr (12, mdG r cd tm (nI sn) (nI tx) (nI lz) (nI az) (nI na) (nI nt) (nI nr) mw ml mk dq)), (r 7, .inl ((cT 0), 1000, .inl f7))]) [0, 1] (by decide) rfl
                have hFc := va_free (wc := [(mo, .inr (12, mdG r cd tm (nI sn) (nI tx) (nI lz) (nI az) (nI na) (nI nt) (nI nr) mw ml mk dq)), (r 7, .inl ((cT 0), 1000, .inl f7))]) hD hS hA [0, 1] rfl
                refine va_calli (va_runV (C := "DoorServerModel") (As := [.int (nI i)]) (rest := []) ⟨hx, hb, hml, hown, hg⟩ (m_find l dC dI cT H.size mo r cd tm sn tx lz az na nt nr mw ml mk dq f7 (nI i) (by first | assumption | omega) (by first | assumption | omega) (by first | assumption | omega)) (cwV 1 hg (gI (List.forall_mem_append.mpr ⟨List.forall_mem_cons.mpr ⟨k_1294, List.forall_mem_cons.mpr ⟨k_1296, List.forall_mem_cons.mpr ⟨(big_sel (q := y_Md_find) (n := 45) (by decide +kernel)), List.forall_mem_cons.mpr ⟨k_13, fun _ h => absurd h List.not_mem_nil⟩⟩⟩⟩, List.forall_mem_cons.mpr ⟨k_1297, fun _ h => h⟩⟩)) rfl rfl rfl (by decide +kernel) ⟨Nat.le_of_ble_eq_true rfl, Nat.le_of_ble_eq_true rfl⟩) ⟨fun a U g mk q => by obtain ⟨q0, q1, qP, qK, qD⟩ := q; exact ⟨q0, q1, qP, va_K.moved (u := U) (U := U.calling g mk a) (Vm.Alike.refl U.vm) qK, qD⟩, va_recv (q0 := 0) (ci := 12) hK hP rfl rfl, fun U hU hW => ⟨rfl, by rw [hU], by rw [hU]; exact hPc, va_K.moved hW.alike hK, hDc.weaken (fun _ _ _ _ => trivial)⟩⟩ rfl rfl hl.1 rfl (lv_room (Nat.le_of_ble_eq_true rfl)) d_Md_isWhole_71 ⟨Nat.le_of_ble_eq_true rfl, Nat.le_of_ble_eq_true rfl⟩) hS (fun q _ h => hFc q h) hFc (fun rv9 u t H1 locs ht hvm hw hB hz1 hk1 hS => ?_)
                try dsimp only at hw hB
                obtain ⟨hP1, hK1, hD1⟩ := hB
                rw [ht] at hP1
                generalize rv9 = r261 at hw ⊢
                obtain ⟨hP, hD⟩ := va_join (wr := []) (w1 := [(mo, .inr (12, mdG r cd tm (nI sn) (nI tx) (nI lz) (nI az) (nI na) (nI nt) (nI nr) mw ml mk dq)), (r 7, .inl ((cT 0), 1000, .inl f7))]) hP hD [0, 1] [] rfl rfl (by decide) (by decide) hk1 hFc hP1 hD1
                have hw262 := hw
                clear hPc hDc hFc hz1 hk1 hP1 hK1 hD1
                generalize H1 = H at hP hS ⊢
                have hP : va_P (dC, dI) vcl [(mo, .inr (12, mdG r cd tm (nI sn) (nI tx) (nI lz) (nI az) (nI na) (nI nt) (nI nr) mw ml mk dq)), (r 7, .inl ((cT 0), 1000, .inl f7))] H := hP
                have hD : va_D A [(mo, .inr (12, mdG r cd tm (nI sn) (nI tx) (nI lz) (nI az) (nI na) (nI nt) (nI nr) mw ml mk dq)), (r 7, .inl ((cT 0), 1000, .inl f7))] := hD
                obtain ⟨k263, k264⟩ := hw262
                refine lv_bipush (v := (-2)) hx hb d_Md_isWhole_74 (by decide) ?_
                refine lv_icmp_eq (tgt := 83) hx hb d_Md_isWhole_76 (by decide) (fun hc265 => ?_) (fun hc265 => ?_)
                · skip
                  refine lv_iconst (v := 0) hx hb d_Md_isWhole_83 (by decide) ?_
                  refine lv_istore_n (lv' := [(1, .int 0), (2, .int (nI i)), (0, .ref mo)]) hx hb d_Md_isWhole_84 rfl hl (by decide) rfl (fun ls hl => ?_)
                  refine lv_iinc (k := 1) (v := nI (i + 1)) (lv' := [(2, .int (nI (i + 1))), (1, .int 0), (0, .ref mo)]) hx hb d_Md_isWhole_85 hl rfl (nI_1 i) (by decide) rfl (fun ls hl => ?_)
                  refine lv_goto (tgt := 51) hx hb d_Md_isWhole_88 (by decide) ?_
                  have hl := lv_sub hl [0, 1, 2] (show _ = [(2, .int (nI (i + 1))), (1, .int 0), (0, .ref mo)] from rfl)
                  exact ih (i + 1) 0 _ _ _ (by omega) (by omega) (Or.inl rfl) hP hD hS hl
                · skip
                  refine lv_iconst (v := 1) hx hb d_Md_isWhole_79 (by decide) ?_
                  refine lv_goto (tgt := 84) hx hb d_Md_isWhole_80 (by decide) ?_
                  refine lv_istore_n (lv' := [(1, .int 1), (2, .int (nI i)), (0, .ref mo)]) hx hb d_Md_isWhole_84 rfl hl (by decide) rfl (fun ls hl => ?_)
                  refine lv_iinc (k := 1) (v := nI (i + 1)) (lv' := [(2, .int (nI (i + 1))), (1, .int 1), (0, .ref mo)]) hx hb d_Md_isWhole_85 hl rfl (nI_1 i) (by decide) rfl (fun ls hl => ?_)
                  refine lv_goto (tgt := 51) hx hb d_Md_isWhole_88 (by decide) ?_
                  have hl := lv_sub hl [0, 1, 2] (show _ = [(2, .int (nI (i + 1))), (1, .int 1), (0, .ref mo)] from rfl)
                  exact ih (i + 1) 1 _ _ _ (by omega) (by omega) (Or.inr rfl) hP hD hS hl
      refine L240 _ (fun i wv H locs ls  hP hD hS hl => ?_) (256 - 0) 0 0 s.heap _ ls (Nat.le_refl _) (by omega) (Or.inl rfl) hP hD hS hl
      · skip
        refine lv_iload_n hx hb d_Md_isWhole_91 rfl (lv_at hl 0 rfl) ?_
        refine lv_if_eq (tgt := 106) hx hb d_Md_isWhole_92 (by decide) (fun hc266 => ?_) (fun hc266 => ?_)
        · skip
          refine lv_iconst (v := 0) hx hb d_Md_isWhole_106 (by decide) ?_
          have hP9 := hP.sub (ws' := [(mo, .inr (12, mdG r cd tm (nI sn) (nI tx) (nI lz) (nI az) (nI na) (nI nt) (nI nr) mw ml mk dq)), (r 7, .inl ((cT 0), 1000, .inl f7))]) [0, 1] rfl
          have hD9 := hD.sub (ws' := [(mo, .inr (12, mdG r cd tm (nI sn) (nI tx) (nI lz) (nI az) (nI na) (nI nt) (nI nr) mw ml mk dq)), (r 7, .inl ((cT 0), 1000, .inl f7))]) [0, 1] (by decide) rfl
          exact W.zret (v := 0) hx hb hr (by first | rfl | decide) (fun t ht hW => ⟨⟨_, (), rfl, Or.inl rfl, by rw [ht]; exact hP9, va_K.moved hW.alike hK, hD9⟩, hS.F ht⟩) hS.2.2 d_Md_isWhole_107
        · skip
          refine lv_aload_n hx hb d_Md_isWhole_95 rfl (lv_at hl 1 rfl) ?_
          have hPc := hP.sub (ws' := [(mo, .inr (12, mdG r cd tm (nI sn) (nI tx) (nI lz) (nI az) (nI na) (nI nt) (nI nr) mw ml mk dq)), (r 7, .inl ((cT 0), 1000, .inl f7))]) [0, 1] rfl
          have hDc := hD.sub (ws' := [(mo, .inr (12, mdG r cd tm (nI sn) (nI tx) (nI lz) (nI az) (nI na) (nI nt) (nI nr) mw ml mk dq)), (r 7, .inl ((cT 0), 1000, .inl f7))]) [0, 1] (by decide) rfl
          have hFc := va_free (wc := [(mo, .inr (12, mdG r cd tm (nI sn) (nI tx) (nI lz) (nI az) (nI na) (nI nt) (nI nr) mw ml mk dq)), (r 7, .inl ((cT 0), 1000, .inl f7))]) hD hS hA [0, 1] rfl
          refine va_calli (va_runV (C := "DoorServerModel") (As := []) (rest := []) ⟨hx, hb, hml, hown, hg⟩ (m_findEnd l dC dI cT H.size mo r cd tm sn tx lz az na nt nr mw ml mk dq f7 (by first | assumption | omega) (by first | assumption | omega) (by first | assumption | omega)) (cwV 0 hg (gI (List.forall_mem_append.mpr ⟨List.forall_mem_cons.mpr ⟨k_1301, List.forall_mem_cons.mpr ⟨k_1303, List.forall_mem_cons.mpr ⟨(big_sel (q := y_Md_findEnd) (n := 45) (by decide +kernel)), List.forall_mem_cons.mpr ⟨k_13, fun _ h => absurd h List.not_mem_nil⟩⟩⟩⟩, List.forall_mem_cons.mpr ⟨k_1304, fun _ h => h⟩⟩)) rfl rfl rfl (by decide +kernel) ⟨Nat.le_of_ble_eq_true rfl, Nat.le_of_ble_eq_true rfl⟩) ⟨fun a U g mk q => by obtain ⟨q0, q1, qP, qK, qD⟩ := q; exact ⟨q0, q1, qP, va_K.moved (u := U) (U := U.calling g mk a) (Vm.Alike.refl U.vm) qK, qD⟩, va_recv (q0 := 0) (ci := 12) hK hP rfl rfl, fun U hU hW => ⟨rfl, by rw [hU], by rw [hU]; exact hPc, va_K.moved hW.alike hK, hDc.weaken (fun _ _ _ _ => trivial)⟩⟩ rfl rfl hl.1 rfl (lv_room (Nat.le_of_ble_eq_true rfl)) d_Md_isWhole_96 ⟨Nat.le_of_ble_eq_true rfl, Nat.le_of_ble_eq_true rfl⟩) hS (fun q _ h => hFc q h) hFc (fun rv9 u t H1 locs ht hvm hw hB hz1 hk1 hS => ?_)
          try dsimp only at hw hB
          obtain ⟨hP1, hK1, hD1⟩ := hB
          rw [ht] at hP1
          generalize rv9 = r267 at hw ⊢
          obtain ⟨hP, hD⟩ := va_join (wr := []) (w1 := [(mo, .inr (12, mdG r cd tm (nI sn) (nI tx) (nI lz) (nI az) (nI na) (nI nt) (nI nr) mw ml mk dq)), (r 7, .inl ((cT 0), 1000, .inl f7))]) hP hD [0, 1] [] rfl rfl (by decide) (by decide) hk1 hFc hP1 hD1
          have hw268 := hw
          clear hPc hDc hFc hz1 hk1 hP1 hK1 hD1
          generalize H1 = H at hP hS ⊢
          have hP : va_P (dC, dI) vcl [(mo, .inr (12, mdG r cd tm (nI sn) (nI tx) (nI lz) (nI az) (nI na) (nI nt) (nI nr) mw ml mk dq)), (r 7, .inl ((cT 0), 1000, .inl f7))] H := hP
          have hD : va_D A [(mo, .inr (12, mdG r cd tm (nI sn) (nI tx) (nI lz) (nI az) (nI na) (nI nt) (nI nr) mw ml mk dq)), (r 7, .inl ((cT 0), 1000, .inl f7))] := hD
          have k269 := hw268
          rcases k269 with h8z | h8z
          · skip
            refine lv_topi (fun x271 e270 => ?_)
            obtain rfl : x271 = 0 := by rw [e270]; exact h8z
            refine lv_if_eq (tgt := 106) hx hb d_Md_isWhole_99 (by decide) (fun hc272 => ?_) (fun hn9 => absurd (by decide) hn9)
            refine lv_iconst (v := 0) hx hb d_Md_isWhole_106 (by decide) ?_
            have hP9 := hP.sub (ws' := [(mo, .inr (12, mdG r cd tm (nI sn) (nI tx) (nI lz) (nI az) (nI na) (nI nt) (nI nr) mw ml mk dq)), (r 7, .inl ((cT 0), 1000, .inl f7))]) [0, 1] rfl
            have hD9 := hD.sub (ws' := [(mo, .inr (12, mdG r cd tm (nI sn) (nI tx) (nI lz) (nI az) (nI na) (nI nt) (nI nr) mw ml mk dq)), (r 7, .inl ((cT 0), 1000, .inl f7))]) [0, 1] (by decide) rfl
            exact W.zret (v := 0) hx hb hr (by first | rfl | decide) (fun t ht hW => ⟨⟨_, (), rfl, Or.inl rfl, by rw [ht]; exact hP9, va_K.moved hW.alike hK, hD9⟩, hS.F ht⟩) hS.2.2 d_Md_isWhole_107
          · skip
            refine lv_topi (fun x274 e273 => ?_)
            obtain rfl : x274 = 1 := by rw [e273]; exact h8z
            refine lv_if_eq (tgt := 106) hx hb d_Md_isWhole_99 (by decide) (fun hn9 => absurd hn9 (by decide)) (fun hc275 => ?_)
            refine lv_iconst (v := 1) hx hb d_Md_isWhole_102 (by decide) ?_
            refine lv_goto (tgt := 107) hx hb d_Md_isWhole_103 (by decide) ?_
            have hP9 := hP.sub (ws' := [(mo, .inr (12, mdG r cd tm (nI sn) (nI tx) (nI lz) (nI az) (nI na) (nI nt) (nI nr) mw ml mk dq)), (r 7, .inl ((cT 0), 1000, .inl f7))]) [0, 1] rfl
            have hD9 := hD.sub (ws' := [(mo, .inr (12, mdG r cd tm (nI sn) (nI tx) (nI lz) (nI az) (nI na) (nI nt) (nI nr) mw ml mk dq)), (r 7, .inl ((cT 0), 1000, .inl f7))]) [0, 1] (by decide) rfl
            exact W.zret (v := 1) hx hb hr (by first | rfl | decide) (fun t ht hW => ⟨⟨_, (), rfl, Or.inr rfl, by rw [ht]; exact hP9, va_K.moved hW.alike hK, hD9⟩, hS.F ht⟩) hS.2.2 d_Md_isWhole_107
    · skip
      have n239 : sn ≤ 1000 := Nat.not_lt.mp (fun h7 => hc237 ((nI_ltI (a := 1000) (b := sn) (by omega) (by omega)).mpr h7))
      refine lv_sipush (v := 256) hx hb d_Md_isWhole_19 (by decide) ?_
      refine lv_aload_n hx hb d_Md_isWhole_22 rfl (lv_at hl 0 rfl) ?_
      refine va_get (D := (dC, dI)) (ci := 12) (v := (.ref (r 7))) (C := R_Md) (T := F_Md) (N := 45) hx hb hg in_Md hown hK hP 0 rfl rfl 7 (by decide) (hg _ k_1027) (fun _ h9 => h9) rfl d_Md_isWhole_23 ?_
      refine lv_iconst (v := 2) hx hb d_Md_isWhole_26 (by decide) ?_
      refine lv_topi (fun x277 e276 => ?_)
      obtain rfl : x277 = nI 2 := by rw [e276]; rfl
      refine va_iald hx hb hK hP 1 0 rfl rfl (i := (nI 2)) (vp_in_nI (N := 1000) (by omega) (by decide)) d_Md_isWhole_27 ?_
      refine lv_topi (fun x278 e_x278 => ?_)
      clear e_x278
      refine lv_imul hx hb d_Md_isWhole_28 ?_
      refine lv_aload_n hx hb d_Md_isWhole_29 rfl (lv_at hl 0 rfl) ?_
      refine va_get (D := (dC, dI)) (ci := 12) (v := (.ref (r 7))) (C := R_Md) (T := F_Md) (N := 45) hx hb hg in_Md hown hK hP 0 rfl rfl 7 (by decide) (hg _ k_1027) (fun _ h9 => h9) rfl d_Md_isWhole_30 ?_
      refine lv_iconst (v := 3) hx hb d_Md_isWhole_33 (by decide) ?_
      refine lv_topi (fun x280 e279 => ?_)
      obtain rfl : x280 = nI 3 := by rw [e279]; rfl
      refine va_iald hx hb hK hP 1 0 rfl rfl (i := (nI 3)) (vp_in_nI (N := 1000) (by omega) (by decide)) d_Md_isWhole_34 ?_
      refine lv_topi (fun x281 e_x281 => ?_)
      clear e_x281
      refine lv_iadd hx hb d_Md_isWhole_35 ?_
      refine lv_aload_n hx hb d_Md_isWhole_36 rfl (lv_at hl 0 rfl) ?_
      refine va_get (D := (dC, dI)) (ci := 12) (v := (.int (nI sn))) (C := R_Md) (T := F_Md) (N := 45) hx hb hg in_Md hown hK hP 0 rfl rfl 8 (by decide) (hg _ k_1028) (fun _ h9 => h9) rfl d_Md_isWhole_37 ?_
      refine lv_icmp_ne (tgt := 47) hx hb d_Md_isWhole_40 (by decide) (fun hc282 => ?_) (fun hc282 => ?_)
      · skip
        refine lv_iconst (v := 0) hx hb d_Md_isWhole_47 (by decide) ?_
        refine lv_istore_n (lv' := [(1, .int 0), (0, .ref mo)]) hx hb d_Md_isWhole_48 rfl hl (by decide) rfl (fun ls hl => ?_)
        refine lv_iconst (v := 0) hx hb d_Md_isWhole_49 (by decide) ?_
        refine lv_istore_n (lv' := [(2, .int 0), (1, .int 0), (0, .ref mo)]) hx hb d_Md_isWhole_50 rfl hl (by decide) rfl (fun ls hl => ?_)
        have hl := lv_sub hl [0, 1, 2] (show _ = [(2, .int 0), (1, .int 0), (0, .ref mo)] from rfl)
        have L283 : ∀ (Q : State → Prop) (ex0 : ∀ (i : Nat) (wv : Int32) (H : Heap) (locs : List Loc) (ls : Array Slot), va_P (dC, dI) vcl [(mo, .inr (12, mdG r cd tm (nI sn) (nI tx) (nI lz) (nI az) (nI na) (nI nt) (nI nr) mw ml mk dq)), (r 7, .inl ((cT 0), 1000, .inl f7))] H → va_D A [(mo, .inr (12, mdG r cd tm (nI sn) (nI tx) (nI lz) (nI az) (nI na) (nI nt) (nI nr) mw ml mk dq)), (r 7, .inl ((cT 0), 1000, .inl f7))] → va_S A s.heap H locs → lv_has ls 3 [(1, .int wv), (0, .ref mo)] → W p l e ({ frames := 2, cells := 0, slots := 0, locals := 46 } : Room) s m args below meth c H locs 0 0 Q (F0 m 91 ls [])) (jj284 : Nat) (i : Nat) (wv : Int32) (H : Heap) (locs : List Loc) (ls : Array Slot), 256 - i ≤ jj284 → (i ≤ 256) → (wv = 0 ∨ wv = 1) → va_P (dC, dI) vcl [(mo, .inr (12, mdG r cd tm (nI sn) (nI tx) (nI lz) (nI az) (nI na) (nI nt) (nI nr) mw ml mk dq)), (r 7, .inl ((cT 0), 1000, .inl f7))] H → va_D A [(mo, .inr (12, mdG r cd tm (nI sn) (nI tx) (nI lz) (nI az) (nI na) (nI nt) (nI nr) mw ml mk dq)), (r 7, .inl ((cT 0), 1000, .inl f7))] → va_S A s.heap H locs → lv_has ls 3 [(2, .int (nI i)), (1, .int wv), (0, .ref mo)] → W p l e ({ frames := 2, cells := 0, slots := 0, locals := 46 } : Room) s m args below meth c H locs 0 0 Q (F0 m 51 ls []) := by
          intro Q ex0 jj284
          induction jj284 with
          | zero => 
            intro i wv H locs ls hm9 hi hwv hP hD hS hl
            refine lv_iload_n hx hb d_Md_isWhole_51 rfl (lv_at hl 0 rfl) ?_
            refine lv_sipush (v := 256) hx hb d_Md_isWhole_52 (by decide) ?_
            refine lv_icmp_ge (tgt := 91) hx hb d_Md_isWhole_55 (by decide) (fun hc285 => ?_) (fun hc285 => ?_)
            · skip
              have n286 : 256 ≤ i := (nI_leI (a := 256) (b := i) (by omega) (by omega)).mp hc285
              have hl := lv_sub hl [1, 2] (show _ = [(1, .int wv), (0, .ref mo)] from rfl)
              exact ex0 i wv _ _ _  hP hD hS hl
            · skip
              have n287 : i < 256 := Nat.not_le.mp (fun h7 => hc285 ((nI_leI (a := 256) (b := i) (by omega) (by omega)).mpr h7))
              refine lv_iload_n hx hb d_Md_isWhole_58 rfl (lv_at hl 1 rfl) ?_
              refine lv_if_eq (tgt := 91) hx hb d_Md_isWhole_59 (by decide) (fun hc288 => ?_) (fun hc288 => ?_)
              · skip
                have hl := lv_sub hl [1, 2] (show _ = [(1, .int wv), (0, .ref mo)] from rfl)
                exact ex0 i wv _ _ _  hP hD hS hl
              · skip
                refine lv_iload_n hx hb d_Md_isWhole_62 rfl (lv_at hl 0 rfl) ?_
                have hPc := hP.sub (ws' := []) [] rfl
                have hDc := hD.sub (ws' := []) [] (by decide) rfl
                have hFc := va_free (wc := []) hD hS hA [] rfl
                refine va_calli (va_runS (As := [.int (nI i)]) (rest := []) ⟨hx, hb, hml, hown, hg⟩ (m_known l dC dI cT H.size (nI i) ) (va_cwS 1 hg (gI (List.forall_mem_append.mpr ⟨List.forall_mem_cons.mpr ⟨k_1291, List.forall_mem_cons.mpr ⟨k_1292, List.forall_mem_cons.mpr ⟨k_13, fun _ h => absurd h List.not_mem_nil⟩⟩⟩, List.forall_mem_cons.mpr ⟨k_1293, fun _ h => h⟩⟩)) rfl rfl rfl (by decide +kernel) ⟨Nat.le_of_ble_eq_true rfl, Nat.le_of_ble_eq_true rfl⟩) ⟨fun a U g mk q => by obtain ⟨q0, q1, qP, qK, qD⟩ := q; exact ⟨q0, q1, qP, va_K.moved (u := U) (U := U.calling g mk a) (Vm.Alike.refl U.vm) qK, qD⟩, fun U hU hW => ⟨rfl, by rw [hU], by rw [hU]; exact hPc, va_K.moved hW.alike hK, hDc.weaken (fun _ _ _ _ => trivial)⟩⟩ rfl rfl hl.1 rfl (lv_room (Nat.le_of_ble_eq_true rfl)) d_Md_isWhole_63 ⟨Nat.le_of_ble_eq_true rfl, Nat.le_of_ble_eq_true rfl⟩) hS (fun q _ h => hFc q h) hFc (fun rv9 u t H1 locs ht hvm hw hB hz1 hk1 hS => ?_)
                try dsimp only at hw hB
                obtain ⟨hP1, hK1, hD1⟩ := hB
                rw [ht] at hP1
                generalize rv9 = r289 at hw ⊢
                obtain ⟨hP, hD⟩ := va_join (wr := [(mo, .inr (12, mdG r cd tm (nI sn) (nI tx) (nI lz) (nI az) (nI na) (nI nt) (nI nr) mw ml mk dq)), (r 7, .inl ((cT 0), 1000, .inl f7))]) (w1 := []) hP hD [] [0, 1] rfl rfl (by decide) (by decide) hk1 hFc hP1 hD1
                have hw290 := hw
                clear hPc hDc hFc hz1 hk1 hP1 hK1 hD1
                generalize H1 = H at hP hS ⊢
                have hP : va_P (dC, dI) vcl [(mo, .inr (12, mdG r cd tm (nI sn) (nI tx) (nI lz) (nI az) (nI na) (nI nt) (nI nr) mw ml mk dq)), (r 7, .inl ((cT 0), 1000, .inl f7))] H := hP
                have hD : va_D A [(mo, .inr (12, mdG r cd tm (nI sn) (nI tx) (nI lz) (nI az) (nI na) (nI nt) (nI nr) mw ml mk dq)), (r 7, .inl ((cT 0), 1000, .inl f7))] := hD
                refine lv_if_eq (tgt := 79) hx hb d_Md_isWhole_66 (by decide) (fun hc291 => ?_) (fun hc291 => ?_)
                · skip
                  refine lv_iconst (v := 1) hx hb d_Md_isWhole_79 (by decide) ?_
                  refine lv_goto (tgt := 84) hx hb d_Md_isWhole_80 (by decide) ?_
                  refine lv_istore_n (lv' := [(1, .int 1), (2, .int (nI i)), (0, .ref mo)]) hx hb d_Md_isWhole_84 rfl hl (by decide) rfl (fun ls hl => ?_)
                  refine lv_iinc (k := 1) (v := nI (i + 1)) (lv' := [(2, .int (nI (i + 1))), (1, .int 1), (0, .ref mo)]) hx hb d_Md_isWhole_85 hl rfl (nI_1 i) (by decide) rfl (fun ls hl => ?_)
                  refine lv_goto (tgt := 51) hx hb d_Md_isWhole_88 (by decide) ?_
                  have hl := lv_sub hl [0, 1, 2] (show _ = [(2, .int (nI (i + 1))), (1, .int 1), (0, .ref mo)] from rfl)
                  exfalso; omega
                · skip
                  refine lv_aload_n hx hb d_Md_isWhole_69 rfl (lv_at hl 2 rfl) ?_
                  refine lv_iload_n hx hb d_Md_isWhole_70 rfl (lv_at hl 0 rfl) ?_
                  have hPc := hP.sub (ws' := [(mo, .inr (12, mdG r cd tm (nI sn) (nI tx) (nI lz) (nI az) (nI na) (nI nt) (nI nr) mw ml mk dq)), (r 7, .inl ((cT 0), 1000, .inl f7))]) [0, 1] rfl
                  have hDc := hD.sub (ws' := [(mo, .inr (12, mdG r cd tm (nI sn) (nI tx) (nI lz) (nI az) (nI na) (nI nt) (nI nr) mw ml mk dq)), (r 7, .inl ((cT 0), 1000, .inl f7))]) [0, 1] (by decide) rfl
                  have hFc := va_free (wc := [(mo, .inr (12, mdG r cd tm (nI sn) (nI tx) (nI lz) (nI az) (nI na) (nI nt) (nI nr) mw ml mk dq)), (r 7, .inl ((cT 0), 1000, .inl f7))]) hD hS hA [0, 1] rfl
                  refine va_calli (va_runV (C := "DoorServerModel") (As := [.int (nI i)]) (rest := []) ⟨hx, hb, hml, hown, hg⟩ (m_find l dC dI cT H.size mo r cd tm sn tx lz az na nt nr mw ml mk dq f7 (nI i) (by first | assumption | omega) (by first | assumption | omega) (by first | assumption | omega)) (cwV 1 hg (gI (List.forall_mem_append.mpr ⟨List.forall_mem_cons.mpr ⟨k_1294, List.forall_mem_cons.mpr ⟨k_1296, List.forall_mem_cons.mpr ⟨(big_sel (q := y_Md_find) (n := 45) (by decide +kernel)), List.forall_mem_cons.mpr ⟨k_13, fun _ h => absurd h List.not_mem_nil⟩⟩⟩⟩, List.forall_mem_cons.mpr ⟨k_1297, fun _ h => h⟩⟩)) rfl rfl rfl (by decide +kernel) ⟨Nat.le_of_ble_eq_true rfl, Nat.le_of_ble_eq_true rfl⟩) ⟨fun a U g mk q => by obtain ⟨q0, q1, qP, qK, qD⟩ := q; exact ⟨q0, q1, qP, va_K.moved (u := U) (U := U.calling g mk a) (Vm.Alike.refl U.vm) qK, qD⟩, va_recv (q0 := 0) (ci := 12) hK hP rfl rfl, fun U hU hW => ⟨rfl, by rw [hU], by rw [hU]; exact hPc, va_K.moved hW.alike hK, hDc.weaken (fun _ _ _ _ => trivial)⟩⟩ rfl rfl hl.1 rfl (lv_room (Nat.le_of_ble_eq_true rfl)) d_Md_isWhole_71 ⟨Nat.le_of_ble_eq_true rfl, Nat.le_of_ble_eq_true rfl⟩) hS (fun q _ h => hFc q h) hFc (fun rv9 u t H1 locs ht hvm hw hB hz1 hk1 hS => ?_)
                  try dsimp only at hw hB
                  obtain ⟨hP1, hK1, hD1⟩ := hB
                  rw [ht] at hP1
                  generalize rv9 = r292 at hw ⊢
                  obtain ⟨hP, hD⟩ := va_join (wr := []) (w1 := [(mo, .inr (12, mdG r cd tm (nI sn) (nI tx) (nI lz) (nI az) (nI na) (nI nt) (nI nr) mw ml mk dq)), (r 7, .inl ((cT 0), 1000, .inl f7))]) hP hD [0, 1] [] rfl rfl (by decide) (by decide) hk1 hFc hP1 hD1
                  have hw293 := hw
                  clear hPc hDc hFc hz1 hk1 hP1 hK1 hD1
                  generalize H1 = H at hP hS ⊢
                  have hP : va_P (dC, dI) vcl [(mo, .inr (12, mdG r cd tm (nI sn) (nI tx) (nI lz) (nI az) (nI na) (nI nt) (nI nr) mw ml mk dq)), (r 7, .inl ((cT 0), 1000, .inl f7))] H := hP
                  have hD : va_D A [(mo, .inr (12, mdG r cd tm (nI sn) (nI tx) (nI lz) (nI az) (nI na) (nI nt) (nI nr) mw ml mk dq)), (r 7, .inl ((cT 0), 1000, .inl f7))] := hD
                  obtain ⟨k294, k295⟩ := hw293
                  refine lv_bipush (v := (-2)) hx hb d_Md_isWhole_74 (by decide) ?_
                  refine lv_icmp_eq (tgt := 83) hx hb d_Md_isWhole_76 (by decide) (fun hc296 => ?_) (fun hc296 => ?_)
                  · skip
                    refine lv_iconst (v := 0) hx hb d_Md_isWhole_83 (by decide) ?_
                    refine lv_istore_n (lv' := [(1, .int 0), (2, .int (nI i)), (0, .ref mo)]) hx hb d_Md_isWhole_84 rfl hl (by decide) rfl (fun ls hl => ?_)
                    refine lv_iinc (k := 1) (v := nI (i + 1)) (lv' := [(2, .int (nI (i + 1))), (1, .int 0), (0, .ref mo)]) hx hb d_Md_isWhole_85 hl rfl (nI_1 i) (by decide) rfl (fun ls hl => ?_)
                    refine lv_goto (tgt := 51) hx hb d_Md_isWhole_88 (by decide) ?_
                    have hl := lv_sub hl [0, 1, 2] (show _ = [(2, .int (nI (i + 1))), (1, .int 0), (0, .ref mo)] from rfl)
                    exfalso; omega
                  · skip
                    refine lv_iconst (v := 1) hx hb d_Md_isWhole_79 (by decide) ?_
                    refine lv_goto (tgt := 84) hx hb d_Md_isWhole_80 (by decide) ?_
                    refine lv_istore_n (lv' := [(1, .int 1), (2, .int (nI i)), (0, .ref mo)]) hx hb d_Md_isWhole_84 rfl hl (by decide) rfl (fun ls hl => ?_)
                    refine lv_iinc (k := 1) (v := nI (i + 1)) (lv' := [(2, .int (nI (i + 1))), (1, .int 1), (0, .ref mo)]) hx hb d_Md_isWhole_85 hl rfl (nI_1 i) (by decide) rfl (fun ls hl => ?_)
                    refine lv_goto (tgt := 51) hx hb d_Md_isWhole_88 (by decide) ?_
                    have hl := lv_sub hl [0, 1, 2] (show _ = [(2, .int (nI (i + 1))), (1, .int 1), (0, .ref mo)] from rfl)
                    exfalso; omega
          | succ jj284 ih => 
            intro i wv H locs ls hm9 hi hwv hP hD hS hl
            refine lv_iload_n hx hb d_Md_isWhole_51 rfl (lv_at hl 0 rfl) ?_
            refine lv_sipush (v := 256) hx hb d_Md_isWhole_52 (by decide) ?_
            refine lv_icmp_ge (tgt := 91) hx hb d_Md_isWhole_55 (by decide) (fun hc297 => ?_) (fun hc297 => ?_)
            · skip
              have n298 : 256 ≤ i := (nI_leI (a := 256) (b := i) (by omega) (by omega)).mp hc297
              have hl := lv_sub hl [1, 2] (show _ = [(1, .int wv), (0, .ref mo)] from rfl)
              exact ex0 i wv _ _ _  hP hD hS hl
            · skip
              have n299 : i < 256 := Nat.not_le.mp (fun h7 => hc297 ((nI_leI (a := 256) (b := i) (by omega) (by omega)).mpr h7))
              refine lv_iload_n hx hb d_Md_isWhole_58 rfl (lv_at hl 1 rfl) ?_
              refine lv_if_eq (tgt := 91) hx hb d_Md_isWhole_59 (by decide) (fun hc300 => ?_) (fun hc300 => ?_)
              · skip
                have hl := lv_sub hl [1, 2] (show _ = [(1, .int wv), (0, .ref mo)] from rfl)
                exact ex0 i wv _ _ _  hP hD hS hl
              · skip
                refine lv_iload_n hx hb d_Md_isWhole_62 rfl (lv_at hl 0 rfl) ?_
                have hPc := hP.sub (ws' := []) [] rfl
                have hDc := hD.sub (ws' := []) [] (by decide) rfl
                have hFc := va_free (wc := []) hD hS hA [] rfl
                refine va_calli (va_runS (As := [.int (nI i)]) (rest := []) ⟨hx, hb, hml, hown, hg⟩ (m_known l dC dI cT H.size (nI i) ) (va_cwS 1 hg (gI (List.forall_mem_append.mpr ⟨List.forall_mem_cons.mpr ⟨k_1291, List.forall_mem_cons.mpr ⟨k_1292, List.forall_mem_cons.mpr ⟨k_13, fun _ h => absurd h List.not_mem_nil⟩⟩⟩, List.forall_mem_cons.mpr ⟨k_1293, fun _ h => h⟩⟩)) rfl rfl rfl (by decide +kernel) ⟨Nat.le_of_ble_eq_true rfl, Nat.le_of_ble_eq_true rfl⟩) ⟨fun a U g mk q => by obtain ⟨q0, q1, qP, qK, qD⟩ := q; exact ⟨q0, q1, qP, va_K.moved (u := U) (U := U.calling g mk a) (Vm.Alike.refl U.vm) qK, qD⟩, fun U hU hW => ⟨rfl, by rw [hU], by rw [hU]; exact hPc, va_K.moved hW.alike hK, hDc.weaken (fun _ _ _ _ => trivial)⟩⟩ rfl rfl hl.1 rfl (lv_room (Nat.le_of_ble_eq_true rfl)) d_Md_isWhole_63 ⟨Nat.le_of_ble_eq_true rfl, Nat.le_of_ble_eq_true rfl⟩) hS (fun q _ h => hFc q h) hFc (fun rv9 u t H1 locs ht hvm hw hB hz1 hk1 hS => ?_)
                try dsimp only at hw hB
                obtain ⟨hP1, hK1, hD1⟩ := hB
                rw [ht] at hP1
                generalize rv9 = r301 at hw ⊢
                obtain ⟨hP, hD⟩ := va_join (wr := [(mo, .inr (12, mdG r cd tm (nI sn) (nI tx) (nI lz) (nI az) (nI na) (nI nt) (nI nr) mw ml mk dq)), (r 7, .inl ((cT 0), 1000, .inl f7))]) (w1 := []) hP hD [] [0, 1] rfl rfl (by decide) (by decide) hk1 hFc hP1 hD1
                have hw302 := hw
                clear hPc hDc hFc hz1 hk1 hP1 hK1 hD1
                generalize H1 = H at hP hS ⊢
                have hP : va_P (dC, dI) vcl [(mo, .inr (12, mdG r cd tm (nI sn) (nI tx) (nI lz) (nI az) (nI na) (nI nt) (nI nr) mw ml mk dq)), (r 7, .inl ((cT 0), 1000, .inl f7))] H := hP
                have hD : va_D A [(mo, .inr (12, mdG r cd tm (nI sn) (nI tx) (nI lz) (nI az) (nI na) (nI nt) (nI nr) mw ml mk dq)), (r 7, .inl ((cT 0), 1000, .inl f7))] := hD
                refine lv_if_eq (tgt := 79) hx hb d_Md_isWhole_66 (by decide) (fun hc303 => ?_) (fun hc303 => ?_)
                · skip
                  refine lv_iconst (v := 1) hx hb d_Md_isWhole_79 (by decide) ?_
                  refine lv_goto (tgt := 84) hx hb d_Md_isWhole_80 (by decide) ?_
                  refine lv_istore_n (lv' := [(1, .int 1), (2, .int (nI i)), (0, .ref mo)]) hx hb d_Md_isWhole_84 rfl hl (by decide) rfl (fun ls hl => ?_)
                  refine lv_iinc (k := 1) (v := nI (i + 1)) (lv' := [(2, .int (nI (i + 1))), (1, .int 1), (0, .ref mo)]) hx hb d_Md_isWhole_85 hl rfl (nI_1 i) (by decide) rfl (fun ls hl => ?_)
                  refine lv_goto (tgt := 51) hx hb d_Md_isWhole_88 (by decide) ?_
                  have hl := lv_sub hl [0, 1, 2] (show _ = [(2, .int (nI (i + 1))), (1, .int 1), (0, .ref mo)] from rfl)
                  exact ih (i + 1) 1 _ _ _ (by omega) (by omega) (Or.inr rfl) hP hD hS hl
                · skip
                  refine lv_aload_n hx hb d_Md_isWhole_69 rfl (lv_at hl 2 rfl) ?_
                  refine lv_iload_n hx hb d_Md_isWhole_70 rfl (lv_at hl 0 rfl) ?_
                  have hPc := hP.sub (ws' := [(mo, .inr (12, mdG r cd tm (nI sn) (nI tx) (nI lz) (nI az) (nI na) (nI nt) (nI nr) mw ml mk dq)), (r 7, .inl ((cT 0), 1000, .inl f7))]) [0, 1] rfl
                  have hDc := hD.sub (ws' := [(mo, .inr (12, mdG r cd tm (nI sn) (nI tx) (nI lz) (nI az) (nI na) (nI nt) (nI nr) mw ml mk dq)), (r 7, .inl ((cT 0), 1000, .inl f7))]) [0, 1] (by decide) rfl
                  have hFc := va_free (wc := [(mo, .inr (12, mdG r cd tm (nI sn) (nI tx) (nI lz) (nI az) (nI na) (nI nt) (nI nr) mw ml mk dq)), (r 7, .inl ((cT 0), 1000, .inl f7))]) hD hS hA [0, 1] rfl
                  refine va_calli (va_runV (C := "DoorServerModel") (As := [.int (nI i)]) (rest := []) ⟨hx, hb, hml, hown, hg⟩ (m_find l dC dI cT H.size mo r cd tm sn tx lz az na nt nr mw ml mk dq f7 (nI i) (by first | assumption | omega) (by first | assumption | omega) (by first | assumption | omega)) (cwV 1 hg (gI (List.forall_mem_append.mpr ⟨List.forall_mem_cons.mpr ⟨k_1294, List.forall_mem_cons.mpr ⟨k_1296, List.forall_mem_cons.mpr ⟨(big_sel (q := y_Md_find) (n := 45) (by decide +kernel)), List.forall_mem_cons.mpr ⟨k_13, fun _ h => absurd h List.not_mem_nil⟩⟩⟩⟩, List.forall_mem_cons.mpr ⟨k_1297, fun _ h => h⟩⟩)) rfl rfl rfl (by decide +kernel) ⟨Nat.le_of_ble_eq_true rfl, Nat.le_of_ble_eq_true rfl⟩) ⟨fun a U g mk q => by obtain ⟨q0, q1, qP, qK, qD⟩ := q; exact ⟨q0, q1, qP, va_K.moved (u := U) (U := U.calling g mk a) (Vm.Alike.refl U.vm) qK, qD⟩, va_recv (q0 := 0) (ci := 12) hK hP rfl rfl, fun U hU hW => ⟨rfl, by rw [hU], by rw [hU]; exact hPc, va_K.moved hW.alike hK, hDc.weaken (fun _ _ _ _ => trivial)⟩⟩ rfl rfl hl.1 rfl (lv_room (Nat.le_of_ble_eq_true rfl)) d_Md_isWhole_71 ⟨Nat.le_of_ble_eq_true rfl, Nat.le_of_ble_eq_true rfl⟩) hS (fun q _ h => hFc q h) hFc (fun rv9 u t H1 locs ht hvm hw hB hz1 hk1 hS => ?_)
                  try dsimp only at hw hB
                  obtain ⟨hP1, hK1, hD1⟩ := hB
                  rw [ht] at hP1
                  generalize rv9 = r304 at hw ⊢
                  obtain ⟨hP, hD⟩ := va_join (wr := []) (w1 := [(mo, .inr (12, mdG r cd tm (nI sn) (nI tx) (nI lz) (nI az) (nI na) (nI nt) (nI nr) mw ml mk dq)), (r 7, .inl ((cT 0), 1000, .inl f7))]) hP hD [0, 1] [] rfl rfl (by decide) (by decide) hk1 hFc hP1 hD1
                  have hw305 := hw
                  clear hPc hDc hFc hz1 hk1 hP1 hK1 hD1
                  generalize H1 = H at hP hS ⊢
                  have hP : va_P (dC, dI) vcl [(mo, .inr (12, mdG r cd tm (nI sn) (nI tx) (nI lz) (nI az) (nI na) (nI nt) (nI nr) mw ml mk dq)), (r 7, .inl ((cT 0), 1000, .inl f7))] H := hP
                  have hD : va_D A [(mo, .inr (12, mdG r cd tm (nI sn) (nI tx) (nI lz) (nI az) (nI na) (nI nt) (nI nr) mw ml mk dq)), (r 7, .inl ((cT 0), 1000, .inl f7))] := hD
                  obtain ⟨k306, k307⟩ := hw305
                  refine lv_bipush (v := (-2)) hx hb d_Md_isWhole_74 (by decide) ?_
                  refine lv_icmp_eq (tgt := 83) hx hb d_Md_isWhole_76 (by decide) (fun hc308 => ?_) (fun hc308 => ?_)
                  · skip
                    refine lv_iconst (v := 0) hx hb d_Md_isWhole_83 (by decide) ?_
                    refine lv_istore_n (lv' := [(1, .int 0), (2, .int (nI i)), (0, .ref mo)]) hx hb d_Md_isWhole_84 rfl hl (by decide) rfl (fun ls hl => ?_)
                    refine lv_iinc (k := 1) (v := nI (i + 1)) (lv' := [(2, .int (nI (i + 1))), (1, .int 0), (0, .ref mo)]) hx hb d_Md_isWhole_85 hl rfl (nI_1 i) (by decide) rfl (fun ls hl => ?_)
                    refine lv_goto (tgt := 51) hx hb d_Md_isWhole_88 (by decide) ?_
                    have hl := lv_sub hl [0, 1, 2] (show _ = [(2, .int (nI (i + 1))), (1, .int 0), (0, .ref mo)] from rfl)
                    exact ih (i + 1) 0 _ _ _ (by omega) (by omega) (Or.inl rfl) hP hD hS hl
                  · skip
                    refine lv_iconst (v := 1) hx hb d_Md_isWhole_79 (by decide) ?_
                    refine lv_goto (tgt := 84) hx hb d_Md_isWhole_80 (by decide) ?_
                    refine lv_istore_n (lv' := [(1, .int 1), (2, .int (nI i)), (0, .ref mo)]) hx hb d_Md_isWhole_84 rfl hl (by decide) rfl (fun ls hl => ?_)
                    refine lv_iinc (k := 1) (v := nI (i + 1)) (lv' := [(2, .int (nI (i + 1))), (1, .int 1), (0, .ref mo)]) hx hb d_Md_isWhole_85 hl rfl (nI_1 i) (by decide) rfl (fun ls hl => ?_)
                    refine lv_goto (tgt := 51) hx hb d_Md_isWhole_88 (by decide) ?_
                    have hl := lv_sub hl [0, 1, 2] (show _ = [(2, .int (nI (i + 1))), (1, .int 1), (0, .ref mo)] from rfl)
                    exact ih (i + 1) 1 _ _ _ (by omega) (by omega) (Or.inr rfl) hP hD hS hl
        refine L283 _ (fun i wv H locs ls  hP hD hS hl => ?_) (256 - 0) 0 0 s.heap _ ls (Nat.le_refl _) (by omega) (Or.inl rfl) hP hD hS hl
        · skip
          refine lv_iload_n hx hb d_Md_isWhole_91 rfl (lv_at hl 0 rfl) ?_
          refine lv_if_eq (tgt := 106) hx hb d_Md_isWhole_92 (by decide) (fun hc309 => ?_) (fun hc309 => ?_)
          · skip
            refine lv_iconst (v := 0) hx hb d_Md_isWhole_106 (by decide) ?_
            have hP9 := hP.sub (ws' := [(mo, .inr (12, mdG r cd tm (nI sn) (nI tx) (nI lz) (nI az) (nI na) (nI nt) (nI nr) mw ml mk dq)), (r 7, .inl ((cT 0), 1000, .inl f7))]) [0, 1] rfl
            have hD9 := hD.sub (ws' := [(mo, .inr (12, mdG r cd tm (nI sn) (nI tx) (nI lz) (nI az) (nI na) (nI nt) (nI nr) mw ml mk dq)), (r 7, .inl ((cT 0), 1000, .inl f7))]) [0, 1] (by decide) rfl
            exact W.zret (v := 0) hx hb hr (by first | rfl | decide) (fun t ht hW => ⟨⟨_, (), rfl, Or.inl rfl, by rw [ht]; exact hP9, va_K.moved hW.alike hK, hD9⟩, hS.F ht⟩) hS.2.2 d_Md_isWhole_107
          · skip
            refine lv_aload_n hx hb d_Md_isWhole_95 rfl (lv_at hl 1 rfl) ?_
            have hPc := hP.sub (ws' := [(mo, .inr (12, mdG r cd tm (nI sn) (nI tx) (nI lz) (nI az) (nI na) (nI nt) (nI nr) mw ml mk dq)), (r 7, .inl ((cT 0), 1000, .inl f7))]) [0, 1] rfl
            have hDc := hD.sub (ws' := [(mo, .inr (12, mdG r cd tm (nI sn) (nI tx) (nI lz) (nI az) (nI na) (nI nt) (nI nr) mw ml mk dq)), (r 7, .inl ((cT 0), 1000, .inl f7))]) [0, 1] (by decide) rfl
            have hFc := va_free (wc := [(mo, .inr (12, mdG r cd tm (nI sn) (nI tx) (nI lz) (nI az) (nI na) (nI nt) (nI nr) mw ml mk dq)), (r 7, .inl ((cT 0), 1000, .inl f7))]) hD hS hA [0, 1] rfl
            refine va_calli (va_runV (C := "DoorServerModel") (As := []) (rest := []) ⟨hx, hb, hml, hown, hg⟩ (m_findEnd l dC dI cT H.size mo r cd tm sn tx lz az na nt nr mw ml mk dq f7 (by first | assumption | omega) (by first | assumption | omega) (by first | assumption | omega)) (cwV 0 hg (gI (List.forall_mem_append.mpr ⟨List.forall_mem_cons.mpr ⟨k_1301, List.forall_mem_cons.mpr ⟨k_1303, List.forall_mem_cons.mpr ⟨(big_sel (q := y_Md_findEnd) (n := 45) (by decide +kernel)), List.forall_mem_cons.mpr ⟨k_13, fun _ h => absurd h List.not_mem_nil⟩⟩⟩⟩, List.forall_mem_cons.mpr ⟨k_1304, fun _ h => h⟩⟩)) rfl rfl rfl (by decide +kernel) ⟨Nat.le_of_ble_eq_true rfl, Nat.le_of_ble_eq_true rfl⟩) ⟨fun a U g mk q => by obtain ⟨q0, q1, qP, qK, qD⟩ := q; exact ⟨q0, q1, qP, va_K.moved (u := U) (U := U.calling g mk a) (Vm.Alike.refl U.vm) qK, qD⟩, va_recv (q0 := 0) (ci := 12) hK hP rfl rfl, fun U hU hW => ⟨rfl, by rw [hU], by rw [hU]; exact hPc, va_K.moved hW.alike hK, hDc.weaken (fun _ _ _ _ => trivial)⟩⟩ rfl rfl hl.1 rfl (lv_room (Nat.le_of_ble_eq_true rfl)) d_Md_isWhole_96 ⟨Nat.le_of_ble_eq_true rfl, Nat.le_of_ble_eq_true rfl⟩) hS (fun q _ h => hFc q h) hFc (fun rv9 u t H1 locs ht hvm hw hB hz1 hk1 hS => ?_)
            try dsimp only at hw hB
            obtain ⟨hP1, hK1, hD1⟩ := hB
            rw [ht] at hP1
            generalize rv9 = r310 at hw ⊢
            obtain ⟨hP, hD⟩ := va_join (wr := []) (w1 := [(mo, .inr (12, mdG r cd tm (nI sn) (nI tx) (nI lz) (nI az) (nI na) (nI nt) (nI nr) mw ml mk dq)), (r 7, .inl ((cT 0), 1000, .inl f7))]) hP hD [0, 1] [] rfl rfl (by decide) (by decide) hk1 hFc hP1 hD1
            have hw311 := hw
            clear hPc hDc hFc hz1 hk1 hP1 hK1 hD1
            generalize H1 = H at hP hS ⊢
            have hP : va_P (dC, dI) vcl [(mo, .inr (12, mdG r cd tm (nI sn) (nI tx) (nI lz) (nI az) (nI na) (nI nt) (nI nr) mw ml mk dq)), (r 7, .inl ((cT 0), 1000, .inl f7))] H := hP
            have hD : va_D A [(mo, .inr (12, mdG r cd tm (nI sn) (nI tx) (nI lz) (nI az) (nI na) (nI nt) (nI nr) mw ml mk dq)), (r 7, .inl ((cT 0), 1000, .inl f7))] := hD
            have k312 := hw311
            rcases k312 with h8z | h8z
            · skip
              refine lv_topi (fun x314 e313 => ?_)
              obtain rfl : x314 = 0 := by rw [e313]; exact h8z
              refine lv_if_eq (tgt := 106) hx hb d_Md_isWhole_99 (by decide) (fun hc315 => ?_) (fun hn9 => absurd (by decide) hn9)
              refine lv_iconst (v := 0) hx hb d_Md_isWhole_106 (by decide) ?_
              have hP9 := hP.sub (ws' := [(mo, .inr (12, mdG r cd tm (nI sn) (nI tx) (nI lz) (nI az) (nI na) (nI nt) (nI nr) mw ml mk dq)), (r 7, .inl ((cT 0), 1000, .inl f7))]) [0, 1] rfl
              have hD9 := hD.sub (ws' := [(mo, .inr (12, mdG r cd tm (nI sn) (nI tx) (nI lz) (nI az) (nI na) (nI nt) (nI nr) mw ml mk dq)), (r 7, .inl ((cT 0), 1000, .inl f7))]) [0, 1] (by decide) rfl
              exact W.zret (v := 0) hx hb hr (by first | rfl | decide) (fun t ht hW => ⟨⟨_, (), rfl, Or.inl rfl, by rw [ht]; exact hP9, va_K.moved hW.alike hK, hD9⟩, hS.F ht⟩) hS.2.2 d_Md_isWhole_107
            · skip
              refine lv_topi (fun x317 e316 => ?_)
              obtain rfl : x317 = 1 := by rw [e316]; exact h8z
              refine lv_if_eq (tgt := 106) hx hb d_Md_isWhole_99 (by decide) (fun hn9 => absurd hn9 (by decide)) (fun hc318 => ?_)
              refine lv_iconst (v := 1) hx hb d_Md_isWhole_102 (by decide) ?_
              refine lv_goto (tgt := 107) hx hb d_Md_isWhole_103 (by decide) ?_
              have hP9 := hP.sub (ws' := [(mo, .inr (12, mdG r cd tm (nI sn) (nI tx) (nI lz) (nI az) (nI na) (nI nt) (nI nr) mw ml mk dq)), (r 7, .inl ((cT 0), 1000, .inl f7))]) [0, 1] rfl
              have hD9 := hD.sub (ws' := [(mo, .inr (12, mdG r cd tm (nI sn) (nI tx) (nI lz) (nI az) (nI na) (nI nt) (nI nr) mw ml mk dq)), (r 7, .inl ((cT 0), 1000, .inl f7))]) [0, 1] (by decide) rfl
              exact W.zret (v := 1) hx hb hr (by first | rfl | decide) (fun t ht hW => ⟨⟨_, (), rfl, Or.inr rfl, by rw [ht]; exact hP9, va_K.moved hW.alike hK, hD9⟩, hS.F ht⟩) hS.2.2 d_Md_isWhole_107
      · skip
        refine lv_iconst (v := 1) hx hb d_Md_isWhole_43 (by decide) ?_
        refine lv_goto (tgt := 48) hx hb d_Md_isWhole_44 (by decide) ?_
        refine lv_istore_n (lv' := [(1, .int 1), (0, .ref mo)]) hx hb d_Md_isWhole_48 rfl hl (by decide) rfl (fun ls hl => ?_)
        refine lv_iconst (v := 0) hx hb d_Md_isWhole_49 (by decide) ?_
        refine lv_istore_n (lv' := [(2, .int 0), (1, .int 1), (0, .ref mo)]) hx hb d_Md_isWhole_50 rfl hl (by decide) rfl (fun ls hl => ?_)
        have hl := lv_sub hl [0, 1, 2] (show _ = [(2, .int 0), (1, .int 1), (0, .ref mo)] from rfl)
        have L319 : ∀ (Q : State → Prop) (ex0 : ∀ (i : Nat) (wv : Int32) (H : Heap) (locs : List Loc) (ls : Array Slot), va_P (dC, dI) vcl [(mo, .inr (12, mdG r cd tm (nI sn) (nI tx) (nI lz) (nI az) (nI na) (nI nt) (nI nr) mw ml mk dq)), (r 7, .inl ((cT 0), 1000, .inl f7))] H → va_D A [(mo, .inr (12, mdG r cd tm (nI sn) (nI tx) (nI lz) (nI az) (nI na) (nI nt) (nI nr) mw ml mk dq)), (r 7, .inl ((cT 0), 1000, .inl f7))] → va_S A s.heap H locs → lv_has ls 3 [(1, .int wv), (0, .ref mo)] → W p l e ({ frames := 2, cells := 0, slots := 0, locals := 46 } : Room) s m args below meth c H locs 0 0 Q (F0 m 91 ls [])) (jj320 : Nat) (i : Nat) (wv : Int32) (H : Heap) (locs : List Loc) (ls : Array Slot), 256 - i ≤ jj320 → (i ≤ 256) → (wv = 0 ∨ wv = 1) → va_P (dC, dI) vcl [(mo, .inr (12, mdG r cd tm (nI sn) (nI tx) (nI lz) (nI az) (nI na) (nI nt) (nI nr) mw ml mk dq)), (r 7, .inl ((cT 0), 1000, .inl f7))] H → va_D A [(mo, .inr (12, mdG r cd tm (nI sn) (nI tx) (nI lz) (nI az) (nI na) (nI nt) (nI nr) mw ml mk dq)), (r 7, .inl ((cT 0), 1000, .inl f7))] → va_S A s.heap H locs → lv_has ls 3 [(2, .int (nI i)), (1, .int wv), (0, .ref mo)] → W p l e ({ frames := 2, cells := 0, slots := 0, locals := 46 } : Room) s m args below meth c H locs 0 0 Q (F0 m 51 ls []) := by
          intro Q ex0 jj320
          induction jj320 with
          | zero => 
            intro i wv H locs ls hm9 hi hwv hP hD hS hl
            refine lv_iload_n hx hb d_Md_isWhole_51 rfl (lv_at hl 0 rfl) ?_
            refine lv_sipush (v := 256) hx hb d_Md_isWhole_52 (by decide) ?_
            refine lv_icmp_ge (tgt := 91) hx hb d_Md_isWhole_55 (by decide) (fun hc321 => ?_) (fun hc321 => ?_)
            · skip
              have n322 : 256 ≤ i := (nI_leI (a := 256) (b := i) (by omega) (by omega)).mp hc321
              have hl := lv_sub hl [1, 2] (show _ = [(1, .int wv), (0, .ref mo)] from rfl)
              exact ex0 i wv _ _ _  hP hD hS hl
            · skip
              have n323 : i < 256 := Nat.not_le.mp (fun h7 => hc321 ((nI_leI (a := 256) (b := i) (by omega) (by omega)).mpr h7))
              refine lv_iload_n hx hb d_Md_isWhole_58 rfl (lv_at hl 1 rfl) ?_
              refine lv_if_eq (tgt := 91) hx hb d_Md_isWhole_59 (by decide) (fun hc324 => ?_) (fun hc324 => ?_)
              · skip
                have hl := lv_sub hl [1, 2] (show _ = [(1, .int wv), (0, .ref mo)] from rfl)
                exact ex0 i wv _ _ _  hP hD hS hl
              · skip
                refine lv_iload_n hx hb d_Md_isWhole_62 rfl (lv_at hl 0 rfl) ?_
                have hPc := hP.sub (ws' := []) [] rfl
                have hDc := hD.sub (ws' := []) [] (by decide) rfl
                have hFc := va_free (wc := []) hD hS hA [] rfl
                refine va_calli (va_runS (As := [.int (nI i)]) (rest := []) ⟨hx, hb, hml, hown, hg⟩ (m_known l dC dI cT H.size (nI i) ) (va_cwS 1 hg (gI (List.forall_mem_append.mpr ⟨List.forall_mem_cons.mpr ⟨k_1291, List.forall_mem_cons.mpr ⟨k_1292, List.forall_mem_cons.mpr ⟨k_13, fun _ h => absurd h List.not_mem_nil⟩⟩⟩, List.forall_mem_cons.mpr ⟨k_1293, fun _ h => h⟩⟩)) rfl rfl rfl (by decide +kernel) ⟨Nat.le_of_ble_eq_true rfl, Nat.le_of_ble_eq_true rfl⟩) ⟨fun a U g mk q => by obtain ⟨q0, q1, qP, qK, qD⟩ := q; exact ⟨q0, q1, qP, va_K.moved (u := U) (U := U.calling g mk a) (Vm.Alike.refl U.vm) qK, qD⟩, fun U hU hW => ⟨rfl, by rw [hU], by rw [hU]; exact hPc, va_K.moved hW.alike hK, hDc.weaken (fun _ _ _ _ => trivial)⟩⟩ rfl rfl hl.1 rfl (lv_room (Nat.le_of_ble_eq_true rfl)) d_Md_isWhole_63 ⟨Nat.le_of_ble_eq_true rfl, Nat.le_of_ble_eq_true rfl⟩) hS (fun q _ h => hFc q h) hFc (fun rv9 u t H1 locs ht hvm hw hB hz1 hk1 hS => ?_)
                try dsimp only at hw hB
                obtain ⟨hP1, hK1, hD1⟩ := hB
                rw [ht] at hP1
                generalize rv9 = r325 at hw ⊢
                obtain ⟨hP, hD⟩ := va_join (wr := [(mo, .inr (12, mdG r cd tm (nI sn) (nI tx) (nI lz) (nI az) (nI na) (nI nt) (nI nr) mw ml mk dq)), (r 7, .inl ((cT 0), 1000, .inl f7))]) (w1 := []) hP hD [] [0, 1] rfl rfl (by decide) (by decide) hk1 hFc hP1 hD1
                have hw326 := hw
                clear hPc hDc hFc hz1 hk1 hP1 hK1 hD1
                generalize H1 = H at hP hS ⊢
                have hP : va_P (dC, dI) vcl [(mo, .inr (12, mdG r cd tm (nI sn) (nI tx) (nI lz) (nI az) (nI na) (nI nt) (nI nr) mw ml mk dq)), (r 7, .inl ((cT 0), 1000, .inl f7))] H := hP
                have hD : va_D A [(mo, .inr (12, mdG r cd tm (nI sn) (nI tx) (nI lz) (nI az) (nI na) (nI nt) (nI nr) mw ml mk dq)), (r 7, .inl ((cT 0), 1000, .inl f7))] := hD
                refine lv_if_eq (tgt := 79) hx hb d_Md_isWhole_66 (by decide) (fun hc327 => ?_) (fun hc327 => ?_)
                · skip
                  refine lv_iconst (v := 1) hx hb d_Md_isWhole_79 (by decide) ?_
                  refine lv_goto (tgt := 84) hx hb d_Md_isWhole_80 (by decide) ?_
                  refine lv_istore_n (lv' := [(1, .int 1), (2, .int (nI i)), (0, .ref mo)]) hx hb d_Md_isWhole_84 rfl hl (by decide) rfl (fun ls hl => ?_)
                  refine lv_iinc (k := 1) (v := nI (i + 1)) (lv' := [(2, .int (nI (i + 1))), (1, .int 1), (0, .ref mo)]) hx hb d_Md_isWhole_85 hl rfl (nI_1 i) (by decide) rfl (fun ls hl => ?_)
                  refine lv_goto (tgt := 51) hx hb d_Md_isWhole_88 (by decide) ?_
                  have hl := lv_sub hl [0, 1, 2] (show _ = [(2, .int (nI (i + 1))), (1, .int 1), (0, .ref mo)] from rfl)
                  exfalso; omega
                · skip
                  refine lv_aload_n hx hb d_Md_isWhole_69 rfl (lv_at hl 2 rfl) ?_
                  refine lv_iload_n hx hb d_Md_isWhole_70 rfl (lv_at hl 0 rfl) ?_
                  have hPc := hP.sub (ws' := [(mo, .inr (12, mdG r cd tm (nI sn) (nI tx) (nI lz) (nI az) (nI na) (nI nt) (nI nr) mw ml mk dq)), (r 7, .inl ((cT 0), 1000, .inl f7))]) [0, 1] rfl
                  have hDc := hD.sub (ws' := [(mo, .inr (12, mdG r cd tm (nI sn) (nI tx) (nI lz) (nI az) (nI na) (nI nt) (nI nr) mw ml mk dq)), (r 7, .inl ((cT 0), 1000, .inl f7))]) [0, 1] (by decide) rfl
                  have hFc := va_free (wc := [(mo, .inr (12, mdG r cd tm (nI sn) (nI tx) (nI lz) (nI az) (nI na) (nI nt) (nI nr) mw ml mk dq)), (r 7, .inl ((cT 0), 1000, .inl f7))]) hD hS hA [0, 1] rfl
                  refine va_calli (va_runV (C := "DoorServerModel") (As := [.int (nI i)]) (rest := []) ⟨hx, hb, hml, hown, hg⟩ (m_find l dC dI cT H.size mo r cd tm sn tx lz az na nt nr mw ml mk dq f7 (nI i) (by first | assumption | omega) (by first | assumption | omega) (by first | assumption | omega)) (cwV 1 hg (gI (List.forall_mem_append.mpr ⟨List.forall_mem_cons.mpr ⟨k_1294, List.forall_mem_cons.mpr ⟨k_1296, List.forall_mem_cons.mpr ⟨(big_sel (q := y_Md_find) (n := 45) (by decide +kernel)), List.forall_mem_cons.mpr ⟨k_13, fun _ h => absurd h List.not_mem_nil⟩⟩⟩⟩, List.forall_mem_cons.mpr ⟨k_1297, fun _ h => h⟩⟩)) rfl rfl rfl (by decide +kernel) ⟨Nat.le_of_ble_eq_true rfl, Nat.le_of_ble_eq_true rfl⟩) ⟨fun a U g mk q => by obtain ⟨q0, q1, qP, qK, qD⟩ := q; exact ⟨q0, q1, qP, va_K.moved (u := U) (U := U.calling g mk a) (Vm.Alike.refl U.vm) qK, qD⟩, va_recv (q0 := 0) (ci := 12) hK hP rfl rfl, fun U hU hW => ⟨rfl, by rw [hU], by rw [hU]; exact hPc, va_K.moved hW.alike hK, hDc.weaken (fun _ _ _ _ => trivial)⟩⟩ rfl rfl hl.1 rfl (lv_room (Nat.le_of_ble_eq_true rfl)) d_Md_isWhole_71 ⟨Nat.le_of_ble_eq_true rfl, Nat.le_of_ble_eq_true rfl⟩) hS (fun q _ h => hFc q h) hFc (fun rv9 u t H1 locs ht hvm hw hB hz1 hk1 hS => ?_)
                  try dsimp only at hw hB
                  obtain ⟨hP1, hK1, hD1⟩ := hB
                  rw [ht] at hP1
                  generalize rv9 = r328 at hw ⊢
                  obtain ⟨hP, hD⟩ := va_join (wr := []) (w1 := [(mo, .inr (12, mdG r cd tm (nI sn) (nI tx) (nI lz) (nI az) (nI na) (nI nt) (nI nr) mw ml mk dq)), (r 7, .inl ((cT 0), 1000, .inl f7))]) hP hD [0, 1] [] rfl rfl (by decide) (by decide) hk1 hFc hP1 hD1
                  have hw329 := hw
                  clear hPc hDc hFc hz1 hk1 hP1 hK1 hD1
                  generalize H1 = H at hP hS ⊢
                  have hP : va_P (dC, dI) vcl [(mo, .inr (12, mdG r cd tm (nI sn) (nI tx) (nI lz) (nI az) (nI na) (nI nt) (nI nr) mw ml mk dq)), (r 7, .inl ((cT 0), 1000, .inl f7))] H := hP
                  have hD : va_D A [(mo, .inr (12, mdG r cd tm (nI sn) (nI tx) (nI lz) (nI az) (nI na) (nI nt) (nI nr) mw ml mk dq)), (r 7, .inl ((cT 0), 1000, .inl f7))] := hD
                  obtain ⟨k330, k331⟩ := hw329
                  refine lv_bipush (v := (-2)) hx hb d_Md_isWhole_74 (by decide) ?_
                  refine lv_icmp_eq (tgt := 83) hx hb d_Md_isWhole_76 (by decide) (fun hc332 => ?_) (fun hc332 => ?_)
                  · skip
                    refine lv_iconst (v := 0) hx hb d_Md_isWhole_83 (by decide) ?_
                    refine lv_istore_n (lv' := [(1, .int 0), (2, .int (nI i)), (0, .ref mo)]) hx hb d_Md_isWhole_84 rfl hl (by decide) rfl (fun ls hl => ?_)
                    refine lv_iinc (k := 1) (v := nI (i + 1)) (lv' := [(2, .int (nI (i + 1))), (1, .int 0), (0, .ref mo)]) hx hb d_Md_isWhole_85 hl rfl (nI_1 i) (by decide) rfl (fun ls hl => ?_)
                    refine lv_goto (tgt := 51) hx hb d_Md_isWhole_88 (by decide) ?_
                    have hl := lv_sub hl [0, 1, 2] (show _ = [(2, .int (nI (i + 1))), (1, .int 0), (0, .ref mo)] from rfl)
                    exfalso; omega
                  · skip
                    refine lv_iconst (v := 1) hx hb d_Md_isWhole_79 (by decide) ?_
                    refine lv_goto (tgt := 84) hx hb d_Md_isWhole_80 (by decide) ?_
                    refine lv_istore_n (lv' := [(1, .int 1), (2, .int (nI i)), (0, .ref mo)]) hx hb d_Md_isWhole_84 rfl hl (by decide) rfl (fun ls hl => ?_)
                    refine lv_iinc (k := 1) (v := nI (i + 1)) (lv' := [(2, .int (nI (i + 1))), (1, .int 1), (0, .ref mo)]) hx hb d_Md_isWhole_85 hl rfl (nI_1 i) (by decide) rfl (fun ls hl => ?_)
                    refine lv_goto (tgt := 51) hx hb d_Md_isWhole_88 (by decide) ?_
                    have hl := lv_sub hl [0, 1, 2] (show _ = [(2, .int (nI (i + 1))), (1, .int 1), (0, .ref mo)] from rfl)
                    exfalso; omega
          | succ jj320 ih => 
            intro i wv H locs ls hm9 hi hwv hP hD hS hl
            refine lv_iload_n hx hb d_Md_isWhole_51 rfl (lv_at hl 0 rfl) ?_
            refine lv_sipush (v := 256) hx hb d_Md_isWhole_52 (by decide) ?_
            refine lv_icmp_ge (tgt := 91) hx hb d_Md_isWhole_55 (by decide) (fun hc333 => ?_) (fun hc333 => ?_)
            · skip
              have n334 : 256 ≤ i := (nI_leI (a := 256) (b := i) (by omega) (by omega)).mp hc333
              have hl := lv_sub hl [1, 2] (show _ = [(1, .int wv), (0, .ref mo)] from rfl)
              exact ex0 i wv _ _ _  hP hD hS hl
            · skip
              have n335 : i < 256 := Nat.not_le.mp (fun h7 => hc333 ((nI_leI (a := 256) (b := i) (by omega) (by omega)).mpr h7))
              refine lv_iload_n hx hb d_Md_isWhole_58 rfl (lv_at hl 1 rfl) ?_
              refine lv_if_eq (tgt := 91) hx hb d_Md_isWhole_59 (by decide) (fun hc336 => ?_) (fun hc336 => ?_)
              · skip
                have hl := lv_sub hl [1, 2] (show _ = [(1, .int wv), (0, .ref mo)] from rfl)
                exact ex0 i wv _ _ _  hP hD hS hl
              · skip
                refine lv_iload_n hx hb d_Md_isWhole_62 rfl (lv_at hl 0 rfl) ?_
                have hPc := hP.sub (ws' := []) [] rfl
                have hDc := hD.sub (ws' := []) [] (by decide) rfl
                have hFc := va_free (wc := []) hD hS hA [] rfl
                refine va_calli (va_runS (As := [.int (nI i)]) (rest := []) ⟨hx, hb, hml, hown, hg⟩ (m_known l dC dI cT H.size (nI i) ) (va_cwS 1 hg (gI (List.forall_mem_append.mpr ⟨List.forall_mem_cons.mpr ⟨k_1291, List.forall_mem_cons.mpr ⟨k_1292, List.forall_mem_cons.mpr ⟨k_13, fun _ h => absurd h List.not_mem_nil⟩⟩⟩, List.forall_mem_cons.mpr ⟨k_1293, fun _ h => h⟩⟩)) rfl rfl rfl (by decide +kernel) ⟨Nat.le_of_ble_eq_true rfl, Nat.le_of_ble_eq_true rfl⟩) ⟨fun a U g mk q => by obtain ⟨q0, q1, qP, qK, qD⟩ := q; exact ⟨q0, q1, qP, va_K.moved (u := U) (U := U.calling g mk a) (Vm.Alike.refl U.vm) qK, qD⟩, fun U hU hW => ⟨rfl, by rw [hU], by rw [hU]; exact hPc, va_K.moved hW.alike hK, hDc.weaken (fun _ _ _ _ => trivial)⟩⟩ rfl rfl hl.1 rfl (lv_room (Nat.le_of_ble_eq_true rfl)) d_Md_isWhole_63 ⟨Nat.le_of_ble_eq_true rfl, Nat.le_of_ble_eq_true rfl⟩) hS (fun q _ h => hFc q h) hFc (fun rv9 u t H1 locs ht hvm hw hB hz1 hk1 hS => ?_)
                try dsimp only at hw hB
                obtain ⟨hP1, hK1, hD1⟩ := hB
                rw [ht] at hP1
                generalize rv9 = r337 at hw ⊢
                obtain ⟨hP, hD⟩ := va_join (wr := [(mo, .inr (12, mdG r cd tm (nI sn) (nI tx) (nI lz) (nI az) (nI na) (nI nt) (nI nr) mw ml mk dq)), (r 7, .inl ((cT 0), 1000, .inl f7))]) (w1 := []) hP hD [] [0, 1] rfl rfl (by decide) (by decide) hk1 hFc hP1 hD1
                have hw338 := hw
                clear hPc hDc hFc hz1 hk1 hP1 hK1 hD1
                generalize H1 = H at hP hS ⊢
                have hP : va_P (dC, dI) vcl [(mo, .inr (12, mdG r cd tm (nI sn) (nI tx) (nI lz) (nI az) (nI na) (nI nt) (nI nr) mw ml mk dq)), (r 7, .inl ((cT 0), 1000, .inl f7))] H := hP
                have hD : va_D A [(mo, .inr (12, mdG r cd tm (nI sn) (nI tx) (nI lz) (nI az) (nI na) (nI nt) (nI nr) mw ml mk dq)), (r 7, .inl ((cT 0), 1000, .inl f7))] := hD
                refine lv_if_eq (tgt := 79) hx hb d_Md_isWhole_66 (by decide) (fun hc339 => ?_) (fun hc339 => ?_)
                · skip
                  refine lv_iconst (v := 1) hx hb d_Md_isWhole_79 (by decide) ?_
                  refine lv_goto (tgt := 84) hx hb d_Md_isWhole_80 (by decide) ?_
                  refine lv_istore_n (lv' := [(1, .int 1), (2, .int (nI i)), (0, .ref mo)]) hx hb d_Md_isWhole_84 rfl hl (by decide) rfl (fun ls hl => ?_)
                  refine lv_iinc (k := 1) (v := nI (i + 1)) (lv' := [(2, .int (nI (i + 1))), (1, .int 1), (0, .ref mo)]) hx hb d_Md_isWhole_85 hl rfl (nI_1 i) (by decide) rfl (fun ls hl => ?_)
                  refine lv_goto (tgt := 51) hx hb d_Md_isWhole_88 (by decide) ?_
                  have hl := lv_sub hl [0, 1, 2] (show _ = [(2, .int (nI (i + 1))), (1, .int 1), (0, .ref mo)] from rfl)
                  exact ih (i + 1) 1 _ _ _ (by omega) (by omega) (Or.inr rfl) hP hD hS hl
                · skip
                  refine lv_aload_n hx hb d_Md_isWhole_69 rfl (lv_at hl 2 rfl) ?_
                  refine lv_iload_n hx hb d_Md_isWhole_70 rfl (lv_at hl 0 rfl) ?_
                  have hPc := hP.sub (ws' := [(mo, .inr (12, mdG r cd tm (nI sn) (nI tx) (nI lz) (nI az) (nI na) (nI nt) (nI nr) mw ml mk dq)), (r 7, .inl ((cT 0), 1000, .inl f7))]) [0, 1] rfl
                  have hDc := hD.sub (ws' := [(mo, .inr (12, mdG r cd tm (nI sn) (nI tx) (nI lz) (nI az) (nI na) (nI nt) (nI nr) mw ml mk dq)), (r 7, .inl ((cT 0), 1000, .inl f7))]) [0, 1] (by decide) rfl
                  have hFc := va_free (wc := [(mo, .inr (12, mdG r cd tm (nI sn) (nI tx) (nI lz) (nI az) (nI na) (nI nt) (nI nr) mw ml mk dq)), (r 7, .inl ((cT 0), 1000, .inl f7))]) hD hS hA [0, 1] rfl
                  refine va_calli (va_runV (C := "DoorServerModel") (As := [.int (nI i)]) (rest := []) ⟨hx, hb, hml, hown, hg⟩ (m_find l dC dI cT H.size mo r cd tm sn tx lz az na nt nr mw ml mk dq f7 (nI i) (by first | assumption | omega) (by first | assumption | omega) (by first | assumption | omega)) (cwV 1 hg (gI (List.forall_mem_append.mpr ⟨List.forall_mem_cons.mpr ⟨k_1294, List.forall_mem_cons.mpr ⟨k_1296, List.forall_mem_cons.mpr ⟨(big_sel (q := y_Md_find) (n := 45) (by decide +kernel)), List.forall_mem_cons.mpr ⟨k_13, fun _ h => absurd h List.not_mem_nil⟩⟩⟩⟩, List.forall_mem_cons.mpr ⟨k_1297, fun _ h => h⟩⟩)) rfl rfl rfl (by decide +kernel) ⟨Nat.le_of_ble_eq_true rfl, Nat.le_of_ble_eq_true rfl⟩) ⟨fun a U g mk q => by obtain ⟨q0, q1, qP, qK, qD⟩ := q; exact ⟨q0, q1, qP, va_K.moved (u := U) (U := U.calling g mk a) (Vm.Alike.refl U.vm) qK, qD⟩, va_recv (q0 := 0) (ci := 12) hK hP rfl rfl, fun U hU hW => ⟨rfl, by rw [hU], by rw [hU]; exact hPc, va_K.moved hW.alike hK, hDc.weaken (fun _ _ _ _ => trivial)⟩⟩ rfl rfl hl.1 rfl (lv_room (Nat.le_of_ble_eq_true rfl)) d_Md_isWhole_71 ⟨Nat.le_of_ble_eq_true rfl, Nat.le_of_ble_eq_true rfl⟩) hS (fun q _ h => hFc q h) hFc (fun rv9 u t H1 locs ht hvm hw hB hz1 hk1 hS => ?_)
                  try dsimp only at hw hB
                  obtain ⟨hP1, hK1, hD1⟩ := hB
                  rw [ht] at hP1
                  generalize rv9 = r340 at hw ⊢
                  obtain ⟨hP, hD⟩ := va_join (wr := []) (w1 := [(mo, .inr (12, mdG r cd tm (nI sn) (nI tx) (nI lz) (nI az) (nI na) (nI nt) (nI nr) mw ml mk dq)), (r 7, .inl ((cT 0), 1000, .inl f7))]) hP hD [0, 1] [] rfl rfl (by decide) (by decide) hk1 hFc hP1 hD1
                  have hw341 := hw
                  clear hPc hDc hFc hz1 hk1 hP1 hK1 hD1
                  generalize H1 = H at hP hS ⊢
                  have hP : va_P (dC, dI) vcl [(mo, .inr (12, mdG r cd tm (nI sn) (nI tx) (nI lz) (nI az) (nI na) (nI nt) (nI nr) mw ml mk dq)), (r 7, .inl ((cT 0), 1000, .inl f7))] H := hP
                  have hD : va_D A [(mo, .inr (12, mdG r cd tm (nI sn) (nI tx) (nI lz) (nI az) (nI na) (nI nt) (nI nr) mw ml mk dq)), (r 7, .inl ((cT 0), 1000, .inl f7))] := hD
                  obtain ⟨k342, k343⟩ := hw341
                  refine lv_bipush (v := (-2)) hx hb d_Md_isWhole_74 (by decide) ?_
                  refine lv_icmp_eq (tgt := 83) hx hb d_Md_isWhole_76 (by decide) (fun hc344 => ?_) (fun hc344 => ?_)
                  · skip
                    refine lv_iconst (v := 0) hx hb d_Md_isWhole_83 (by decide) ?_
                    refine lv_istore_n (lv' := [(1, .int 0), (2, .int (nI i)), (0, .ref mo)]) hx hb d_Md_isWhole_84 rfl hl (by decide) rfl (fun ls hl => ?_)
                    refine lv_iinc (k := 1) (v := nI (i + 1)) (lv' := [(2, .int (nI (i + 1))), (1, .int 0), (0, .ref mo)]) hx hb d_Md_isWhole_85 hl rfl (nI_1 i) (by decide) rfl (fun ls hl => ?_)
                    refine lv_goto (tgt := 51) hx hb d_Md_isWhole_88 (by decide) ?_
                    have hl := lv_sub hl [0, 1, 2] (show _ = [(2, .int (nI (i + 1))), (1, .int 0), (0, .ref mo)] from rfl)
                    exact ih (i + 1) 0 _ _ _ (by omega) (by omega) (Or.inl rfl) hP hD hS hl
                  · skip
                    refine lv_iconst (v := 1) hx hb d_Md_isWhole_79 (by decide) ?_
                    refine lv_goto (tgt := 84) hx hb d_Md_isWhole_80 (by decide) ?_
                    refine lv_istore_n (lv' := [(1, .int 1), (2, .int (nI i)), (0, .ref mo)]) hx hb d_Md_isWhole_84 rfl hl (by decide) rfl (fun ls hl => ?_)
                    refine lv_iinc (k := 1) (v := nI (i + 1)) (lv' := [(2, .int (nI (i + 1))), (1, .int 1), (0, .ref mo)]) hx hb d_Md_isWhole_85 hl rfl (nI_1 i) (by decide) rfl (fun ls hl => ?_)
                    refine lv_goto (tgt := 51) hx hb d_Md_isWhole_88 (by decide) ?_
                    have hl := lv_sub hl [0, 1, 2] (show _ = [(2, .int (nI (i + 1))), (1, .int 1), (0, .ref mo)] from rfl)
                    exact ih (i + 1) 1 _ _ _ (by omega) (by omega) (Or.inr rfl) hP hD hS hl
        refine L319 _ (fun i wv H locs ls  hP hD hS hl => ?_) (256 - 0) 0 1 s.heap _ ls (Nat.le_refl _) (by omega) (Or.inr rfl) hP hD hS hl
        · skip
          refine lv_iload_n hx hb d_Md_isWhole_91 rfl (lv_at hl 0 rfl) ?_
          refine lv_if_eq (tgt := 106) hx hb d_Md_isWhole_92 (by decide) (fun hc345 => ?_) (fun hc345 => ?_)
          · skip
            refine lv_iconst (v := 0) hx hb d_Md_isWhole_106 (by decide) ?_
            have hP9 := hP.sub (ws' := [(mo, .inr (12, mdG r cd tm (nI sn) (nI tx) (nI lz) (nI az) (nI na) (nI nt) (nI nr) mw ml mk dq)), (r 7, .inl ((cT 0), 1000, .inl f7))]) [0, 1] rfl
            have hD9 := hD.sub (ws' := [(mo, .inr (12, mdG r cd tm (nI sn) (nI tx) (nI lz) (nI az) (nI na) (nI nt) (nI nr) mw ml mk dq)), (r 7, .inl ((cT 0), 1000, .inl f7))]) [0, 1] (by decide) rfl
            exact W.zret (v := 0) hx hb hr (by first | rfl | decide) (fun t ht hW => ⟨⟨_, (), rfl, Or.inl rfl, by rw [ht]; exact hP9, va_K.moved hW.alike hK, hD9⟩, hS.F ht⟩) hS.2.2 d_Md_isWhole_107
          · skip
            refine lv_aload_n hx hb d_Md_isWhole_95 rfl (lv_at hl 1 rfl) ?_
            have hPc := hP.sub (ws' := [(mo, .inr (12, mdG r cd tm (nI sn) (nI tx) (nI lz) (nI az) (nI na) (nI nt) (nI nr) mw ml mk dq)), (r 7, .inl ((cT 0), 1000, .inl f7))]) [0, 1] rfl
            have hDc := hD.sub (ws' := [(mo, .inr (12, mdG r cd tm (nI sn) (nI tx) (nI lz) (nI az) (nI na) (nI nt) (nI nr) mw ml mk dq)), (r 7, .inl ((cT 0), 1000, .inl f7))]) [0, 1] (by decide) rfl
            have hFc := va_free (wc := [(mo, .inr (12, mdG r cd tm (nI sn) (nI tx) (nI lz) (nI az) (nI na) (nI nt) (nI nr) mw ml mk dq)), (r 7, .inl ((cT 0), 1000, .inl f7))]) hD hS hA [0, 1] rfl
            refine va_calli (va_runV (C := "DoorServerModel") (As := []) (rest := []) ⟨hx, hb, hml, hown, hg⟩ (m_findEnd l dC dI cT H.size mo r cd tm sn tx lz az na nt nr mw ml mk dq f7 (by first | assumption | omega) (by first | assumption | omega) (by first | assumption | omega)) (cwV 0 hg (gI (List.forall_mem_append.mpr ⟨List.forall_mem_cons.mpr ⟨k_1301, List.forall_mem_cons.mpr ⟨k_1303, List.forall_mem_cons.mpr ⟨(big_sel (q := y_Md_findEnd) (n := 45) (by decide +kernel)), List.forall_mem_cons.mpr ⟨k_13, fun _ h => absurd h List.not_mem_nil⟩⟩⟩⟩, List.forall_mem_cons.mpr ⟨k_1304, fun _ h => h⟩⟩)) rfl rfl rfl (by decide +kernel) ⟨Nat.le_of_ble_eq_true rfl, Nat.le_of_ble_eq_true rfl⟩) ⟨fun a U g mk q => by obtain ⟨q0, q1, qP, qK, qD⟩ := q; exact ⟨q0, q1, qP, va_K.moved (u := U) (U := U.calling g mk a) (Vm.Alike.refl U.vm) qK, qD⟩, va_recv (q0 := 0) (ci := 12) hK hP rfl rfl, fun U hU hW => ⟨rfl, by rw [hU], by rw [hU]; exact hPc, va_K.moved hW.alike hK, hDc.weaken (fun _ _ _ _ => trivial)⟩⟩ rfl rfl hl.1 rfl (lv_room (Nat.le_of_ble_eq_true rfl)) d_Md_isWhole_96 ⟨Nat.le_of_ble_eq_true rfl, Nat.le_of_ble_eq_true rfl⟩) hS (fun q _ h => hFc q h) hFc (fun rv9 u t H1 locs ht hvm hw hB hz1 hk1 hS => ?_)
            try dsimp only at hw hB
            obtain ⟨hP1, hK1, hD1⟩ := hB
            rw [ht] at hP1
            generalize rv9 = r346 at hw ⊢
            obtain ⟨hP, hD⟩ := va_join (wr := []) (w1 := [(mo, .inr (12, mdG r cd tm (nI sn) (nI tx) (nI lz) (nI az) (nI na) (nI nt) (nI nr) mw ml mk dq)), (r 7, .inl ((cT 0), 1000, .inl f7))]) hP hD [0, 1] [] rfl rfl (by decide) (by decide) hk1 hFc hP1 hD1
            have hw347 := hw
            clear hPc hDc hFc hz1 hk1 hP1 hK1 hD1
            generalize H1 = H at hP hS ⊢
            have hP : va_P (dC, dI) vcl [(mo, .inr (12, mdG r cd tm (nI sn) (nI tx) (nI lz) (nI az) (nI na) (nI nt) (nI nr) mw ml mk dq)), (r 7, .inl ((cT 0), 1000, .inl f7))] H := hP
            have hD : va_D A [(mo, .inr (12, mdG r cd tm (nI sn) (nI tx) (nI lz) (nI az) (nI na) (nI nt) (nI nr) mw ml mk dq)), (r 7, .inl ((cT 0), 1000, .inl f7))] := hD
            have k348 := hw347
            rcases k348 with h8z | h8z
            · skip
              refine lv_topi (fun x350 e349 => ?_)
              obtain rfl : x350 = 0 := by rw [e349]; exact h8z
              refine lv_if_eq (tgt := 106) hx hb d_Md_isWhole_99 (by decide) (fun hc351 => ?_) (fun hn9 => absurd (by decide) hn9)
              refine lv_iconst (v := 0) hx hb d_Md_isWhole_106 (by decide) ?_
              have hP9 := hP.sub (ws' := [(mo, .inr (12, mdG r cd tm (nI sn) (nI tx) (nI lz) (nI az) (nI na) (nI nt) (nI nr) mw ml mk dq)), (r 7, .inl ((cT 0), 1000, .inl f7))]) [0, 1] rfl
              have hD9 := hD.sub (ws' := [(mo, .inr (12, mdG r cd tm (nI sn) (nI tx) (nI lz) (nI az) (nI na) (nI nt) (nI nr) mw ml mk dq)), (r 7, .inl ((cT 0), 1000, .inl f7))]) [0, 1] (by decide) rfl
              exact W.zret (v := 0) hx hb hr (by first | rfl | decide) (fun t ht hW => ⟨⟨_, (), rfl, Or.inl rfl, by rw [ht]; exact hP9, va_K.moved hW.alike hK, hD9⟩, hS.F ht⟩) hS.2.2 d_Md_isWhole_107
            · skip
              refine lv_topi (fun x353 e352 => ?_)
              obtain rfl : x353 = 1 := by rw [e352]; exact h8z
              refine lv_if_eq (tgt := 106) hx hb d_Md_isWhole_99 (by decide) (fun hn9 => absurd hn9 (by decide)) (fun hc354 => ?_)
              refine lv_iconst (v := 1) hx hb d_Md_isWhole_102 (by decide) ?_
              refine lv_goto (tgt := 107) hx hb d_Md_isWhole_103 (by decide) ?_
              have hP9 := hP.sub (ws' := [(mo, .inr (12, mdG r cd tm (nI sn) (nI tx) (nI lz) (nI az) (nI na) (nI nt) (nI nr) mw ml mk dq)), (r 7, .inl ((cT 0), 1000, .inl f7))]) [0, 1] rfl
              have hD9 := hD.sub (ws' := [(mo, .inr (12, mdG r cd tm (nI sn) (nI tx) (nI lz) (nI az) (nI na) (nI nt) (nI nr) mw ml mk dq)), (r 7, .inl ((cT 0), 1000, .inl f7))]) [0, 1] (by decide) rfl
              exact W.zret (v := 1) hx hb hr (by first | rfl | decide) (fun t ht hW => ⟨⟨_, (), rfl, Or.inr rfl, by rw [ht]; exact hP9, va_K.moved hW.alike hK, hD9⟩, hS.F ht⟩) hS.2.2 d_Md_isWhole_107
set_option maxHeartbeats 4000000 in
set_option maxRecDepth 100000 in
/-- isDigestAt -/
theorem m_isDigest (l : Launch) (dC : Nat → ClassId) (dI : Nat → Nat → Nat) (cT : Nat → ClassId) (sz : Nat) (mo : Nat) (r : Nat → Nat) (cd : Int32) (tm : Int32) (sn : Nat) (tx : Nat) (lz : Nat) (az : Nat) (na : Nat) (nt : Nat) (nr : Nat) (mw : Int32) (ml : Int32) (mk : Int64) (dq : Int64) (f7 : Nat → Int32) (f11 : Nat → Int32) (at_ : Nat) (hat : at_ + 16 ≤ 1000) : Met l y_Md_isDigestAt (Cond.code y_Md_isDigestAt b_Md_isDigestAt 4 (Option.some Jvm.ClassFile.FieldType.boolean) :: BIG) ({ frames := 0, cells := 0, slots := 0, locals := 0 }) (va_Pc [.ref mo, .int (nI at_)] (fun U => U.heap.size = sz ∧ va_P (dC, dI) vcl [(mo, .inr (12, mdG r cd tm (nI sn) (nI tx) (nI lz) (nI az) (nI na) (nI nt) (nI nr) mw ml mk dq)), (r 7, .inl ((cT 0), 1000, .inl f7)), (r 11, .inl ((cT 0), 16, .inl f11))] U.heap ∧ va_K (dC, dI) vcl (tyL cT) U ∧ va_D (fun _ => True) [(mo, .inr (12, mdG r cd tm (nI sn) (nI tx) (nI lz) (nI az) (nI na) (nI nt) (nI nr) mw ml mk dq)), (r 7, .inl ((cT 0), 1000, .inl f7)), (r 11, .inl ((cT 0), 16, .inl f11))])) (va_Qi (S := Unit) (fun rv9 u => rv9 = 0 ∨ rv9 = 1) (fun u t => va_P (dC, dI) vcl [(mo, .inr (12, mdG r cd tm (nI sn) (nI tx) (nI lz) (nI az) (nI na) (nI nt) (nI nr) mw ml mk dq)), (r 7, .inl ((cT 0), 1000, .inl f7)), (r 11, .inl ((cT 0), 16, .inl f11))] t.heap ∧ va_K (dC, dI) vcl (tyL cT) t ∧ va_D (va_A [(mo, .inr (12, mdG r cd tm (nI sn) (nI tx) (nI lz) (nI az) (nI na) (nI nt) (nI nr) mw ml mk dq)), (r 7, .inl ((cT 0), 1000, .inl f7)), (r 11, .inl ((cT 0), 16, .inl f11))] sz) [(mo, .inr (12, mdG r cd tm (nI sn) (nI tx) (nI lz) (nI az) (nI na) (nI nt) (nI nr) mw ml mk dq)), (r 7, .inl ((cT 0), 1000, .inl f7)), (r 11, .inl ((cT 0), 16, .inl f11))]) (va_A [(mo, .inr (12, mdG r cd tm (nI sn) (nI tx) (nI lz) (nI az) (nI na) (nI nt) (nI nr) mw ml mk dq)), (r 7, .inl ((cT 0), 1000, .inl f7)), (r 11, .inl ((cT 0), 16, .inl f11))] sz)) 0 0 (va_A [(mo, .inr (12, mdG r cd tm (nI sn) (nI tx) (nI lz) (nI az) (nI na) (nI nt) (nI nr) mw ml mk dq)), (r 7, .inl ((cT 0), 1000, .inl f7)), (r 11, .inl ((cT 0), 16, .inl f11))] sz) := by
  refine Met.ofW (cc := b_Md_isDigestAt) (maxL := 4) (ret := (Option.some Jvm.ClassFile.FieldType.boolean)) (by decide) rfl ?_
  intro p e s m args below meth c s₁ B hml hv
  obtain ⟨hargs, hsz, hP, hK, hD0⟩ := hv
  have hx := B.exec
  have hb := B.bytes
  have hr := B.returns
  have hts := atoms_spec (ws := (Cond.code y_Md_isDigestAt b_Md_isDigestAt 4 (Option.some Jvm.ClassFile.FieldType.boolean) :: BIG)) B.pre
  have hg : ∀ w ∈ BIG, w.before _ s = true := fun w h => hts w (List.mem_cons_of_mem _ h)
  have hown : s.vm.findClass "DoorServerModel" = some m.cls := findClass_of_methodNamed B.named
  have hlocks := B.notSynchronized
  subst hsz
  have hD := hD0.self (sz := s.heap.size)
  generalize hAe : va_A [(mo, .inr (12, mdG r cd tm (nI sn) (nI tx) (nI lz) (nI az) (nI na) (nI nt) (nI nr) mw ml mk dq)), (r 7, .inl ((cT 0), 1000, .inl f7)), (r 11, .inl ((cT 0), 16, .inl f11))] s.heap.size = A at hD ⊢
  have hA : ∀ q : Nat, s.heap.size ≤ q → A q := fun q h => by rw [← hAe]; exact Or.inr h
  have hS : va_S A s.heap s.heap [] := va_S.rf
  have hl := lv_entry ([.ref mo, .int (nI at_)]) (n := 4) (Nat.le_of_ble_eq_true rfl)
  refine W.eq (g2 := entryFrame m (List.toArray [.ref mo, .int (nI at_)]) 4) (by rw [hargs]) ?_
  rw [lg_entry_eq]
  generalize (lg_sl ([.ref mo, .int (nI at_)]) ++ List.replicate (4 - (lg_sl ([.ref mo, .int (nI at_)])).length) Slot.unset).toArray = ls at hl ⊢
  have hl : lv_has ls 4 [(0, .ref mo), (1, .int (nI at_))] := hl
  change W p l e ({ frames := 0, cells := 0, slots := 0, locals := 0 } : Room) s m args below meth c s.heap [] 0 0 _ _
  have hP : va_P (dC, dI) vcl [(mo, .inr (12, mdG r cd tm (nI sn) (nI tx) (nI lz) (nI az) (nI na) (nI nt) (nI nr) mw ml mk dq)), (r 7, .inl ((cT 0), 1000, .inl f7)), (r 11, .inl ((cT 0), 16, .inl f11))] s.heap := hP
  refine lv_iconst (v := 1) hx hb d_Md_isDigestAt_0 (by decide) ?_
  refine lv_istore_n (lv' := [(2, .int 1), (0, .ref mo), (1, .int (nI at_))]) hx hb d_Md_isDigestAt_1 rfl hl (by decide) rfl (fun ls hl => ?_)
  refine lv_iconst (v := 0) hx hb d_Md_isDigestAt_2 (by decide) ?_
  refine lv_istore_n (lv' := [(3, .int 0), (2, .int 1), (0, .ref mo), (1, .int (nI at_))]) hx hb d_Md_isDigestAt_3 rfl hl (by decide) rfl (fun ls hl => ?_)
  have hl := lv_sub hl [0, 1, 2, 3] (show _ = [(3, .int 0), (2, .int 1), (0, .ref mo), (1, .int (nI at_))] from rfl)
  have L355 : ∀ (Q : State → Prop) (exit : ∀ (sm : Int32) (H : Heap) (locs : List Loc) (ls : Array Slot), (sm = 0 ∨ sm = 1) → va_P (dC, dI) vcl [(mo, .inr (12, mdG r cd tm (nI sn) (nI tx) (nI lz) (nI az) (nI na) (nI nt) (nI nr) mw ml mk dq)), (r 7, .inl ((cT 0), 1000, .inl f7)), (r 11, .inl ((cT 0), 16, .inl f11))] H → va_D A [(mo, .inr (12, mdG r cd tm (nI sn) (nI tx) (nI lz) (nI az) (nI na) (nI nt) (nI nr) mw ml mk dq)), (r 7, .inl ((cT 0), 1000, .inl f7)), (r 11, .inl ((cT 0), 16, .inl f11))] → va_S A s.heap H locs → lv_has ls 4 [(3, .int (nI 16)), (2, .int sm), (0, .ref mo), (1, .int (nI at_))] → W p l e ({ frames := 0, cells := 0, slots := 0, locals := 0 } : Room) s m args below meth c H locs 0 0 Q (F0 m 43 ls [])) (j8 i : Nat) (sm : Int32) (H : Heap) (locs : List Loc) (ls : Array Slot), i + j8 = 16 → (sm = 0 ∨ sm = 1) → va_P (dC, dI) vcl [(mo, .inr (12, mdG r cd tm (nI sn) (nI tx) (nI lz) (nI az) (nI na) (nI nt) (nI nr) mw ml mk dq)), (r 7, .inl ((cT 0), 1000, .inl f7)), (r 11, .inl ((cT 0), 16, .inl f11))] H → va_D A [(mo, .inr (12, mdG r cd tm (nI sn) (nI tx) (nI lz) (nI az) (nI na) (nI nt) (nI nr) mw ml mk dq)), (r 7, .inl ((cT 0), 1000, .inl f7)), (r 11, .inl ((cT 0), 16, .inl f11))] → va_S A s.heap H locs → lv_has ls 4 [(3, .int (nI i)), (2, .int sm), (0, .ref mo), (1, .int (nI at_))] → W p l e ({ frames := 0, cells := 0, slots := 0, locals := 0 } : Room) s m args below meth c H locs 0 0 Q (F0 m 4 ls []) := by
    intro Q exit j8
    induction j8 with
    | zero => 
      intro i sm H locs ls hij hsm hP hD hS hl
      have hij : 16 = i := by omega
      refine lv_iload_n hx hb d_Md_isDigestAt_4 rfl (lv_at hl 0 rfl) ?_
      refine lv_bipush (v := 16) hx hb d_Md_isDigestAt_5 (by decide) ?_
      refine lv_topi (fun x357 e356 => ?_)
      obtain rfl : x357 = nI 16 := by rw [e356]; rfl
      refine lv_icmp_ge (tgt := 43) hx hb d_Md_isDigestAt_7 (by decide) (fun hc358 => ?_) (fun hn9 => absurd (nI_le (by omega) (by omega)) hn9)
      subst hij
      exact exit sm _ _ _ hsm hP hD hS hl
    | succ j8 ih => 
      intro i sm H locs ls hij hsm hP hD hS hl
      have hlt : i < 16 := by omega
      have hlti := hlt
      refine lv_iload_n hx hb d_Md_isDigestAt_4 rfl (lv_at hl 0 rfl) ?_
      refine lv_bipush (v := 16) hx hb d_Md_isDigestAt_5 (by decide) ?_
      refine lv_topi (fun x360 e359 => ?_)
      obtain rfl : x360 = nI 16 := by rw [e359]; rfl
      refine lv_icmp_ge (tgt := 43) hx hb d_Md_isDigestAt_7 (by decide) (fun hn9 => absurd hn9 (nI_ge (by omega) (by omega))) (fun hc361 => ?_)
      refine lv_iload_n hx hb d_Md_isDigestAt_10 rfl (lv_at hl 1 rfl) ?_
      refine lv_if_eq (tgt := 35) hx hb d_Md_isDigestAt_11 (by decide) (fun hc362 => ?_) (fun hc362 => ?_)
      · skip
        refine lv_iconst (v := 0) hx hb d_Md_isDigestAt_35 (by decide) ?_
        refine lv_istore_n (lv' := [(2, .int 0), (3, .int (nI i)), (0, .ref mo), (1, .int (nI at_))]) hx hb d_Md_isDigestAt_36 rfl hl (by decide) rfl (fun ls hl => ?_)
        refine lv_iinc (k := 1) (v := nI (i + 1)) (lv' := [(3, .int (nI (i + 1))), (2, .int 0), (0, .ref mo), (1, .int (nI at_))]) hx hb d_Md_isDigestAt_37 hl rfl (nI_1 i) (by decide) rfl (fun ls hl => ?_)
        refine lv_goto (tgt := 4) hx hb d_Md_isDigestAt_40 (by decide) ?_
        have hl := lv_sub hl [0, 1, 2, 3] (show _ = [(3, .int (nI (i + 1))), (2, .int 0), (0, .ref mo), (1, .int (nI at_))] from rfl)
        exact ih (i + 1) _ _ _ _ (by omega) (Or.inl rfl) hP hD hS hl
      · skip
        refine lv_aload_n hx hb d_Md_isDigestAt_14 rfl (lv_at hl 2 rfl) ?_
        refine va_get (D := (dC, dI)) (ci := 12) (v := (.ref (r 7))) (C := R_Md) (T := F_Md) (N := 45) hx hb hg in_Md hown hK hP 0 rfl rfl 7 (by decide) (hg _ k_1027) (fun _ h9 => h9) rfl d_Md_isDigestAt_15 ?_
        refine lv_iload_n hx hb d_Md_isDigestAt_18 rfl (lv_at hl 3 rfl) ?_
        refine lv_iload_n hx hb d_Md_isDigestAt_19 rfl (lv_at hl 0 rfl) ?_
        refine lv_iadd hx hb d_Md_isDigestAt_20 ?_
        refine lv_topi (fun x364 e363 => ?_)
        obtain rfl : x364 = nI (at_ + i) := by rw [e363]; exact nI_add at_ i
        refine va_iald hx hb hK hP 1 0 rfl rfl (i := (nI (at_ + i))) (vp_in_nI (N := 1000) (by omega) (by decide)) d_Md_isDigestAt_21 ?_
        refine lv_topi (fun x365 e_x365 => ?_)
        clear e_x365
        refine lv_aload_n hx hb d_Md_isDigestAt_22 rfl (lv_at hl 2 rfl) ?_
        refine va_get (D := (dC, dI)) (ci := 12) (v := (.ref (r 11))) (C := R_Md) (T := F_Md) (N := 45) hx hb hg in_Md hown hK hP 0 rfl rfl 11 (by decide) (hg _ k_1031) (fun _ h9 => h9) rfl d_Md_isDigestAt_23 ?_
        refine lv_iload_n hx hb d_Md_isDigestAt_26 rfl (lv_at hl 0 rfl) ?_
        refine va_iald hx hb hK hP 2 0 rfl rfl (i := (nI i)) (vp_in_nI (N := 16) (by omega) (by decide)) d_Md_isDigestAt_27 ?_
        refine lv_topi (fun x366 e_x366 => ?_)
        clear e_x366
        refine lv_icmp_ne (tgt := 35) hx hb d_Md_isDigestAt_28 (by decide) (fun hc367 => ?_) (fun hc367 => ?_)
        · skip
          refine lv_iconst (v := 0) hx hb d_Md_isDigestAt_35 (by decide) ?_
          refine lv_istore_n (lv' := [(2, .int 0), (3, .int (nI i)), (0, .ref mo), (1, .int (nI at_))]) hx hb d_Md_isDigestAt_36 rfl hl (by decide) rfl (fun ls hl => ?_)
          refine lv_iinc (k := 1) (v := nI (i + 1)) (lv' := [(3, .int (nI (i + 1))), (2, .int 0), (0, .ref mo), (1, .int (nI at_))]) hx hb d_Md_isDigestAt_37 hl rfl (nI_1 i) (by decide) rfl (fun ls hl => ?_)
          refine lv_goto (tgt := 4) hx hb d_Md_isDigestAt_40 (by decide) ?_
          have hl := lv_sub hl [0, 1, 2, 3] (show _ = [(3, .int (nI (i + 1))), (2, .int 0), (0, .ref mo), (1, .int (nI at_))] from rfl)
          exact ih (i + 1) _ _ _ _ (by omega) (Or.inl rfl) hP hD hS hl
        · skip
          refine lv_iconst (v := 1) hx hb d_Md_isDigestAt_31 (by decide) ?_
          refine lv_goto (tgt := 36) hx hb d_Md_isDigestAt_32 (by decide) ?_
          refine lv_istore_n (lv' := [(2, .int 1), (3, .int (nI i)), (0, .ref mo), (1, .int (nI at_))]) hx hb d_Md_isDigestAt_36 rfl hl (by decide) rfl (fun ls hl => ?_)
          refine lv_iinc (k := 1) (v := nI (i + 1)) (lv' := [(3, .int (nI (i + 1))), (2, .int 1), (0, .ref mo), (1, .int (nI at_))]) hx hb d_Md_isDigestAt_37 hl rfl (nI_1 i) (by decide) rfl (fun ls hl => ?_)
          refine lv_goto (tgt := 4) hx hb d_Md_isDigestAt_40 (by decide) ?_
          have hl := lv_sub hl [0, 1, 2, 3] (show _ = [(3, .int (nI (i + 1))), (2, .int 1), (0, .ref mo), (1, .int (nI at_))] from rfl)
          exact ih (i + 1) _ _ _ _ (by omega) (Or.inr rfl) hP hD hS hl
  refine L355 _ (fun sm H locs ls hsm hP hD hS hl => ?_) (16 - 0) 0 1 s.heap _ ls (by omega) (Or.inr rfl) hP hD hS hl
  refine lv_iload_n hx hb d_Md_isDigestAt_43 rfl (lv_at hl 1 rfl) ?_
  rcases hsm with h7s | h7s
  · skip
    refine lv_topi (fun x369 e368 => ?_)
    obtain rfl : x369 = 0 := by rw [e368]; exact h7s
    have hP9 := hP.sub (ws' := [(mo, .inr (12, mdG r cd tm (nI sn) (nI tx) (nI lz) (nI az) (nI na) (nI nt) (nI nr) mw ml mk dq)), (r 7, .inl ((cT 0), 1000, .inl f7)), (r 11, .inl ((cT 0), 16, .inl f11))]) [0, 1, 2] rfl
    have hD9 := hD.sub (ws' := [(mo, .inr (12, mdG r cd tm (nI sn) (nI tx) (nI lz) (nI az) (nI na) (nI nt) (nI nr) mw ml mk dq)), (r 7, .inl ((cT 0), 1000, .inl f7)), (r 11, .inl ((cT 0), 16, .inl f11))]) [0, 1, 2] (by decide) rfl
    exact W.zret (v := 0) hx hb hr (by first | rfl | decide) (fun t ht hW => ⟨⟨_, (), rfl, Or.inl rfl, by rw [ht]; exact hP9, va_K.moved hW.alike hK, hD9⟩, hS.F ht⟩) hS.2.2 d_Md_isDigestAt_44
  · skip
    refine lv_topi (fun x371 e370 => ?_)
    obtain rfl : x371 = 1 := by rw [e370]; exact h7s
    have hP9 := hP.sub (ws' := [(mo, .inr (12, mdG r cd tm (nI sn) (nI tx) (nI lz) (nI az) (nI na) (nI nt) (nI nr) mw ml mk dq)), (r 7, .inl ((cT 0), 1000, .inl f7)), (r 11, .inl ((cT 0), 16, .inl f11))]) [0, 1, 2] rfl
    have hD9 := hD.sub (ws' := [(mo, .inr (12, mdG r cd tm (nI sn) (nI tx) (nI lz) (nI az) (nI na) (nI nt) (nI nr) mw ml mk dq)), (r 7, .inl ((cT 0), 1000, .inl f7)), (r 11, .inl ((cT 0), 16, .inl f11))]) [0, 1, 2] (by decide) rfl
    exact W.zret (v := 1) hx hb hr (by first | rfl | decide) (fun t ht hW => ⟨⟨_, (), rfl, Or.inr rfl, by rw [ht]; exact hP9, va_K.moved hW.alike hK, hD9⟩, hS.F ht⟩) hS.2.2 d_Md_isDigestAt_44
