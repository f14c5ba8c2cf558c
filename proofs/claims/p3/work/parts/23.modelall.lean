theorem d_Md_put_0 : decode b_Md_put 0 = .ok (.aload_n 0, 1) := by decide +kernel
theorem d_Md_put_1 : decode b_Md_put 1 = .ok (.iload_n 1, 1) := by decide +kernel
theorem d_Md_put_2 : decode b_Md_put 2 = .ok (.invokestatic 303, 3) := by decide +kernel
theorem d_Md_put_5 : decode b_Md_put 5 = .ok (.ifCond .eq 24, 3) := by decide +kernel
theorem d_Md_put_29 : decode b_Md_put 29 = .ok (.iconst 0, 1) := by decide +kernel
theorem d_Md_put_30 : decode b_Md_put 30 = .ok (.invokevirtual 289, 3) := by decide +kernel
theorem d_Md_put_33 : decode b_Md_put 33 = .ok (.ifCond .eq 12, 3) := by decide +kernel
theorem d_Md_put_45 : decode b_Md_put 45 = .ok (.iconst 0, 1) := by decide +kernel
theorem d_Md_put_46 : decode b_Md_put 46 = .ok (.ireturn, 1) := by decide +kernel
theorem d_Md_put_8 : decode b_Md_put 8 = .ok (.iload_n 3, 1) := by decide +kernel
theorem d_Md_put_9 : decode b_Md_put 9 = .ok (.invokestatic 303, 3) := by decide +kernel
theorem d_Md_put_12 : decode b_Md_put 12 = .ok (.ifCond .eq 17, 3) := by decide +kernel
theorem d_Md_put_15 : decode b_Md_put 15 = .ok (.iload_n 2, 1) := by decide +kernel
theorem d_Md_put_16 : decode b_Md_put 16 = .ok (.ifCond .lt 13, 3) := by decide +kernel
theorem d_Md_put_19 : decode b_Md_put 19 = .ok (.iload_n 2, 1) := by decide +kernel
theorem d_Md_put_20 : decode b_Md_put 20 = .ok (.bipush 100, 2) := by decide +kernel
theorem d_Md_put_22 : decode b_Md_put 22 = .ok (.if_icmp .gt 7, 3) := by decide +kernel
theorem d_Md_put_25 : decode b_Md_put 25 = .ok (.iconst 1, 1) := by decide +kernel
theorem d_Md_put_26 : decode b_Md_put 26 = .ok (.goto 4, 3) := by decide +kernel
theorem d_Md_put_36 : decode b_Md_put 36 = .ok (.aload_n 0, 1) := by decide +kernel
theorem d_Md_put_37 : decode b_Md_put 37 = .ok (.iload_n 1, 1) := by decide +kernel
theorem d_Md_put_38 : decode b_Md_put 38 = .ok (.iload_n 2, 1) := by decide +kernel
theorem d_Md_put_39 : decode b_Md_put 39 = .ok (.invokevirtual 310, 3) := by decide +kernel
theorem d_Md_put_42 : decode b_Md_put 42 = .ok (.ifCond .ne 5, 3) := by decide +kernel
theorem d_Md_put_47 : decode b_Md_put 47 = .ok (.iconst 0, 1) := by decide +kernel
theorem d_Md_put_48 : decode b_Md_put 48 = .ok (.istore 4, 2) := by decide +kernel
theorem d_Md_put_50 : decode b_Md_put 50 = .ok (.iload 4, 2) := by decide +kernel
theorem d_Md_put_52 : decode b_Md_put 52 = .ok (.iload_n 2, 1) := by decide +kernel
theorem d_Md_put_53 : decode b_Md_put 53 = .ok (.if_icmp .ge 17, 3) := by decide +kernel
theorem d_Md_put_56 : decode b_Md_put 56 = .ok (.aload_n 0, 1) := by decide +kernel
theorem d_Md_put_57 : decode b_Md_put 57 = .ok (.iload_n 3, 1) := by decide +kernel
theorem d_Md_put_58 : decode b_Md_put 58 = .ok (.iload 4, 2) := by decide +kernel
theorem d_Md_put_60 : decode b_Md_put 60 = .ok (.iadd, 1) := by decide +kernel
theorem d_Md_put_61 : decode b_Md_put 61 = .ok (.invokevirtual 300, 3) := by decide +kernel
theorem d_Md_put_64 : decode b_Md_put 64 = .ok (.iinc 4 1, 3) := by decide +kernel
theorem d_Md_put_67 : decode b_Md_put 67 = .ok (.goto (-17), 3) := by decide +kernel
theorem d_Md_put_70 : decode b_Md_put 70 = .ok (.aload_n 0, 1) := by decide +kernel
theorem d_Md_put_71 : decode b_Md_put 71 = .ok (.invokevirtual 314, 3) := by decide +kernel
theorem d_Md_put_74 : decode b_Md_put 74 = .ok (.ireturn, 1) := by decide +kernel
theorem d_Md_number_0 : decode b_Md_number 0 = .ok (.aload_n 0, 1) := by decide +kernel
theorem d_Md_number_1 : decode b_Md_number 1 = .ok (.iload_n 1, 1) := by decide +kernel
theorem d_Md_number_2 : decode b_Md_number 2 = .ok (.invokestatic 303, 3) := by decide +kernel
theorem d_Md_number_5 : decode b_Md_number 5 = .ok (.invokevirtual 289, 3) := by decide +kernel
theorem d_Md_number_8 : decode b_Md_number 8 = .ok (.ifCond .eq 12, 3) := by decide +kernel
theorem d_Md_number_20 : decode b_Md_number 20 = .ok (.iconst 0, 1) := by decide +kernel
theorem d_Md_number_21 : decode b_Md_number 21 = .ok (.ireturn, 1) := by decide +kernel
theorem d_Md_number_11 : decode b_Md_number 11 = .ok (.aload_n 0, 1) := by decide +kernel
theorem d_Md_number_12 : decode b_Md_number 12 = .ok (.iload_n 1, 1) := by decide +kernel
theorem d_Md_number_13 : decode b_Md_number 13 = .ok (.iconst 4, 1) := by decide +kernel
theorem d_Md_number_14 : decode b_Md_number 14 = .ok (.invokevirtual 310, 3) := by decide +kernel
theorem d_Md_number_17 : decode b_Md_number 17 = .ok (.ifCond .ne 5, 3) := by decide +kernel
theorem d_Md_number_22 : decode b_Md_number 22 = .ok (.bipush 24, 2) := by decide +kernel
theorem d_Md_number_24 : decode b_Md_number 24 = .ok (.istore_n 3, 1) := by decide +kernel
theorem d_Md_number_25 : decode b_Md_number 25 = .ok (.iload_n 3, 1) := by decide +kernel
theorem d_Md_number_26 : decode b_Md_number 26 = .ok (.ifCond .lt 16, 3) := by decide +kernel
theorem d_Md_number_29 : decode b_Md_number 29 = .ok (.aload_n 0, 1) := by decide +kernel
theorem d_Md_number_30 : decode b_Md_number 30 = .ok (.iload_n 2, 1) := by decide +kernel
theorem d_Md_number_31 : decode b_Md_number 31 = .ok (.iload_n 3, 1) := by decide +kernel
theorem d_Md_number_32 : decode b_Md_number 32 = .ok (.ishr, 1) := by decide +kernel
theorem d_Md_number_33 : decode b_Md_number 33 = .ok (.invokevirtual 300, 3) := by decide +kernel
theorem d_Md_number_36 : decode b_Md_number 36 = .ok (.iinc 3 (-8), 3) := by decide +kernel
theorem d_Md_number_39 : decode b_Md_number 39 = .ok (.goto (-14), 3) := by decide +kernel
theorem d_Md_number_42 : decode b_Md_number 42 = .ok (.aload_n 0, 1) := by decide +kernel
theorem d_Md_number_43 : decode b_Md_number 43 = .ok (.invokevirtual 314, 3) := by decide +kernel
theorem d_Md_number_46 : decode b_Md_number 46 = .ok (.ireturn, 1) := by decide +kernel
theorem d_Md_name_0 : decode b_Md_name 0 = .ok (.aload_n 0, 1) := by decide +kernel
theorem d_Md_name_1 : decode b_Md_name 1 = .ok (.iload_n 1, 1) := by decide +kernel
theorem d_Md_name_2 : decode b_Md_name 2 = .ok (.ifCond .lt 13, 3) := by decide +kernel
theorem d_Md_name_15 : decode b_Md_name 15 = .ok (.iconst 0, 1) := by decide +kernel
theorem d_Md_name_16 : decode b_Md_name 16 = .ok (.invokevirtual 289, 3) := by decide +kernel
theorem d_Md_name_19 : decode b_Md_name 19 = .ok (.ifCond .eq 12, 3) := by decide +kernel
theorem d_Md_name_31 : decode b_Md_name 31 = .ok (.iconst 0, 1) := by decide +kernel
theorem d_Md_name_32 : decode b_Md_name 32 = .ok (.ireturn, 1) := by decide +kernel
theorem d_Md_name_5 : decode b_Md_name 5 = .ok (.iload_n 1, 1) := by decide +kernel
theorem d_Md_name_6 : decode b_Md_name 6 = .ok (.bipush 32, 2) := by decide +kernel
theorem d_Md_name_8 : decode b_Md_name 8 = .ok (.if_icmp .ge 7, 3) := by decide +kernel
theorem d_Md_name_11 : decode b_Md_name 11 = .ok (.iconst 1, 1) := by decide +kernel
theorem d_Md_name_12 : decode b_Md_name 12 = .ok (.goto 4, 3) := by decide +kernel
theorem d_Md_name_22 : decode b_Md_name 22 = .ok (.aload_n 0, 1) := by decide +kernel
theorem d_Md_name_23 : decode b_Md_name 23 = .ok (.iconst 1, 1) := by decide +kernel
theorem d_Md_name_24 : decode b_Md_name 24 = .ok (.iconst 3, 1) := by decide +kernel
theorem d_Md_name_25 : decode b_Md_name 25 = .ok (.invokevirtual 310, 3) := by decide +kernel
theorem d_Md_name_28 : decode b_Md_name 28 = .ok (.ifCond .ne 5, 3) := by decide +kernel
theorem d_Md_name_33 : decode b_Md_name 33 = .ok (.aload_n 0, 1) := by decide +kernel
theorem d_Md_name_34 : decode b_Md_name 34 = .ok (.bipush 117, 2) := by decide +kernel
theorem d_Md_name_36 : decode b_Md_name 36 = .ok (.invokevirtual 300, 3) := by decide +kernel
theorem d_Md_name_39 : decode b_Md_name 39 = .ok (.aload_n 0, 1) := by decide +kernel
theorem d_Md_name_40 : decode b_Md_name 40 = .ok (.bipush 48, 2) := by decide +kernel
theorem d_Md_name_42 : decode b_Md_name 42 = .ok (.iload_n 1, 1) := by decide +kernel
theorem d_Md_name_43 : decode b_Md_name 43 = .ok (.bipush 10, 2) := by decide +kernel
theorem d_Md_name_45 : decode b_Md_name 45 = .ok (.idiv, 1) := by decide +kernel
theorem d_Md_name_46 : decode b_Md_name 46 = .ok (.iadd, 1) := by decide +kernel
theorem d_Md_name_47 : decode b_Md_name 47 = .ok (.invokevirtual 300, 3) := by decide +kernel
theorem d_Md_name_50 : decode b_Md_name 50 = .ok (.aload_n 0, 1) := by decide +kernel
theorem d_Md_name_51 : decode b_Md_name 51 = .ok (.bipush 48, 2) := by decide +kernel
theorem d_Md_name_53 : decode b_Md_name 53 = .ok (.iload_n 1, 1) := by decide +kernel
theorem d_Md_name_54 : decode b_Md_name 54 = .ok (.bipush 10, 2) := by decide +kernel
theorem d_Md_name_56 : decode b_Md_name 56 = .ok (.irem, 1) := by decide +kernel
theorem d_Md_name_57 : decode b_Md_name 57 = .ok (.iadd, 1) := by decide +kernel
theorem d_Md_name_58 : decode b_Md_name 58 = .ok (.invokevirtual 300, 3) := by decide +kernel
theorem d_Md_name_61 : decode b_Md_name 61 = .ok (.aload_n 0, 1) := by decide +kernel
theorem d_Md_name_62 : decode b_Md_name 62 = .ok (.invokevirtual 314, 3) := by decide +kernel
theorem d_Md_name_65 : decode b_Md_name 65 = .ok (.ireturn, 1) := by decide +kernel
theorem d_Md_hello_0 : decode b_Md_hello 0 = .ok (.aload_n 0, 1) := by decide +kernel
theorem d_Md_hello_1 : decode b_Md_hello 1 = .ok (.iload_n 1, 1) := by decide +kernel
theorem d_Md_hello_2 : decode b_Md_hello 2 = .ok (.invokestatic 303, 3) := by decide +kernel
theorem d_Md_hello_5 : decode b_Md_hello 5 = .ok (.invokevirtual 289, 3) := by decide +kernel
theorem d_Md_hello_8 : decode b_Md_hello 8 = .ok (.ifCond .eq 13, 3) := by decide +kernel
theorem d_Md_hello_21 : decode b_Md_hello 21 = .ok (.iconst 0, 1) := by decide +kernel
theorem d_Md_hello_22 : decode b_Md_hello 22 = .ok (.ireturn, 1) := by decide +kernel
theorem d_Md_hello_11 : decode b_Md_hello 11 = .ok (.aload_n 0, 1) := by decide +kernel
theorem d_Md_hello_12 : decode b_Md_hello 12 = .ok (.bipush 79, 2) := by decide +kernel
theorem d_Md_hello_14 : decode b_Md_hello 14 = .ok (.iconst 5, 1) := by decide +kernel
theorem d_Md_hello_15 : decode b_Md_hello 15 = .ok (.invokevirtual 310, 3) := by decide +kernel
theorem d_Md_hello_18 : decode b_Md_hello 18 = .ok (.ifCond .ne 5, 3) := by decide +kernel
theorem d_Md_hello_23 : decode b_Md_hello 23 = .ok (.aload_n 0, 1) := by decide +kernel
theorem d_Md_hello_24 : decode b_Md_hello 24 = .ok (.iconst 2, 1) := by decide +kernel
theorem d_Md_hello_25 : decode b_Md_hello 25 = .ok (.invokevirtual 300, 3) := by decide +kernel
theorem d_Md_hello_28 : decode b_Md_hello 28 = .ok (.aload_n 0, 1) := by decide +kernel
theorem d_Md_hello_29 : decode b_Md_hello 29 = .ok (.iload_n 1, 1) := by decide +kernel
theorem d_Md_hello_30 : decode b_Md_hello 30 = .ok (.invokevirtual 300, 3) := by decide +kernel
theorem d_Md_hello_33 : decode b_Md_hello 33 = .ok (.aload_n 0, 1) := by decide +kernel
theorem d_Md_hello_34 : decode b_Md_hello 34 = .ok (.iconst 0, 1) := by decide +kernel
theorem d_Md_hello_35 : decode b_Md_hello 35 = .ok (.invokevirtual 300, 3) := by decide +kernel
theorem d_Md_hello_38 : decode b_Md_hello 38 = .ok (.aload_n 0, 1) := by decide +kernel
theorem d_Md_hello_39 : decode b_Md_hello 39 = .ok (.iconst 5, 1) := by decide +kernel
theorem d_Md_hello_40 : decode b_Md_hello 40 = .ok (.invokevirtual 300, 3) := by decide +kernel
theorem d_Md_hello_43 : decode b_Md_hello 43 = .ok (.aload_n 0, 1) := by decide +kernel
theorem d_Md_hello_44 : decode b_Md_hello 44 = .ok (.iconst 1, 1) := by decide +kernel
theorem d_Md_hello_45 : decode b_Md_hello 45 = .ok (.invokevirtual 300, 3) := by decide +kernel
theorem d_Md_hello_48 : decode b_Md_hello 48 = .ok (.aload_n 0, 1) := by decide +kernel
theorem d_Md_hello_49 : decode b_Md_hello 49 = .ok (.invokevirtual 314, 3) := by decide +kernel
theorem d_Md_hello_52 : decode b_Md_hello 52 = .ok (.ireturn, 1) := by decide +kernel
theorem d_Md_ticks_0 : decode b_Md_ticks 0 = .ok (.aload_n 0, 1) := by decide +kernel
theorem d_Md_ticks_1 : decode b_Md_ticks 1 = .ok (.iload_n 1, 1) := by decide +kernel
theorem d_Md_ticks_2 : decode b_Md_ticks 2 = .ok (.iconst 1, 1) := by decide +kernel
theorem d_Md_ticks_3 : decode b_Md_ticks 3 = .ok (.if_icmp .lt 26, 3) := by decide +kernel
theorem d_Md_ticks_29 : decode b_Md_ticks 29 = .ok (.iconst 0, 1) := by decide +kernel
theorem d_Md_ticks_30 : decode b_Md_ticks 30 = .ok (.invokevirtual 289, 3) := by decide +kernel
theorem d_Md_ticks_33 : decode b_Md_ticks 33 = .ok (.ifCond .ne 5, 3) := by decide +kernel
theorem d_Md_ticks_36 : decode b_Md_ticks 36 = .ok (.iconst 0, 1) := by decide +kernel
theorem d_Md_ticks_37 : decode b_Md_ticks 37 = .ok (.ireturn, 1) := by decide +kernel
theorem d_Md_ticks_6 : decode b_Md_ticks 6 = .ok (.iload_n 1, 1) := by decide +kernel
theorem d_Md_ticks_7 : decode b_Md_ticks 7 = .ok (.sipush 1000, 3) := by decide +kernel
theorem d_Md_ticks_10 : decode b_Md_ticks 10 = .ok (.if_icmp .gt 19, 3) := by decide +kernel
theorem d_Md_ticks_13 : decode b_Md_ticks 13 = .ok (.aload_n 0, 1) := by decide +kernel
theorem d_Md_ticks_14 : decode b_Md_ticks 14 = .ok (.getfield 380, 3) := by decide +kernel
theorem d_Md_ticks_17 : decode b_Md_ticks 17 = .ok (.iload_n 1, 1) := by decide +kernel
theorem d_Md_ticks_18 : decode b_Md_ticks 18 = .ok (.iadd, 1) := by decide +kernel
theorem d_Md_ticks_19 : decode b_Md_ticks 19 = .ok (.ldc_w 454, 3) := by decide +kernel
theorem d_Md_ticks_22 : decode b_Md_ticks 22 = .ok (.if_icmp .gt 7, 3) := by decide +kernel
theorem d_Md_ticks_25 : decode b_Md_ticks 25 = .ok (.iconst 1, 1) := by decide +kernel
theorem d_Md_ticks_26 : decode b_Md_ticks 26 = .ok (.goto 4, 3) := by decide +kernel
theorem d_Md_ticks_38 : decode b_Md_ticks 38 = .ok (.aload_n 0, 1) := by decide +kernel
theorem d_Md_ticks_39 : decode b_Md_ticks 39 = .ok (.dup, 1) := by decide +kernel
theorem d_Md_ticks_40 : decode b_Md_ticks 40 = .ok (.getfield 380, 3) := by decide +kernel
theorem d_Md_ticks_43 : decode b_Md_ticks 43 = .ok (.iload_n 1, 1) := by decide +kernel
theorem d_Md_ticks_44 : decode b_Md_ticks 44 = .ok (.iadd, 1) := by decide +kernel
theorem d_Md_ticks_45 : decode b_Md_ticks 45 = .ok (.putfield 380, 3) := by decide +kernel
theorem d_Md_ticks_48 : decode b_Md_ticks 48 = .ok (.aload_n 0, 1) := by decide +kernel
theorem d_Md_ticks_49 : decode b_Md_ticks 49 = .ok (.getfield 380, 3) := by decide +kernel
theorem d_Md_ticks_52 : decode b_Md_ticks 52 = .ok (.ireturn, 1) := by decide +kernel
theorem d_Md_count_0 : decode b_Md_count 0 = .ok (.aload_n 0, 1) := by decide +kernel
theorem d_Md_count_1 : decode b_Md_count 1 = .ok (.iload_n 1, 1) := by decide +kernel
theorem d_Md_count_2 : decode b_Md_count 2 = .ok (.ifCond .lt 12, 3) := by decide +kernel
theorem d_Md_count_14 : decode b_Md_count 14 = .ok (.iconst 0, 1) := by decide +kernel
theorem d_Md_count_15 : decode b_Md_count 15 = .ok (.invokevirtual 289, 3) := by decide +kernel
theorem d_Md_count_18 : decode b_Md_count 18 = .ok (.ifCond .ne 5, 3) := by decide +kernel
theorem d_Md_count_21 : decode b_Md_count 21 = .ok (.iconst 0, 1) := by decide +kernel
theorem d_Md_count_22 : decode b_Md_count 22 = .ok (.ireturn, 1) := by decide +kernel
theorem d_Md_count_5 : decode b_Md_count 5 = .ok (.iload_n 1, 1) := by decide +kernel
theorem d_Md_count_6 : decode b_Md_count 6 = .ok (.iconst 5, 1) := by decide +kernel
theorem d_Md_count_7 : decode b_Md_count 7 = .ok (.if_icmp .gt 7, 3) := by decide +kernel
theorem d_Md_count_10 : decode b_Md_count 10 = .ok (.iconst 1, 1) := by decide +kernel
theorem d_Md_count_11 : decode b_Md_count 11 = .ok (.goto 4, 3) := by decide +kernel
theorem d_Md_count_23 : decode b_Md_count 23 = .ok (.iload_n 1, 1) := by decide +kernel
theorem d_Md_count_24 : decode b_Md_count 24 = .ok (.ifCond .ne 10, 3) := by decide +kernel
theorem d_Md_count_34 : decode b_Md_count 34 = .ok (.iload_n 1, 1) := by decide +kernel
theorem d_Md_count_35 : decode b_Md_count 35 = .ok (.iconst 1, 1) := by decide +kernel
theorem d_Md_count_36 : decode b_Md_count 36 = .ok (.if_icmp .ne 10, 3) := by decide +kernel
theorem d_Md_count_46 : decode b_Md_count 46 = .ok (.iload_n 1, 1) := by decide +kernel
theorem d_Md_count_47 : decode b_Md_count 47 = .ok (.iconst 2, 1) := by decide +kernel
theorem d_Md_count_48 : decode b_Md_count 48 = .ok (.if_icmp .ne 10, 3) := by decide +kernel
theorem d_Md_count_58 : decode b_Md_count 58 = .ok (.iload_n 1, 1) := by decide +kernel
theorem d_Md_count_59 : decode b_Md_count 59 = .ok (.iconst 3, 1) := by decide +kernel
theorem d_Md_count_60 : decode b_Md_count 60 = .ok (.if_icmp .ne 10, 3) := by decide +kernel
theorem d_Md_count_70 : decode b_Md_count 70 = .ok (.iload_n 1, 1) := by decide +kernel
theorem d_Md_count_71 : decode b_Md_count 71 = .ok (.iconst 4, 1) := by decide +kernel
theorem d_Md_count_72 : decode b_Md_count 72 = .ok (.if_icmp .ne 10, 3) := by decide +kernel
theorem d_Md_count_82 : decode b_Md_count 82 = .ok (.aload_n 0, 1) := by decide +kernel
theorem d_Md_count_83 : decode b_Md_count 83 = .ok (.getfield 297, 3) := by decide +kernel
theorem d_Md_count_86 : decode b_Md_count 86 = .ok (.ireturn, 1) := by decide +kernel
theorem d_Md_count_75 : decode b_Md_count 75 = .ok (.aload_n 0, 1) := by decide +kernel
theorem d_Md_count_76 : decode b_Md_count 76 = .ok (.getfield 368, 3) := by decide +kernel
theorem d_Md_count_79 : decode b_Md_count 79 = .ok (.goto 7, 3) := by decide +kernel
theorem d_Md_count_63 : decode b_Md_count 63 = .ok (.aload_n 0, 1) := by decide +kernel
theorem d_Md_count_64 : decode b_Md_count 64 = .ok (.getfield 398, 3) := by decide +kernel
theorem d_Md_count_67 : decode b_Md_count 67 = .ok (.goto 19, 3) := by decide +kernel
theorem d_Md_count_51 : decode b_Md_count 51 = .ok (.aload_n 0, 1) := by decide +kernel
theorem d_Md_count_52 : decode b_Md_count 52 = .ok (.getfield 440, 3) := by decide +kernel
theorem d_Md_count_55 : decode b_Md_count 55 = .ok (.goto 31, 3) := by decide +kernel
theorem d_Md_count_39 : decode b_Md_count 39 = .ok (.aload_n 0, 1) := by decide +kernel
theorem d_Md_count_40 : decode b_Md_count 40 = .ok (.getfield 427, 3) := by decide +kernel
theorem d_Md_count_43 : decode b_Md_count 43 = .ok (.goto 43, 3) := by decide +kernel
theorem d_Md_count_27 : decode b_Md_count 27 = .ok (.aload_n 0, 1) := by decide +kernel
theorem d_Md_count_28 : decode b_Md_count 28 = .ok (.getfield 377, 3) := by decide +kernel
theorem d_Md_count_31 : decode b_Md_count 31 = .ok (.goto 55, 3) := by decide +kernel
theorem d_Md_size_0 : decode b_Md_size 0 = .ok (.aload_n 0, 1) := by decide +kernel
theorem d_Md_size_1 : decode b_Md_size 1 = .ok (.iconst 0, 1) := by decide +kernel
theorem d_Md_size_2 : decode b_Md_size 2 = .ok (.putfield 243, 3) := by decide +kernel
theorem d_Md_size_5 : decode b_Md_size 5 = .ok (.aload_n 0, 1) := by decide +kernel
theorem d_Md_size_6 : decode b_Md_size 6 = .ok (.getfield 325, 3) := by decide +kernel
theorem d_Md_size_9 : decode b_Md_size 9 = .ok (.ireturn, 1) := by decide +kernel
theorem d_Md_byteAt_0 : decode b_Md_byteAt 0 = .ok (.aload_n 0, 1) := by decide +kernel
theorem d_Md_byteAt_1 : decode b_Md_byteAt 1 = .ok (.iload_n 1, 1) := by decide +kernel
theorem d_Md_byteAt_2 : decode b_Md_byteAt 2 = .ok (.ifCond .lt 15, 3) := by decide +kernel
theorem d_Md_byteAt_17 : decode b_Md_byteAt 17 = .ok (.iconst 0, 1) := by decide +kernel
theorem d_Md_byteAt_18 : decode b_Md_byteAt 18 = .ok (.invokevirtual 289, 3) := by decide +kernel
theorem d_Md_byteAt_21 : decode b_Md_byteAt 21 = .ok (.ifCond .eq 12, 3) := by decide +kernel
theorem d_Md_byteAt_33 : decode b_Md_byteAt 33 = .ok (.iconst 0, 1) := by decide +kernel
theorem d_Md_byteAt_34 : decode b_Md_byteAt 34 = .ok (.ireturn, 1) := by decide +kernel
theorem d_Md_byteAt_5 : decode b_Md_byteAt 5 = .ok (.iload_n 1, 1) := by decide +kernel
theorem d_Md_byteAt_6 : decode b_Md_byteAt 6 = .ok (.aload_n 0, 1) := by decide +kernel
theorem d_Md_byteAt_7 : decode b_Md_byteAt 7 = .ok (.getfield 325, 3) := by decide +kernel
theorem d_Md_byteAt_10 : decode b_Md_byteAt 10 = .ok (.if_icmp .ge 7, 3) := by decide +kernel
theorem d_Md_byteAt_13 : decode b_Md_byteAt 13 = .ok (.iconst 1, 1) := by decide +kernel
theorem d_Md_byteAt_14 : decode b_Md_byteAt 14 = .ok (.goto 4, 3) := by decide +kernel
theorem d_Md_byteAt_24 : decode b_Md_byteAt 24 = .ok (.aload_n 0, 1) := by decide +kernel
theorem d_Md_byteAt_25 : decode b_Md_byteAt 25 = .ok (.getfield 166, 3) := by decide +kernel
theorem d_Md_byteAt_28 : decode b_Md_byteAt 28 = .ok (.iload_n 1, 1) := by decide +kernel
theorem d_Md_byteAt_29 : decode b_Md_byteAt 29 = .ok (.iaload, 1) := by decide +kernel
theorem d_Md_byteAt_30 : decode b_Md_byteAt 30 = .ok (.goto 4, 3) := by decide +kernel
theorem d_Md_spoil_0 : decode b_Md_spoil 0 = .ok (.aload_n 0, 1) := by decide +kernel
theorem d_Md_spoil_1 : decode b_Md_spoil 1 = .ok (.iload_n 1, 1) := by decide +kernel
theorem d_Md_spoil_2 : decode b_Md_spoil 2 = .ok (.ifCond .lt 22, 3) := by decide +kernel
theorem d_Md_spoil_24 : decode b_Md_spoil 24 = .ok (.iconst 0, 1) := by decide +kernel
theorem d_Md_spoil_25 : decode b_Md_spoil 25 = .ok (.invokevirtual 289, 3) := by decide +kernel
theorem d_Md_spoil_28 : decode b_Md_spoil 28 = .ok (.ifCond .ne 5, 3) := by decide +kernel
theorem d_Md_spoil_31 : decode b_Md_spoil 31 = .ok (.iconst 0, 1) := by decide +kernel
theorem d_Md_spoil_32 : decode b_Md_spoil 32 = .ok (.ireturn, 1) := by decide +kernel
theorem d_Md_spoil_5 : decode b_Md_spoil 5 = .ok (.iload_n 1, 1) := by decide +kernel
theorem d_Md_spoil_6 : decode b_Md_spoil 6 = .ok (.aload_n 0, 1) := by decide +kernel
theorem d_Md_spoil_7 : decode b_Md_spoil 7 = .ok (.getfield 297, 3) := by decide +kernel
theorem d_Md_spoil_10 : decode b_Md_spoil 10 = .ok (.if_icmp .ge 14, 3) := by decide +kernel
theorem d_Md_spoil_13 : decode b_Md_spoil 13 = .ok (.iload_n 2, 1) := by decide +kernel
theorem d_Md_spoil_14 : decode b_Md_spoil 14 = .ok (.invokestatic 303, 3) := by decide +kernel
theorem d_Md_spoil_17 : decode b_Md_spoil 17 = .ok (.ifCond .eq 7, 3) := by decide +kernel
theorem d_Md_spoil_20 : decode b_Md_spoil 20 = .ok (.iconst 1, 1) := by decide +kernel
theorem d_Md_spoil_21 : decode b_Md_spoil 21 = .ok (.goto 4, 3) := by decide +kernel
theorem d_Md_spoil_33 : decode b_Md_spoil 33 = .ok (.aload_n 0, 1) := by decide +kernel
theorem d_Md_spoil_34 : decode b_Md_spoil 34 = .ok (.getfield 154, 3) := by decide +kernel
theorem d_Md_spoil_37 : decode b_Md_spoil 37 = .ok (.iload_n 1, 1) := by decide +kernel
theorem d_Md_spoil_38 : decode b_Md_spoil 38 = .ok (.dup2, 1) := by decide +kernel
theorem d_Md_spoil_39 : decode b_Md_spoil 39 = .ok (.iaload, 1) := by decide +kernel
theorem d_Md_spoil_40 : decode b_Md_spoil 40 = .ok (.iload_n 2, 1) := by decide +kernel
theorem d_Md_spoil_41 : decode b_Md_spoil 41 = .ok (.ixor, 1) := by decide +kernel
theorem d_Md_spoil_42 : decode b_Md_spoil 42 = .ok (.iastore, 1) := by decide +kernel
theorem d_Md_spoil_43 : decode b_Md_spoil 43 = .ok (.aload_n 0, 1) := by decide +kernel
theorem d_Md_spoil_44 : decode b_Md_spoil 44 = .ok (.getfield 154, 3) := by decide +kernel
theorem d_Md_spoil_47 : decode b_Md_spoil 47 = .ok (.iload_n 1, 1) := by decide +kernel
theorem d_Md_spoil_48 : decode b_Md_spoil 48 = .ok (.iaload, 1) := by decide +kernel
theorem d_Md_spoil_49 : decode b_Md_spoil 49 = .ok (.ireturn, 1) := by decide +kernel
set_option maxHeartbeats 4000000 in
set_option maxRecDepth 100000 in
/-- isByte -/
theorem m_byteT (l : Launch) (dC : Nat → ClassId) (dI : Nat → Nat → Nat) (cT : Nat → ClassId) (sz : Nat) (v : Int32)  : Met l y_Md_isByte (Cond.code y_Md_isByte b_Md_isByte 1 (Option.some Jvm.ClassFile.FieldType.boolean) :: BIG) ({ frames := 0, cells := 0, slots := 0, locals := 0 }) (va_Pc [.int v] (fun U => U.heap.size = sz ∧ va_P (dC, dI) vcl [] U.heap ∧ va_K (dC, dI) vcl (tyL cT) U ∧ va_D (fun _ => True) [])) (va_Qi (S := Unit) (fun rv9 u => rv9 = 0 ∨ rv9 = 1) (fun u t => va_P (dC, dI) vcl [] t.heap ∧ va_K (dC, dI) vcl (tyL cT) t ∧ va_D (va_A [] sz) []) (va_A [] sz)) 0 0 (va_A [] sz) := by
  refine Met.ofW (cc := b_Md_isByte) (maxL := 1) (ret := (Option.some Jvm.ClassFile.FieldType.boolean)) (by decide) rfl ?_
  intro p e s m args below meth c s₁ B hml hv
  obtain ⟨hargs, hsz, hP, hK, hD0⟩ := hv
  have hx := B.exec
  have hb := B.bytes
  have hr := B.returns
  have hts := atoms_spec (ws := (Cond.code y_Md_isByte b_Md_isByte 1 (Option.some Jvm.ClassFile.FieldType.boolean) :: BIG)) B.pre
  have hg : ∀ w ∈ BIG, w.before _ s = true := fun w h => hts w (List.mem_cons_of_mem _ h)
  have hown : s.vm.findClass "DoorServerModel" = some m.cls := findClass_of_methodNamed B.named
  have hlocks := B.notSynchronized
  subst hsz
  have hD := hD0.self (sz := s.heap.size)
  generalize hAe : va_A [] s.heap.size = A at hD ⊢
  have hA : ∀ q : Nat, s.heap.size ≤ q → A q := fun q h => by rw [← hAe]; exact Or.inr h
  have hS : va_S A s.heap s.heap [] := va_S.rf
  have hl := lv_entry ([.int v]) (n := 1) (Nat.le_of_ble_eq_true rfl)
  refine W.eq (g2 := entryFrame m (List.toArray [.int v]) 1) (by rw [hargs]) ?_
  rw [lg_entry_eq]
  generalize (lg_sl ([.int v]) ++ List.replicate (1 - (lg_sl ([.int v])).length) Slot.unset).toArray = ls at hl ⊢
  have hl : lv_has ls 1 [(0, .int v)] := hl
  change W p l e ({ frames := 0, cells := 0, slots := 0, locals := 0 } : Room) s m args below meth c s.heap [] 0 0 _ _
  have hP : va_P (dC, dI) vcl [] s.heap := hP
  refine lv_iload_n hx hb d_Md_isByte_0 rfl (lv_at hl 0 rfl) ?_
  refine lv_if_lt (tgt := 15) hx hb d_Md_isByte_1 (by decide) (fun hc1 => ?_) (fun hc1 => ?_)
  · skip
    refine lv_iconst (v := 0) hx hb d_Md_isByte_15 (by decide) ?_
    have hP9 := hP.sub (ws' := []) [] rfl
    have hD9 := hD.sub (ws' := []) [] (by decide) rfl
    exact W.zret (v := 0) hx hb hr (by first | rfl | decide) (fun t ht hW => ⟨⟨_, (), rfl, Or.inl rfl, by rw [ht]; exact hP9, va_K.moved hW.alike hK, hD9⟩, hS.F ht⟩) hS.2.2 d_Md_isByte_16
  · skip
    refine lv_iload_n hx hb d_Md_isByte_4 rfl (lv_at hl 0 rfl) ?_
    refine lv_sipush (v := 256) hx hb d_Md_isByte_5 (by decide) ?_
    refine lv_icmp_ge (tgt := 15) hx hb d_Md_isByte_8 (by decide) (fun hc2 => ?_) (fun hc2 => ?_)
    · skip
      refine lv_iconst (v := 0) hx hb d_Md_isByte_15 (by decide) ?_
      have hP9 := hP.sub (ws' := []) [] rfl
      have hD9 := hD.sub (ws' := []) [] (by decide) rfl
      exact W.zret (v := 0) hx hb hr (by first | rfl | decide) (fun t ht hW => ⟨⟨_, (), rfl, Or.inl rfl, by rw [ht]; exact hP9, va_K.moved hW.alike hK, hD9⟩, hS.F ht⟩) hS.2.2 d_Md_isByte_16
    · skip
      refine lv_iconst (v := 1) hx hb d_Md_isByte_11 (by decide) ?_
      refine lv_goto (tgt := 16) hx hb d_Md_isByte_12 (by decide) ?_
      have hP9 := hP.sub (ws' := []) [] rfl
      have hD9 := hD.sub (ws' := []) [] (by decide) rfl
      exact W.zret (v := 1) hx hb hr (by first | rfl | decide) (fun t ht hW => ⟨⟨_, (), rfl, Or.inr rfl, by rw [ht]; exact hP9, va_K.moved hW.alike hK, hD9⟩, hS.F ht⟩) hS.2.2 d_Md_isByte_16
set_option maxHeartbeats 4000000 in
set_option maxRecDepth 100000 in
/-- put -/
theorem u_put (l : Launch) (dC : Nat → ClassId) (dI : Nat → Nat → Nat) (cT : Nat → ClassId) (sz : Nat) (mo : Nat) (r : Nat → Nat) (cd : Int32) (tm : Int32) (sn : Nat) (tx : Nat) (lz : Nat) (az : Nat) (na : Nat) (nt : Nat) (nr : Nat) (mw : Int32) (ml : Int32) (mk : Int64) (dq : Int64) (f7 : Nat → Int32) (x : Int32) (y : Int32) (z9 : Int32) (h20 : 20 ≤ sn) (hsn : sn ≤ 1000) (h7 : AB f7) : Met l y_Md_put (Cond.code y_Md_put b_Md_put 5 (Option.some Jvm.ClassFile.FieldType.int) :: BIG) ({ frames := 2, cells := 0, slots := 0, locals := 45 }) (va_Pc [.ref mo, .int x, .int y, .int z9] (fun U => U.heap.size = sz ∧ va_P (dC, dI) vcl [(mo, .inr (12, mdG r cd tm (nI sn) (nI tx) (nI lz) (nI az) (nI na) (nI nt) (nI nr) mw ml mk dq)), (r 7, .inl ((cT 0), 1000, .inl f7))] U.heap ∧ va_K (dC, dI) vcl (tyL cT) U ∧ va_D (fun _ => True) [(mo, .inr (12, mdG r cd tm (nI sn) (nI tx) (nI lz) (nI az) (nI na) (nI nt) (nI nr) mw ml mk dq)), (r 7, .inl ((cT 0), 1000, .inl f7))])) (va_Qi (S := (Nat → Int32) × Int32 × Nat) (fun rv9 u => match u with | (g7, cd2, sn2) => (20 ≤ sn2) ∧ (sn2 ≤ 1000) ∧ (AB g7)) (fun u t => match u with | (g7, cd2, sn2) => va_P (dC, dI) vcl [(mo, .inr (12, mdG r cd2 tm (nI sn2) (nI tx) (nI lz) (nI az) (nI na) (nI nt) (nI nr) mw ml mk dq)), (r 7, .inl ((cT 0), 1000, .inl g7))] t.heap ∧ va_K (dC, dI) vcl (tyL cT) t ∧ va_D (va_A [(mo, .inr (12, mdG r cd tm (nI sn) (nI tx) (nI lz) (nI az) (nI na) (nI nt) (nI nr) mw ml mk dq)), (r 7, .inl ((cT 0), 1000, .inl f7))] sz) [(mo, .inr (12, mdG r cd2 tm (nI sn2) (nI tx) (nI lz) (nI az) (nI na) (nI nt) (nI nr) mw ml mk dq)), (r 7, .inl ((cT 0), 1000, .inl g7))]) (va_A [(mo, .inr (12, mdG r cd tm (nI sn) (nI tx) (nI lz) (nI az) (nI na) (nI nt) (nI nr) mw ml mk dq)), (r 7, .inl ((cT 0), 1000, .inl f7))] sz)) 0 0 (va_A [(mo, .inr (12, mdG r cd tm (nI sn) (nI tx) (nI lz) (nI az) (nI na) (nI nt) (nI nr) mw ml mk dq)), (r 7, .inl ((cT 0), 1000, .inl f7))] sz) := by
  refine Met.ofW (cc := b_Md_put) (maxL := 5) (ret := (Option.some Jvm.ClassFile.FieldType.int)) (by decide) rfl ?_
  intro p e s m args below meth c s₁ B hml hv
  obtain ⟨hargs, hsz, hP, hK, hD0⟩ := hv
  have hx := B.exec
  have hb := B.bytes
  have hr := B.returns
  have hts := atoms_spec (ws := (Cond.code y_Md_put b_Md_put 5 (Option.some Jvm.ClassFile.FieldType.int) :: BIG)) B.pre
  have hg : ∀ w ∈ BIG, w.before _ s = true := fun w h => hts w (List.mem_cons_of_mem _ h)
  have hown : s.vm.findClass "DoorServerModel" = some m.cls := findClass_of_methodNamed B.named
  have hlocks := B.notSynchronized
  subst hsz
  have hD := hD0.self (sz := s.heap.size)
  generalize hAe : va_A [(mo, .inr (12, mdG r cd tm (nI sn) (nI tx) (nI lz) (nI az) (nI na) (nI nt) (nI nr) mw ml mk dq)), (r 7, .inl ((cT 0), 1000, .inl f7))] s.heap.size = A at hD ⊢
  have hA : ∀ q : Nat, s.heap.size ≤ q → A q := fun q h => by rw [← hAe]; exact Or.inr h
  have hS : va_S A s.heap s.heap [] := va_S.rf
  have hl := lv_entry ([.ref mo, .int x, .int y, .int z9]) (n := 5) (Nat.le_of_ble_eq_true rfl)
  refine W.eq (g2 := entryFrame m (List.toArray [.ref mo, .int x, .int y, .int z9]) 5) (by rw [hargs]) ?_
  rw [lg_entry_eq]
  generalize (lg_sl ([.ref mo, .int x, .int y, .int z9]) ++ List.replicate (5 - (lg_sl ([.ref mo, .int x, .int y, .int z9])).length) Slot.unset).toArray = ls at hl ⊢
  have hl : lv_has ls 5 [(0, .ref mo), (1, .int x), (2, .int y), (3, .int z9)] := hl
  change W p l e ({ frames := 2, cells := 0, slots := 0, locals := 45 } : Room) s m args below meth c s.heap [] 0 0 _ _
  have hP : va_P (dC, dI) vcl [(mo, .inr (12, mdG r cd tm (nI sn) (nI tx) (nI lz) (nI az) (nI na) (nI nt) (nI nr) mw ml mk dq)), (r 7, .inl ((cT 0), 1000, .inl f7))] s.heap := hP
  rcases pk_ix y (n := 101) (by decide) with h8y | h8y | ⟨yn, hyn, rfl⟩
  · skip
    refine lv_aload_n hx hb d_Md_put_0 rfl (lv_at hl 0 rfl) ?_
    refine lv_iload_n hx hb d_Md_put_1 rfl (lv_at hl 1 rfl) ?_
    have hPc := hP.sub (ws' := []) [] rfl
    have hDc := hD.sub (ws' := []) [] (by decide) rfl
    have hFc := va_free (wc := []) hD hS hA [] rfl
    refine va_calli (va_runS (As := [.int x]) (rest := [.ref mo]) ⟨hx, hb, hml, hown, hg⟩ (m_byteT l dC dI cT s.heap.size x ) (va_cwS 1 hg (gI (List.forall_mem_append.mpr ⟨List.forall_mem_cons.mpr ⟨k_1181, List.forall_mem_cons.mpr ⟨k_1182, List.forall_mem_cons.mpr ⟨k_13, fun _ h => absurd h List.not_mem_nil⟩⟩⟩, List.forall_mem_cons.mpr ⟨k_1183, fun _ h => h⟩⟩)) rfl rfl rfl (by decide +kernel) ⟨Nat.le_of_ble_eq_true rfl, Nat.le_of_ble_eq_true rfl⟩) ⟨fun a U g mk q => by obtain ⟨q0, q1, qP, qK, qD⟩ := q; exact ⟨q0, q1, qP, va_K.moved (u := U) (U := U.calling g mk a) (Vm.Alike.refl U.vm) qK, qD⟩, fun U hU hW => ⟨rfl, by rw [hU], by rw [hU]; exact hPc, va_K.moved hW.alike hK, hDc.weaken (fun _ _ _ _ => trivial)⟩⟩ rfl rfl hl.1 rfl (lv_room (Nat.le_of_ble_eq_true rfl)) d_Md_put_2 ⟨Nat.le_of_ble_eq_true rfl, Nat.le_of_ble_eq_true rfl⟩) hS (fun q _ h => hFc q h) hFc (fun rv9 u t H1 locs ht hvm hw hB hz1 hk1 hS => ?_)
    try dsimp only at hw hB
    obtain ⟨hP1, hK1, hD1⟩ := hB
    rw [ht] at hP1
    generalize rv9 = r3 at hw ⊢
    obtain ⟨hP, hD⟩ := va_join (wr := [(mo, .inr (12, mdG r cd tm (nI sn) (nI tx) (nI lz) (nI az) (nI na) (nI nt) (nI nr) mw ml mk dq)), (r 7, .inl ((cT 0), 1000, .inl f7))]) (w1 := []) hP hD [] [0, 1] rfl rfl (by decide) (by decide) hk1 hFc hP1 hD1
    have hw4 := hw
    clear hPc hDc hFc hz1 hk1 hP1 hK1 hD1
    generalize H1 = H at hP hS ⊢
    have hP : va_P (dC, dI) vcl [(mo, .inr (12, mdG r cd tm (nI sn) (nI tx) (nI lz) (nI az) (nI na) (nI nt) (nI nr) mw ml mk dq)), (r 7, .inl ((cT 0), 1000, .inl f7))] H := hP
    have hD : va_D A [(mo, .inr (12, mdG r cd tm (nI sn) (nI tx) (nI lz) (nI az) (nI na) (nI nt) (nI nr) mw ml mk dq)), (r 7, .inl ((cT 0), 1000, .inl f7))] := hD
    rcases hw4 with h8z | h8z
    · skip
      refine lv_topi (fun x6 e5 => ?_)
      obtain rfl : x6 = 0 := by rw [e5]; exact h8z
      refine lv_if_eq (tgt := 29) hx hb d_Md_put_5 (by decide) (fun hc7 => ?_) (fun hn9 => absurd (by decide) hn9)
      refine lv_iconst (v := 0) hx hb d_Md_put_29 (by decide) ?_
      have hPc := hP.sub (ws' := [(mo, .inr (12, mdG r cd tm (nI sn) (nI tx) (nI lz) (nI az) (nI na) (nI nt) (nI nr) mw ml mk dq))]) [0] rfl
      have hDc := hD.sub (ws' := [(mo, .inr (12, mdG r cd tm (nI sn) (nI tx) (nI lz) (nI az) (nI na) (nI nt) (nI nr) mw ml mk dq))]) [0] (by decide) rfl
      have hFc := va_free (wc := [(mo, .inr (12, mdG r cd tm (nI sn) (nI tx) (nI lz) (nI az) (nI na) (nI nt) (nI nr) mw ml mk dq))]) hD hS hA [0] rfl
      refine va_calli (va_runV (C := "DoorServerModel") (As := [.int 0]) (rest := []) ⟨hx, hb, hml, hown, hg⟩ (m_goes0 l dC dI cT H.size mo r cd tm sn tx lz az na nt nr mw ml mk dq ) (cwV 1 hg (gI (List.forall_mem_append.mpr ⟨List.forall_mem_cons.mpr ⟨k_1165, List.forall_mem_cons.mpr ⟨k_1167, List.forall_mem_cons.mpr ⟨(big_sel (q := y_Md_goes) (n := 45) (by decide +kernel)), List.forall_mem_cons.mpr ⟨k_13, fun _ h => absurd h List.not_mem_nil⟩⟩⟩⟩, List.forall_mem_cons.mpr ⟨k_1168, fun _ h => h⟩⟩)) rfl rfl rfl (by decide +kernel) ⟨Nat.le_of_ble_eq_true rfl, Nat.le_of_ble_eq_true rfl⟩) ⟨fun a U g mk q => by obtain ⟨q0, q1, qP, qK, qD⟩ := q; exact ⟨q0, q1, qP, va_K.moved (u := U) (U := U.calling g mk a) (Vm.Alike.refl U.vm) qK, qD⟩, va_recv (q0 := 0) (ci := 12) hK hP rfl rfl, fun U hU hW => ⟨rfl, by rw [hU], by rw [hU]; exact hPc, va_K.moved hW.alike hK, hDc.weaken (fun _ _ _ _ => trivial)⟩⟩ rfl rfl hl.1 rfl (lv_room (Nat.le_of_ble_eq_true rfl)) d_Md_put_30 ⟨Nat.le_of_ble_eq_true rfl, Nat.le_of_ble_eq_true rfl⟩) hS (fun q _ h => hFc q h) hFc (fun rv9 u t H1 locs ht hvm hw hB hz1 hk1 hS => ?_)
      try dsimp only at hw hB
      obtain ⟨hP1, hK1, hD1⟩ := hB
      rw [ht] at hP1
      obtain ⟨rfl, hw⟩ := hw
      obtain ⟨hP, hD⟩ := va_join (wr := [(r 7, .inl ((cT 0), 1000, .inl f7))]) (w1 := [(mo, .inr (12, mdG r 1 tm (nI sn) (nI tx) (nI lz) (nI az) (nI na) (nI nt) (nI nr) mw ml mk dq))]) hP hD [0] [1] rfl rfl (by decide) (by decide) hk1 hFc hP1 hD1
      have hw8 := hw
      clear hPc hDc hFc hz1 hk1 hP1 hK1 hD1
      generalize H1 = H at hP hS ⊢
      have hP : va_P (dC, dI) vcl [(r 7, .inl ((cT 0), 1000, .inl f7)), (mo, .inr (12, mdG r 1 tm (nI sn) (nI tx) (nI lz) (nI az) (nI na) (nI nt) (nI nr) mw ml mk dq))] H := hP
      have hD : va_D A [(r 7, .inl ((cT 0), 1000, .inl f7)), (mo, .inr (12, mdG r 1 tm (nI sn) (nI tx) (nI lz) (nI az) (nI na) (nI nt) (nI nr) mw ml mk dq))] := hD
      refine lv_if_eq (tgt := 45) hx hb d_Md_put_33 (by decide) (fun hc9 => ?_) (fun hn9 => absurd (by decide) hn9)
      refine lv_iconst (v := 0) hx hb d_Md_put_45 (by decide) ?_
      have hP9 := hP.sub (ws' := [(mo, .inr (12, mdG r 1 tm (nI sn) (nI tx) (nI lz) (nI az) (nI na) (nI nt) (nI nr) mw ml mk dq)), (r 7, .inl ((cT 0), 1000, .inl f7))]) [1, 0] rfl
      have hD9 := hD.sub (ws' := [(mo, .inr (12, mdG r 1 tm (nI sn) (nI tx) (nI lz) (nI az) (nI na) (nI nt) (nI nr) mw ml mk dq)), (r 7, .inl ((cT 0), 1000, .inl f7))]) [1, 0] (by decide) rfl
      exact W.iret (v := 0) hx hb hr (fun t ht hW => ⟨⟨_, ⟨f7, 1, sn⟩, rfl, ⟨by first | assumption | omega, by first | assumption | omega, by first | assumption | omega⟩, by rw [ht]; exact hP9, va_K.moved hW.alike hK, hD9⟩, hS.F ht⟩) hS.2.2 d_Md_put_46
    · skip
      refine lv_topi (fun x11 e10 => ?_)
      obtain rfl : x11 = 1 := by rw [e10]; exact h8z
      refine lv_if_eq (tgt := 29) hx hb d_Md_put_5 (by decide) (fun hn9 => absurd hn9 (by decide)) (fun hc12 => ?_)
      refine lv_iload_n hx hb d_Md_put_8 rfl (lv_at hl 3 rfl) ?_
      have hPc := hP.sub (ws' := []) [] rfl
      have hDc := hD.sub (ws' := []) [] (by decide) rfl
      have hFc := va_free (wc := []) hD hS hA [] rfl
      refine va_calli (va_runS (As := [.int z9]) (rest := [.ref mo]) ⟨hx, hb, hml, hown, hg⟩ (m_byteT l dC dI cT H.size z9 ) (va_cwS 1 hg (gI (List.forall_mem_append.mpr ⟨List.forall_mem_cons.mpr ⟨k_1181, List.forall_mem_cons.mpr ⟨k_1182, List.forall_mem_cons.mpr ⟨k_13, fun _ h => absurd h List.not_mem_nil⟩⟩⟩, List.forall_mem_cons.mpr ⟨k_1183, fun _ h => h⟩⟩)) rfl rfl rfl (by decide +kernel) ⟨Nat.le_of_ble_eq_true rfl, Nat.le_of_ble_eq_true rfl⟩) ⟨fun a U g mk q => by obtain ⟨q0, q1, qP, qK, qD⟩ := q; exact ⟨q0, q1, qP, va_K.moved (u := U) (U := U.calling g mk a) (Vm.Alike.refl U.vm) qK, qD⟩, fun U hU hW => ⟨rfl, by rw [hU], by rw [hU]; exact hPc, va_K.moved hW.alike hK, hDc.weaken (fun _ _ _ _ => trivial)⟩⟩ rfl rfl hl.1 rfl (lv_room (Nat.le_of_ble_eq_true rfl)) d_Md_put_9 ⟨Nat.le_of_ble_eq_true rfl, Nat.le_of_ble_eq_true rfl⟩) hS (fun q _ h => hFc q h) hFc (fun rv9 u t H1 locs ht hvm hw hB hz1 hk1 hS => ?_)
      try dsimp only at hw hB
      obtain ⟨hP1, hK1, hD1⟩ := hB
      rw [ht] at hP1
      generalize rv9 = r13 at hw ⊢
      obtain ⟨hP, hD⟩ := va_join (wr := [(mo, .inr (12, mdG r cd tm (nI sn) (nI tx) (nI lz) (nI az) (nI na) (nI nt) (nI nr) mw ml mk dq)), (r 7, .inl ((cT 0), 1000, .inl f7))]) (w1 := []) hP hD [] [0, 1] rfl rfl (by decide) (by decide) hk1 hFc hP1 hD1
      have hw14 := hw
      clear hPc hDc hFc hz1 hk1 hP1 hK1 hD1
      generalize H1 = H at hP hS ⊢
      have hP : va_P (dC, dI) vcl [(mo, .inr (12, mdG r cd tm (nI sn) (nI tx) (nI lz) (nI az) (nI na) (nI nt) (nI nr) mw ml mk dq)), (r 7, .inl ((cT 0), 1000, .inl f7))] H := hP
      have hD : va_D A [(mo, .inr (12, mdG r cd tm (nI sn) (nI tx) (nI lz) (nI az) (nI na) (nI nt) (nI nr) mw ml mk dq)), (r 7, .inl ((cT 0), 1000, .inl f7))] := hD
      rcases hw14 with h8z | h8z
      · skip
        refine lv_topi (fun x16 e15 => ?_)
        obtain rfl : x16 = 0 := by rw [e15]; exact h8z
        refine lv_if_eq (tgt := 29) hx hb d_Md_put_12 (by decide) (fun hc17 => ?_) (fun hn9 => absurd (by decide) hn9)
        refine lv_iconst (v := 0) hx hb d_Md_put_29 (by decide) ?_
        have hPc := hP.sub (ws' := [(mo, .inr (12, mdG r cd tm (nI sn) (nI tx) (nI lz) (nI az) (nI na) (nI nt) (nI nr) mw ml mk dq))]) [0] rfl
        have hDc := hD.sub (ws' := [(mo, .inr (12, mdG r cd tm (nI sn) (nI tx) (nI lz) (nI az) (nI na) (nI nt) (nI nr) mw ml mk dq))]) [0] (by decide) rfl
        have hFc := va_free (wc := [(mo, .inr (12, mdG r cd tm (nI sn) (nI tx) (nI lz) (nI az) (nI na) (nI nt) (nI nr) mw ml mk dq))]) hD hS hA [0] rfl
        refine va_calli (va_runV (C := "DoorServerModel") (As := [.int 0]) (rest := []) ⟨hx, hb, hml, hown, hg⟩ (m_goes0 l dC dI cT H.size mo r cd tm sn tx lz az na nt nr mw ml mk dq ) (cwV 1 hg (gI (List.forall_mem_append.mpr ⟨List.forall_mem_cons.mpr ⟨k_1165, List.forall_mem_cons.mpr ⟨k_1167, List.forall_mem_cons.mpr ⟨(big_sel (q := y_Md_goes) (n := 45) (by decide +kernel)), List.forall_mem_cons.mpr ⟨k_13, fun _ h => absurd h List.not_mem_nil⟩⟩⟩⟩, List.forall_mem_cons.mpr ⟨k_1168, fun _ h => h⟩⟩)) rfl rfl rfl (by decide +kernel) ⟨Nat.le_of_ble_eq_true rfl, Nat.le_of_ble_eq_true rfl⟩) ⟨fun a U g mk q => by obtain ⟨q0, q1, qP, qK, qD⟩ := q; exact ⟨q0, q1, qP, va_K.moved (u := U) (U := U.calling g mk a) (Vm.Alike.refl U.vm) qK, qD⟩, va_recv (q0 := 0) (ci := 12) hK hP rfl rfl, fun U hU hW => ⟨rfl, by rw [hU], by rw [hU]; exact hPc, va_K.moved hW.alike hK, hDc.weaken (fun _ _ _ _ => trivial)⟩⟩ rfl rfl hl.1 rfl (lv_room (Nat.le_of_ble_eq_true rfl)) d_Md_put_30 ⟨Nat.le_of_ble_eq_true rfl, Nat.le_of_ble_eq_true rfl⟩) hS (fun q _ h => hFc q h) hFc (fun rv9 u t H1 locs ht hvm hw hB hz1 hk1 hS => ?_)
        try dsimp only at hw hB
        obtain ⟨hP1, hK1, hD1⟩ := hB
        rw [ht] at hP1
        obtain ⟨rfl, hw⟩ := hw
        obtain ⟨hP, hD⟩ := va_join (wr := [(r 7, .inl ((cT 0), 1000, .inl f7))]) (w1 := [(mo, .inr (12, mdG r 1 tm (nI sn) (nI tx) (nI lz) (nI az) (nI na) (nI nt) (nI nr) mw ml mk dq))]) hP hD [0] [1] rfl rfl (by decide) (by decide) hk1 hFc hP1 hD1
        have hw18 := hw
        clear hPc hDc hFc hz1 hk1 hP1 hK1 hD1
        generalize H1 = H at hP hS ⊢
        have hP : va_P (dC, dI) vcl [(r 7, .inl ((cT 0), 1000, .inl f7)), (mo, .inr (12, mdG r 1 tm (nI sn) (nI tx) (nI lz) (nI az) (nI na) (nI nt) (nI nr) mw ml mk dq))] H := hP
        have hD : va_D A [(r 7, .inl ((cT 0), 1000, .inl f7)), (mo, .inr (12, mdG r 1 tm (nI sn) (nI tx) (nI lz) (nI az) (nI na) (nI nt) (nI nr) mw ml mk dq))] := hD
        refine lv_if_eq (tgt := 45) hx hb d_Md_put_33 (by decide) (fun hc19 => ?_) (fun hn9 => absurd (by decide) hn9)
        refine lv_iconst (v := 0) hx hb d_Md_put_45 (by decide) ?_
        have hP9 := hP.sub (ws' := [(mo, .inr (12, mdG r 1 tm (nI sn) (nI tx) (nI lz) (nI az) (nI na) (nI nt) (nI nr) mw ml mk dq)), (r 7, .inl ((cT 0), 1000, .inl f7))]) [1, 0] rfl
        have hD9 := hD.sub (ws' := [(mo, .inr (12, mdG r 1 tm (nI sn) (nI tx) (nI lz) (nI az) (nI na) (nI nt) (nI nr) mw ml mk dq)), (r 7, .inl ((cT 0), 1000, .inl f7))]) [1, 0] (by decide) rfl
        exact W.iret (v := 0) hx hb hr (fun t ht hW => ⟨⟨_, ⟨f7, 1, sn⟩, rfl, ⟨by first | assumption | omega, by first | assumption | omega, by first | assumption | omega⟩, by rw [ht]; exact hP9, va_K.moved hW.alike hK, hD9⟩, hS.F ht⟩) hS.2.2 d_Md_put_46
      · skip
        refine lv_topi (fun x21 e20 => ?_)
        obtain rfl : x21 = 1 := by rw [e20]; exact h8z
        refine lv_if_eq (tgt := 29) hx hb d_Md_put_12 (by decide) (fun hn9 => absurd hn9 (by decide)) (fun hc22 => ?_)
        refine lv_iload_n hx hb d_Md_put_15 rfl (lv_at hl 2 rfl) ?_
        refine lv_if_lt (tgt := 29) hx hb d_Md_put_16 (by decide) (fun hc23 => ?_) (fun hn9 => absurd (h8y) hn9)
        refine lv_iconst (v := 0) hx hb d_Md_put_29 (by decide) ?_
        have hPc := hP.sub (ws' := [(mo, .inr (12, mdG r cd tm (nI sn) (nI tx) (nI lz) (nI az) (nI na) (nI nt) (nI nr) mw ml mk dq))]) [0] rfl
        have hDc := hD.sub (ws' := [(mo, .inr (12, mdG r cd tm (nI sn) (nI tx) (nI lz) (nI az) (nI na) (nI nt) (nI nr) mw ml mk dq))]) [0] (by decide) rfl
        have hFc := va_free (wc := [(mo, .inr (12, mdG r cd tm (nI sn) (nI tx) (nI lz) (nI az) (nI na) (nI nt) (nI nr) mw ml mk dq))]) hD hS hA [0] rfl
        refine va_calli (va_runV (C := "DoorServerModel") (As := [.int 0]) (rest := []) ⟨hx, hb, hml, hown, hg⟩ (m_goes0 l dC dI cT H.size mo r cd tm sn tx lz az na nt nr mw ml mk dq ) (cwV 1 hg (gI (List.forall_mem_append.mpr ⟨List.forall_mem_cons.mpr ⟨k_1165, List.forall_mem_cons.mpr ⟨k_1167, List.forall_mem_cons.mpr ⟨(big_sel (q := y_Md_goes) (n := 45) (by decide +kernel)), List.forall_mem_cons.mpr ⟨k_13, fun _ h => absurd h List.not_mem_nil⟩⟩⟩⟩, List.forall_mem_cons.mpr ⟨k_1168, fun _ h => h⟩⟩)) rfl rfl rfl (by decide +kernel) ⟨Nat.le_of_ble_eq_true rfl, Nat.le_of_ble_eq_true rfl⟩) ⟨fun a U g mk q => by obtain ⟨q0, q1, qP, qK, qD⟩ := q; exact ⟨q0, q1, qP, va_K.moved (u := U) (U := U.calling g mk a) (Vm.Alike.refl U.vm) qK, qD⟩, va_recv (q0 := 0) (ci := 12) hK hP rfl rfl, fun U hU hW => ⟨rfl, by rw [hU], by rw [hU]; exact hPc, va_K.moved hW.alike hK, hDc.weaken (fun _ _ _ _ => trivial)⟩⟩ rfl rfl hl.1 rfl (lv_room (Nat.le_of_ble_eq_true rfl)) d_Md_put_30 ⟨Nat.le_of_ble_eq_true rfl, Nat.le_of_ble_eq_true rfl⟩) hS (fun q _ h => hFc q h) hFc (fun rv9 u t H1 locs ht hvm hw hB hz1 hk1 hS => ?_)
        try dsimp only at hw hB
        obtain ⟨hP1, hK1, hD1⟩ := hB
        rw [ht] at hP1
        obtain ⟨rfl, hw⟩ := hw
        obtain ⟨hP, hD⟩ := va_join (wr := [(r 7, .inl ((cT 0), 1000, .inl f7))]) (w1 := [(mo, .inr (12, mdG r 1 tm (nI sn) (nI tx) (nI lz) (nI az) (nI na) (nI nt) (nI nr) mw ml mk dq))]) hP hD [0] [1] rfl rfl (by decide) (by decide) hk1 hFc hP1 hD1
        have hw24 := hw
        clear hPc hDc hFc hz1 hk1 hP1 hK1 hD1
        generalize H1 = H at hP hS ⊢
        have hP : va_P (dC, dI) vcl [(r 7, .inl ((cT 0), 1000, .inl f7)), (mo, .inr (12, mdG r 1 tm (nI sn) (nI tx) (nI lz) (nI az) (nI na) (nI nt) (nI nr) mw ml mk dq))] H := hP
        have hD : va_D A [(r 7, .inl ((cT 0), 1000, .inl f7)), (mo, .inr (12, mdG r 1 tm (nI sn) (nI tx) (nI lz) (nI az) (nI na) (nI nt) (nI nr) mw ml mk dq))] := hD
        refine lv_if_eq (tgt := 45) hx hb d_Md_put_33 (by decide) (fun hc25 => ?_) (fun hn9 => absurd (by decide) hn9)
        refine lv_iconst (v := 0) hx hb d_Md_put_45 (by decide) ?_
        have hP9 := hP.sub (ws' := [(mo, .inr (12, mdG r 1 tm (nI sn) (nI tx) (nI lz) (nI az) (nI na) (nI nt) (nI nr) mw ml mk dq)), (r 7, .inl ((cT 0), 1000, .inl f7))]) [1, 0] rfl
        have hD9 := hD.sub (ws' := [(mo, .inr (12, mdG r 1 tm (nI sn) (nI tx) (nI lz) (nI az) (nI na) (nI nt) (nI nr) mw ml mk dq)), (r 7, .inl ((cT 0), 1000, .inl f7))]) [1, 0] (by decide) rfl
        exact W.iret (v := 0) hx hb hr (fun t ht hW => ⟨⟨_, ⟨f7, 1, sn⟩, rfl, ⟨by first | assumption | omega, by first | assumption | omega, by first | assumption | omega⟩, by rw [ht]; exact hP9, va_K.moved hW.alike hK, hD9⟩, hS.F ht⟩) hS.2.2 d_Md_put_46
  · skip
    refine lv_aload_n hx hb d_Md_put_0 rfl (lv_at hl 0 rfl) ?_
    refine lv_iload_n hx hb d_Md_put_1 rfl (lv_at hl 1 rfl) ?_
    have hPc := hP.sub (ws' := []) [] rfl
    have hDc := hD.sub (ws' := []) [] (by decide) rfl
    have hFc := va_free (wc := []) hD hS hA [] rfl
    refine va_calli (va_runS (As := [.int x]) (rest := [.ref mo]) ⟨hx, hb, hml, hown, hg⟩ (m_byteT l dC dI cT s.heap.size x ) (va_cwS 1 hg (gI (List.forall_mem_append.mpr ⟨List.forall_mem_cons.mpr ⟨k_1181, List.forall_mem_cons.mpr ⟨k_1182, List.forall_mem_cons.mpr ⟨k_13, fun _ h => absurd h List.not_mem_nil⟩⟩⟩, List.forall_mem_cons.mpr ⟨k_1183, fun _ h => h⟩⟩)) rfl rfl rfl (by decide +kernel) ⟨Nat.le_of_ble_eq_true rfl, Nat.le_of_ble_eq_true rfl⟩) ⟨fun a U g mk q => by obtain ⟨q0, q1, qP, qK, qD⟩ := q; exact ⟨q0, q1, qP, va_K.moved (u := U) (U := U.calling g mk a) (Vm.Alike.refl U.vm) qK, qD⟩, fun U hU hW => ⟨rfl, by rw [hU], by rw [hU]; exact hPc, va_K.moved hW.alike hK, hDc.weaken (fun _ _ _ _ => trivial)⟩⟩ rfl rfl hl.1 rfl (lv_room (Nat.le_of_ble_eq_true rfl)) d_Md_put_2 ⟨Nat.le_of_ble_eq_true rfl, Nat.le_of_ble_eq_true rfl⟩) hS (fun q _ h => hFc q h) hFc (fun rv9 u t H1 locs ht hvm hw hB hz1 hk1 hS => ?_)
    try dsimp only at hw hB
    obtain ⟨hP1, hK1, hD1⟩ := hB
    rw [ht] at hP1
    generalize rv9 = r26 at hw ⊢
    obtain ⟨hP, hD⟩ := va_join (wr := [(mo, .inr (12, mdG r cd tm (nI sn) (nI tx) (nI lz) (nI az) (nI na) (nI nt) (nI nr) mw ml mk dq)), (r 7, .inl ((cT 0), 1000, .inl f7))]) (w1 := []) hP hD [] [0, 1] rfl rfl (by decide) (by decide) hk1 hFc hP1 hD1
    have hw27 := hw
    clear hPc hDc hFc hz1 hk1 hP1 hK1 hD1
    generalize H1 = H at hP hS ⊢
    have hP : va_P (dC, dI) vcl [(mo, .inr (12, mdG r cd tm (nI sn) (nI tx) (nI lz) (nI az) (nI na) (nI nt) (nI nr) mw ml mk dq)), (r 7, .inl ((cT 0), 1000, .inl f7))] H := hP
    have hD : va_D A [(mo, .inr (12, mdG r cd tm (nI sn) (nI tx) (nI lz) (nI az) (nI na) (nI nt) (nI nr) mw ml mk dq)), (r 7, .inl ((cT 0), 1000, .inl f7))] := hD
    rcases hw27 with h8z | h8z
    · skip
      refine lv_topi (fun x29 e28 => ?_)
      obtain rfl : x29 = 0 := by rw [e28]; exact h8z
      refine lv_if_eq (tgt := 29) hx hb d_Md_put_5 (by decide) (fun hc30 => ?_) (fun hn9 => absurd (by decide) hn9)
      refine lv_iconst (v := 0) hx hb d_Md_put_29 (by decide) ?_
      have hPc := hP.sub (ws' := [(mo, .inr (12, mdG r cd tm (nI sn) (nI tx) (nI lz) (nI az) (nI na) (nI nt) (nI nr) mw ml mk dq))]) [0] rfl
      have hDc := hD.sub (ws' := [(mo, .inr (12, mdG r cd tm (nI sn) (nI tx) (nI lz) (nI az) (nI na) (nI nt) (nI nr) mw ml mk dq))]) [0] (by decide) rfl
      have hFc := va_free (wc := [(mo, .inr (12, mdG r cd tm (nI sn) (nI tx) (nI lz) (nI az) (nI na) (nI nt) (nI nr) mw ml mk dq))]) hD hS hA [0] rfl
      refine va_calli (va_runV (C := "DoorServerModel") (As := [.int 0]) (rest := []) ⟨hx, hb, hml, hown, hg⟩ (m_goes0 l dC dI cT H.size mo r cd tm sn tx lz az na nt nr mw ml mk dq ) (cwV 1 hg (gI (List.forall_mem_append.mpr ⟨List.forall_mem_cons.mpr ⟨k_1165, List.forall_mem_cons.mpr ⟨k_1167, List.forall_mem_cons.mpr ⟨(big_sel (q := y_Md_goes) (n := 45) (by decide +kernel)), List.forall_mem_cons.mpr ⟨k_13, fun _ h => absurd h List.not_mem_nil⟩⟩⟩⟩, List.forall_mem_cons.mpr ⟨k_1168, fun _ h => h⟩⟩)) rfl rfl rfl (by decide +kernel) ⟨Nat.le_of_ble_eq_true rfl, Nat.le_of_ble_eq_true rfl⟩) ⟨fun a U g mk q => by obtain ⟨q0, q1, qP, qK, qD⟩ := q; exact ⟨q0, q1, qP, va_K.moved (u := U) (U := U.calling g mk a) (Vm.Alike.refl U.vm) qK, qD⟩, va_recv (q0 := 0) (ci := 12) hK hP rfl rfl, fun U hU hW => ⟨rfl, by rw [hU], by rw [hU]; exact hPc, va_K.moved hW.alike hK, hDc.weaken (fun _ _ _ _ => trivial)⟩⟩ rfl rfl hl.1 rfl (lv_room (Nat.le_of_ble_eq_true rfl)) d_Md_put_30 ⟨Nat.le_of_ble_eq_true rfl, Nat.le_of_ble_eq_true rfl⟩) hS (fun q _ h => hFc q h) hFc (fun rv9 u t H1 locs ht hvm hw hB hz1 hk1 hS => ?_)
      try dsimp only at hw hB
      obtain ⟨hP1, hK1, hD1⟩ := hB
      rw [ht] at hP1
      obtain ⟨rfl, hw⟩ := hw
      obtain ⟨hP, hD⟩ := va_join (wr := [(r 7, .inl ((cT 0), 1000, .inl f7))]) (w1 := [(mo, .inr (12, mdG r 1 tm (nI sn) (nI tx) (nI lz) (nI az) (nI na) (nI nt) (nI nr) mw ml mk dq))]) hP hD [0] [1] rfl rfl (by decide) (by decide) hk1 hFc hP1 hD1
      have hw31 := hw
      clear hPc hDc hFc hz1 hk1 hP1 hK1 hD1
      generalize H1 = H at hP hS ⊢
      have hP : va_P (dC, dI) vcl [(r 7, .inl ((cT 0), 1000, .inl f7)), (mo, .inr (12, mdG r 1 tm (nI sn) (nI tx) (nI lz) (nI az) (nI na) (nI nt) (nI nr) mw ml mk dq))] H := hP
      have hD : va_D A [(r 7, .inl ((cT 0), 1000, .inl f7)), (mo, .inr (12, mdG r 1 tm (nI sn) (nI tx) (nI lz) (nI az) (nI na) (nI nt) (nI nr) mw ml mk dq))] := hD
      refine lv_if_eq (tgt := 45) hx hb d_Md_put_33 (by decide) (fun hc32 => ?_) (fun hn9 => absurd (by decide) hn9)
      refine lv_iconst (v := 0) hx hb d_Md_put_45 (by decide) ?_
      have hP9 := hP.sub (ws' := [(mo, .inr (12, mdG r 1 tm (nI sn) (nI tx) (nI lz) (nI az) (nI na) (nI nt) (nI nr) mw ml mk dq)), (r 7, .inl ((cT 0), 1000, .inl f7))]) [1, 0] rfl
      have hD9 := hD.sub (ws' := [(mo, .inr (12, mdG r 1 tm (nI sn) (nI tx) (nI lz) (nI az) (nI na) (nI nt) (nI nr) mw ml mk dq)), (r 7, .inl ((cT 0), 1000, .inl f7))]) [1, 0] (by decide) rfl
      exact W.iret (v := 0) hx hb hr (fun t ht hW => ⟨⟨_, ⟨f7, 1, sn⟩, rfl, ⟨by first | assumption | omega, by first | assumption | omega, by first | assumption | omega⟩, by rw [ht]; exact hP9, va_K.moved hW.alike hK, hD9⟩, hS.F ht⟩) hS.2.2 d_Md_put_46
    · skip
      refine lv_topi (fun x34 e33 => ?_)
      obtain rfl : x34 = 1 := by rw [e33]; exact h8z
      refine lv_if_eq (tgt := 29) hx hb d_Md_put_5 (by decide) (fun hn9 => absurd hn9 (by decide)) (fun hc35 => ?_)
      refine lv_iload_n hx hb d_Md_put_8 rfl (lv_at hl 3 rfl) ?_
      have hPc := hP.sub (ws' := []) [] rfl
      have hDc := hD.sub (ws' := []) [] (by decide) rfl
      have hFc := va_free (wc := []) hD hS hA [] rfl
      refine va_calli (va_runS (As := [.int z9]) (rest := [.ref mo]) ⟨hx, hb, hml, hown, hg⟩ (m_byteT l dC dI cT H.size z9 ) (va_cwS 1 hg (gI (List.forall_mem_append.mpr ⟨List.forall_mem_cons.mpr ⟨k_1181, List.forall_mem_cons.mpr ⟨k_1182, List.forall_mem_cons.mpr ⟨k_13, fun _ h => absurd h List.not_mem_nil⟩⟩⟩, List.forall_mem_cons.mpr ⟨k_1183, fun _ h => h⟩⟩)) rfl rfl rfl (by decide +kernel) ⟨Nat.le_of_ble_eq_true rfl, Nat.le_of_ble_eq_true rfl⟩) ⟨fun a U g mk q => by obtain ⟨q0, q1, qP, qK, qD⟩ := q; exact ⟨q0, q1, qP, va_K.moved (u := U) (U := U.calling g mk a) (Vm.Alike.refl U.vm) qK, qD⟩, fun U hU hW => ⟨rfl, by rw [hU], by rw [hU]; exact hPc, va_K.moved hW.alike hK, hDc.weaken (fun _ _ _ _ => trivial)⟩⟩ rfl rfl hl.1 rfl (lv_room (Nat.le_of_ble_eq_true rfl)) d_Md_put_9 ⟨Nat.le_of_ble_eq_true rfl, Nat.le_of_ble_eq_true rfl⟩) hS (fun q _ h => hFc q h) hFc (fun rv9 u t H1 locs ht hvm hw hB hz1 hk1 hS => ?_)
      try dsimp only at hw hB
      obtain ⟨hP1, hK1, hD1⟩ := hB
      rw [ht] at hP1
      generalize rv9 = r36 at hw ⊢
      obtain ⟨hP, hD⟩ := va_join (wr := [(mo, .inr (12, mdG r cd tm (nI sn) (nI tx) (nI lz) (nI az) (nI na) (nI nt) (nI nr) mw ml mk dq)), (r 7, .inl ((cT 0), 1000, .inl f7))]) (w1 := []) hP hD [] [0, 1] rfl rfl (by decide) (by decide) hk1 hFc hP1 hD1
      have hw37 := hw
      clear hPc hDc hFc hz1 hk1 hP1 hK1 hD1
      generalize H1 = H at hP hS ⊢
      have hP : va_P (dC, dI) vcl [(mo, .inr (12, mdG r cd tm (nI sn) (nI tx) (nI lz) (nI az) (nI na) (nI nt) (nI nr) mw ml mk dq)), (r 7, .inl ((cT 0), 1000, .inl f7))] H := hP
      have hD : va_D A [(mo, .inr (12, mdG r cd tm (nI sn) (nI tx) (nI lz) (nI az) (nI na) (nI nt) (nI nr) mw ml mk dq)), (r 7, .inl ((cT 0), 1000, .inl f7))] := hD
      rcases hw37 with h8z | h8z
      · skip
        refine lv_topi (fun x39 e38 => ?_)
        obtain rfl : x39 = 0 := by rw [e38]; exact h8z
        refine lv_if_eq (tgt := 29) hx hb d_Md_put_12 (by decide) (fun hc40 => ?_) (fun hn9 => absurd (by decide) hn9)
        refine lv_iconst (v := 0) hx hb d_Md_put_29 (by decide) ?_
        have hPc := hP.sub (ws' := [(mo, .inr (12, mdG r cd tm (nI sn) (nI tx) (nI lz) (nI az) (nI na) (nI nt) (nI nr) mw ml mk dq))]) [0] rfl
        have hDc := hD.sub (ws' := [(mo, .inr (12, mdG r cd tm (nI sn) (nI tx) (nI lz) (nI az) (nI na) (nI nt) (nI nr) mw ml mk dq))]) [0] (by decide) rfl
        have hFc := va_free (wc := [(mo, .inr (12, mdG r cd tm (nI sn) (nI tx) (nI lz) (nI az) (nI na) (nI nt) (nI nr) mw ml mk dq))]) hD hS hA [0] rfl
        refine va_calli (va_runV (C := "DoorServerModel") (As := [.int 0]) (rest := []) ⟨hx, hb, hml, hown, hg⟩ (m_goes0 l dC dI cT H.size mo r cd tm sn tx lz az na nt nr mw ml mk dq ) (cwV 1 hg (gI (List.forall_mem_append.mpr ⟨List.forall_mem_cons.mpr ⟨k_1165, List.forall_mem_cons.mpr ⟨k_1167, List.forall_mem_cons.mpr ⟨(big_sel (q := y_Md_goes) (n := 45) (by decide +kernel)), List.forall_mem_cons.mpr ⟨k_13, fun _ h => absurd h List.not_mem_nil⟩⟩⟩⟩, List.forall_mem_cons.mpr ⟨k_1168, fun _ h => h⟩⟩)) rfl rfl rfl (by decide +kernel) ⟨Nat.le_of_ble_eq_true rfl, Nat.le_of_ble_eq_true rfl⟩) ⟨fun a U g mk q => by obtain ⟨q0, q1, qP, qK, qD⟩ := q; exact ⟨q0, q1, qP, va_K.moved (u := U) (U := U.calling g mk a) (Vm.Alike.refl U.vm) qK, qD⟩, va_recv (q0 := 0) (ci := 12) hK hP rfl rfl, fun U hU hW => ⟨rfl, by rw [hU], by rw [hU]; exact hPc, va_K.moved hW.alike hK, hDc.weaken (fun _ _ _ _ => trivial)⟩⟩ rfl rfl hl.1 rfl (lv_room (Nat.le_of_ble_eq_true rfl)) d_Md_put_30 ⟨Nat.le_of_ble_eq_true rfl, Nat.le_of_ble_eq_true rfl⟩) hS (fun q _ h => hFc q h) hFc (fun rv9 u t H1 locs ht hvm hw hB hz1 hk1 hS => ?_)
        try dsimp only at hw hB
        obtain ⟨hP1, hK1, hD1⟩ := hB
        rw [ht] at hP1
        obtain ⟨rfl, hw⟩ := hw
        obtain ⟨hP, hD⟩ := va_join (wr := [(r 7, .inl ((cT 0), 1000, .inl f7))]) (w1 := [(mo, .inr (12, mdG r 1 tm (nI sn) (nI tx) (nI lz) (nI az) (nI na) (nI nt) (nI nr) mw ml mk dq))]) hP hD [0] [1] rfl rfl (by decide) (by decide) hk1 hFc hP1 hD1
        have hw41 := hw
        clear hPc hDc hFc hz1 hk1 hP1 hK1 hD1
        generalize H1 = H at hP hS ⊢
        have hP : va_P (dC, dI) vcl [(r 7, .inl ((cT 0), 1000, .inl f7)), (mo, .inr (12, mdG r 1 tm (nI sn) (nI tx) (nI lz) (nI az) (nI na) (nI nt) (nI nr) mw ml mk dq))] H := hP
        have hD : va_D A [(r 7, .inl ((cT 0), 1000, .inl f7)), (mo, .inr (12, mdG r 1 tm (nI sn) (nI tx) (nI lz) (nI az) (nI na) (nI nt) (nI nr) mw ml mk dq))] := hD
        refine lv_if_eq (tgt := 45) hx hb d_Md_put_33 (by decide) (fun hc42 => ?_) (fun hn9 => absurd (by decide) hn9)
        refine lv_iconst (v := 0) hx hb d_Md_put_45 (by decide) ?_
        have hP9 := hP.sub (ws' := [(mo, .inr (12, mdG r 1 tm (nI sn) (nI tx) (nI lz) (nI az) (nI na) (nI nt) (nI nr) mw ml mk dq)), (r 7, .inl ((cT 0), 1000, .inl f7))]) [1, 0] rfl
        have hD9 := hD.sub (ws' := [(mo, .inr (12, mdG r 1 tm (nI sn) (nI tx) (nI lz) (nI az) (nI na) (nI nt) (nI nr) mw ml mk dq)), (r 7, .inl ((cT 0), 1000, .inl f7))]) [1, 0] (by decide) rfl
        exact W.iret (v := 0) hx hb hr (fun t ht hW => ⟨⟨_, ⟨f7, 1, sn⟩, rfl, ⟨by first | assumption | omega, by first | assumption | omega, by first | assumption | omega⟩, by rw [ht]; exact hP9, va_K.moved hW.alike hK, hD9⟩, hS.F ht⟩) hS.2.2 d_Md_put_46
      · skip
        refine lv_topi (fun x44 e43 => ?_)
        obtain rfl : x44 = 1 := by rw [e43]; exact h8z
        refine lv_if_eq (tgt := 29) hx hb d_Md_put_12 (by decide) (fun hn9 => absurd hn9 (by decide)) (fun hc45 => ?_)
        refine lv_iload_n hx hb d_Md_put_15 rfl (lv_at hl 2 rfl) ?_
        refine lv_if_lt (tgt := 29) hx hb d_Md_put_16 (by decide) (fun hc46 => ?_) (fun hc46 => ?_)
        · skip
          refine lv_iconst (v := 0) hx hb d_Md_put_29 (by decide) ?_
          have hPc := hP.sub (ws' := [(mo, .inr (12, mdG r cd tm (nI sn) (nI tx) (nI lz) (nI az) (nI na) (nI nt) (nI nr) mw ml mk dq))]) [0] rfl
          have hDc := hD.sub (ws' := [(mo, .inr (12, mdG r cd tm (nI sn) (nI tx) (nI lz) (nI az) (nI na) (nI nt) (nI nr) mw ml mk dq))]) [0] (by decide) rfl
          have hFc := va_free (wc := [(mo, .inr (12, mdG r cd tm (nI sn) (nI tx) (nI lz) (nI az) (nI na) (nI nt) (nI nr) mw ml mk dq))]) hD hS hA [0] rfl
          refine va_calli (va_runV (C := "DoorServerModel") (As := [.int 0]) (rest := []) ⟨hx, hb, hml, hown, hg⟩ (m_goes0 l dC dI cT H.size mo r cd tm sn tx lz az na nt nr mw ml mk dq ) (cwV 1 hg (gI (List.forall_mem_append.mpr ⟨List.forall_mem_cons.mpr ⟨k_1165, List.forall_mem_cons.mpr ⟨k_1167, List.forall_mem_cons.mpr ⟨(big_sel (q := y_Md_goes) (n := 45) (by decide +kernel)), List.forall_mem_cons.mpr ⟨k_13, fun _ h => absurd h List.not_mem_nil⟩⟩⟩⟩, List.forall_mem_cons.mpr ⟨k_1168, fun _ h => h⟩⟩)) rfl rfl rfl (by decide +kernel) ⟨Nat.le_of_ble_eq_true rfl, Nat.le_of_ble_eq_true rfl⟩) ⟨fun a U g mk q => by obtain ⟨q0, q1, qP, qK, qD⟩ := q; exact ⟨q0, q1, qP, va_K.moved (u := U) (U := U.calling g mk a) (Vm.Alike.refl U.vm) qK, qD⟩, va_recv (q0 := 0) (ci := 12) hK hP rfl rfl, fun U hU hW => ⟨rfl, by rw [hU], by rw [hU]; exact hPc, va_K.moved hW.alike hK, hDc.weaken (fun _ _ _ _ => trivial)⟩⟩ rfl rfl hl.1 rfl (lv_room (Nat.le_of_ble_eq_true rfl)) d_Md_put_30 ⟨Nat.le_of_ble_eq_true rfl, Nat.le_of_ble_eq_true rfl⟩) hS (fun q _ h => hFc q h) hFc (fun rv9 u t H1 locs ht hvm hw hB hz1 hk1 hS => ?_)
          try dsimp only at hw hB
          obtain ⟨hP1, hK1, hD1⟩ := hB
          rw [ht] at hP1
          obtain ⟨rfl, hw⟩ := hw
          obtain ⟨hP, hD⟩ := va_join (wr := [(r 7, .inl ((cT 0), 1000, .inl f7))]) (w1 := [(mo, .inr (12, mdG r 1 tm (nI sn) (nI tx) (nI lz) (nI az) (nI na) (nI nt) (nI nr) mw ml mk dq))]) hP hD [0] [1] rfl rfl (by decide) (by decide) hk1 hFc hP1 hD1
          have hw47 := hw
          clear hPc hDc hFc hz1 hk1 hP1 hK1 hD1
          generalize H1 = H at hP hS ⊢
          have hP : va_P (dC, dI) vcl [(r 7, .inl ((cT 0), 1000, .inl f7)), (mo, .inr (12, mdG r 1 tm (nI sn) (nI tx) (nI lz) (nI az) (nI na) (nI nt) (nI nr) mw ml mk dq))] H := hP
          have hD : va_D A [(r 7, .inl ((cT 0), 1000, .inl f7)), (mo, .inr (12, mdG r 1 tm (nI sn) (nI tx) (nI lz) (nI az) (nI na) (nI nt) (nI nr) mw ml mk dq))] := hD
          refine lv_if_eq (tgt := 45) hx hb d_Md_put_33 (by decide) (fun hc48 => ?_) (fun hn9 => absurd (by decide) hn9)
          refine lv_iconst (v := 0) hx hb d_Md_put_45 (by decide) ?_
          have hP9 := hP.sub (ws' := [(mo, .inr (12, mdG r 1 tm (nI sn) (nI tx) (nI lz) (nI az) (nI na) (nI nt) (nI nr) mw ml mk dq)), (r 7, .inl ((cT 0), 1000, .inl f7))]) [1, 0] rfl
          have hD9 := hD.sub (ws' := [(mo, .inr (12, mdG r 1 tm (nI sn) (nI tx) (nI lz) (nI az) (nI na) (nI nt) (nI nr) mw ml mk dq)), (r 7, .inl ((cT 0), 1000, .inl f7))]) [1, 0] (by decide) rfl
          exact W.iret (v := 0) hx hb hr (fun t ht hW => ⟨⟨_, ⟨f7, 1, sn⟩, rfl, ⟨by first | assumption | omega, by first | assumption | omega, by first | assumption | omega⟩, by rw [ht]; exact hP9, va_K.moved hW.alike hK, hD9⟩, hS.F ht⟩) hS.2.2 d_Md_put_46
        · skip
          refine lv_iload_n hx hb d_Md_put_19 rfl (lv_at hl 2 rfl) ?_
          refine lv_bipush (v := 100) hx hb d_Md_put_20 (by decide) ?_
          refine lv_icmp_gt (tgt := 29) hx hb d_Md_put_22 (by decide) (fun hc49 => ?_) (fun hn9 => absurd ((lt_le1 (a := 100) (b := nI 101) (by decide)).mpr h8y) hn9)
          refine lv_iconst (v := 0) hx hb d_Md_put_29 (by decide) ?_
          have hPc := hP.sub (ws' := [(mo, .inr (12, mdG r cd tm (nI sn) (nI tx) (nI lz) (nI az) (nI na) (nI nt) (nI nr) mw ml mk dq))]) [0] rfl
          have hDc := hD.sub (ws' := [(mo, .inr (12, mdG r cd tm (nI sn) (nI tx) (nI lz) (nI az) (nI na) (nI nt) (nI nr) mw ml mk dq))]) [0] (by decide) rfl
          have hFc := va_free (wc := [(mo, .inr (12, mdG r cd tm (nI sn) (nI tx) (nI lz) (nI az) (nI na) (nI nt) (nI nr) mw ml mk dq))]) hD hS hA [0] rfl
          refine va_calli (va_runV (C := "DoorServerModel") (As := [.int 0]) (rest := []) ⟨hx, hb, hml, hown, hg⟩ (m_goes0 l dC dI cT H.size mo r cd tm sn tx lz az na nt nr mw ml mk dq ) (cwV 1 hg (gI (List.forall_mem_append.mpr ⟨List.forall_mem_cons.mpr ⟨k_1165, List.forall_mem_cons.mpr ⟨k_1167, List.forall_mem_cons.mpr ⟨(big_sel (q := y_Md_goes) (n := 45) (by decide +kernel)), List.forall_mem_cons.mpr ⟨k_13, fun _ h => absurd h List.not_mem_nil⟩⟩⟩⟩, List.forall_mem_cons.mpr ⟨k_1168, fun _ h => h⟩⟩)) rfl rfl rfl (by decide +kernel) ⟨Nat.le_of_ble_eq_true rfl, Nat.le_of_ble_eq_true rfl⟩) ⟨fun a U g mk q => by obtain ⟨q0, q1, qP, qK, qD⟩ := q; exact ⟨q0, q1, qP, va_K.moved (u := U) (U := U.calling g mk a) (Vm.Alike.refl U.vm) qK, qD⟩, va_recv (q0 := 0) (ci := 12) hK hP rfl rfl, fun U hU hW => ⟨rfl, by rw [hU], by rw [hU]; exact hPc, va_K.moved hW.alike hK, hDc.weaken (fun _ _ _ _ => trivial)⟩⟩ rfl rfl hl.1 rfl (lv_room (Nat.le_of_ble_eq_true rfl)) d_Md_put_30 ⟨Nat.le_of_ble_eq_true rfl, Nat.le_of_ble_eq_true rfl⟩) hS (fun q _ h => hFc q h) hFc (fun rv9 u t H1 locs ht hvm hw hB hz1 hk1 hS => ?_)
          try dsimp only at hw hB
          obtain ⟨hP1, hK1, hD1⟩ := hB
          rw [ht] at hP1
          obtain ⟨rfl, hw⟩ := hw
          obtain ⟨hP, hD⟩ := va_join (wr := [(r 7, .inl ((cT 0), 1000, .inl f7))]) (w1 := [(mo, .inr (12, mdG r 1 tm (nI sn) (nI tx) (nI lz) (nI az) (nI na) (nI nt) (nI nr) mw ml mk dq))]) hP hD [0] [1] rfl rfl (by decide) (by decide) hk1 hFc hP1 hD1
          have hw50 := hw
          clear hPc hDc hFc hz1 hk1 hP1 hK1 hD1
          generalize H1 = H at hP hS ⊢
          have hP : va_P (dC, dI) vcl [(r 7, .inl ((cT 0), 1000, .inl f7)), (mo, .inr (12, mdG r 1 tm (nI sn) (nI tx) (nI lz) (nI az) (nI na) (nI nt) (nI nr) mw ml mk dq))] H := hP
          have hD : va_D A [(r 7, .inl ((cT 0), 1000, .inl f7)), (mo, .inr (12, mdG r 1 tm (nI sn) (nI tx) (nI lz) (nI az) (nI na) (nI nt) (nI nr) mw ml mk dq))] := hD
          refine lv_if_eq (tgt := 45) hx hb d_Md_put_33 (by decide) (fun hc51 => ?_) (fun hn9 => absurd (by decide) hn9)
          refine lv_iconst (v := 0) hx hb d_Md_put_45 (by decide) ?_
          have hP9 := hP.sub (ws' := [(mo, .inr (12, mdG r 1 tm (nI sn) (nI tx) (nI lz) (nI az) (nI na) (nI nt) (nI nr) mw ml mk dq)), (r 7, .inl ((cT 0), 1000, .inl f7))]) [1, 0] rfl
          have hD9 := hD.sub (ws' := [(mo, .inr (12, mdG r 1 tm (nI sn) (nI tx) (nI lz) (nI az) (nI na) (nI nt) (nI nr) mw ml mk dq)), (r 7, .inl ((cT 0), 1000, .inl f7))]) [1, 0] (by decide) rfl
          exact W.iret (v := 0) hx hb hr (fun t ht hW => ⟨⟨_, ⟨f7, 1, sn⟩, rfl, ⟨by first | assumption | omega, by first | assumption | omega, by first | assumption | omega⟩, by rw [ht]; exact hP9, va_K.moved hW.alike hK, hD9⟩, hS.F ht⟩) hS.2.2 d_Md_put_46
  · skip
    refine lv_aload_n hx hb d_Md_put_0 rfl (lv_at hl 0 rfl) ?_
    refine lv_iload_n hx hb d_Md_put_1 rfl (lv_at hl 1 rfl) ?_
    have hPc := hP.sub (ws' := []) [] rfl
    have hDc := hD.sub (ws' := []) [] (by decide) rfl
    have hFc := va_free (wc := []) hD hS hA [] rfl
    refine va_calli (va_runS (As := [.int x]) (rest := [.ref mo]) ⟨hx, hb, hml, hown, hg⟩ (m_byteT l dC dI cT s.heap.size x ) (va_cwS 1 hg (gI (List.forall_mem_append.mpr ⟨List.forall_mem_cons.mpr ⟨k_1181, List.forall_mem_cons.mpr ⟨k_1182, List.forall_mem_cons.mpr ⟨k_13, fun _ h => absurd h List.not_mem_nil⟩⟩⟩, List.forall_mem_cons.mpr ⟨k_1183, fun _ h => h⟩⟩)) rfl rfl rfl (by decide +kernel) ⟨Nat.le_of_ble_eq_true rfl, Nat.le_of_ble_eq_true rfl⟩) ⟨fun a U g mk q => by obtain ⟨q0, q1, qP, qK, qD⟩ := q; exact ⟨q0, q1, qP, va_K.moved (u := U) (U := U.calling g mk a) (Vm.Alike.refl U.vm) qK, qD⟩, fun U hU hW => ⟨rfl, by rw [hU], by rw [hU]; exact hPc, va_K.moved hW.alike hK, hDc.weaken (fun _ _ _ _ => trivial)⟩⟩ rfl rfl hl.1 rfl (lv_room (Nat.le_of_ble_eq_true rfl)) d_Md_put_2 ⟨Nat.le_of_ble_eq_true rfl, Nat.le_of_ble_eq_true rfl⟩) hS (fun q _ h => hFc q h) hFc (fun rv9 u t H1 locs ht hvm hw hB hz1 hk1 hS => ?_)
    try dsimp only at hw hB
    obtain ⟨hP1, hK1, hD1⟩ := hB
    rw [ht] at hP1
    generalize rv9 = r52 at hw ⊢
    obtain ⟨hP, hD⟩ := va_join (wr := [(mo, .inr (12, mdG r cd tm (nI sn) (nI tx) (nI lz) (nI az) (nI na) (nI nt) (nI nr) mw ml mk dq)), (r 7, .inl ((cT 0), 1000, .inl f7))]) (w1 := []) hP hD [] [0, 1] rfl rfl (by decide) (by decide) hk1 hFc hP1 hD1
    have hw53 := hw
    clear hPc hDc hFc hz1 hk1 hP1 hK1 hD1
    generalize H1 = H at hP hS ⊢
    have hP : va_P (dC, dI) vcl [(mo, .inr (12, mdG r cd tm (nI sn) (nI tx) (nI lz) (nI az) (nI na) (nI nt) (nI nr) mw ml mk dq)), (r 7, .inl ((cT 0), 1000, .inl f7))] H := hP
    have hD : va_D A [(mo, .inr (12, mdG r cd tm (nI sn) (nI tx) (nI lz) (nI az) (nI na) (nI nt) (nI nr) mw ml mk dq)), (r 7, .inl ((cT 0), 1000, .inl f7))] := hD
    rcases hw53 with h8z | h8z
    · skip
      refine lv_topi (fun x55 e54 => ?_)
      obtain rfl : x55 = 0 := by rw [e54]; exact h8z
      refine lv_if_eq (tgt := 29) hx hb d_Md_put_5 (by decide) (fun hc56 => ?_) (fun hn9 => absurd (by decide) hn9)
      refine lv_iconst (v := 0) hx hb d_Md_put_29 (by decide) ?_
      have hPc := hP.sub (ws' := [(mo, .inr (12, mdG r cd tm (nI sn) (nI tx) (nI lz) (nI az) (nI na) (nI nt) (nI nr) mw ml mk dq))]) [0] rfl
      have hDc := hD.sub (ws' := [(mo, .inr (12, mdG r cd tm (nI sn) (nI tx) (nI lz) (nI az) (nI na) (nI nt) (nI nr) mw ml mk dq))]) [0] (by decide) rfl
      have hFc := va_free (wc := [(mo, .inr (12, mdG r cd tm (nI sn) (nI tx) (nI lz) (nI az) (nI na) (nI nt) (nI nr) mw ml mk dq))]) hD hS hA [0] rfl
      refine va_calli (va_runV (C := "DoorServerModel") (As := [.int 0]) (rest := []) ⟨hx, hb, hml, hown, hg⟩ (m_goes0 l dC dI cT H.size mo r cd tm sn tx lz az na nt nr mw ml mk dq ) (cwV 1 hg (gI (List.forall_mem_append.mpr ⟨List.forall_mem_cons.mpr ⟨k_1165, List.forall_mem_cons.mpr ⟨k_1167, List.forall_mem_cons.mpr ⟨(big_sel (q := y_Md_goes) (n := 45) (by decide +kernel)), List.forall_mem_cons.mpr ⟨k_13, fun _ h => absurd h List.not_mem_nil⟩⟩⟩⟩, List.forall_mem_cons.mpr ⟨k_1168, fun _ h => h⟩⟩)) rfl rfl rfl (by decide +kernel) ⟨Nat.le_of_ble_eq_true rfl, Nat.le_of_ble_eq_true rfl⟩) ⟨fun a U g mk q => by obtain ⟨q0, q1, qP, qK, qD⟩ := q; exact ⟨q0, q1, qP, va_K.moved (u := U) (U := U.calling g mk a) (Vm.Alike.refl U.vm) qK, qD⟩, va_recv (q0 := 0) (ci := 12) hK hP rfl rfl, fun U hU hW => ⟨rfl, by rw [hU], by rw [hU]; exact hPc, va_K.moved hW.alike hK, hDc.weaken (fun _ _ _ _ => trivial)⟩⟩ rfl rfl hl.1 rfl (lv_room (Nat.le_of_ble_eq_true rfl)) d_Md_put_30 ⟨Nat.le_of_ble_eq_true rfl, Nat.le_of_ble_eq_true rfl⟩) hS (fun q _ h => hFc q h) hFc (fun rv9 u t H1 locs ht hvm hw hB hz1 hk1 hS => ?_)
      try dsimp only at hw hB
      obtain ⟨hP1, hK1, hD1⟩ := hB
      rw [ht] at hP1
      obtain ⟨rfl, hw⟩ := hw
      obtain ⟨hP, hD⟩ := va_join (wr := [(r 7, .inl ((cT 0), 1000, .inl f7))]) (w1 := [(mo, .inr (12, mdG r 1 tm (nI sn) (nI tx) (nI lz) (nI az) (nI na) (nI nt) (nI nr) mw ml mk dq))]) hP hD [0] [1] rfl rfl (by decide) (by decide) hk1 hFc hP1 hD1
      have hw57 := hw
      clear hPc hDc hFc hz1 hk1 hP1 hK1 hD1
      generalize H1 = H at hP hS ⊢
      have hP : va_P (dC, dI) vcl [(r 7, .inl ((cT 0), 1000, .inl f7)), (mo, .inr (12, mdG r 1 tm (nI sn) (nI tx) (nI lz) (nI az) (nI na) (nI nt) (nI nr) mw ml mk dq))] H := hP
      have hD : va_D A [(r 7, .inl ((cT 0), 1000, .inl f7)), (mo, .inr (12, mdG r 1 tm (nI sn) (nI tx) (nI lz) (nI az) (nI na) (nI nt) (nI nr) mw ml mk dq))] := hD
      refine lv_if_eq (tgt := 45) hx hb d_Md_put_33 (by decide) (fun hc58 => ?_) (fun hn9 => absurd (by decide) hn9)
      refine lv_iconst (v := 0) hx hb d_Md_put_45 (by decide) ?_
      have hP9 := hP.sub (ws' := [(mo, .inr (12, mdG r 1 tm (nI sn) (nI tx) (nI lz) (nI az) (nI na) (nI nt) (nI nr) mw ml mk dq)), (r 7, .inl ((cT 0), 1000, .inl f7))]) [1, 0] rfl
      have hD9 := hD.sub (ws' := [(mo, .inr (12, mdG r 1 tm (nI sn) (nI tx) (nI lz) (nI az) (nI na) (nI nt) (nI nr) mw ml mk dq)), (r 7, .inl ((cT 0), 1000, .inl f7))]) [1, 0] (by decide) rfl
      exact W.iret (v := 0) hx hb hr (fun t ht hW => ⟨⟨_, ⟨f7, 1, sn⟩, rfl, ⟨by first | assumption | omega, by first | assumption | omega, by first | assumption | omega⟩, by rw [ht]; exact hP9, va_K.moved hW.alike hK, hD9⟩, hS.F ht⟩) hS.2.2 d_Md_put_46
    · skip
      refine lv_topi (fun x60 e59 => ?_)
      obtain rfl : x60 = 1 := by rw [e59]; exact h8z
      refine lv_if_eq (tgt := 29) hx hb d_Md_put_5 (by decide) (fun hn9 => absurd hn9 (by decide)) (fun hc61 => ?_)
      refine lv_iload_n hx hb d_Md_put_8 rfl (lv_at hl 3 rfl) ?_
      have hPc := hP.sub (ws' := []) [] rfl
      have hDc := hD.sub (ws' := []) [] (by decide) rfl
      have hFc := va_free (wc := []) hD hS hA [] rfl
      refine va_calli (va_runS (As := [.int z9]) (rest := [.ref mo]) ⟨hx, hb, hml, hown, hg⟩ (m_byteT l dC dI cT H.size z9 ) (va_cwS 1 hg (gI (List.forall_mem_append.mpr ⟨List.forall_mem_cons.mpr ⟨k_1181, List.forall_mem_cons.mpr ⟨k_1182, List.forall_mem_cons.mpr ⟨k_13, fun _ h => absurd h List.not_mem_nil⟩⟩⟩, List.forall_mem_cons.mpr ⟨k_1183, fun _ h => h⟩⟩)) rfl rfl rfl (by decide +kernel) ⟨Nat.le_of_ble_eq_true rfl, Nat.le_of_ble_eq_true rfl⟩) ⟨fun a U g mk q => by obtain ⟨q0, q1, qP, qK, qD⟩ := q; exact ⟨q0, q1, qP, va_K.moved (u := U) (U := U.calling g mk a) (Vm.Alike.refl U.vm) qK, qD⟩, fun U hU hW => ⟨rfl, by rw [hU], by rw [hU]; exact hPc, va_K.moved hW.alike hK, hDc.weaken (fun _ _ _ _ => trivial)⟩⟩ rfl rfl hl.1 rfl (lv_room (Nat.le_of_ble_eq_true rfl)) d_Md_put_9 ⟨Nat.le_of_ble_eq_true rfl, Nat.le_of_ble_eq_true rfl⟩) hS (fun q _ h => hFc q h) hFc (fun rv9 u t H1 locs ht hvm hw hB hz1 hk1 hS => ?_)
      try dsimp only at hw hB
      obtain ⟨hP1, hK1, hD1⟩ := hB
      rw [ht] at hP1
      generalize rv9 = r62 at hw ⊢
      obtain ⟨hP, hD⟩ := va_join (wr := [(mo, .inr (12, mdG r cd tm (nI sn) (nI tx) (nI lz) (nI az) (nI na) (nI nt) (nI nr) mw ml mk dq)), (r 7, .inl ((cT 0), 1000, .inl f7))]) (w1 := []) hP hD [] [0, 1] rfl rfl (by decide) (by decide) hk1 hFc hP1 hD1
      have hw63 := hw
      clear hPc hDc hFc hz1 hk1 hP1 hK1 hD1
      generalize H1 = H at hP hS ⊢
      have hP : va_P (dC, dI) vcl [(mo, .inr (12, mdG r cd tm (nI sn) (nI tx) (nI lz) (nI az) (nI na) (nI nt) (nI nr) mw ml mk dq)), (r 7, .inl ((cT 0), 1000, .inl f7))] H := hP
      have hD : va_D A [(mo, .inr (12, mdG r cd tm (nI sn) (nI tx) (nI lz) (nI az) (nI na) (nI nt) (nI nr) mw ml mk dq)), (r 7, .inl ((cT 0), 1000, .inl f7))] := hD
      rcases hw63 with h8z | h8z
      · skip
        refine lv_topi (fun x65 e64 => ?_)
        obtain rfl : x65 = 0 := by rw [e64]; exact h8z
        refine lv_if_eq (tgt := 29) hx hb d_Md_put_12 (by decide) (fun hc66 => ?_) (fun hn9 => absurd (by decide) hn9)
        refine lv_iconst (v := 0) hx hb d_Md_put_29 (by decide) ?_
        have hPc := hP.sub (ws' := [(mo, .inr (12, mdG r cd tm (nI sn) (nI tx) (nI lz) (nI az) (nI na) (nI nt) (nI nr) mw ml mk dq))]) [0] rfl
        have hDc := hD.sub (ws' := [(mo, .inr (12, mdG r cd tm (nI sn) (nI tx) (nI lz) (nI az) (nI na) (nI nt) (nI nr) mw ml mk dq))]) [0] (by decide) rfl
        have hFc := va_free (wc := [(mo, .inr (12, mdG r cd tm (nI sn) (nI tx) (nI lz) (nI az) (nI na) (nI nt) (nI nr) mw ml mk dq))]) hD hS hA [0] rfl
        refine va_calli (va_runV (C := "DoorServerModel") (As := [.int 0]) (rest := []) ⟨hx, hb, hml, hown, hg⟩ (m_goes0 l dC dI cT H.size mo r cd tm sn tx lz az na nt nr mw ml mk dq ) (cwV 1 hg (gI (List.forall_mem_append.mpr ⟨List.forall_mem_cons.mpr ⟨k_1165, List.forall_mem_cons.mpr ⟨k_1167, List.forall_mem_cons.mpr ⟨(big_sel (q := y_Md_goes) (n := 45) (by decide +kernel)), List.forall_mem_cons.mpr ⟨k_13, fun _ h => absurd h List.not_mem_nil⟩⟩⟩⟩, List.forall_mem_cons.mpr ⟨k_1168, fun _ h => h⟩⟩)) rfl rfl rfl (by decide +kernel) ⟨Nat.le_of_ble_eq_true rfl, Nat.le_of_ble_eq_true rfl⟩) ⟨fun a U g mk q => by obtain ⟨q0, q1, qP, qK, qD⟩ := q; exact ⟨q0, q1, qP, va_K.moved (u := U) (U := U.calling g mk a) (Vm.Alike.refl U.vm) qK, qD⟩, va_recv (q0 := 0) (ci := 12) hK hP rfl rfl, fun U hU hW => ⟨rfl, by rw [hU], by rw [hU]; exact hPc, va_K.moved hW.alike hK, hDc.weaken (fun _ _ _ _ => trivial)⟩⟩ rfl rfl hl.1 rfl (lv_room (Nat.le_of_ble_eq_true rfl)) d_Md_put_30 ⟨Nat.le_of_ble_eq_true rfl, Nat.le_of_ble_eq_true rfl⟩) hS (fun q _ h => hFc q h) hFc (fun rv9 u t H1 locs ht hvm hw hB hz1 hk1 hS => ?_)
        try dsimp only at hw hB
        obtain ⟨hP1, hK1, hD1⟩ := hB
        rw [ht] at hP1
        obtain ⟨rfl, hw⟩ := hw
        obtain ⟨hP, hD⟩ := va_join (wr := [(r 7, .inl ((cT 0), 1000, .inl f7))]) (w1 := [(mo, .inr (12, mdG r 1 tm (nI sn) (nI tx) (nI lz) (nI az) (nI na) (nI nt) (nI nr) mw ml mk dq))]) hP hD [0] [1] rfl rfl (by decide) (by decide) hk1 hFc hP1 hD1
        have hw67 := hw
        clear hPc hDc hFc hz1 hk1 hP1 hK1 hD1
        generalize H1 = H at hP hS ⊢
        have hP : va_P (dC, dI) vcl [(r 7, .inl ((cT 0), 1000, .inl f7)), (mo, .inr (12, mdG r 1 tm (nI sn) (nI tx) (nI lz) (nI az) (nI na) (nI nt) (nI nr) mw ml mk dq))] H := hP
        have hD : va_D A [(r 7, .inl ((cT 0), 1000, .inl f7)), (mo, .inr (12, mdG r 1 tm (nI sn) (nI tx) (nI lz) (nI az) (nI na) (nI nt) (nI nr) mw ml mk dq))] := hD
        refine lv_if_eq (tgt := 45) hx hb d_Md_put_33 (by decide) (fun hc68 => ?_) (fun hn9 => absurd (by decide) hn9)
        refine lv_iconst (v := 0) hx hb d_Md_put_45 (by decide) ?_
        have hP9 := hP.sub (ws' := [(mo, .inr (12, mdG r 1 tm (nI sn) (nI tx) (nI lz) (nI az) (nI na) (nI nt) (nI nr) mw ml mk dq)), (r 7, .inl ((cT 0), 1000, .inl f7))]) [1, 0] rfl
        have hD9 := hD.sub (ws' := [(mo, .inr (12, mdG r 1 tm (nI sn) (nI tx) (nI lz) (nI az) (nI na) (nI nt) (nI nr) mw ml mk dq)), (r 7, .inl ((cT 0), 1000, .inl f7))]) [1, 0] (by decide) rfl
        exact W.iret (v := 0) hx hb hr (fun t ht hW => ⟨⟨_, ⟨f7, 1, sn⟩, rfl, ⟨by first | assumption | omega, by first | assumption | omega, by first | assumption | omega⟩, by rw [ht]; exact hP9, va_K.moved hW.alike hK, hD9⟩, hS.F ht⟩) hS.2.2 d_Md_put_46
      · skip
        refine lv_topi (fun x70 e69 => ?_)
        obtain rfl : x70 = 1 := by rw [e69]; exact h8z
        refine lv_if_eq (tgt := 29) hx hb d_Md_put_12 (by decide) (fun hn9 => absurd hn9 (by decide)) (fun hc71 => ?_)
        refine lv_iload_n hx hb d_Md_put_15 rfl (lv_at hl 2 rfl) ?_
        refine lv_if_lt (tgt := 29) hx hb d_Md_put_16 (by decide) (fun hn9 => absurd hn9 (nI_pos (by omega))) (fun hc72 => ?_)
        refine lv_iload_n hx hb d_Md_put_19 rfl (lv_at hl 2 rfl) ?_
        refine lv_bipush (v := 100) hx hb d_Md_put_20 (by decide) ?_
        refine lv_icmp_gt (tgt := 29) hx hb d_Md_put_22 (by decide) (fun hc73 => ?_) (fun hc73 => ?_)
        · skip
          have n74 : 100 < yn := (nI_ltI (a := 100) (b := yn) (by omega) (by omega)).mp hc73
          refine lv_iconst (v := 0) hx hb d_Md_put_29 (by decide) ?_
          have hPc := hP.sub (ws' := [(mo, .inr (12, mdG r cd tm (nI sn) (nI tx) (nI lz) (nI az) (nI na) (nI nt) (nI nr) mw ml mk dq))]) [0] rfl
          have hDc := hD.sub (ws' := [(mo, .inr (12, mdG r cd tm (nI sn) (nI tx) (nI lz) (nI az) (nI na) (nI nt) (nI nr) mw ml mk dq))]) [0] (by decide) rfl
          have hFc := va_free (wc := [(mo, .inr (12, mdG r cd tm (nI sn) (nI tx) (nI lz) (nI az) (nI na) (nI nt) (nI nr) mw ml mk dq))]) hD hS hA [0] rfl
          refine va_calli (va_runV (C := "DoorServerModel") (As := [.int 0]) (rest := []) ⟨hx, hb, hml, hown, hg⟩ (m_goes0 l dC dI cT H.size mo r cd tm sn tx lz az na nt nr mw ml mk dq ) (cwV 1 hg (gI (List.forall_mem_append.mpr ⟨List.forall_mem_cons.mpr ⟨k_1165, List.forall_mem_cons.mpr ⟨k_1167, List.forall_mem_cons.mpr ⟨(big_sel (q := y_Md_goes) (n := 45) (by decide +kernel)), List.forall_mem_cons.mpr ⟨k_13, fun _ h => absurd h List.not_mem_nil⟩⟩⟩⟩, List.forall_mem_cons.mpr ⟨k_1168, fun _ h => h⟩⟩)) rfl rfl rfl (by decide +kernel) ⟨Nat.le_of_ble_eq_true rfl, Nat.le_of_ble_eq_true rfl⟩) ⟨fun a U g mk q => by obtain ⟨q0, q1, qP, qK, qD⟩ := q; exact ⟨q0, q1, qP, va_K.moved (u := U) (U := U.calling g mk a) (Vm.Alike.refl U.vm) qK, qD⟩, va_recv (q0 := 0) (ci := 12) hK hP rfl rfl, fun U hU hW => ⟨rfl, by rw [hU], by rw [hU]; exact hPc, va_K.moved hW.alike hK, hDc.weaken (fun _ _ _ _ => trivial)⟩⟩ rfl rfl hl.1 rfl (lv_room (Nat.le_of_ble_eq_true rfl)) d_Md_put_30 ⟨Nat.le_of_ble_eq_true rfl, Nat.le_of_ble_eq_true rfl⟩) hS (fun q _ h => hFc q h) hFc (fun rv9 u t H1 locs ht hvm hw hB hz1 hk1 hS => ?_)
          try dsimp only at hw hB
          obtain ⟨hP1, hK1, hD1⟩ := hB
          rw [ht] at hP1
          obtain ⟨rfl, hw⟩ := hw
          obtain ⟨hP, hD⟩ := va_join (wr := [(r 7, .inl ((cT 0), 1000, .inl f7))]) (w1 := [(mo, .inr (12, mdG r 1 tm (nI sn) (nI tx) (nI lz) (nI az) (nI na) (nI nt) (nI nr) mw ml mk dq))]) hP hD [0] [1] rfl rfl (by decide) (by decide) hk1 hFc hP1 hD1
          have hw76 := hw
          clear hPc hDc hFc hz1 hk1 hP1 hK1 hD1
          generalize H1 = H at hP hS ⊢
          have hP : va_P (dC, dI) vcl [(r 7, .inl ((cT 0), 1000, .inl f7)), (mo, .inr (12, mdG r 1 tm (nI sn) (nI tx) (nI lz) (nI az) (nI na) (nI nt) (nI nr) mw ml mk dq))] H := hP
          have hD : va_D A [(r 7, .inl ((cT 0), 1000, .inl f7)), (mo, .inr (12, mdG r 1 tm (nI sn) (nI tx) (nI lz) (nI az) (nI na) (nI nt) (nI nr) mw ml mk dq))] := hD
          refine lv_if_eq (tgt := 45) hx hb d_Md_put_33 (by decide) (fun hc77 => ?_) (fun hn9 => absurd (by decide) hn9)
          refine lv_iconst (v := 0) hx hb d_Md_put_45 (by decide) ?_
          have hP9 := hP.sub (ws' := [(mo, .inr (12, mdG r 1 tm (nI sn) (nI tx) (nI lz) (nI az) (nI na) (nI nt) (nI nr) mw ml mk dq)), (r 7, .inl ((cT 0), 1000, .inl f7))]) [1, 0] rfl
          have hD9 := hD.sub (ws' := [(mo, .inr (12, mdG r 1 tm (nI sn) (nI tx) (nI lz) (nI az) (nI na) (nI nt) (nI nr) mw ml mk dq)), (r 7, .inl ((cT 0), 1000, .inl f7))]) [1, 0] (by decide) rfl
          exact W.iret (v := 0) hx hb hr (fun t ht hW => ⟨⟨_, ⟨f7, 1, sn⟩, rfl, ⟨by first | assumption | omega, by first | assumption | omega, by first | assumption | omega⟩, by rw [ht]; exact hP9, va_K.moved hW.alike hK, hD9⟩, hS.F ht⟩) hS.2.2 d_Md_put_46
        · skip
          have n75 : yn ≤ 100 := Nat.not_lt.mp (fun h7 => hc73 ((nI_ltI (a := 100) (b := yn) (by omega) (by omega)).mpr h7))
          refine lv_iconst (v := 1) hx hb d_Md_put_25 (by decide) ?_
          refine lv_goto (tgt := 30) hx hb d_Md_put_26 (by decide) ?_
          have hPc := hP.sub (ws' := [(mo, .inr (12, mdG r cd tm (nI sn) (nI tx) (nI lz) (nI az) (nI na) (nI nt) (nI nr) mw ml mk dq))]) [0] rfl
          have hDc := hD.sub (ws' := [(mo, .inr (12, mdG r cd tm (nI sn) (nI tx) (nI lz) (nI az) (nI na) (nI nt) (nI nr) mw ml mk dq))]) [0] (by decide) rfl
          have hFc := va_free (wc := [(mo, .inr (12, mdG r cd tm (nI sn) (nI tx) (nI lz) (nI az) (nI na) (nI nt) (nI nr) mw ml mk dq))]) hD hS hA [0] rfl
          refine va_calli (va_runV (C := "DoorServerModel") (As := [.int 1]) (rest := []) ⟨hx, hb, hml, hown, hg⟩ (m_goes1 l dC dI cT H.size mo r cd tm sn tx lz az na nt nr mw ml mk dq ) (cwV 1 hg (gI (List.forall_mem_append.mpr ⟨List.forall_mem_cons.mpr ⟨k_1165, List.forall_mem_cons.mpr ⟨k_1167, List.forall_mem_cons.mpr ⟨(big_sel (q := y_Md_goes) (n := 45) (by decide +kernel)), List.forall_mem_cons.mpr ⟨k_13, fun _ h => absurd h List.not_mem_nil⟩⟩⟩⟩, List.forall_mem_cons.mpr ⟨k_1168, fun _ h => h⟩⟩)) rfl rfl rfl (by decide +kernel) ⟨Nat.le_of_ble_eq_true rfl, Nat.le_of_ble_eq_true rfl⟩) ⟨fun a U g mk q => by obtain ⟨q0, q1, qP, qK, qD⟩ := q; exact ⟨q0, q1, qP, va_K.moved (u := U) (U := U.calling g mk a) (Vm.Alike.refl U.vm) qK, qD⟩, va_recv (q0 := 0) (ci := 12) hK hP rfl rfl, fun U hU hW => ⟨rfl, by rw [hU], by rw [hU]; exact hPc, va_K.moved hW.alike hK, hDc.weaken (fun _ _ _ _ => trivial)⟩⟩ rfl rfl hl.1 rfl (lv_room (Nat.le_of_ble_eq_true rfl)) d_Md_put_30 ⟨Nat.le_of_ble_eq_true rfl, Nat.le_of_ble_eq_true rfl⟩) hS (fun q _ h => hFc q h) hFc (fun rv9 u t H1 locs ht hvm hw hB hz1 hk1 hS => ?_)
          try dsimp only at hw hB
          obtain ⟨hP1, hK1, hD1⟩ := hB
          rw [ht] at hP1
          obtain ⟨rfl, hw⟩ := hw
          obtain ⟨hP, hD⟩ := va_join (wr := [(r 7, .inl ((cT 0), 1000, .inl f7))]) (w1 := [(mo, .inr (12, mdG r 0 tm (nI sn) (nI tx) (nI lz) (nI az) (nI na) (nI nt) (nI nr) mw ml mk dq))]) hP hD [0] [1] rfl rfl (by decide) (by decide) hk1 hFc hP1 hD1
          have hw78 := hw
          clear hPc hDc hFc hz1 hk1 hP1 hK1 hD1
          generalize H1 = H at hP hS ⊢
          have hP : va_P (dC, dI) vcl [(r 7, .inl ((cT 0), 1000, .inl f7)), (mo, .inr (12, mdG r 0 tm (nI sn) (nI tx) (nI lz) (nI az) (nI na) (nI nt) (nI nr) mw ml mk dq))] H := hP
          have hD : va_D A [(r 7, .inl ((cT 0), 1000, .inl f7)), (mo, .inr (12, mdG r 0 tm (nI sn) (nI tx) (nI lz) (nI az) (nI na) (nI nt) (nI nr) mw ml mk dq))] := hD
          refine lv_if_eq (tgt := 45) hx hb d_Md_put_33 (by decide) (fun hn9 => absurd hn9 (by decide)) (fun hc79 => ?_)
          refine lv_aload_n hx hb d_Md_put_36 rfl (lv_at hl 0 rfl) ?_
          refine lv_iload_n hx hb d_Md_put_37 rfl (lv_at hl 1 rfl) ?_
          refine lv_iload_n hx hb d_Md_put_38 rfl (lv_at hl 2 rfl) ?_
          by_cases hrm : sn + yn + 2 ≤ 1000
          · skip
            have hPc := hP.sub (ws' := [(mo, .inr (12, mdG r 0 tm (nI sn) (nI tx) (nI lz) (nI az) (nI na) (nI nt) (nI nr) mw ml mk dq)), (r 7, .inl ((cT 0), 1000, .inl f7))]) [1, 0] rfl
            have hDc := hD.sub (ws' := [(mo, .inr (12, mdG r 0 tm (nI sn) (nI tx) (nI lz) (nI az) (nI na) (nI nt) (nI nr) mw ml mk dq)), (r 7, .inl ((cT 0), 1000, .inl f7))]) [1, 0] (by decide) rfl
            have hFc := va_free (wc := [(mo, .inr (12, mdG r 0 tm (nI sn) (nI tx) (nI lz) (nI az) (nI na) (nI nt) (nI nr) mw ml mk dq)), (r 7, .inl ((cT 0), 1000, .inl f7))]) hD hS hA [1, 0] rfl
            refine va_calli (va_runV (C := "DoorServerModel") (As := [.int x, .int (nI yn)]) (rest := []) ⟨hx, hb, hml, hown, hg⟩ (m_opens1 l dC dI cT H.size mo r 0 tm sn tx lz az na nt nr mw ml mk dq f7 x yn (hrm) (by first | assumption | omega)) (cwV 2 hg (gI (List.forall_mem_append.mpr ⟨List.forall_mem_cons.mpr ⟨k_1188, List.forall_mem_cons.mpr ⟨k_1190, List.forall_mem_cons.mpr ⟨(big_sel (q := y_Md_opens) (n := 45) (by decide +kernel)), List.forall_mem_cons.mpr ⟨k_13, fun _ h => absurd h List.not_mem_nil⟩⟩⟩⟩, List.forall_mem_cons.mpr ⟨k_1191, fun _ h => h⟩⟩)) rfl rfl rfl (by decide +kernel) ⟨Nat.le_of_ble_eq_true rfl, Nat.le_of_ble_eq_true rfl⟩) ⟨fun a U g mk q => by obtain ⟨q0, q1, qP, qK, qD⟩ := q; exact ⟨q0, q1, qP, va_K.moved (u := U) (U := U.calling g mk a) (Vm.Alike.refl U.vm) qK, qD⟩, va_recv (q0 := 1) (ci := 12) hK hP rfl rfl, fun U hU hW => ⟨rfl, by rw [hU], by rw [hU]; exact hPc, va_K.moved hW.alike hK, hDc.weaken (fun _ _ _ _ => trivial)⟩⟩ rfl rfl hl.1 rfl (lv_room (Nat.le_of_ble_eq_true rfl)) d_Md_put_39 ⟨Nat.le_of_ble_eq_true rfl, Nat.le_of_ble_eq_true rfl⟩) hS (fun q _ h => hFc q h) hFc (fun rv9 u t H1 locs ht hvm hw hB hz1 hk1 hS => ?_)
            obtain ⟨g7_80, rfl⟩ : ∃ z, z = u := ⟨_, rfl⟩
            try dsimp only at hw hB
            obtain ⟨hP1, hK1, hD1⟩ := hB
            rw [ht] at hP1
            obtain ⟨rfl, hw⟩ := hw
            obtain ⟨hP, hD⟩ := va_join (wr := []) (w1 := [(mo, .inr (12, mdG r 0 tm (nI (sn + 2)) (nI tx) (nI lz) (nI az) (nI na) (nI nt) (nI nr) mw ml mk dq)), (r 7, .inl ((cT 0), 1000, .inl g7_80))]) hP hD [1, 0] [] rfl rfl (by decide) (by decide) hk1 hFc hP1 hD1
            have hw81 := hw
            clear hPc hDc hFc hz1 hk1 hP1 hK1 hD1
            generalize H1 = H at hP hS ⊢
            have hP : va_P (dC, dI) vcl [(mo, .inr (12, mdG r 0 tm (nI (sn + 2)) (nI tx) (nI lz) (nI az) (nI na) (nI nt) (nI nr) mw ml mk dq)), (r 7, .inl ((cT 0), 1000, .inl g7_80))] H := hP
            have hD : va_D A [(mo, .inr (12, mdG r 0 tm (nI (sn + 2)) (nI tx) (nI lz) (nI az) (nI na) (nI nt) (nI nr) mw ml mk dq)), (r 7, .inl ((cT 0), 1000, .inl g7_80))] := hD
            have k82 := hw81
            refine lv_if_ne (tgt := 47) hx hb d_Md_put_42 (by decide) (fun hc83 => ?_) (fun hn9 => absurd hn9 (by decide))
            refine lv_iconst (v := 0) hx hb d_Md_put_47 (by decide) ?_
            refine lv_istore (lv' := [(4, .int 0), (0, .ref mo), (1, .int x), (2, .int (nI yn)), (3, .int z9)]) hx hb d_Md_put_48 hl (by decide) rfl (fun ls hl => ?_)
            have hl := lv_sub hl [0, 1, 2, 3, 4] (show _ = [(4, .int 0), (0, .ref mo), (1, .int x), (2, .int (nI yn)), (3, .int z9)] from rfl)
            have L85 : ∀ (Q : State → Prop) (exit : ∀ (g7_84 : Nat → Int32) (H : Heap) (locs : List Loc) (ls : Array Slot), (AB g7_84) → va_P (dC, dI) vcl [(mo, .inr (12, mdG r 0 tm (nI (sn + 2 + yn)) (nI tx) (nI lz) (nI az) (nI na) (nI nt) (nI nr) mw ml mk dq)), (r 7, .inl ((cT 0), 1000, .inl g7_84))] H → va_D A [(mo, .inr (12, mdG r 0 tm (nI (sn + 2 + yn)) (nI tx) (nI lz) (nI az) (nI na) (nI nt) (nI nr) mw ml mk dq)), (r 7, .inl ((cT 0), 1000, .inl g7_84))] → va_S A s.heap H locs → lv_has ls 5 [(4, .int (nI yn)), (0, .ref mo), (1, .int x), (2, .int (nI yn)), (3, .int z9)] → W p l e ({ frames := 2, cells := 0, slots := 0, locals := 45 } : Room) s m args below meth c H locs 0 0 Q (F0 m 70 ls [])) (j8 i : Nat) (g7_84 : Nat → Int32) (H : Heap) (locs : List Loc) (ls : Array Slot), i + j8 = yn → (AB g7_84) → va_P (dC, dI) vcl [(mo, .inr (12, mdG r 0 tm (nI (sn + 2 + i)) (nI tx) (nI lz) (nI az) (nI na) (nI nt) (nI nr) mw ml mk dq)), (r 7, .inl ((cT 0), 1000, .inl g7_84))] H → va_D A [(mo, .inr (12, mdG r 0 tm (nI (sn + 2 + i)) (nI tx) (nI lz) (nI az) (nI na) (nI nt) (nI nr) mw ml mk dq)), (r 7, .inl ((cT 0), 1000, .inl g7_84))] → va_S A s.heap H locs → lv_has ls 5 [(4, .int (nI i)), (0, .ref mo), (1, .int x), (2, .int (nI yn)), (3, .int z9)] → W p l e ({ frames := 2, cells := 0, slots := 0, locals := 45 } : Room) s m args below meth c H locs 0 0 Q (F0 m 50 ls []) := by
              intro Q exit j8
              induction j8 with
              | zero => 
                intro i g7_84 H locs ls hij hab hP hD hS hl
                have hij : yn = i := by omega
                refine lv_iload hx hb d_Md_put_50 (lv_at hl 0 rfl) ?_
                refine lv_iload_n hx hb d_Md_put_52 rfl (lv_at hl 3 rfl) ?_
                refine lv_icmp_ge (tgt := 70) hx hb d_Md_put_53 (by decide) (fun hc86 => ?_) (fun hn9 => absurd (nI_le (by omega) (by omega)) hn9)
                subst hij
                exact exit g7_84 _ _ _ hab hP hD hS hl
              | succ j8 ih => 
                intro i g7_84 H locs ls hij hab hP hD hS hl
                have hlt : i < yn := by omega
                have hlti := hlt
                refine lv_iload hx hb d_Md_put_50 (lv_at hl 0 rfl) ?_
                refine lv_iload_n hx hb d_Md_put_52 rfl (lv_at hl 3 rfl) ?_
                refine lv_icmp_ge (tgt := 70) hx hb d_Md_put_53 (by decide) (fun hn9 => absurd hn9 (nI_ge (by omega) (by omega))) (fun hc87 => ?_)
                refine lv_aload_n hx hb d_Md_put_56 rfl (lv_at hl 1 rfl) ?_
                refine lv_iload_n hx hb d_Md_put_57 rfl (lv_at hl 4 rfl) ?_
                refine lv_iload hx hb d_Md_put_58 (lv_at hl 0 rfl) ?_
                refine lv_iadd hx hb d_Md_put_60 ?_
                have hPc := hP.sub (ws' := [(mo, .inr (12, mdG r 0 tm (nI (sn + 2 + i)) (nI tx) (nI lz) (nI az) (nI na) (nI nt) (nI nr) mw ml mk dq)), (r 7, .inl ((cT 0), 1000, .inl g7_84))]) [0, 1] rfl
                have hDc := hD.sub (ws' := [(mo, .inr (12, mdG r 0 tm (nI (sn + 2 + i)) (nI tx) (nI lz) (nI az) (nI na) (nI nt) (nI nr) mw ml mk dq)), (r 7, .inl ((cT 0), 1000, .inl g7_84))]) [0, 1] (by decide) rfl
                have hFc := va_free (wc := [(mo, .inr (12, mdG r 0 tm (nI (sn + 2 + i)) (nI tx) (nI lz) (nI az) (nI na) (nI nt) (nI nr) mw ml mk dq)), (r 7, .inl ((cT 0), 1000, .inl g7_84))]) hD hS hA [0, 1] rfl
                refine va_callv (va_runV (C := "DoorServerModel") (As := [.int (z9 + (nI i))]) (rest := []) ⟨hx, hb, hml, hown, hg⟩ (m_add l dC dI cT H.size mo r 0 tm (sn + 2 + i) tx lz az na nt nr mw ml mk dq g7_84 (z9 + (nI i)) (by first | assumption | omega) (by first | assumption | omega)) (cwV 1 hg (gI (List.forall_mem_append.mpr ⟨List.forall_mem_cons.mpr ⟨k_1015, List.forall_mem_cons.mpr ⟨k_1017, List.forall_mem_cons.mpr ⟨(big_sel (q := y_Md_add) (n := 45) (by decide +kernel)), List.forall_mem_cons.mpr ⟨k_13, fun _ h => absurd h List.not_mem_nil⟩⟩⟩⟩, List.forall_mem_cons.mpr ⟨k_1018, fun _ h => h⟩⟩)) rfl rfl rfl (by decide +kernel) ⟨Nat.le_of_ble_eq_true rfl, Nat.le_of_ble_eq_true rfl⟩) ⟨fun a U g mk q => by obtain ⟨q0, q1, qP, qK, qD⟩ := q; exact ⟨q0, q1, qP, va_K.moved (u := U) (U := U.calling g mk a) (Vm.Alike.refl U.vm) qK, qD⟩, va_recv (q0 := 0) (ci := 12) hK hP rfl rfl, fun U hU hW => ⟨rfl, by rw [hU], by rw [hU]; exact hPc, va_K.moved hW.alike hK, hDc.weaken (fun _ _ _ _ => trivial)⟩⟩ rfl rfl hl.1 rfl (lv_room (Nat.le_of_ble_eq_true rfl)) d_Md_put_61 ⟨Nat.le_of_ble_eq_true rfl, Nat.le_of_ble_eq_true rfl⟩) hS (fun q _ h => hFc q h) hFc (fun u t H1 locs ht hvm hw hB hz1 hk1 hS => ?_)
                obtain ⟨g7_88, rfl⟩ : ∃ z, z = u := ⟨_, rfl⟩
                try dsimp only at hw hB
                obtain ⟨hP1, hK1, hD1⟩ := hB
                rw [ht] at hP1
                obtain ⟨hP, hD⟩ := va_join (wr := []) (w1 := [(mo, .inr (12, mdG r 0 tm (nI ((sn + 2 + i) + 1)) (nI tx) (nI lz) (nI az) (nI na) (nI nt) (nI nr) mw ml mk dq)), (r 7, .inl ((cT 0), 1000, .inl g7_88))]) hP hD [0, 1] [] rfl rfl (by decide) (by decide) hk1 hFc hP1 hD1
                have hw89 := hw
                clear hPc hDc hFc hz1 hk1 hP1 hK1 hD1
                generalize H1 = H at hP hS ⊢
                have hP : va_P (dC, dI) vcl [(mo, .inr (12, mdG r 0 tm (nI ((sn + 2 + i) + 1)) (nI tx) (nI lz) (nI az) (nI na) (nI nt) (nI nr) mw ml mk dq)), (r 7, .inl ((cT 0), 1000, .inl g7_88))] H := hP
                have hD : va_D A [(mo, .inr (12, mdG r 0 tm (nI ((sn + 2 + i) + 1)) (nI tx) (nI lz) (nI az) (nI na) (nI nt) (nI nr) mw ml mk dq)), (r 7, .inl ((cT 0), 1000, .inl g7_88))] := hD
                have k90 := hw89
                refine lv_iinc (k := 0) (v := nI (i + 1)) (lv' := [(4, .int (nI (i + 1))), (0, .ref mo), (1, .int x), (2, .int (nI yn)), (3, .int z9)]) hx hb d_Md_put_64 hl rfl (nI_1 i) (by decide) rfl (fun ls hl => ?_)
                refine lv_goto (tgt := 50) hx hb d_Md_put_67 (by decide) ?_
                have hl := lv_sub hl [0, 1, 2, 3, 4] (show _ = [(4, .int (nI (i + 1))), (0, .ref mo), (1, .int x), (2, .int (nI yn)), (3, .int z9)] from rfl)
                exact ih (i + 1) _ _ _ _ (by omega) (by first | assumption | omega) hP hD hS hl
            refine L85 _ (fun g7_84 H locs ls hab hP hD hS hl => ?_) (yn - 0) 0 g7_80 H _ ls (by omega) (by first | assumption | omega) hP hD hS hl
            refine lv_aload_n hx hb d_Md_put_70 rfl (lv_at hl 1 rfl) ?_
            have hPc := hP.sub (ws' := [(mo, .inr (12, mdG r 0 tm (nI (sn + 2 + yn)) (nI tx) (nI lz) (nI az) (nI na) (nI nt) (nI nr) mw ml mk dq)), (r 7, .inl ((cT 0), 1000, .inl g7_84))]) [0, 1] rfl
            have hDc := hD.sub (ws' := [(mo, .inr (12, mdG r 0 tm (nI (sn + 2 + yn)) (nI tx) (nI lz) (nI az) (nI na) (nI nt) (nI nr) mw ml mk dq)), (r 7, .inl ((cT 0), 1000, .inl g7_84))]) [0, 1] (by decide) rfl
            have hFc := va_free (wc := [(mo, .inr (12, mdG r 0 tm (nI (sn + 2 + yn)) (nI tx) (nI lz) (nI az) (nI na) (nI nt) (nI nr) mw ml mk dq)), (r 7, .inl ((cT 0), 1000, .inl g7_84))]) hD hS hA [0, 1] rfl
            refine va_calli (va_runV (C := "DoorServerModel") (As := []) (rest := []) ⟨hx, hb, hml, hown, hg⟩ (m_closes l dC dI cT H.size mo r 0 tm (sn + 2 + yn) tx lz az na nt nr mw ml mk dq g7_84 (by first | assumption | omega) (by first | assumption | omega)) (cwV 0 hg (gI (List.forall_mem_append.mpr ⟨List.forall_mem_cons.mpr ⟨k_1192, List.forall_mem_cons.mpr ⟨k_1194, List.forall_mem_cons.mpr ⟨(big_sel (q := y_Md_closes) (n := 45) (by decide +kernel)), List.forall_mem_cons.mpr ⟨k_13, fun _ h => absurd h List.not_mem_nil⟩⟩⟩⟩, List.forall_mem_cons.mpr ⟨k_1195, fun _ h => h⟩⟩)) rfl rfl rfl (by decide +kernel) ⟨Nat.le_of_ble_eq_true rfl, Nat.le_of_ble_eq_true rfl⟩) ⟨fun a U g mk q => by obtain ⟨q0, q1, qP, qK, qD⟩ := q; exact ⟨q0, q1, qP, va_K.moved (u := U) (U := U.calling g mk a) (Vm.Alike.refl U.vm) qK, qD⟩, va_recv (q0 := 0) (ci := 12) hK hP rfl rfl, fun U hU hW => ⟨rfl, by rw [hU], by rw [hU]; exact hPc, va_K.moved hW.alike hK, hDc.weaken (fun _ _ _ _ => trivial)⟩⟩ rfl rfl hl.1 rfl (lv_room (Nat.le_of_ble_eq_true rfl)) d_Md_put_71 ⟨Nat.le_of_ble_eq_true rfl, Nat.le_of_ble_eq_true rfl⟩) hS (fun q _ h => hFc q h) hFc (fun rv9 u t H1 locs ht hvm hw hB hz1 hk1 hS => ?_)
            obtain ⟨g7_91, rfl⟩ : ∃ z, z = u := ⟨_, rfl⟩
            try dsimp only at hw hB
            obtain ⟨hP1, hK1, hD1⟩ := hB
            rw [ht] at hP1
            obtain ⟨rfl, hw⟩ := hw
            obtain ⟨hP, hD⟩ := va_join (wr := []) (w1 := [(mo, .inr (12, mdG r 0 tm (nI (sn + 2 + yn)) (nI tx) (nI lz) (nI az) (nI na) (nI nt) (nI nr) mw ml mk dq)), (r 7, .inl ((cT 0), 1000, .inl g7_91))]) hP hD [0, 1] [] rfl rfl (by decide) (by decide) hk1 hFc hP1 hD1
            have hw92 := hw
            clear hPc hDc hFc hz1 hk1 hP1 hK1 hD1
            generalize H1 = H at hP hS ⊢
            have hP : va_P (dC, dI) vcl [(mo, .inr (12, mdG r 0 tm (nI (sn + 2 + yn)) (nI tx) (nI lz) (nI az) (nI na) (nI nt) (nI nr) mw ml mk dq)), (r 7, .inl ((cT 0), 1000, .inl g7_91))] H := hP
            have hD : va_D A [(mo, .inr (12, mdG r 0 tm (nI (sn + 2 + yn)) (nI tx) (nI lz) (nI az) (nI na) (nI nt) (nI nr) mw ml mk dq)), (r 7, .inl ((cT 0), 1000, .inl g7_91))] := hD
            have k93 := hw92
            have hP9 := hP.sub (ws' := [(mo, .inr (12, mdG r 0 tm (nI (sn + 2 + yn)) (nI tx) (nI lz) (nI az) (nI na) (nI nt) (nI nr) mw ml mk dq)), (r 7, .inl ((cT 0), 1000, .inl g7_91))]) [0, 1] rfl
            have hD9 := hD.sub (ws' := [(mo, .inr (12, mdG r 0 tm (nI (sn + 2 + yn)) (nI tx) (nI lz) (nI az) (nI na) (nI nt) (nI nr) mw ml mk dq)), (r 7, .inl ((cT 0), 1000, .inl g7_91))]) [0, 1] (by decide) rfl
            exact W.iret (v := nI (sn + 2 + yn)) hx hb hr (fun t ht hW => ⟨⟨_, ⟨g7_91, 0, sn + 2 + yn⟩, rfl, ⟨by first | assumption | omega, by first | assumption | omega, by first | assumption | omega⟩, by rw [ht]; exact hP9, va_K.moved hW.alike hK, hD9⟩, hS.F ht⟩) hS.2.2 d_Md_put_74
          · skip
            have hrn : 1000 < sn + yn + 2 := by omega
            have hPc := hP.sub (ws' := [(mo, .inr (12, mdG r 0 tm (nI sn) (nI tx) (nI lz) (nI az) (nI na) (nI nt) (nI nr) mw ml mk dq))]) [1] rfl
            have hDc := hD.sub (ws' := [(mo, .inr (12, mdG r 0 tm (nI sn) (nI tx) (nI lz) (nI az) (nI na) (nI nt) (nI nr) mw ml mk dq))]) [1] (by decide) rfl
            have hFc := va_free (wc := [(mo, .inr (12, mdG r 0 tm (nI sn) (nI tx) (nI lz) (nI az) (nI na) (nI nt) (nI nr) mw ml mk dq))]) hD hS hA [1] rfl
            refine va_calli (va_runV (C := "DoorServerModel") (As := [.int x, .int (nI yn)]) (rest := []) ⟨hx, hb, hml, hown, hg⟩ (m_opens0 l dC dI cT H.size mo r 0 tm sn tx lz az na nt nr mw ml mk dq x yn (by first | assumption | omega) (by first | assumption | omega) (by first | assumption | omega)) (cwV 2 hg (gI (List.forall_mem_append.mpr ⟨List.forall_mem_cons.mpr ⟨k_1188, List.forall_mem_cons.mpr ⟨k_1190, List.forall_mem_cons.mpr ⟨(big_sel (q := y_Md_opens) (n := 45) (by decide +kernel)), List.forall_mem_cons.mpr ⟨k_13, fun _ h => absurd h List.not_mem_nil⟩⟩⟩⟩, List.forall_mem_cons.mpr ⟨k_1191, fun _ h => h⟩⟩)) rfl rfl rfl (by decide +kernel) ⟨Nat.le_of_ble_eq_true rfl, Nat.le_of_ble_eq_true rfl⟩) ⟨fun a U g mk q => by obtain ⟨q0, q1, qP, qK, qD⟩ := q; exact ⟨q0, q1, qP, va_K.moved (u := U) (U := U.calling g mk a) (Vm.Alike.refl U.vm) qK, qD⟩, va_recv (q0 := 1) (ci := 12) hK hP rfl rfl, fun U hU hW => ⟨rfl, by rw [hU], by rw [hU]; exact hPc, va_K.moved hW.alike hK, hDc.weaken (fun _ _ _ _ => trivial)⟩⟩ rfl rfl hl.1 rfl (lv_room (Nat.le_of_ble_eq_true rfl)) d_Md_put_39 ⟨Nat.le_of_ble_eq_true rfl, Nat.le_of_ble_eq_true rfl⟩) hS (fun q _ h => hFc q h) hFc (fun rv9 u t H1 locs ht hvm hw hB hz1 hk1 hS => ?_)
            try dsimp only at hw hB
            obtain ⟨hP1, hK1, hD1⟩ := hB
            rw [ht] at hP1
            obtain ⟨rfl, hw⟩ := hw
            obtain ⟨hP, hD⟩ := va_join (wr := [(r 7, .inl ((cT 0), 1000, .inl f7))]) (w1 := [(mo, .inr (12, mdG r 2 tm (nI sn) (nI tx) (nI lz) (nI az) (nI na) (nI nt) (nI nr) mw ml mk dq))]) hP hD [1] [0] rfl rfl (by decide) (by decide) hk1 hFc hP1 hD1
            have hw94 := hw
            clear hPc hDc hFc hz1 hk1 hP1 hK1 hD1
            generalize H1 = H at hP hS ⊢
            have hP : va_P (dC, dI) vcl [(r 7, .inl ((cT 0), 1000, .inl f7)), (mo, .inr (12, mdG r 2 tm (nI sn) (nI tx) (nI lz) (nI az) (nI na) (nI nt) (nI nr) mw ml mk dq))] H := hP
            have hD : va_D A [(r 7, .inl ((cT 0), 1000, .inl f7)), (mo, .inr (12, mdG r 2 tm (nI sn) (nI tx) (nI lz) (nI az) (nI na) (nI nt) (nI nr) mw ml mk dq))] := hD
            refine lv_if_ne (tgt := 47) hx hb d_Md_put_42 (by decide) (fun hn9 => absurd hn9 (by decide)) (fun hc95 => ?_)
            refine lv_iconst (v := 0) hx hb d_Md_put_45 (by decide) ?_
            have hP9 := hP.sub (ws' := [(mo, .inr (12, mdG r 2 tm (nI sn) (nI tx) (nI lz) (nI az) (nI na) (nI nt) (nI nr) mw ml mk dq)), (r 7, .inl ((cT 0), 1000, .inl f7))]) [1, 0] rfl
            have hD9 := hD.sub (ws' := [(mo, .inr (12, mdG r 2 tm (nI sn) (nI tx) (nI lz) (nI az) (nI na) (nI nt) (nI nr) mw ml mk dq)), (r 7, .inl ((cT 0), 1000, .inl f7))]) [1, 0] (by decide) rfl
            exact W.iret (v := 0) hx hb hr (fun t ht hW => ⟨⟨_, ⟨f7, 2, sn⟩, rfl, ⟨by first | assumption | omega, by first | assumption | omega, by first | assumption | omega⟩, by rw [ht]; exact hP9, va_K.moved hW.alike hK, hD9⟩, hS.F ht⟩) hS.2.2 d_Md_put_46
set_option maxHeartbeats 4000000 in
set_option maxRecDepth 100000 in
/-- number -/
theorem u_number (l : Launch) (dC : Nat → ClassId) (dI : Nat → Nat → Nat) (cT : Nat → ClassId) (sz : Nat) (mo : Nat) (r : Nat → Nat) (cd : Int32) (tm : Int32) (sn : Nat) (tx : Nat) (lz : Nat) (az : Nat) (na : Nat) (nt : Nat) (nr : Nat) (mw : Int32) (ml : Int32) (mk : Int64) (dq : Int64) (f7 : Nat → Int32) (x : Int32) (y : Int32) (h20 : 20 ≤ sn) (hsn : sn ≤ 1000) (h7 : AB f7) : Met l y_Md_number (Cond.code y_Md_number b_Md_number 4 (Option.some Jvm.ClassFile.FieldType.int) :: BIG) ({ frames := 2, cells := 0, slots := 0, locals := 45 }) (va_Pc [.ref mo, .int x, .int y] (fun U => U.heap.size = sz ∧ va_P (dC, dI) vcl [(mo, .inr (12, mdG r cd tm (nI sn) (nI tx) (nI lz) (nI az) (nI na) (nI nt) (nI nr) mw ml mk dq)), (r 7, .inl ((cT 0), 1000, .inl f7))] U.heap ∧ va_K (dC, dI) vcl (tyL cT) U ∧ va_D (fun _ => True) [(mo, .inr (12, mdG r cd tm (nI sn) (nI tx) (nI lz) (nI az) (nI na) (nI nt) (nI nr) mw ml mk dq)), (r 7, .inl ((cT 0), 1000, .inl f7))])) (va_Qi (S := (Nat → Int32) × Int32 × Nat) (fun rv9 u => match u with | (g7, cd2, sn2) => (20 ≤ sn2) ∧ (sn2 ≤ 1000) ∧ (AB g7)) (fun u t => match u with | (g7, cd2, sn2) => va_P (dC, dI) vcl [(mo, .inr (12, mdG r cd2 tm (nI sn2) (nI tx) (nI lz) (nI az) (nI na) (nI nt) (nI nr) mw ml mk dq)), (r 7, .inl ((cT 0), 1000, .inl g7))] t.heap ∧ va_K (dC, dI) vcl (tyL cT) t ∧ va_D (va_A [(mo, .inr (12, mdG r cd tm (nI sn) (nI tx) (nI lz) (nI az) (nI na) (nI nt) (nI nr) mw ml mk dq)), (r 7, .inl ((cT 0), 1000, .inl f7))] sz) [(mo, .inr (12, mdG r cd2 tm (nI sn2) (nI tx) (nI lz) (nI az) (nI na) (nI nt) (nI nr) mw ml mk dq)), (r 7, .inl ((cT 0), 1000, .inl g7))]) (va_A [(mo, .inr (12, mdG r cd tm (nI sn) (nI tx) (nI lz) (nI az) (nI na) (nI nt) (nI nr) mw ml mk dq)), (r 7, .inl ((cT 0), 1000, .inl f7))] sz)) 0 0 (va_A [(mo, .inr (12, mdG r cd tm (nI sn) (nI tx) (nI lz) (nI az) (nI na) (nI nt) (nI nr) mw ml mk dq)), (r 7, .inl ((cT 0), 1000, .inl f7))] sz) := by
  refine Met.ofW (cc := b_Md_number) (maxL := 4) (ret := (Option.some Jvm.ClassFile.FieldType.int)) (by decide) rfl ?_
  intro p e s m args below meth c s₁ B hml hv
  obtain ⟨hargs, hsz, hP, hK, hD0⟩ := hv
  have hx := B.exec
  have hb := B.bytes
  have hr := B.returns
  have hts := atoms_spec (ws := (Cond.code y_Md_number b_Md_number 4 (Option.some Jvm.ClassFile.FieldType.int) :: BIG)) B.pre
  have hg : ∀ w ∈ BIG, w.before _ s = true := fun w h => hts w (List.mem_cons_of_mem _ h)
  have hown : s.vm.findClass "DoorServerModel" = some m.cls := findClass_of_methodNamed B.named
  have hlocks := B.notSynchronized
  subst hsz
  have hD := hD0.self (sz := s.heap.size)
  generalize hAe : va_A [(mo, .inr (12, mdG r cd tm (nI sn) (nI tx) (nI lz) (nI az) (nI na) (nI nt) (nI nr) mw ml mk dq)), (r 7, .inl ((cT 0), 1000, .inl f7))] s.heap.size = A at hD ⊢
  have hA : ∀ q : Nat, s.heap.size ≤ q → A q := fun q h => by rw [← hAe]; exact Or.inr h
  have hS : va_S A s.heap s.heap [] := va_S.rf
  have hl := lv_entry ([.ref mo, .int x, .int y]) (n := 4) (Nat.le_of_ble_eq_true rfl)
  refine W.eq (g2 := entryFrame m (List.toArray [.ref mo, .int x, .int y]) 4) (by rw [hargs]) ?_
  rw [lg_entry_eq]
  generalize (lg_sl ([.ref mo, .int x, .int y]) ++ List.replicate (4 - (lg_sl ([.ref mo, .int x, .int y])).length) Slot.unset).toArray = ls at hl ⊢
  have hl : lv_has ls 4 [(0, .ref mo), (1, .int x), (2, .int y)] := hl
  change W p l e ({ frames := 2, cells := 0, slots := 0, locals := 45 } : Room) s m args below meth c s.heap [] 0 0 _ _
  have hP : va_P (dC, dI) vcl [(mo, .inr (12, mdG r cd tm (nI sn) (nI tx) (nI lz) (nI az) (nI na) (nI nt) (nI nr) mw ml mk dq)), (r 7, .inl ((cT 0), 1000, .inl f7))] s.heap := hP
  refine lv_aload_n hx hb d_Md_number_0 rfl (lv_at hl 0 rfl) ?_
  refine lv_iload_n hx hb d_Md_number_1 rfl (lv_at hl 1 rfl) ?_
  have hPc := hP.sub (ws' := []) [] rfl
  have hDc := hD.sub (ws' := []) [] (by decide) rfl
  have hFc := va_free (wc := []) hD hS hA [] rfl
  refine va_calli (va_runS (As := [.int x]) (rest := [.ref mo]) ⟨hx, hb, hml, hown, hg⟩ (m_byteT l dC dI cT s.heap.size x ) (va_cwS 1 hg (gI (List.forall_mem_append.mpr ⟨List.forall_mem_cons.mpr ⟨k_1181, List.forall_mem_cons.mpr ⟨k_1182, List.forall_mem_cons.mpr ⟨k_13, fun _ h => absurd h List.not_mem_nil⟩⟩⟩, List.forall_mem_cons.mpr ⟨k_1183, fun _ h => h⟩⟩)) rfl rfl rfl (by decide +kernel) ⟨Nat.le_of_ble_eq_true rfl, Nat.le_of_ble_eq_true rfl⟩) ⟨fun a U g mk q => by obtain ⟨q0, q1, qP, qK, qD⟩ := q; exact ⟨q0, q1, qP, va_K.moved (u := U) (U := U.calling g mk a) (Vm.Alike.refl U.vm) qK, qD⟩, fun U hU hW => ⟨rfl, by rw [hU], by rw [hU]; exact hPc, va_K.moved hW.alike hK, hDc.weaken (fun _ _ _ _ => trivial)⟩⟩ rfl rfl hl.1 rfl (lv_room (Nat.le_of_ble_eq_true rfl)) d_Md_number_2 ⟨Nat.le_of_ble_eq_true rfl, Nat.le_of_ble_eq_true rfl⟩) hS (fun q _ h => hFc q h) hFc (fun rv9 u t H1 locs ht hvm hw hB hz1 hk1 hS => ?_)
  try dsimp only at hw hB
  obtain ⟨hP1, hK1, hD1⟩ := hB
  rw [ht] at hP1
  generalize rv9 = r96 at hw ⊢
  obtain ⟨hP, hD⟩ := va_join (wr := [(mo, .inr (12, mdG r cd tm (nI sn) (nI tx) (nI lz) (nI az) (nI na) (nI nt) (nI nr) mw ml mk dq)), (r 7, .inl ((cT 0), 1000, .inl f7))]) (w1 := []) hP hD [] [0, 1] rfl rfl (by decide) (by decide) hk1 hFc hP1 hD1
  have hw97 := hw
  clear hPc hDc hFc hz1 hk1 hP1 hK1 hD1
  generalize H1 = H at hP hS ⊢
  have hP : va_P (dC, dI) vcl [(mo, .inr (12, mdG r cd tm (nI sn) (nI tx) (nI lz) (nI az) (nI na) (nI nt) (nI nr) mw ml mk dq)), (r 7, .inl ((cT 0), 1000, .inl f7))] H := hP
  have hD : va_D A [(mo, .inr (12, mdG r cd tm (nI sn) (nI tx) (nI lz) (nI az) (nI na) (nI nt) (nI nr) mw ml mk dq)), (r 7, .inl ((cT 0), 1000, .inl f7))] := hD
  rcases hw97 with h8z | h8z
  · skip
    refine lv_topi (fun x99 e98 => ?_)
    obtain rfl : x99 = 0 := by rw [e98]; exact h8z
    have hPc := hP.sub (ws' := [(mo, .inr (12, mdG r cd tm (nI sn) (nI tx) (nI lz) (nI az) (nI na) (nI nt) (nI nr) mw ml mk dq))]) [0] rfl
    have hDc := hD.sub (ws' := [(mo, .inr (12, mdG r cd tm (nI sn) (nI tx) (nI lz) (nI az) (nI na) (nI nt) (nI nr) mw ml mk dq))]) [0] (by decide) rfl
    have hFc := va_free (wc := [(mo, .inr (12, mdG r cd tm (nI sn) (nI tx) (nI lz) (nI az) (nI na) (nI nt) (nI nr) mw ml mk dq))]) hD hS hA [0] rfl
    refine va_calli (va_runV (C := "DoorServerModel") (As := [.int 0]) (rest := []) ⟨hx, hb, hml, hown, hg⟩ (m_goes0 l dC dI cT H.size mo r cd tm sn tx lz az na nt nr mw ml mk dq ) (cwV 1 hg (gI (List.forall_mem_append.mpr ⟨List.forall_mem_cons.mpr ⟨k_1165, List.forall_mem_cons.mpr ⟨k_1167, List.forall_mem_cons.mpr ⟨(big_sel (q := y_Md_goes) (n := 45) (by decide +kernel)), List.forall_mem_cons.mpr ⟨k_13, fun _ h => absurd h List.not_mem_nil⟩⟩⟩⟩, List.forall_mem_cons.mpr ⟨k_1168, fun _ h => h⟩⟩)) rfl rfl rfl (by decide +kernel) ⟨Nat.le_of_ble_eq_true rfl, Nat.le_of_ble_eq_true rfl⟩) ⟨fun a U g mk q => by obtain ⟨q0, q1, qP, qK, qD⟩ := q; exact ⟨q0, q1, qP, va_K.moved (u := U) (U := U.calling g mk a) (Vm.Alike.refl U.vm) qK, qD⟩, va_recv (q0 := 0) (ci := 12) hK hP rfl rfl, fun U hU hW => ⟨rfl, by rw [hU], by rw [hU]; exact hPc, va_K.moved hW.alike hK, hDc.weaken (fun _ _ _ _ => trivial)⟩⟩ rfl rfl hl.1 rfl (lv_room (Nat.le_of_ble_eq_true rfl)) d_Md_number_5 ⟨Nat.le_of_ble_eq_true rfl, Nat.le_of_ble_eq_true rfl⟩) hS (fun q _ h => hFc q h) hFc (fun rv9 u t H1 locs ht hvm hw hB hz1 hk1 hS => ?_)
    try dsimp only at hw hB
    obtain ⟨hP1, hK1, hD1⟩ := hB
    rw [ht] at hP1
    obtain ⟨rfl, hw⟩ := hw
    obtain ⟨hP, hD⟩ := va_join (wr := [(r 7, .inl ((cT 0), 1000, .inl f7))]) (w1 := [(mo, .inr (12, mdG r 1 tm (nI sn) (nI tx) (nI lz) (nI az) (nI na) (nI nt) (nI nr) mw ml mk dq))]) hP hD [0] [1] rfl rfl (by decide) (by decide) hk1 hFc hP1 hD1
    have hw100 := hw
    clear hPc hDc hFc hz1 hk1 hP1 hK1 hD1
    generalize H1 = H at hP hS ⊢
    have hP : va_P (dC, dI) vcl [(r 7, .inl ((cT 0), 1000, .inl f7)), (mo, .inr (12, mdG r 1 tm (nI sn) (nI tx) (nI lz) (nI az) (nI na) (nI nt) (nI nr) mw ml mk dq))] H := hP
    have hD : va_D A [(r 7, .inl ((cT 0), 1000, .inl f7)), (mo, .inr (12, mdG r 1 tm (nI sn) (nI tx) (nI lz) (nI az) (nI na) (nI nt) (nI nr) mw ml mk dq))] := hD
    refine lv_if_eq (tgt := 20) hx hb d_Md_number_8 (by decide) (fun hc101 => ?_) (fun hn9 => absurd (by decide) hn9)
    refine lv_iconst (v := 0) hx hb d_Md_number_20 (by decide) ?_
    have hP9 := hP.sub (ws' := [(mo, .inr (12, mdG r 1 tm (nI sn) (nI tx) (nI lz) (nI az) (nI na) (nI nt) (nI nr) mw ml mk dq)), (r 7, .inl ((cT 0), 1000, .inl f7))]) [1, 0] rfl
    have hD9 := hD.sub (ws' := [(mo, .inr (12, mdG r 1 tm (nI sn) (nI tx) (nI lz) (nI az) (nI na) (nI nt) (nI nr) mw ml mk dq)), (r 7, .inl ((cT 0), 1000, .inl f7))]) [1, 0] (by decide) rfl
    exact W.iret (v := 0) hx hb hr (fun t ht hW => ⟨⟨_, ⟨f7, 1, sn⟩, rfl, ⟨by first | assumption | omega, by first | assumption | omega, by first | assumption | omega⟩, by rw [ht]; exact hP9, va_K.moved hW.alike hK, hD9⟩, hS.F ht⟩) hS.2.2 d_Md_number_21
  · skip
    refine lv_topi (fun x103 e102 => ?_)
    obtain rfl : x103 = 1 := by rw [e102]; exact h8z
    have hPc := hP.sub (ws' := [(mo, .inr (12, mdG r cd tm (nI sn) (nI tx) (nI lz) (nI az) (nI na) (nI nt) (nI nr) mw ml mk dq))]) [0] rfl
    have hDc := hD.sub (ws' := [(mo, .inr (12, mdG r cd tm (nI sn) (nI tx) (nI lz) (nI az) (nI na) (nI nt) (nI nr) mw ml mk dq))]) [0] (by decide) rfl
    have hFc := va_free (wc := [(mo, .inr (12, mdG r cd tm (nI sn) (nI tx) (nI lz) (nI az) (nI na) (nI nt) (nI nr) mw ml mk dq))]) hD hS hA [0] rfl
    refine va_calli (va_runV (C := "DoorServerModel") (As := [.int 1]) (rest := []) ⟨hx, hb, hml, hown, hg⟩ (m_goes1 l dC dI cT H.size mo r cd tm sn tx lz az na nt nr mw ml mk dq ) (cwV 1 hg (gI (List.forall_mem_append.mpr ⟨List.forall_mem_cons.mpr ⟨k_1165, List.forall_mem_cons.mpr ⟨k_1167, List.forall_mem_cons.mpr ⟨(big_sel (q := y_Md_goes) (n := 45) (by decide +kernel)), List.forall_mem_cons.mpr ⟨k_13, fun _ h => absurd h List.not_mem_nil⟩⟩⟩⟩, List.forall_mem_cons.mpr ⟨k_1168, fun _ h => h⟩⟩)) rfl rfl rfl (by decide +kernel) ⟨Nat.le_of_ble_eq_true rfl, Nat.le_of_ble_eq_true rfl⟩) ⟨fun a U g mk q => by obtain ⟨q0, q1, qP, qK, qD⟩ := q; exact ⟨q0, q1, qP, va_K.moved (u := U) (U := U.calling g mk a) (Vm.Alike.refl U.vm) qK, qD⟩, va_recv (q0 := 0) (ci := 12) hK hP rfl rfl, fun U hU hW => ⟨rfl, by rw [hU], by rw [hU]; exact hPc, va_K.moved hW.alike hK, hDc.weaken (fun _ _ _ _ => trivial)⟩⟩ rfl rfl hl.1 rfl (lv_room (Nat.le_of_ble_eq_true rfl)) d_Md_number_5 ⟨Nat.le_of_ble_eq_true rfl, Nat.le_of_ble_eq_true rfl⟩) hS (fun q _ h => hFc q h) hFc (fun rv9 u t H1 locs ht hvm hw hB hz1 hk1 hS => ?_)
    try dsimp only at hw hB
    obtain ⟨hP1, hK1, hD1⟩ := hB
    rw [ht] at hP1
    obtain ⟨rfl, hw⟩ := hw
    obtain ⟨hP, hD⟩ := va_join (wr := [(r 7, .inl ((cT 0), 1000, .inl f7))]) (w1 := [(mo, .inr (12, mdG r 0 tm (nI sn) (nI tx) (nI lz) (nI az) (nI na) (nI nt) (nI nr) mw ml mk dq))]) hP hD [0] [1] rfl rfl (by decide) (by decide) hk1 hFc hP1 hD1
    have hw104 := hw
    clear hPc hDc hFc hz1 hk1 hP1 hK1 hD1
    generalize H1 = H at hP hS ⊢
    have hP : va_P (dC, dI) vcl [(r 7, .inl ((cT 0), 1000, .inl f7)), (mo, .inr (12, mdG r 0 tm (nI sn) (nI tx) (nI lz) (nI az) (nI na) (nI nt) (nI nr) mw ml mk dq))] H := hP
    have hD : va_D A [(r 7, .inl ((cT 0), 1000, .inl f7)), (mo, .inr (12, mdG r 0 tm (nI sn) (nI tx) (nI lz) (nI az) (nI na) (nI nt) (nI nr) mw ml mk dq))] := hD
    refine lv_if_eq (tgt := 20) hx hb d_Md_number_8 (by decide) (fun hn9 => absurd hn9 (by decide)) (fun hc105 => ?_)
    refine lv_aload_n hx hb d_Md_number_11 rfl (lv_at hl 0 rfl) ?_
    refine lv_iload_n hx hb d_Md_number_12 rfl (lv_at hl 1 rfl) ?_
    refine lv_iconst (v := 4) hx hb d_Md_number_13 (by decide) ?_
    by_cases hrm : sn + 4 + 2 ≤ 1000
    refine lv_topi (fun x107 e106 => ?_)
    obtain rfl : x107 = nI 4 := by rw [e106]; rfl
    · skip
      have hPc := hP.sub (ws' := [(mo, .inr (12, mdG r 0 tm (nI sn) (nI tx) (nI lz) (nI az) (nI na) (nI nt) (nI nr) mw ml mk dq)), (r 7, .inl ((cT 0), 1000, .inl f7))]) [1, 0] rfl
      have hDc := hD.sub (ws' := [(mo, .inr (12, mdG r 0 tm (nI sn) (nI tx) (nI lz) (nI az) (nI na) (nI nt) (nI nr) mw ml mk dq)), (r 7, .inl ((cT 0), 1000, .inl f7))]) [1, 0] (by decide) rfl
      have hFc := va_free (wc := [(mo, .inr (12, mdG r 0 tm (nI sn) (nI tx) (nI lz) (nI az) (nI na) (nI nt) (nI nr) mw ml mk dq)), (r 7, .inl ((cT 0), 1000, .inl f7))]) hD hS hA [1, 0] rfl
      refine va_calli (va_runV (C := "DoorServerModel") (As := [.int x, .int (nI 4)]) (rest := []) ⟨hx, hb, hml, hown, hg⟩ (m_opens1 l dC dI cT H.size mo r 0 tm sn tx lz az na nt nr mw ml mk dq f7 x 4 (hrm) (by first | assumption | omega)) (cwV 2 hg (gI (List.forall_mem_append.mpr ⟨List.forall_mem_cons.mpr ⟨k_1188, List.forall_mem_cons.mpr ⟨k_1190, List.forall_mem_cons.mpr ⟨(big_sel (q := y_Md_opens) (n := 45) (by decide +kernel)), List.forall_mem_cons.mpr ⟨k_13, fun _ h => absurd h List.not_mem_nil⟩⟩⟩⟩, List.forall_mem_cons.mpr ⟨k_1191, fun _ h => h⟩⟩)) rfl rfl rfl (by decide +kernel) ⟨Nat.le_of_ble_eq_true rfl, Nat.le_of_ble_eq_true rfl⟩) ⟨fun a U g mk q => by obtain ⟨q0, q1, qP, qK, qD⟩ := q; exact ⟨q0, q1, qP, va_K.moved (u := U) (U := U.calling g mk a) (Vm.Alike.refl U.vm) qK, qD⟩, va_recv (q0 := 1) (ci := 12) hK hP rfl rfl, fun U hU hW => ⟨rfl, by rw [hU], by rw [hU]; exact hPc, va_K.moved hW.alike hK, hDc.weaken (fun _ _ _ _ => trivial)⟩⟩ rfl rfl hl.1 rfl (lv_room (Nat.le_of_ble_eq_true rfl)) d_Md_number_14 ⟨Nat.le_of_ble_eq_true rfl, Nat.le_of_ble_eq_true rfl⟩) hS (fun q _ h => hFc q h) hFc (fun rv9 u t H1 locs ht hvm hw hB hz1 hk1 hS => ?_)
      obtain ⟨g7_108, rfl⟩ : ∃ z, z = u := ⟨_, rfl⟩
      try dsimp only at hw hB
      obtain ⟨hP1, hK1, hD1⟩ := hB
      rw [ht] at hP1
      obtain ⟨rfl, hw⟩ := hw
      obtain ⟨hP, hD⟩ := va_join (wr := []) (w1 := [(mo, .inr (12, mdG r 0 tm (nI (sn + 2)) (nI tx) (nI lz) (nI az) (nI na) (nI nt) (nI nr) mw ml mk dq)), (r 7, .inl ((cT 0), 1000, .inl g7_108))]) hP hD [1, 0] [] rfl rfl (by decide) (by decide) hk1 hFc hP1 hD1
      have hw109 := hw
      clear hPc hDc hFc hz1 hk1 hP1 hK1 hD1
      generalize H1 = H at hP hS ⊢
      have hP : va_P (dC, dI) vcl [(mo, .inr (12, mdG r 0 tm (nI (sn + 2)) (nI tx) (nI lz) (nI az) (nI na) (nI nt) (nI nr) mw ml mk dq)), (r 7, .inl ((cT 0), 1000, .inl g7_108))] H := hP
      have hD : va_D A [(mo, .inr (12, mdG r 0 tm (nI (sn + 2)) (nI tx) (nI lz) (nI az) (nI na) (nI nt) (nI nr) mw ml mk dq)), (r 7, .inl ((cT 0), 1000, .inl g7_108))] := hD
      have k110 := hw109
      refine lv_if_ne (tgt := 22) hx hb d_Md_number_17 (by decide) (fun hc111 => ?_) (fun hn9 => absurd hn9 (by decide))
      refine lv_bipush (v := 24) hx hb d_Md_number_22 (by decide) ?_
      refine lv_istore_n (lv' := [(3, .int 24), (0, .ref mo), (1, .int x), (2, .int y)]) hx hb d_Md_number_24 rfl hl (by decide) rfl (fun ls hl => ?_)
      refine lv_iload_n hx hb d_Md_number_25 rfl (lv_at hl 0 rfl) ?_
      refine lv_if_lt (tgt := 42) hx hb d_Md_number_26 (by decide) (fun hn9 => absurd hn9 (by decide)) (fun hc112 => ?_)
      refine lv_aload_n hx hb d_Md_number_29 rfl (lv_at hl 1 rfl) ?_
      refine lv_iload_n hx hb d_Md_number_30 rfl (lv_at hl 3 rfl) ?_
      refine lv_iload_n hx hb d_Md_number_31 rfl (lv_at hl 0 rfl) ?_
      refine lv_ishr hx hb d_Md_number_32 ?_
      have hPc := hP.sub (ws' := [(mo, .inr (12, mdG r 0 tm (nI (sn + 2)) (nI tx) (nI lz) (nI az) (nI na) (nI nt) (nI nr) mw ml mk dq)), (r 7, .inl ((cT 0), 1000, .inl g7_108))]) [0, 1] rfl
      have hDc := hD.sub (ws' := [(mo, .inr (12, mdG r 0 tm (nI (sn + 2)) (nI tx) (nI lz) (nI az) (nI na) (nI nt) (nI nr) mw ml mk dq)), (r 7, .inl ((cT 0), 1000, .inl g7_108))]) [0, 1] (by decide) rfl
      have hFc := va_free (wc := [(mo, .inr (12, mdG r 0 tm (nI (sn + 2)) (nI tx) (nI lz) (nI az) (nI na) (nI nt) (nI nr) mw ml mk dq)), (r 7, .inl ((cT 0), 1000, .inl g7_108))]) hD hS hA [0, 1] rfl
      refine va_callv (va_runV (C := "DoorServerModel") (As := [.int (y >>> (24 &&& 31))]) (rest := []) ⟨hx, hb, hml, hown, hg⟩ (m_add l dC dI cT H.size mo r 0 tm (sn + 2) tx lz az na nt nr mw ml mk dq g7_108 (y >>> (24 &&& 31)) (by first | assumption | omega) (by first | assumption | omega)) (cwV 1 hg (gI (List.forall_mem_append.mpr ⟨List.forall_mem_cons.mpr ⟨k_1015, List.forall_mem_cons.mpr ⟨k_1017, List.forall_mem_cons.mpr ⟨(big_sel (q := y_Md_add) (n := 45) (by decide +kernel)), List.forall_mem_cons.mpr ⟨k_13, fun _ h => absurd h List.not_mem_nil⟩⟩⟩⟩, List.forall_mem_cons.mpr ⟨k_1018, fun _ h => h⟩⟩)) rfl rfl rfl (by decide +kernel) ⟨Nat.le_of_ble_eq_true rfl, Nat.le_of_ble_eq_true rfl⟩) ⟨fun a U g mk q => by obtain ⟨q0, q1, qP, qK, qD⟩ := q; exact ⟨q0, q1, qP, va_K.moved (u := U) (U := U.calling g mk a) (Vm.Alike.refl U.vm) qK, qD⟩, va_recv (q0 := 0) (ci := 12) hK hP rfl rfl, fun U hU hW => ⟨rfl, by rw [hU], by rw [hU]; exact hPc, va_K.moved hW.alike hK, hDc.weaken (fun _ _ _ _ => trivial)⟩⟩ rfl rfl hl.1 rfl (lv_room (Nat.le_of_ble_eq_true rfl)) d_Md_number_33 ⟨Nat.le_of_ble_eq_true rfl, Nat.le_of_ble_eq_true rfl⟩) hS (fun q _ h => hFc q h) hFc (fun u t H1 locs ht hvm hw hB hz1 hk1 hS => ?_)
      obtain ⟨g7_113, rfl⟩ : ∃ z, z = u := ⟨_, rfl⟩
      try dsimp only at hw hB
      obtain ⟨hP1, hK1, hD1⟩ := hB
      rw [ht] at hP1
      obtain ⟨hP, hD⟩ := va_join (wr := []) (w1 := [(mo, .inr (12, mdG r 0 tm (nI ((sn + 2) + 1)) (nI tx) (nI lz) (nI az) (nI na) (nI nt) (nI nr) mw ml mk dq)), (r 7, .inl ((cT 0), 1000, .inl g7_113))]) hP hD [0, 1] [] rfl rfl (by decide) (by decide) hk1 hFc hP1 hD1
      have hw114 := hw
      clear hPc hDc hFc hz1 hk1 hP1 hK1 hD1
      generalize H1 = H at hP hS ⊢
      have hP : va_P (dC, dI) vcl [(mo, .inr (12, mdG r 0 tm (nI ((sn + 2) + 1)) (nI tx) (nI lz) (nI az) (nI na) (nI nt) (nI nr) mw ml mk dq)), (r 7, .inl ((cT 0), 1000, .inl g7_113))] H := hP
      have hD : va_D A [(mo, .inr (12, mdG r 0 tm (nI ((sn + 2) + 1)) (nI tx) (nI lz) (nI az) (nI na) (nI nt) (nI nr) mw ml mk dq)), (r 7, .inl ((cT 0), 1000, .inl g7_113))] := hD
      have k115 := hw114
      refine lv_iinc (k := 0) (v := 16) (lv' := [(3, .int 16), (0, .ref mo), (1, .int x), (2, .int y)]) hx hb d_Md_number_36 hl rfl (by decide) (by decide) rfl (fun ls hl => ?_)
      refine lv_goto (tgt := 25) hx hb d_Md_number_39 (by decide) ?_
      refine lv_iload_n hx hb d_Md_number_25 rfl (lv_at hl 0 rfl) ?_
      refine lv_if_lt (tgt := 42) hx hb d_Md_number_26 (by decide) (fun hn9 => absurd hn9 (by decide)) (fun hc116 => ?_)
      refine lv_aload_n hx hb d_Md_number_29 rfl (lv_at hl 1 rfl) ?_
      refine lv_iload_n hx hb d_Md_number_30 rfl (lv_at hl 3 rfl) ?_
      refine lv_iload_n hx hb d_Md_number_31 rfl (lv_at hl 0 rfl) ?_
      refine lv_ishr hx hb d_Md_number_32 ?_
      have hPc := hP.sub (ws' := [(mo, .inr (12, mdG r 0 tm (nI ((sn + 2) + 1)) (nI tx) (nI lz) (nI az) (nI na) (nI nt) (nI nr) mw ml mk dq)), (r 7, .inl ((cT 0), 1000, .inl g7_113))]) [0, 1] rfl
      have hDc := hD.sub (ws' := [(mo, .inr (12, mdG r 0 tm (nI ((sn + 2) + 1)) (nI tx) (nI lz) (nI az) (nI na) (nI nt) (nI nr) mw ml mk dq)), (r 7, .inl ((cT 0), 1000, .inl g7_113))]) [0, 1] (by decide) rfl
      have hFc := va_free (wc := [(mo, .inr (12, mdG r 0 tm (nI ((sn + 2) + 1)) (nI tx) (nI lz) (nI az) (nI na) (nI nt) (nI nr) mw ml mk dq)), (r 7, .inl ((cT 0), 1000, .inl g7_113))]) hD hS hA [0, 1] rfl
      refine va_callv (va_runV (C := "DoorServerModel") (As := [.int (y >>> (16 &&& 31))]) (rest := []) ⟨hx, hb, hml, hown, hg⟩ (m_add l dC dI cT H.size mo r 0 tm ((sn + 2) + 1) tx lz az na nt nr mw ml mk dq g7_113 (y >>> (16 &&& 31)) (by first | assumption | omega) (by first | assumption | omega)) (cwV 1 hg (gI (List.forall_mem_append.mpr ⟨List.forall_mem_cons.mpr ⟨k_1015, List.forall_mem_cons.mpr ⟨k_1017, List.forall_mem_cons.mpr ⟨(big_sel (q := y_Md_add) (n := 45) (by decide +kernel)), List.forall_mem_cons.mpr ⟨k_13, fun _ h => absurd h List.not_mem_nil⟩⟩⟩⟩, List.forall_mem_cons.mpr ⟨k_1018, fun _ h => h⟩⟩)) rfl rfl rfl (by decide +kernel) ⟨Nat.le_of_ble_eq_true rfl, Nat.le_of_ble_eq_true rfl⟩) ⟨fun a U g mk q => by obtain ⟨q0, q1, qP, qK, qD⟩ := q; exact ⟨q0, q1, qP, va_K.moved (u := U) (U := U.calling g mk a) (Vm.Alike.refl U.vm) qK, qD⟩, va_recv (q0 := 0) (ci := 12) hK hP rfl rfl, fun U hU hW => ⟨rfl, by rw [hU], by rw [hU]; exact hPc, va_K.moved hW.alike hK, hDc.weaken (fun _ _ _ _ => trivial)⟩⟩ rfl rfl hl.1 rfl (lv_room (Nat.le_of_ble_eq_true rfl)) d_Md_number_33 ⟨Nat.le_of_ble_eq_true rfl, Nat.le_of_ble_eq_true rfl⟩) hS (fun q _ h => hFc q h) hFc (fun u t H1 locs ht hvm hw hB hz1 hk1 hS => ?_)
      obtain ⟨g7_117, rfl⟩ : ∃ z, z = u := ⟨_, rfl⟩
      try dsimp only at hw hB
      obtain ⟨hP1, hK1, hD1⟩ := hB
      rw [ht] at hP1
      obtain ⟨hP, hD⟩ := va_join (wr := []) (w1 := [(mo, .inr (12, mdG r 0 tm (nI (((sn + 2) + 1) + 1)) (nI tx) (nI lz) (nI az) (nI na) (nI nt) (nI nr) mw ml mk dq)), (r 7, .inl ((cT 0), 1000, .inl g7_117))]) hP hD [0, 1] [] rfl rfl (by decide) (by decide) hk1 hFc hP1 hD1
      have hw118 := hw
      clear hPc hDc hFc hz1 hk1 hP1 hK1 hD1
      generalize H1 = H at hP hS ⊢
      have hP : va_P (dC, dI) vcl [(mo, .inr (12, mdG r 0 tm (nI (((sn + 2) + 1) + 1)) (nI tx) (nI lz) (nI az) (nI na) (nI nt) (nI nr) mw ml mk dq)), (r 7, .inl ((cT 0), 1000, .inl g7_117))] H := hP
      have hD : va_D A [(mo, .inr (12, mdG r 0 tm (nI (((sn + 2) + 1) + 1)) (nI tx) (nI lz) (nI az) (nI na) (nI nt) (nI nr) mw ml mk dq)), (r 7, .inl ((cT 0), 1000, .inl g7_117))] := hD
      have k119 := hw118
      refine lv_iinc (k := 0) (v := 8) (lv' := [(3, .int 8), (0, .ref mo), (1, .int x), (2, .int y)]) hx hb d_Md_number_36 hl rfl (by decide) (by decide) rfl (fun ls hl => ?_)
      refine lv_goto (tgt := 25) hx hb d_Md_number_39 (by decide) ?_
      refine lv_iload_n hx hb d_Md_number_25 rfl (lv_at hl 0 rfl) ?_
      refine lv_if_lt (tgt := 42) hx hb d_Md_number_26 (by decide) (fun hn9 => absurd hn9 (by decide)) (fun hc120 => ?_)
      refine lv_aload_n hx hb d_Md_number_29 rfl (lv_at hl 1 rfl) ?_
      refine lv_iload_n hx hb d_Md_number_30 rfl (lv_at hl 3 rfl) ?_
      refine lv_iload_n hx hb d_Md_number_31 rfl (lv_at hl 0 rfl) ?_
      refine lv_ishr hx hb d_Md_number_32 ?_
      have hPc := hP.sub (ws' := [(mo, .inr (12, mdG r 0 tm (nI (((sn + 2) + 1) + 1)) (nI tx) (nI lz) (nI az) (nI na) (nI nt) (nI nr) mw ml mk dq)), (r 7, .inl ((cT 0), 1000, .inl g7_117))]) [0, 1] rfl
      have hDc := hD.sub (ws' := [(mo, .inr (12, mdG r 0 tm (nI (((sn + 2) + 1) + 1)) (nI tx) (nI lz) (nI az) (nI na) (nI nt) (nI nr) mw ml mk dq)), (r 7, .inl ((cT 0), 1000, .inl g7_117))]) [0, 1] (by decide) rfl
      have hFc := va_free (wc := [(mo, .inr (12, mdG r 0 tm (nI (((sn + 2) + 1) + 1)) (nI tx) (nI lz) (nI az) (nI na) (nI nt) (nI nr) mw ml mk dq)), (r 7, .inl ((cT 0), 1000, .inl g7_117))]) hD hS hA [0, 1] rfl
      refine va_callv (va_runV (C := "DoorServerModel") (As := [.int (y >>> (8 &&& 31))]) (rest := []) ⟨hx, hb, hml, hown, hg⟩ (m_add l dC dI cT H.size mo r 0 tm (((sn + 2) + 1) + 1) tx lz az na nt nr mw ml mk dq g7_117 (y >>> (8 &&& 31)) (by first | assumption | omega) (by first | assumption | omega)) (cwV 1 hg (gI (List.forall_mem_append.mpr ⟨List.forall_mem_cons.mpr ⟨k_1015, List.forall_mem_cons.mpr ⟨k_1017, List.forall_mem_cons.mpr ⟨(big_sel (q := y_Md_add) (n := 45) (by decide +kernel)), List.forall_mem_cons.mpr ⟨k_13, fun _ h => absurd h List.not_mem_nil⟩⟩⟩⟩, List.forall_mem_cons.mpr ⟨k_1018, fun _ h => h⟩⟩)) rfl rfl rfl (by decide +kernel) ⟨Nat.le_of_ble_eq_true rfl, Nat.le_of_ble_eq_true rfl⟩) ⟨fun a U g mk q => by obtain ⟨q0, q1, qP, qK, qD⟩ := q; exact ⟨q0, q1, qP, va_K.moved (u := U) (U := U.calling g mk a) (Vm.Alike.refl U.vm) qK, qD⟩, va_recv (q0 := 0) (ci := 12) hK hP rfl rfl, fun U hU hW => ⟨rfl, by rw [hU], by rw [hU]; exact hPc, va_K.moved hW.alike hK, hDc.weaken (fun _ _ _ _ => trivial)⟩⟩ rfl rfl hl.1 rfl (lv_room (Nat.le_of_ble_eq_true rfl)) d_Md_number_33 ⟨Nat.le_of_ble_eq_true rfl, Nat.le_of_ble_eq_true rfl⟩) hS (fun q _ h => hFc q h) hFc (fun u t H1 locs ht hvm hw hB hz1 hk1 hS => ?_)
      obtain ⟨g7_121, rfl⟩ : ∃ z, z = u := ⟨_, rfl⟩
      try dsimp only at hw hB
      obtain ⟨hP1, hK1, hD1⟩ := hB
      rw [ht] at hP1
      obtain ⟨hP, hD⟩ := va_join (wr := []) (w1 := [(mo, .inr (12, mdG r 0 tm (nI ((((sn + 2) + 1) + 1) + 1)) (nI tx) (nI lz) (nI az) (nI na) (nI nt) (nI nr) mw ml mk dq)), (r 7, .inl ((cT 0), 1000, .inl g7_121))]) hP hD [0, 1] [] rfl rfl (by decide) (by decide) hk1 hFc hP1 hD1
      have hw122 := hw
      clear hPc hDc hFc hz1 hk1 hP1 hK1 hD1
      generalize H1 = H at hP hS ⊢
      have hP : va_P (dC, dI) vcl [(mo, .inr (12, mdG r 0 tm (nI ((((sn + 2) + 1) + 1) + 1)) (nI tx) (nI lz) (nI az) (nI na) (nI nt) (nI nr) mw ml mk dq)), (r 7, .inl ((cT 0), 1000, .inl g7_121))] H := hP
      have hD : va_D A [(mo, .inr (12, mdG r 0 tm (nI ((((sn + 2) + 1) + 1) + 1)) (nI tx) (nI lz) (nI az) (nI na) (nI nt) (nI nr) mw ml mk dq)), (r 7, .inl ((cT 0), 1000, .inl g7_121))] := hD
      have k123 := hw122
      refine lv_iinc (k := 0) (v := 0) (lv' := [(3, .int 0), (0, .ref mo), (1, .int x), (2, .int y)]) hx hb d_Md_number_36 hl rfl (by decide) (by decide) rfl (fun ls hl => ?_)
      refine lv_goto (tgt := 25) hx hb d_Md_number_39 (by decide) ?_
      refine lv_iload_n hx hb d_Md_number_25 rfl (lv_at hl 0 rfl) ?_
      refine lv_if_lt (tgt := 42) hx hb d_Md_number_26 (by decide) (fun hn9 => absurd hn9 (by decide)) (fun hc124 => ?_)
      refine lv_aload_n hx hb d_Md_number_29 rfl (lv_at hl 1 rfl) ?_
      refine lv_iload_n hx hb d_Md_number_30 rfl (lv_at hl 3 rfl) ?_
      refine lv_iload_n hx hb d_Md_number_31 rfl (lv_at hl 0 rfl) ?_
      refine lv_ishr hx hb d_Md_number_32 ?_
      have hPc := hP.sub (ws' := [(mo, .inr (12, mdG r 0 tm (nI ((((sn + 2) + 1) + 1) + 1)) (nI tx) (nI lz) (nI az) (nI na) (nI nt) (nI nr) mw ml mk dq)), (r 7, .inl ((cT 0), 1000, .inl g7_121))]) [0, 1] rfl
      have hDc := hD.sub (ws' := [(mo, .inr (12, mdG r 0 tm (nI ((((sn + 2) + 1) + 1) + 1)) (nI tx) (nI lz) (nI az) (nI na) (nI nt) (nI nr) mw ml mk dq)), (r 7, .inl ((cT 0), 1000, .inl g7_121))]) [0, 1] (by decide) rfl
      have hFc := va_free (wc := [(mo, .inr (12, mdG r 0 tm (nI ((((sn + 2) + 1) + 1) + 1)) (nI tx) (nI lz) (nI az) (nI na) (nI nt) (nI nr) mw ml mk dq)), (r 7, .inl ((cT 0), 1000, .inl g7_121))]) hD hS hA [0, 1] rfl
      refine va_callv (va_runV (C := "DoorServerModel") (As := [.int (y >>> (0 &&& 31))]) (rest := []) ⟨hx, hb, hml, hown, hg⟩ (m_add l dC dI cT H.size mo r 0 tm ((((sn + 2) + 1) + 1) + 1) tx lz az na nt nr mw ml mk dq g7_121 (y >>> (0 &&& 31)) (by first | assumption | omega) (by first | assumption | omega)) (cwV 1 hg (gI (List.forall_mem_append.mpr ⟨List.forall_mem_cons.mpr ⟨k_1015, List.forall_mem_cons.mpr ⟨k_1017, List.forall_mem_cons.mpr ⟨(big_sel (q := y_Md_add) (n := 45) (by decide +kernel)), List.forall_mem_cons.mpr ⟨k_13, fun _ h => absurd h List.not_mem_nil⟩⟩⟩⟩, List.forall_mem_cons.mpr ⟨k_1018, fun _ h => h⟩⟩)) rfl rfl rfl (by decide +kernel) ⟨Nat.le_of_ble_eq_true rfl, Nat.le_of_ble_eq_true rfl⟩) ⟨fun a U g mk q => by obtain ⟨q0, q1, qP, qK, qD⟩ := q; exact ⟨q0, q1, qP, va_K.moved (u := U) (U := U.calling g mk a) (Vm.Alike.refl U.vm) qK, qD⟩, va_recv (q0 := 0) (ci := 12) hK hP rfl rfl, fun U hU hW => ⟨rfl, by rw [hU], by rw [hU]; exact hPc, va_K.moved hW.alike hK, hDc.weaken (fun _ _ _ _ => trivial)⟩⟩ rfl rfl hl.1 rfl (lv_room (Nat.le_of_ble_eq_true rfl)) d_Md_number_33 ⟨Nat.le_of_ble_eq_true rfl, Nat.le_of_ble_eq_true rfl⟩) hS (fun q _ h => hFc q h) hFc (fun u t H1 locs ht hvm hw hB hz1 hk1 hS => ?_)
      obtain ⟨g7_125, rfl⟩ : ∃ z, z = u := ⟨_, rfl⟩
      try dsimp only at hw hB
      obtain ⟨hP1, hK1, hD1⟩ := hB
      rw [ht] at hP1
      obtain ⟨hP, hD⟩ := va_join (wr := []) (w1 := [(mo, .inr (12, mdG r 0 tm (nI (((((sn + 2) + 1) + 1) + 1) + 1)) (nI tx) (nI lz) (nI az) (nI na) (nI nt) (nI nr) mw ml mk dq)), (r 7, .inl ((cT 0), 1000, .inl g7_125))]) hP hD [0, 1] [] rfl rfl (by decide) (by decide) hk1 hFc hP1 hD1
      have hw126 := hw
      clear hPc hDc hFc hz1 hk1 hP1 hK1 hD1
      generalize H1 = H at hP hS ⊢
      have hP : va_P (dC, dI) vcl [(mo, .inr (12, mdG r 0 tm (nI (((((sn + 2) + 1) + 1) + 1) + 1)) (nI tx) (nI lz) (nI az) (nI na) (nI nt) (nI nr) mw ml mk dq)), (r 7, .inl ((cT 0), 1000, .inl g7_125))] H := hP
      have hD : va_D A [(mo, .inr (12, mdG r 0 tm (nI (((((sn + 2) + 1) + 1) + 1) + 1)) (nI tx) (nI lz) (nI az) (nI na) (nI nt) (nI nr) mw ml mk dq)), (r 7, .inl ((cT 0), 1000, .inl g7_125))] := hD
      have k127 := hw126
      refine lv_iinc (k := 0) (v := (-8)) (lv' := [(3, .int (-8)), (0, .ref mo), (1, .int x), (2, .int y)]) hx hb d_Md_number_36 hl rfl (by decide) (by decide) rfl (fun ls hl => ?_)
      refine lv_goto (tgt := 25) hx hb d_Md_number_39 (by decide) ?_
      refine lv_iload_n hx hb d_Md_number_25 rfl (lv_at hl 0 rfl) ?_
      refine lv_if_lt (tgt := 42) hx hb d_Md_number_26 (by decide) (fun hc128 => ?_) (fun hn9 => absurd (by decide) hn9)
      refine lv_aload_n hx hb d_Md_number_42 rfl (lv_at hl 1 rfl) ?_
      have hPc := hP.sub (ws' := [(mo, .inr (12, mdG r 0 tm (nI (((((sn + 2) + 1) + 1) + 1) + 1)) (nI tx) (nI lz) (nI az) (nI na) (nI nt) (nI nr) mw ml mk dq)), (r 7, .inl ((cT 0), 1000, .inl g7_125))]) [0, 1] rfl
      have hDc := hD.sub (ws' := [(mo, .inr (12, mdG r 0 tm (nI (((((sn + 2) + 1) + 1) + 1) + 1)) (nI tx) (nI lz) (nI az) (nI na) (nI nt) (nI nr) mw ml mk dq)), (r 7, .inl ((cT 0), 1000, .inl g7_125))]) [0, 1] (by decide) rfl
      have hFc := va_free (wc := [(mo, .inr (12, mdG r 0 tm (nI (((((sn + 2) + 1) + 1) + 1) + 1)) (nI tx) (nI lz) (nI az) (nI na) (nI nt) (nI nr) mw ml mk dq)), (r 7, .inl ((cT 0), 1000, .inl g7_125))]) hD hS hA [0, 1] rfl
      refine va_calli (va_runV (C := "DoorServerModel") (As := []) (rest := []) ⟨hx, hb, hml, hown, hg⟩ (m_closes l dC dI cT H.size mo r 0 tm (((((sn + 2) + 1) + 1) + 1) + 1) tx lz az na nt nr mw ml mk dq g7_125 (by first | assumption | omega) (by first | assumption | omega)) (cwV 0 hg (gI (List.forall_mem_append.mpr ⟨List.forall_mem_cons.mpr ⟨k_1192, List.forall_mem_cons.mpr ⟨k_1194, List.forall_mem_cons.mpr ⟨(big_sel (q := y_Md_closes) (n := 45) (by decide +kernel)), List.forall_mem_cons.mpr ⟨k_13, fun _ h => absurd h List.not_mem_nil⟩⟩⟩⟩, List.forall_mem_cons.mpr ⟨k_1195, fun _ h => h⟩⟩)) rfl rfl rfl (by decide +kernel) ⟨Nat.le_of_ble_eq_true rfl, Nat.le_of_ble_eq_true rfl⟩) ⟨fun a U g mk q => by obtain ⟨q0, q1, qP, qK, qD⟩ := q; exact ⟨q0, q1, qP, va_K.moved (u := U) (U := U.calling g mk a) (Vm.Alike.refl U.vm) qK, qD⟩, va_recv (q0 := 0) (ci := 12) hK hP rfl rfl, fun U hU hW => ⟨rfl, by rw [hU], by rw [hU]; exact hPc, va_K.moved hW.alike hK, hDc.weaken (fun _ _ _ _ => trivial)⟩⟩ rfl rfl hl.1 rfl (lv_room (Nat.le_of_ble_eq_true rfl)) d_Md_number_43 ⟨Nat.le_of_ble_eq_true rfl, Nat.le_of_ble_eq_true rfl⟩) hS (fun q _ h => hFc q h) hFc (fun rv9 u t H1 locs ht hvm hw hB hz1 hk1 hS => ?_)
      obtain ⟨g7_129, rfl⟩ : ∃ z, z = u := ⟨_, rfl⟩
      try dsimp only at hw hB
      obtain ⟨hP1, hK1, hD1⟩ := hB
      rw [ht] at hP1
      obtain ⟨rfl, hw⟩ := hw
      obtain ⟨hP, hD⟩ := va_join (wr := []) (w1 := [(mo, .inr (12, mdG r 0 tm (nI (((((sn + 2) + 1) + 1) + 1) + 1)) (nI tx) (nI lz) (nI az) (nI na) (nI nt) (nI nr) mw ml mk dq)), (r 7, .inl ((cT 0), 1000, .inl g7_129))]) hP hD [0, 1] [] rfl rfl (by decide) (by decide) hk1 hFc hP1 hD1
      have hw130 := hw
      clear hPc hDc hFc hz1 hk1 hP1 hK1 hD1
      generalize H1 = H at hP hS ⊢
      have hP : va_P (dC, dI) vcl [(mo, .inr (12, mdG r 0 tm (nI (((((sn + 2) + 1) + 1) + 1) + 1)) (nI tx) (nI lz) (nI az) (nI na) (nI nt) (nI nr) mw ml mk dq)), (r 7, .inl ((cT 0), 1000, .inl g7_129))] H := hP
      have hD : va_D A [(mo, .inr (12, mdG r 0 tm (nI (((((sn + 2) + 1) + 1) + 1) + 1)) (nI tx) (nI lz) (nI az) (nI na) (nI nt) (nI nr) mw ml mk dq)), (r 7, .inl ((cT 0), 1000, .inl g7_129))] := hD
      have k131 := hw130
      have hP9 := hP.sub (ws' := [(mo, .inr (12, mdG r 0 tm (nI (((((sn + 2) + 1) + 1) + 1) + 1)) (nI tx) (nI lz) (nI az) (nI na) (nI nt) (nI nr) mw ml mk dq)), (r 7, .inl ((cT 0), 1000, .inl g7_129))]) [0, 1] rfl
      have hD9 := hD.sub (ws' := [(mo, .inr (12, mdG r 0 tm (nI (((((sn + 2) + 1) + 1) + 1) + 1)) (nI tx) (nI lz) (nI az) (nI na) (nI nt) (nI nr) mw ml mk dq)), (r 7, .inl ((cT 0), 1000, .inl g7_129))]) [0, 1] (by decide) rfl
      exact W.iret (v := nI (((((sn + 2) + 1) + 1) + 1) + 1)) hx hb hr (fun t ht hW => ⟨⟨_, ⟨g7_129, 0, ((((sn + 2) + 1) + 1) + 1) + 1⟩, rfl, ⟨by first | assumption | omega, by first | assumption | omega, by first | assumption | omega⟩, by rw [ht]; exact hP9, va_K.moved hW.alike hK, hD9⟩, hS.F ht⟩) hS.2.2 d_Md_number_46
    · skip
      have hrn : 1000 < sn + 4 + 2 := by omega
      have hPc := hP.sub (ws' := [(mo, .inr (12, mdG r 0 tm (nI sn) (nI tx) (nI lz) (nI az) (nI na) (nI nt) (nI nr) mw ml mk dq))]) [1] rfl
      have hDc := hD.sub (ws' := [(mo, .inr (12, mdG r 0 tm (nI sn) (nI tx) (nI lz) (nI az) (nI na) (nI nt) (nI nr) mw ml mk dq))]) [1] (by decide) rfl
      have hFc := va_free (wc := [(mo, .inr (12, mdG r 0 tm (nI sn) (nI tx) (nI lz) (nI az) (nI na) (nI nt) (nI nr) mw ml mk dq))]) hD hS hA [1] rfl
      refine va_calli (va_runV (C := "DoorServerModel") (As := [.int x, .int (nI 4)]) (rest := []) ⟨hx, hb, hml, hown, hg⟩ (m_opens0 l dC dI cT H.size mo r 0 tm sn tx lz az na nt nr mw ml mk dq x 4 (by first | assumption | omega) (by first | assumption | omega) (by first | assumption | omega)) (cwV 2 hg (gI (List.forall_mem_append.mpr ⟨List.forall_mem_cons.mpr ⟨k_1188, List.forall_mem_cons.mpr ⟨k_1190, List.forall_mem_cons.mpr ⟨(big_sel (q := y_Md_opens) (n := 45) (by decide +kernel)), List.forall_mem_cons.mpr ⟨k_13, fun _ h => absurd h List.not_mem_nil⟩⟩⟩⟩, List.forall_mem_cons.mpr ⟨k_1191, fun _ h => h⟩⟩)) rfl rfl rfl (by decide +kernel) ⟨Nat.le_of_ble_eq_true rfl, Nat.le_of_ble_eq_true rfl⟩) ⟨fun a U g mk q => by obtain ⟨q0, q1, qP, qK, qD⟩ := q; exact ⟨q0, q1, qP, va_K.moved (u := U) (U := U.calling g mk a) (Vm.Alike.refl U.vm) qK, qD⟩, va_recv (q0 := 1) (ci := 12) hK hP rfl rfl, fun U hU hW => ⟨rfl, by rw [hU], by rw [hU]; exact hPc, va_K.moved hW.alike hK, hDc.weaken (fun _ _ _ _ => trivial)⟩⟩ rfl rfl hl.1 rfl (lv_room (Nat.le_of_ble_eq_true rfl)) d_Md_number_14 ⟨Nat.le_of_ble_eq_true rfl, Nat.le_of_ble_eq_true rfl⟩) hS (fun q _ h => hFc q h) hFc (fun rv9 u t H1 locs ht hvm hw hB hz1 hk1 hS => ?_)
      try dsimp only at hw hB
      obtain ⟨hP1, hK1, hD1⟩ := hB
      rw [ht] at hP1
      obtain ⟨rfl, hw⟩ := hw
      obtain ⟨hP, hD⟩ := va_join (wr := [(r 7, .inl ((cT 0), 1000, .inl f7))]) (w1 := [(mo, .inr (12, mdG r 2 tm (nI sn) (nI tx) (nI lz) (nI az) (nI na) (nI nt) (nI nr) mw ml mk dq))]) hP hD [1] [0] rfl rfl (by decide) (by decide) hk1 hFc hP1 hD1
      have hw132 := hw
      clear hPc hDc hFc hz1 hk1 hP1 hK1 hD1
      generalize H1 = H at hP hS ⊢
      have hP : va_P (dC, dI) vcl [(r 7, .inl ((cT 0), 1000, .inl f7)), (mo, .inr (12, mdG r 2 tm (nI sn) (nI tx) (nI lz) (nI az) (nI na) (nI nt) (nI nr) mw ml mk dq))] H := hP
      have hD : va_D A [(r 7, .inl ((cT 0), 1000, .inl f7)), (mo, .inr (12, mdG r 2 tm (nI sn) (nI tx) (nI lz) (nI az) (nI na) (nI nt) (nI nr) mw ml mk dq))] := hD
      refine lv_if_ne (tgt := 22) hx hb d_Md_number_17 (by decide) (fun hn9 => absurd hn9 (by decide)) (fun hc133 => ?_)
      refine lv_iconst (v := 0) hx hb d_Md_number_20 (by decide) ?_
      have hP9 := hP.sub (ws' := [(mo, .inr (12, mdG r 2 tm (nI sn) (nI tx) (nI lz) (nI az) (nI na) (nI nt) (nI nr) mw ml mk dq)), (r 7, .inl ((cT 0), 1000, .inl f7))]) [1, 0] rfl
      have hD9 := hD.sub (ws' := [(mo, .inr (12, mdG r 2 tm (nI sn) (nI tx) (nI lz) (nI az) (nI na) (nI nt) (nI nr) mw ml mk dq)), (r 7, .inl ((cT 0), 1000, .inl f7))]) [1, 0] (by decide) rfl
      exact W.iret (v := 0) hx hb hr (fun t ht hW => ⟨⟨_, ⟨f7, 2, sn⟩, rfl, ⟨by first | assumption | omega, by first | assumption | omega, by first | assumption | omega⟩, by rw [ht]; exact hP9, va_K.moved hW.alike hK, hD9⟩, hS.F ht⟩) hS.2.2 d_Md_number_21
set_option maxHeartbeats 4000000 in
set_option maxRecDepth 100000 in
/-- name -/
theorem u_name (l : Launch) (dC : Nat → ClassId) (dI : Nat → Nat → Nat) (cT : Nat → ClassId) (sz : Nat) (mo : Nat) (r : Nat → Nat) (cd : Int32) (tm : Int32) (sn : Nat) (tx : Nat) (lz : Nat) (az : Nat) (na : Nat) (nt : Nat) (nr : Nat) (mw : Int32) (ml : Int32) (mk : Int64) (dq : Int64) (f7 : Nat → Int32) (x : Int32) (h20 : 20 ≤ sn) (hsn : sn ≤ 1000) (h7 : AB f7) : Met l y_Md_name (Cond.code y_Md_name b_Md_name 2 (Option.some Jvm.ClassFile.FieldType.int) :: BIG) ({ frames := 2, cells := 0, slots := 0, locals := 45 }) (va_Pc [.ref mo, .int x] (fun U => U.heap.size = sz ∧ va_P (dC, dI) vcl [(mo, .inr (12, mdG r cd tm (nI sn) (nI tx) (nI lz) (nI az) (nI na) (nI nt) (nI nr) mw ml mk dq)), (r 7, .inl ((cT 0), 1000, .inl f7))] U.heap ∧ va_K (dC, dI) vcl (tyL cT) U ∧ va_D (fun _ => True) [(mo, .inr (12, mdG r cd tm (nI sn) (nI tx) (nI lz) (nI az) (nI na) (nI nt) (nI nr) mw ml mk dq)), (r 7, .inl ((cT 0), 1000, .inl f7))])) (va_Qi (S := (Nat → Int32) × Int32 × Nat) (fun rv9 u => match u with | (g7, cd2, sn2) => (20 ≤ sn2) ∧ (sn2 ≤ 1000) ∧ (AB g7)) (fun u t => match u with | (g7, cd2, sn2) => va_P (dC, dI) vcl [(mo, .inr (12, mdG r cd2 tm (nI sn2) (nI tx) (nI lz) (nI az) (nI na) (nI nt) (nI nr) mw ml mk dq)), (r 7, .inl ((cT 0), 1000, .inl g7))] t.heap ∧ va_K (dC, dI) vcl (tyL cT) t ∧ va_D (va_A [(mo, .inr (12, mdG r cd tm (nI sn) (nI tx) (nI lz) (nI az) (nI na) (nI nt) (nI nr) mw ml mk dq)), (r 7, .inl ((cT 0), 1000, .inl f7))] sz) [(mo, .inr (12, mdG r cd2 tm (nI sn2) (nI tx) (nI lz) (nI az) (nI na) (nI nt) (nI nr) mw ml mk dq)), (r 7, .inl ((cT 0), 1000, .inl g7))]) (va_A [(mo, .inr (12, mdG r cd tm (nI sn) (nI tx) (nI lz) (nI az) (nI na) (nI nt) (nI nr) mw ml mk dq)), (r 7, .inl ((cT 0), 1000, .inl f7))] sz)) 0 0 (va_A [(mo, .inr (12, mdG r cd tm (nI sn) (nI tx) (nI lz) (nI az) (nI na) (nI nt) (nI nr) mw ml mk dq)), (r 7, .inl ((cT 0), 1000, .inl f7))] sz) := by
  refine Met.ofW (cc := b_Md_name) (maxL := 2) (ret := (Option.some Jvm.ClassFile.FieldType.int)) (by decide) rfl ?_
  intro p e s m args below meth c s₁ B hml hv
  obtain ⟨hargs, hsz, hP, hK, hD0⟩ := hv
  have hx := B.exec
  have hb := B.bytes
  have hr := B.returns
  have hts := atoms_spec (ws := (Cond.code y_Md_name b_Md_name 2 (Option.some Jvm.ClassFile.FieldType.int) :: BIG)) B.pre
  have hg : ∀ w ∈ BIG, w.before _ s = true := fun w h => hts w (List.mem_cons_of_mem _ h)
  have hown : s.vm.findClass "DoorServerModel" = some m.cls := findClass_of_methodNamed B.named
  have hlocks := B.notSynchronized
  subst hsz
  have hD := hD0.self (sz := s.heap.size)
  generalize hAe : va_A [(mo, .inr (12, mdG r cd tm (nI sn) (nI tx) (nI lz) (nI az) (nI na) (nI nt) (nI nr) mw ml mk dq)), (r 7, .inl ((cT 0), 1000, .inl f7))] s.heap.size = A at hD ⊢
  have hA : ∀ q : Nat, s.heap.size ≤ q → A q := fun q h => by rw [← hAe]; exact Or.inr h
  have hS : va_S A s.heap s.heap [] := va_S.rf
  have hl := lv_entry ([.ref mo, .int x]) (n := 2) (Nat.le_of_ble_eq_true rfl)
  refine W.eq (g2 := entryFrame m (List.toArray [.ref mo, .int x]) 2) (by rw [hargs]) ?_
  rw [lg_entry_eq]
  generalize (lg_sl ([.ref mo, .int x]) ++ List.replicate (2 - (lg_sl ([.ref mo, .int x])).length) Slot.unset).toArray = ls at hl ⊢
  have hl : lv_has ls 2 [(0, .ref mo), (1, .int x)] := hl
  change W p l e ({ frames := 2, cells := 0, slots := 0, locals := 45 } : Room) s m args below meth c s.heap [] 0 0 _ _
  have hP : va_P (dC, dI) vcl [(mo, .inr (12, mdG r cd tm (nI sn) (nI tx) (nI lz) (nI az) (nI na) (nI nt) (nI nr) mw ml mk dq)), (r 7, .inl ((cT 0), 1000, .inl f7))] s.heap := hP
  rcases pk_ix x (n := 32) (by decide) with h8x | h8x | ⟨xn, hxn, rfl⟩
  · skip
    refine lv_aload_n hx hb d_Md_name_0 rfl (lv_at hl 0 rfl) ?_
    refine lv_iload_n hx hb d_Md_name_1 rfl (lv_at hl 1 rfl) ?_
    refine lv_if_lt (tgt := 15) hx hb d_Md_name_2 (by decide) (fun hc134 => ?_) (fun hn9 => absurd (h8x) hn9)
    refine lv_iconst (v := 0) hx hb d_Md_name_15 (by decide) ?_
    have hPc := hP.sub (ws' := [(mo, .inr (12, mdG r cd tm (nI sn) (nI tx) (nI lz) (nI az) (nI na) (nI nt) (nI nr) mw ml mk dq))]) [0] rfl
    have hDc := hD.sub (ws' := [(mo, .inr (12, mdG r cd tm (nI sn) (nI tx) (nI lz) (nI az) (nI na) (nI nt) (nI nr) mw ml mk dq))]) [0] (by decide) rfl
    have hFc := va_free (wc := [(mo, .inr (12, mdG r cd tm (nI sn) (nI tx) (nI lz) (nI az) (nI na) (nI nt) (nI nr) mw ml mk dq))]) hD hS hA [0] rfl
    refine va_calli (va_runV (C := "DoorServerModel") (As := [.int 0]) (rest := []) ⟨hx, hb, hml, hown, hg⟩ (m_goes0 l dC dI cT s.heap.size mo r cd tm sn tx lz az na nt nr mw ml mk dq ) (cwV 1 hg (gI (List.forall_mem_append.mpr ⟨List.forall_mem_cons.mpr ⟨k_1165, List.forall_mem_cons.mpr ⟨k_1167, List.forall_mem_cons.mpr ⟨(big_sel (q := y_Md_goes) (n := 45) (by decide +kernel)), List.forall_mem_cons.mpr ⟨k_13, fun _ h => absurd h List.not_mem_nil⟩⟩⟩⟩, List.forall_mem_cons.mpr ⟨k_1168, fun _ h => h⟩⟩)) rfl rfl rfl (by decide +kernel) ⟨Nat.le_of_ble_eq_true rfl, Nat.le_of_ble_eq_true rfl⟩) ⟨fun a U g mk q => by obtain ⟨q0, q1, qP, qK, qD⟩ := q; exact ⟨q0, q1, qP, va_K.moved (u := U) (U := U.calling g mk a) (Vm.Alike.refl U.vm) qK, qD⟩, va_recv (q0 := 0) (ci := 12) hK hP rfl rfl, fun U hU hW => ⟨rfl, by rw [hU], by rw [hU]; exact hPc, va_K.moved hW.alike hK, hDc.weaken (fun _ _ _ _ => trivial)⟩⟩ rfl rfl hl.1 rfl (lv_room (Nat.le_of_ble_eq_true rfl)) d_Md_name_16 ⟨Nat.le_of_ble_eq_true rfl, Nat.le_of_ble_eq_true rfl⟩) hS (fun q _ h => hFc q h) hFc (fun rv9 u t H1 locs ht hvm hw hB hz1 hk1 hS => ?_)
    try dsimp only at hw hB
    obtain ⟨hP1, hK1, hD1⟩ := hB
    rw [ht] at hP1
    obtain ⟨rfl, hw⟩ := hw
    obtain ⟨hP, hD⟩ := va_join (wr := [(r 7, .inl ((cT 0), 1000, .inl f7))]) (w1 := [(mo, .inr (12, mdG r 1 tm (nI sn) (nI tx) (nI lz) (nI az) (nI na) (nI nt) (nI nr) mw ml mk dq))]) hP hD [0] [1] rfl rfl (by decide) (by decide) hk1 hFc hP1 hD1
    have hw135 := hw
    clear hPc hDc hFc hz1 hk1 hP1 hK1 hD1
    generalize H1 = H at hP hS ⊢
    have hP : va_P (dC, dI) vcl [(r 7, .inl ((cT 0), 1000, .inl f7)), (mo, .inr (12, mdG r 1 tm (nI sn) (nI tx) (nI lz) (nI az) (nI na) (nI nt) (nI nr) mw ml mk dq))] H := hP
    have hD : va_D A [(r 7, .inl ((cT 0), 1000, .inl f7)), (mo, .inr (12, mdG r 1 tm (nI sn) (nI tx) (nI lz) (nI az) (nI na) (nI nt) (nI nr) mw ml mk dq))] := hD
    refine lv_if_eq (tgt := 31) hx hb d_Md_name_19 (by decide) (fun hc136 => ?_) (fun hn9 => absurd (by decide) hn9)
    refine lv_iconst (v := 0) hx hb d_Md_name_31 (by decide) ?_
    have hP9 := hP.sub (ws' := [(mo, .inr (12, mdG r 1 tm (nI sn) (nI tx) (nI lz) (nI az) (nI na) (nI nt) (nI nr) mw ml mk dq)), (r 7, .inl ((cT 0), 1000, .inl f7))]) [1, 0] rfl
    have hD9 := hD.sub (ws' := [(mo, .inr (12, mdG r 1 tm (nI sn) (nI tx) (nI lz) (nI az) (nI na) (nI nt) (nI nr) mw ml mk dq)), (r 7, .inl ((cT 0), 1000, .inl f7))]) [1, 0] (by decide) rfl
    exact W.iret (v := 0) hx hb hr (fun t ht hW => ⟨⟨_, ⟨f7, 1, sn⟩, rfl, ⟨by first | assumption | omega, by first | assumption | omega, by first | assumption | omega⟩, by rw [ht]; exact hP9, va_K.moved hW.alike hK, hD9⟩, hS.F ht⟩) hS.2.2 d_Md_name_32
  · skip
    refine lv_aload_n hx hb d_Md_name_0 rfl (lv_at hl 0 rfl) ?_
    refine lv_iload_n hx hb d_Md_name_1 rfl (lv_at hl 1 rfl) ?_
    refine lv_if_lt (tgt := 15) hx hb d_Md_name_2 (by decide) (fun hc137 => ?_) (fun hc137 => ?_)
    · skip
      refine lv_iconst (v := 0) hx hb d_Md_name_15 (by decide) ?_
      have hPc := hP.sub (ws' := [(mo, .inr (12, mdG r cd tm (nI sn) (nI tx) (nI lz) (nI az) (nI na) (nI nt) (nI nr) mw ml mk dq))]) [0] rfl
      have hDc := hD.sub (ws' := [(mo, .inr (12, mdG r cd tm (nI sn) (nI tx) (nI lz) (nI az) (nI na) (nI nt) (nI nr) mw ml mk dq))]) [0] (by decide) rfl
      have hFc := va_free (wc := [(mo, .inr (12, mdG r cd tm (nI sn) (nI tx) (nI lz) (nI az) (nI na) (nI nt) (nI nr) mw ml mk dq))]) hD hS hA [0] rfl
      refine va_calli (va_runV (C := "DoorServerModel") (As := [.int 0]) (rest := []) ⟨hx, hb, hml, hown, hg⟩ (m_goes0 l dC dI cT s.heap.size mo r cd tm sn tx lz az na nt nr mw ml mk dq ) (cwV 1 hg (gI (List.forall_mem_append.mpr ⟨List.forall_mem_cons.mpr ⟨k_1165, List.forall_mem_cons.mpr ⟨k_1167, List.forall_mem_cons.mpr ⟨(big_sel (q := y_Md_goes) (n := 45) (by decide +kernel)), List.forall_mem_cons.mpr ⟨k_13, fun _ h => absurd h List.not_mem_nil⟩⟩⟩⟩, List.forall_mem_cons.mpr ⟨k_1168, fun _ h => h⟩⟩)) rfl rfl rfl (by decide +kernel) ⟨Nat.le_of_ble_eq_true rfl, Nat.le_of_ble_eq_true rfl⟩) ⟨fun a U g mk q => by obtain ⟨q0, q1, qP, qK, qD⟩ := q; exact ⟨q0, q1, qP, va_K.moved (u := U) (U := U.calling g mk a) (Vm.Alike.refl U.vm) qK, qD⟩, va_recv (q0 := 0) (ci := 12) hK hP rfl rfl, fun U hU hW => ⟨rfl, by rw [hU], by rw [hU]; exact hPc, va_K.moved hW.alike hK, hDc.weaken (fun _ _ _ _ => trivial)⟩⟩ rfl rfl hl.1 rfl (lv_room (Nat.le_of_ble_eq_true rfl)) d_Md_name_16 ⟨Nat.le_of_ble_eq_true rfl, Nat.le_of_ble_eq_true rfl⟩) hS (fun q _ h => hFc q h) hFc (fun rv9 u t H1 locs ht hvm hw hB hz1 hk1 hS => ?_)
      try dsimp only at hw hB
      obtain ⟨hP1, hK1, hD1⟩ := hB
      rw [ht] at hP1
      obtain ⟨rfl, hw⟩ := hw
      obtain ⟨hP, hD⟩ := va_join (wr := [(r 7, .inl ((cT 0), 1000, .inl f7))]) (w1 := [(mo, .inr (12, mdG r 1 tm (nI sn) (nI tx) (nI lz) (nI az) (nI na) (nI nt) (nI nr) mw ml mk dq))]) hP hD [0] [1] rfl rfl (by decide) (by decide) hk1 hFc hP1 hD1
      have hw138 := hw
      clear hPc hDc hFc hz1 hk1 hP1 hK1 hD1
      generalize H1 = H at hP hS ⊢
      have hP : va_P (dC, dI) vcl [(r 7, .inl ((cT 0), 1000, .inl f7)), (mo, .inr (12, mdG r 1 tm (nI sn) (nI tx) (nI lz) (nI az) (nI na) (nI nt) (nI nr) mw ml mk dq))] H := hP
      have hD : va_D A [(r 7, .inl ((cT 0), 1000, .inl f7)), (mo, .inr (12, mdG r 1 tm (nI sn) (nI tx) (nI lz) (nI az) (nI na) (nI nt) (nI nr) mw ml mk dq))] := hD
      refine lv_if_eq (tgt := 31) hx hb d_Md_name_19 (by decide) (fun hc139 => ?_) (fun hn9 => absurd (by decide) hn9)
      refine lv_iconst (v := 0) hx hb d_Md_name_31 (by decide) ?_
      have hP9 := hP.sub (ws' := [(mo, .inr (12, mdG r 1 tm (nI sn) (nI tx) (nI lz) (nI az) (nI na) (nI nt) (nI nr) mw ml mk dq)), (r 7, .inl ((cT 0), 1000, .inl f7))]) [1, 0] rfl
      have hD9 := hD.sub (ws' := [(mo, .inr (12, mdG r 1 tm (nI sn) (nI tx) (nI lz) (nI az) (nI na) (nI nt) (nI nr) mw ml mk dq)), (r 7, .inl ((cT 0), 1000, .inl f7))]) [1, 0] (by decide) rfl
      exact W.iret (v := 0) hx hb hr (fun t ht hW => ⟨⟨_, ⟨f7, 1, sn⟩, rfl, ⟨by first | assumption | omega, by first | assumption | omega, by first | assumption | omega⟩, by rw [ht]; exact hP9, va_K.moved hW.alike hK, hD9⟩, hS.F ht⟩) hS.2.2 d_Md_name_32
    · skip
      refine lv_iload_n hx hb d_Md_name_5 rfl (lv_at hl 1 rfl) ?_
      refine lv_bipush (v := 32) hx hb d_Md_name_6 (by decide) ?_
      refine lv_icmp_ge (tgt := 15) hx hb d_Md_name_8 (by decide) (fun hc140 => ?_) (fun hn9 => absurd (h8x) hn9)
      refine lv_iconst (v := 0) hx hb d_Md_name_15 (by decide) ?_
      have hPc := hP.sub (ws' := [(mo, .inr (12, mdG r cd tm (nI sn) (nI tx) (nI lz) (nI az) (nI na) (nI nt) (nI nr) mw ml mk dq))]) [0] rfl
      have hDc := hD.sub (ws' := [(mo, .inr (12, mdG r cd tm (nI sn) (nI tx) (nI lz) (nI az) (nI na) (nI nt) (nI nr) mw ml mk dq))]) [0] (by decide) rfl
      have hFc := va_free (wc := [(mo, .inr (12, mdG r cd tm (nI sn) (nI tx) (nI lz) (nI az) (nI na) (nI nt) (nI nr) mw ml mk dq))]) hD hS hA [0] rfl
      refine va_calli (va_runV (C := "DoorServerModel") (As := [.int 0]) (rest := []) ⟨hx, hb, hml, hown, hg⟩ (m_goes0 l dC dI cT s.heap.size mo r cd tm sn tx lz az na nt nr mw ml mk dq ) (cwV 1 hg (gI (List.forall_mem_append.mpr ⟨List.forall_mem_cons.mpr ⟨k_1165, List.forall_mem_cons.mpr ⟨k_1167, List.forall_mem_cons.mpr ⟨(big_sel (q := y_Md_goes) (n := 45) (by decide +kernel)), List.forall_mem_cons.mpr ⟨k_13, fun _ h => absurd h List.not_mem_nil⟩⟩⟩⟩, List.forall_mem_cons.mpr ⟨k_1168, fun _ h => h⟩⟩)) rfl rfl rfl (by decide +kernel) ⟨Nat.le_of_ble_eq_true rfl, Nat.le_of_ble_eq_true rfl⟩) ⟨fun a U g mk q => by obtain ⟨q0, q1, qP, qK, qD⟩ := q; exact ⟨q0, q1, qP, va_K.moved (u := U) (U := U.calling g mk a) (Vm.Alike.refl U.vm) qK, qD⟩, va_recv (q0 := 0) (ci := 12) hK hP rfl rfl, fun U hU hW => ⟨rfl, by rw [hU], by rw [hU]; exact hPc, va_K.moved hW.alike hK, hDc.weaken (fun _ _ _ _ => trivial)⟩⟩ rfl rfl hl.1 rfl (lv_room (Nat.le_of_ble_eq_true rfl)) d_Md_name_16 ⟨Nat.le_of_ble_eq_true rfl, Nat.le_of_ble_eq_true rfl⟩) hS (fun q _ h => hFc q h) hFc (fun rv9 u t H1 locs ht hvm hw hB hz1 hk1 hS => ?_)
      try dsimp only at hw hB
      obtain ⟨hP1, hK1, hD1⟩ := hB
      rw [ht] at hP1
      obtain ⟨rfl, hw⟩ := hw
      obtain ⟨hP, hD⟩ := va_join (wr := [(r 7, .inl ((cT 0), 1000, .inl f7))]) (w1 := [(mo, .inr (12, mdG r 1 tm (nI sn) (nI tx) (nI lz) (nI az) (nI na) (nI nt) (nI nr) mw ml mk dq))]) hP hD [0] [1] rfl rfl (by decide) (by decide) hk1 hFc hP1 hD1
      have hw141 := hw
      clear hPc hDc hFc hz1 hk1 hP1 hK1 hD1
      generalize H1 = H at hP hS ⊢
      have hP : va_P (dC, dI) vcl [(r 7, .inl ((cT 0), 1000, .inl f7)), (mo, .inr (12, mdG r 1 tm (nI sn) (nI tx) (nI lz) (nI az) (nI na) (nI nt) (nI nr) mw ml mk dq))] H := hP
      have hD : va_D A [(r 7, .inl ((cT 0), 1000, .inl f7)), (mo, .inr (12, mdG r 1 tm (nI sn) (nI tx) (nI lz) (nI az) (nI na) (nI nt) (nI nr) mw ml mk dq))] := hD
      refine lv_if_eq (tgt := 31) hx hb d_Md_name_19 (by decide) (fun hc142 => ?_) (fun hn9 => absurd (by decide) hn9)
      refine lv_iconst (v := 0) hx hb d_Md_name_31 (by decide) ?_
      have hP9 := hP.sub (ws' := [(mo, .inr (12, mdG r 1 tm (nI sn) (nI tx) (nI lz) (nI az) (nI na) (nI nt) (nI nr) mw ml mk dq)), (r 7, .inl ((cT 0), 1000, .inl f7))]) [1, 0] rfl
      have hD9 := hD.sub (ws' := [(mo, .inr (12, mdG r 1 tm (nI sn) (nI tx) (nI lz) (nI az) (nI na) (nI nt) (nI nr) mw ml mk dq)), (r 7, .inl ((cT 0), 1000, .inl f7))]) [1, 0] (by decide) rfl
      exact W.iret (v := 0) hx hb hr (fun t ht hW => ⟨⟨_, ⟨f7, 1, sn⟩, rfl, ⟨by first | assumption | omega, by first | assumption | omega, by first | assumption | omega⟩, by rw [ht]; exact hP9, va_K.moved hW.alike hK, hD9⟩, hS.F ht⟩) hS.2.2 d_Md_name_32
  · skip
    refine lv_aload_n hx hb d_Md_name_0 rfl (lv_at hl 0 rfl) ?_
    refine lv_iload_n hx hb d_Md_name_1 rfl (lv_at hl 1 rfl) ?_
    refine lv_if_lt (tgt := 15) hx hb d_Md_name_2 (by decide) (fun hn9 => absurd hn9 (nI_pos (by omega))) (fun hc143 => ?_)
    refine lv_iload_n hx hb d_Md_name_5 rfl (lv_at hl 1 rfl) ?_
    refine lv_bipush (v := 32) hx hb d_Md_name_6 (by decide) ?_
    refine lv_icmp_ge (tgt := 15) hx hb d_Md_name_8 (by decide) (fun hc144 => ?_) (fun hc144 => ?_)
    · skip
      have n145 : 32 ≤ xn := (nI_leI (a := 32) (b := xn) (by omega) (by omega)).mp hc144
      refine lv_iconst (v := 0) hx hb d_Md_name_15 (by decide) ?_
      have hPc := hP.sub (ws' := [(mo, .inr (12, mdG r cd tm (nI sn) (nI tx) (nI lz) (nI az) (nI na) (nI nt) (nI nr) mw ml mk dq))]) [0] rfl
      have hDc := hD.sub (ws' := [(mo, .inr (12, mdG r cd tm (nI sn) (nI tx) (nI lz) (nI az) (nI na) (nI nt) (nI nr) mw ml mk dq))]) [0] (by decide) rfl
      have hFc := va_free (wc := [(mo, .inr (12, mdG r cd tm (nI sn) (nI tx) (nI lz) (nI az) (nI na) (nI nt) (nI nr) mw ml mk dq))]) hD hS hA [0] rfl
      refine va_calli (va_runV (C := "DoorServerModel") (As := [.int 0]) (rest := []) ⟨hx, hb, hml, hown, hg⟩ (m_goes0 l dC dI cT s.heap.size mo r cd tm sn tx lz az na nt nr mw ml mk dq ) (cwV 1 hg (gI (List.forall_mem_append.mpr ⟨List.forall_mem_cons.mpr ⟨k_1165, List.forall_mem_cons.mpr ⟨k_1167, List.forall_mem_cons.mpr ⟨(big_sel (q := y_Md_goes) (n := 45) (by decide +kernel)), List.forall_mem_cons.mpr ⟨k_13, fun _ h => absurd h List.not_mem_nil⟩⟩⟩⟩, List.forall_mem_cons.mpr ⟨k_1168, fun _ h => h⟩⟩)) rfl rfl rfl (by decide +kernel) ⟨Nat.le_of_ble_eq_true rfl, Nat.le_of_ble_eq_true rfl⟩) ⟨fun a U g mk q => by obtain ⟨q0, q1, qP, qK, qD⟩ := q; exact ⟨q0, q1, qP, va_K.moved (u := U) (U := U.calling g mk a) (Vm.Alike.refl U.vm) qK, qD⟩, va_recv (q0 := 0) (ci := 12) hK hP rfl rfl, fun U hU hW => ⟨rfl, by rw [hU], by rw [hU]; exact hPc, va_K.moved hW.alike hK, hDc.weaken (fun _ _ _ _ => trivial)⟩⟩ rfl rfl hl.1 rfl (lv_room (Nat.le_of_ble_eq_true rfl)) d_Md_name_16 ⟨Nat.le_of_ble_eq_true rfl, Nat.le_of_ble_eq_true rfl⟩) hS (fun q _ h => hFc q h) hFc (fun rv9 u t H1 locs ht hvm hw hB hz1 hk1 hS => ?_)
      try dsimp only at hw hB
      obtain ⟨hP1, hK1, hD1⟩ := hB
      rw [ht] at hP1
      obtain ⟨rfl, hw⟩ := hw
      obtain ⟨hP, hD⟩ := va_join (wr := [(r 7, .inl ((cT 0), 1000, .inl f7))]) (w1 := [(mo, .inr (12, mdG r 1 tm (nI sn) (nI tx) (nI lz) (nI az) (nI na) (nI nt) (nI nr) mw ml mk dq))]) hP hD [0] [1] rfl rfl (by decide) (by decide) hk1 hFc hP1 hD1
      have hw147 := hw
      clear hPc hDc hFc hz1 hk1 hP1 hK1 hD1
      generalize H1 = H at hP hS ⊢
      have hP : va_P (dC, dI) vcl [(r 7, .inl ((cT 0), 1000, .inl f7)), (mo, .inr (12, mdG r 1 tm (nI sn) (nI tx) (nI lz) (nI az) (nI na) (nI nt) (nI nr) mw ml mk dq))] H := hP
      have hD : va_D A [(r 7, .inl ((cT 0), 1000, .inl f7)), (mo, .inr (12, mdG r 1 tm (nI sn) (nI tx) (nI lz) (nI az) (nI na) (nI nt) (nI nr) mw ml mk dq))] := hD
      refine lv_if_eq (tgt := 31) hx hb d_Md_name_19 (by decide) (fun hc148 => ?_) (fun hn9 => absurd (by decide) hn9)
      refine lv_iconst (v := 0) hx hb d_Md_name_31 (by decide) ?_
      have hP9 := hP.sub (ws' := [(mo, .inr (12, mdG r 1 tm (nI sn) (nI tx) (nI lz) (nI az) (nI na) (nI nt) (nI nr) mw ml mk dq)), (r 7, .inl ((cT 0), 1000, .inl f7))]) [1, 0] rfl
      have hD9 := hD.sub (ws' := [(mo, .inr (12, mdG r 1 tm (nI sn) (nI tx) (nI lz) (nI az) (nI na) (nI nt) (nI nr) mw ml mk dq)), (r 7, .inl ((cT 0), 1000, .inl f7))]) [1, 0] (by decide) rfl
      exact W.iret (v := 0) hx hb hr (fun t ht hW => ⟨⟨_, ⟨f7, 1, sn⟩, rfl, ⟨by first | assumption | omega, by first | assumption | omega, by first | assumption | omega⟩, by rw [ht]; exact hP9, va_K.moved hW.alike hK, hD9⟩, hS.F ht⟩) hS.2.2 d_Md_name_32
    · skip
      have n146 : xn < 32 := Nat.not_le.mp (fun h7 => hc144 ((nI_leI (a := 32) (b := xn) (by omega) (by omega)).mpr h7))
      refine lv_iconst (v := 1) hx hb d_Md_name_11 (by decide) ?_
      refine lv_goto (tgt := 16) hx hb d_Md_name_12 (by decide) ?_
      have hPc := hP.sub (ws' := [(mo, .inr (12, mdG r cd tm (nI sn) (nI tx) (nI lz) (nI az) (nI na) (nI nt) (nI nr) mw ml mk dq))]) [0] rfl
      have hDc := hD.sub (ws' := [(mo, .inr (12, mdG r cd tm (nI sn) (nI tx) (nI lz) (nI az) (nI na) (nI nt) (nI nr) mw ml mk dq))]) [0] (by decide) rfl
      have hFc := va_free (wc := [(mo, .inr (12, mdG r cd tm (nI sn) (nI tx) (nI lz) (nI az) (nI na) (nI nt) (nI nr) mw ml mk dq))]) hD hS hA [0] rfl
      refine va_calli (va_runV (C := "DoorServerModel") (As := [.int 1]) (rest := []) ⟨hx, hb, hml, hown, hg⟩ (m_goes1 l dC dI cT s.heap.size mo r cd tm sn tx lz az na nt nr mw ml mk dq ) (cwV 1 hg (gI (List.forall_mem_append.mpr ⟨List.forall_mem_cons.mpr ⟨k_1165, List.forall_mem_cons.mpr ⟨k_1167, List.forall_mem_cons.mpr ⟨(big_sel (q := y_Md_goes) (n := 45) (by decide +kernel)), List.forall_mem_cons.mpr ⟨k_13, fun _ h => absurd h List.not_mem_nil⟩⟩⟩⟩, List.forall_mem_cons.mpr ⟨k_1168, fun _ h => h⟩⟩)) rfl rfl rfl (by decide +kernel) ⟨Nat.le_of_ble_eq_true rfl, Nat.le_of_ble_eq_true rfl⟩) ⟨fun a U g mk q => by obtain ⟨q0, q1, qP, qK, qD⟩ := q; exact ⟨q0, q1, qP, va_K.moved (u := U) (U := U.calling g mk a) (Vm.Alike.refl U.vm) qK, qD⟩, va_recv (q0 := 0) (ci := 12) hK hP rfl rfl, fun U hU hW => ⟨rfl, by rw [hU], by rw [hU]; exact hPc, va_K.moved hW.alike hK, hDc.weaken (fun _ _ _ _ => trivial)⟩⟩ rfl rfl hl.1 rfl (lv_room (Nat.le_of_ble_eq_true rfl)) d_Md_name_16 ⟨Nat.le_of_ble_eq_true rfl, Nat.le_of_ble_eq_true rfl⟩) hS (fun q _ h => hFc q h) hFc (fun rv9 u t H1 locs ht hvm hw hB hz1 hk1 hS => ?_)
      try dsimp only at hw hB
      obtain ⟨hP1, hK1, hD1⟩ := hB
      rw [ht] at hP1
      obtain ⟨rfl, hw⟩ := hw
      obtain ⟨hP, hD⟩ := va_join (wr := [(r 7, .inl ((cT 0), 1000, .inl f7))]) (w1 := [(mo, .inr (12, mdG r 0 tm (nI sn) (nI tx) (nI lz) (nI az) (nI na) (nI nt) (nI nr) mw ml mk dq))]) hP hD [0] [1] rfl rfl (by decide) (by decide) hk1 hFc hP1 hD1
      have hw149 := hw
      clear hPc hDc hFc hz1 hk1 hP1 hK1 hD1
      generalize H1 = H at hP hS ⊢
      have hP : va_P (dC, dI) vcl [(r 7, .inl ((cT 0), 1000, .inl f7)), (mo, .inr (12, mdG r 0 tm (nI sn) (nI tx) (nI lz) (nI az) (nI na) (nI nt) (nI nr) mw ml mk dq))] H := hP
      have hD : va_D A [(r 7, .inl ((cT 0), 1000, .inl f7)), (mo, .inr (12, mdG r 0 tm (nI sn) (nI tx) (nI lz) (nI az) (nI na) (nI nt) (nI nr) mw ml mk dq))] := hD
      refine lv_if_eq (tgt := 31) hx hb d_Md_name_19 (by decide) (fun hn9 => absurd hn9 (by decide)) (fun hc150 => ?_)
      refine lv_aload_n hx hb d_Md_name_22 rfl (lv_at hl 0 rfl) ?_
      refine lv_iconst (v := 1) hx hb d_Md_name_23 (by decide) ?_
      refine lv_iconst (v := 3) hx hb d_Md_name_24 (by decide) ?_
      by_cases hrm : sn + 3 + 2 ≤ 1000
      refine lv_topi (fun x152 e151 => ?_)
      obtain rfl : x152 = nI 3 := by rw [e151]; rfl
      · skip
        have hPc := hP.sub (ws' := [(mo, .inr (12, mdG r 0 tm (nI sn) (nI tx) (nI lz) (nI az) (nI na) (nI nt) (nI nr) mw ml mk dq)), (r 7, .inl ((cT 0), 1000, .inl f7))]) [1, 0] rfl
        have hDc := hD.sub (ws' := [(mo, .inr (12, mdG r 0 tm (nI sn) (nI tx) (nI lz) (nI az) (nI na) (nI nt) (nI nr) mw ml mk dq)), (r 7, .inl ((cT 0), 1000, .inl f7))]) [1, 0] (by decide) rfl
        have hFc := va_free (wc := [(mo, .inr (12, mdG r 0 tm (nI sn) (nI tx) (nI lz) (nI az) (nI na) (nI nt) (nI nr) mw ml mk dq)), (r 7, .inl ((cT 0), 1000, .inl f7))]) hD hS hA [1, 0] rfl
        refine va_calli (va_runV (C := "DoorServerModel") (As := [.int 1, .int (nI 3)]) (rest := []) ⟨hx, hb, hml, hown, hg⟩ (m_opens1 l dC dI cT H.size mo r 0 tm sn tx lz az na nt nr mw ml mk dq f7 1 3 (hrm) (by first | assumption | omega)) (cwV 2 hg (gI (List.forall_mem_append.mpr ⟨List.forall_mem_cons.mpr ⟨k_1188, List.forall_mem_cons.mpr ⟨k_1190, List.forall_mem_cons.mpr ⟨(big_sel (q := y_Md_opens) (n := 45) (by decide +kernel)), List.forall_mem_cons.mpr ⟨k_13, fun _ h => absurd h List.not_mem_nil⟩⟩⟩⟩, List.forall_mem_cons.mpr ⟨k_1191, fun _ h => h⟩⟩)) rfl rfl rfl (by decide +kernel) ⟨Nat.le_of_ble_eq_true rfl, Nat.le_of_ble_eq_true rfl⟩) ⟨fun a U g mk q => by obtain ⟨q0, q1, qP, qK, qD⟩ := q; exact ⟨q0, q1, qP, va_K.moved (u := U) (U := U.calling g mk a) (Vm.Alike.refl U.vm) qK, qD⟩, va_recv (q0 := 1) (ci := 12) hK hP rfl rfl, fun U hU hW => ⟨rfl, by rw [hU], by rw [hU]; exact hPc, va_K.moved hW.alike hK, hDc.weaken (fun _ _ _ _ => trivial)⟩⟩ rfl rfl hl.1 rfl (lv_room (Nat.le_of_ble_eq_true rfl)) d_Md_name_25 ⟨Nat.le_of_ble_eq_true rfl, Nat.le_of_ble_eq_true rfl⟩) hS (fun q _ h => hFc q h) hFc (fun rv9 u t H1 locs ht hvm hw hB hz1 hk1 hS => ?_)
        obtain ⟨g7_153, rfl⟩ : ∃ z, z = u := ⟨_, rfl⟩
        try dsimp only at hw hB
        obtain ⟨hP1, hK1, hD1⟩ := hB
        rw [ht] at hP1
        obtain ⟨rfl, hw⟩ := hw
        obtain ⟨hP, hD⟩ := va_join (wr := []) (w1 := [(mo, .inr (12, mdG r 0 tm (nI (sn + 2)) (nI tx) (nI lz) (nI az) (nI na) (nI nt) (nI nr) mw ml mk dq)), (r 7, .inl ((cT 0), 1000, .inl g7_153))]) hP hD [1, 0] [] rfl rfl (by decide) (by decide) hk1 hFc hP1 hD1
        have hw154 := hw
        clear hPc hDc hFc hz1 hk1 hP1 hK1 hD1
        generalize H1 = H at hP hS ⊢
        have hP : va_P (dC, dI) vcl [(mo, .inr (12, mdG r 0 tm (nI (sn + 2)) (nI tx) (nI lz) (nI az) (nI na) (nI nt) (nI nr) mw ml mk dq)), (r 7, .inl ((cT 0), 1000, .inl g7_153))] H := hP
        have hD : va_D A [(mo, .inr (12, mdG r 0 tm (nI (sn + 2)) (nI tx) (nI lz) (nI az) (nI na) (nI nt) (nI nr) mw ml mk dq)), (r 7, .inl ((cT 0), 1000, .inl g7_153))] := hD
        have k155 := hw154
        refine lv_if_ne (tgt := 33) hx hb d_Md_name_28 (by decide) (fun hc156 => ?_) (fun hn9 => absurd hn9 (by decide))
        refine lv_aload_n hx hb d_Md_name_33 rfl (lv_at hl 0 rfl) ?_
        refine lv_bipush (v := 117) hx hb d_Md_name_34 (by decide) ?_
        have hPc := hP.sub (ws' := [(mo, .inr (12, mdG r 0 tm (nI (sn + 2)) (nI tx) (nI lz) (nI az) (nI na) (nI nt) (nI nr) mw ml mk dq)), (r 7, .inl ((cT 0), 1000, .inl g7_153))]) [0, 1] rfl
        have hDc := hD.sub (ws' := [(mo, .inr (12, mdG r 0 tm (nI (sn + 2)) (nI tx) (nI lz) (nI az) (nI na) (nI nt) (nI nr) mw ml mk dq)), (r 7, .inl ((cT 0), 1000, .inl g7_153))]) [0, 1] (by decide) rfl
        have hFc := va_free (wc := [(mo, .inr (12, mdG r 0 tm (nI (sn + 2)) (nI tx) (nI lz) (nI az) (nI na) (nI nt) (nI nr) mw ml mk dq)), (r 7, .inl ((cT 0), 1000, .inl g7_153))]) hD hS hA [0, 1] rfl
        refine va_callv (va_runV (C := "DoorServerModel") (As := [.int 117]) (rest := []) ⟨hx, hb, hml, hown, hg⟩ (m_add l dC dI cT H.size mo r 0 tm (sn + 2) tx lz az na nt nr mw ml mk dq g7_153 117 (by first | assumption | omega) (by first | assumption | omega)) (cwV 1 hg (gI (List.forall_mem_append.mpr ⟨List.forall_mem_cons.mpr ⟨k_1015, List.forall_mem_cons.mpr ⟨k_1017, List.forall_mem_cons.mpr ⟨(big_sel (q := y_Md_add) (n := 45) (by decide +kernel)), List.forall_mem_cons.mpr ⟨k_13, fun _ h => absurd h List.not_mem_nil⟩⟩⟩⟩, List.forall_mem_cons.mpr ⟨k_1018, fun _ h => h⟩⟩)) rfl rfl rfl (by decide +kernel) ⟨Nat.le_of_ble_eq_true rfl, Nat.le_of_ble_eq_true rfl⟩) ⟨fun a U g mk q => by obtain ⟨q0, q1, qP, qK, qD⟩ := q; exact ⟨q0, q1, qP, va_K.moved (u := U) (U := U.calling g mk a) (Vm.Alike.refl U.vm) qK, qD⟩, va_recv (q0 := 0) (ci := 12) hK hP rfl rfl, fun U hU hW => ⟨rfl, by rw [hU], by rw [hU]; exact hPc, va_K.moved hW.alike hK, hDc.weaken (fun _ _ _ _ => trivial)⟩⟩ rfl rfl hl.1 rfl (lv_room (Nat.le_of_ble_eq_true rfl)) d_Md_name_36 ⟨Nat.le_of_ble_eq_true rfl, Nat.le_of_ble_eq_true rfl⟩) hS (fun q _ h => hFc q h) hFc (fun u t H1 locs ht hvm hw hB hz1 hk1 hS => ?_)
        obtain ⟨g7_157, rfl⟩ : ∃ z, z = u := ⟨_, rfl⟩
        try dsimp only at hw hB
        obtain ⟨hP1, hK1, hD1⟩ := hB
        rw [ht] at hP1
        obtain ⟨hP, hD⟩ := va_join (wr := []) (w1 := [(mo, .inr (12, mdG r 0 tm (nI ((sn + 2) + 1)) (nI tx) (nI lz) (nI az) (nI na) (nI nt) (nI nr) mw ml mk dq)), (r 7, .inl ((cT 0), 1000, .inl g7_157))]) hP hD [0, 1] [] rfl rfl (by decide) (by decide) hk1 hFc hP1 hD1
        have hw158 := hw
        clear hPc hDc hFc hz1 hk1 hP1 hK1 hD1
        generalize H1 = H at hP hS ⊢
        have hP : va_P (dC, dI) vcl [(mo, .inr (12, mdG r 0 tm (nI ((sn + 2) + 1)) (nI tx) (nI lz) (nI az) (nI na) (nI nt) (nI nr) mw ml mk dq)), (r 7, .inl ((cT 0), 1000, .inl g7_157))] H := hP
        have hD : va_D A [(mo, .inr (12, mdG r 0 tm (nI ((sn + 2) + 1)) (nI tx) (nI lz) (nI az) (nI na) (nI nt) (nI nr) mw ml mk dq)), (r 7, .inl ((cT 0), 1000, .inl g7_157))] := hD
        have k159 := hw158
        refine lv_aload_n hx hb d_Md_name_39 rfl (lv_at hl 0 rfl) ?_
        refine lv_bipush (v := 48) hx hb d_Md_name_40 (by decide) ?_
        refine lv_iload_n hx hb d_Md_name_42 rfl (lv_at hl 1 rfl) ?_
        refine lv_bipush (v := 10) hx hb d_Md_name_43 (by decide) ?_
        refine lv_idiv hx hb d_Md_name_45 (by decide) ?_
        refine lv_topi (fun x161 e160 => ?_)
        obtain rfl : x161 = nI (xn / 10) := by rw [e160]; exact pk_div (d := 10) (by omega) (by decide) (by decide)
        refine lv_iadd hx hb d_Md_name_46 ?_
        refine lv_topi (fun x163 e162 => ?_)
        obtain rfl : x163 = nI (48 + (xn / 10)) := by rw [e162]; exact nI_add 48 (xn / 10)
        have hPc := hP.sub (ws' := [(mo, .inr (12, mdG r 0 tm (nI ((sn + 2) + 1)) (nI tx) (nI lz) (nI az) (nI na) (nI nt) (nI nr) mw ml mk dq)), (r 7, .inl ((cT 0), 1000, .inl g7_157))]) [0, 1] rfl
        have hDc := hD.sub (ws' := [(mo, .inr (12, mdG r 0 tm (nI ((sn + 2) + 1)) (nI tx) (nI lz) (nI az) (nI na) (nI nt) (nI nr) mw ml mk dq)), (r 7, .inl ((cT 0), 1000, .inl g7_157))]) [0, 1] (by decide) rfl
        have hFc := va_free (wc := [(mo, .inr (12, mdG r 0 tm (nI ((sn + 2) + 1)) (nI tx) (nI lz) (nI az) (nI na) (nI nt) (nI nr) mw ml mk dq)), (r 7, .inl ((cT 0), 1000, .inl g7_157))]) hD hS hA [0, 1] rfl
        refine va_callv (va_runV (C := "DoorServerModel") (As := [.int (nI (48 + (xn / 10)))]) (rest := []) ⟨hx, hb, hml, hown, hg⟩ (m_add l dC dI cT H.size mo r 0 tm ((sn + 2) + 1) tx lz az na nt nr mw ml mk dq g7_157 (nI (48 + (xn / 10))) (by first | assumption | omega) (by first | assumption | omega)) (cwV 1 hg (gI (List.forall_mem_append.mpr ⟨List.forall_mem_cons.mpr ⟨k_1015, List.forall_mem_cons.mpr ⟨k_1017, List.forall_mem_cons.mpr ⟨(big_sel (q := y_Md_add) (n := 45) (by decide +kernel)), List.forall_mem_cons.mpr ⟨k_13, fun _ h => absurd h List.not_mem_nil⟩⟩⟩⟩, List.forall_mem_cons.mpr ⟨k_1018, fun _ h => h⟩⟩)) rfl rfl rfl (by decide +kernel) ⟨Nat.le_of_ble_eq_true rfl, Nat.le_of_ble_eq_true rfl⟩) ⟨fun a U g mk q => by obtain ⟨q0, q1, qP, qK, qD⟩ := q; exact ⟨q0, q1, qP, va_K.moved (u := U) (U := U.calling g mk a) (Vm.Alike.refl U.vm) qK, qD⟩, va_recv (q0 := 0) (ci := 12) hK hP rfl rfl, fun U hU hW => ⟨rfl, by rw [hU], by rw [hU]; exact hPc, va_K.moved hW.alike hK, hDc.weaken (fun _ _ _ _ => trivial)⟩⟩ rfl rfl hl.1 rfl (lv_room (Nat.le_of_ble_eq_true rfl)) d_Md_name_47 ⟨Nat.le_of_ble_eq_true rfl, Nat.le_of_ble_eq_true rfl⟩) hS (fun q _ h => hFc q h) hFc (fun u t H1 locs ht hvm hw hB hz1 hk1 hS => ?_)
        obtain ⟨g7_164, rfl⟩ : ∃ z, z = u := ⟨_, rfl⟩
        try dsimp only at hw hB
        obtain ⟨hP1, hK1, hD1⟩ := hB
        rw [ht] at hP1
        obtain ⟨hP, hD⟩ := va_join (wr := []) (w1 := [(mo, .inr (12, mdG r 0 tm (nI (((sn + 2) + 1) + 1)) (nI tx) (nI lz) (nI az) (nI na) (nI nt) (nI nr) mw ml mk dq)), (r 7, .inl ((cT 0), 1000, .inl g7_164))]) hP hD [0, 1] [] rfl rfl (by decide) (by decide) hk1 hFc hP1 hD1
        have hw165 := hw
        clear hPc hDc hFc hz1 hk1 hP1 hK1 hD1
        generalize H1 = H at hP hS ⊢
        have hP : va_P (dC, dI) vcl [(mo, .inr (12, mdG r 0 tm (nI (((sn + 2) + 1) + 1)) (nI tx) (nI lz) (nI az) (nI na) (nI nt) (nI nr) mw ml mk dq)), (r 7, .inl ((cT 0), 1000, .inl g7_164))] H := hP
        have hD : va_D A [(mo, .inr (12, mdG r 0 tm (nI (((sn + 2) + 1) + 1)) (nI tx) (nI lz) (nI az) (nI na) (nI nt) (nI nr) mw ml mk dq)), (r 7, .inl ((cT 0), 1000, .inl g7_164))] := hD
        have k166 := hw165
        refine lv_aload_n hx hb d_Md_name_50 rfl (lv_at hl 0 rfl) ?_
        refine lv_bipush (v := 48) hx hb d_Md_name_51 (by decide) ?_
        refine lv_iload_n hx hb d_Md_name_53 rfl (lv_at hl 1 rfl) ?_
        refine lv_bipush (v := 10) hx hb d_Md_name_54 (by decide) ?_
        refine lv_irem hx hb d_Md_name_56 (by decide) ?_
        refine lv_topi (fun x168 e167 => ?_)
        obtain rfl : x168 = nI (xn % 10) := by rw [e167]; exact pk_rem (d := 10) (by omega) (by decide) (by decide)
        refine lv_iadd hx hb d_Md_name_57 ?_
        refine lv_topi (fun x170 e169 => ?_)
        obtain rfl : x170 = nI (48 + (xn % 10)) := by rw [e169]; exact nI_add 48 (xn % 10)
        have hPc := hP.sub (ws' := [(mo, .inr (12, mdG r 0 tm (nI (((sn + 2) + 1) + 1)) (nI tx) (nI lz) (nI az) (nI na) (nI nt) (nI nr) mw ml mk dq)), (r 7, .inl ((cT 0), 1000, .inl g7_164))]) [0, 1] rfl
        have hDc := hD.sub (ws' := [(mo, .inr (12, mdG r 0 tm (nI (((sn + 2) + 1) + 1)) (nI tx) (nI lz) (nI az) (nI na) (nI nt) (nI nr) mw ml mk dq)), (r 7, .inl ((cT 0), 1000, .inl g7_164))]) [0, 1] (by decide) rfl
        have hFc := va_free (wc := [(mo, .inr (12, mdG r 0 tm (nI (((sn + 2) + 1) + 1)) (nI tx) (nI lz) (nI az) (nI na) (nI nt) (nI nr) mw ml mk dq)), (r 7, .inl ((cT 0), 1000, .inl g7_164))]) hD hS hA [0, 1] rfl
        refine va_callv (va_runV (C := "DoorServerModel") (As := [.int (nI (48 + (xn % 10)))]) (rest := []) ⟨hx, hb, hml, hown, hg⟩ (m_add l dC dI cT H.size mo r 0 tm (((sn + 2) + 1) + 1) tx lz az na nt nr mw ml mk dq g7_164 (nI (48 + (xn % 10))) (by first | assumption | omega) (by first | assumption | omega)) (cwV 1 hg (gI (List.forall_mem_append.mpr ⟨List.forall_mem_cons.mpr ⟨k_1015, List.forall_mem_cons.mpr ⟨k_1017, List.forall_mem_cons.mpr ⟨(big_sel (q := y_Md_add) (n := 45) (by decide +kernel)), List.forall_mem_cons.mpr ⟨k_13, fun _ h => absurd h List.not_mem_nil⟩⟩⟩⟩, List.forall_mem_cons.mpr ⟨k_1018, fun _ h => h⟩⟩)) rfl rfl rfl (by decide +kernel) ⟨Nat.le_of_ble_eq_true rfl, Nat.le_of_ble_eq_true rfl⟩) ⟨fun a U g mk q => by obtain ⟨q0, q1, qP, qK, qD⟩ := q; exact ⟨q0, q1, qP, va_K.moved (u := U) (U := U.calling g mk a) (Vm.Alike.refl U.vm) qK, qD⟩, va_recv (q0 := 0) (ci := 12) hK hP rfl rfl, fun U hU hW => ⟨rfl, by rw [hU], by rw [hU]; exact hPc, va_K.moved hW.alike hK, hDc.weaken (fun _ _ _ _ => trivial)⟩⟩ rfl rfl hl.1 rfl (lv_room (Nat.le_of_ble_eq_true rfl)) d_Md_name_58 ⟨Nat.le_of_ble_eq_true rfl, Nat.le_of_ble_eq_true rfl⟩) hS (fun q _ h => hFc q h) hFc (fun u t H1 locs ht hvm hw hB hz1 hk1 hS => ?_)
        obtain ⟨g7_171, rfl⟩ : ∃ z, z = u := ⟨_, rfl⟩
        try dsimp only at hw hB
        obtain ⟨hP1, hK1, hD1⟩ := hB
        rw [ht] at hP1
        obtain ⟨hP, hD⟩ := va_join (wr := []) (w1 := [(mo, .inr (12, mdG r 0 tm (nI ((((sn + 2) + 1) + 1) + 1)) (nI tx) (nI lz) (nI az) (nI na) (nI nt) (nI nr) mw ml mk dq)), (r 7, .inl ((cT 0), 1000, .inl g7_171))]) hP hD [0, 1] [] rfl rfl (by decide) (by decide) hk1 hFc hP1 hD1
        have hw172 := hw
        clear hPc hDc hFc hz1 hk1 hP1 hK1 hD1
        generalize H1 = H at hP hS ⊢
        have hP : va_P (dC, dI) vcl [(mo, .inr (12, mdG r 0 tm (nI ((((sn + 2) + 1) + 1) + 1)) (nI tx) (nI lz) (nI az) (nI na) (nI nt) (nI nr) mw ml mk dq)), (r 7, .inl ((cT 0), 1000, .inl g7_171))] H := hP
        have hD : va_D A [(mo, .inr (12, mdG r 0 tm (nI ((((sn + 2) + 1) + 1) + 1)) (nI tx) (nI lz) (nI az) (nI na) (nI nt) (nI nr) mw ml mk dq)), (r 7, .inl ((cT 0), 1000, .inl g7_171))] := hD
        have k173 := hw172
        refine lv_aload_n hx hb d_Md_name_61 rfl (lv_at hl 0 rfl) ?_
        have hPc := hP.sub (ws' := [(mo, .inr (12, mdG r 0 tm (nI ((((sn + 2) + 1) + 1) + 1)) (nI tx) (nI lz) (nI az) (nI na) (nI nt) (nI nr) mw ml mk dq)), (r 7, .inl ((cT 0), 1000, .inl g7_171))]) [0, 1] rfl
        have hDc := hD.sub (ws' := [(mo, .inr (12, mdG r 0 tm (nI ((((sn + 2) + 1) + 1) + 1)) (nI tx) (nI lz) (nI az) (nI na) (nI nt) (nI nr) mw ml mk dq)), (r 7, .inl ((cT 0), 1000, .inl g7_171))]) [0, 1] (by decide) rfl
        have hFc := va_free (wc := [(mo, .inr (12, mdG r 0 tm (nI ((((sn + 2) + 1) + 1) + 1)) (nI tx) (nI lz) (nI az) (nI na) (nI nt) (nI nr) mw ml mk dq)), (r 7, .inl ((cT 0), 1000, .inl g7_171))]) hD hS hA [0, 1] rfl
        refine va_calli (va_runV (C := "DoorServerModel") (As := []) (rest := []) ⟨hx, hb, hml, hown, hg⟩ (m_closes l dC dI cT H.size mo r 0 tm ((((sn + 2) + 1) + 1) + 1) tx lz az na nt nr mw ml mk dq g7_171 (by first | assumption | omega) (by first | assumption | omega)) (cwV 0 hg (gI (List.forall_mem_append.mpr ⟨List.forall_mem_cons.mpr ⟨k_1192, List.forall_mem_cons.mpr ⟨k_1194, List.forall_mem_cons.mpr ⟨(big_sel (q := y_Md_closes) (n := 45) (by decide +kernel)), List.forall_mem_cons.mpr ⟨k_13, fun _ h => absurd h List.not_mem_nil⟩⟩⟩⟩, List.forall_mem_cons.mpr ⟨k_1195, fun _ h => h⟩⟩)) rfl rfl rfl (by decide +kernel) ⟨Nat.le_of_ble_eq_true rfl, Nat.le_of_ble_eq_true rfl⟩) ⟨fun a U g mk q => by obtain ⟨q0, q1, qP, qK, qD⟩ := q; exact ⟨q0, q1, qP, va_K.moved (u := U) (U := U.calling g mk a) (Vm.Alike.refl U.vm) qK, qD⟩, va_recv (q0 := 0) (ci := 12) hK hP rfl rfl, fun U hU hW => ⟨rfl, by rw [hU], by rw [hU]; exact hPc, va_K.moved hW.alike hK, hDc.weaken (fun _ _ _ _ => trivial)⟩⟩ rfl rfl hl.1 rfl (lv_room (Nat.le_of_ble_eq_true rfl)) d_Md_name_62 ⟨Nat.le_of_ble_eq_true rfl, Nat.le_of_ble_eq_true rfl⟩) hS (fun q _ h => hFc q h) hFc (fun rv9 u t H1 locs ht hvm hw hB hz1 hk1 hS => ?_)
        obtain ⟨g7_174, rfl⟩ : ∃ z, z = u := ⟨_, rfl⟩
        try dsimp only at hw hB
        obtain ⟨hP1, hK1, hD1⟩ := hB
        rw [ht] at hP1
        obtain ⟨rfl, hw⟩ := hw
        obtain ⟨hP, hD⟩ := va_join (wr := []) (w1 := [(mo, .inr (12, mdG r 0 tm (nI ((((sn + 2) + 1) + 1) + 1)) (nI tx) (nI lz) (nI az) (nI na) (nI nt) (nI nr) mw ml mk dq)), (r 7, .inl ((cT 0), 1000, .inl g7_174))]) hP hD [0, 1] [] rfl rfl (by decide) (by decide) hk1 hFc hP1 hD1
        have hw175 := hw
        clear hPc hDc hFc hz1 hk1 hP1 hK1 hD1
        generalize H1 = H at hP hS ⊢
        have hP : va_P (dC, dI) vcl [(mo, .inr (12, mdG r 0 tm (nI ((((sn + 2) + 1) + 1) + 1)) (nI tx) (nI lz) (nI az) (nI na) (nI nt) (nI nr) mw ml mk dq)), (r 7, .inl ((cT 0), 1000, .inl g7_174))] H := hP
        have hD : va_D A [(mo, .inr (12, mdG r 0 tm (nI ((((sn + 2) + 1) + 1) + 1)) (nI tx) (nI lz) (nI az) (nI na) (nI nt) (nI nr) mw ml mk dq)), (r 7, .inl ((cT 0), 1000, .inl g7_174))] := hD
        have k176 := hw175
        have hP9 := hP.sub (ws' := [(mo, .inr (12, mdG r 0 tm (nI ((((sn + 2) + 1) + 1) + 1)) (nI tx) (nI lz) (nI az) (nI na) (nI nt) (nI nr) mw ml mk dq)), (r 7, .inl ((cT 0), 1000, .inl g7_174))]) [0, 1] rfl
        have hD9 := hD.sub (ws' := [(mo, .inr (12, mdG r 0 tm (nI ((((sn + 2) + 1) + 1) + 1)) (nI tx) (nI lz) (nI az) (nI na) (nI nt) (nI nr) mw ml mk dq)), (r 7, .inl ((cT 0), 1000, .inl g7_174))]) [0, 1] (by decide) rfl
        exact W.iret (v := nI ((((sn + 2) + 1) + 1) + 1)) hx hb hr (fun t ht hW => ⟨⟨_, ⟨g7_174, 0, (((sn + 2) + 1) + 1) + 1⟩, rfl, ⟨by first | assumption | omega, by first | assumption | omega, by first | assumption | omega⟩, by rw [ht]; exact hP9, va_K.moved hW.alike hK, hD9⟩, hS.F ht⟩) hS.2.2 d_Md_name_65
      · skip
        have hrn : 1000 < sn + 3 + 2 := by omega
        have hPc := hP.sub (ws' := [(mo, .inr (12, mdG r 0 tm (nI sn) (nI tx) (nI lz) (nI az) (nI na) (nI nt) (nI nr) mw ml mk dq))]) [1] rfl
        have hDc := hD.sub (ws' := [(mo, .inr (12, mdG r 0 tm (nI sn) (nI tx) (nI lz) (nI az) (nI na) (nI nt) (nI nr) mw ml mk dq))]) [1] (by decide) rfl
        have hFc := va_free (wc := [(mo, .inr (12, mdG r 0 tm (nI sn) (nI tx) (nI lz) (nI az) (nI na) (nI nt) (nI nr) mw ml mk dq))]) hD hS hA [1] rfl
        refine va_calli (va_runV (C := "DoorServerModel") (As := [.int 1, .int (nI 3)]) (rest := []) ⟨hx, hb, hml, hown, hg⟩ (m_opens0 l dC dI cT H.size mo r 0 tm sn tx lz az na nt nr mw ml mk dq 1 3 (by first | assumption | omega) (by first | assumption | omega) (by first | assumption | omega)) (cwV 2 hg (gI (List.forall_mem_append.mpr ⟨List.forall_mem_cons.mpr ⟨k_1188, List.forall_mem_cons.mpr ⟨k_1190, List.forall_mem_cons.mpr ⟨(big_sel (q := y_Md_opens) (n := 45) (by decide +kernel)), List.forall_mem_cons.mpr ⟨k_13, fun _ h => absurd h List.not_mem_nil⟩⟩⟩⟩, List.forall_mem_cons.mpr ⟨k_1191, fun _ h => h⟩⟩)) rfl rfl rfl (by decide +kernel) ⟨Nat.le_of_ble_eq_true rfl, Nat.le_of_ble_eq_true rfl⟩) ⟨fun a U g mk q => by obtain ⟨q0, q1, qP, qK, qD⟩ := q; exact ⟨q0, q1, qP, va_K.moved (u := U) (U := U.calling g mk a) (Vm.Alike.refl U.vm) qK, qD⟩, va_recv (q0 := 1) (ci := 12) hK hP rfl rfl, fun U hU hW => ⟨rfl, by rw [hU], by rw [hU]; exact hPc, va_K.moved hW.alike hK, hDc.weaken (fun _ _ _ _ => trivial)⟩⟩ rfl rfl hl.1 rfl (lv_room (Nat.le_of_ble_eq_true rfl)) d_Md_name_25 ⟨Nat.le_of_ble_eq_true rfl, Nat.le_of_ble_eq_true rfl⟩) hS (fun q _ h => hFc q h) hFc (fun rv9 u t H1 locs ht hvm hw hB hz1 hk1 hS => ?_)
        try dsimp only at hw hB
        obtain ⟨hP1, hK1, hD1⟩ := hB
        rw [ht] at hP1
        obtain ⟨rfl, hw⟩ := hw
        obtain ⟨hP, hD⟩ := va_join (wr := [(r 7, .inl ((cT 0), 1000, .inl f7))]) (w1 := [(mo, .inr (12, mdG r 2 tm (nI sn) (nI tx) (nI lz) (nI az) (nI na) (nI nt) (nI nr) mw ml mk dq))]) hP hD [1] [0] rfl rfl (by decide) (by decide) hk1 hFc hP1 hD1
        have hw177 := hw
        clear hPc hDc hFc hz1 hk1 hP1 hK1 hD1
        generalize H1 = H at hP hS ⊢
        have hP : va_P (dC, dI) vcl [(r 7, .inl ((cT 0), 1000, .inl f7)), (mo, .inr (12, mdG r 2 tm (nI sn) (nI tx) (nI lz) (nI az) (nI na) (nI nt) (nI nr) mw ml mk dq))] H := hP
        have hD : va_D A [(r 7, .inl ((cT 0), 1000, .inl f7)), (mo, .inr (12, mdG r 2 tm (nI sn) (nI tx) (nI lz) (nI az) (nI na) (nI nt) (nI nr) mw ml mk dq))] := hD
        refine lv_if_ne (tgt := 33) hx hb d_Md_name_28 (by decide) (fun hn9 => absurd hn9 (by decide)) (fun hc178 => ?_)
        refine lv_iconst (v := 0) hx hb d_Md_name_31 (by decide) ?_
        have hP9 := hP.sub (ws' := [(mo, .inr (12, mdG r 2 tm (nI sn) (nI tx) (nI lz) (nI az) (nI na) (nI nt) (nI nr) mw ml mk dq)), (r 7, .inl ((cT 0), 1000, .inl f7))]) [1, 0] rfl
        have hD9 := hD.sub (ws' := [(mo, .inr (12, mdG r 2 tm (nI sn) (nI tx) (nI lz) (nI az) (nI na) (nI nt) (nI nr) mw ml mk dq)), (r 7, .inl ((cT 0), 1000, .inl f7))]) [1, 0] (by decide) rfl
        exact W.iret (v := 0) hx hb hr (fun t ht hW => ⟨⟨_, ⟨f7, 2, sn⟩, rfl, ⟨by first | assumption | omega, by first | assumption | omega, by first | assumption | omega⟩, by rw [ht]; exact hP9, va_K.moved hW.alike hK, hD9⟩, hS.F ht⟩) hS.2.2 d_Md_name_32
set_option maxHeartbeats 4000000 in
set_option maxRecDepth 100000 in
/-- hello -/
theorem u_hello (l : Launch) (dC : Nat → ClassId) (dI : Nat → Nat → Nat) (cT : Nat → ClassId) (sz : Nat) (mo : Nat) (r : Nat → Nat) (cd : Int32) (tm : Int32) (sn : Nat) (tx : Nat) (lz : Nat) (az : Nat) (na : Nat) (nt : Nat) (nr : Nat) (mw : Int32) (ml : Int32) (mk : Int64) (dq : Int64) (f7 : Nat → Int32) (x : Int32) (h20 : 20 ≤ sn) (hsn : sn ≤ 1000) (h7 : AB f7) : Met l y_Md_hello (Cond.code y_Md_hello b_Md_hello 2 (Option.some Jvm.ClassFile.FieldType.int) :: BIG) ({ frames := 2, cells := 0, slots := 0, locals := 45 }) (va_Pc [.ref mo, .int x] (fun U => U.heap.size = sz ∧ va_P (dC, dI) vcl [(mo, .inr (12, mdG r cd tm (nI sn) (nI tx) (nI lz) (nI az) (nI na) (nI nt) (nI nr) mw ml mk dq)), (r 7, .inl ((cT 0), 1000, .inl f7))] U.heap ∧ va_K (dC, dI) vcl (tyL cT) U ∧ va_D (fun _ => True) [(mo, .inr (12, mdG r cd tm (nI sn) (nI tx) (nI lz) (nI az) (nI na) (nI nt) (nI nr) mw ml mk dq)), (r 7, .inl ((cT 0), 1000, .inl f7))])) (va_Qi (S := (Nat → Int32) × Int32 × Nat) (fun rv9 u => match u with | (g7, cd2, sn2) => (20 ≤ sn2) ∧ (sn2 ≤ 1000) ∧ (AB g7)) (fun u t => match u with | (g7, cd2, sn2) => va_P (dC, dI) vcl [(mo, .inr (12, mdG r cd2 tm (nI sn2) (nI tx) (nI lz) (nI az) (nI na) (nI nt) (nI nr) mw ml mk dq)), (r 7, .inl ((cT 0), 1000, .inl g7))] t.heap ∧ va_K (dC, dI) vcl (tyL cT) t ∧ va_D (va_A [(mo, .inr (12, mdG r cd tm (nI sn) (nI tx) (nI lz) (nI az) (nI na) (nI nt) (nI nr) mw ml mk dq)), (r 7, .inl ((cT 0), 1000, .inl f7))] sz) [(mo, .inr (12, mdG r cd2 tm (nI sn2) (nI tx) (nI lz) (nI az) (nI na) (nI nt) (nI nr) mw ml mk dq)), (r 7, .inl ((cT 0), 1000, .inl g7))]) (va_A [(mo, .inr (12, mdG r cd tm (nI sn) (nI tx) (nI lz) (nI az) (nI na) (nI nt) (nI nr) mw ml mk dq)), (r 7, .inl ((cT 0), 1000, .inl f7))] sz)) 0 0 (va_A [(mo, .inr (12, mdG r cd tm (nI sn) (nI tx) (nI lz) (nI az) (nI na) (nI nt) (nI nr) mw ml mk dq)), (r 7, .inl ((cT 0), 1000, .inl f7))] sz) := by
  refine Met.ofW (cc := b_Md_hello) (maxL := 2) (ret := (Option.some Jvm.ClassFile.FieldType.int)) (by decide) rfl ?_
  intro p e s m args below meth c s₁ B hml hv
  obtain ⟨hargs, hsz, hP, hK, hD0⟩ := hv
  have hx := B.exec
  have hb := B.bytes
  have hr := B.returns
  have hts := atoms_spec (ws := (Cond.code y_Md_hello b_Md_hello 2 (Option.some Jvm.ClassFile.FieldType.int) :: BIG)) B.pre
  have hg : ∀ w ∈ BIG, w.before _ s = true := fun w h => hts w (List.mem_cons_of_mem _ h)
  have hown : s.vm.findClass "DoorServerModel" = some m.cls := findClass_of_methodNamed B.named
  have hlocks := B.notSynchronized
  subst hsz
  have hD := hD0.self (sz := s.heap.size)
  generalize hAe : va_A [(mo, .inr (12, mdG r cd tm (nI sn) (nI tx) (nI lz) (nI az) (nI na) (nI nt) (nI nr) mw ml mk dq)), (r 7, .inl ((cT 0), 1000, .inl f7))] s.heap.size = A at hD ⊢
  have hA : ∀ q : Nat, s.heap.size ≤ q → A q := fun q h => by rw [← hAe]; exact Or.inr h
  have hS : va_S A s.heap s.heap [] := va_S.rf
  have hl := lv_entry ([.ref mo, .int x]) (n := 2) (Nat.le_of_ble_eq_true rfl)
  refine W.eq (g2 := entryFrame m (List.toArray [.ref mo, .int x]) 2) (by rw [hargs]) ?_
  rw [lg_entry_eq]
  generalize (lg_sl ([.ref mo, .int x]) ++ List.replicate (2 - (lg_sl ([.ref mo, .int x])).length) Slot.unset).toArray = ls at hl ⊢
  have hl : lv_has ls 2 [(0, .ref mo), (1, .int x)] := hl
  change W p l e ({ frames := 2, cells := 0, slots := 0, locals := 45 } : Room) s m args below meth c s.heap [] 0 0 _ _
  have hP : va_P (dC, dI) vcl [(mo, .inr (12, mdG r cd tm (nI sn) (nI tx) (nI lz) (nI az) (nI na) (nI nt) (nI nr) mw ml mk dq)), (r 7, .inl ((cT 0), 1000, .inl f7))] s.heap := hP
  refine lv_aload_n hx hb d_Md_hello_0 rfl (lv_at hl 0 rfl) ?_
  refine lv_iload_n hx hb d_Md_hello_1 rfl (lv_at hl 1 rfl) ?_
  have hPc := hP.sub (ws' := []) [] rfl
  have hDc := hD.sub (ws' := []) [] (by decide) rfl
  have hFc := va_free (wc := []) hD hS hA [] rfl
  refine va_calli (va_runS (As := [.int x]) (rest := [.ref mo]) ⟨hx, hb, hml, hown, hg⟩ (m_byteT l dC dI cT s.heap.size x ) (va_cwS 1 hg (gI (List.forall_mem_append.mpr ⟨List.forall_mem_cons.mpr ⟨k_1181, List.forall_mem_cons.mpr ⟨k_1182, List.forall_mem_cons.mpr ⟨k_13, fun _ h => absurd h List.not_mem_nil⟩⟩⟩, List.forall_mem_cons.mpr ⟨k_1183, fun _ h => h⟩⟩)) rfl rfl rfl (by decide +kernel) ⟨Nat.le_of_ble_eq_true rfl, Nat.le_of_ble_eq_true rfl⟩) ⟨fun a U g mk q => by obtain ⟨q0, q1, qP, qK, qD⟩ := q; exact ⟨q0, q1, qP, va_K.moved (u := U) (U := U.calling g mk a) (Vm.Alike.refl U.vm) qK, qD⟩, fun U hU hW => ⟨rfl, by rw [hU], by rw [hU]; exact hPc, va_K.moved hW.alike hK, hDc.weaken (fun _ _ _ _ => trivial)⟩⟩ rfl rfl hl.1 rfl (lv_room (Nat.le_of_ble_eq_true rfl)) d_Md_hello_2 ⟨Nat.le_of_ble_eq_true rfl, Nat.le_of_ble_eq_true rfl⟩) hS (fun q _ h => hFc q h) hFc (fun rv9 u t H1 locs ht hvm hw hB hz1 hk1 hS => ?_)
  try dsimp only at hw hB
  obtain ⟨hP1, hK1, hD1⟩ := hB
  rw [ht] at hP1
  generalize rv9 = r179 at hw ⊢
  obtain ⟨hP, hD⟩ := va_join (wr := [(mo, .inr (12, mdG r cd tm (nI sn) (nI tx) (nI lz) (nI az) (nI na) (nI nt) (nI nr) mw ml mk dq)), (r 7, .inl ((cT 0), 1000, .inl f7))]) (w1 := []) hP hD [] [0, 1] rfl rfl (by decide) (by decide) hk1 hFc hP1 hD1
  have hw180 := hw
  clear hPc hDc hFc hz1 hk1 hP1 hK1 hD1
  generalize H1 = H at hP hS ⊢
  have hP : va_P (dC, dI) vcl [(mo, .inr (12, mdG r cd tm (nI sn) (nI tx) (nI lz) (nI az) (nI na) (nI nt) (nI nr) mw ml mk dq)), (r 7, .inl ((cT 0), 1000, .inl f7))] H := hP
  have hD : va_D A [(mo, .inr (12, mdG r cd tm (nI sn) (nI tx) (nI lz) (nI az) (nI na) (nI nt) (nI nr) mw ml mk dq)), (r 7, .inl ((cT 0), 1000, .inl f7))] := hD
  rcases hw180 with h8z | h8z
  · skip
    refine lv_topi (fun x182 e181 => ?_)
    obtain rfl : x182 = 0 := by rw [e181]; exact h8z
    have hPc := hP.sub (ws' := [(mo, .inr (12, mdG r cd tm (nI sn) (nI tx) (nI lz) (nI az) (nI na) (nI nt) (nI nr) mw ml mk dq))]) [0] rfl
    have hDc := hD.sub (ws' := [(mo, .inr (12, mdG r cd tm (nI sn) (nI tx) (nI lz) (nI az) (nI na) (nI nt) (nI nr) mw ml mk dq))]) [0] (by decide) rfl
    have hFc := va_free (wc := [(mo, .inr (12, mdG r cd tm (nI sn) (nI tx) (nI lz) (nI az) (nI na) (nI nt) (nI nr) mw ml mk dq))]) hD hS hA [0] rfl
    refine va_calli (va_runV (C := "DoorServerModel") (As := [.int 0]) (rest := []) ⟨hx, hb, hml, hown, hg⟩ (m_goes0 l dC dI cT H.size mo r cd tm sn tx lz az na nt nr mw ml mk dq ) (cwV 1 hg (gI (List.forall_mem_append.mpr ⟨List.forall_mem_cons.mpr ⟨k_1165, List.forall_mem_cons.mpr ⟨k_1167, List.forall_mem_cons.mpr ⟨(big_sel (q := y_Md_goes) (n := 45) (by decide +kernel)), List.forall_mem_cons.mpr ⟨k_13, fun _ h => absurd h List.not_mem_nil⟩⟩⟩⟩, List.forall_mem_cons.mpr ⟨k_1168, fun _ h => h⟩⟩)) rfl rfl rfl (by decide +kernel) ⟨Nat.le_of_ble_eq_true rfl, Nat.le_of_ble_eq_true rfl⟩) ⟨fun a U g mk q => by obtain ⟨q0, q1, qP, qK, qD⟩ := q; exact ⟨q0, q1, qP, va_K.moved (u := U) (U := U.calling g mk a) (Vm.Alike.refl U.vm) qK, qD⟩, va_recv (q0 := 0) (ci := 12) hK hP rfl rfl, fun U hU hW => ⟨rfl, by rw [hU], by rw [hU]; exact hPc, va_K.moved hW.alike hK, hDc.weaken (fun _ _ _ _ => trivial)⟩⟩ rfl rfl hl.1 rfl (lv_room (Nat.le_of_ble_eq_true rfl)) d_Md_hello_5 ⟨Nat.le_of_ble_eq_true rfl, Nat.le_of_ble_eq_true rfl⟩) hS (fun q _ h => hFc q h) hFc (fun rv9 u t H1 locs ht hvm hw hB hz1 hk1 hS => ?_)
    try dsimp only at hw hB
    obtain ⟨hP1, hK1, hD1⟩ := hB
    rw [ht] at hP1
    obtain ⟨rfl, hw⟩ := hw
    obtain ⟨hP, hD⟩ := va_join (wr := [(r 7, .inl ((cT 0), 1000, .inl f7))]) (w1 := [(mo, .inr (12, mdG r 1 tm (nI sn) (nI tx) (nI lz) (nI az) (nI na) (nI nt) (nI nr) mw ml mk dq))]) hP hD [0] [1] rfl rfl (by decide) (by decide) hk1 hFc hP1 hD1
    have hw183 := hw
    clear hPc hDc hFc hz1 hk1 hP1 hK1 hD1
    generalize H1 = H at hP hS ⊢
    have hP : va_P (dC, dI) vcl [(r 7, .inl ((cT 0), 1000, .inl f7)), (mo, .inr (12, mdG r 1 tm (nI sn) (nI tx) (nI lz) (nI az) (nI na) (nI nt) (nI nr) mw ml mk dq))] H := hP
    have hD : va_D A [(r 7, .inl ((cT 0), 1000, .inl f7)), (mo, .inr (12, mdG r 1 tm (nI sn) (nI tx) (nI lz) (nI az) (nI na) (nI nt) (nI nr) mw ml mk dq))] := hD
    refine lv_if_eq (tgt := 21) hx hb d_Md_hello_8 (by decide) (fun hc184 => ?_) (fun hn9 => absurd (by decide) hn9)
    refine lv_iconst (v := 0) hx hb d_Md_hello_21 (by decide) ?_
    have hP9 := hP.sub (ws' := [(mo, .inr (12, mdG r 1 tm (nI sn) (nI tx) (nI lz) (nI az) (nI na) (nI nt) (nI nr) mw ml mk dq)), (r 7, .inl ((cT 0), 1000, .inl f7))]) [1, 0] rfl
    have hD9 := hD.sub (ws' := [(mo, .inr (12, mdG r 1 tm (nI sn) (nI tx) (nI lz) (nI az) (nI na) (nI nt) (nI nr) mw ml mk dq)), (r 7, .inl ((cT 0), 1000, .inl f7))]) [1, 0] (by decide) rfl
    exact W.iret (v := 0) hx hb hr (fun t ht hW => ⟨⟨_, ⟨f7, 1, sn⟩, rfl, ⟨by first | assumption | omega, by first | assumption | omega, by first | assumption | omega⟩, by rw [ht]; exact hP9, va_K.moved hW.alike hK, hD9⟩, hS.F ht⟩) hS.2.2 d_Md_hello_22
  · skip
    refine lv_topi (fun x186 e185 => ?_)
    obtain rfl : x186 = 1 := by rw [e185]; exact h8z
    have hPc := hP.sub (ws' := [(mo, .inr (12, mdG r cd tm (nI sn) (nI tx) (nI lz) (nI az) (nI na) (nI nt) (nI nr) mw ml mk dq))]) [0] rfl
    have hDc := hD.sub (ws' := [(mo, .inr (12, mdG r cd tm (nI sn) (nI tx) (nI lz) (nI az) (nI na) (nI nt) (nI nr) mw ml mk dq))]) [0] (by decide) rfl
    have hFc := va_free (wc := [(mo, .inr (12, mdG r cd tm (nI sn) (nI tx) (nI lz) (nI az) (nI na) (nI nt) (nI nr) mw ml mk dq))]) hD hS hA [0] rfl
    refine va_calli (va_runV (C := "DoorServerModel") (As := [.int 1]) (rest := []) ⟨hx, hb, hml, hown, hg⟩ (m_goes1 l dC dI cT H.size mo r cd tm sn tx lz az na nt nr mw ml mk dq ) (cwV 1 hg (gI (List.forall_mem_append.mpr ⟨List.forall_mem_cons.mpr ⟨k_1165, List.forall_mem_cons.mpr ⟨k_1167, List.forall_mem_cons.mpr ⟨(big_sel (q := y_Md_goes) (n := 45) (by decide +kernel)), List.forall_mem_cons.mpr ⟨k_13, fun _ h => absurd h List.not_mem_nil⟩⟩⟩⟩, List.forall_mem_cons.mpr ⟨k_1168, fun _ h => h⟩⟩)) rfl rfl rfl (by decide +kernel) ⟨Nat.le_of_ble_eq_true rfl, Nat.le_of_ble_eq_true rfl⟩) ⟨fun a U g mk q => by obtain ⟨q0, q1, qP, qK, qD⟩ := q; exact ⟨q0, q1, qP, va_K.moved (u := U) (U := U.calling g mk a) (Vm.Alike.refl U.vm) qK, qD⟩, va_recv (q0 := 0) (ci := 12) hK hP rfl rfl, fun U hU hW => ⟨rfl, by rw [hU], by rw [hU]; exact hPc, va_K.moved hW.alike hK, hDc.weaken (fun _ _ _ _ => trivial)⟩⟩ rfl rfl hl.1 rfl (lv_room (Nat.le_of_ble_eq_true rfl)) d_Md_hello_5 ⟨Nat.le_of_ble_eq_true rfl, Nat.le_of_ble_eq_true rfl⟩) hS (fun q _ h => hFc q h) hFc (fun rv9 u t H1 locs ht hvm hw hB hz1 hk1 hS => ?_)
    try dsimp only at hw hB
    obtain ⟨hP1, hK1, hD1⟩ := hB
    rw [ht] at hP1
    obtain ⟨rfl, hw⟩ := hw
    obtain ⟨hP, hD⟩ := va_join (wr := [(r 7, .inl ((cT 0), 1000, .inl f7))]) (w1 := [(mo, .inr (12, mdG r 0 tm (nI sn) (nI tx) (nI lz) (nI az) (nI na) (nI nt) (nI nr) mw ml mk dq))]) hP hD [0] [1] rfl rfl (by decide) (by decide) hk1 hFc hP1 hD1
    have hw187 := hw
    clear hPc hDc hFc hz1 hk1 hP1 hK1 hD1
    generalize H1 = H at hP hS ⊢
    have hP : va_P (dC, dI) vcl [(r 7, .inl ((cT 0), 1000, .inl f7)), (mo, .inr (12, mdG r 0 tm (nI sn) (nI tx) (nI lz) (nI az) (nI na) (nI nt) (nI nr) mw ml mk dq))] H := hP
    have hD : va_D A [(r 7, .inl ((cT 0), 1000, .inl f7)), (mo, .inr (12, mdG r 0 tm (nI sn) (nI tx) (nI lz) (nI az) (nI na) (nI nt) (nI nr) mw ml mk dq))] := hD
    refine lv_if_eq (tgt := 21) hx hb d_Md_hello_8 (by decide) (fun hn9 => absurd hn9 (by decide)) (fun hc188 => ?_)
    refine lv_aload_n hx hb d_Md_hello_11 rfl (lv_at hl 0 rfl) ?_
    refine lv_bipush (v := 79) hx hb d_Md_hello_12 (by decide) ?_
    refine lv_iconst (v := 5) hx hb d_Md_hello_14 (by decide) ?_
    by_cases hrm : sn + 5 + 2 ≤ 1000
    refine lv_topi (fun x190 e189 => ?_)
    obtain rfl : x190 = nI 5 := by rw [e189]; rfl
    · skip
      have hPc := hP.sub (ws' := [(mo, .inr (12, mdG r 0 tm (nI sn) (nI tx) (nI lz) (nI az) (nI na) (nI nt) (nI nr) mw ml mk dq)), (r 7, .inl ((cT 0), 1000, .inl f7))]) [1, 0] rfl
      have hDc := hD.sub (ws' := [(mo, .inr (12, mdG r 0 tm (nI sn) (nI tx) (nI lz) (nI az) (nI na) (nI nt) (nI nr) mw ml mk dq)), (r 7, .inl ((cT 0), 1000, .inl f7))]) [1, 0] (by decide) rfl
      have hFc := va_free (wc := [(mo, .inr (12, mdG r 0 tm (nI sn) (nI tx) (nI lz) (nI az) (nI na) (nI nt) (nI nr) mw ml mk dq)), (r 7, .inl ((cT 0), 1000, .inl f7))]) hD hS hA [1, 0] rfl
      refine va_calli (va_runV (C := "DoorServerModel") (As := [.int 79, .int (nI 5)]) (rest := []) ⟨hx, hb, hml, hown, hg⟩ (m_opens1 l dC dI cT H.size mo r 0 tm sn tx lz az na nt nr mw ml mk dq f7 79 5 (hrm) (by first | assumption | omega)) (cwV 2 hg (gI (List.forall_mem_append.mpr ⟨List.forall_mem_cons.mpr ⟨k_1188, List.forall_mem_cons.mpr ⟨k_1190, List.forall_mem_cons.mpr ⟨(big_sel (q := y_Md_opens) (n := 45) (by decide +kernel)), List.forall_mem_cons.mpr ⟨k_13, fun _ h => absurd h List.not_mem_nil⟩⟩⟩⟩, List.forall_mem_cons.mpr ⟨k_1191, fun _ h => h⟩⟩)) rfl rfl rfl (by decide +kernel) ⟨Nat.le_of_ble_eq_true rfl, Nat.le_of_ble_eq_true rfl⟩) ⟨fun a U g mk q => by obtain ⟨q0, q1, qP, qK, qD⟩ := q; exact ⟨q0, q1, qP, va_K.moved (u := U) (U := U.calling g mk a) (Vm.Alike.refl U.vm) qK, qD⟩, va_recv (q0 := 1) (ci := 12) hK hP rfl rfl, fun U hU hW => ⟨rfl, by rw [hU], by rw [hU]; exact hPc, va_K.moved hW.alike hK, hDc.weaken (fun _ _ _ _ => trivial)⟩⟩ rfl rfl hl.1 rfl (lv_room (Nat.le_of_ble_eq_true rfl)) d_Md_hello_15 ⟨Nat.le_of_ble_eq_true rfl, Nat.le_of_ble_eq_true rfl⟩) hS (fun q _ h => hFc q h) hFc (fun rv9 u t H1 locs ht hvm hw hB hz1 hk1 hS => ?_)
      obtain ⟨g7_191, rfl⟩ : ∃ z, z = u := ⟨_, rfl⟩
      try dsimp only at hw hB
      obtain ⟨hP1, hK1, hD1⟩ := hB
      rw [ht] at hP1
      obtain ⟨rfl, hw⟩ := hw
      obtain ⟨hP, hD⟩ := va_join (wr := []) (w1 := [(mo, .inr (12, mdG r 0 tm (nI (sn + 2)) (nI tx) (nI lz) (nI az) (nI na) (nI nt) (nI nr) mw ml mk dq)), (r 7, .inl ((cT 0), 1000, .inl g7_191))]) hP hD [1, 0] [] rfl rfl (by decide) (by decide) hk1 hFc hP1 hD1
      have hw192 := hw
      clear hPc hDc hFc hz1 hk1 hP1 hK1 hD1
      generalize H1 = H at hP hS ⊢
      have hP : va_P (dC, dI) vcl [(mo, .inr (12, mdG r 0 tm (nI (sn + 2)) (nI tx) (nI lz) (nI az) (nI na) (nI nt) (nI nr) mw ml mk dq)), (r 7, .inl ((cT 0), 1000, .inl g7_191))] H := hP
      have hD : va_D A [(mo, .inr (12, mdG r 0 tm (nI (sn + 2)) (nI tx) (nI lz) (nI az) (nI na) (nI nt) (nI nr) mw ml mk dq)), (r 7, .inl ((cT 0), 1000, .inl g7_191))] := hD
      have k193 := hw192
      refine lv_if_ne (tgt := 23) hx hb d_Md_hello_18 (by decide) (fun hc194 => ?_) (fun hn9 => absurd hn9 (by decide))
      refine lv_aload_n hx hb d_Md_hello_23 rfl (lv_at hl 0 rfl) ?_
      refine lv_iconst (v := 2) hx hb d_Md_hello_24 (by decide) ?_
      have hPc := hP.sub (ws' := [(mo, .inr (12, mdG r 0 tm (nI (sn + 2)) (nI tx) (nI lz) (nI az) (nI na) (nI nt) (nI nr) mw ml mk dq)), (r 7, .inl ((cT 0), 1000, .inl g7_191))]) [0, 1] rfl
      have hDc := hD.sub (ws' := [(mo, .inr (12, mdG r 0 tm (nI (sn + 2)) (nI tx) (nI lz) (nI az) (nI na) (nI nt) (nI nr) mw ml mk dq)), (r 7, .inl ((cT 0), 1000, .inl g7_191))]) [0, 1] (by decide) rfl
      have hFc := va_free (wc := [(mo, .inr (12, mdG r 0 tm (nI (sn + 2)) (nI tx) (nI lz) (nI az) (nI na) (nI nt) (nI nr) mw ml mk dq)), (r 7, .inl ((cT 0), 1000, .inl g7_191))]) hD hS hA [0, 1] rfl
      refine va_callv (va_runV (C := "DoorServerModel") (As := [.int 2]) (rest := []) ⟨hx, hb, hml, hown, hg⟩ (m_add l dC dI cT H.size mo r 0 tm (sn + 2) tx lz az na nt nr mw ml mk dq g7_191 2 (by first | assumption | omega) (by first | assumption | omega)) (cwV 1 hg (gI (List.forall_mem_append.mpr ⟨List.forall_mem_cons.mpr ⟨k_1015, List.forall_mem_cons.mpr ⟨k_1017, List.forall_mem_cons.mpr ⟨(big_sel (q := y_Md_add) (n := 45) (by decide +kernel)), List.forall_mem_cons.mpr ⟨k_13, fun _ h => absurd h List.not_mem_nil⟩⟩⟩⟩, List.forall_mem_cons.mpr ⟨k_1018, fun _ h => h⟩⟩)) rfl rfl rfl (by decide +kernel) ⟨Nat.le_of_ble_eq_true rfl, Nat.le_of_ble_eq_true rfl⟩) ⟨fun a U g mk q => by obtain ⟨q0, q1, qP, qK, qD⟩ := q; exact ⟨q0, q1, qP, va_K.moved (u := U) (U := U.calling g mk a) (Vm.Alike.refl U.vm) qK, qD⟩, va_recv (q0 := 0) (ci := 12) hK hP rfl rfl, fun U hU hW => ⟨rfl, by rw [hU], by rw [hU]; exact hPc, va_K.moved hW.alike hK, hDc.weaken (fun _ _ _ _ => trivial)⟩⟩ rfl rfl hl.1 rfl (lv_room (Nat.le_of_ble_eq_true rfl)) d_Md_hello_25 ⟨Nat.le_of_ble_eq_true rfl, Nat.le_of_ble_eq_true rfl⟩) hS (fun q _ h => hFc q h) hFc (fun u t H1 locs ht hvm hw hB hz1 hk1 hS => ?_)
      obtain ⟨g7_195, rfl⟩ : ∃ z, z = u := ⟨_, rfl⟩
      try dsimp only at hw hB
      obtain ⟨hP1, hK1, hD1⟩ := hB
      rw [ht] at hP1
      obtain ⟨hP, hD⟩ := va_join (wr := []) (w1 := [(mo, .inr (12, mdG r 0 tm (nI ((sn + 2) + 1)) (nI tx) (nI lz) (nI az) (nI na) (nI nt) (nI nr) mw ml mk dq)), (r 7, .inl ((cT 0), 1000, .inl g7_195))]) hP hD [0, 1] [] rfl rfl (by decide) (by decide) hk1 hFc hP1 hD1
      have hw196 := hw
      clear hPc hDc hFc hz1 hk1 hP1 hK1 hD1
      generalize H1 = H at hP hS ⊢
      have hP : va_P (dC, dI) vcl [(mo, .inr (12, mdG r 0 tm (nI ((sn + 2) + 1)) (nI tx) (nI lz) (nI az) (nI na) (nI nt) (nI nr) mw ml mk dq)), (r 7, .inl ((cT 0), 1000, .inl g7_195))] H := hP
      have hD : va_D A [(mo, .inr (12, mdG r 0 tm (nI ((sn + 2) + 1)) (nI tx) (nI lz) (nI az) (nI na) (nI nt) (nI nr) mw ml mk dq)), (r 7, .inl ((cT 0), 1000, .inl g7_195))] := hD
      have k197 := hw196
      refine lv_aload_n hx hb d_Md_hello_28 rfl (lv_at hl 0 rfl) ?_
      refine lv_iload_n hx hb d_Md_hello_29 rfl (lv_at hl 1 rfl) ?_
      have hPc := hP.sub (ws' := [(mo, .inr (12, mdG r 0 tm (nI ((sn + 2) + 1)) (nI tx) (nI lz) (nI az) (nI na) (nI nt) (nI nr) mw ml mk dq)), (r 7, .inl ((cT 0), 1000, .inl g7_195))]) [0, 1] rfl
      have hDc := hD.sub (ws' := [(mo, .inr (12, mdG r 0 tm (nI ((sn + 2) + 1)) (nI tx) (nI lz) (nI az) (nI na) (nI nt) (nI nr) mw ml mk dq)), (r 7, .inl ((cT 0), 1000, .inl g7_195))]) [0, 1] (by decide) rfl
      have hFc := va_free (wc := [(mo, .inr (12, mdG r 0 tm (nI ((sn + 2) + 1)) (nI tx) (nI lz) (nI az) (nI na) (nI nt) (nI nr) mw ml mk dq)), (r 7, .inl ((cT 0), 1000, .inl g7_195))]) hD hS hA [0, 1] rfl
      refine va_callv (va_runV (C := "DoorServerModel") (As := [.int x]) (rest := []) ⟨hx, hb, hml, hown, hg⟩ (m_add l dC dI cT H.size mo r 0 tm ((sn + 2) + 1) tx lz az na nt nr mw ml mk dq g7_195 x (by first | assumption | omega) (by first | assumption | omega)) (cwV 1 hg (gI (List.forall_mem_append.mpr ⟨List.forall_mem_cons.mpr ⟨k_1015, List.forall_mem_cons.mpr ⟨k_1017, List.forall_mem_cons.mpr ⟨(big_sel (q := y_Md_add) (n := 45) (by decide +kernel)), List.forall_mem_cons.mpr ⟨k_13, fun _ h => absurd h List.not_mem_nil⟩⟩⟩⟩, List.forall_mem_cons.mpr ⟨k_1018, fun _ h => h⟩⟩)) rfl rfl rfl (by decide +kernel) ⟨Nat.le_of_ble_eq_true rfl, Nat.le_of_ble_eq_true rfl⟩) ⟨fun a U g mk q => by obtain ⟨q0, q1, qP, qK, qD⟩ := q; exact ⟨q0, q1, qP, va_K.moved (u := U) (U := U.calling g mk a) (Vm.Alike.refl U.vm) qK, qD⟩, va_recv (q0 := 0) (ci := 12) hK hP rfl rfl, fun U hU hW => ⟨rfl, by rw [hU], by rw [hU]; exact hPc, va_K.moved hW.alike hK, hDc.weaken (fun _ _ _ _ => trivial)⟩⟩ rfl rfl hl.1 rfl (lv_room (Nat.le_of_ble_eq_true rfl)) d_Md_hello_30 ⟨Nat.le_of_ble_eq_true rfl, Nat.le_of_ble_eq_true rfl⟩) hS (fun q _ h => hFc q h) hFc (fun u t H1 locs ht hvm hw hB hz1 hk1 hS => ?_)
      obtain ⟨g7_198, rfl⟩ : ∃ z, z = u := ⟨_, rfl⟩
      try dsimp only at hw hB
      obtain ⟨hP1, hK1, hD1⟩ := hB
      rw [ht] at hP1
      obtain ⟨hP, hD⟩ := va_join (wr := []) (w1 := [(mo, .inr (12, mdG r 0 tm (nI (((sn + 2) + 1) + 1)) (nI tx) (nI lz) (nI az) (nI na) (nI nt) (nI nr) mw ml mk dq)), (r 7, .inl ((cT 0), 1000, .inl g7_198))]) hP hD [0, 1] [] rfl rfl (by decide) (by decide) hk1 hFc hP1 hD1
      have hw199 := hw
      clear hPc hDc hFc hz1 hk1 hP1 hK1 hD1
      generalize H1 = H at hP hS ⊢
      have hP : va_P (dC, dI) vcl [(mo, .inr (12, mdG r 0 tm (nI (((sn + 2) + 1) + 1)) (nI tx) (nI lz) (nI az) (nI na) (nI nt) (nI nr) mw ml mk dq)), (r 7, .inl ((cT 0), 1000, .inl g7_198))] H := hP
      have hD : va_D A [(mo, .inr (12, mdG r 0 tm (nI (((sn + 2) + 1) + 1)) (nI tx) (nI lz) (nI az) (nI na) (nI nt) (nI nr) mw ml mk dq)), (r 7, .inl ((cT 0), 1000, .inl g7_198))] := hD
      have k200 := hw199
      refine lv_aload_n hx hb d_Md_hello_33 rfl (lv_at hl 0 rfl) ?_
      refine lv_iconst (v := 0) hx hb d_Md_hello_34 (by decide) ?_
      have hPc := hP.sub (ws' := [(mo, .inr (12, mdG r 0 tm (nI (((sn + 2) + 1) + 1)) (nI tx) (nI lz) (nI az) (nI na) (nI nt) (nI nr) mw ml mk dq)), (r 7, .inl ((cT 0), 1000, .inl g7_198))]) [0, 1] rfl
      have hDc := hD.sub (ws' := [(mo, .inr (12, mdG r 0 tm (nI (((sn + 2) + 1) + 1)) (nI tx) (nI lz) (nI az) (nI na) (nI nt) (nI nr) mw ml mk dq)), (r 7, .inl ((cT 0), 1000, .inl g7_198))]) [0, 1] (by decide) rfl
      have hFc := va_free (wc := [(mo, .inr (12, mdG r 0 tm (nI (((sn + 2) + 1) + 1)) (nI tx) (nI lz) (nI az) (nI na) (nI nt) (nI nr) mw ml mk dq)), (r 7, .inl ((cT 0), 1000, .inl g7_198))]) hD hS hA [0, 1] rfl
      refine va_callv (va_runV (C := "DoorServerModel") (As := [.int 0]) (rest := []) ⟨hx, hb, hml, hown, hg⟩ (m_add l dC dI cT H.size mo r 0 tm (((sn + 2) + 1) + 1) tx lz az na nt nr mw ml mk dq g7_198 0 (by first | assumption | omega) (by first | assumption | omega)) (cwV 1 hg (gI (List.forall_mem_append.mpr ⟨List.forall_mem_cons.mpr ⟨k_1015, List.forall_mem_cons.mpr ⟨k_1017, List.forall_mem_cons.mpr ⟨(big_sel (q := y_Md_add) (n := 45) (by decide +kernel)), List.forall_mem_cons.mpr ⟨k_13, fun _ h => absurd h List.not_mem_nil⟩⟩⟩⟩, List.forall_mem_cons.mpr ⟨k_1018, fun _ h => h⟩⟩)) rfl rfl rfl (by decide +kernel) ⟨Nat.le_of_ble_eq_true rfl, Nat.le_of_ble_eq_true rfl⟩) ⟨fun a U g mk q => by obtain ⟨q0, q1, qP, qK, qD⟩ := q; exact ⟨q0, q1, qP, va_K.moved (u := U) (U := U.calling g mk a) (Vm.Alike.refl U.vm) qK, qD⟩, va_recv (q0 := 0) (ci := 12) hK hP rfl rfl, fun U hU hW => ⟨rfl, by rw [hU], by rw [hU]; exact hPc, va_K.moved hW.alike hK, hDc.weaken (fun _ _ _ _ => trivial)⟩⟩ rfl rfl hl.1 rfl (lv_room (Nat.le_of_ble_eq_true rfl)) d_Md_hello_35 ⟨Nat.le_of_ble_eq_true rfl, Nat.le_of_ble_eq_true rfl⟩) hS (fun q _ h => hFc q h) hFc (fun u t H1 locs ht hvm hw hB hz1 hk1 hS => ?_)
      obtain ⟨g7_201, rfl⟩ : ∃ z, z = u := ⟨_, rfl⟩
      try dsimp only at hw hB
      obtain ⟨hP1, hK1, hD1⟩ := hB
      rw [ht] at hP1
      obtain ⟨hP, hD⟩ := va_join (wr := []) (w1 := [(mo, .inr (12, mdG r 0 tm (nI ((((sn + 2) + 1) + 1) + 1)) (nI tx) (nI lz) (nI az) (nI na) (nI nt) (nI nr) mw ml mk dq)), (r 7, .inl ((cT 0), 1000, .inl g7_201))]) hP hD [0, 1] [] rfl rfl (by decide) (by decide) hk1 hFc hP1 hD1
      have hw202 := hw
      clear hPc hDc hFc hz1 hk1 hP1 hK1 hD1
      generalize H1 = H at hP hS ⊢
      have hP : va_P (dC, dI) vcl [(mo, .inr (12, mdG r 0 tm (nI ((((sn + 2) + 1) + 1) + 1)) (nI tx) (nI lz) (nI az) (nI na) (nI nt) (nI nr) mw ml mk dq)), (r 7, .inl ((cT 0), 1000, .inl g7_201))] H := hP
      have hD : va_D A [(mo, .inr (12, mdG r 0 tm (nI ((((sn + 2) + 1) + 1) + 1)) (nI tx) (nI lz) (nI az) (nI na) (nI nt) (nI nr) mw ml mk dq)), (r 7, .inl ((cT 0), 1000, .inl g7_201))] := hD
      have k203 := hw202
      refine lv_aload_n hx hb d_Md_hello_38 rfl (lv_at hl 0 rfl) ?_
      refine lv_iconst (v := 5) hx hb d_Md_hello_39 (by decide) ?_
      have hPc := hP.sub (ws' := [(mo, .inr (12, mdG r 0 tm (nI ((((sn + 2) + 1) + 1) + 1)) (nI tx) (nI lz) (nI az) (nI na) (nI nt) (nI nr) mw ml mk dq)), (r 7, .inl ((cT 0), 1000, .inl g7_201))]) [0, 1] rfl
      have hDc := hD.sub (ws' := [(mo, .inr (12, mdG r 0 tm (nI ((((sn + 2) + 1) + 1) + 1)) (nI tx) (nI lz) (nI az) (nI na) (nI nt) (nI nr) mw ml mk dq)), (r 7, .inl ((cT 0), 1000, .inl g7_201))]) [0, 1] (by decide) rfl
      have hFc := va_free (wc := [(mo, .inr (12, mdG r 0 tm (nI ((((sn + 2) + 1) + 1) + 1)) (nI tx) (nI lz) (nI az) (nI na) (nI nt) (nI nr) mw ml mk dq)), (r 7, .inl ((cT 0), 1000, .inl g7_201))]) hD hS hA [0, 1] rfl
      refine va_callv (va_runV (C := "DoorServerModel") (As := [.int 5]) (rest := []) ⟨hx, hb, hml, hown, hg⟩ (m_add l dC dI cT H.size mo r 0 tm ((((sn + 2) + 1) + 1) + 1) tx lz az na nt nr mw ml mk dq g7_201 5 (by first | assumption | omega) (by first | assumption | omega)) (cwV 1 hg (gI (List.forall_mem_append.mpr ⟨List.forall_mem_cons.mpr ⟨k_1015, List.forall_mem_cons.mpr ⟨k_1017, List.forall_mem_cons.mpr ⟨(big_sel (q := y_Md_add) (n := 45) (by decide +kernel)), List.forall_mem_cons.mpr ⟨k_13, fun _ h => absurd h List.not_mem_nil⟩⟩⟩⟩, List.forall_mem_cons.mpr ⟨k_1018, fun _ h => h⟩⟩)) rfl rfl rfl (by decide +kernel) ⟨Nat.le_of_ble_eq_true rfl, Nat.le_of_ble_eq_true rfl⟩) ⟨fun a U g mk q => by obtain ⟨q0, q1, qP, qK, qD⟩ := q; exact ⟨q0, q1, qP, va_K.moved (u := U) (U := U.calling g mk a) (Vm.Alike.refl U.vm) qK, qD⟩, va_recv (q0 := 0) (ci := 12) hK hP rfl rfl, fun U hU hW => ⟨rfl, by rw [hU], by rw [hU]; exact hPc, va_K.moved hW.alike hK, hDc.weaken (fun _ _ _ _ => trivial)⟩⟩ rfl rfl hl.1 rfl (lv_room (Nat.le_of_ble_eq_true rfl)) d_Md_hello_40 ⟨Nat.le_of_ble_eq_true rfl, Nat.le_of_ble_eq_true rfl⟩) hS (fun q _ h => hFc q h) hFc (fun u t H1 locs ht hvm hw hB hz1 hk1 hS => ?_)
      obtain ⟨g7_204, rfl⟩ : ∃ z, z = u := ⟨_, rfl⟩
      try dsimp only at hw hB
      obtain ⟨hP1, hK1, hD1⟩ := hB
      rw [ht] at hP1
      obtain ⟨hP, hD⟩ := va_join (wr := []) (w1 := [(mo, .inr (12, mdG r 0 tm (nI (((((sn + 2) + 1) + 1) + 1) + 1)) (nI tx) (nI lz) (nI az) (nI na) (nI nt) (nI nr) mw ml mk dq)), (r 7, .inl ((cT 0), 1000, .inl g7_204))]) hP hD [0, 1] [] rfl rfl (by decide) (by decide) hk1 hFc hP1 hD1
      have hw205 := hw
      clear hPc hDc hFc hz1 hk1 hP1 hK1 hD1
      generalize H1 = H at hP hS ⊢
      have hP : va_P (dC, dI) vcl [(mo, .inr (12, mdG r 0 tm (nI (((((sn + 2) + 1) + 1) + 1) + 1)) (nI tx) (nI lz) (nI az) (nI na) (nI nt) (nI nr) mw ml mk dq)), (r 7, .inl ((cT 0), 1000, .inl g7_204))] H := hP
      have hD : va_D A [(mo, .inr (12, mdG r 0 tm (nI (((((sn + 2) + 1) + 1) + 1) + 1)) (nI tx) (nI lz) (nI az) (nI na) (nI nt) (nI nr) mw ml mk dq)), (r 7, .inl ((cT 0), 1000, .inl g7_204))] := hD
      have k206 := hw205
      refine lv_aload_n hx hb d_Md_hello_43 rfl (lv_at hl 0 rfl) ?_
      refine lv_iconst (v := 1) hx hb d_Md_hello_44 (by decide) ?_
      have hPc := hP.sub (ws' := [(mo, .inr (12, mdG r 0 tm (nI (((((sn + 2) + 1) + 1) + 1) + 1)) (nI tx) (nI lz) (nI az) (nI na) (nI nt) (nI nr) mw ml mk dq)), (r 7, .inl ((cT 0), 1000, .inl g7_204))]) [0, 1] rfl
      have hDc := hD.sub (ws' := [(mo, .inr (12, mdG r 0 tm (nI (((((sn + 2) + 1) + 1) + 1) + 1)) (nI tx) (nI lz) (nI az) (nI na) (nI nt) (nI nr) mw ml mk dq)), (r 7, .inl ((cT 0), 1000, .inl g7_204))]) [0, 1] (by decide) rfl
      have hFc := va_free (wc := [(mo, .inr (12, mdG r 0 tm (nI (((((sn + 2) + 1) + 1) + 1) + 1)) (nI tx) (nI lz) (nI az) (nI na) (nI nt) (nI nr) mw ml mk dq)), (r 7, .inl ((cT 0), 1000, .inl g7_204))]) hD hS hA [0, 1] rfl
      refine va_callv (va_runV (C := "DoorServerModel") (As := [.int 1]) (rest := []) ⟨hx, hb, hml, hown, hg⟩ (m_add l dC dI cT H.size mo r 0 tm (((((sn + 2) + 1) + 1) + 1) + 1) tx lz az na nt nr mw ml mk dq g7_204 1 (by first | assumption | omega) (by first | assumption | omega)) (cwV 1 hg (gI (List.forall_mem_append.mpr ⟨List.forall_mem_cons.mpr ⟨k_1015, List.forall_mem_cons.mpr ⟨k_1017, List.forall_mem_cons.mpr ⟨(big_sel (q := y_Md_add) (n := 45) (by decide +kernel)), List.forall_mem_cons.mpr ⟨k_13, fun _ h => absurd h List.not_mem_nil⟩⟩⟩⟩, List.forall_mem_cons.mpr ⟨k_1018, fun _ h => h⟩⟩)) rfl rfl rfl (by decide +kernel) ⟨Nat.le_of_ble_eq_true rfl, Nat.le_of_ble_eq_true rfl⟩) ⟨fun a U g mk q => by obtain ⟨q0, q1, qP, qK, qD⟩ := q; exact ⟨q0, q1, qP, va_K.moved (u := U) (U := U.calling g mk a) (Vm.Alike.refl U.vm) qK, qD⟩, va_recv (q0 := 0) (ci := 12) hK hP rfl rfl, fun U hU hW => ⟨rfl, by rw [hU], by rw [hU]; exact hPc, va_K.moved hW.alike hK, hDc.weaken (fun _ _ _ _ => trivial)⟩⟩ rfl rfl hl.1 rfl (lv_room (Nat.le_of_ble_eq_true rfl)) d_Md_hello_45 ⟨Nat.le_of_ble_eq_true rfl, Nat.le_of_ble_eq_true rfl⟩) hS (fun q _ h => hFc q h) hFc (fun u t H1 locs ht hvm hw hB hz1 hk1 hS => ?_)
      obtain ⟨g7_207, rfl⟩ : ∃ z, z = u := ⟨_, rfl⟩
      try dsimp only at hw hB
      obtain ⟨hP1, hK1, hD1⟩ := hB
      rw [ht] at hP1
      obtain ⟨hP, hD⟩ := va_join (wr := []) (w1 := [(mo, .inr (12, mdG r 0 tm (nI ((((((sn + 2) + 1) + 1) + 1) + 1) + 1)) (nI tx) (nI lz) (nI az) (nI na) (nI nt) (nI nr) mw ml mk dq)), (r 7, .inl ((cT 0), 1000, .inl g7_207))]) hP hD [0, 1] [] rfl rfl (by decide) (by decide) hk1 hFc hP1 hD1
      have hw208 := hw
      clear hPc hDc hFc hz1 hk1 hP1 hK1 hD1
      generalize H1 = H at hP hS ⊢
      have hP : va_P (dC, dI) vcl [(mo, .inr (12, mdG r 0 tm (nI ((((((sn + 2) + 1) + 1) + 1) + 1) + 1)) (nI tx) (nI lz) (nI az) (nI na) (nI nt) (nI nr) mw ml mk dq)), (r 7, .inl ((cT 0), 1000, .inl g7_207))] H := hP
      have hD : va_D A [(mo, .inr (12, mdG r 0 tm (nI ((((((sn + 2) + 1) + 1) + 1) + 1) + 1)) (nI tx) (nI lz) (nI az) (nI na) (nI nt) (nI nr) mw ml mk dq)), (r 7, .inl ((cT 0), 1000, .inl g7_207))] := hD
      have k209 := hw208
      refine lv_aload_n hx hb d_Md_hello_48 rfl (lv_at hl 0 rfl) ?_
      have hPc := hP.sub (ws' := [(mo, .inr (12, mdG r 0 tm (nI ((((((sn + 2) + 1) + 1) + 1) + 1) + 1)) (nI tx) (nI lz) (nI az) (nI na) (nI nt) (nI nr) mw ml mk dq)), (r 7, .inl ((cT 0), 1000, .inl g7_207))]) [0, 1] rfl
      have hDc := hD.sub (ws' := [(mo, .inr (12, mdG r 0 tm (nI ((((((sn + 2) + 1) + 1) + 1) + 1) + 1)) (nI tx) (nI lz) (nI az) (nI na) (nI nt) (nI nr) mw ml mk dq)), (r 7, .inl ((cT 0), 1000, .inl g7_207))]) [0, 1] (by decide) rfl
      have hFc := va_free (wc := [(mo, .inr (12, mdG r 0 tm (nI ((((((sn + 2) + 1) + 1) + 1) + 1) + 1)) (nI tx) (nI lz) (nI az) (nI na) (nI nt) (nI nr) mw ml mk dq)), (r 7, .inl ((cT 0), 1000, .inl g7_207))]) hD hS hA [0, 1] rfl
      refine va_calli (va_runV (C := "DoorServerModel") (As := []) (rest := []) ⟨hx, hb, hml, hown, hg⟩ (m_closes l dC dI cT H.size mo r 0 tm ((((((sn + 2) + 1) + 1) + 1) + 1) + 1) tx lz az na nt nr mw ml mk dq g7_207 (by first | assumption | omega) (by first | assumption | omega)) (cwV 0 hg (gI (List.forall_mem_append.mpr ⟨List.forall_mem_cons.mpr ⟨k_1192, List.forall_mem_cons.mpr ⟨k_1194, List.forall_mem_cons.mpr ⟨(big_sel (q := y_Md_closes) (n := 45) (by decide +kernel)), List.forall_mem_cons.mpr ⟨k_13, fun _ h => absurd h List.not_mem_nil⟩⟩⟩⟩, List.forall_mem_cons.mpr ⟨k_1195, fun _ h => h⟩⟩)) rfl rfl rfl (by decide +kernel) ⟨Nat.le_of_ble_eq_true rfl, Nat.le_of_ble_eq_true rfl⟩) ⟨fun a U g mk q => by obtain ⟨q0, q1, qP, qK, qD⟩ := q; exact ⟨q0, q1, qP, va_K.moved (u := U) (U := U.calling g mk a) (Vm.Alike.refl U.vm) qK, qD⟩, va_recv (q0 := 0) (ci := 12) hK hP rfl rfl, fun U hU hW => ⟨rfl, by rw [hU], by rw [hU]; exact hPc, va_K.moved hW.alike hK, hDc.weaken (fun _ _ _ _ => trivial)⟩⟩ rfl rfl hl.1 rfl (lv_room (Nat.le_of_ble_eq_true rfl)) d_Md_hello_49 ⟨Nat.le_of_ble_eq_true rfl, Nat.le_of_ble_eq_true rfl⟩) hS (fun q _ h => hFc q h) hFc (fun rv9 u t H1 locs ht hvm hw hB hz1 hk1 hS => ?_)
      obtain ⟨g7_210, rfl⟩ : ∃ z, z = u := ⟨_, rfl⟩
      try dsimp only at hw hB
      obtain ⟨hP1, hK1, hD1⟩ := hB
      rw [ht] at hP1
      obtain ⟨rfl, hw⟩ := hw
      obtain ⟨hP, hD⟩ := va_join (wr := []) (w1 := [(mo, .inr (12, mdG r 0 tm (nI ((((((sn + 2) + 1) + 1) + 1) + 1) + 1)) (nI tx) (nI lz) (nI az) (nI na) (nI nt) (nI nr) mw ml mk dq)), (r 7, .inl ((cT 0), 1000, .inl g7_210))]) hP hD [0, 1] [] rfl rfl (by decide) (by decide) hk1 hFc hP1 hD1
      have hw211 := hw
      clear hPc hDc hFc hz1 hk1 hP1 hK1 hD1
      generalize H1 = H at hP hS ⊢
      have hP : va_P (dC, dI) vcl [(mo, .inr (12, mdG r 0 tm (nI ((((((sn + 2) + 1) + 1) + 1) + 1) + 1)) (nI tx) (nI lz) (nI az) (nI na) (nI nt) (nI nr) mw ml mk dq)), (r 7, .inl ((cT 0), 1000, .inl g7_210))] H := hP
      have hD : va_D A [(mo, .inr (12, mdG r 0 tm (nI ((((((sn + 2) + 1) + 1) + 1) + 1) + 1)) (nI tx) (nI lz) (nI az) (nI na) (nI nt) (nI nr) mw ml mk dq)), (r 7, .inl ((cT 0), 1000, .inl g7_210))] := hD
      have k212 := hw211
      have hP9 := hP.sub (ws' := [(mo, .inr (12, mdG r 0 tm (nI ((((((sn + 2) + 1) + 1) + 1) + 1) + 1)) (nI tx) (nI lz) (nI az) (nI na) (nI nt) (nI nr) mw ml mk dq)), (r 7, .inl ((cT 0), 1000, .inl g7_210))]) [0, 1] rfl
      have hD9 := hD.sub (ws' := [(mo, .inr (12, mdG r 0 tm (nI ((((((sn + 2) + 1) + 1) + 1) + 1) + 1)) (nI tx) (nI lz) (nI az) (nI na) (nI nt) (nI nr) mw ml mk dq)), (r 7, .inl ((cT 0), 1000, .inl g7_210))]) [0, 1] (by decide) rfl
      exact W.iret (v := nI ((((((sn + 2) + 1) + 1) + 1) + 1) + 1)) hx hb hr (fun t ht hW => ⟨⟨_, ⟨g7_210, 0, (((((sn + 2) + 1) + 1) + 1) + 1) + 1⟩, rfl, ⟨by first | assumption | omega, by first | assumption | omega, by first | assumption | omega⟩, by rw [ht]; exact hP9, va_K.moved hW.alike hK, hD9⟩, hS.F ht⟩) hS.2.2 d_Md_hello_52
    · skip
      have hrn : 1000 < sn + 5 + 2 := by omega
      have hPc := hP.sub (ws' := [(mo, .inr (12, mdG r 0 tm (nI sn) (nI tx) (nI lz) (nI az) (nI na) (nI nt) (nI nr) mw ml mk dq))]) [1] rfl
      have hDc := hD.sub (ws' := [(mo, .inr (12, mdG r 0 tm (nI sn) (nI tx) (nI lz) (nI az) (nI na) (nI nt) (nI nr) mw ml mk dq))]) [1] (by decide) rfl
      have hFc := va_free (wc := [(mo, .inr (12, mdG r 0 tm (nI sn) (nI tx) (nI lz) (nI az) (nI na) (nI nt) (nI nr) mw ml mk dq))]) hD hS hA [1] rfl
      refine va_calli (va_runV (C := "DoorServerModel") (As := [.int 79, .int (nI 5)]) (rest := []) ⟨hx, hb, hml, hown, hg⟩ (m_opens0 l dC dI cT H.size mo r 0 tm sn tx lz az na nt nr mw ml mk dq 79 5 (by first | assumption | omega) (by first | assumption | omega) (by first | assumption | omega)) (cwV 2 hg (gI (List.forall_mem_append.mpr ⟨List.forall_mem_cons.mpr ⟨k_1188, List.forall_mem_cons.mpr ⟨k_1190, List.forall_mem_cons.mpr ⟨(big_sel (q := y_Md_opens) (n := 45) (by decide +kernel)), List.forall_mem_cons.mpr ⟨k_13, fun _ h => absurd h List.not_mem_nil⟩⟩⟩⟩, List.forall_mem_cons.mpr ⟨k_1191, fun _ h => h⟩⟩)) rfl rfl rfl (by decide +kernel) ⟨Nat.le_of_ble_eq_true rfl, Nat.le_of_ble_eq_true rfl⟩) ⟨fun a U g mk q => by obtain ⟨q0, q1, qP, qK, qD⟩ := q; exact ⟨q0, q1, qP, va_K.moved (u := U) (U := U.calling g mk a) (Vm.Alike.refl U.vm) qK, qD⟩, va_recv (q0 := 1) (ci := 12) hK hP rfl rfl, fun U hU hW => ⟨rfl, by rw [hU], by rw [hU]; exact hPc, va_K.moved hW.alike hK, hDc.weaken (fun _ _ _ _ => trivial)⟩⟩ rfl rfl hl.1 rfl (lv_room (Nat.le_of_ble_eq_true rfl)) d_Md_hello_15 ⟨Nat.le_of_ble_eq_true rfl, Nat.le_of_ble_eq_true rfl⟩) hS (fun q _ h => hFc q h) hFc (fun rv9 u t H1 locs ht hvm hw hB hz1 hk1 hS => ?_)
      try dsimp only at hw hB
      obtain ⟨hP1, hK1, hD1⟩ := hB
      rw [ht] at hP1
      obtain ⟨rfl, hw⟩ := hw
      obtain ⟨hP, hD⟩ := va_join (wr := [(r 7, .inl ((cT 0), 1000, .inl f7))]) (w1 := [(mo, .inr (12, mdG r 2 tm (nI sn) (nI tx) (nI lz) (nI az) (nI na) (nI nt) (nI nr) mw ml mk dq))]) hP hD [1] [0] rfl rfl (by decide) (by decide) hk1 hFc hP1 hD1
      have hw213 := hw
      clear hPc hDc hFc hz1 hk1 hP1 hK1 hD1
      generalize H1 = H at hP hS ⊢
      have hP : va_P (dC, dI) vcl [(r 7, .inl ((cT 0), 1000, .inl f7)), (mo, .inr (12, mdG r 2 tm (nI sn) (nI tx) (nI lz) (nI az) (nI na) (nI nt) (nI nr) mw ml mk dq))] H := hP
      have hD : va_D A [(r 7, .inl ((cT 0), 1000, .inl f7)), (mo, .inr (12, mdG r 2 tm (nI sn) (nI tx) (nI lz) (nI az) (nI na) (nI nt) (nI nr) mw ml mk dq))] := hD
      refine lv_if_ne (tgt := 23) hx hb d_Md_hello_18 (by decide) (fun hn9 => absurd hn9 (by decide)) (fun hc214 => ?_)
      refine lv_iconst (v := 0) hx hb d_Md_hello_21 (by decide) ?_
      have hP9 := hP.sub (ws' := [(mo, .inr (12, mdG r 2 tm (nI sn) (nI tx) (nI lz) (nI az) (nI na) (nI nt) (nI nr) mw ml mk dq)), (r 7, .inl ((cT 0), 1000, .inl f7))]) [1, 0] rfl
      have hD9 := hD.sub (ws' := [(mo, .inr (12, mdG r 2 tm (nI sn) (nI tx) (nI lz) (nI az) (nI na) (nI nt) (nI nr) mw ml mk dq)), (r 7, .inl ((cT 0), 1000, .inl f7))]) [1, 0] (by decide) rfl
      exact W.iret (v := 0) hx hb hr (fun t ht hW => ⟨⟨_, ⟨f7, 2, sn⟩, rfl, ⟨by first | assumption | omega, by first | assumption | omega, by first | assumption | omega⟩, by rw [ht]; exact hP9, va_K.moved hW.alike hK, hD9⟩, hS.F ht⟩) hS.2.2 d_Md_hello_22
set_option maxHeartbeats 4000000 in
set_option maxRecDepth 100000 in
/-- ticks -/
theorem u_ticks (l : Launch) (dC : Nat → ClassId) (dI : Nat → Nat → Nat) (cT : Nat → ClassId) (sz : Nat) (mo : Nat) (r : Nat → Nat) (cd : Int32) (tm : Int32) (sn : Nat) (tx : Nat) (lz : Nat) (az : Nat) (na : Nat) (nt : Nat) (nr : Nat) (mw : Int32) (ml : Int32) (mk : Int64) (dq : Int64) (x : Int32)  : Met l y_Md_ticks (Cond.code y_Md_ticks b_Md_ticks 2 (Option.some Jvm.ClassFile.FieldType.int) :: BIG) ({ frames := 1, cells := 0, slots := 0, locals := 21 }) (va_Pc [.ref mo, .int x] (fun U => U.heap.size = sz ∧ va_P (dC, dI) vcl [(mo, .inr (12, mdG r cd tm (nI sn) (nI tx) (nI lz) (nI az) (nI na) (nI nt) (nI nr) mw ml mk dq))] U.heap ∧ va_K (dC, dI) vcl (tyL cT) U ∧ va_D (fun _ => True) [(mo, .inr (12, mdG r cd tm (nI sn) (nI tx) (nI lz) (nI az) (nI na) (nI nt) (nI nr) mw ml mk dq))])) (va_Qi (S := Int32 × Int32) (fun rv9 u => match u with | (cd2, tm2) => True) (fun u t => match u with | (cd2, tm2) => va_P (dC, dI) vcl [(mo, .inr (12, mdG r cd2 tm2 (nI sn) (nI tx) (nI lz) (nI az) (nI na) (nI nt) (nI nr) mw ml mk dq))] t.heap ∧ va_K (dC, dI) vcl (tyL cT) t ∧ va_D (va_A [(mo, .inr (12, mdG r cd tm (nI sn) (nI tx) (nI lz) (nI az) (nI na) (nI nt) (nI nr) mw ml mk dq))] sz) [(mo, .inr (12, mdG r cd2 tm2 (nI sn) (nI tx) (nI lz) (nI az) (nI na) (nI nt) (nI nr) mw ml mk dq))]) (va_A [(mo, .inr (12, mdG r cd tm (nI sn) (nI tx) (nI lz) (nI az) (nI na) (nI nt) (nI nr) mw ml mk dq))] sz)) 0 0 (va_A [(mo, .inr (12, mdG r cd tm (nI sn) (nI tx) (nI lz) (nI az) (nI na) (nI nt) (nI nr) mw ml mk dq))] sz) := by
  refine Met.ofW (cc := b_Md_ticks) (maxL := 2) (ret := (Option.some Jvm.ClassFile.FieldType.int)) (by decide) rfl ?_
  intro p e s m args below meth c s₁ B hml hv
  obtain ⟨hargs, hsz, hP, hK, hD0⟩ := hv
  have hx := B.exec
  have hb := B.bytes
  have hr := B.returns
  have hts := atoms_spec (ws := (Cond.code y_Md_ticks b_Md_ticks 2 (Option.some Jvm.ClassFile.FieldType.int) :: BIG)) B.pre
  have hg : ∀ w ∈ BIG, w.before _ s = true := fun w h => hts w (List.mem_cons_of_mem _ h)
  have hown : s.vm.findClass "DoorServerModel" = some m.cls := findClass_of_methodNamed B.named
  have hlocks := B.notSynchronized
  subst hsz
  have hD := hD0.self (sz := s.heap.size)
  generalize hAe : va_A [(mo, .inr (12, mdG r cd tm (nI sn) (nI tx) (nI lz) (nI az) (nI na) (nI nt) (nI nr) mw ml mk dq))] s.heap.size = A at hD ⊢
  have hA : ∀ q : Nat, s.heap.size ≤ q → A q := fun q h => by rw [← hAe]; exact Or.inr h
  have hS : va_S A s.heap s.heap [] := va_S.rf
  have hl := lv_entry ([.ref mo, .int x]) (n := 2) (Nat.le_of_ble_eq_true rfl)
  refine W.eq (g2 := entryFrame m (List.toArray [.ref mo, .int x]) 2) (by rw [hargs]) ?_
  rw [lg_entry_eq]
  generalize (lg_sl ([.ref mo, .int x]) ++ List.replicate (2 - (lg_sl ([.ref mo, .int x])).length) Slot.unset).toArray = ls at hl ⊢
  have hl : lv_has ls 2 [(0, .ref mo), (1, .int x)] := hl
  change W p l e ({ frames := 1, cells := 0, slots := 0, locals := 21 } : Room) s m args below meth c s.heap [] 0 0 _ _
  have hP : va_P (dC, dI) vcl [(mo, .inr (12, mdG r cd tm (nI sn) (nI tx) (nI lz) (nI az) (nI na) (nI nt) (nI nr) mw ml mk dq))] s.heap := hP
  refine lv_aload_n hx hb d_Md_ticks_0 rfl (lv_at hl 0 rfl) ?_
  refine lv_iload_n hx hb d_Md_ticks_1 rfl (lv_at hl 1 rfl) ?_
  refine lv_iconst (v := 1) hx hb d_Md_ticks_2 (by decide) ?_
  refine lv_icmp_lt (tgt := 29) hx hb d_Md_ticks_3 (by decide) (fun hc215 => ?_) (fun hc215 => ?_)
  · skip
    refine lv_iconst (v := 0) hx hb d_Md_ticks_29 (by decide) ?_
    have hPc := hP.sub (ws' := [(mo, .inr (12, mdG r cd tm (nI sn) (nI tx) (nI lz) (nI az) (nI na) (nI nt) (nI nr) mw ml mk dq))]) [0] rfl
    have hDc := hD.sub (ws' := [(mo, .inr (12, mdG r cd tm (nI sn) (nI tx) (nI lz) (nI az) (nI na) (nI nt) (nI nr) mw ml mk dq))]) [0] (by decide) rfl
    have hFc := va_free (wc := [(mo, .inr (12, mdG r cd tm (nI sn) (nI tx) (nI lz) (nI az) (nI na) (nI nt) (nI nr) mw ml mk dq))]) hD hS hA [0] rfl
    refine va_calli (va_runV (C := "DoorServerModel") (As := [.int 0]) (rest := []) ⟨hx, hb, hml, hown, hg⟩ (m_goes0 l dC dI cT s.heap.size mo r cd tm sn tx lz az na nt nr mw ml mk dq ) (cwV 1 hg (gI (List.forall_mem_append.mpr ⟨List.forall_mem_cons.mpr ⟨k_1165, List.forall_mem_cons.mpr ⟨k_1167, List.forall_mem_cons.mpr ⟨(big_sel (q := y_Md_goes) (n := 45) (by decide +kernel)), List.forall_mem_cons.mpr ⟨k_13, fun _ h => absurd h List.not_mem_nil⟩⟩⟩⟩, List.forall_mem_cons.mpr ⟨k_1168, fun _ h => h⟩⟩)) rfl rfl rfl (by decide +kernel) ⟨Nat.le_of_ble_eq_true rfl, Nat.le_of_ble_eq_true rfl⟩) ⟨fun a U g mk q => by obtain ⟨q0, q1, qP, qK, qD⟩ := q; exact ⟨q0, q1, qP, va_K.moved (u := U) (U := U.calling g mk a) (Vm.Alike.refl U.vm) qK, qD⟩, va_recv (q0 := 0) (ci := 12) hK hP rfl rfl, fun U hU hW => ⟨rfl, by rw [hU], by rw [hU]; exact hPc, va_K.moved hW.alike hK, hDc.weaken (fun _ _ _ _ => trivial)⟩⟩ rfl rfl hl.1 rfl (lv_room (Nat.le_of_ble_eq_true rfl)) d_Md_ticks_30 ⟨Nat.le_of_ble_eq_true rfl, Nat.le_of_ble_eq_true rfl⟩) hS (fun q _ h => hFc q h) hFc (fun rv9 u t H1 locs ht hvm hw hB hz1 hk1 hS => ?_)
    try dsimp only at hw hB
    obtain ⟨hP1, hK1, hD1⟩ := hB
    rw [ht] at hP1
    obtain ⟨rfl, hw⟩ := hw
    obtain ⟨hP, hD⟩ := va_join (wr := []) (w1 := [(mo, .inr (12, mdG r 1 tm (nI sn) (nI tx) (nI lz) (nI az) (nI na) (nI nt) (nI nr) mw ml mk dq))]) hP hD [0] [] rfl rfl (by decide) (by decide) hk1 hFc hP1 hD1
    have hw216 := hw
    clear hPc hDc hFc hz1 hk1 hP1 hK1 hD1
    generalize H1 = H at hP hS ⊢
    have hP : va_P (dC, dI) vcl [(mo, .inr (12, mdG r 1 tm (nI sn) (nI tx) (nI lz) (nI az) (nI na) (nI nt) (nI nr) mw ml mk dq))] H := hP
    have hD : va_D A [(mo, .inr (12, mdG r 1 tm (nI sn) (nI tx) (nI lz) (nI az) (nI na) (nI nt) (nI nr) mw ml mk dq))] := hD
    refine lv_if_ne (tgt := 38) hx hb d_Md_ticks_33 (by decide) (fun hn9 => absurd hn9 (by decide)) (fun hc217 => ?_)
    refine lv_iconst (v := 0) hx hb d_Md_ticks_36 (by decide) ?_
    have hP9 := hP.sub (ws' := [(mo, .inr (12, mdG r 1 tm (nI sn) (nI tx) (nI lz) (nI az) (nI na) (nI nt) (nI nr) mw ml mk dq))]) [0] rfl
    have hD9 := hD.sub (ws' := [(mo, .inr (12, mdG r 1 tm (nI sn) (nI tx) (nI lz) (nI az) (nI na) (nI nt) (nI nr) mw ml mk dq))]) [0] (by decide) rfl
    exact W.iret (v := 0) hx hb hr (fun t ht hW => ⟨⟨_, ⟨1, tm⟩, rfl, trivial, by rw [ht]; exact hP9, va_K.moved hW.alike hK, hD9⟩, hS.F ht⟩) hS.2.2 d_Md_ticks_37
  · skip
    refine lv_iload_n hx hb d_Md_ticks_6 rfl (lv_at hl 1 rfl) ?_
    refine lv_sipush (v := 1000) hx hb d_Md_ticks_7 (by decide) ?_
    refine lv_icmp_gt (tgt := 29) hx hb d_Md_ticks_10 (by decide) (fun hc218 => ?_) (fun hc218 => ?_)
    · skip
      refine lv_iconst (v := 0) hx hb d_Md_ticks_29 (by decide) ?_
      have hPc := hP.sub (ws' := [(mo, .inr (12, mdG r cd tm (nI sn) (nI tx) (nI lz) (nI az) (nI na) (nI nt) (nI nr) mw ml mk dq))]) [0] rfl
      have hDc := hD.sub (ws' := [(mo, .inr (12, mdG r cd tm (nI sn) (nI tx) (nI lz) (nI az) (nI na) (nI nt) (nI nr) mw ml mk dq))]) [0] (by decide) rfl
      have hFc := va_free (wc := [(mo, .inr (12, mdG r cd tm (nI sn) (nI tx) (nI lz) (nI az) (nI na) (nI nt) (nI nr) mw ml mk dq))]) hD hS hA [0] rfl
      refine va_calli (va_runV (C := "DoorServerModel") (As := [.int 0]) (rest := []) ⟨hx, hb, hml, hown, hg⟩ (m_goes0 l dC dI cT s.heap.size mo r cd tm sn tx lz az na nt nr mw ml mk dq ) (cwV 1 hg (gI (List.forall_mem_append.mpr ⟨List.forall_mem_cons.mpr ⟨k_1165, List.forall_mem_cons.mpr ⟨k_1167, List.forall_mem_cons.mpr ⟨(big_sel (q := y_Md_goes) (n := 45) (by decide +kernel)), List.forall_mem_cons.mpr ⟨k_13, fun _ h => absurd h List.not_mem_nil⟩⟩⟩⟩, List.forall_mem_cons.mpr ⟨k_1168, fun _ h => h⟩⟩)) rfl rfl rfl (by decide +kernel) ⟨Nat.le_of_ble_eq_true rfl, Nat.le_of_ble_eq_true rfl⟩) ⟨fun a U g mk q => by obtain ⟨q0, q1, qP, qK, qD⟩ := q; exact ⟨q0, q1, qP, va_K.moved (u := U) (U := U.calling g mk a) (Vm.Alike.refl U.vm) qK, qD⟩, va_recv (q0 := 0) (ci := 12) hK hP rfl rfl, fun U hU hW => ⟨rfl, by rw [hU], by rw [hU]; exact hPc, va_K.moved hW.alike hK, hDc.weaken (fun _ _ _ _ => trivial)⟩⟩ rfl rfl hl.1 rfl (lv_room (Nat.le_of_ble_eq_true rfl)) d_Md_ticks_30 ⟨Nat.le_of_ble_eq_true rfl, Nat.le_of_ble_eq_true rfl⟩) hS (fun q _ h => hFc q h) hFc (fun rv9 u t H1 locs ht hvm hw hB hz1 hk1 hS => ?_)
      try dsimp only at hw hB
      obtain ⟨hP1, hK1, hD1⟩ := hB
      rw [ht] at hP1
      obtain ⟨rfl, hw⟩ := hw
      obtain ⟨hP, hD⟩ := va_join (wr := []) (w1 := [(mo, .inr (12, mdG r 1 tm (nI sn) (nI tx) (nI lz) (nI az) (nI na) (nI nt) (nI nr) mw ml mk dq))]) hP hD [0] [] rfl rfl (by decide) (by decide) hk1 hFc hP1 hD1
      have hw219 := hw
      clear hPc hDc hFc hz1 hk1 hP1 hK1 hD1
      generalize H1 = H at hP hS ⊢
      have hP : va_P (dC, dI) vcl [(mo, .inr (12, mdG r 1 tm (nI sn) (nI tx) (nI lz) (nI az) (nI na) (nI nt) (nI nr) mw ml mk dq))] H := hP
      have hD : va_D A [(mo, .inr (12, mdG r 1 tm (nI sn) (nI tx) (nI lz) (nI az) (nI na) (nI nt) (nI nr) mw ml mk dq))] := hD
      refine lv_if_ne (tgt := 38) hx hb d_Md_ticks_33 (by decide) (fun hn9 => absurd hn9 (by decide)) (fun hc220 => ?_)
      refine lv_iconst (v := 0) hx hb d_Md_ticks_36 (by decide) ?_
      have hP9 := hP.sub (ws' := [(mo, .inr (12, mdG r 1 tm (nI sn) (nI tx) (nI lz) (nI az) (nI na) (nI nt) (nI nr) mw ml mk dq))]) [0] rfl
      have hD9 := hD.sub (ws' := [(mo, .inr (12, mdG r 1 tm (nI sn) (nI tx) (nI lz) (nI az) (nI na) (nI nt) (nI nr) mw ml mk dq))]) [0] (by decide) rfl
      exact W.iret (v := 0) hx hb hr (fun t ht hW => ⟨⟨_, ⟨1, tm⟩, rfl, trivial, by rw [ht]; exact hP9, va_K.moved hW.alike hK, hD9⟩, hS.F ht⟩) hS.2.2 d_Md_ticks_37
    · skip
      refine lv_aload_n hx hb d_Md_ticks_13 rfl (lv_at hl 0 rfl) ?_
      refine va_get (D := (dC, dI)) (ci := 12) (v := (.int tm)) (C := R_Md) (T := F_Md) (N := 45) hx hb hg in_Md hown hK hP 0 rfl rfl 2 (by decide) (hg _ k_1022) (fun _ h9 => h9) rfl d_Md_ticks_14 ?_
      refine lv_iload_n hx hb d_Md_ticks_17 rfl (lv_at hl 1 rfl) ?_
      refine lv_iadd hx hb d_Md_ticks_18 ?_
      refine lv_ldcw (v := 1000000) hx hb hown (hg _ k_1405) d_Md_ticks_19 ?_
      refine lv_icmp_gt (tgt := 29) hx hb d_Md_ticks_22 (by decide) (fun hc221 => ?_) (fun hc221 => ?_)
      · skip
        refine lv_iconst (v := 0) hx hb d_Md_ticks_29 (by decide) ?_
        have hPc := hP.sub (ws' := [(mo, .inr (12, mdG r cd tm (nI sn) (nI tx) (nI lz) (nI az) (nI na) (nI nt) (nI nr) mw ml mk dq))]) [0] rfl
        have hDc := hD.sub (ws' := [(mo, .inr (12, mdG r cd tm (nI sn) (nI tx) (nI lz) (nI az) (nI na) (nI nt) (nI nr) mw ml mk dq))]) [0] (by decide) rfl
        have hFc := va_free (wc := [(mo, .inr (12, mdG r cd tm (nI sn) (nI tx) (nI lz) (nI az) (nI na) (nI nt) (nI nr) mw ml mk dq))]) hD hS hA [0] rfl
        refine va_calli (va_runV (C := "DoorServerModel") (As := [.int 0]) (rest := []) ⟨hx, hb, hml, hown, hg⟩ (m_goes0 l dC dI cT s.heap.size mo r cd tm sn tx lz az na nt nr mw ml mk dq ) (cwV 1 hg (gI (List.forall_mem_append.mpr ⟨List.forall_mem_cons.mpr ⟨k_1165, List.forall_mem_cons.mpr ⟨k_1167, List.forall_mem_cons.mpr ⟨(big_sel (q := y_Md_goes) (n := 45) (by decide +kernel)), List.forall_mem_cons.mpr ⟨k_13, fun _ h => absurd h List.not_mem_nil⟩⟩⟩⟩, List.forall_mem_cons.mpr ⟨k_1168, fun _ h => h⟩⟩)) rfl rfl rfl (by decide +kernel) ⟨Nat.le_of_ble_eq_true rfl, Nat.le_of_ble_eq_true rfl⟩) ⟨fun a U g mk q => by obtain ⟨q0, q1, qP, qK, qD⟩ := q; exact ⟨q0, q1, qP, va_K.moved (u := U) (U := U.calling g mk a) (Vm.Alike.refl U.vm) qK, qD⟩, va_recv (q0 := 0) (ci := 12) hK hP rfl rfl, fun U hU hW => ⟨rfl, by rw [hU], by rw [hU]; exact hPc, va_K.moved hW.alike hK, hDc.weaken (fun _ _ _ _ => trivial)⟩⟩ rfl rfl hl.1 rfl (lv_room (Nat.le_of_ble_eq_true rfl)) d_Md_ticks_30 ⟨Nat.le_of_ble_eq_true rfl, Nat.le_of_ble_eq_true rfl⟩) hS (fun q _ h => hFc q h) hFc (fun rv9 u t H1 locs ht hvm hw hB hz1 hk1 hS => ?_)
        try dsimp only at hw hB
        obtain ⟨hP1, hK1, hD1⟩ := hB
        rw [ht] at hP1
        obtain ⟨rfl, hw⟩ := hw
        obtain ⟨hP, hD⟩ := va_join (wr := []) (w1 := [(mo, .inr (12, mdG r 1 tm (nI sn) (nI tx) (nI lz) (nI az) (nI na) (nI nt) (nI nr) mw ml mk dq))]) hP hD [0] [] rfl rfl (by decide) (by decide) hk1 hFc hP1 hD1
        have hw222 := hw
        clear hPc hDc hFc hz1 hk1 hP1 hK1 hD1
        generalize H1 = H at hP hS ⊢
        have hP : va_P (dC, dI) vcl [(mo, .inr (12, mdG r 1 tm (nI sn) (nI tx) (nI lz) (nI az) (nI na) (nI nt) (nI nr) mw ml mk dq))] H := hP
        have hD : va_D A [(mo, .inr (12, mdG r 1 tm (nI sn) (nI tx) (nI lz) (nI az) (nI na) (nI nt) (nI nr) mw ml mk dq))] := hD
        refine lv_if_ne (tgt := 38) hx hb d_Md_ticks_33 (by decide) (fun hn9 => absurd hn9 (by decide)) (fun hc223 => ?_)
        refine lv_iconst (v := 0) hx hb d_Md_ticks_36 (by decide) ?_
        have hP9 := hP.sub (ws' := [(mo, .inr (12, mdG r 1 tm (nI sn) (nI tx) (nI lz) (nI az) (nI na) (nI nt) (nI nr) mw ml mk dq))]) [0] rfl
        have hD9 := hD.sub (ws' := [(mo, .inr (12, mdG r 1 tm (nI sn) (nI tx) (nI lz) (nI az) (nI na) (nI nt) (nI nr) mw ml mk dq))]) [0] (by decide) rfl
        exact W.iret (v := 0) hx hb hr (fun t ht hW => ⟨⟨_, ⟨1, tm⟩, rfl, trivial, by rw [ht]; exact hP9, va_K.moved hW.alike hK, hD9⟩, hS.F ht⟩) hS.2.2 d_Md_ticks_37
      · skip
        refine lv_iconst (v := 1) hx hb d_Md_ticks_25 (by decide) ?_
        refine lv_goto (tgt := 30) hx hb d_Md_ticks_26 (by decide) ?_
        have hPc := hP.sub (ws' := [(mo, .inr (12, mdG r cd tm (nI sn) (nI tx) (nI lz) (nI az) (nI na) (nI nt) (nI nr) mw ml mk dq))]) [0] rfl
        have hDc := hD.sub (ws' := [(mo, .inr (12, mdG r cd tm (nI sn) (nI tx) (nI lz) (nI az) (nI na) (nI nt) (nI nr) mw ml mk dq))]) [0] (by decide) rfl
        have hFc := va_free (wc := [(mo, .inr (12, mdG r cd tm (nI sn) (nI tx) (nI lz) (nI az) (nI na) (nI nt) (nI nr) mw ml mk dq))]) hD hS hA [0] rfl
        refine va_calli (va_runV (C := "DoorServerModel") (As := [.int 1]) (rest := []) ⟨hx, hb, hml, hown, hg⟩ (m_goes1 l dC dI cT s.heap.size mo r cd tm sn tx lz az na nt nr mw ml mk dq ) (cwV 1 hg (gI (List.forall_mem_append.mpr ⟨List.forall_mem_cons.mpr ⟨k_1165, List.forall_mem_cons.mpr ⟨k_1167, List.forall_mem_cons.mpr ⟨(big_sel (q := y_Md_goes) (n := 45) (by decide +kernel)), List.forall_mem_cons.mpr ⟨k_13, fun _ h => absurd h List.not_mem_nil⟩⟩⟩⟩, List.forall_mem_cons.mpr ⟨k_1168, fun _ h => h⟩⟩)) rfl rfl rfl (by decide +kernel) ⟨Nat.le_of_ble_eq_true rfl, Nat.le_of_ble_eq_true rfl⟩) ⟨fun a U g mk q => by obtain ⟨q0, q1, qP, qK, qD⟩ := q; exact ⟨q0, q1, qP, va_K.moved (u := U) (U := U.calling g mk a) (Vm.Alike.refl U.vm) qK, qD⟩, va_recv (q0 := 0) (ci := 12) hK hP rfl rfl, fun U hU hW => ⟨rfl, by rw [hU], by rw [hU]; exact hPc, va_K.moved hW.alike hK, hDc.weaken (fun _ _ _ _ => trivial)⟩⟩ rfl rfl hl.1 rfl (lv_room (Nat.le_of_ble_eq_true rfl)) d_Md_ticks_30 ⟨Nat.le_of_ble_eq_true rfl, Nat.le_of_ble_eq_true rfl⟩) hS (fun q _ h => hFc q h) hFc (fun rv9 u t H1 locs ht hvm hw hB hz1 hk1 hS => ?_)
        try dsimp only at hw hB
        obtain ⟨hP1, hK1, hD1⟩ := hB
        rw [ht] at hP1
        obtain ⟨rfl, hw⟩ := hw
        obtain ⟨hP, hD⟩ := va_join (wr := []) (w1 := [(mo, .inr (12, mdG r 0 tm (nI sn) (nI tx) (nI lz) (nI az) (nI na) (nI nt) (nI nr) mw ml mk dq))]) hP hD [0] [] rfl rfl (by decide) (by decide) hk1 hFc hP1 hD1
        have hw224 := hw
        clear hPc hDc hFc hz1 hk1 hP1 hK1 hD1
        generalize H1 = H at hP hS ⊢
        have hP : va_P (dC, dI) vcl [(mo, .inr (12, mdG r 0 tm (nI sn) (nI tx) (nI lz) (nI az) (nI na) (nI nt) (nI nr) mw ml mk dq))] H := hP
        have hD : va_D A [(mo, .inr (12, mdG r 0 tm (nI sn) (nI tx) (nI lz) (nI az) (nI na) (nI nt) (nI nr) mw ml mk dq))] := hD
        refine lv_if_ne (tgt := 38) hx hb d_Md_ticks_33 (by decide) (fun hc225 => ?_) (fun hn9 => absurd hn9 (by decide))
        refine lv_aload_n hx hb d_Md_ticks_38 rfl (lv_at hl 0 rfl) ?_
        refine lv_dup hx hb d_Md_ticks_39 rfl ?_
        refine va_get (D := (dC, dI)) (ci := 12) (v := (.int tm)) (C := R_Md) (T := F_Md) (N := 45) hx hb hg in_Md hown hK hP 0 rfl rfl 2 (by decide) (hg _ k_1022) (fun _ h9 => h9) rfl d_Md_ticks_40 ?_
        refine lv_iload_n hx hb d_Md_ticks_43 rfl (lv_at hl 1 rfl) ?_
        refine lv_iadd hx hb d_Md_ticks_44 ?_
        refine va_put (D := (dC, dI)) (ci := 12) (v := (.int (tm + x))) (ty := .int) (C := R_Md) (T := F_Md) (N := 45) hx hb hg in_Md t_Md tok_Md nm_Md hown hK hP hD hS 0 rfl rfl 2 (by decide) (hg _ k_1022) (fun _ h9 => h9) rfl (by decide +kernel) rfl rfl (Nat.le_of_ble_eq_true rfl) d_Md_ticks_45 (fun H locs hP hD hS => ?_)
        have hP : va_P (dC, dI) vcl [(mo, .inr (12, mdG r 0 (tm + x) (nI sn) (nI tx) (nI lz) (nI az) (nI na) (nI nt) (nI nr) mw ml mk dq))] H := hP
        have hD : va_D A [(mo, .inr (12, mdG r 0 (tm + x) (nI sn) (nI tx) (nI lz) (nI az) (nI na) (nI nt) (nI nr) mw ml mk dq))] := hD
        refine lv_aload_n hx hb d_Md_ticks_48 rfl (lv_at hl 0 rfl) ?_
        refine va_get (D := (dC, dI)) (ci := 12) (v := (.int (tm + x))) (C := R_Md) (T := F_Md) (N := 45) hx hb hg in_Md hown hK hP 0 rfl rfl 2 (by decide) (hg _ k_1022) (fun _ h9 => h9) rfl d_Md_ticks_49 ?_
        have hP9 := hP.sub (ws' := [(mo, .inr (12, mdG r 0 (tm + x) (nI sn) (nI tx) (nI lz) (nI az) (nI na) (nI nt) (nI nr) mw ml mk dq))]) [0] rfl
        have hD9 := hD.sub (ws' := [(mo, .inr (12, mdG r 0 (tm + x) (nI sn) (nI tx) (nI lz) (nI az) (nI na) (nI nt) (nI nr) mw ml mk dq))]) [0] (by decide) rfl
        exact W.iret (v := tm + x) hx hb hr (fun t ht hW => ⟨⟨_, ⟨0, tm + x⟩, rfl, trivial, by rw [ht]; exact hP9, va_K.moved hW.alike hK, hD9⟩, hS.F ht⟩) hS.2.2 d_Md_ticks_52
set_option maxHeartbeats 4000000 in
set_option maxRecDepth 100000 in
/-- count -/
theorem u_count (l : Launch) (dC : Nat → ClassId) (dI : Nat → Nat → Nat) (cT : Nat → ClassId) (sz : Nat) (mo : Nat) (r : Nat → Nat) (cd : Int32) (tm : Int32) (sn : Nat) (tx : Nat) (lz : Nat) (az : Nat) (na : Nat) (nt : Nat) (nr : Nat) (mw : Int32) (ml : Int32) (mk : Int64) (dq : Int64) (x : Int32)  : Met l y_Md_count (Cond.code y_Md_count b_Md_count 2 (Option.some Jvm.ClassFile.FieldType.int) :: BIG) ({ frames := 1, cells := 0, slots := 0, locals := 21 }) (va_Pc [.ref mo, .int x] (fun U => U.heap.size = sz ∧ va_P (dC, dI) vcl [(mo, .inr (12, mdG r cd tm (nI sn) (nI tx) (nI lz) (nI az) (nI na) (nI nt) (nI nr) mw ml mk dq))] U.heap ∧ va_K (dC, dI) vcl (tyL cT) U ∧ va_D (fun _ => True) [(mo, .inr (12, mdG r cd tm (nI sn) (nI tx) (nI lz) (nI az) (nI na) (nI nt) (nI nr) mw ml mk dq))])) (va_Qi (S := Int32) (fun rv9 u => match u with | cd2 => True) (fun u t => match u with | cd2 => va_P (dC, dI) vcl [(mo, .inr (12, mdG r cd2 tm (nI sn) (nI tx) (nI lz) (nI az) (nI na) (nI nt) (nI nr) mw ml mk dq))] t.heap ∧ va_K (dC, dI) vcl (tyL cT) t ∧ va_D (va_A [(mo, .inr (12, mdG r cd tm (nI sn) (nI tx) (nI lz) (nI az) (nI na) (nI nt) (nI nr) mw ml mk dq))] sz) [(mo, .inr (12, mdG r cd2 tm (nI sn) (nI tx) (nI lz) (nI az) (nI na) (nI nt) (nI nr) mw ml mk dq))]) (va_A [(mo, .inr (12, mdG r cd tm (nI sn) (nI tx) (nI lz) (nI az) (nI na) (nI nt) (nI nr) mw ml mk dq))] sz)) 0 0 (va_A [(mo, .inr (12, mdG r cd tm (nI sn) (nI tx) (nI lz) (nI az) (nI na) (nI nt) (nI nr) mw ml mk dq))] sz) := by
  refine Met.ofW (cc := b_Md_count) (maxL := 2) (ret := (Option.some Jvm.ClassFile.FieldType.int)) (by decide) rfl ?_
  intro p e s m args below meth c s₁ B hml hv
  obtain ⟨hargs, hsz, hP, hK, hD0⟩ := hv
  have hx := B.exec
  have hb := B.bytes
  have hr := B.returns
  have hts := atoms_spec (ws := (Cond.code y_Md_count b_Md_count 2 (Option.some Jvm.ClassFile.FieldType.int) :: BIG)) B.pre
  have hg : ∀ w ∈ BIG, w.before _ s = true := fun w h => hts w (List.mem_cons_of_mem _ h)
  have hown : s.vm.findClass "DoorServerModel" = some m.cls := findClass_of_methodNamed B.named
  have hlocks := B.notSynchronized
  subst hsz
  have hD := hD0.self (sz := s.heap.size)
  generalize hAe : va_A [(mo, .inr (12, mdG r cd tm (nI sn) (nI tx) (nI lz) (nI az) (nI na) (nI nt) (nI nr) mw ml mk dq))] s.heap.size = A at hD ⊢
  have hA : ∀ q : Nat, s.heap.size ≤ q → A q := fun q h => by rw [← hAe]; exact Or.inr h
  have hS : va_S A s.heap s.heap [] := va_S.rf
  have hl := lv_entry ([.ref mo, .int x]) (n := 2) (Nat.le_of_ble_eq_true rfl)
  refine W.eq (g2 := entryFrame m (List.toArray [.ref mo, .int x]) 2) (by rw [hargs]) ?_
  rw [lg_entry_eq]
  generalize (lg_sl ([.ref mo, .int x]) ++ List.replicate (2 - (lg_sl ([.ref mo, .int x])).length) Slot.unset).toArray = ls at hl ⊢
  have hl : lv_has ls 2 [(0, .ref mo), (1, .int x)] := hl
  change W p l e ({ frames := 1, cells := 0, slots := 0, locals := 21 } : Room) s m args below meth c s.heap [] 0 0 _ _
  have hP : va_P (dC, dI) vcl [(mo, .inr (12, mdG r cd tm (nI sn) (nI tx) (nI lz) (nI az) (nI na) (nI nt) (nI nr) mw ml mk dq))] s.heap := hP
  refine lv_aload_n hx hb d_Md_count_0 rfl (lv_at hl 0 rfl) ?_
  refine lv_iload_n hx hb d_Md_count_1 rfl (lv_at hl 1 rfl) ?_
  refine lv_if_lt (tgt := 14) hx hb d_Md_count_2 (by decide) (fun hc226 => ?_) (fun hc226 => ?_)
  · skip
    refine lv_iconst (v := 0) hx hb d_Md_count_14 (by decide) ?_
    have hPc := hP.sub (ws' := [(mo, .inr (12, mdG r cd tm (nI sn) (nI tx) (nI lz) (nI az) (nI na) (nI nt) (nI nr) mw ml mk dq))]) [0] rfl
    have hDc := hD.sub (ws' := [(mo, .inr (12, mdG r cd tm (nI sn) (nI tx) (nI lz) (nI az) (nI na) (nI nt) (nI nr) mw ml mk dq))]) [0] (by decide) rfl
    have hFc := va_free (wc := [(mo, .inr (12, mdG r cd tm (nI sn) (nI tx) (nI lz) (nI az) (nI na) (nI nt) (nI nr) mw ml mk dq))]) hD hS hA [0] rfl
    refine va_calli (va_runV (C := "DoorServerModel") (As := [.int 0]) (rest := []) ⟨hx, hb, hml, hown, hg⟩ (m_goes0 l dC dI cT s.heap.size mo r cd tm sn tx lz az na nt nr mw ml mk dq ) (cwV 1 hg (gI (List.forall_mem_append.mpr ⟨List.forall_mem_cons.mpr ⟨k_1165, List.forall_mem_cons.mpr ⟨k_1167, List.forall_mem_cons.mpr ⟨(big_sel (q := y_Md_goes) (n := 45) (by decide +kernel)), List.forall_mem_cons.mpr ⟨k_13, fun _ h => absurd h List.not_mem_nil⟩⟩⟩⟩, List.forall_mem_cons.mpr ⟨k_1168, fun _ h => h⟩⟩)) rfl rfl rfl (by decide +kernel) ⟨Nat.le_of_ble_eq_true rfl, Nat.le_of_ble_eq_true rfl⟩) ⟨fun a U g mk q => by obtain ⟨q0, q1, qP, qK, qD⟩ := q; exact ⟨q0, q1, qP, va_K.moved (u := U) (U := U.calling g mk a) (Vm.Alike.refl U.vm) qK, qD⟩, va_recv (q0 := 0) (ci := 12) hK hP rfl rfl, fun U hU hW => ⟨rfl, by rw [hU], by rw [hU]; exact hPc, va_K.moved hW.alike hK, hDc.weaken (fun _ _ _ _ => trivial)⟩⟩ rfl rfl hl.1 rfl (lv_room (Nat.le_of_ble_eq_true rfl)) d_Md_count_15 ⟨Nat.le_of_ble_eq_true rfl, Nat.le_of_ble_eq_true rfl⟩) hS (fun q _ h => hFc q h) hFc (fun rv9 u t H1 locs ht hvm hw hB hz1 hk1 hS => ?_)
    try dsimp only at hw hB
    obtain ⟨hP1, hK1, hD1⟩ := hB
    rw [ht] at hP1
    obtain ⟨rfl, hw⟩ := hw
    obtain ⟨hP, hD⟩ := va_join (wr := []) (w1 := [(mo, .inr (12, mdG r 1 tm (nI sn) (nI tx) (nI lz) (nI az) (nI na) (nI nt) (nI nr) mw ml mk dq))]) hP hD [0] [] rfl rfl (by decide) (by decide) hk1 hFc hP1 hD1
    have hw227 := hw
    clear hPc hDc hFc hz1 hk1 hP1 hK1 hD1
    generalize H1 = H at hP hS ⊢
    have hP : va_P (dC, dI) vcl [(mo, .inr (12, mdG r 1 tm (nI sn) (nI tx) (nI lz) (nI az) (nI na) (nI nt) (nI nr) mw ml mk dq))] H := hP
    have hD : va_D A [(mo, .inr (12, mdG r 1 tm (nI sn) (nI tx) (nI lz) (nI az) (nI na) (nI nt) (nI nr) mw ml mk dq))] := hD
    refine lv_if_ne (tgt := 23) hx hb d_Md_count_18 (by decide) (fun hn9 => absurd hn9 (by decide)) (fun hc228 => ?_)
    refine lv_iconst (v := 0) hx hb d_Md_count_21 (by decide) ?_
    have hP9 := hP.sub (ws' := [(mo, .inr (12, mdG r 1 tm (nI sn) (nI tx) (nI lz) (nI az) (nI na) (nI nt) (nI nr) mw ml mk dq))]) [0] rfl
    have hD9 := hD.sub (ws' := [(mo, .inr (12, mdG r 1 tm (nI sn) (nI tx) (nI lz) (nI az) (nI na) (nI nt) (nI nr) mw ml mk dq))]) [0] (by decide) rfl
    exact W.iret (v := 0) hx hb hr (fun t ht hW => ⟨⟨_, 1, rfl, trivial, by rw [ht]; exact hP9, va_K.moved hW.alike hK, hD9⟩, hS.F ht⟩) hS.2.2 d_Md_count_22
  · skip
    refine lv_iload_n hx hb d_Md_count_5 rfl (lv_at hl 1 rfl) ?_
    refine lv_iconst (v := 5) hx hb d_Md_count_6 (by decide) ?_
    refine lv_icmp_gt (tgt := 14) hx hb d_Md_count_7 (by decide) (fun hc229 => ?_) (fun hc229 => ?_)
    · skip
      refine lv_iconst (v := 0) hx hb d_Md_count_14 (by decide) ?_
      have hPc := hP.sub (ws' := [(mo, .inr (12, mdG r cd tm (nI sn) (nI tx) (nI lz) (nI az) (nI na) (nI nt) (nI nr) mw ml mk dq))]) [0] rfl
      have hDc := hD.sub (ws' := [(mo, .inr (12, mdG r cd tm (nI sn) (nI tx) (nI lz) (nI az) (nI na) (nI nt) (nI nr) mw ml mk dq))]) [0] (by decide) rfl
      have hFc := va_free (wc := [(mo, .inr (12, mdG r cd tm (nI sn) (nI tx) (nI lz) (nI az) (nI na) (nI nt) (nI nr) mw ml mk dq))]) hD hS hA [0] rfl
      refine va_calli (va_runV (C := "DoorServerModel") (As := [.int 0]) (rest := []) ⟨hx, hb, hml, hown, hg⟩ (m_goes0 l dC dI cT s.heap.size mo r cd tm sn tx lz az na nt nr mw ml mk dq ) (cwV 1 hg (gI (List.forall_mem_append.mpr ⟨List.forall_mem_cons.mpr ⟨k_1165, List.forall_mem_cons.mpr ⟨k_1167, List.forall_mem_cons.mpr ⟨(big_sel (q := y_Md_goes) (n := 45) (by decide +kernel)), List.forall_mem_cons.mpr ⟨k_13, fun _ h => absurd h List.not_mem_nil⟩⟩⟩⟩, List.forall_mem_cons.mpr ⟨k_1168, fun _ h => h⟩⟩)) rfl rfl rfl (by decide +kernel) ⟨Nat.le_of_ble_eq_true rfl, Nat.le_of_ble_eq_true rfl⟩) ⟨fun a U g mk q => by obtain ⟨q0, q1, qP, qK, qD⟩ := q; exact ⟨q0, q1, qP, va_K.moved (u := U) (U := U.calling g mk a) (Vm.Alike.refl U.vm) qK, qD⟩, va_recv (q0 := 0) (ci := 12) hK hP rfl rfl, fun U hU hW => ⟨rfl, by rw [hU], by rw [hU]; exact hPc, va_K.moved hW.alike hK, hDc.weaken (fun _ _ _ _ => trivial)⟩⟩ rfl rfl hl.1 rfl (lv_room (Nat.le_of_ble_eq_true rfl)) d_Md_count_15 ⟨Nat.le_of_ble_eq_true rfl, Nat.le_of_ble_eq_true rfl⟩) hS (fun q _ h => hFc q h) hFc (fun rv9 u t H1 locs ht hvm hw hB hz1 hk1 hS => ?_)
      try dsimp only at hw hB
      obtain ⟨hP1, hK1, hD1⟩ := hB
      rw [ht] at hP1
      obtain ⟨rfl, hw⟩ := hw
      obtain ⟨hP, hD⟩ := va_join (wr := []) (w1 := [(mo, .inr (12, mdG r 1 tm (nI sn) (nI tx) (nI lz) (nI az) (nI na) (nI nt) (nI nr) mw ml mk dq))]) hP hD [0] [] rfl rfl (by decide) (by decide) hk1 hFc hP1 hD1
      have hw230 := hw
      clear hPc hDc hFc hz1 hk1 hP1 hK1 hD1
      generalize H1 = H at hP hS ⊢
      have hP : va_P (dC, dI) vcl [(mo, .inr (12, mdG r 1 tm (nI sn) (nI tx) (nI lz) (nI az) (nI na) (nI nt) (nI nr) mw ml mk dq))] H := hP
      have hD : va_D A [(mo, .inr (12, mdG r 1 tm (nI sn) (nI tx) (nI lz) (nI az) (nI na) (nI nt) (nI nr) mw ml mk dq))] := hD
      refine lv_if_ne (tgt := 23) hx hb d_Md_count_18 (by decide) (fun hn9 => absurd hn9 (by decide)) (fun hc231 => ?_)
      refine lv_iconst (v := 0) hx hb d_Md_count_21 (by decide) ?_
      have hP9 := hP.sub (ws' := [(mo, .inr (12, mdG r 1 tm (nI sn) (nI tx) (nI lz) (nI az) (nI na) (nI nt) (nI nr) mw ml mk dq))]) [0] rfl
      have hD9 := hD.sub (ws' := [(mo, .inr (12, mdG r 1 tm (nI sn) (nI tx) (nI lz) (nI az) (nI na) (nI nt) (nI nr) mw ml mk dq))]) [0] (by decide) rfl
      exact W.iret (v := 0) hx hb hr (fun t ht hW => ⟨⟨_, 1, rfl, trivial, by rw [ht]; exact hP9, va_K.moved hW.alike hK, hD9⟩, hS.F ht⟩) hS.2.2 d_Md_count_22
    · skip
      refine lv_iconst (v := 1) hx hb d_Md_count_10 (by decide) ?_
      refine lv_goto (tgt := 15) hx hb d_Md_count_11 (by decide) ?_
      have hPc := hP.sub (ws' := [(mo, .inr (12, mdG r cd tm (nI sn) (nI tx) (nI lz) (nI az) (nI na) (nI nt) (nI nr) mw ml mk dq))]) [0] rfl
      have hDc := hD.sub (ws' := [(mo, .inr (12, mdG r cd tm (nI sn) (nI tx) (nI lz) (nI az) (nI na) (nI nt) (nI nr) mw ml mk dq))]) [0] (by decide) rfl
      have hFc := va_free (wc := [(mo, .inr (12, mdG r cd tm (nI sn) (nI tx) (nI lz) (nI az) (nI na) (nI nt) (nI nr) mw ml mk dq))]) hD hS hA [0] rfl
      refine va_calli (va_runV (C := "DoorServerModel") (As := [.int 1]) (rest := []) ⟨hx, hb, hml, hown, hg⟩ (m_goes1 l dC dI cT s.heap.size mo r cd tm sn tx lz az na nt nr mw ml mk dq ) (cwV 1 hg (gI (List.forall_mem_append.mpr ⟨List.forall_mem_cons.mpr ⟨k_1165, List.forall_mem_cons.mpr ⟨k_1167, List.forall_mem_cons.mpr ⟨(big_sel (q := y_Md_goes) (n := 45) (by decide +kernel)), List.forall_mem_cons.mpr ⟨k_13, fun _ h => absurd h List.not_mem_nil⟩⟩⟩⟩, List.forall_mem_cons.mpr ⟨k_1168, fun _ h => h⟩⟩)) rfl rfl rfl (by decide +kernel) ⟨Nat.le_of_ble_eq_true rfl, Nat.le_of_ble_eq_true rfl⟩) ⟨fun a U g mk q => by obtain ⟨q0, q1, qP, qK, qD⟩ := q; exact ⟨q0, q1, qP, va_K.moved (u := U) (U := U.calling g mk a) (Vm.Alike.refl U.vm) qK, qD⟩, va_recv (q0 := 0) (ci := 12) hK hP rfl rfl, fun U hU hW => ⟨rfl, by rw [hU], by rw [hU]; exact hPc, va_K.moved hW.alike hK, hDc.weaken (fun _ _ _ _ => trivial)⟩⟩ rfl rfl hl.1 rfl (lv_room (Nat.le_of_ble_eq_true rfl)) d_Md_count_15 ⟨Nat.le_of_ble_eq_true rfl, Nat.le_of_ble_eq_true rfl⟩) hS (fun q _ h => hFc q h) hFc (fun rv9 u t H1 locs ht hvm hw hB hz1 hk1 hS => ?_)
      try dsimp only at hw hB
      obtain ⟨hP1, hK1, hD1⟩ := hB
      rw [ht] at hP1
      obtain ⟨rfl, hw⟩ := hw
      obtain ⟨hP, hD⟩ := va_join (wr := []) (w1 := [(mo, .inr (12, mdG r 0 tm (nI sn) (nI tx) (nI lz) (nI az) (nI na) (nI nt) (nI nr) mw ml mk dq))]) hP hD [0] [] rfl rfl (by decide) (by decide) hk1 hFc hP1 hD1
      have hw232 := hw
      clear hPc hDc hFc hz1 hk1 hP1 hK1 hD1
      generalize H1 = H at hP hS ⊢
      have hP : va_P (dC, dI) vcl [(mo, .inr (12, mdG r 0 tm (nI sn) (nI tx) (nI lz) (nI az) (nI na) (nI nt) (nI nr) mw ml mk dq))] H := hP
      have hD : va_D A [(mo, .inr (12, mdG r 0 tm (nI sn) (nI tx) (nI lz) (nI az) (nI na) (nI nt) (nI nr) mw ml mk dq))] := hD
      refine lv_if_ne (tgt := 23) hx hb d_Md_count_18 (by decide) (fun hc233 => ?_) (fun hn9 => absurd hn9 (by decide))
      refine lv_iload_n hx hb d_Md_count_23 rfl (lv_at hl 1 rfl) ?_
      refine lv_if_ne (tgt := 34) hx hb d_Md_count_24 (by decide) (fun hc234 => ?_) (fun hc234 => ?_)
      · skip
        refine lv_iload_n hx hb d_Md_count_34 rfl (lv_at hl 1 rfl) ?_
        refine lv_iconst (v := 1) hx hb d_Md_count_35 (by decide) ?_
        refine lv_icmp_ne (tgt := 46) hx hb d_Md_count_36 (by decide) (fun hc235 => ?_) (fun hc235 => ?_)
        · skip
          refine lv_iload_n hx hb d_Md_count_46 rfl (lv_at hl 1 rfl) ?_
          refine lv_iconst (v := 2) hx hb d_Md_count_47 (by decide) ?_
          refine lv_icmp_ne (tgt := 58) hx hb d_Md_count_48 (by decide) (fun hc236 => ?_) (fun hc236 => ?_)
          · skip
            refine lv_iload_n hx hb d_Md_count_58 rfl (lv_at hl 1 rfl) ?_
            refine lv_iconst (v := 3) hx hb d_Md_count_59 (by decide) ?_
            refine lv_icmp_ne (tgt := 70) hx hb d_Md_count_60 (by decide) (fun hc237 => ?_) (fun hc237 => ?_)
            · skip
              refine lv_iload_n hx hb d_Md_count_70 rfl (lv_at hl 1 rfl) ?_
              refine lv_iconst (v := 4) hx hb d_Md_count_71 (by decide) ?_
              refine lv_icmp_ne (tgt := 82) hx hb d_Md_count_72 (by decide) (fun hc238 => ?_) (fun hc238 => ?_)
              · skip
                refine lv_aload_n hx hb d_Md_count_82 rfl (lv_at hl 0 rfl) ?_
                refine va_get (D := (dC, dI)) (ci := 12) (v := (.int (nI sn))) (C := R_Md) (T := F_Md) (N := 45) hx hb hg in_Md hown hK hP 0 rfl rfl 8 (by decide) (hg _ k_1028) (fun _ h9 => h9) rfl d_Md_count_83 ?_
                have hP9 := hP.sub (ws' := [(mo, .inr (12, mdG r 0 tm (nI sn) (nI tx) (nI lz) (nI az) (nI na) (nI nt) (nI nr) mw ml mk dq))]) [0] rfl
                have hD9 := hD.sub (ws' := [(mo, .inr (12, mdG r 0 tm (nI sn) (nI tx) (nI lz) (nI az) (nI na) (nI nt) (nI nr) mw ml mk dq))]) [0] (by decide) rfl
                exact W.iret (v := nI sn) hx hb hr (fun t ht hW => ⟨⟨_, 0, rfl, trivial, by rw [ht]; exact hP9, va_K.moved hW.alike hK, hD9⟩, hS.F ht⟩) hS.2.2 d_Md_count_86
              · skip
                refine lv_aload_n hx hb d_Md_count_75 rfl (lv_at hl 0 rfl) ?_
                refine va_get (D := (dC, dI)) (ci := 12) (v := (.int ml)) (C := R_Md) (T := F_Md) (N := 45) hx hb hg in_Md hown hK hP 0 rfl rfl 44 (by decide) (hg _ k_1064) (fun _ h9 => h9) rfl d_Md_count_76 ?_
                refine lv_goto (tgt := 86) hx hb d_Md_count_79 (by decide) ?_
                have hP9 := hP.sub (ws' := [(mo, .inr (12, mdG r 0 tm (nI sn) (nI tx) (nI lz) (nI az) (nI na) (nI nt) (nI nr) mw ml mk dq))]) [0] rfl
                have hD9 := hD.sub (ws' := [(mo, .inr (12, mdG r 0 tm (nI sn) (nI tx) (nI lz) (nI az) (nI na) (nI nt) (nI nr) mw ml mk dq))]) [0] (by decide) rfl
                exact W.iret (v := ml) hx hb hr (fun t ht hW => ⟨⟨_, 0, rfl, trivial, by rw [ht]; exact hP9, va_K.moved hW.alike hK, hD9⟩, hS.F ht⟩) hS.2.2 d_Md_count_86
            · skip
              refine lv_aload_n hx hb d_Md_count_63 rfl (lv_at hl 0 rfl) ?_
              refine va_get (D := (dC, dI)) (ci := 12) (v := (.int mw)) (C := R_Md) (T := F_Md) (N := 45) hx hb hg in_Md hown hK hP 0 rfl rfl 43 (by decide) (hg _ k_1063) (fun _ h9 => h9) rfl d_Md_count_64 ?_
              refine lv_goto (tgt := 86) hx hb d_Md_count_67 (by decide) ?_
              have hP9 := hP.sub (ws' := [(mo, .inr (12, mdG r 0 tm (nI sn) (nI tx) (nI lz) (nI az) (nI na) (nI nt) (nI nr) mw ml mk dq))]) [0] rfl
              have hD9 := hD.sub (ws' := [(mo, .inr (12, mdG r 0 tm (nI sn) (nI tx) (nI lz) (nI az) (nI na) (nI nt) (nI nr) mw ml mk dq))]) [0] (by decide) rfl
              exact W.iret (v := mw) hx hb hr (fun t ht hW => ⟨⟨_, 0, rfl, trivial, by rw [ht]; exact hP9, va_K.moved hW.alike hK, hD9⟩, hS.F ht⟩) hS.2.2 d_Md_count_86
          · skip
            refine lv_aload_n hx hb d_Md_count_51 rfl (lv_at hl 0 rfl) ?_
            refine va_get (D := (dC, dI)) (ci := 12) (v := (.int (nI nr))) (C := R_Md) (T := F_Md) (N := 45) hx hb hg in_Md hown hK hP 0 rfl rfl 33 (by decide) (hg _ k_1053) (fun _ h9 => h9) rfl d_Md_count_52 ?_
            refine lv_goto (tgt := 86) hx hb d_Md_count_55 (by decide) ?_
            have hP9 := hP.sub (ws' := [(mo, .inr (12, mdG r 0 tm (nI sn) (nI tx) (nI lz) (nI az) (nI na) (nI nt) (nI nr) mw ml mk dq))]) [0] rfl
            have hD9 := hD.sub (ws' := [(mo, .inr (12, mdG r 0 tm (nI sn) (nI tx) (nI lz) (nI az) (nI na) (nI nt) (nI nr) mw ml mk dq))]) [0] (by decide) rfl
            exact W.iret (v := nI nr) hx hb hr (fun t ht hW => ⟨⟨_, 0, rfl, trivial, by rw [ht]; exact hP9, va_K.moved hW.alike hK, hD9⟩, hS.F ht⟩) hS.2.2 d_Md_count_86
        · skip
          refine lv_aload_n hx hb d_Md_count_39 rfl (lv_at hl 0 rfl) ?_
          refine va_get (D := (dC, dI)) (ci := 12) (v := (.int (nI nt))) (C := R_Md) (T := F_Md) (N := 45) hx hb hg in_Md hown hK hP 0 rfl rfl 24 (by decide) (hg _ k_1044) (fun _ h9 => h9) rfl d_Md_count_40 ?_
          refine lv_goto (tgt := 86) hx hb d_Md_count_43 (by decide) ?_
          have hP9 := hP.sub (ws' := [(mo, .inr (12, mdG r 0 tm (nI sn) (nI tx) (nI lz) (nI az) (nI na) (nI nt) (nI nr) mw ml mk dq))]) [0] rfl
          have hD9 := hD.sub (ws' := [(mo, .inr (12, mdG r 0 tm (nI sn) (nI tx) (nI lz) (nI az) (nI na) (nI nt) (nI nr) mw ml mk dq))]) [0] (by decide) rfl
          exact W.iret (v := nI nt) hx hb hr (fun t ht hW => ⟨⟨_, 0, rfl, trivial, by rw [ht]; exact hP9, va_K.moved hW.alike hK, hD9⟩, hS.F ht⟩) hS.2.2 d_Md_count_86
      · skip
        refine lv_aload_n hx hb d_Md_count_27 rfl (lv_at hl 0 rfl) ?_
        refine va_get (D := (dC, dI)) (ci := 12) (v := (.int (nI na))) (C := R_Md) (T := F_Md) (N := 45) hx hb hg in_Md hown hK hP 0 rfl rfl 17 (by decide) (hg _ k_1037) (fun _ h9 => h9) rfl d_Md_count_28 ?_
        refine lv_goto (tgt := 86) hx hb d_Md_count_31 (by decide) ?_
        have hP9 := hP.sub (ws' := [(mo, .inr (12, mdG r 0 tm (nI sn) (nI tx) (nI lz) (nI az) (nI na) (nI nt) (nI nr) mw ml mk dq))]) [0] rfl
        have hD9 := hD.sub (ws' := [(mo, .inr (12, mdG r 0 tm (nI sn) (nI tx) (nI lz) (nI az) (nI na) (nI nt) (nI nr) mw ml mk dq))]) [0] (by decide) rfl
        exact W.iret (v := nI na) hx hb hr (fun t ht hW => ⟨⟨_, 0, rfl, trivial, by rw [ht]; exact hP9, va_K.moved hW.alike hK, hD9⟩, hS.F ht⟩) hS.2.2 d_Md_count_86
set_option maxHeartbeats 4000000 in
set_option maxRecDepth 100000 in
/-- size -/
theorem u_size (l : Launch) (dC : Nat → ClassId) (dI : Nat → Nat → Nat) (cT : Nat → ClassId) (sz : Nat) (mo : Nat) (r : Nat → Nat) (cd : Int32) (tm : Int32) (sn : Nat) (tx : Nat) (lz : Nat) (az : Nat) (na : Nat) (nt : Nat) (nr : Nat) (mw : Int32) (ml : Int32) (mk : Int64) (dq : Int64)  : Met l y_Md_size (Cond.code y_Md_size b_Md_size 1 (Option.some Jvm.ClassFile.FieldType.int) :: BIG) ({ frames := 0, cells := 0, slots := 0, locals := 0 }) (va_Pc [.ref mo] (fun U => U.heap.size = sz ∧ va_P (dC, dI) vcl [(mo, .inr (12, mdG r cd tm (nI sn) (nI tx) (nI lz) (nI az) (nI na) (nI nt) (nI nr) mw ml mk dq))] U.heap ∧ va_K (dC, dI) vcl (tyL cT) U ∧ va_D (fun _ => True) [(mo, .inr (12, mdG r cd tm (nI sn) (nI tx) (nI lz) (nI az) (nI na) (nI nt) (nI nr) mw ml mk dq))])) (va_Qi (S := Unit) (fun rv9 u => True) (fun u t => va_P (dC, dI) vcl [(mo, .inr (12, mdG r 0 tm (nI sn) (nI tx) (nI lz) (nI az) (nI na) (nI nt) (nI nr) mw ml mk dq))] t.heap ∧ va_K (dC, dI) vcl (tyL cT) t ∧ va_D (va_A [(mo, .inr (12, mdG r cd tm (nI sn) (nI tx) (nI lz) (nI az) (nI na) (nI nt) (nI nr) mw ml mk dq))] sz) [(mo, .inr (12, mdG r 0 tm (nI sn) (nI tx) (nI lz) (nI az) (nI na) (nI nt) (nI nr) mw ml mk dq))]) (va_A [(mo, .inr (12, mdG r cd tm (nI sn) (nI tx) (nI lz) (nI az) (nI na) (nI nt) (nI nr) mw ml mk dq))] sz)) 0 0 (va_A [(mo, .inr (12, mdG r cd tm (nI sn) (nI tx) (nI lz) (nI az) (nI na) (nI nt) (nI nr) mw ml mk dq))] sz) := by
  refine Met.ofW (cc := b_Md_size) (maxL := 1) (ret := (Option.some Jvm.ClassFile.FieldType.int)) (by decide) rfl ?_
  intro p e s m args below meth c s₁ B hml hv
  obtain ⟨hargs, hsz, hP, hK, hD0⟩ := hv
  have hx := B.exec
  have hb := B.bytes
  have hr := B.returns
  have hts := atoms_spec (ws := (Cond.code y_Md_size b_Md_size 1 (Option.some Jvm.ClassFile.FieldType.int) :: BIG)) B.pre
  have hg : ∀ w ∈ BIG, w.before _ s = true := fun w h => hts w (List.mem_cons_of_mem _ h)
  have hown : s.vm.findClass "DoorServerModel" = some m.cls := findClass_of_methodNamed B.named
  have hlocks := B.notSynchronized
  subst hsz
  have hD := hD0.self (sz := s.heap.size)
  generalize hAe : va_A [(mo, .inr (12, mdG r cd tm (nI sn) (nI tx) (nI lz) (nI az) (nI na) (nI nt) (nI nr) mw ml mk dq))] s.heap.size = A at hD ⊢
  have hA : ∀ q : Nat, s.heap.size ≤ q → A q := fun q h => by rw [← hAe]; exact Or.inr h
  have hS : va_S A s.heap s.heap [] := va_S.rf
  have hl := lv_entry ([.ref mo]) (n := 1) (Nat.le_of_ble_eq_true rfl)
  refine W.eq (g2 := entryFrame m (List.toArray [.ref mo]) 1) (by rw [hargs]) ?_
  rw [lg_entry_eq]
  generalize (lg_sl ([.ref mo]) ++ List.replicate (1 - (lg_sl ([.ref mo])).length) Slot.unset).toArray = ls at hl ⊢
  have hl : lv_has ls 1 [(0, .ref mo)] := hl
  change W p l e ({ frames := 0, cells := 0, slots := 0, locals := 0 } : Room) s m args below meth c s.heap [] 0 0 _ _
  have hP : va_P (dC, dI) vcl [(mo, .inr (12, mdG r cd tm (nI sn) (nI tx) (nI lz) (nI az) (nI na) (nI nt) (nI nr) mw ml mk dq))] s.heap := hP
  refine lv_aload_n hx hb d_Md_size_0 rfl (lv_at hl 0 rfl) ?_
  refine lv_iconst (v := 0) hx hb d_Md_size_1 (by decide) ?_
  refine va_put (D := (dC, dI)) (ci := 12) (v := (.int 0)) (ty := .int) (C := R_Md) (T := F_Md) (N := 45) hx hb hg in_Md t_Md tok_Md nm_Md hown hK hP hD hS 0 rfl rfl 1 (by decide) (hg _ k_1021) (fun _ h9 => h9) rfl (by decide +kernel) rfl rfl (Nat.le_of_ble_eq_true rfl) d_Md_size_2 (fun H locs hP hD hS => ?_)
  have hP : va_P (dC, dI) vcl [(mo, .inr (12, mdG r 0 tm (nI sn) (nI tx) (nI lz) (nI az) (nI na) (nI nt) (nI nr) mw ml mk dq))] H := hP
  have hD : va_D A [(mo, .inr (12, mdG r 0 tm (nI sn) (nI tx) (nI lz) (nI az) (nI na) (nI nt) (nI nr) mw ml mk dq))] := hD
  refine lv_aload_n hx hb d_Md_size_5 rfl (lv_at hl 0 rfl) ?_
  refine va_get (D := (dC, dI)) (ci := 12) (v := (.int (nI lz))) (C := R_Md) (T := F_Md) (N := 45) hx hb hg in_Md hown hK hP 0 rfl rfl 14 (by decide) (hg _ k_1034) (fun _ h9 => h9) rfl d_Md_size_6 ?_
  have hP9 := hP.sub (ws' := [(mo, .inr (12, mdG r 0 tm (nI sn) (nI tx) (nI lz) (nI az) (nI na) (nI nt) (nI nr) mw ml mk dq))]) [0] rfl
  have hD9 := hD.sub (ws' := [(mo, .inr (12, mdG r 0 tm (nI sn) (nI tx) (nI lz) (nI az) (nI na) (nI nt) (nI nr) mw ml mk dq))]) [0] (by decide) rfl
  exact W.iret (v := nI lz) hx hb hr (fun t ht hW => ⟨⟨_, (), rfl, trivial, by rw [ht]; exact hP9, va_K.moved hW.alike hK, hD9⟩, hS.F ht⟩) hS.2.2 d_Md_size_9
set_option maxHeartbeats 4000000 in
set_option maxRecDepth 100000 in
/-- byteAt -/
theorem u_byteAt (l : Launch) (dC : Nat → ClassId) (dI : Nat → Nat → Nat) (cT : Nat → ClassId) (sz : Nat) (mo : Nat) (r : Nat → Nat) (cd : Int32) (tm : Int32) (sn : Nat) (tx : Nat) (lz : Nat) (az : Nat) (na : Nat) (nt : Nat) (nr : Nat) (mw : Int32) (ml : Int32) (mk : Int64) (dq : Int64) (f13 : Nat → Int32) (x : Int32) (hlz : lz ≤ 200) : Met l y_Md_byteAt (Cond.code y_Md_byteAt b_Md_byteAt 2 (Option.some Jvm.ClassFile.FieldType.int) :: BIG) ({ frames := 1, cells := 0, slots := 0, locals := 21 }) (va_Pc [.ref mo, .int x] (fun U => U.heap.size = sz ∧ va_P (dC, dI) vcl [(mo, .inr (12, mdG r cd tm (nI sn) (nI tx) (nI lz) (nI az) (nI na) (nI nt) (nI nr) mw ml mk dq)), (r 13, .inl ((cT 0), 200, .inl f13))] U.heap ∧ va_K (dC, dI) vcl (tyL cT) U ∧ va_D (fun _ => True) [(mo, .inr (12, mdG r cd tm (nI sn) (nI tx) (nI lz) (nI az) (nI na) (nI nt) (nI nr) mw ml mk dq)), (r 13, .inl ((cT 0), 200, .inl f13))])) (va_Qi (S := Int32) (fun rv9 u => match u with | cd2 => True) (fun u t => match u with | cd2 => va_P (dC, dI) vcl [(mo, .inr (12, mdG r cd2 tm (nI sn) (nI tx) (nI lz) (nI az) (nI na) (nI nt) (nI nr) mw ml mk dq)), (r 13, .inl ((cT 0), 200, .inl f13))] t.heap ∧ va_K (dC, dI) vcl (tyL cT) t ∧ va_D (va_A [(mo, .inr (12, mdG r cd tm (nI sn) (nI tx) (nI lz) (nI az) (nI na) (nI nt) (nI nr) mw ml mk dq)), (r 13, .inl ((cT 0), 200, .inl f13))] sz) [(mo, .inr (12, mdG r cd2 tm (nI sn) (nI tx) (nI lz) (nI az) (nI na) (nI nt) (nI nr) mw ml mk dq)), (r 13, .inl ((cT 0), 200, .inl f13))]) (va_A [(mo, .inr (12, mdG r cd tm (nI sn) (nI tx) (nI lz) (nI az) (nI na) (nI nt) (nI nr) mw ml mk dq)), (r 13, .inl ((cT 0), 200, .inl f13))] sz)) 0 0 (va_A [(mo, .inr (12, mdG r cd tm (nI sn) (nI tx) (nI lz) (nI az) (nI na) (nI nt) (nI nr) mw ml mk dq)), (r 13, .inl ((cT 0), 200, .inl f13))] sz) := by
  refine Met.ofW (cc := b_Md_byteAt) (maxL := 2) (ret := (Option.some Jvm.ClassFile.FieldType.int)) (by decide) rfl ?_
  intro p e s m args below meth c s₁ B hml hv
  obtain ⟨hargs, hsz, hP, hK, hD0⟩ := hv
  have hx := B.exec
  have hb := B.bytes
  have hr := B.returns
  have hts := atoms_spec (ws := (Cond.code y_Md_byteAt b_Md_byteAt 2 (Option.some Jvm.ClassFile.FieldType.int) :: BIG)) B.pre
  have hg : ∀ w ∈ BIG, w.before _ s = true := fun w h => hts w (List.mem_cons_of_mem _ h)
  have hown : s.vm.findClass "DoorServerModel" = some m.cls := findClass_of_methodNamed B.named
  have hlocks := B.notSynchronized
  subst hsz
  have hD := hD0.self (sz := s.heap.size)
  generalize hAe : va_A [(mo, .inr (12, mdG r cd tm (nI sn) (nI tx) (nI lz) (nI az) (nI na) (nI nt) (nI nr) mw ml mk dq)), (r 13, .inl ((cT 0), 200, .inl f13))] s.heap.size = A at hD ⊢
  have hA : ∀ q : Nat, s.heap.size ≤ q → A q := fun q h => by rw [← hAe]; exact Or.inr h
  have hS : va_S A s.heap s.heap [] := va_S.rf
  have hl := lv_entry ([.ref mo, .int x]) (n := 2) (Nat.le_of_ble_eq_true rfl)
  refine W.eq (g2 := entryFrame m (List.toArray [.ref mo, .int x]) 2) (by rw [hargs]) ?_
  rw [lg_entry_eq]
  generalize (lg_sl ([.ref mo, .int x]) ++ List.replicate (2 - (lg_sl ([.ref mo, .int x])).length) Slot.unset).toArray = ls at hl ⊢
  have hl : lv_has ls 2 [(0, .ref mo), (1, .int x)] := hl
  change W p l e ({ frames := 1, cells := 0, slots := 0, locals := 21 } : Room) s m args below meth c s.heap [] 0 0 _ _
  have hP : va_P (dC, dI) vcl [(mo, .inr (12, mdG r cd tm (nI sn) (nI tx) (nI lz) (nI az) (nI na) (nI nt) (nI nr) mw ml mk dq)), (r 13, .inl ((cT 0), 200, .inl f13))] s.heap := hP
  rcases pk_ix x (n := lz) (by omega) with h8x | h8x | ⟨xn, hxn, rfl⟩
  · skip
    refine lv_aload_n hx hb d_Md_byteAt_0 rfl (lv_at hl 0 rfl) ?_
    refine lv_iload_n hx hb d_Md_byteAt_1 rfl (lv_at hl 1 rfl) ?_
    refine lv_if_lt (tgt := 17) hx hb d_Md_byteAt_2 (by decide) (fun hc239 => ?_) (fun hn9 => absurd (h8x) hn9)
    refine lv_iconst (v := 0) hx hb d_Md_byteAt_17 (by decide) ?_
    have hPc := hP.sub (ws' := [(mo, .inr (12, mdG r cd tm (nI sn) (nI tx) (nI lz) (nI az) (nI na) (nI nt) (nI nr) mw ml mk dq))]) [0] rfl
    have hDc := hD.sub (ws' := [(mo, .inr (12, mdG r cd tm (nI sn) (nI tx) (nI lz) (nI az) (nI na) (nI nt) (nI nr) mw ml mk dq))]) [0] (by decide) rfl
    have hFc := va_free (wc := [(mo, .inr (12, mdG r cd tm (nI sn) (nI tx) (nI lz) (nI az) (nI na) (nI nt) (nI nr) mw ml mk dq))]) hD hS hA [0] rfl
    refine va_calli (va_runV (C := "DoorServerModel") (As := [.int 0]) (rest := []) ⟨hx, hb, hml, hown, hg⟩ (m_goes0 l dC dI cT s.heap.size mo r cd tm sn tx lz az na nt nr mw ml mk dq ) (cwV 1 hg (gI (List.forall_mem_append.mpr ⟨List.forall_mem_cons.mpr ⟨k_1165, List.forall_mem_cons.mpr ⟨k_1167, List.forall_mem_cons.mpr ⟨(big_sel (q := y_Md_goes) (n := 45) (by decide +kernel)), List.forall_mem_cons.mpr ⟨k_13, fun _ h => absurd h List.not_mem_nil⟩⟩⟩⟩, List.forall_mem_cons.mpr ⟨k_1168, fun _ h => h⟩⟩)) rfl rfl rfl (by decide +kernel) ⟨Nat.le_of_ble_eq_true rfl, Nat.le_of_ble_eq_true rfl⟩) ⟨fun a U g mk q => by obtain ⟨q0, q1, qP, qK, qD⟩ := q; exact ⟨q0, q1, qP, va_K.moved (u := U) (U := U.calling g mk a) (Vm.Alike.refl U.vm) qK, qD⟩, va_recv (q0 := 0) (ci := 12) hK hP rfl rfl, fun U hU hW => ⟨rfl, by rw [hU], by rw [hU]; exact hPc, va_K.moved hW.alike hK, hDc.weaken (fun _ _ _ _ => trivial)⟩⟩ rfl rfl hl.1 rfl (lv_room (Nat.le_of_ble_eq_true rfl)) d_Md_byteAt_18 ⟨Nat.le_of_ble_eq_true rfl, Nat.le_of_ble_eq_true rfl⟩) hS (fun q _ h => hFc q h) hFc (fun rv9 u t H1 locs ht hvm hw hB hz1 hk1 hS => ?_)
    try dsimp only at hw hB
    obtain ⟨hP1, hK1, hD1⟩ := hB
    rw [ht] at hP1
    obtain ⟨rfl, hw⟩ := hw
    obtain ⟨hP, hD⟩ := va_join (wr := [(r 13, .inl ((cT 0), 200, .inl f13))]) (w1 := [(mo, .inr (12, mdG r 1 tm (nI sn) (nI tx) (nI lz) (nI az) (nI na) (nI nt) (nI nr) mw ml mk dq))]) hP hD [0] [1] rfl rfl (by decide) (by decide) hk1 hFc hP1 hD1
    have hw240 := hw
    clear hPc hDc hFc hz1 hk1 hP1 hK1 hD1
    generalize H1 = H at hP hS ⊢
    have hP : va_P (dC, dI) vcl [(r 13, .inl ((cT 0), 200, .inl f13)), (mo, .inr (12, mdG r 1 tm (nI sn) (nI tx) (nI lz) (nI az) (nI na) (nI nt) (nI nr) mw ml mk dq))] H := hP
    have hD : va_D A [(r 13, .inl ((cT 0), 200, .inl f13)), (mo, .inr (12, mdG r 1 tm (nI sn) (nI tx) (nI lz) (nI az) (nI na) (nI nt) (nI nr) mw ml mk dq))] := hD
    refine lv_if_eq (tgt := 33) hx hb d_Md_byteAt_21 (by decide) (fun hc241 => ?_) (fun hn9 => absurd (by decide) hn9)
    refine lv_iconst (v := 0) hx hb d_Md_byteAt_33 (by decide) ?_
    have hP9 := hP.sub (ws' := [(mo, .inr (12, mdG r 1 tm (nI sn) (nI tx) (nI lz) (nI az) (nI na) (nI nt) (nI nr) mw ml mk dq)), (r 13, .inl ((cT 0), 200, .inl f13))]) [1, 0] rfl
    have hD9 := hD.sub (ws' := [(mo, .inr (12, mdG r 1 tm (nI sn) (nI tx) (nI lz) (nI az) (nI na) (nI nt) (nI nr) mw ml mk dq)), (r 13, .inl ((cT 0), 200, .inl f13))]) [1, 0] (by decide) rfl
    exact W.iret (v := 0) hx hb hr (fun t ht hW => ⟨⟨_, 1, rfl, trivial, by rw [ht]; exact hP9, va_K.moved hW.alike hK, hD9⟩, hS.F ht⟩) hS.2.2 d_Md_byteAt_34
  · skip
    refine lv_aload_n hx hb d_Md_byteAt_0 rfl (lv_at hl 0 rfl) ?_
    refine lv_iload_n hx hb d_Md_byteAt_1 rfl (lv_at hl 1 rfl) ?_
    refine lv_if_lt (tgt := 17) hx hb d_Md_byteAt_2 (by decide) (fun hc242 => ?_) (fun hc242 => ?_)
    · skip
      refine lv_iconst (v := 0) hx hb d_Md_byteAt_17 (by decide) ?_
      have hPc := hP.sub (ws' := [(mo, .inr (12, mdG r cd tm (nI sn) (nI tx) (nI lz) (nI az) (nI na) (nI nt) (nI nr) mw ml mk dq))]) [0] rfl
      have hDc := hD.sub (ws' := [(mo, .inr (12, mdG r cd tm (nI sn) (nI tx) (nI lz) (nI az) (nI na) (nI nt) (nI nr) mw ml mk dq))]) [0] (by decide) rfl
      have hFc := va_free (wc := [(mo, .inr (12, mdG r cd tm (nI sn) (nI tx) (nI lz) (nI az) (nI na) (nI nt) (nI nr) mw ml mk dq))]) hD hS hA [0] rfl
      refine va_calli (va_runV (C := "DoorServerModel") (As := [.int 0]) (rest := []) ⟨hx, hb, hml, hown, hg⟩ (m_goes0 l dC dI cT s.heap.size mo r cd tm sn tx lz az na nt nr mw ml mk dq ) (cwV 1 hg (gI (List.forall_mem_append.mpr ⟨List.forall_mem_cons.mpr ⟨k_1165, List.forall_mem_cons.mpr ⟨k_1167, List.forall_mem_cons.mpr ⟨(big_sel (q := y_Md_goes) (n := 45) (by decide +kernel)), List.forall_mem_cons.mpr ⟨k_13, fun _ h => absurd h List.not_mem_nil⟩⟩⟩⟩, List.forall_mem_cons.mpr ⟨k_1168, fun _ h => h⟩⟩)) rfl rfl rfl (by decide +kernel) ⟨Nat.le_of_ble_eq_true rfl, Nat.le_of_ble_eq_true rfl⟩) ⟨fun a U g mk q => by obtain ⟨q0, q1, qP, qK, qD⟩ := q; exact ⟨q0, q1, qP, va_K.moved (u := U) (U := U.calling g mk a) (Vm.Alike.refl U.vm) qK, qD⟩, va_recv (q0 := 0) (ci := 12) hK hP rfl rfl, fun U hU hW => ⟨rfl, by rw [hU], by rw [hU]; exact hPc, va_K.moved hW.alike hK, hDc.weaken (fun _ _ _ _ => trivial)⟩⟩ rfl rfl hl.1 rfl (lv_room (Nat.le_of_ble_eq_true rfl)) d_Md_byteAt_18 ⟨Nat.le_of_ble_eq_true rfl, Nat.le_of_ble_eq_true rfl⟩) hS (fun q _ h => hFc q h) hFc (fun rv9 u t H1 locs ht hvm hw hB hz1 hk1 hS => ?_)
      try dsimp only at hw hB
      obtain ⟨hP1, hK1, hD1⟩ := hB
      rw [ht] at hP1
      obtain ⟨rfl, hw⟩ := hw
      obtain ⟨hP, hD⟩ := va_join (wr := [(r 13, .inl ((cT 0), 200, .inl f13))]) (w1 := [(mo, .inr (12, mdG r 1 tm (nI sn) (nI tx) (nI lz) (nI az) (nI na) (nI nt) (nI nr) mw ml mk dq))]) hP hD [0] [1] rfl rfl (by decide) (by decide) hk1 hFc hP1 hD1
      have hw243 := hw
      clear hPc hDc hFc hz1 hk1 hP1 hK1 hD1
      generalize H1 = H at hP hS ⊢
      have hP : va_P (dC, dI) vcl [(r 13, .inl ((cT 0), 200, .inl f13)), (mo, .inr (12, mdG r 1 tm (nI sn) (nI tx) (nI lz) (nI az) (nI na) (nI nt) (nI nr) mw ml mk dq))] H := hP
      have hD : va_D A [(r 13, .inl ((cT 0), 200, .inl f13)), (mo, .inr (12, mdG r 1 tm (nI sn) (nI tx) (nI lz) (nI az) (nI na) (nI nt) (nI nr) mw ml mk dq))] := hD
      refine lv_if_eq (tgt := 33) hx hb d_Md_byteAt_21 (by decide) (fun hc244 => ?_) (fun hn9 => absurd (by decide) hn9)
      refine lv_iconst (v := 0) hx hb d_Md_byteAt_33 (by decide) ?_
      have hP9 := hP.sub (ws' := [(mo, .inr (12, mdG r 1 tm (nI sn) (nI tx) (nI lz) (nI az) (nI na) (nI nt) (nI nr) mw ml mk dq)), (r 13, .inl ((cT 0), 200, .inl f13))]) [1, 0] rfl
      have hD9 := hD.sub (ws' := [(mo, .inr (12, mdG r 1 tm (nI sn) (nI tx) (nI lz) (nI az) (nI na) (nI nt) (nI nr) mw ml mk dq)), (r 13, .inl ((cT 0), 200, .inl f13))]) [1, 0] (by decide) rfl
      exact W.iret (v := 0) hx hb hr (fun t ht hW => ⟨⟨_, 1, rfl, trivial, by rw [ht]; exact hP9, va_K.moved hW.alike hK, hD9⟩, hS.F ht⟩) hS.2.2 d_Md_byteAt_34
    · skip
      refine lv_iload_n hx hb d_Md_byteAt_5 rfl (lv_at hl 1 rfl) ?_
      refine lv_aload_n hx hb d_Md_byteAt_6 rfl (lv_at hl 0 rfl) ?_
      refine va_get (D := (dC, dI)) (ci := 12) (v := (.int (nI lz))) (C := R_Md) (T := F_Md) (N := 45) hx hb hg in_Md hown hK hP 0 rfl rfl 14 (by decide) (hg _ k_1034) (fun _ h9 => h9) rfl d_Md_byteAt_7 ?_
      refine lv_icmp_ge (tgt := 17) hx hb d_Md_byteAt_10 (by decide) (fun hc245 => ?_) (fun hn9 => absurd (h8x) hn9)
      refine lv_iconst (v := 0) hx hb d_Md_byteAt_17 (by decide) ?_
      have hPc := hP.sub (ws' := [(mo, .inr (12, mdG r cd tm (nI sn) (nI tx) (nI lz) (nI az) (nI na) (nI nt) (nI nr) mw ml mk dq))]) [0] rfl
      have hDc := hD.sub (ws' := [(mo, .inr (12, mdG r cd tm (nI sn) (nI tx) (nI lz) (nI az) (nI na) (nI nt) (nI nr) mw ml mk dq))]) [0] (by decide) rfl
      have hFc := va_free (wc := [(mo, .inr (12, mdG r cd tm (nI sn) (nI tx) (nI lz) (nI az) (nI na) (nI nt) (nI nr) mw ml mk dq))]) hD hS hA [0] rfl
      refine va_calli (va_runV (C := "DoorServerModel") (As := [.int 0]) (rest := []) ⟨hx, hb, hml, hown, hg⟩ (m_goes0 l dC dI cT s.heap.size mo r cd tm sn tx lz az na nt nr mw ml mk dq ) (cwV 1 hg (gI (List.forall_mem_append.mpr ⟨List.forall_mem_cons.mpr ⟨k_1165, List.forall_mem_cons.mpr ⟨k_1167, List.forall_mem_cons.mpr ⟨(big_sel (q := y_Md_goes) (n := 45) (by decide +kernel)), List.forall_mem_cons.mpr ⟨k_13, fun _ h => absurd h List.not_mem_nil⟩⟩⟩⟩, List.forall_mem_cons.mpr ⟨k_1168, fun _ h => h⟩⟩)) rfl rfl rfl (by decide +kernel) ⟨Nat.le_of_ble_eq_true rfl, Nat.le_of_ble_eq_true rfl⟩) ⟨fun a U g mk q => by obtain ⟨q0, q1, qP, qK, qD⟩ := q; exact ⟨q0, q1, qP, va_K.moved (u := U) (U := U.calling g mk a) (Vm.Alike.refl U.vm) qK, qD⟩, va_recv (q0 := 0) (ci := 12) hK hP rfl rfl, fun U hU hW => ⟨rfl, by rw [hU], by rw [hU]; exact hPc, va_K.moved hW.alike hK, hDc.weaken (fun _ _ _ _ => trivial)⟩⟩ rfl rfl hl.1 rfl (lv_room (Nat.le_of_ble_eq_true rfl)) d_Md_byteAt_18 ⟨Nat.le_of_ble_eq_true rfl, Nat.le_of_ble_eq_true rfl⟩) hS (fun q _ h => hFc q h) hFc (fun rv9 u t H1 locs ht hvm hw hB hz1 hk1 hS => ?_)
      try dsimp only at hw hB
      obtain ⟨hP1, hK1, hD1⟩ := hB
      rw [ht] at hP1
      obtain ⟨rfl, hw⟩ := hw
      obtain ⟨hP, hD⟩ := va_join (wr := [(r 13, .inl ((cT 0), 200, .inl f13))]) (w1 := [(mo, .inr (12, mdG r 1 tm (nI sn) (nI tx) (nI lz) (nI az) (nI na) (nI nt) (nI nr) mw ml mk dq))]) hP hD [0] [1] rfl rfl (by decide) (by decide) hk1 hFc hP1 hD1
      have hw246 := hw
      clear hPc hDc hFc hz1 hk1 hP1 hK1 hD1
      generalize H1 = H at hP hS ⊢
      have hP : va_P (dC, dI) vcl [(r 13, .inl ((cT 0), 200, .inl f13)), (mo, .inr (12, mdG r 1 tm (nI sn) (nI tx) (nI lz) (nI az) (nI na) (nI nt) (nI nr) mw ml mk dq))] H := hP
      have hD : va_D A [(r 13, .inl ((cT 0), 200, .inl f13)), (mo, .inr (12, mdG r 1 tm (nI sn) (nI tx) (nI lz) (nI az) (nI na) (nI nt) (nI nr) mw ml mk dq))] := hD
      refine lv_if_eq (tgt := 33) hx hb d_Md_byteAt_21 (by decide) (fun hc247 => ?_) (fun hn9 => absurd (by decide) hn9)
      refine lv_iconst (v := 0) hx hb d_Md_byteAt_33 (by decide) ?_
      have hP9 := hP.sub (ws' := [(mo, .inr (12, mdG r 1 tm (nI sn) (nI tx) (nI lz) (nI az) (nI na) (nI nt) (nI nr) mw ml mk dq)), (r 13, .inl ((cT 0), 200, .inl f13))]) [1, 0] rfl
      have hD9 := hD.sub (ws' := [(mo, .inr (12, mdG r 1 tm (nI sn) (nI tx) (nI lz) (nI az) (nI na) (nI nt) (nI nr) mw ml mk dq)), (r 13, .inl ((cT 0), 200, .inl f13))]) [1, 0] (by decide) rfl
      exact W.iret (v := 0) hx hb hr (fun t ht hW => ⟨⟨_, 1, rfl, trivial, by rw [ht]; exact hP9, va_K.moved hW.alike hK, hD9⟩, hS.F ht⟩) hS.2.2 d_Md_byteAt_34
  · skip
    refine lv_aload_n hx hb d_Md_byteAt_0 rfl (lv_at hl 0 rfl) ?_
    refine lv_iload_n hx hb d_Md_byteAt_1 rfl (lv_at hl 1 rfl) ?_
    refine lv_if_lt (tgt := 17) hx hb d_Md_byteAt_2 (by decide) (fun hn9 => absurd hn9 (nI_pos (by omega))) (fun hc248 => ?_)
    refine lv_iload_n hx hb d_Md_byteAt_5 rfl (lv_at hl 1 rfl) ?_
    refine lv_aload_n hx hb d_Md_byteAt_6 rfl (lv_at hl 0 rfl) ?_
    refine va_get (D := (dC, dI)) (ci := 12) (v := (.int (nI lz))) (C := R_Md) (T := F_Md) (N := 45) hx hb hg in_Md hown hK hP 0 rfl rfl 14 (by decide) (hg _ k_1034) (fun _ h9 => h9) rfl d_Md_byteAt_7 ?_
    refine lv_icmp_ge (tgt := 17) hx hb d_Md_byteAt_10 (by decide) (fun hc249 => ?_) (fun hc249 => ?_)
    · skip
      have n250 : lz ≤ xn := (nI_leI (a := lz) (b := xn) (by omega) (by omega)).mp hc249
      refine lv_iconst (v := 0) hx hb d_Md_byteAt_17 (by decide) ?_
      have hPc := hP.sub (ws' := [(mo, .inr (12, mdG r cd tm (nI sn) (nI tx) (nI lz) (nI az) (nI na) (nI nt) (nI nr) mw ml mk dq))]) [0] rfl
      have hDc := hD.sub (ws' := [(mo, .inr (12, mdG r cd tm (nI sn) (nI tx) (nI lz) (nI az) (nI na) (nI nt) (nI nr) mw ml mk dq))]) [0] (by decide) rfl
      have hFc := va_free (wc := [(mo, .inr (12, mdG r cd tm (nI sn) (nI tx) (nI lz) (nI az) (nI na) (nI nt) (nI nr) mw ml mk dq))]) hD hS hA [0] rfl
      refine va_calli (va_runV (C := "DoorServerModel") (As := [.int 0]) (rest := []) ⟨hx, hb, hml, hown, hg⟩ (m_goes0 l dC dI cT s.heap.size mo r cd tm sn tx lz az na nt nr mw ml mk dq ) (cwV 1 hg (gI (List.forall_mem_append.mpr ⟨List.forall_mem_cons.mpr ⟨k_1165, List.forall_mem_cons.mpr ⟨k_1167, List.forall_mem_cons.mpr ⟨(big_sel (q := y_Md_goes) (n := 45) (by decide +kernel)), List.forall_mem_cons.mpr ⟨k_13, fun _ h => absurd h List.not_mem_nil⟩⟩⟩⟩, List.forall_mem_cons.mpr ⟨k_1168, fun _ h => h⟩⟩)) rfl rfl rfl (by decide +kernel) ⟨Nat.le_of_ble_eq_true rfl, Nat.le_of_ble_eq_true rfl⟩) ⟨fun a U g mk q => by obtain ⟨q0, q1, qP, qK, qD⟩ := q; exact ⟨q0, q1, qP, va_K.moved (u := U) (U := U.calling g mk a) (Vm.Alike.refl U.vm) qK, qD⟩, va_recv (q0 := 0) (ci := 12) hK hP rfl rfl, fun U hU hW => ⟨rfl, by rw [hU], by rw [hU]; exact hPc, va_K.moved hW.alike hK, hDc.weaken (fun _ _ _ _ => trivial)⟩⟩ rfl rfl hl.1 rfl (lv_room (Nat.le_of_ble_eq_true rfl)) d_Md_byteAt_18 ⟨Nat.le_of_ble_eq_true rfl, Nat.le_of_ble_eq_true rfl⟩) hS (fun q _ h => hFc q h) hFc (fun rv9 u t H1 locs ht hvm hw hB hz1 hk1 hS => ?_)
      try dsimp only at hw hB
      obtain ⟨hP1, hK1, hD1⟩ := hB
      rw [ht] at hP1
      obtain ⟨rfl, hw⟩ := hw
      obtain ⟨hP, hD⟩ := va_join (wr := [(r 13, .inl ((cT 0), 200, .inl f13))]) (w1 := [(mo, .inr (12, mdG r 1 tm (nI sn) (nI tx) (nI lz) (nI az) (nI na) (nI nt) (nI nr) mw ml mk dq))]) hP hD [0] [1] rfl rfl (by decide) (by decide) hk1 hFc hP1 hD1
      have hw252 := hw
      clear hPc hDc hFc hz1 hk1 hP1 hK1 hD1
      generalize H1 = H at hP hS ⊢
      have hP : va_P (dC, dI) vcl [(r 13, .inl ((cT 0), 200, .inl f13)), (mo, .inr (12, mdG r 1 tm (nI sn) (nI tx) (nI lz) (nI az) (nI na) (nI nt) (nI nr) mw ml mk dq))] H := hP
      have hD : va_D A [(r 13, .inl ((cT 0), 200, .inl f13)), (mo, .inr (12, mdG r 1 tm (nI sn) (nI tx) (nI lz) (nI az) (nI na) (nI nt) (nI nr) mw ml mk dq))] := hD
      refine lv_if_eq (tgt := 33) hx hb d_Md_byteAt_21 (by decide) (fun hc253 => ?_) (fun hn9 => absurd (by decide) hn9)
      refine lv_iconst (v := 0) hx hb d_Md_byteAt_33 (by decide) ?_
      have hP9 := hP.sub (ws' := [(mo, .inr (12, mdG r 1 tm (nI sn) (nI tx) (nI lz) (nI az) (nI na) (nI nt) (nI nr) mw ml mk dq)), (r 13, .inl ((cT 0), 200, .inl f13))]) [1, 0] rfl
      have hD9 := hD.sub (ws' := [(mo, .inr (12, mdG r 1 tm (nI sn) (nI tx) (nI lz) (nI az) (nI na) (nI nt) (nI nr) mw ml mk dq)), (r 13, .inl ((cT 0), 200, .inl f13))]) [1, 0] (by decide) rfl
      exact W.iret (v := 0) hx hb hr (fun t ht hW => ⟨⟨_, 1, rfl, trivial, by rw [ht]; exact hP9, va_K.moved hW.alike hK, hD9⟩, hS.F ht⟩) hS.2.2 d_Md_byteAt_34
    · skip
      have n251 : xn < lz := Nat.not_le.mp (fun h7 => hc249 ((nI_leI (a := lz) (b := xn) (by omega) (by omega)).mpr h7))
      refine lv_iconst (v := 1) hx hb d_Md_byteAt_13 (by decide) ?_
      refine lv_goto (tgt := 18) hx hb d_Md_byteAt_14 (by decide) ?_
      have hPc := hP.sub (ws' := [(mo, .inr (12, mdG r cd tm (nI sn) (nI tx) (nI lz) (nI az) (nI na) (nI nt) (nI nr) mw ml mk dq))]) [0] rfl
      have hDc := hD.sub (ws' := [(mo, .inr (12, mdG r cd tm (nI sn) (nI tx) (nI lz) (nI az) (nI na) (nI nt) (nI nr) mw ml mk dq))]) [0] (by decide) rfl
      have hFc := va_free (wc := [(mo, .inr (12, mdG r cd tm (nI sn) (nI tx) (nI lz) (nI az) (nI na) (nI nt) (nI nr) mw ml mk dq))]) hD hS hA [0] rfl
      refine va_calli (va_runV (C := "DoorServerModel") (As := [.int 1]) (rest := []) ⟨hx, hb, hml, hown, hg⟩ (m_goes1 l dC dI cT s.heap.size mo r cd tm sn tx lz az na nt nr mw ml mk dq ) (cwV 1 hg (gI (List.forall_mem_append.mpr ⟨List.forall_mem_cons.mpr ⟨k_1165, List.forall_mem_cons.mpr ⟨k_1167, List.forall_mem_cons.mpr ⟨(big_sel (q := y_Md_goes) (n := 45) (by decide +kernel)), List.forall_mem_cons.mpr ⟨k_13, fun _ h => absurd h List.not_mem_nil⟩⟩⟩⟩, List.forall_mem_cons.mpr ⟨k_1168, fun _ h => h⟩⟩)) rfl rfl rfl (by decide +kernel) ⟨Nat.le_of_ble_eq_true rfl, Nat.le_of_ble_eq_true rfl⟩) ⟨fun a U g mk q => by obtain ⟨q0, q1, qP, qK, qD⟩ := q; exact ⟨q0, q1, qP, va_K.moved (u := U) (U := U.calling g mk a) (Vm.Alike.refl U.vm) qK, qD⟩, va_recv (q0 := 0) (ci := 12) hK hP rfl rfl, fun U hU hW => ⟨rfl, by rw [hU], by rw [hU]; exact hPc, va_K.moved hW.alike hK, hDc.weaken (fun _ _ _ _ => trivial)⟩⟩ rfl rfl hl.1 rfl (lv_room (Nat.le_of_ble_eq_true rfl)) d_Md_byteAt_18 ⟨Nat.le_of_ble_eq_true rfl, Nat.le_of_ble_eq_true rfl⟩) hS (fun q _ h => hFc q h) hFc (fun rv9 u t H1 locs ht hvm hw hB hz1 hk1 hS => ?_)
      try dsimp only at hw hB
      obtain ⟨hP1, hK1, hD1⟩ := hB
      rw [ht] at hP1
      obtain ⟨rfl, hw⟩ := hw
      obtain ⟨hP, hD⟩ := va_join (wr := [(r 13, .inl ((cT 0), 200, .inl f13))]) (w1 := [(mo, .inr (12, mdG r 0 tm (nI sn) (nI tx) (nI lz) (nI az) (nI na) (nI nt) (nI nr) mw ml mk dq))]) hP hD [0] [1] rfl rfl (by decide) (by decide) hk1 hFc hP1 hD1
      have hw254 := hw
      clear hPc hDc hFc hz1 hk1 hP1 hK1 hD1
      generalize H1 = H at hP hS ⊢
      have hP : va_P (dC, dI) vcl [(r 13, .inl ((cT 0), 200, .inl f13)), (mo, .inr (12, mdG r 0 tm (nI sn) (nI tx) (nI lz) (nI az) (nI na) (nI nt) (nI nr) mw ml mk dq))] H := hP
      have hD : va_D A [(r 13, .inl ((cT 0), 200, .inl f13)), (mo, .inr (12, mdG r 0 tm (nI sn) (nI tx) (nI lz) (nI az) (nI na) (nI nt) (nI nr) mw ml mk dq))] := hD
      refine lv_if_eq (tgt := 33) hx hb d_Md_byteAt_21 (by decide) (fun hn9 => absurd hn9 (by decide)) (fun hc255 => ?_)
      refine lv_aload_n hx hb d_Md_byteAt_24 rfl (lv_at hl 0 rfl) ?_
      refine va_get (D := (dC, dI)) (ci := 12) (v := (.ref (r 13))) (C := R_Md) (T := F_Md) (N := 45) hx hb hg in_Md hown hK hP 1 rfl rfl 13 (by decide) (hg _ k_1033) (fun _ h9 => h9) rfl d_Md_byteAt_25 ?_
      refine lv_iload_n hx hb d_Md_byteAt_28 rfl (lv_at hl 1 rfl) ?_
      refine va_iald hx hb hK hP 0 0 rfl rfl (i := (nI xn)) (vp_in_nI (N := 200) (by omega) (by decide)) d_Md_byteAt_29 ?_
      refine lv_topi (fun x256 e_x256 => ?_)
      clear e_x256
      refine lv_goto (tgt := 34) hx hb d_Md_byteAt_30 (by decide) ?_
      have hP9 := hP.sub (ws' := [(mo, .inr (12, mdG r 0 tm (nI sn) (nI tx) (nI lz) (nI az) (nI na) (nI nt) (nI nr) mw ml mk dq)), (r 13, .inl ((cT 0), 200, .inl f13))]) [1, 0] rfl
      have hD9 := hD.sub (ws' := [(mo, .inr (12, mdG r 0 tm (nI sn) (nI tx) (nI lz) (nI az) (nI na) (nI nt) (nI nr) mw ml mk dq)), (r 13, .inl ((cT 0), 200, .inl f13))]) [1, 0] (by decide) rfl
      exact W.iret (v := x256) hx hb hr (fun t ht hW => ⟨⟨_, 0, rfl, trivial, by rw [ht]; exact hP9, va_K.moved hW.alike hK, hD9⟩, hS.F ht⟩) hS.2.2 d_Md_byteAt_34
set_option maxHeartbeats 4000000 in
set_option maxRecDepth 100000 in
/-- isByte -/
theorem m_byteU (l : Launch) (dC : Nat → ClassId) (dI : Nat → Nat → Nat) (cT : Nat → ClassId) (sz : Nat) (v : Int32)  : Met l y_Md_isByte (Cond.code y_Md_isByte b_Md_isByte 1 (Option.some Jvm.ClassFile.FieldType.boolean) :: BIG) ({ frames := 0, cells := 0, slots := 0, locals := 0 }) (va_Pc [.int v] (fun U => U.heap.size = sz ∧ va_P (dC, dI) vcl [] U.heap ∧ va_K (dC, dI) vcl (tyL cT) U ∧ va_D (fun _ => True) [])) (va_Qi (S := Unit) (fun rv9 u => (rv9 = 0 ∨ rv9 = 1) ∧ (rv9 = 1 → BY v)) (fun u t => va_P (dC, dI) vcl [] t.heap ∧ va_K (dC, dI) vcl (tyL cT) t ∧ va_D (va_A [] sz) []) (va_A [] sz)) 0 0 (va_A [] sz) := by
  refine Met.ofW (cc := b_Md_isByte) (maxL := 1) (ret := (Option.some Jvm.ClassFile.FieldType.boolean)) (by decide) rfl ?_
  intro p e s m args below meth c s₁ B hml hv
  obtain ⟨hargs, hsz, hP, hK, hD0⟩ := hv
  have hx := B.exec
  have hb := B.bytes
  have hr := B.returns
  have hts := atoms_spec (ws := (Cond.code y_Md_isByte b_Md_isByte 1 (Option.some Jvm.ClassFile.FieldType.boolean) :: BIG)) B.pre
  have hg : ∀ w ∈ BIG, w.before _ s = true := fun w h => hts w (List.mem_cons_of_mem _ h)
  have hown : s.vm.findClass "DoorServerModel" = some m.cls := findClass_of_methodNamed B.named
  have hlocks := B.notSynchronized
  subst hsz
  have hD := hD0.self (sz := s.heap.size)
  generalize hAe : va_A [] s.heap.size = A at hD ⊢
  have hA : ∀ q : Nat, s.heap.size ≤ q → A q := fun q h => by rw [← hAe]; exact Or.inr h
  have hS : va_S A s.heap s.heap [] := va_S.rf
  have hl := lv_entry ([.int v]) (n := 1) (Nat.le_of_ble_eq_true rfl)
  refine W.eq (g2 := entryFrame m (List.toArray [.int v]) 1) (by rw [hargs]) ?_
  rw [lg_entry_eq]
  generalize (lg_sl ([.int v]) ++ List.replicate (1 - (lg_sl ([.int v])).length) Slot.unset).toArray = ls at hl ⊢
  have hl : lv_has ls 1 [(0, .int v)] := hl
  change W p l e ({ frames := 0, cells := 0, slots := 0, locals := 0 } : Room) s m args below meth c s.heap [] 0 0 _ _
  have hP : va_P (dC, dI) vcl [] s.heap := hP
  refine lv_iload_n hx hb d_Md_isByte_0 rfl (lv_at hl 0 rfl) ?_
  refine lv_if_lt (tgt := 15) hx hb d_Md_isByte_1 (by decide) (fun hc257 => ?_) (fun hc257 => ?_)
  · skip
    refine lv_iconst (v := 0) hx hb d_Md_isByte_15 (by decide) ?_
    have hP9 := hP.sub (ws' := []) [] rfl
    have hD9 := hD.sub (ws' := []) [] (by decide) rfl
    exact W.zret (v := 0) hx hb hr (by first | rfl | decide) (fun t ht hW => ⟨⟨_, (), rfl, ⟨Or.inl rfl, fun h9 => absurd h9 (by decide)⟩, by rw [ht]; exact hP9, va_K.moved hW.alike hK, hD9⟩, hS.F ht⟩) hS.2.2 d_Md_isByte_16
  · skip
    refine lv_iload_n hx hb d_Md_isByte_4 rfl (lv_at hl 0 rfl) ?_
    refine lv_sipush (v := 256) hx hb d_Md_isByte_5 (by decide) ?_
    refine lv_icmp_ge (tgt := 15) hx hb d_Md_isByte_8 (by decide) (fun hc258 => ?_) (fun hc258 => ?_)
    · skip
      refine lv_iconst (v := 0) hx hb d_Md_isByte_15 (by decide) ?_
      have hP9 := hP.sub (ws' := []) [] rfl
      have hD9 := hD.sub (ws' := []) [] (by decide) rfl
      exact W.zret (v := 0) hx hb hr (by first | rfl | decide) (fun t ht hW => ⟨⟨_, (), rfl, ⟨Or.inl rfl, fun h9 => absurd h9 (by decide)⟩, by rw [ht]; exact hP9, va_K.moved hW.alike hK, hD9⟩, hS.F ht⟩) hS.2.2 d_Md_isByte_16
    · skip
      refine lv_iconst (v := 1) hx hb d_Md_isByte_11 (by decide) ?_
      refine lv_goto (tgt := 16) hx hb d_Md_isByte_12 (by decide) ?_
      have hP9 := hP.sub (ws' := []) [] rfl
      have hD9 := hD.sub (ws' := []) [] (by decide) rfl
      exact W.zret (v := 1) hx hb hr (by first | rfl | decide) (fun t ht hW => ⟨⟨_, (), rfl, ⟨Or.inr rfl, fun _ => BY_rng hc257 (fun h9 => hc258 ((lt_le1 (by decide)).mp h9))⟩, by rw [ht]; exact hP9, va_K.moved hW.alike hK, hD9⟩, hS.F ht⟩) hS.2.2 d_Md_isByte_16
set_option maxHeartbeats 4000000 in
set_option maxRecDepth 100000 in
/-- spoil -/
theorem u_spoil (l : Launch) (dC : Nat → ClassId) (dI : Nat → Nat → Nat) (cT : Nat → ClassId) (sz : Nat) (mo : Nat) (r : Nat → Nat) (cd : Int32) (tm : Int32) (sn : Nat) (tx : Nat) (lz : Nat) (az : Nat) (na : Nat) (nt : Nat) (nr : Nat) (mw : Int32) (ml : Int32) (mk : Int64) (dq : Int64) (f7 : Nat → Int32) (x : Int32) (y : Int32) (h20 : 20 ≤ sn) (hsn : sn ≤ 1000) (h7 : AB f7) : Met l y_Md_spoil (Cond.code y_Md_spoil b_Md_spoil 3 (Option.some Jvm.ClassFile.FieldType.int) :: BIG) ({ frames := 1, cells := 0, slots := 0, locals := 21 }) (va_Pc [.ref mo, .int x, .int y] (fun U => U.heap.size = sz ∧ va_P (dC, dI) vcl [(mo, .inr (12, mdG r cd tm (nI sn) (nI tx) (nI lz) (nI az) (nI na) (nI nt) (nI nr) mw ml mk dq)), (r 7, .inl ((cT 0), 1000, .inl f7))] U.heap ∧ va_K (dC, dI) vcl (tyL cT) U ∧ va_D (fun _ => True) [(mo, .inr (12, mdG r cd tm (nI sn) (nI tx) (nI lz) (nI az) (nI na) (nI nt) (nI nr) mw ml mk dq)), (r 7, .inl ((cT 0), 1000, .inl f7))])) (va_Qi (S := (Nat → Int32) × Int32) (fun rv9 u => match u with | (g7, cd2) => AB g7) (fun u t => match u with | (g7, cd2) => va_P (dC, dI) vcl [(mo, .inr (12, mdG r cd2 tm (nI sn) (nI tx) (nI lz) (nI az) (nI na) (nI nt) (nI nr) mw ml mk dq)), (r 7, .inl ((cT 0), 1000, .inl g7))] t.heap ∧ va_K (dC, dI) vcl (tyL cT) t ∧ va_D (va_A [(mo, .inr (12, mdG r cd tm (nI sn) (nI tx) (nI lz) (nI az) (nI na) (nI nt) (nI nr) mw ml mk dq)), (r 7, .inl ((cT 0), 1000, .inl f7))] sz) [(mo, .inr (12, mdG r cd2 tm (nI sn) (nI tx) (nI lz) (nI az) (nI na) (nI nt) (nI nr) mw ml mk dq)), (r 7, .inl ((cT 0), 1000, .inl g7))]) (va_A [(mo, .inr (12, mdG r cd tm (nI sn) (nI tx) (nI lz) (nI az) (nI na) (nI nt) (nI nr) mw ml mk dq)), (r 7, .inl ((cT 0), 1000, .inl f7))] sz)) 0 0 (va_A [(mo, .inr (12, mdG r cd tm (nI sn) (nI tx) (nI lz) (nI az) (nI na) (nI nt) (nI nr) mw ml mk dq)), (r 7, .inl ((cT 0), 1000, .inl f7))] sz) := by
  refine Met.ofW (cc := b_Md_spoil) (maxL := 3) (ret := (Option.some Jvm.ClassFile.FieldType.int)) (by decide) rfl ?_
  intro p e s m args below meth c s₁ B hml hv
  obtain ⟨hargs, hsz, hP, hK, hD0⟩ := hv
  have hx := B.exec
  have hb := B.bytes
  have hr := B.returns
  have hts := atoms_spec (ws := (Cond.code y_Md_spoil b_Md_spoil 3 (Option.some Jvm.ClassFile.FieldType.int) :: BIG)) B.pre
  have hg : ∀ w ∈ BIG, w.before _ s = true := fun w h => hts w (List.mem_cons_of_mem _ h)
  have hown : s.vm.findClass "DoorServerModel" = some m.cls := findClass_of_methodNamed B.named
  have hlocks := B.notSynchronized
  subst hsz
  have hD := hD0.self (sz := s.heap.size)
  generalize hAe : va_A [(mo, .inr (12, mdG r cd tm (nI sn) (nI tx) (nI lz) (nI az) (nI na) (nI nt) (nI nr) mw ml mk dq)), (r 7, .inl ((cT 0), 1000, .inl f7))] s.heap.size = A at hD ⊢
  have hA : ∀ q : Nat, s.heap.size ≤ q → A q := fun q h => by rw [← hAe]; exact Or.inr h
  have hS : va_S A s.heap s.heap [] := va_S.rf
  have hl := lv_entry ([.ref mo, .int x, .int y]) (n := 3) (Nat.le_of_ble_eq_true rfl)
  refine W.eq (g2 := entryFrame m (List.toArray [.ref mo, .int x, .int y]) 3) (by rw [hargs]) ?_
  rw [lg_entry_eq]
  generalize (lg_sl ([.ref mo, .int x, .int y]) ++ List.replicate (3 - (lg_sl ([.ref mo, .int x, .int y])).length) Slot.unset).toArray = ls at hl ⊢
  have hl : lv_has ls 3 [(0, .ref mo), (1, .int x), (2, .int y)] := hl
  change W p l e ({ frames := 1, cells := 0, slots := 0, locals := 21 } : Room) s m args below meth c s.heap [] 0 0 _ _
  have hP : va_P (dC, dI) vcl [(mo, .inr (12, mdG r cd tm (nI sn) (nI tx) (nI lz) (nI az) (nI na) (nI nt) (nI nr) mw ml mk dq)), (r 7, .inl ((cT 0), 1000, .inl f7))] s.heap := hP
  rcases pk_ix x (n := sn) (by omega) with h8x | h8x | ⟨xn, hxn, rfl⟩
  · skip
    refine lv_aload_n hx hb d_Md_spoil_0 rfl (lv_at hl 0 rfl) ?_
    refine lv_iload_n hx hb d_Md_spoil_1 rfl (lv_at hl 1 rfl) ?_
    refine lv_if_lt (tgt := 24) hx hb d_Md_spoil_2 (by decide) (fun hc259 => ?_) (fun hn9 => absurd (h8x) hn9)
    refine lv_iconst (v := 0) hx hb d_Md_spoil_24 (by decide) ?_
    have hPc := hP.sub (ws' := [(mo, .inr (12, mdG r cd tm (nI sn) (nI tx) (nI lz) (nI az) (nI na) (nI nt) (nI nr) mw ml mk dq))]) [0] rfl
    have hDc := hD.sub (ws' := [(mo, .inr (12, mdG r cd tm (nI sn) (nI tx) (nI lz) (nI az) (nI na) (nI nt) (nI nr) mw ml mk dq))]) [0] (by decide) rfl
    have hFc := va_free (wc := [(mo, .inr (12, mdG r cd tm (nI sn) (nI tx) (nI lz) (nI az) (nI na) (nI nt) (nI nr) mw ml mk dq))]) hD hS hA [0] rfl
    refine va_calli (va_runV (C := "DoorServerModel") (As := [.int 0]) (rest := []) ⟨hx, hb, hml, hown, hg⟩ (m_goes0 l dC dI cT s.heap.size mo r cd tm sn tx lz az na nt nr mw ml mk dq ) (cwV 1 hg (gI (List.forall_mem_append.mpr ⟨List.forall_mem_cons.mpr ⟨k_1165, List.forall_mem_cons.mpr ⟨k_1167, List.forall_mem_cons.mpr ⟨(big_sel (q := y_Md_goes) (n := 45) (by decide +kernel)), List.forall_mem_cons.mpr ⟨k_13, fun _ h => absurd h List.not_mem_nil⟩⟩⟩⟩, List.forall_mem_cons.mpr ⟨k_1168, fun _ h => h⟩⟩)) rfl rfl rfl (by decide +kernel) ⟨Nat.le_of_ble_eq_true rfl, Nat.le_of_ble_eq_true rfl⟩) ⟨fun a U g mk q => by obtain ⟨q0, q1, qP, qK, qD⟩ := q; exact ⟨q0, q1, qP, va_K.moved (u := U) (U := U.calling g mk a) (Vm.Alike.refl U.vm) qK, qD⟩, va_recv (q0 := 0) (ci := 12) hK hP rfl rfl, fun U hU hW => ⟨rfl, by rw [hU], by rw [hU]; exact hPc, va_K.moved hW.alike hK, hDc.weaken (fun _ _ _ _ => trivial)⟩⟩ rfl rfl hl.1 rfl (lv_room (Nat.le_of_ble_eq_true rfl)) d_Md_spoil_25 ⟨Nat.le_of_ble_eq_true rfl, Nat.le_of_ble_eq_true rfl⟩) hS (fun q _ h => hFc q h) hFc (fun rv9 u t H1 locs ht hvm hw hB hz1 hk1 hS => ?_)
    try dsimp only at hw hB
    obtain ⟨hP1, hK1, hD1⟩ := hB
    rw [ht] at hP1
    obtain ⟨rfl, hw⟩ := hw
    obtain ⟨hP, hD⟩ := va_join (wr := [(r 7, .inl ((cT 0), 1000, .inl f7))]) (w1 := [(mo, .inr (12, mdG r 1 tm (nI sn) (nI tx) (nI lz) (nI az) (nI na) (nI nt) (nI nr) mw ml mk dq))]) hP hD [0] [1] rfl rfl (by decide) (by decide) hk1 hFc hP1 hD1
    have hw260 := hw
    clear hPc hDc hFc hz1 hk1 hP1 hK1 hD1
    generalize H1 = H at hP hS ⊢
    have hP : va_P (dC, dI) vcl [(r 7, .inl ((cT 0), 1000, .inl f7)), (mo, .inr (12, mdG r 1 tm (nI sn) (nI tx) (nI lz) (nI az) (nI na) (nI nt) (nI nr) mw ml mk dq))] H := hP
    have hD : va_D A [(r 7, .inl ((cT 0), 1000, .inl f7)), (mo, .inr (12, mdG r 1 tm (nI sn) (nI tx) (nI lz) (nI az) (nI na) (nI nt) (nI nr) mw ml mk dq))] := hD
    refine lv_if_ne (tgt := 33) hx hb d_Md_spoil_28 (by decide) (fun hn9 => absurd hn9 (by decide)) (fun hc261 => ?_)
    refine lv_iconst (v := 0) hx hb d_Md_spoil_31 (by decide) ?_
    have hP9 := hP.sub (ws' := [(mo, .inr (12, mdG r 1 tm (nI sn) (nI tx) (nI lz) (nI az) (nI na) (nI nt) (nI nr) mw ml mk dq)), (r 7, .inl ((cT 0), 1000, .inl f7))]) [1, 0] rfl
    have hD9 := hD.sub (ws' := [(mo, .inr (12, mdG r 1 tm (nI sn) (nI tx) (nI lz) (nI az) (nI na) (nI nt) (nI nr) mw ml mk dq)), (r 7, .inl ((cT 0), 1000, .inl f7))]) [1, 0] (by decide) rfl
    exact W.iret (v := 0) hx hb hr (fun t ht hW => ⟨⟨_, ⟨f7, 1⟩, rfl, by first | assumption | omega, by rw [ht]; exact hP9, va_K.moved hW.alike hK, hD9⟩, hS.F ht⟩) hS.2.2 d_Md_spoil_32
  · skip
    refine lv_aload_n hx hb d_Md_spoil_0 rfl (lv_at hl 0 rfl) ?_
    refine lv_iload_n hx hb d_Md_spoil_1 rfl (lv_at hl 1 rfl) ?_
    refine lv_if_lt (tgt := 24) hx hb d_Md_spoil_2 (by decide) (fun hc262 => ?_) (fun hc262 => ?_)
    · skip
      refine lv_iconst (v := 0) hx hb d_Md_spoil_24 (by decide) ?_
      have hPc := hP.sub (ws' := [(mo, .inr (12, mdG r cd tm (nI sn) (nI tx) (nI lz) (nI az) (nI na) (nI nt) (nI nr) mw ml mk dq))]) [0] rfl
      have hDc := hD.sub (ws' := [(mo, .inr (12, mdG r cd tm (nI sn) (nI tx) (nI lz) (nI az) (nI na) (nI nt) (nI nr) mw ml mk dq))]) [0] (by decide) rfl
      have hFc := va_free (wc := [(mo, .inr (12, mdG r cd tm (nI sn) (nI tx) (nI lz) (nI az) (nI na) (nI nt) (nI nr) mw ml mk dq))]) hD hS hA [0] rfl
      refine va_calli (va_runV (C := "DoorServerModel") (As := [.int 0]) (rest := []) ⟨hx, hb, hml, hown, hg⟩ (m_goes0 l dC dI cT s.heap.size mo r cd tm sn tx lz az na nt nr mw ml mk dq ) (cwV 1 hg (gI (List.forall_mem_append.mpr ⟨List.forall_mem_cons.mpr ⟨k_1165, List.forall_mem_cons.mpr ⟨k_1167, List.forall_mem_cons.mpr ⟨(big_sel (q := y_Md_goes) (n := 45) (by decide +kernel)), List.forall_mem_cons.mpr ⟨k_13, fun _ h => absurd h List.not_mem_nil⟩⟩⟩⟩, List.forall_mem_cons.mpr ⟨k_1168, fun _ h => h⟩⟩)) rfl rfl rfl (by decide +kernel) ⟨Nat.le_of_ble_eq_true rfl, Nat.le_of_ble_eq_true rfl⟩) ⟨fun a U g mk q => by obtain ⟨q0, q1, qP, qK, qD⟩ := q; exact ⟨q0, q1, qP, va_K.moved (u := U) (U := U.calling g mk a) (Vm.Alike.refl U.vm) qK, qD⟩, va_recv (q0 := 0) (ci := 12) hK hP rfl rfl, fun U hU hW => ⟨rfl, by rw [hU], by rw [hU]; exact hPc, va_K.moved hW.alike hK, hDc.weaken (fun _ _ _ _ => trivial)⟩⟩ rfl rfl hl.1 rfl (lv_room (Nat.le_of_ble_eq_true rfl)) d_Md_spoil_25 ⟨Nat.le_of_ble_eq_true rfl, Nat.le_of_ble_eq_true rfl⟩) hS (fun q _ h => hFc q h) hFc (fun rv9 u t H1 locs ht hvm hw hB hz1 hk1 hS => ?_)
      try dsimp only at hw hB
      obtain ⟨hP1, hK1, hD1⟩ := hB
      rw [ht] at hP1
      obtain ⟨rfl, hw⟩ := hw
      obtain ⟨hP, hD⟩ := va_join (wr := [(r 7, .inl ((cT 0), 1000, .inl f7))]) (w1 := [(mo, .inr (12, mdG r 1 tm (nI sn) (nI tx) (nI lz) (nI az) (nI na) (nI nt) (nI nr) mw ml mk dq))]) hP hD [0] [1] rfl rfl (by decide) (by decide) hk1 hFc hP1 hD1
      have hw263 := hw
      clear hPc hDc hFc hz1 hk1 hP1 hK1 hD1
      generalize H1 = H at hP hS ⊢
      have hP : va_P (dC, dI) vcl [(r 7, .inl ((cT 0), 1000, .inl f7)), (mo, .inr (12, mdG r 1 tm (nI sn) (nI tx) (nI lz) (nI az) (nI na) (nI nt) (nI nr) mw ml mk dq))] H := hP
      have hD : va_D A [(r 7, .inl ((cT 0), 1000, .inl f7)), (mo, .inr (12, mdG r 1 tm (nI sn) (nI tx) (nI lz) (nI az) (nI na) (nI nt) (nI nr) mw ml mk dq))] := hD
      refine lv_if_ne (tgt := 33) hx hb d_Md_spoil_28 (by decide) (fun hn9 => absurd hn9 (by decide)) (fun hc264 => ?_)
      refine lv_iconst (v := 0) hx hb d_Md_spoil_31 (by decide) ?_
      have hP9 := hP.sub (ws' := [(mo, .inr (12, mdG r 1 tm (nI sn) (nI tx) (nI lz) (nI az) (nI na) (nI nt) (nI nr) mw ml mk dq)), (r 7, .inl ((cT 0), 1000, .inl f7))]) [1, 0] rfl
      have hD9 := hD.sub (ws' := [(mo, .inr (12, mdG r 1 tm (nI sn) (nI tx) (nI lz) (nI az) (nI na) (nI nt) (nI nr) mw ml mk dq)), (r 7, .inl ((cT 0), 1000, .inl f7))]) [1, 0] (by decide) rfl
      exact W.iret (v := 0) hx hb hr (fun t ht hW => ⟨⟨_, ⟨f7, 1⟩, rfl, by first | assumption | omega, by rw [ht]; exact hP9, va_K.moved hW.alike hK, hD9⟩, hS.F ht⟩) hS.2.2 d_Md_spoil_32
    · skip
      refine lv_iload_n hx hb d_Md_spoil_5 rfl (lv_at hl 1 rfl) ?_
      refine lv_aload_n hx hb d_Md_spoil_6 rfl (lv_at hl 0 rfl) ?_
      refine va_get (D := (dC, dI)) (ci := 12) (v := (.int (nI sn))) (C := R_Md) (T := F_Md) (N := 45) hx hb hg in_Md hown hK hP 0 rfl rfl 8 (by decide) (hg _ k_1028) (fun _ h9 => h9) rfl d_Md_spoil_7 ?_
      refine lv_icmp_ge (tgt := 24) hx hb d_Md_spoil_10 (by decide) (fun hc265 => ?_) (fun hn9 => absurd (h8x) hn9)
      refine lv_iconst (v := 0) hx hb d_Md_spoil_24 (by decide) ?_
      have hPc := hP.sub (ws' := [(mo, .inr (12, mdG r cd tm (nI sn) (nI tx) (nI lz) (nI az) (nI na) (nI nt) (nI nr) mw ml mk dq))]) [0] rfl
      have hDc := hD.sub (ws' := [(mo, .inr (12, mdG r cd tm (nI sn) (nI tx) (nI lz) (nI az) (nI na) (nI nt) (nI nr) mw ml mk dq))]) [0] (by decide) rfl
      have hFc := va_free (wc := [(mo, .inr (12, mdG r cd tm (nI sn) (nI tx) (nI lz) (nI az) (nI na) (nI nt) (nI nr) mw ml mk dq))]) hD hS hA [0] rfl
      refine va_calli (va_runV (C := "DoorServerModel") (As := [.int 0]) (rest := []) ⟨hx, hb, hml, hown, hg⟩ (m_goes0 l dC dI cT s.heap.size mo r cd tm sn tx lz az na nt nr mw ml mk dq ) (cwV 1 hg (gI (List.forall_mem_append.mpr ⟨List.forall_mem_cons.mpr ⟨k_1165, List.forall_mem_cons.mpr ⟨k_1167, List.forall_mem_cons.mpr ⟨(big_sel (q := y_Md_goes) (n := 45) (by decide +kernel)), List.forall_mem_cons.mpr ⟨k_13, fun _ h => absurd h List.not_mem_nil⟩⟩⟩⟩, List.forall_mem_cons.mpr ⟨k_1168, fun _ h => h⟩⟩)) rfl rfl rfl (by decide +kernel) ⟨Nat.le_of_ble_eq_true rfl, Nat.le_of_ble_eq_true rfl⟩) ⟨fun a U g mk q => by obtain ⟨q0, q1, qP, qK, qD⟩ := q; exact ⟨q0, q1, qP, va_K.moved (u := U) (U := U.calling g mk a) (Vm.Alike.refl U.vm) qK, qD⟩, va_recv (q0 := 0) (ci := 12) hK hP rfl rfl, fun U hU hW => ⟨rfl, by rw [hU], by rw [hU]; exact hPc, va_K.moved hW.alike hK, hDc.weaken (fun _ _ _ _ => trivial)⟩⟩ rfl rfl hl.1 rfl (lv_room (Nat.le_of_ble_eq_true rfl)) d_Md_spoil_25 ⟨Nat.le_of_ble_eq_true rfl, Nat.le_of_ble_eq_true rfl⟩) hS (fun q _ h => hFc q h) hFc (fun rv9 u t H1 locs ht hvm hw hB hz1 hk1 hS => ?_)
      try dsimp only at hw hB
      obtain ⟨hP1, hK1, hD1⟩ := hB
      rw [ht] at hP1
      obtain ⟨rfl, hw⟩ := hw
      obtain ⟨hP, hD⟩ := va_join (wr := [(r 7, .inl ((cT 0), 1000, .inl f7))]) (w1 := [(mo, .inr (12, mdG r 1 tm (nI sn) (nI tx) (nI lz) (nI az) (nI na) (nI nt) (nI nr) mw ml mk dq))]) hP hD [0] [1] rfl rfl (by decide) (by decide) hk1 hFc hP1 hD1
      have hw266 := hw
      clear hPc hDc hFc hz1 hk1 hP1 hK1 hD1
      generalize H1 = H at hP hS ⊢
      have hP : va_P (dC, dI) vcl [(r 7, .inl ((cT 0), 1000, .inl f7)), (mo, .inr (12, mdG r 1 tm (nI sn) (nI tx) (nI lz) (nI az) (nI na) (nI nt) (nI nr) mw ml mk dq))] H := hP
      have hD : va_D A [(r 7, .inl ((cT 0), 1000, .inl f7)), (mo, .inr (12, mdG r 1 tm (nI sn) (nI tx) (nI lz) (nI az) (nI na) (nI nt) (nI nr) mw ml mk dq))] := hD
      refine lv_if_ne (tgt := 33) hx hb d_Md_spoil_28 (by decide) (fun hn9 => absurd hn9 (by decide)) (fun hc267 => ?_)
      refine lv_iconst (v := 0) hx hb d_Md_spoil_31 (by decide) ?_
      have hP9 := hP.sub (ws' := [(mo, .inr (12, mdG r 1 tm (nI sn) (nI tx) (nI lz) (nI az) (nI na) (nI nt) (nI nr) mw ml mk dq)), (r 7, .inl ((cT 0), 1000, .inl f7))]) [1, 0] rfl
      have hD9 := hD.sub (ws' := [(mo, .inr (12, mdG r 1 tm (nI sn) (nI tx) (nI lz) (nI az) (nI na) (nI nt) (nI nr) mw ml mk dq)), (r 7, .inl ((cT 0), 1000, .inl f7))]) [1, 0] (by decide) rfl
      exact W.iret (v := 0) hx hb hr (fun t ht hW => ⟨⟨_, ⟨f7, 1⟩, rfl, by first | assumption | omega, by rw [ht]; exact hP9, va_K.moved hW.alike hK, hD9⟩, hS.F ht⟩) hS.2.2 d_Md_spoil_32
  · skip
    refine lv_aload_n hx hb d_Md_spoil_0 rfl (lv_at hl 0 rfl) ?_
    refine lv_iload_n hx hb d_Md_spoil_1 rfl (lv_at hl 1 rfl) ?_
    refine lv_if_lt (tgt := 24) hx hb d_Md_spoil_2 (by decide) (fun hn9 => absurd hn9 (nI_pos (by omega))) (fun hc268 => ?_)
    refine lv_iload_n hx hb d_Md_spoil_5 rfl (lv_at hl 1 rfl) ?_
    refine lv_aload_n hx hb d_Md_spoil_6 rfl (lv_at hl 0 rfl) ?_
    refine va_get (D := (dC, dI)) (ci := 12) (v := (.int (nI sn))) (C := R_Md) (T := F_Md) (N := 45) hx hb hg in_Md hown hK hP 0 rfl rfl 8 (by decide) (hg _ k_1028) (fun _ h9 => h9) rfl d_Md_spoil_7 ?_
    refine lv_icmp_ge (tgt := 24) hx hb d_Md_spoil_10 (by decide) (fun hc269 => ?_) (fun hc269 => ?_)
    · skip
      have n270 : sn ≤ xn := (nI_leI (a := sn) (b := xn) (by omega) (by omega)).mp hc269
      refine lv_iconst (v := 0) hx hb d_Md_spoil_24 (by decide) ?_
      have hPc := hP.sub (ws' := [(mo, .inr (12, mdG r cd tm (nI sn) (nI tx) (nI lz) (nI az) (nI na) (nI nt) (nI nr) mw ml mk dq))]) [0] rfl
      have hDc := hD.sub (ws' := [(mo, .inr (12, mdG r cd tm (nI sn) (nI tx) (nI lz) (nI az) (nI na) (nI nt) (nI nr) mw ml mk dq))]) [0] (by decide) rfl
      have hFc := va_free (wc := [(mo, .inr (12, mdG r cd tm (nI sn) (nI tx) (nI lz) (nI az) (nI na) (nI nt) (nI nr) mw ml mk dq))]) hD hS hA [0] rfl
      refine va_calli (va_runV (C := "DoorServerModel") (As := [.int 0]) (rest := []) ⟨hx, hb, hml, hown, hg⟩ (m_goes0 l dC dI cT s.heap.size mo r cd tm sn tx lz az na nt nr mw ml mk dq ) (cwV 1 hg (gI (List.forall_mem_append.mpr ⟨List.forall_mem_cons.mpr ⟨k_1165, List.forall_mem_cons.mpr ⟨k_1167, List.forall_mem_cons.mpr ⟨(big_sel (q := y_Md_goes) (n := 45) (by decide +kernel)), List.forall_mem_cons.mpr ⟨k_13, fun _ h => absurd h List.not_mem_nil⟩⟩⟩⟩, List.forall_mem_cons.mpr ⟨k_1168, fun _ h => h⟩⟩)) rfl rfl rfl (by decide +kernel) ⟨Nat.le_of_ble_eq_true rfl, Nat.le_of_ble_eq_true rfl⟩) ⟨fun a U g mk q => by obtain ⟨q0, q1, qP, qK, qD⟩ := q; exact ⟨q0, q1, qP, va_K.moved (u := U) (U := U.calling g mk a) (Vm.Alike.refl U.vm) qK, qD⟩, va_recv (q0 := 0) (ci := 12) hK hP rfl rfl, fun U hU hW => ⟨rfl, by rw [hU], by rw [hU]; exact hPc, va_K.moved hW.alike hK, hDc.weaken (fun _ _ _ _ => trivial)⟩⟩ rfl rfl hl.1 rfl (lv_room (Nat.le_of_ble_eq_true rfl)) d_Md_spoil_25 ⟨Nat.le_of_ble_eq_true rfl, Nat.le_of_ble_eq_true rfl⟩) hS (fun q _ h => hFc q h) hFc (fun rv9 u t H1 locs ht hvm hw hB hz1 hk1 hS => ?_)
      try dsimp only at hw hB
      obtain ⟨hP1, hK1, hD1⟩ := hB
      rw [ht] at hP1
      obtain ⟨rfl, hw⟩ := hw
      obtain ⟨hP, hD⟩ := va_join (wr := [(r 7, .inl ((cT 0), 1000, .inl f7))]) (w1 := [(mo, .inr (12, mdG r 1 tm (nI sn) (nI tx) (nI lz) (nI az) (nI na) (nI nt) (nI nr) mw ml mk dq))]) hP hD [0] [1] rfl rfl (by decide) (by decide) hk1 hFc hP1 hD1
      have hw272 := hw
      clear hPc hDc hFc hz1 hk1 hP1 hK1 hD1
      generalize H1 = H at hP hS ⊢
      have hP : va_P (dC, dI) vcl [(r 7, .inl ((cT 0), 1000, .inl f7)), (mo, .inr (12, mdG r 1 tm (nI sn) (nI tx) (nI lz) (nI az) (nI na) (nI nt) (nI nr) mw ml mk dq))] H := hP
      have hD : va_D A [(r 7, .inl ((cT 0), 1000, .inl f7)), (mo, .inr (12, mdG r 1 tm (nI sn) (nI tx) (nI lz) (nI az) (nI na) (nI nt) (nI nr) mw ml mk dq))] := hD
      refine lv_if_ne (tgt := 33) hx hb d_Md_spoil_28 (by decide) (fun hn9 => absurd hn9 (by decide)) (fun hc273 => ?_)
      refine lv_iconst (v := 0) hx hb d_Md_spoil_31 (by decide) ?_
      have hP9 := hP.sub (ws' := [(mo, .inr (12, mdG r 1 tm (nI sn) (nI tx) (nI lz) (nI az) (nI na) (nI nt) (nI nr) mw ml mk dq)), (r 7, .inl ((cT 0), 1000, .inl f7))]) [1, 0] rfl
      have hD9 := hD.sub (ws' := [(mo, .inr (12, mdG r 1 tm (nI sn) (nI tx) (nI lz) (nI az) (nI na) (nI nt) (nI nr) mw ml mk dq)), (r 7, .inl ((cT 0), 1000, .inl f7))]) [1, 0] (by decide) rfl
      exact W.iret (v := 0) hx hb hr (fun t ht hW => ⟨⟨_, ⟨f7, 1⟩, rfl, by first | assumption | omega, by rw [ht]; exact hP9, va_K.moved hW.alike hK, hD9⟩, hS.F ht⟩) hS.2.2 d_Md_spoil_32
    · skip
      have n271 : xn < sn := Nat.not_le.mp (fun h7 => hc269 ((nI_leI (a := sn) (b := xn) (by omega) (by omega)).mpr h7))
      refine lv_iload_n hx hb d_Md_spoil_13 rfl (lv_at hl 2 rfl) ?_
      have hPc := hP.sub (ws' := []) [] rfl
      have hDc := hD.sub (ws' := []) [] (by decide) rfl
      have hFc := va_free (wc := []) hD hS hA [] rfl
      refine va_calli (va_runS (As := [.int y]) (rest := [.ref mo]) ⟨hx, hb, hml, hown, hg⟩ (m_byteU l dC dI cT s.heap.size y ) (va_cwS 1 hg (gI (List.forall_mem_append.mpr ⟨List.forall_mem_cons.mpr ⟨k_1181, List.forall_mem_cons.mpr ⟨k_1182, List.forall_mem_cons.mpr ⟨k_13, fun _ h => absurd h List.not_mem_nil⟩⟩⟩, List.forall_mem_cons.mpr ⟨k_1183, fun _ h => h⟩⟩)) rfl rfl rfl (by decide +kernel) ⟨Nat.le_of_ble_eq_true rfl, Nat.le_of_ble_eq_true rfl⟩) ⟨fun a U g mk q => by obtain ⟨q0, q1, qP, qK, qD⟩ := q; exact ⟨q0, q1, qP, va_K.moved (u := U) (U := U.calling g mk a) (Vm.Alike.refl U.vm) qK, qD⟩, fun U hU hW => ⟨rfl, by rw [hU], by rw [hU]; exact hPc, va_K.moved hW.alike hK, hDc.weaken (fun _ _ _ _ => trivial)⟩⟩ rfl rfl hl.1 rfl (lv_room (Nat.le_of_ble_eq_true rfl)) d_Md_spoil_14 ⟨Nat.le_of_ble_eq_true rfl, Nat.le_of_ble_eq_true rfl⟩) hS (fun q _ h => hFc q h) hFc (fun rv9 u t H1 locs ht hvm hw hB hz1 hk1 hS => ?_)
      try dsimp only at hw hB
      obtain ⟨hP1, hK1, hD1⟩ := hB
      rw [ht] at hP1
      generalize rv9 = r274 at hw ⊢
      obtain ⟨hP, hD⟩ := va_join (wr := [(mo, .inr (12, mdG r cd tm (nI sn) (nI tx) (nI lz) (nI az) (nI na) (nI nt) (nI nr) mw ml mk dq)), (r 7, .inl ((cT 0), 1000, .inl f7))]) (w1 := []) hP hD [] [0, 1] rfl rfl (by decide) (by decide) hk1 hFc hP1 hD1
      have hw275 := hw
      clear hPc hDc hFc hz1 hk1 hP1 hK1 hD1
      generalize H1 = H at hP hS ⊢
      have hP : va_P (dC, dI) vcl [(mo, .inr (12, mdG r cd tm (nI sn) (nI tx) (nI lz) (nI az) (nI na) (nI nt) (nI nr) mw ml mk dq)), (r 7, .inl ((cT 0), 1000, .inl f7))] H := hP
      have hD : va_D A [(mo, .inr (12, mdG r cd tm (nI sn) (nI tx) (nI lz) (nI az) (nI na) (nI nt) (nI nr) mw ml mk dq)), (r 7, .inl ((cT 0), 1000, .inl f7))] := hD
      obtain ⟨h8b, h8y⟩ := hw275
      rcases h8b with h8z | h8z
      · skip
        refine lv_topi (fun x277 e276 => ?_)
        obtain rfl : x277 = 0 := by rw [e276]; exact h8z
        refine lv_if_eq (tgt := 24) hx hb d_Md_spoil_17 (by decide) (fun hc278 => ?_) (fun hn9 => absurd (by decide) hn9)
        refine lv_iconst (v := 0) hx hb d_Md_spoil_24 (by decide) ?_
        have hPc := hP.sub (ws' := [(mo, .inr (12, mdG r cd tm (nI sn) (nI tx) (nI lz) (nI az) (nI na) (nI nt) (nI nr) mw ml mk dq))]) [0] rfl
        have hDc := hD.sub (ws' := [(mo, .inr (12, mdG r cd tm (nI sn) (nI tx) (nI lz) (nI az) (nI na) (nI nt) (nI nr) mw ml mk dq))]) [0] (by decide) rfl
        have hFc := va_free (wc := [(mo, .inr (12, mdG r cd tm (nI sn) (nI tx) (nI lz) (nI az) (nI na) (nI nt) (nI nr) mw ml mk dq))]) hD hS hA [0] rfl
        refine va_calli (va_runV (C := "DoorServerModel") (As := [.int 0]) (rest := []) ⟨hx, hb, hml, hown, hg⟩ (m_goes0 l dC dI cT H.size mo r cd tm sn tx lz az na nt nr mw ml mk dq ) (cwV 1 hg (gI (List.forall_mem_append.mpr ⟨List.forall_mem_cons.mpr ⟨k_1165, List.forall_mem_cons.mpr ⟨k_1167, List.forall_mem_cons.mpr ⟨(big_sel (q := y_Md_goes) (n := 45) (by decide +kernel)), List.forall_mem_cons.mpr ⟨k_13, fun _ h => absurd h List.not_mem_nil⟩⟩⟩⟩, List.forall_mem_cons.mpr ⟨k_1168, fun _ h => h⟩⟩)) rfl rfl rfl (by decide +kernel) ⟨Nat.le_of_ble_eq_true rfl, Nat.le_of_ble_eq_true rfl⟩) ⟨fun a U g mk q => by obtain ⟨q0, q1, qP, qK, qD⟩ := q; exact ⟨q0, q1, qP, va_K.moved (u := U) (U := U.calling g mk a) (Vm.Alike.refl U.vm) qK, qD⟩, va_recv (q0 := 0) (ci := 12) hK hP rfl rfl, fun U hU hW => ⟨rfl, by rw [hU], by rw [hU]; exact hPc, va_K.moved hW.alike hK, hDc.weaken (fun _ _ _ _ => trivial)⟩⟩ rfl rfl hl.1 rfl (lv_room (Nat.le_of_ble_eq_true rfl)) d_Md_spoil_25 ⟨Nat.le_of_ble_eq_true rfl, Nat.le_of_ble_eq_true rfl⟩) hS (fun q _ h => hFc q h) hFc (fun rv9 u t H1 locs ht hvm hw hB hz1 hk1 hS => ?_)
        try dsimp only at hw hB
        obtain ⟨hP1, hK1, hD1⟩ := hB
        rw [ht] at hP1
        obtain ⟨rfl, hw⟩ := hw
        obtain ⟨hP, hD⟩ := va_join (wr := [(r 7, .inl ((cT 0), 1000, .inl f7))]) (w1 := [(mo, .inr (12, mdG r 1 tm (nI sn) (nI tx) (nI lz) (nI az) (nI na) (nI nt) (nI nr) mw ml mk dq))]) hP hD [0] [1] rfl rfl (by decide) (by decide) hk1 hFc hP1 hD1
        have hw279 := hw
        clear hPc hDc hFc hz1 hk1 hP1 hK1 hD1
        generalize H1 = H at hP hS ⊢
        have hP : va_P (dC, dI) vcl [(r 7, .inl ((cT 0), 1000, .inl f7)), (mo, .inr (12, mdG r 1 tm (nI sn) (nI tx) (nI lz) (nI az) (nI na) (nI nt) (nI nr) mw ml mk dq))] H := hP
        have hD : va_D A [(r 7, .inl ((cT 0), 1000, .inl f7)), (mo, .inr (12, mdG r 1 tm (nI sn) (nI tx) (nI lz) (nI az) (nI na) (nI nt) (nI nr) mw ml mk dq))] := hD
        refine lv_if_ne (tgt := 33) hx hb d_Md_spoil_28 (by decide) (fun hn9 => absurd hn9 (by decide)) (fun hc280 => ?_)
        refine lv_iconst (v := 0) hx hb d_Md_spoil_31 (by decide) ?_
        have hP9 := hP.sub (ws' := [(mo, .inr (12, mdG r 1 tm (nI sn) (nI tx) (nI lz) (nI az) (nI na) (nI nt) (nI nr) mw ml mk dq)), (r 7, .inl ((cT 0), 1000, .inl f7))]) [1, 0] rfl
        have hD9 := hD.sub (ws' := [(mo, .inr (12, mdG r 1 tm (nI sn) (nI tx) (nI lz) (nI az) (nI na) (nI nt) (nI nr) mw ml mk dq)), (r 7, .inl ((cT 0), 1000, .inl f7))]) [1, 0] (by decide) rfl
        exact W.iret (v := 0) hx hb hr (fun t ht hW => ⟨⟨_, ⟨f7, 1⟩, rfl, by first | assumption | omega, by rw [ht]; exact hP9, va_K.moved hW.alike hK, hD9⟩, hS.F ht⟩) hS.2.2 d_Md_spoil_32
      · skip
        have hby := h8y h8z
        refine lv_topi (fun x282 e281 => ?_)
        obtain rfl : x282 = 1 := by rw [e281]; exact h8z
        refine lv_if_eq (tgt := 24) hx hb d_Md_spoil_17 (by decide) (fun hn9 => absurd hn9 (by decide)) (fun hc283 => ?_)
        refine lv_iconst (v := 1) hx hb d_Md_spoil_20 (by decide) ?_
        refine lv_goto (tgt := 25) hx hb d_Md_spoil_21 (by decide) ?_
        have hPc := hP.sub (ws' := [(mo, .inr (12, mdG r cd tm (nI sn) (nI tx) (nI lz) (nI az) (nI na) (nI nt) (nI nr) mw ml mk dq))]) [0] rfl
        have hDc := hD.sub (ws' := [(mo, .inr (12, mdG r cd tm (nI sn) (nI tx) (nI lz) (nI az) (nI na) (nI nt) (nI nr) mw ml mk dq))]) [0] (by decide) rfl
        have hFc := va_free (wc := [(mo, .inr (12, mdG r cd tm (nI sn) (nI tx) (nI lz) (nI az) (nI na) (nI nt) (nI nr) mw ml mk dq))]) hD hS hA [0] rfl
        refine va_calli (va_runV (C := "DoorServerModel") (As := [.int 1]) (rest := []) ⟨hx, hb, hml, hown, hg⟩ (m_goes1 l dC dI cT H.size mo r cd tm sn tx lz az na nt nr mw ml mk dq ) (cwV 1 hg (gI (List.forall_mem_append.mpr ⟨List.forall_mem_cons.mpr ⟨k_1165, List.forall_mem_cons.mpr ⟨k_1167, List.forall_mem_cons.mpr ⟨(big_sel (q := y_Md_goes) (n := 45) (by decide +kernel)), List.forall_mem_cons.mpr ⟨k_13, fun _ h => absurd h List.not_mem_nil⟩⟩⟩⟩, List.forall_mem_cons.mpr ⟨k_1168, fun _ h => h⟩⟩)) rfl rfl rfl (by decide +kernel) ⟨Nat.le_of_ble_eq_true rfl, Nat.le_of_ble_eq_true rfl⟩) ⟨fun a U g mk q => by obtain ⟨q0, q1, qP, qK, qD⟩ := q; exact ⟨q0, q1, qP, va_K.moved (u := U) (U := U.calling g mk a) (Vm.Alike.refl U.vm) qK, qD⟩, va_recv (q0 := 0) (ci := 12) hK hP rfl rfl, fun U hU hW => ⟨rfl, by rw [hU], by rw [hU]; exact hPc, va_K.moved hW.alike hK, hDc.weaken (fun _ _ _ _ => trivial)⟩⟩ rfl rfl hl.1 rfl (lv_room (Nat.le_of_ble_eq_true rfl)) d_Md_spoil_25 ⟨Nat.le_of_ble_eq_true rfl, Nat.le_of_ble_eq_true rfl⟩) hS (fun q _ h => hFc q h) hFc (fun rv9 u t H1 locs ht hvm hw hB hz1 hk1 hS => ?_)
        try dsimp only at hw hB
        obtain ⟨hP1, hK1, hD1⟩ := hB
        rw [ht] at hP1
        obtain ⟨rfl, hw⟩ := hw
        obtain ⟨hP, hD⟩ := va_join (wr := [(r 7, .inl ((cT 0), 1000, .inl f7))]) (w1 := [(mo, .inr (12, mdG r 0 tm (nI sn) (nI tx) (nI lz) (nI az) (nI na) (nI nt) (nI nr) mw ml mk dq))]) hP hD [0] [1] rfl rfl (by decide) (by decide) hk1 hFc hP1 hD1
        have hw284 := hw
        clear hPc hDc hFc hz1 hk1 hP1 hK1 hD1
        generalize H1 = H at hP hS ⊢
        have hP : va_P (dC, dI) vcl [(r 7, .inl ((cT 0), 1000, .inl f7)), (mo, .inr (12, mdG r 0 tm (nI sn) (nI tx) (nI lz) (nI az) (nI na) (nI nt) (nI nr) mw ml mk dq))] H := hP
        have hD : va_D A [(r 7, .inl ((cT 0), 1000, .inl f7)), (mo, .inr (12, mdG r 0 tm (nI sn) (nI tx) (nI lz) (nI az) (nI na) (nI nt) (nI nr) mw ml mk dq))] := hD
        refine lv_if_ne (tgt := 33) hx hb d_Md_spoil_28 (by decide) (fun hc285 => ?_) (fun hn9 => absurd hn9 (by decide))
        refine lv_aload_n hx hb d_Md_spoil_33 rfl (lv_at hl 0 rfl) ?_
        refine va_get (D := (dC, dI)) (ci := 12) (v := (.ref (r 7))) (C := R_Md) (T := F_Md) (N := 45) hx hb hg in_Md hown hK hP 1 rfl rfl 7 (by decide) (hg _ k_1027) (fun _ h9 => h9) rfl d_Md_spoil_34 ?_
        refine lv_iload_n hx hb d_Md_spoil_37 rfl (lv_at hl 1 rfl) ?_
        refine lv_dup2_11 hx hb d_Md_spoil_38 rfl rfl ?_
        obtain ⟨t286, ht286, xt286⟩ := h7 xn
        refine va_iald hx hb hK hP 0 0 rfl rfl (i := (nI xn)) (vp_in_nI (N := 1000) (by omega) (by decide)) d_Md_spoil_39 ?_
        refine lv_topi (fun x288 e287 => ?_)
        obtain rfl : x288 = nI t286 := by rw [e287]; rw [nI_clamp (by omega)]; exact xt286
        refine lv_iload_n hx hb d_Md_spoil_40 rfl (lv_at hl 2 rfl) ?_
        refine lv_ixor hx hb d_Md_spoil_41 ?_
        refine va_iast hx hb hK hP hD hS 0 0 rfl rfl (i := (nI xn)) (vp_in_nI (n := xn) (N := 1000) (by omega) (by decide)) d_Md_spoil_42 (fun H locs hP hD hS => ?_)
        have ef289 : upd f7 (nI xn).toNatClampNeg ((nI t286) ^^^ y) = upd f7 xn ((nI t286) ^^^ y) := by rw [nI_clamp (by omega)]
        rw [ef289] at hP hD
        have hP : va_P (dC, dI) vcl [(r 7, .inl ((cT 0), 1000, .inl (upd f7 xn ((nI t286) ^^^ y)))), (mo, .inr (12, mdG r 0 tm (nI sn) (nI tx) (nI lz) (nI az) (nI na) (nI nt) (nI nr) mw ml mk dq))] H := hP
        have hD : va_D A [(r 7, .inl ((cT 0), 1000, .inl (upd f7 xn ((nI t286) ^^^ y)))), (mo, .inr (12, mdG r 0 tm (nI sn) (nI tx) (nI lz) (nI az) (nI na) (nI nt) (nI nr) mw ml mk dq))] := hD
        have hab9 : AB (upd f7 xn ((nI t286) ^^^ y)) := AB_upd h7 (BY_xor (BY_n (by omega)) hby)
        refine lv_aload_n hx hb d_Md_spoil_43 rfl (lv_at hl 0 rfl) ?_
        refine va_get (D := (dC, dI)) (ci := 12) (v := (.ref (r 7))) (C := R_Md) (T := F_Md) (N := 45) hx hb hg in_Md hown hK hP 1 rfl rfl 7 (by decide) (hg _ k_1027) (fun _ h9 => h9) rfl d_Md_spoil_44 ?_
        refine lv_iload_n hx hb d_Md_spoil_47 rfl (lv_at hl 1 rfl) ?_
        refine va_iald hx hb hK hP 0 0 rfl rfl (i := (nI xn)) (vp_in_nI (N := 1000) (by omega) (by decide)) d_Md_spoil_48 ?_
        refine lv_topi (fun x290 e_x290 => ?_)
        clear e_x290
        have hP9 := hP.sub (ws' := [(mo, .inr (12, mdG r 0 tm (nI sn) (nI tx) (nI lz) (nI az) (nI na) (nI nt) (nI nr) mw ml mk dq)), (r 7, .inl ((cT 0), 1000, .inl (upd f7 xn ((nI t286) ^^^ y))))]) [1, 0] rfl
        have hD9 := hD.sub (ws' := [(mo, .inr (12, mdG r 0 tm (nI sn) (nI tx) (nI lz) (nI az) (nI na) (nI nt) (nI nr) mw ml mk dq)), (r 7, .inl ((cT 0), 1000, .inl (upd f7 xn ((nI t286) ^^^ y))))]) [1, 0] (by decide) rfl
        exact W.iret (v := x290) hx hb hr (fun t ht hW => ⟨⟨_, ⟨upd f7 xn ((nI t286) ^^^ y), 0⟩, rfl, by first | assumption | omega, by rw [ht]; exact hP9, va_K.moved hW.alike hK, hD9⟩, hS.F ht⟩) hS.2.2 d_Md_spoil_49
